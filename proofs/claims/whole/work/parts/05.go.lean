/-! A judgement over a fixed world: 'Go o D wf pc lv st f': from pc, with the locals lv, the stack st and the cells wf f, the machine comes to what o asks. -/
abbrev Sg : Type := Nat → Nat → Int32
def rk (n : Nat) : Room := { frames := n, cells := 0, slots := 0, locals := 60 * n }
theorem nest_on {w : Cond} (hn : isNest w = true) : w.onTables = true := by
  cases w <;> first | rfl | (simp [isNest] at hn)
theorem nest_warm {w : Cond} (hn : isNest w = true) {s U : State} (hW : s.WarmedH U.vm) (h : va_Nw w s) : va_Nw w U := by
  cases w <;> first | exact va_Nw.warmF hW h | exact va_Nw.warmM hW h | exact va_Nw.warmD hW h | (simp [isNest] at hn)
def Nst (U : State) : Prop := ∀ w ∈ NW, va_Nw w U
theorem Nst.warm {s U : State} (h : Nst s) (hW : s.WarmedH U.vm) : Nst U := fun w hw => nest_warm (List.mem_filter.mp hw).2 hW (h w hw)
theorem Nst.same {u U : State} (h : Nst u) (e : u.vm = U.vm) : Nst U := fun w hw => va_Nw.same (nest_on (List.mem_filter.mp hw).2) e (h w hw)
def Fix (wf : Sg → va_W) : Prop := ∀ f g, (wf f).map Prod.fst = (wf g).map Prod.fst
theorem Fix.at {wf : Sg → va_W} (F : Fix wf) {f g : Sg} {k : Nat} {q : Nat × va_E} (h : (wf g)[k]? = some q) : ∃ e, (wf f)[k]? = some (q.1, e) := by
  have h1 : ((wf g).map Prod.fst)[k]? = some q.1 := by rw [List.getElem?_map, h]; rfl
  rw [F g f, List.getElem?_map] at h1
  cases hz : (wf f)[k]? with
  | none => rw [hz] at h1; cases h1
  | some z =>
    rw [hz] at h1
    have h2 : z.1 = q.1 := Option.some.inj h1
    exact ⟨z.2, by rw [← h2]⟩
theorem Fix.D {wf : Sg → va_W} (F : Fix wf) {A : Nat → Prop} {f : Sg} (h : va_D A (wf f)) (g : Sg) : va_D A (wf g) := by
  refine ⟨fun i j p q hi hj hpq => ?_, fun k q hk => ?_⟩
  · obtain ⟨e1, h1⟩ := F.at (f := f) hi
    obtain ⟨e2, h2⟩ := F.at (f := f) hj
    exact h.1 i j _ _ h1 h2 hpq
  · obtain ⟨e1, h1⟩ := F.at (f := f) hk
    exact h.2 k (q.1, e1) h1
theorem Fix.A {wf : Sg → va_W} (F : Fix wf) {f g : Sg} {sz q : Nat} (h : va_A (wf g) sz q) : va_A (wf f) sz q := by
  rcases h with ⟨k, e, h⟩ | h
  · obtain ⟨e1, h1⟩ := F.at (f := f) h
    exact Or.inl ⟨k, e1, h1⟩
  · exact Or.inr h
def Inw (D : va_G) (tys : List (ClassId × FieldType)) (wf : Sg → va_W) (f : Sg) (sz : Nat) (U : State) : Prop := U.heap.size = sz ∧ va_P D vwCl (wf f) U.heap ∧ va_K D vwCl tys U ∧ va_D (fun _ => True) (wf f) ∧ Nst U
def Outw (D : va_G) (wf : Sg → va_W) (g : Sg) (t : State) : Prop := va_P D vwCl (wf g) t.heap
theorem Inw.blind {D : va_G} {tys : List (ClassId × FieldType)} {wf : Sg → va_W} {f : Sg} {sz : Nat} {As : List Value} : FrameBlind (va_Pc As (Inw D tys wf f sz)) := by
  intro a U g mk q
  obtain ⟨q0, q1, q2, q3, q4, q5⟩ := q
  exact ⟨q0, q1, q2, va_K.moved (u := U) (U := U.calling g mk a) (Vm.Alike.refl U.vm) q3, q4, q5.same rfl⟩
/-- a method's contract: with the cells wf f it returns an int r with cells wf g, Q r g -/
abbrev MI (l : Launch) (D : va_G) (tys : List (ClassId × FieldType)) (wf : Sg → va_W) (y : MethodName) (cc : ByteArray) (mL : Nat) (rt : Option FieldType) (k : Nat) (As : List Value) (f : Sg) (Q : Int32 → Sg → Prop) : Prop :=
  ∀ sz : Nat, Met l y (.code y cc mL rt :: TB) (rk k) (va_Pc As (Inw D tys wf f sz)) (va_Qi Q (Outw D wf) (va_A (wf f) sz)) 0 0 (va_A (wf f) sz)
abbrev MV (l : Launch) (D : va_G) (tys : List (ClassId × FieldType)) (wf : Sg → va_W) (y : MethodName) (cc : ByteArray) (mL : Nat) (k : Nat) (As : List Value) (f : Sg) (Q : Sg → Prop) : Prop :=
  ∀ sz : Nat, Met l y (.code y cc mL none :: TB) (rk k) (va_Pc As (Inw D tys wf f sz)) (va_Qv Q (Outw D wf) (va_A (wf f) sz)) 0 0 (va_A (wf f) sz)
abbrev Om : Type := Program × Launch × Env × Room × State × MethodId × Array Value × List Frame × Method × Code × (Nat → Prop) × (State → Prop) × Nat
def Go (o : Om) (D : va_G) (wf : Sg → va_W) (pc : Nat) (lv : List (Nat × Value)) (st : List Value) (f : Sg) : Prop := match o with
  | (p, l, e, R, s, m, args, below, meth, c, A, Q, nL) => ∀ (H : Heap) (locs : List Loc) (ls : Array Slot), va_P D vwCl (wf f) H → va_S A s.heap H locs → lv_has ls nL lv → W p l e R s m args below meth c H locs 0 0 Q (F0 m pc ls st)
def Cx (o : Om) (D : va_G) (tys : List (ClassId × FieldType)) (wf : Sg → va_W) (own : String) (cc : ByteArray) (rt : Option FieldType) (k nK : Nat) : Prop := match o with
  | (p, _, _, R, s, m, args, _, meth, c, A, _, nL) => p.tables.exec = Jvm.exec ∧ c.code = cc ∧ c.maxLocals = nL ∧ nL = nK ∧ s.vm.findClass own = some m.cls ∧ (∀ w ∈ TB, w.before args s = true) ∧ meth.sig.returnType = rt ∧ meth.locks = false ∧ va_K D vwCl tys s ∧ (∀ g, va_D A (wf g)) ∧ (∀ q, s.heap.size ≤ q → A q) ∧ Nst s ∧ R = rk k
def RetI (o : Om) (D : va_G) (wf : Sg → va_W) (Qf : Int32 → Sg → Prop) : Prop := match o with
  | (_, _, _, _, s, _, args, below, _, _, A, Q, _) => Q = MQ below (va_Qi Qf (Outw D wf) A) args s 0 0 A
def RetV (o : Om) (D : va_G) (wf : Sg → va_W) (Qf : Sg → Prop) : Prop := match o with
  | (_, _, _, _, s, _, args, below, _, _, A, Q, _) => Q = MQ below (va_Qv Qf (Outw D wf) A) args s 0 0 A
theorem mkI {l : Launch} {D : va_G} {tys : List (ClassId × FieldType)} {wf : Sg → va_W} {y : MethodName} {cc : ByteArray} {mL : Nat} {rt : Option FieldType} {k : Nat} {As : List Value} {f : Sg} {Qf : Int32 → Sg → Prop} (F : Fix wf) (hy : plainName y.cls = true) (hmL : (lg_sl As).length ≤ mL)
    (body : ∀ o : Om, Cx o D tys wf y.cls cc rt k mL → RetI o D wf Qf → Go o D wf 0 (lv_args 0 As) [] f) : MI l D tys wf y cc mL rt k As f Qf := by
  intro sz
  refine Met.ofW (cc := cc) (maxL := mL) (ret := rt) hy rfl ?_
  intro p e s m args below meth c s₁ B hml hv
  obtain ⟨rfl, hsz, hP, hK, hD0, hN⟩ := hv
  subst hsz
  have hD := F.D (hD0.self (sz := s.heap.size))
  have hts := atoms_spec (ws := .code y cc mL rt :: TB) B.pre
  have hl := lv_entry As (n := mL) hmL
  rw [lg_entry_eq]
  exact body (p, l, e, rk k, s, m, As.toArray, below, meth, c, va_A (wf f) s.heap.size, MQ below (va_Qi Qf (Outw D wf) (va_A (wf f) s.heap.size)) As.toArray s 0 0 (va_A (wf f) s.heap.size), mL)
    ⟨B.exec, B.bytes, hml, rfl, findClass_of_methodNamed B.named, fun w hw => hts w (List.mem_cons_of_mem _ hw), B.returns, B.notSynchronized, hK, hD, fun q h => Or.inr h, hN, rfl⟩ rfl s.heap [] _ hP va_S.rf hl
theorem mkV {l : Launch} {D : va_G} {tys : List (ClassId × FieldType)} {wf : Sg → va_W} {y : MethodName} {cc : ByteArray} {mL : Nat} {k : Nat} {As : List Value} {f : Sg} {Qf : Sg → Prop} (F : Fix wf) (hy : plainName y.cls = true) (hmL : (lg_sl As).length ≤ mL)
    (body : ∀ o : Om, Cx o D tys wf y.cls cc none k mL → RetV o D wf Qf → Go o D wf 0 (lv_args 0 As) [] f) : MV l D tys wf y cc mL k As f Qf := by
  intro sz
  refine Met.ofW (cc := cc) (maxL := mL) (ret := none) hy rfl ?_
  intro p e s m args below meth c s₁ B hml hv
  obtain ⟨rfl, hsz, hP, hK, hD0, hN⟩ := hv
  subst hsz
  have hD := F.D (hD0.self (sz := s.heap.size))
  have hts := atoms_spec (ws := .code y cc mL none :: TB) B.pre
  have hl := lv_entry As (n := mL) hmL
  rw [lg_entry_eq]
  exact body (p, l, e, rk k, s, m, As.toArray, below, meth, c, va_A (wf f) s.heap.size, MQ below (va_Qv Qf (Outw D wf) (va_A (wf f) s.heap.size)) As.toArray s 0 0 (va_A (wf f) s.heap.size), mL)
    ⟨B.exec, B.bytes, hml, rfl, findClass_of_methodNamed B.named, fun w hw => hts w (List.mem_cons_of_mem _ hw), B.returns, B.notSynchronized, hK, hD, fun q h => Or.inr h, hN, rfl⟩ rfl s.heap [] _ hP va_S.rf hl
section GO
variable {o : Om} {D : va_G} {tys : List (ClassId × FieldType)} {wf : Sg → va_W} {own : String} {cc : ByteArray} {rt : Option FieldType} {k nK : Nat} {pc : Nat} {lv : List (Nat × Value)} {st : List Value} {f : Sg}
theorem g_iret {Qf : Int32 → Sg → Prop} {x : Int32} (C : Cx o D tys wf own cc (some .int) k nK) (hQ : RetI o D wf Qf) (d : decode cc pc = .ok (.ireturn, 1)) (h : Qf x f) : Go o D wf pc lv [.int x] f := by
  obtain ⟨p, l, e, R, s, m, args, below, meth, c, A, Q, nL⟩ := o
  obtain ⟨hx, hb, hml, hn, hown, hts, hr, hlocks, hK, hD, hA, hN, rfl⟩ := C
  have hQ : Q = MQ below (va_Qi Qf (Outw D wf) A) args s 0 0 A := hQ
  subst hQ
  intro H locs ls hP hS hl
  exact W.iret (v := x) hx hb hr (fun t ht hW => ⟨⟨x, f, rfl, h, by unfold Outw; rw [ht]; exact hP⟩, hS.F ht⟩) hS.2.2 d hlocks
theorem g_zret {Qf : Int32 → Sg → Prop} {x : Int32} {ty : FieldType} (C : Cx o D tys wf own cc (some ty) k nK) (hQ : RetI o D wf Qf) (hn : narrow ty (.int x) = .int x) (d : decode cc pc = .ok (.ireturn, 1)) (h : Qf x f) : Go o D wf pc lv [.int x] f := by
  obtain ⟨p, l, e, R, s, m, args, below, meth, c, A, Q, nL⟩ := o
  obtain ⟨hx, hb, hml, hn', hown, hts, hr, hlocks, hK, hD, hA, hN, rfl⟩ := C
  have hQ : Q = MQ below (va_Qi Qf (Outw D wf) A) args s 0 0 A := hQ
  subst hQ
  intro H locs ls hP hS hl
  exact W.zret (v := x) hx hb hr hn (fun t ht hW => ⟨⟨x, f, rfl, h, by unfold Outw; rw [ht]; exact hP⟩, hS.F ht⟩) hS.2.2 d hlocks
theorem g_vret {Qf : Sg → Prop} (C : Cx o D tys wf own cc none k nK) (hQ : RetV o D wf Qf) (d : decode cc pc = .ok (.return_, 1)) (h : Qf f) : Go o D wf pc lv [] f := by
  obtain ⟨p, l, e, R, s, m, args, below, meth, c, A, Q, nL⟩ := o
  obtain ⟨hx, hb, hml, hn, hown, hts, hr, hlocks, hK, hD, hA, hN, rfl⟩ := C
  have hQ : Q = MQ below (va_Qv Qf (Outw D wf) A) args s 0 0 A := hQ
  subst hQ
  intro H locs ls hP hS hl
  exact W.vret hx hb hr (fun t ht hW => ⟨⟨f, rfl, h, by unfold Outw; rw [ht]; exact hP⟩, hS.F ht⟩) hS.2.2 d hlocks
/-- fewer locals, another order -/
theorem g_sub {lv' : List (Nat × Value)} (ks : List Nat) (hl : lv_pick lv ks = lv') (K : Go o D wf pc lv' st f) : Go o D wf pc lv st f := by
  obtain ⟨p, l, e, R, s, m, args, below, meth, c, A, Q, nL⟩ := o
  intro H locs ls hP hS hl0
  exact K H locs ls hP hS (lv_sub hl0 ks hl)
theorem g_top {x : Int32} (K : ∀ y : Int32, y = x → Go o D wf pc lv (.int y :: st) f) : Go o D wf pc lv (.int x :: st) f := K x rfl
theorem g_iconst (C : Cx o D tys wf own cc rt k nK) {n : Int} (v : Int32) (d : decode cc pc = .ok (.iconst n, 1)) (hv : Int32.ofInt n = v) (K : Go o D wf (pc + 1) lv (.int v :: st) f) : Go o D wf pc lv st f := by
  obtain ⟨p, l, e, R, s, m, args, below, meth, c, A, Q, nL⟩ := o
  intro H locs ls hP hS hl
  exact lv_iconst C.1 C.2.1 d hv (K H locs ls hP hS hl)
theorem g_bipush (C : Cx o D tys wf own cc rt k nK) {n : Int} (v : Int32) (d : decode cc pc = .ok (.bipush n, 2)) (hv : (Int8.ofInt n).toInt32 = v) (K : Go o D wf (pc + 2) lv (.int v :: st) f) : Go o D wf pc lv st f := by
  obtain ⟨p, l, e, R, s, m, args, below, meth, c, A, Q, nL⟩ := o
  intro H locs ls hP hS hl
  exact lv_bipush C.1 C.2.1 d hv (K H locs ls hP hS hl)
theorem g_sipush (C : Cx o D tys wf own cc rt k nK) {n : Int} (v : Int32) (d : decode cc pc = .ok (.sipush n, 3)) (hv : (Int16.ofInt n).toInt32 = v) (K : Go o D wf (pc + 3) lv (.int v :: st) f) : Go o D wf pc lv st f := by
  obtain ⟨p, l, e, R, s, m, args, below, meth, c, A, Q, nL⟩ := o
  intro H locs ls hP hS hl
  exact lv_sipush C.1 C.2.1 d hv (K H locs ls hP hS hl)
theorem g_ldc (C : Cx o D tys wf own cc rt k nK) {i : Nat} {v : Int32} (w : Cond.constant own i v ∈ TB) (d : decode cc pc = .ok (.ldc i, 2)) (K : Go o D wf (pc + 2) lv (.int v :: st) f) : Go o D wf pc lv st f := by
  obtain ⟨p, l, e, R, s, m, args, below, meth, c, A, Q, nL⟩ := o
  obtain ⟨hx, hb, hml, hn, hown, hts, -⟩ := C
  intro H locs ls hP hS hl
  exact lv_ldc hx hb hown (hts _ w) d (K H locs ls hP hS hl)
theorem g_ldcw (C : Cx o D tys wf own cc rt k nK) {i : Nat} {v : Int32} (w : Cond.constant own i v ∈ TB) (d : decode cc pc = .ok (.ldc_w i, 3)) (K : Go o D wf (pc + 3) lv (.int v :: st) f) : Go o D wf pc lv st f := by
  obtain ⟨p, l, e, R, s, m, args, below, meth, c, A, Q, nL⟩ := o
  obtain ⟨hx, hb, hml, hn, hown, hts, -⟩ := C
  intro H locs ls hP hS hl
  exact lv_ldcw hx hb hown (hts _ w) d (K H locs ls hP hS hl)
theorem g_iload_n (C : Cx o D tys wf own cc rt k nK) {i : Fin 4} {x : Int32} (j : Nat) (d : decode cc pc = .ok (.iload_n i, 1)) (hj : lv[j]? = some ((i : Nat), .int x)) (K : Go o D wf (pc + 1) lv (.int x :: st) f) : Go o D wf pc lv st f := by
  obtain ⟨p, l, e, R, s, m, args, below, meth, c, A, Q, nL⟩ := o
  intro H locs ls hP hS hl
  exact lv_iload_n C.1 C.2.1 d rfl (lv_at hl j hj) (K H locs ls hP hS hl)
theorem g_iload (C : Cx o D tys wf own cc rt k nK) {i : Nat} {x : Int32} (j : Nat) (d : decode cc pc = .ok (.iload i, 2)) (hj : lv[j]? = some (i, .int x)) (K : Go o D wf (pc + 2) lv (.int x :: st) f) : Go o D wf pc lv st f := by
  obtain ⟨p, l, e, R, s, m, args, below, meth, c, A, Q, nL⟩ := o
  intro H locs ls hP hS hl
  exact lv_iload C.1 C.2.1 d (lv_at hl j hj) (K H locs ls hP hS hl)
theorem g_aload_n (C : Cx o D tys wf own cc rt k nK) {i : Fin 4} {x : Nat} (j : Nat) (d : decode cc pc = .ok (.aload_n i, 1)) (hj : lv[j]? = some ((i : Nat), .ref x)) (K : Go o D wf (pc + 1) lv (.ref x :: st) f) : Go o D wf pc lv st f := by
  obtain ⟨p, l, e, R, s, m, args, below, meth, c, A, Q, nL⟩ := o
  intro H locs ls hP hS hl
  exact lv_aload_n C.1 C.2.1 d rfl (lv_at hl j hj) (K H locs ls hP hS hl)
theorem g_istore_n (C : Cx o D tys wf own cc rt k nK) {i : Fin 4} {x : Int32} {lv' : List (Nat × Value)} (d : decode cc pc = .ok (.istore_n i, 1)) (hi : (i : Nat) < nK) (hl : ((i : Nat), Value.int x) :: lv.filter (fun q => !(q.1 == (i : Nat)) && !(q.1 + 1 == (i : Nat) && q.2.category == 2)) = lv') (K : Go o D wf (pc + 1) lv' st f) : Go o D wf pc lv (.int x :: st) f := by
  obtain ⟨p, l, e, R, s, m, args, below, meth, c, A, Q, nL⟩ := o
  obtain ⟨hx, hb, hml, hn, -⟩ := C
  subst hn
  intro H locs ls hP hS hl0
  exact lv_istore_n hx hb d rfl hl0 hi hl (fun ls' h' => K H locs ls' hP hS h')
theorem g_istore (C : Cx o D tys wf own cc rt k nK) {i : Nat} {x : Int32} {lv' : List (Nat × Value)} (d : decode cc pc = .ok (.istore i, 2)) (hi : i < nK) (hl : (i, Value.int x) :: lv.filter (fun q => !(q.1 == i) && !(q.1 + 1 == i && q.2.category == 2)) = lv') (K : Go o D wf (pc + 2) lv' st f) : Go o D wf pc lv (.int x :: st) f := by
  obtain ⟨p, l, e, R, s, m, args, below, meth, c, A, Q, nL⟩ := o
  obtain ⟨hx, hb, hml, hn, -⟩ := C
  subst hn
  intro H locs ls hP hS hl0
  exact lv_istore hx hb d hl0 hi hl (fun ls' h' => K H locs ls' hP hS h')
theorem g_iinc (C : Cx o D tys wf own cc rt k nK) {i : Nat} {n : Int} {x v : Int32} {lv' : List (Nat × Value)} (j : Nat) (d : decode cc pc = .ok (.iinc i n, 3)) (hj : lv[j]? = some (i, .int x)) (hv : x + Int32.ofInt n = v) (hi : i < nK) (hl : (i, Value.int v) :: lv.filter (fun q => !(q.1 == i) && !(q.1 + 1 == i && q.2.category == 2)) = lv') (K : Go o D wf (pc + 3) lv' st f) : Go o D wf pc lv st f := by
  obtain ⟨p, l, e, R, s, m, args, below, meth, c, A, Q, nL⟩ := o
  obtain ⟨hx, hb, hml, hn, -⟩ := C
  subst hn
  intro H locs ls hP hS hl0
  exact lv_iinc hx hb d hl0 hj hv hi hl (fun ls' h' => K H locs ls' hP hS h')
theorem g_iadd (C : Cx o D tys wf own cc rt k nK) {x y : Int32} (d : decode cc pc = .ok (.iadd, 1)) (K : Go o D wf (pc + 1) lv (.int (x + y) :: st) f) : Go o D wf pc lv (.int y :: .int x :: st) f := by
  obtain ⟨p, l, e, R, s, m, args, below, meth, c, A, Q, nL⟩ := o
  intro H locs ls hP hS hl
  exact lv_iadd C.1 C.2.1 d (K H locs ls hP hS hl)
theorem g_isub (C : Cx o D tys wf own cc rt k nK) {x y : Int32} (d : decode cc pc = .ok (.isub, 1)) (K : Go o D wf (pc + 1) lv (.int (x - y) :: st) f) : Go o D wf pc lv (.int y :: .int x :: st) f := by
  obtain ⟨p, l, e, R, s, m, args, below, meth, c, A, Q, nL⟩ := o
  intro H locs ls hP hS hl
  exact lv_isub C.1 C.2.1 d (K H locs ls hP hS hl)
theorem g_imul (C : Cx o D tys wf own cc rt k nK) {x y : Int32} (d : decode cc pc = .ok (.imul, 1)) (K : Go o D wf (pc + 1) lv (.int (x * y) :: st) f) : Go o D wf pc lv (.int y :: .int x :: st) f := by
  obtain ⟨p, l, e, R, s, m, args, below, meth, c, A, Q, nL⟩ := o
  intro H locs ls hP hS hl
  exact lv_imul C.1 C.2.1 d (K H locs ls hP hS hl)
theorem g_iand (C : Cx o D tys wf own cc rt k nK) {x y : Int32} (d : decode cc pc = .ok (.iand, 1)) (K : Go o D wf (pc + 1) lv (.int (x &&& y) :: st) f) : Go o D wf pc lv (.int y :: .int x :: st) f := by
  obtain ⟨p, l, e, R, s, m, args, below, meth, c, A, Q, nL⟩ := o
  intro H locs ls hP hS hl
  exact lv_iand C.1 C.2.1 d (K H locs ls hP hS hl)
theorem g_ior (C : Cx o D tys wf own cc rt k nK) {x y : Int32} (d : decode cc pc = .ok (.ior, 1)) (K : Go o D wf (pc + 1) lv (.int (x ||| y) :: st) f) : Go o D wf pc lv (.int y :: .int x :: st) f := by
  obtain ⟨p, l, e, R, s, m, args, below, meth, c, A, Q, nL⟩ := o
  intro H locs ls hP hS hl
  exact lv_ior C.1 C.2.1 d (K H locs ls hP hS hl)
theorem g_idiv (C : Cx o D tys wf own cc rt k nK) {x y : Int32} (d : decode cc pc = .ok (.idiv, 1)) (hne : ¬ y = 0) (K : Go o D wf (pc + 1) lv (.int (x / y) :: st) f) : Go o D wf pc lv (.int y :: .int x :: st) f := by
  obtain ⟨p, l, e, R, s, m, args, below, meth, c, A, Q, nL⟩ := o
  intro H locs ls hP hS hl
  exact lv_idiv C.1 C.2.1 d hne (K H locs ls hP hS hl)
theorem g_irem (C : Cx o D tys wf own cc rt k nK) {x y : Int32} (d : decode cc pc = .ok (.irem, 1)) (hne : ¬ y = 0) (K : Go o D wf (pc + 1) lv (.int (x - x / y * y) :: st) f) : Go o D wf pc lv (.int y :: .int x :: st) f := by
  obtain ⟨p, l, e, R, s, m, args, below, meth, c, A, Q, nL⟩ := o
  intro H locs ls hP hS hl
  exact lv_irem C.1 C.2.1 d hne (K H locs ls hP hS hl)
theorem g_ishl (C : Cx o D tys wf own cc rt k nK) {x y : Int32} (d : decode cc pc = .ok (.ishl, 1)) (K : Go o D wf (pc + 1) lv (.int (x <<< (y &&& 31)) :: st) f) : Go o D wf pc lv (.int y :: .int x :: st) f := by
  obtain ⟨p, l, e, R, s, m, args, below, meth, c, A, Q, nL⟩ := o
  intro H locs ls hP hS hl
  exact lv_ishl C.1 C.2.1 d (K H locs ls hP hS hl)
theorem g_ishr (C : Cx o D tys wf own cc rt k nK) {x y : Int32} (d : decode cc pc = .ok (.ishr, 1)) (K : Go o D wf (pc + 1) lv (.int (x >>> (y &&& 31)) :: st) f) : Go o D wf pc lv (.int y :: .int x :: st) f := by
  obtain ⟨p, l, e, R, s, m, args, below, meth, c, A, Q, nL⟩ := o
  intro H locs ls hP hS hl
  exact lv_ishr C.1 C.2.1 d (K H locs ls hP hS hl)
theorem g_iushr (C : Cx o D tys wf own cc rt k nK) {x y : Int32} (d : decode cc pc = .ok (.iushr, 1)) (K : Go o D wf (pc + 1) lv (.int ((x.toUInt32 >>> (y.toUInt32 &&& Int32.toUInt32 31)).toInt32) :: st) f) : Go o D wf pc lv (.int y :: .int x :: st) f := by
  obtain ⟨p, l, e, R, s, m, args, below, meth, c, A, Q, nL⟩ := o
  intro H locs ls hP hS hl
  exact lv_iushr C.1 C.2.1 d rfl (K H locs ls hP hS hl)
theorem g_dup (C : Cx o D tys wf own cc rt k nK) {v : Value} (d : decode cc pc = .ok (.dup, 1)) (hv : v.category = 1) (K : Go o D wf (pc + 1) lv (v :: v :: st) f) : Go o D wf pc lv (v :: st) f := by
  obtain ⟨p, l, e, R, s, m, args, below, meth, c, A, Q, nL⟩ := o
  intro H locs ls hP hS hl
  exact lv_dup C.1 C.2.1 d hv (K H locs ls hP hS hl)
theorem g_pop (C : Cx o D tys wf own cc rt k nK) {v : Value} (d : decode cc pc = .ok (.pop, 1)) (hv : v.category = 1) (K : Go o D wf (pc + 1) lv st f) : Go o D wf pc lv (v :: st) f := by
  obtain ⟨p, l, e, R, s, m, args, below, meth, c, A, Q, nL⟩ := o
  intro H locs ls hP hS hl
  exact lv_pop C.1 C.2.1 d hv (K H locs ls hP hS hl)
theorem g_dup2 (C : Cx o D tys wf own cc rt k nK) {v w : Value} (d : decode cc pc = .ok (.dup2, 1)) (hv : v.category = 1) (hw : w.category = 1) (K : Go o D wf (pc + 1) lv (v :: w :: v :: w :: st) f) : Go o D wf pc lv (v :: w :: st) f := by
  obtain ⟨p, l, e, R, s, m, args, below, meth, c, A, Q, nL⟩ := o
  intro H locs ls hP hS hl
  exact lv_dup2_11 C.1 C.2.1 d hv hw (K H locs ls hP hS hl)
theorem g_goto (C : Cx o D tys wf own cc rt k nK) {off : Int} (tgt : Nat) (d : decode cc pc = .ok (.goto off, 3)) (ht : (pc : Int) + off = (tgt : Int)) (K : Go o D wf tgt lv st f) : Go o D wf pc lv st f := by
  obtain ⟨p, l, e, R, s, m, args, below, meth, c, A, Q, nL⟩ := o
  intro H locs ls hP hS hl
  exact lv_goto C.1 C.2.1 d ht (K H locs ls hP hS hl)
theorem g_if_eq (C : Cx o D tys wf own cc rt k nK) {x : Int32} {off : Int} (tgt : Nat) (d : decode cc pc = .ok (.ifCond .eq off, 3)) (ht : (pc : Int) + off = (tgt : Int)) (kt : x = 0 → Go o D wf tgt lv st f) (kf : ¬ x = 0 → Go o D wf (pc + 3) lv st f) : Go o D wf pc lv (.int x :: st) f := by
  obtain ⟨p, l, e, R, s, m, args, below, meth, c, A, Q, nL⟩ := o
  intro H locs ls hP hS hl
  exact lv_if_eq C.1 C.2.1 d ht (fun q => kt q H locs ls hP hS hl) (fun q => kf q H locs ls hP hS hl)
theorem g_if_ne (C : Cx o D tys wf own cc rt k nK) {x : Int32} {off : Int} (tgt : Nat) (d : decode cc pc = .ok (.ifCond .ne off, 3)) (ht : (pc : Int) + off = (tgt : Int)) (kt : ¬ x = 0 → Go o D wf tgt lv st f) (kf : x = 0 → Go o D wf (pc + 3) lv st f) : Go o D wf pc lv (.int x :: st) f := by
  obtain ⟨p, l, e, R, s, m, args, below, meth, c, A, Q, nL⟩ := o
  intro H locs ls hP hS hl
  exact lv_if_ne C.1 C.2.1 d ht (fun q => kt q H locs ls hP hS hl) (fun q => kf q H locs ls hP hS hl)
theorem g_if_lt (C : Cx o D tys wf own cc rt k nK) {x : Int32} {off : Int} (tgt : Nat) (d : decode cc pc = .ok (.ifCond .lt off, 3)) (ht : (pc : Int) + off = (tgt : Int)) (kt : x < 0 → Go o D wf tgt lv st f) (kf : ¬ x < 0 → Go o D wf (pc + 3) lv st f) : Go o D wf pc lv (.int x :: st) f := by
  obtain ⟨p, l, e, R, s, m, args, below, meth, c, A, Q, nL⟩ := o
  intro H locs ls hP hS hl
  exact lv_if_lt C.1 C.2.1 d ht (fun q => kt q H locs ls hP hS hl) (fun q => kf q H locs ls hP hS hl)
theorem g_if_ge (C : Cx o D tys wf own cc rt k nK) {x : Int32} {off : Int} (tgt : Nat) (d : decode cc pc = .ok (.ifCond .ge off, 3)) (ht : (pc : Int) + off = (tgt : Int)) (kt : 0 ≤ x → Go o D wf tgt lv st f) (kf : ¬ 0 ≤ x → Go o D wf (pc + 3) lv st f) : Go o D wf pc lv (.int x :: st) f := by
  obtain ⟨p, l, e, R, s, m, args, below, meth, c, A, Q, nL⟩ := o
  intro H locs ls hP hS hl
  exact lv_if_ge C.1 C.2.1 d ht (fun q => kt q H locs ls hP hS hl) (fun q => kf q H locs ls hP hS hl)
theorem g_if_gt (C : Cx o D tys wf own cc rt k nK) {x : Int32} {off : Int} (tgt : Nat) (d : decode cc pc = .ok (.ifCond .gt off, 3)) (ht : (pc : Int) + off = (tgt : Int)) (kt : 0 < x → Go o D wf tgt lv st f) (kf : ¬ 0 < x → Go o D wf (pc + 3) lv st f) : Go o D wf pc lv (.int x :: st) f := by
  obtain ⟨p, l, e, R, s, m, args, below, meth, c, A, Q, nL⟩ := o
  intro H locs ls hP hS hl
  exact lv_if_gt C.1 C.2.1 d ht (fun q => kt q H locs ls hP hS hl) (fun q => kf q H locs ls hP hS hl)
theorem g_if_le (C : Cx o D tys wf own cc rt k nK) {x : Int32} {off : Int} (tgt : Nat) (d : decode cc pc = .ok (.ifCond .le off, 3)) (ht : (pc : Int) + off = (tgt : Int)) (kt : x ≤ 0 → Go o D wf tgt lv st f) (kf : ¬ x ≤ 0 → Go o D wf (pc + 3) lv st f) : Go o D wf pc lv (.int x :: st) f := by
  obtain ⟨p, l, e, R, s, m, args, below, meth, c, A, Q, nL⟩ := o
  intro H locs ls hP hS hl
  exact lv_if_le C.1 C.2.1 d ht (fun q => kt q H locs ls hP hS hl) (fun q => kf q H locs ls hP hS hl)
theorem g_icmp_eq (C : Cx o D tys wf own cc rt k nK) {x y : Int32} {off : Int} (tgt : Nat) (d : decode cc pc = .ok (.if_icmp .eq off, 3)) (ht : (pc : Int) + off = (tgt : Int)) (kt : x = y → Go o D wf tgt lv st f) (kf : ¬ x = y → Go o D wf (pc + 3) lv st f) : Go o D wf pc lv (.int y :: .int x :: st) f := by
  obtain ⟨p, l, e, R, s, m, args, below, meth, c, A, Q, nL⟩ := o
  intro H locs ls hP hS hl
  exact lv_icmp_eq C.1 C.2.1 d ht (fun q => kt q H locs ls hP hS hl) (fun q => kf q H locs ls hP hS hl)
theorem g_icmp_ne (C : Cx o D tys wf own cc rt k nK) {x y : Int32} {off : Int} (tgt : Nat) (d : decode cc pc = .ok (.if_icmp .ne off, 3)) (ht : (pc : Int) + off = (tgt : Int)) (kt : ¬ x = y → Go o D wf tgt lv st f) (kf : x = y → Go o D wf (pc + 3) lv st f) : Go o D wf pc lv (.int y :: .int x :: st) f := by
  obtain ⟨p, l, e, R, s, m, args, below, meth, c, A, Q, nL⟩ := o
  intro H locs ls hP hS hl
  exact lv_icmp_ne C.1 C.2.1 d ht (fun q => kt q H locs ls hP hS hl) (fun q => kf q H locs ls hP hS hl)
theorem g_icmp_lt (C : Cx o D tys wf own cc rt k nK) {x y : Int32} {off : Int} (tgt : Nat) (d : decode cc pc = .ok (.if_icmp .lt off, 3)) (ht : (pc : Int) + off = (tgt : Int)) (kt : x < y → Go o D wf tgt lv st f) (kf : ¬ x < y → Go o D wf (pc + 3) lv st f) : Go o D wf pc lv (.int y :: .int x :: st) f := by
  obtain ⟨p, l, e, R, s, m, args, below, meth, c, A, Q, nL⟩ := o
  intro H locs ls hP hS hl
  exact lv_icmp_lt C.1 C.2.1 d ht (fun q => kt q H locs ls hP hS hl) (fun q => kf q H locs ls hP hS hl)
theorem g_icmp_ge (C : Cx o D tys wf own cc rt k nK) {x y : Int32} {off : Int} (tgt : Nat) (d : decode cc pc = .ok (.if_icmp .ge off, 3)) (ht : (pc : Int) + off = (tgt : Int)) (kt : y ≤ x → Go o D wf tgt lv st f) (kf : ¬ y ≤ x → Go o D wf (pc + 3) lv st f) : Go o D wf pc lv (.int y :: .int x :: st) f := by
  obtain ⟨p, l, e, R, s, m, args, below, meth, c, A, Q, nL⟩ := o
  intro H locs ls hP hS hl
  exact lv_icmp_ge C.1 C.2.1 d ht (fun q => kt q H locs ls hP hS hl) (fun q => kf q H locs ls hP hS hl)
theorem g_icmp_gt (C : Cx o D tys wf own cc rt k nK) {x y : Int32} {off : Int} (tgt : Nat) (d : decode cc pc = .ok (.if_icmp .gt off, 3)) (ht : (pc : Int) + off = (tgt : Int)) (kt : y < x → Go o D wf tgt lv st f) (kf : ¬ y < x → Go o D wf (pc + 3) lv st f) : Go o D wf pc lv (.int y :: .int x :: st) f := by
  obtain ⟨p, l, e, R, s, m, args, below, meth, c, A, Q, nL⟩ := o
  intro H locs ls hP hS hl
  exact lv_icmp_gt C.1 C.2.1 d ht (fun q => kt q H locs ls hP hS hl) (fun q => kf q H locs ls hP hS hl)
theorem g_icmp_le (C : Cx o D tys wf own cc rt k nK) {x y : Int32} {off : Int} (tgt : Nat) (d : decode cc pc = .ok (.if_icmp .le off, 3)) (ht : (pc : Int) + off = (tgt : Int)) (kt : x ≤ y → Go o D wf tgt lv st f) (kf : ¬ x ≤ y → Go o D wf (pc + 3) lv st f) : Go o D wf pc lv (.int y :: .int x :: st) f := by
  obtain ⟨p, l, e, R, s, m, args, below, meth, c, A, Q, nL⟩ := o
  intro H locs ls hP hS hl
  exact lv_icmp_le C.1 C.2.1 d ht (fun q => kt q H locs ls hP hS hl) (fun q => kf q H locs ls hP hS hl)
end GO
