/-! A judgement over a growing world: cells are made, constructors and methods are called, the rest of the cells stay. -/
def rc (k mc ms : Nat) : Room := { frames := k, cells := mc, slots := ms, locals := 60 * k }
def Gn (o : Om) (D : va_G) (nc ns : Nat) (w : va_W) (pc : Nat) (lv : List (Nat × Value)) (st : List Value) : Prop := match o with
  | (p, l, e, R, s, m, args, below, meth, c, A, Q, nL) => ∀ (H : Heap) (locs : List Loc) (ls : Array Slot), va_P D vwCl w H → va_D A w → va_S A s.heap H locs → lv_has ls nL lv → W p l e R s m args below meth c H locs nc ns Q (F0 m pc ls st)
def Cn (o : Om) (D : va_G) (tys : List (ClassId × FieldType)) (own : String) (cc : ByteArray) (k nK mc ms : Nat) : Prop := match o with
  | (p, _, _, R, s, m, args, _, _, c, A, _, nL) => p.tables.exec = Jvm.exec ∧ c.code = cc ∧ c.maxLocals = nL ∧ nL = nK ∧ s.vm.findClass own = some m.cls ∧ (∀ w ∈ TB, w.before args s = true) ∧ va_K D vwCl tys s ∧ (∀ q, s.heap.size ≤ q → A q) ∧ Nst s ∧ k ≤ R.frames ∧ 60 * k ≤ R.locals ∧ mc ≤ R.cells ∧ ms ≤ R.slots
/-- in a constructor -/
def Ci (o : Om) : Prop := match o with
  | (_, _, _, _, _, _, _, _, meth, _, _, _, _) => meth.name = "<init>" ∧ meth.sig.returnType = none ∧ meth.locks = false
def RetC (o : Om) (D : va_G) (mc ms : Nat) {S : Type} (post : S → Prop) (w' : S → va_W) : Prop := match o with
  | (_, _, _, _, s, _, args, below, _, _, A, Q, _) => Q = MQ below (va_Qv post (fun u t => va_P D vwCl (w' u) t.heap ∧ va_D A (w' u)) A) args s mc ms A
/-- a constructor's contract: out of the cells w it makes the cells w' u -/
abbrev MC (l : Launch) (D : va_G) (tys : List (ClassId × FieldType)) (y : MethodName) (cc : ByteArray) (mL k mc ms : Nat) (As : List Value) (w : va_W) {S : Type} (post : S → Prop) (w' : S → va_W) : Prop :=
  ∀ sz : Nat, Met l y (.code y cc mL none :: TB) (rc k mc ms) (va_Pc As (Inw D tys (fun _ => w) (fun _ _ => 0) sz)) (va_Qv post (fun u t => va_P D vwCl (w' u) t.heap ∧ va_D (va_A w sz) (w' u)) (va_A w sz)) mc ms (va_A w sz)
theorem mkC {l : Launch} {D : va_G} {tys : List (ClassId × FieldType)} {y : MethodName} {cc : ByteArray} {mL k mc ms : Nat} {As : List Value} {w : va_W} {S : Type} {post : S → Prop} {w' : S → va_W} (hy : plainName y.cls = true) (hi : y.name = "<init>") (hmL : (lg_sl As).length ≤ mL)
    (body : ∀ o : Om, Cn o D tys y.cls cc k mL mc ms → Ci o → RetC o D mc ms post w' → Gn o D 0 0 w 0 (lv_args 0 As) []) : MC l D tys y cc mL k mc ms As w post w' := by
  intro sz
  refine Met.ofW (cc := cc) (maxL := mL) (ret := none) hy rfl ?_
  intro p e s m args below meth c s₁ B hml hv
  obtain ⟨rfl, hsz, hP, hK, hD0, hN⟩ := hv
  subst hsz
  have hD := hD0.self (sz := s.heap.size)
  have hts := atoms_spec (ws := .code y cc mL none :: TB) B.pre
  have hl := lv_entry As (n := mL) hmL
  rw [lg_entry_eq]
  exact body (p, l, e, rc k mc ms, s, m, As.toArray, below, meth, c, va_A w s.heap.size, MQ below (va_Qv post (fun u t => va_P D vwCl (w' u) t.heap ∧ va_D (va_A w s.heap.size) (w' u)) (va_A w s.heap.size)) As.toArray s mc ms (va_A w s.heap.size), mL)
    ⟨B.exec, B.bytes, hml, rfl, findClass_of_methodNamed B.named, fun w hw => hts w (List.mem_cons_of_mem _ hw), hK, fun q h => Or.inr h, hN, Nat.le_refl _, Nat.le_refl _, Nat.le_refl _, Nat.le_refl _⟩ ⟨(name_of_methodNamed B.named B.method).1.trans hi, B.returns, B.notSynchronized⟩ rfl s.heap [] _ hP hD va_S.rf hl
section GN
variable {o : Om} {D : va_G} {tys : List (ClassId × FieldType)} {own : String} {cc : ByteArray} {k nK mc ms nc ns : Nat} {w : va_W} {pc : Nat} {lv : List (Nat × Value)} {st : List Value}
theorem n_aload_n (C : Cn o D tys own cc k nK mc ms) {i : Fin 4} {x : Nat} (j : Nat) (d : decode cc pc = .ok (.aload_n i, 1)) (hj : lv[j]? = some ((i : Nat), .ref x)) (K : Gn o D nc ns w (pc + 1) lv (.ref x :: st)) : Gn o D nc ns w pc lv st := by
  obtain ⟨p, l, e, R, s, m, args, below, meth, c, A, Q, nL⟩ := o
  intro H locs ls hP hD hS hl
  exact lv_aload_n C.1 C.2.1 d rfl (lv_at hl j hj) (K H locs ls hP hD hS hl)
theorem n_iload_n (C : Cn o D tys own cc k nK mc ms) {i : Fin 4} {x : Int32} (j : Nat) (d : decode cc pc = .ok (.iload_n i, 1)) (hj : lv[j]? = some ((i : Nat), .int x)) (K : Gn o D nc ns w (pc + 1) lv (.int x :: st)) : Gn o D nc ns w pc lv st := by
  obtain ⟨p, l, e, R, s, m, args, below, meth, c, A, Q, nL⟩ := o
  intro H locs ls hP hD hS hl
  exact lv_iload_n C.1 C.2.1 d rfl (lv_at hl j hj) (K H locs ls hP hD hS hl)
theorem n_iconst (C : Cn o D tys own cc k nK mc ms) {n : Int} (v : Int32) (d : decode cc pc = .ok (.iconst n, 1)) (hv : Int32.ofInt n = v) (K : Gn o D nc ns w (pc + 1) lv (.int v :: st)) : Gn o D nc ns w pc lv st := by
  obtain ⟨p, l, e, R, s, m, args, below, meth, c, A, Q, nL⟩ := o
  intro H locs ls hP hD hS hl
  exact lv_iconst C.1 C.2.1 d hv (K H locs ls hP hD hS hl)
theorem n_bipush (C : Cn o D tys own cc k nK mc ms) {n : Int} (v : Int32) (d : decode cc pc = .ok (.bipush n, 2)) (hv : (Int8.ofInt n).toInt32 = v) (K : Gn o D nc ns w (pc + 2) lv (.int v :: st)) : Gn o D nc ns w pc lv st := by
  obtain ⟨p, l, e, R, s, m, args, below, meth, c, A, Q, nL⟩ := o
  intro H locs ls hP hD hS hl
  exact lv_bipush C.1 C.2.1 d hv (K H locs ls hP hD hS hl)
theorem n_dup (C : Cn o D tys own cc k nK mc ms) {v : Value} (d : decode cc pc = .ok (.dup, 1)) (hv : v.category = 1) (K : Gn o D nc ns w (pc + 1) lv (v :: v :: st)) : Gn o D nc ns w pc lv (v :: st) := by
  obtain ⟨p, l, e, R, s, m, args, below, meth, c, A, Q, nL⟩ := o
  intro H locs ls hP hD hS hl
  exact lv_dup C.1 C.2.1 d hv (K H locs ls hP hD hS hl)
theorem n_iadd (C : Cn o D tys own cc k nK mc ms) {x y : Int32} (d : decode cc pc = .ok (.iadd, 1)) (K : Gn o D nc ns w (pc + 1) lv (.int (x + y) :: st)) : Gn o D nc ns w pc lv (.int y :: .int x :: st) := by
  obtain ⟨p, l, e, R, s, m, args, below, meth, c, A, Q, nL⟩ := o
  intro H locs ls hP hD hS hl
  exact lv_iadd C.1 C.2.1 d (K H locs ls hP hD hS hl)
theorem n_isub (C : Cn o D tys own cc k nK mc ms) {x y : Int32} (d : decode cc pc = .ok (.isub, 1)) (K : Gn o D nc ns w (pc + 1) lv (.int (x - y) :: st)) : Gn o D nc ns w pc lv (.int y :: .int x :: st) := by
  obtain ⟨p, l, e, R, s, m, args, below, meth, c, A, Q, nL⟩ := o
  intro H locs ls hP hD hS hl
  exact lv_isub C.1 C.2.1 d (K H locs ls hP hD hS hl)
theorem n_iand (C : Cn o D tys own cc k nK mc ms) {x y : Int32} (d : decode cc pc = .ok (.iand, 1)) (K : Gn o D nc ns w (pc + 1) lv (.int (x &&& y) :: st)) : Gn o D nc ns w pc lv (.int y :: .int x :: st) := by
  obtain ⟨p, l, e, R, s, m, args, below, meth, c, A, Q, nL⟩ := o
  intro H locs ls hP hD hS hl
  exact lv_iand C.1 C.2.1 d (K H locs ls hP hD hS hl)
theorem n_istore_n (C : Cn o D tys own cc k nK mc ms) {i : Fin 4} {x : Int32} {lv' : List (Nat × Value)} (d : decode cc pc = .ok (.istore_n i, 1)) (hi : (i : Nat) < nK) (hl : ((i : Nat), Value.int x) :: lv.filter (fun q => !(q.1 == (i : Nat)) && !(q.1 + 1 == (i : Nat) && q.2.category == 2)) = lv') (K : Gn o D nc ns w (pc + 1) lv' st) : Gn o D nc ns w pc lv (.int x :: st) := by
  obtain ⟨p, l, e, R, s, m, args, below, meth, c, A, Q, nL⟩ := o
  obtain ⟨hx, hb, hml, hn, -⟩ := C
  subst hn
  intro H locs ls hP hD hS hl0
  exact lv_istore_n hx hb d rfl hl0 hi hl (fun ls' h' => K H locs ls' hP hD hS h')
theorem n_astore_n (C : Cn o D tys own cc k nK mc ms) {i : Fin 4} {x : Nat} {lv' : List (Nat × Value)} (d : decode cc pc = .ok (.astore_n i, 1)) (hi : (i : Nat) < nK) (hl : ((i : Nat), Value.ref x) :: lv.filter (fun q => !(q.1 == (i : Nat)) && !(q.1 + 1 == (i : Nat) && q.2.category == 2)) = lv') (K : Gn o D nc ns w (pc + 1) lv' st) : Gn o D nc ns w pc lv (.ref x :: st) := by
  obtain ⟨p, l, e, R, s, m, args, below, meth, c, A, Q, nL⟩ := o
  obtain ⟨hx, hb, hml, hn, -⟩ := C
  subst hn
  intro H locs ls hP hD hS hl0
  exact lv_astore_n hx hb d rfl hl0 hi hl (fun ls' h' => K H locs ls' hP hD hS h')
theorem n_iinc (C : Cn o D tys own cc k nK mc ms) {i : Nat} {n : Int} {x v : Int32} {lv' : List (Nat × Value)} (j : Nat) (d : decode cc pc = .ok (.iinc i n, 3)) (hj : lv[j]? = some (i, .int x)) (hv : x + Int32.ofInt n = v) (hi : i < nK) (hl : (i, Value.int v) :: lv.filter (fun q => !(q.1 == i) && !(q.1 + 1 == i && q.2.category == 2)) = lv') (K : Gn o D nc ns w (pc + 3) lv' st) : Gn o D nc ns w pc lv st := by
  obtain ⟨p, l, e, R, s, m, args, below, meth, c, A, Q, nL⟩ := o
  obtain ⟨hx, hb, hml, hn, -⟩ := C
  subst hn
  intro H locs ls hP hD hS hl0
  exact lv_iinc hx hb d hl0 hj hv hi hl (fun ls' h' => K H locs ls' hP hD hS h')
theorem n_sub {lv' : List (Nat × Value)} (ks : List Nat) (hl : lv_pick lv ks = lv') (K : Gn o D nc ns w pc lv' st) : Gn o D nc ns w pc lv st := by
  obtain ⟨p, l, e, R, s, m, args, below, meth, c, A, Q, nL⟩ := o
  intro H locs ls hP hD hS hl0
  exact K H locs ls hP hD hS (lv_sub hl0 ks hl)
theorem n_top {x : Int32} (K : ∀ y : Int32, y = x → Gn o D nc ns w pc lv (.int y :: st)) : Gn o D nc ns w pc lv (.int x :: st) := K x rfl
theorem n_goto (C : Cn o D tys own cc k nK mc ms) {off : Int} (tgt : Nat) (d : decode cc pc = .ok (.goto off, 3)) (ht : (pc : Int) + off = (tgt : Int)) (K : Gn o D nc ns w tgt lv st) : Gn o D nc ns w pc lv st := by
  obtain ⟨p, l, e, R, s, m, args, below, meth, c, A, Q, nL⟩ := o
  intro H locs ls hP hD hS hl
  exact lv_goto C.1 C.2.1 d ht (K H locs ls hP hD hS hl)
theorem n_icmp_ge (C : Cn o D tys own cc k nK mc ms) {x y : Int32} {off : Int} (tgt : Nat) (d : decode cc pc = .ok (.if_icmp .ge off, 3)) (ht : (pc : Int) + off = (tgt : Int)) (kt : y ≤ x → Gn o D nc ns w tgt lv st) (kf : ¬ y ≤ x → Gn o D nc ns w (pc + 3) lv st) : Gn o D nc ns w pc lv (.int y :: .int x :: st) := by
  obtain ⟨p, l, e, R, s, m, args, below, meth, c, A, Q, nL⟩ := o
  intro H locs ls hP hD hS hl
  exact lv_icmp_ge C.1 C.2.1 d ht (fun q => kt q H locs ls hP hD hS hl) (fun q => kf q H locs ls hP hD hS hl)
theorem n_icmp_gt (C : Cn o D tys own cc k nK mc ms) {x y : Int32} {off : Int} (tgt : Nat) (d : decode cc pc = .ok (.if_icmp .gt off, 3)) (ht : (pc : Int) + off = (tgt : Int)) (kt : y < x → Gn o D nc ns w tgt lv st) (kf : ¬ y < x → Gn o D nc ns w (pc + 3) lv st) : Gn o D nc ns w pc lv (.int y :: .int x :: st) := by
  obtain ⟨p, l, e, R, s, m, args, below, meth, c, A, Q, nL⟩ := o
  intro H locs ls hP hD hS hl
  exact lv_icmp_gt C.1 C.2.1 d ht (fun q => kt q H locs ls hP hD hS hl) (fun q => kf q H locs ls hP hD hS hl)
theorem n_icmp_eq (C : Cn o D tys own cc k nK mc ms) {x y : Int32} {off : Int} (tgt : Nat) (d : decode cc pc = .ok (.if_icmp .eq off, 3)) (ht : (pc : Int) + off = (tgt : Int)) (kt : x = y → Gn o D nc ns w tgt lv st) (kf : ¬ x = y → Gn o D nc ns w (pc + 3) lv st) : Gn o D nc ns w pc lv (.int y :: .int x :: st) := by
  obtain ⟨p, l, e, R, s, m, args, below, meth, c, A, Q, nL⟩ := o
  intro H locs ls hP hD hS hl
  exact lv_icmp_eq C.1 C.2.1 d ht (fun q => kt q H locs ls hP hD hS hl) (fun q => kf q H locs ls hP hD hS hl)
theorem n_tsIn (C : Cn o D tys own cc k nK mc ms) {dflt lo hi : Int} {offs : Array Int} {len : Nat} {x : Int32} {off : Int} (tgt : Nat) (d : decode cc pc = .ok (.tableswitch dflt lo hi offs, len)) (h1 : ¬ x.toInt < lo) (h2 : ¬ hi < x.toInt) (ho : offs[(x.toInt - lo).toNat]? = some off) (ht : (pc : Int) + off = (tgt : Int)) (K : Gn o D nc ns w tgt lv st) : Gn o D nc ns w pc lv (.int x :: st) := by
  obtain ⟨p, l, e, R, s, m, args, below, meth, c, A, Q, nL⟩ := o
  intro H locs ls hP hD hS hl
  exact lv_tableIn C.1 C.2.1 d h1 h2 ho ht (K H locs ls hP hD hS hl)
theorem n_tsOut (C : Cn o D tys own cc k nK mc ms) {dflt lo hi : Int} {offs : Array Int} {len : Nat} {x : Int32} (tgt : Nat) (d : decode cc pc = .ok (.tableswitch dflt lo hi offs, len)) (h : x.toInt < lo ∨ hi < x.toInt) (ht : (pc : Int) + dflt = (tgt : Int)) (K : Gn o D nc ns w tgt lv st) : Gn o D nc ns w pc lv (.int x :: st) := by
  obtain ⟨p, l, e, R, s, m, args, below, meth, c, A, Q, nL⟩ := o
  intro H locs ls hP hD hS hl
  exact lv_tableOut C.1 C.2.1 d h ht (K H locs ls hP hD hS hl)
theorem n_objInit (C : Cn o D tys own cc k nK mc ms) (hk : 1 ≤ k) {idx a : Nat} (wl : Cond.methodLink own idx objectInit ∈ TB) (hst : (st.map fun v => v.category).sum ≤ 8) (d : decode cc pc = .ok (.invokespecial idx, 3)) (K : Gn o D nc ns w (pc + 3) lv st) : Gn o D nc ns w pc lv (.ref a :: st) := by
  obtain ⟨p, l, e, R, s, m, args, below, meth, c, A, Q, nL⟩ := o
  obtain ⟨hx, hb, hml, hn, hown, hts, hK, hA, hN, hf, hlo, hce, hsl⟩ := C
  intro H locs ls hP hD hS hl
  refine W.objInit hx hb hown (hts _ wl) (hts _ tb_21) (hts _ tb_22) rfl (by rw [hml]; exact hl.1) rfl d (Nat.le_trans hk hf) (Nat.le_trans ?_ hlo) ?_
  · show 2 * 0 + _ + 12 ≤ _
    omega
  · exact W.eq (g2 := F0 m (pc + 3) ls st) rfl (K H locs ls hP hD hS hl)
theorem n_new (C : Cn o D tys own cc k nK mc ms) {C1 : String} {T : u_T} {N ci idx : Nat} (hin : ∀ w ∈ u_ws C1 T N, w ∈ TB) (ty : Nat → FieldType) (hty : ∀ k, k < N → parseFieldDescriptor (T k).2.2.1 = some (ty k)) (hc : vwCl[ci]? = some (C1, T, N)) (w1 : Cond.classLink own idx C1 ∈ TB) (w2 : Cond.instantiable C1 N ∈ TB) (w3 : Cond.initialized C1 ∈ TB) (fs : List Value) (hfs : ∀ j, j < N → defaultValue (ty j) = vp_V fs j) (h1 : nc + 1 ≤ mc) (h2 : ns + N ≤ ms) (d : decode cc pc = .ok (.new idx, 3)) (K : ∀ q : Nat, Gn o D (nc + 1) (ns + N) (w ++ [(q, .inr (ci, fs))]) (pc + 3) lv (.ref q :: st)) : Gn o D nc ns w pc lv st := by
  obtain ⟨p, l, e, R, s, m, args, below, meth, c, A, Q, nL⟩ := o
  obtain ⟨hx, hb, hml, hn, hown, hts, hK, hA, hN, hf, hlo, hce, hsl⟩ := C
  intro H locs ls hP hD hS hl
  exact va_new hx hb hts hin ty hty hown (hts _ w1) (hts _ w2) (hts _ w3) hK hP hD hS hA hc hfs (Nat.le_trans h1 hce) (Nat.le_trans h2 hsl) d (fun q H1 hP1 hD1 hS1 => K q H1 locs ls hP1 hD1 hS1 hl)
theorem K_arr {s : State} {tys : List (ClassId × FieldType)} {cA cB : ClassId} {ty : FieldType} {i j : Nat} (hK : va_K D vwCl tys s) (h1 : tys[i]? = some (cA, ty)) (h2 : tys[j]? = some (cB, ty)) (hp : ty = .int ∨ ty = .boolean) : cA = cB := by
  have a := (hK.2 i _ h1).2
  have b := (hK.2 j _ h2).2
  rcases hp with rfl | rfl
  · exact Option.some.inj (a.symm.trans b)
  · exact Option.some.inj (a.symm.trans b)
theorem n_newi (C : Cn o D tys own cc k nK mc ms) (t : Nat) {cI : ClassId} (ht : tys[t]? = some (cI, .int)) {n : Int32} (N : Nat) (hn : ¬ n < 0) (hN : n.toNatClampNeg = N) (hb4 : N ≤ 1000) (h1 : nc + 1 ≤ mc) (h2 : ns + N ≤ ms) (d : decode cc pc = .ok (.newarray .int, 2)) (K : ∀ q : Nat, Gn o D (nc + 1) (ns + N) (w ++ [(q, .inl (cI, N, .inl (fun _ => 0)))]) (pc + 2) lv (.ref q :: st)) : Gn o D nc ns w pc lv (.int n :: st) := by
  obtain ⟨p, l, e, R, s, m, args, below, meth, c, A, Q, nL⟩ := o
  obtain ⟨hx, hb, hml, hn', hown, hts, hK, hA, hN', hf, hlo, hce, hsl⟩ := C
  intro H locs ls hP hD hS hl
  have hc4 : componentBytes .int = 4 := rfl
  refine va_newa (atype := .int) (ty := .int) (a0 := (N, .inl (fun _ => 0))) hx hb (hts _ tb_56) rfl hK hP hD hS hA (fun cA => rfl) hn hN (by rw [hc4]; omega) (Nat.le_trans h1 hce) (Nat.le_trans h2 hsl) d (fun q cA H1 hK1 hP1 hD1 hS1 => ?_)
  have he : cA = cI := K_arr hK1 (i := tys.length) (j := t) (by rw [List.getElem?_append_right (Nat.le_refl _), Nat.sub_self]; rfl) (by rw [List.getElem?_append_left (List.getElem?_eq_some_iff.mp ht).1]; exact ht) (Or.inl rfl)
  subst he
  exact K q H1 locs ls hP1 hD1 hS1 hl
theorem n_newz (C : Cn o D tys own cc k nK mc ms) (t : Nat) {cZ : ClassId} (ht : tys[t]? = some (cZ, .boolean)) {n : Int32} (N : Nat) (hn : ¬ n < 0) (hN : n.toNatClampNeg = N) (hb4 : N ≤ 1000) (h1 : nc + 1 ≤ mc) (h2 : ns + N ≤ ms) (d : decode cc pc = .ok (.newarray .boolean, 2)) (K : ∀ q : Nat, Gn o D (nc + 1) (ns + N) (w ++ [(q, .inl (cZ, N, .inl (fun _ => 0)))]) (pc + 2) lv (.ref q :: st)) : Gn o D nc ns w pc lv (.int n :: st) := by
  obtain ⟨p, l, e, R, s, m, args, below, meth, c, A, Q, nL⟩ := o
  obtain ⟨hx, hb, hml, hn', hown, hts, hK, hA, hN', hf, hlo, hce, hsl⟩ := C
  intro H locs ls hP hD hS hl
  have hc4 : componentBytes .boolean = 1 := rfl
  refine va_newa (atype := .boolean) (ty := .boolean) (a0 := (N, .inl (fun _ => 0))) hx hb (hts _ tb_669) rfl hK hP hD hS hA (fun cA => rfl) hn hN (by rw [hc4]; omega) (Nat.le_trans h1 hce) (Nat.le_trans h2 hsl) d (fun q cA H1 hK1 hP1 hD1 hS1 => ?_)
  have he : cA = cZ := K_arr hK1 (i := tys.length) (j := t) (by rw [List.getElem?_append_right (Nat.le_refl _), Nat.sub_self]; rfl) (by rw [List.getElem?_append_left (List.getElem?_eq_some_iff.mp ht).1]; exact ht) (Or.inr rfl)
  subst he
  exact K q H1 locs ls hP1 hD1 hS1 hl
theorem n_putF (C : Cn o D tys own cc k nK mc ms) (I : Ci o) {ref C1 : String} {T : u_T} {N ci idx : Nat} (hin : ∀ w ∈ u_ws C1 T N, w ∈ TB) (ty0 : Nat → FieldType) (hty : ∀ k, k < N → parseFieldDescriptor (T k).2.2.1 = some (ty0 k)) (hnm : ∀ a, a < N → ∀ b, b < N → a ≠ b → (T a).2.1 ≠ (T b).2.1) (hc : vwCl[ci]? = some (C1, T, N)) (j : Nat) (hj : j < N) (wl : Cond.fieldLink own idx ref (T j).2.1 (T j).2.2.1 ∈ TB)
    (hs : (T j).1 = ref) (hfin : (T j).2.2.2 = true) (hdecl : (T j).1 = own) {ty : FieldType} {q a b : Nat} {fs : List Value} {w' : va_W} (hd : parseFieldDescriptor (T j).2.2.1 = some ty) (hn : narrow ty (.ref b) = .ref b) (hfit : fits ty (.ref b) = true) (he : w[q]? = some (a, .inr (ci, fs))) (hl : j < fs.length) (hset : w.set q (a, .inr (ci, fs.set j (.ref b))) = w') (d : decode cc pc = .ok (.putfield idx, 3)) (K : Gn o D nc ns w' (pc + 3) lv st) : Gn o D nc ns w pc lv (.ref b :: .ref a :: st) := by
  obtain ⟨p, l, e, R, s, m, args, below, meth, c, A, Q, nL⟩ := o
  obtain ⟨hx, hb, hml, hn', hown, hts, hK, hA, hN, hf, hlo, hce, hsl⟩ := C
  subst hset
  intro H locs ls hP hD hS hl0
  exact va_putF hx hb hts hin ty0 hty hnm hown hK hP hD hS q he hc j hj (hts _ wl) (fun x h => by rw [← hs]; exact h) hfin I.1 hdecl hd hn hfit hl d (fun H1 locs1 hP1 hD1 hS1 => K H1 locs1 ls hP1 hD1 hS1 hl0)
theorem n_put (C : Cn o D tys own cc k nK mc ms) {ref C1 : String} {T : u_T} {N ci idx : Nat} (hin : ∀ w ∈ u_ws C1 T N, w ∈ TB) (ty0 : Nat → FieldType) (hty : ∀ k, k < N → parseFieldDescriptor (T k).2.2.1 = some (ty0 k)) (hnm : ∀ a, a < N → ∀ b, b < N → a ≠ b → (T a).2.1 ≠ (T b).2.1) (hc : vwCl[ci]? = some (C1, T, N)) (j : Nat) (hj : j < N) (wl : Cond.fieldLink own idx ref (T j).2.1 (T j).2.2.1 ∈ TB)
    (hs : (T j).1 = ref) (hfin : (T j).2.2.2 = false) {ty : FieldType} {q a : Nat} {fs : List Value} {v : Value} {w' : va_W} (hd : parseFieldDescriptor (T j).2.2.1 = some ty) (hn : narrow ty v = v) (hfit : fits ty v = true) (he : w[q]? = some (a, .inr (ci, fs))) (hl : j < fs.length) (hset : w.set q (a, .inr (ci, fs.set j v)) = w') (d : decode cc pc = .ok (.putfield idx, 3)) (K : Gn o D nc ns w' (pc + 3) lv st) : Gn o D nc ns w pc lv (v :: .ref a :: st) := by
  obtain ⟨p, l, e, R, s, m, args, below, meth, c, A, Q, nL⟩ := o
  obtain ⟨hx, hb, hml, hn', hown, hts, hK, hA, hN, hf, hlo, hce, hsl⟩ := C
  subst hset
  intro H locs ls hP hD hS hl0
  exact va_put hx hb hts hin ty0 hty hnm hown hK hP hD hS q he hc j hj (hts _ wl) (fun x h => by rw [← hs]; exact h) hfin hd hn hfit hl d (fun H1 locs1 hP1 hD1 hS1 => K H1 locs1 ls hP1 hD1 hS1 hl0)
theorem n_get (C : Cn o D tys own cc k nK mc ms) {ref C1 : String} {T : u_T} {N ci idx : Nat} (hin : ∀ w ∈ u_ws C1 T N, w ∈ TB) (hc : vwCl[ci]? = some (C1, T, N)) (j : Nat) (hj : j < N) (wl : Cond.fieldLink own idx ref (T j).2.1 (T j).2.2.1 ∈ TB) (hs : (T j).1 = ref) {q a : Nat} {fs : List Value} {v : Value} (he : w[q]? = some (a, .inr (ci, fs))) (hv : fs[j]? = some v) (d : decode cc pc = .ok (.getfield idx, 3)) (K : Gn o D nc ns w (pc + 3) lv (v :: st)) : Gn o D nc ns w pc lv (.ref a :: st) := by
  obtain ⟨p, l, e, R, s, m, args, below, meth, c, A, Q, nL⟩ := o
  obtain ⟨hx, hb, hml, hn', hown, hts, hK, hA, hN, hf, hlo, hce, hsl⟩ := C
  intro H locs ls hP hD hS hl
  exact va_get hx hb hts hin hown hK hP q he hc j hj (hts _ wl) (fun x h => by rw [← hs]; exact h) hv d (K H locs ls hP hD hS hl)
theorem n_iast (C : Cn o D tys own cc k nK mc ms) (t : Nat) {q a : Nat} {cA : ClassId} {n : Nat} {h : Nat → Int32} {i x : Int32} {w' : va_W} (ha : w[q]? = some (a, .inl (cA, n, .inl h))) (ht : tys[t]? = some (cA, .int)) (hset : w.set q (a, .inl (cA, n, .inl (upd h i.toNatClampNeg x))) = w') (hi : vp_in i n) (d : decode cc pc = .ok (.iastore, 1)) (K : Gn o D nc ns w' (pc + 1) lv st) : Gn o D nc ns w pc lv (.int x :: .int i :: .ref a :: st) := by
  obtain ⟨p, l, e, R, s, m, args, below, meth, c, A, Q, nL⟩ := o
  obtain ⟨hx, hb, hml, hn', hown, hts, hK, hA, hN, hf, hlo, hce, hsl⟩ := C
  subst hset
  intro H locs ls hP hD hS hl
  exact va_iast hx hb hK hP hD hS q t ha ht hi d (fun H1 locs1 hP1 hD1 hS1 => K H1 locs1 ls hP1 hD1 hS1 hl)
/-- fewer cells, another order -/
theorem n_world {w' : va_W} (is : List Nat) (h1 : is.filterMap (fun i => w[i]?) = w') (h2 : is.map (fun i => w[i]?) = w'.map some) (hn : va_nd is = true) (K : Gn o D nc ns w' pc lv st) : Gn o D nc ns w pc lv st := by
  obtain ⟨p, l, e, R, s, m, args, below, meth, c, A, Q, nL⟩ := o
  intro H locs ls hP hD hS hl
  exact K H locs ls (hP.sub is h1) (hD.sub is hn h2) hS hl
theorem n_cret {S : Type} {post : S → Prop} {w' : S → va_W} (C : Cn o D tys own cc k nK mc ms) (I : Ci o) (hQ : RetC o D mc ms post w') (u : S) (hw : w = w' u) (hnc : nc ≤ mc) (hns : ns ≤ ms) (d : decode cc pc = .ok (.return_, 1)) (h : post u) : Gn o D nc ns w pc lv [] := by
  obtain ⟨p, l, e, R, s, m, args, below, meth, c, A, Q, nL⟩ := o
  obtain ⟨hx, hb, hml, hn', hown, hts, hK, hA, hN, hf, hlo, hce, hsl⟩ := C
  obtain ⟨i1, i2, i3⟩ := I
  have hQ : Q = MQ below (va_Qv post (fun u t => va_P D vwCl (w' u) t.heap ∧ va_D A (w' u)) A) args s mc ms A := hQ
  subst hQ
  subst hw
  intro H locs ls hP hD hS hl
  refine W.widen (k := mc) (n := ms) hnc hns ?_
  exact W.vret hx hb i2 (fun t ht hW => ⟨⟨u, rfl, h, by rw [ht]; exact hP, hD⟩, hS.F ht⟩) hS.2.2 d i3
end GN
