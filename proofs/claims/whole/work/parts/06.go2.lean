section GP
variable {o : Om} {D : va_G} {tys : List (ClassId × FieldType)} {wf : Sg → va_W} {own : String} {cc : ByteArray} {rt : Option FieldType} {k nK : Nat} {pc : Nat} {lv : List (Nat × Value)} {st : List Value} {f : Sg}
theorem g_get (C : Cx o D tys wf own cc rt k nK) {ref C1 : String} {T : u_T} {N ci idx : Nat} (hin : ∀ w ∈ u_ws C1 T N, w ∈ TB) (hc : vwCl[ci]? = some (C1, T, N)) (j : Nat) (hj : j < N) (wl : Cond.fieldLink own idx ref (T j).2.1 (T j).2.2.1 ∈ TB)
    (hs : (T j).1 = ref ∨ Cond.sameField ref (T j).1 (T j).2.1 (T j).2.2.1 ∈ TB) {q a : Nat} {fs : List Value} {v : Value} (he : (wf f)[q]? = some (a, .inr (ci, fs))) (hv : fs[j]? = some v) (d : decode cc pc = .ok (.getfield idx, 3)) (K : Go o D wf (pc + 3) lv (v :: st) f) : Go o D wf pc lv (.ref a :: st) f := by
  obtain ⟨p, l, e, R, s, m, args, below, meth, c, A, Q, nL⟩ := o
  obtain ⟨hx, hb, hml, hn, hown, hts, hr, hlocks, hK, hD, hA, hN, hR⟩ := C
  intro H locs ls hP hS hl
  refine va_get hx hb hts hin hown hK hP q he hc j hj (hts _ wl) ?_ hv d (K H locs ls hP hS hl)
  rcases hs with hs | hs
  · intro x h; rw [← hs]; exact h
  · exact fun x h => u_same (hts _ hs) x h
theorem g_getN (C : Cx o D tys wf own cc rt k nK) {ref C1 host : String} {T : u_T} {N ci idx : Nat} (hin : ∀ w ∈ u_ws C1 T N, w ∈ TB) (hc : vwCl[ci]? = some (C1, T, N)) (j : Nat) (hj : j < N) (wl : Cond.fieldLinkNest own idx ref (T j).2.1 (T j).2.2.1 host ∈ NW)
    (hs : (T j).1 = ref) {q a : Nat} {fs : List Value} {v : Value} (he : (wf f)[q]? = some (a, .inr (ci, fs))) (hv : fs[j]? = some v) (d : decode cc pc = .ok (.getfield idx, 3)) (K : Go o D wf (pc + 3) lv (v :: st) f) : Go o D wf pc lv (.ref a :: st) f := by
  obtain ⟨p, l, e, R, s, m, args, below, meth, c, A, Q, nL⟩ := o
  obtain ⟨hx, hb, hml, hn, hown, hts, hr, hlocks, hK, hD, hA, hN, hR⟩ := C
  intro H locs ls hP hS hl
  exact va_getN hx hb hts hin hown hK hP q he hc j hj (va_Nw.use rfl (hN _ wl)) (fun x h => by rw [← hs]; exact h) hv d (K H locs ls hP hS hl)
theorem g_put (C : Cx o D tys wf own cc rt k nK) {ref C1 : String} {T : u_T} {N ci idx : Nat} (hin : ∀ w ∈ u_ws C1 T N, w ∈ TB) (ty0 : Nat → FieldType) (hty : ∀ k, k < N → parseFieldDescriptor (T k).2.2.1 = some (ty0 k)) (hnm : ∀ a, a < N → ∀ b, b < N → a ≠ b → (T a).2.1 ≠ (T b).2.1) (hc : vwCl[ci]? = some (C1, T, N)) (j : Nat) (hj : j < N) (wl : Cond.fieldLink own idx ref (T j).2.1 (T j).2.2.1 ∈ TB)
    (hs : (T j).1 = ref ∨ Cond.sameField ref (T j).1 (T j).2.1 (T j).2.2.1 ∈ TB) (hfin : (T j).2.2.2 = false) {ty : FieldType} {q a : Nat} {fs : List Value} {x : Int32} {g : Sg} (hd : parseFieldDescriptor (T j).2.2.1 = some ty) (hn : narrow ty (.int x) = .int x) (hfit : fits ty (.int x) = true) (he : (wf f)[q]? = some (a, .inr (ci, fs))) (hl : j < fs.length) (hset : (wf f).set q (a, .inr (ci, fs.set j (.int x))) = wf g) (d : decode cc pc = .ok (.putfield idx, 3)) (K : Go o D wf (pc + 3) lv st g) : Go o D wf pc lv (.int x :: .ref a :: st) f := by
  obtain ⟨p, l, e, R, s, m, args, below, meth, c, A, Q, nL⟩ := o
  obtain ⟨hx, hb, hml, hn', hown, hts, hr, hlocks, hK, hD, hA, hN, hR⟩ := C
  intro H locs ls hP hS hl0
  refine va_put hx hb hts hin ty0 hty hnm hown hK hP (hD f) hS q he hc j hj (hts _ wl) ?_ hfin hd hn hfit hl d (fun H1 locs1 hP1 _ hS1 => K H1 locs1 ls (by rw [← hset]; exact hP1) hS1 hl0)
  rcases hs with hs | hs
  · intro x h; rw [← hs]; exact h
  · exact fun x h => u_same (hts _ hs) x h
theorem g_putN (C : Cx o D tys wf own cc rt k nK) {ref C1 host : String} {T : u_T} {N ci idx : Nat} (hin : ∀ w ∈ u_ws C1 T N, w ∈ TB) (ty0 : Nat → FieldType) (hty : ∀ k, k < N → parseFieldDescriptor (T k).2.2.1 = some (ty0 k)) (hnm : ∀ a, a < N → ∀ b, b < N → a ≠ b → (T a).2.1 ≠ (T b).2.1) (hc : vwCl[ci]? = some (C1, T, N)) (j : Nat) (hj : j < N) (wl : Cond.fieldLinkNest own idx ref (T j).2.1 (T j).2.2.1 host ∈ NW)
    (hs : (T j).1 = ref) (hfin : (T j).2.2.2 = false) {ty : FieldType} {q a : Nat} {fs : List Value} {x : Int32} {g : Sg} (hd : parseFieldDescriptor (T j).2.2.1 = some ty) (hn : narrow ty (.int x) = .int x) (hfit : fits ty (.int x) = true) (he : (wf f)[q]? = some (a, .inr (ci, fs))) (hl : j < fs.length) (hset : (wf f).set q (a, .inr (ci, fs.set j (.int x))) = wf g) (d : decode cc pc = .ok (.putfield idx, 3)) (K : Go o D wf (pc + 3) lv st g) : Go o D wf pc lv (.int x :: .ref a :: st) f := by
  obtain ⟨p, l, e, R, s, m, args, below, meth, c, A, Q, nL⟩ := o
  obtain ⟨hx, hb, hml, hn', hown, hts, hr, hlocks, hK, hD, hA, hN, hR⟩ := C
  intro H locs ls hP hS hl0
  exact va_putN hx hb hts hin ty0 hty hnm hown hK hP (hD f) hS q he hc j hj (va_Nw.use rfl (hN _ wl)) (fun x h => by rw [← hs]; exact h) hfin hd hn hfit hl d (fun H1 locs1 hP1 _ hS1 => K H1 locs1 ls (by rw [← hset]; exact hP1) hS1 hl0)
theorem g_iald (C : Cx o D tys wf own cc rt k nK) (t : Nat) {q a : Nat} {cA : ClassId} {n : Nat} {h : Nat → Int32} {i : Int32} (ha : (wf f)[q]? = some (a, .inl (cA, n, .inl h))) (ht : tys[t]? = some (cA, .int)) (hi : vp_in i n) (d : decode cc pc = .ok (.iaload, 1)) (K : Go o D wf (pc + 1) lv (.int (h i.toNatClampNeg) :: st) f) : Go o D wf pc lv (.int i :: .ref a :: st) f := by
  obtain ⟨p, l, e, R, s, m, args, below, meth, c, A, Q, nL⟩ := o
  obtain ⟨hx, hb, hml, hn, hown, hts, hr, hlocks, hK, hD, hA, hN, hR⟩ := C
  intro H locs ls hP hS hl
  exact va_iald hx hb hK hP q t ha ht hi d (K H locs ls hP hS hl)
theorem g_zald (C : Cx o D tys wf own cc rt k nK) (t : Nat) {q a : Nat} {cA : ClassId} {n : Nat} {h : Nat → Int32} {i : Int32} (ha : (wf f)[q]? = some (a, .inl (cA, n, .inl h))) (ht : tys[t]? = some (cA, .boolean)) (hi : vp_in i n) (d : decode cc pc = .ok (.baload, 1)) (K : Go o D wf (pc + 1) lv (.int (h i.toNatClampNeg) :: st) f) : Go o D wf pc lv (.int i :: .ref a :: st) f := by
  obtain ⟨p, l, e, R, s, m, args, below, meth, c, A, Q, nL⟩ := o
  obtain ⟨hx, hb, hml, hn, hown, hts, hr, hlocks, hK, hD, hA, hN, hR⟩ := C
  intro H locs ls hP hS hl
  exact va_zald hx hb hK hP q t ha ht hi d (K H locs ls hP hS hl)
theorem g_iast (C : Cx o D tys wf own cc rt k nK) (t : Nat) {q a : Nat} {cA : ClassId} {n : Nat} {h : Nat → Int32} {i x : Int32} {g : Sg} (ha : (wf f)[q]? = some (a, .inl (cA, n, .inl h))) (ht : tys[t]? = some (cA, .int)) (hset : (wf f).set q (a, .inl (cA, n, .inl (upd h i.toNatClampNeg x))) = wf g) (hi : vp_in i n) (d : decode cc pc = .ok (.iastore, 1)) (K : Go o D wf (pc + 1) lv st g) : Go o D wf pc lv (.int x :: .int i :: .ref a :: st) f := by
  obtain ⟨p, l, e, R, s, m, args, below, meth, c, A, Q, nL⟩ := o
  obtain ⟨hx, hb, hml, hn, hown, hts, hr, hlocks, hK, hD, hA, hN, hR⟩ := C
  intro H locs ls hP hS hl
  exact va_iast hx hb hK hP (hD f) hS q t ha ht hi d (fun H1 locs1 hP1 _ hS1 => K H1 locs1 ls (by rw [← hset]; exact hP1) hS1 hl)
theorem g_zast (C : Cx o D tys wf own cc rt k nK) (t : Nat) {q a : Nat} {cA : ClassId} {n : Nat} {h : Nat → Int32} {i x : Int32} {g : Sg} (ha : (wf f)[q]? = some (a, .inl (cA, n, .inl h))) (ht : tys[t]? = some (cA, .boolean)) (hset : (wf f).set q (a, .inl (cA, n, .inl (upd h i.toNatClampNeg (vp_nar .boolean x)))) = wf g) (hi : vp_in i n) (d : decode cc pc = .ok (.bastore, 1)) (K : Go o D wf (pc + 1) lv st g) : Go o D wf pc lv (.int x :: .int i :: .ref a :: st) f := by
  obtain ⟨p, l, e, R, s, m, args, below, meth, c, A, Q, nL⟩ := o
  obtain ⟨hx, hb, hml, hn, hown, hts, hr, hlocks, hK, hD, hA, hN, hR⟩ := C
  intro H locs ls hP hS hl
  exact va_zast hx hb hK hP (hD f) hS q t ha ht hi d (fun H1 locs1 hP1 _ hS1 => K H1 locs1 ls (by rw [← hset]; exact hP1) hS1 hl)
theorem g_alen (C : Cx o D tys wf own cc rt k nK) (t : Nat) {q a : Nat} {cA : ClassId} {x : vp_A} {ty : FieldType} {v : Int32} (ha : (wf f)[q]? = some (a, .inl (cA, x))) (ht : tys[t]? = some (cA, ty)) (hv : Int32.ofNat x.1 = v) (d : decode cc pc = .ok (.arraylength, 1)) (K : Go o D wf (pc + 1) lv (.int v :: st) f) : Go o D wf pc lv (.ref a :: st) f := by
  obtain ⟨p, l, e, R, s, m, args, below, meth, c, A, Q, nL⟩ := o
  obtain ⟨hx, hb, hml, hn, hown, hts, hr, hlocks, hK, hD, hA, hN, hR⟩ := C
  intro H locs ls hP hS hl
  exact va_alen hx hb hK hP q t ha ht hv d (K H locs ls hP hS hl)
theorem g_copy (C : Cx o D tys wf own cc rt k nK) {idx : Nat} (hk : 1 ≤ k) (w1 : Cond.methodLink own idx arraycopyName ∈ TB) (w2 : Cond.native arraycopyName ∈ TB) (w3 : Cond.static arraycopyName ∈ TB) (w4 : Cond.initialized "java/lang/System" ∈ TB) (t : Nat) {q0 q1 a0 a : Nat} {cA : ClassId} {n0 n1 : Nat} {h0 h1 : Nat → Int32} {g : Sg} (ha0 : (wf f)[q0]? = some (a0, .inl (cA, n0, .inl h0))) (ha1 : (wf f)[q1]? = some (a, .inl (cA, n1, .inl h1))) (ht : tys[t]? = some (cA, .int))
    {sp dp n : Int32} (e1 : ¬ sp < 0) (e2 : ¬ dp < 0) (e3 : ¬ n < 0) (e4 : sp.toNatClampNeg + n.toNatClampNeg ≤ n0) (e5 : dp.toNatClampNeg + n.toNatClampNeg ≤ n1) (hst : (st.map fun v => v.category).sum ≤ 8) (hset : (wf f).set q1 (a, .inl (cA, n1, .inl (va_cpy h0 h1 sp.toNatClampNeg dp.toNatClampNeg n.toNatClampNeg))) = wf g) (d : decode cc pc = .ok (.invokestatic idx, 3)) (K : Go o D wf (pc + 3) lv st g) : Go o D wf pc lv (.int n :: .int dp :: .ref a :: .int sp :: .ref a0 :: st) f := by
  obtain ⟨p, l, e, R, s, m, args, below, meth, c, A, Q, nL⟩ := o
  obtain ⟨hx, hb, hml, hn, hown, hts, hr, hlocks, hK, hD, hA, hN, hR⟩ := C
  subst hR
  intro H locs ls hP hS hl
  have hw : nativeFrameWords "java/lang/System" "arraycopy" 5 + 11 ≤ 52 := by decide
  refine va_copyi hx hb (by rw [hml]; exact hl.1.symm) hown (hts _ w1) (hts _ w2) (hts _ w3) (hts _ w4) hK hP (hD f) hS q0 q1 t t ha0 ha1 ht ht rfl e1 e2 e3 e4 e5 (fun i _ => rfl) hk ?_ d (fun H1 locs1 hP1 _ hS1 => K H1 locs1 ls (by rw [← hset]; exact hP1) hS1 hl)
  show _ ≤ 60 * k
  omega
theorem g_max (C : Cx o D tys wf own cc rt k nK) {idx : Nat} (hk : 1 ≤ k) (w1 : Cond.methodLink own idx yJ9_max_7cf53 ∈ TB) (w2 : Cond.static yJ9_max_7cf53 ∈ TB) (w3 : Cond.initialized RJ9 ∈ TB) (w4 : Cond.code yJ9_max_7cf53 cJ9_max_7cf53 2 (some .int) ∈ TB) {x y : Int32} (hst : (st.map fun v => v.category).sum ≤ 8) (d : decode cc pc = .ok (.invokestatic idx, 3)) (K : Go o D wf (pc + 3) lv (.int (if x < y then y else x) :: st) f) : Go o D wf pc lv (.int y :: .int x :: st) f := by
  obtain ⟨p, l, e, R, s, m, args, below, meth, c, A, Q, nL⟩ := o
  obtain ⟨hx, hb, hml, hn, hown, hts, hr, hlocks, hK, hD, hA, hN, hR⟩ := C
  subst hR
  intro H locs ls hP hS hl
  refine va_mmax hx hb (by rw [hml]; exact hl.1.symm) hown (hts _ w1) (hts _ w2) (hts _ w3) (hts _ w4) hk ?_ (Nat.zero_le _) (Nat.zero_le _) d (K H locs ls hP hS hl)
  show _ ≤ 60 * k
  omega
theorem g_min (C : Cx o D tys wf own cc rt k nK) {idx : Nat} (hk : 1 ≤ k) (w1 : Cond.methodLink own idx yJ9_min_7cf53 ∈ TB) (w2 : Cond.static yJ9_min_7cf53 ∈ TB) (w3 : Cond.initialized RJ9 ∈ TB) (w4 : Cond.code yJ9_min_7cf53 cJ9_min_7cf53 2 (some .int) ∈ TB) {x y : Int32} (hst : (st.map fun v => v.category).sum ≤ 8) (d : decode cc pc = .ok (.invokestatic idx, 3)) (K : Go o D wf (pc + 3) lv (.int (if y < x then y else x) :: st) f) : Go o D wf pc lv (.int y :: .int x :: st) f := by
  obtain ⟨p, l, e, R, s, m, args, below, meth, c, A, Q, nL⟩ := o
  obtain ⟨hx, hb, hml, hn, hown, hts, hr, hlocks, hK, hD, hA, hN, hR⟩ := C
  subst hR
  intro H locs ls hP hS hl
  refine va_mmin hx hb (by rw [hml]; exact hl.1.symm) hown (hts _ w1) (hts _ w2) (hts _ w3) (hts _ w4) hk ?_ (Nat.zero_le _) (Nat.zero_le _) d (K H locs ls hP hS hl)
  show _ ≤ 60 * k
  omega
/-- a switch: x is one of the listed values, and its place says where to go; or none, and the default does -/
theorem g_tsIn (C : Cx o D tys wf own cc rt k nK) {dflt lo hi : Int} {offs : Array Int} {len : Nat} {x : Int32} {off : Int} (tgt : Nat) (d : decode cc pc = .ok (.tableswitch dflt lo hi offs, len)) (h1 : ¬ x.toInt < lo) (h2 : ¬ hi < x.toInt) (ho : offs[(x.toInt - lo).toNat]? = some off) (ht : (pc : Int) + off = (tgt : Int)) (K : Go o D wf tgt lv st f) : Go o D wf pc lv (.int x :: st) f := by
  obtain ⟨p, l, e, R, s, m, args, below, meth, c, A, Q, nL⟩ := o
  intro H locs ls hP hS hl
  exact lv_tableIn C.1 C.2.1 d h1 h2 ho ht (K H locs ls hP hS hl)
theorem g_tsOut (C : Cx o D tys wf own cc rt k nK) {dflt lo hi : Int} {offs : Array Int} {len : Nat} {x : Int32} (tgt : Nat) (d : decode cc pc = .ok (.tableswitch dflt lo hi offs, len)) (h : x.toInt < lo ∨ hi < x.toInt) (ht : (pc : Int) + dflt = (tgt : Int)) (K : Go o D wf tgt lv st f) : Go o D wf pc lv (.int x :: st) f := by
  obtain ⟨p, l, e, R, s, m, args, below, meth, c, A, Q, nL⟩ := o
  intro H locs ls hP hS hl
  exact lv_tableOut C.1 C.2.1 d h ht (K H locs ls hP hS hl)
theorem g_look (C : Cx o D tys wf own cc rt k nK) {dflt : Int} {ps : Array (Int × Int)} {len : Nat} {x : Int32} {off : Int} (tgt : Nat) (d : decode cc pc = .ok (.lookupswitch dflt ps, len)) (hp : (ps.toList.zip (ps.toList.drop 1)).all (fun (a, next) => a.1 < next.1) = true) (ho : Op.lookupswitch.offset ps.toList dflt x.toInt = off) (ht : (pc : Int) + off = (tgt : Int)) (K : Go o D wf tgt lv st f) : Go o D wf pc lv (.int x :: st) f := by
  obtain ⟨p, l, e, R, s, m, args, below, meth, c, A, Q, nL⟩ := o
  intro H locs ls hP hS hl
  exact lv_lookup C.1 C.2.1 d hp ho ht (K H locs ls hP hS hl)
end GP
theorem i32_ne_toInt {x : Int32} {c : Int} (hc : (Int32.ofInt c).toInt = c) (h : ¬ x = Int32.ofInt c) : ¬ x.toInt = c := fun q => h (by rw [← q]; exact (Int32.ofInt_toInt x).symm)
/-! calls -/
theorem gTB {z : MethodName} {bz : ByteArray} {mz : Nat} {rz : Option FieldType} (hz : Cond.code z bz mz rz ∈ TB) : GoodIn TB (.code z bz mz rz :: TB) := by
  intro w hw
  have hm : w ∈ TB := by
    rcases List.mem_cons.mp hw with rfl | h
    · exact hz
    · exact h
  exact ⟨hm, good_of_word (List.mem_filter.mp hm).2⟩
/-- what a call of y asks of the tables -/
abbrev CwB (own : String) (idx : Nat) (y : MethodName) (bz : ByteArray) (mz : Nat) (rz : Option FieldType) (n : Nat) : Prop :=
  Cond.methodLink own idx y ∈ TB ∧ Cond.code y bz mz rz ∈ TB ∧ Cond.initialized y.cls ∈ TB ∧ (y.cls ≠ "java/lang/invoke/MethodHandle" ∧ y.cls ≠ "java/lang/invoke/VarHandle" ∧ (parseMethodDescriptor y.desc).map (fun d => d.parameters.length) = some n) ∧ mz ≤ 40
abbrev CwV (own : String) (idx : Nat) (y : MethodName) (bz : ByteArray) (mz : Nat) (rz : Option FieldType) (n : Nat) (C1 : String) : Prop :=
  CwB own idx y bz mz rz n ∧ Cond.instanceMethod y ∈ TB ∧ Cond.selects C1 y y ∈ TB
abbrev CwS (own : String) (idx : Nat) (y : MethodName) (bz : ByteArray) (mz : Nat) (rz : Option FieldType) (n : Nat) : Prop :=
  CwB own idx y bz mz rz n ∧ Cond.static y ∈ TB
abbrev CwN (own : String) (idx : Nat) (y : MethodName) (bz : ByteArray) (mz : Nat) (rz : Option FieldType) (n : Nat) (host : String) : Prop :=
  Cond.methodLinkNest own idx y host ∈ NW ∧ Cond.code y bz mz rz ∈ TB ∧ Cond.initialized y.cls ∈ TB ∧ (y.cls ≠ "java/lang/invoke/MethodHandle" ∧ y.cls ≠ "java/lang/invoke/VarHandle" ∧ (parseMethodDescriptor y.desc).map (fun d => d.parameters.length) = some n) ∧ mz ≤ 40 ∧ Cond.static y ∈ TB
/-- a call by a name x that the class C1 answers with y; 'owner' declares x -/
abbrev CwU (own : String) (idx : Nat) (x y : MethodName) (owner : String) (bz : ByteArray) (mz : Nat) (rz : Option FieldType) (n : Nat) (C1 : String) : Prop :=
  Cond.methodLink own idx x ∈ TB ∧ Cond.sameMethod x.cls owner x.name x.desc ∈ TB ∧ Cond.selects C1 x y ∈ TB ∧ Cond.instanceMethod y ∈ TB ∧ Cond.initialized y.cls ∈ TB ∧ Cond.code y bz mz rz ∈ TB ∧ (owner ≠ "java/lang/invoke/MethodHandle" ∧ owner ≠ "java/lang/invoke/VarHandle" ∧ (parseMethodDescriptor x.desc).map (fun d => d.parameters.length) = some n) ∧ mz ≤ 40 ∧ (y = ⟨owner, x.name, x.desc⟩ ∨ Cond.declares ⟨owner, x.name, x.desc⟩ ∈ NW)
theorem rk_room {k1 k mz : Nat} (hk : k1 + 1 ≤ k) (hm : mz ≤ 40) : (rk k1).frames + 1 ≤ (rk k).frames ∧ 8 + (mz + 11) + (rk k1).locals ≤ (rk k).locals := by
  refine ⟨hk, ?_⟩
  show 8 + (mz + 11) + 60 * k1 ≤ 60 * k
  omega
section GC
variable {o : Om} {D : va_G} {tys : List (ClassId × FieldType)} {wf : Sg → va_W} {own : String} {cc : ByteArray} {rt : Option FieldType} {k nK : Nat} {pc : Nat} {lv : List (Nat × Value)} {st stk : List Value} {f : Sg} {y x : MethodName} {bz : ByteArray} {mz idx n k1 b : Nat} {rz : Option FieldType} {As : List Value} {C1 host owner : String}
theorem CwB.callB {R : Room} {s : State} {args : Array Value} (w : CwB own idx y bz mz rz n) (hts : ∀ w ∈ TB, w.before args s = true) (hR : R = rk k) (hk : k1 + 1 ≤ k) : CallB R s args own idx y bz mz rz (.code y bz mz rz :: TB) (rk k1) 0 0 n := by
  obtain ⟨w1, w2, w3, w4, w5⟩ := w
  subst hR
  exact callB_of n hts (gTB w2) rfl rfl rfl (hts _ w3) (hts _ w1) w4 (rk_room hk w5)
theorem Inw.pre {s U : State} {H : Heap} (hP : va_P D vwCl (wf f) H) (hK : va_K D vwCl tys s) (hD : va_D (fun _ => True) (wf f)) (hN : Nst s) (hU : U.heap = H) (hW : s.WarmedH U.vm) : Inw D tys wf f H.size U :=
  ⟨by rw [hU], by rw [hU]; exact hP, va_K.moved hW.alike hK, hD, hN.warm hW⟩
theorem free_in {A : Nat → Prop} {H0 H : Heap} {locs : List Loc} (hD : va_D A (wf f)) (hS : va_S A H0 H locs) (hA : ∀ q, H0.size ≤ q → A q) : ∀ q, va_A (wf f) H.size q → A q := by
  intro q h
  rcases h with ⟨i, e, h⟩ | h
  · exact hD.2 i _ h
  · exact hA q (Nat.le_trans hS.1 h)
theorem g_callVi (C : Cx o D tys wf own cc rt k nK) {Qf : Int32 → Sg → Prop} (hM : ∀ l, MI l D tys wf y bz mz rz k1 (.ref b :: As) f Qf) (w : CwV own idx y bz mz rz As.length C1) {ci q : Nat} {T : u_T} {N : Nat} {fs : List Value} (hc : vwCl[ci]? = some (C1, T, N)) (he : (wf f)[q]? = some (b, .inr (ci, fs))) (hk : k1 + 1 ≤ k) (hstk : stk = As.reverse ++ .ref b :: st) (hst : (st.map fun v => v.category).sum ≤ 8) (d : decode cc pc = .ok (.invokevirtual idx, 3))
    (K : ∀ (r : Int32) (g : Sg), Qf r g → Go o D wf (pc + 3) lv (.int r :: st) g) : Go o D wf pc lv stk f := by
  obtain ⟨p, l, e, R, s, m, args, below, meth, c, A, Q, nL⟩ := o
  obtain ⟨hx, hb, hml, hn, hown, hts, hr, hlocks, hK, hD, hA, hN, hR⟩ := C
  subst hstk
  intro H locs ls hP hS hl
  have hF := free_in (hD f) hS hA
  refine va_calli (va_runV (As := As) (rest := st) ⟨hx, hb, hml, hown, hts⟩ (hM l H.size) ⟨w.1.callB hts hR hk, hts _ w.2.1, hts _ w.2.2⟩ ⟨Inw.blind, va_recv hK hP hc he, fun U hU hW => ⟨rfl, Inw.pre hP hK ((hD f).weaken (fun _ _ _ _ => trivial)) hN hU hW⟩⟩ rfl rfl hl.1 rfl (lv_room hst) d ⟨Nat.zero_le _, Nat.zero_le _⟩) hS (fun q _ h => hF q h) hF (fun r g t H1 locs1 ht _ hq hB _ _ hS1 => ?_)
  exact K r g hq H1 locs1 ls (by rw [← ht]; exact hB) hS1 hl
theorem g_callVv (C : Cx o D tys wf own cc rt k nK) {Qf : Sg → Prop} (hM : ∀ l, MV l D tys wf y bz mz k1 (.ref b :: As) f Qf) (w : CwV own idx y bz mz none As.length C1) {ci q : Nat} {T : u_T} {N : Nat} {fs : List Value} (hc : vwCl[ci]? = some (C1, T, N)) (he : (wf f)[q]? = some (b, .inr (ci, fs))) (hk : k1 + 1 ≤ k) (hstk : stk = As.reverse ++ .ref b :: st) (hst : (st.map fun v => v.category).sum ≤ 8) (d : decode cc pc = .ok (.invokevirtual idx, 3))
    (K : ∀ (g : Sg), Qf g → Go o D wf (pc + 3) lv st g) : Go o D wf pc lv stk f := by
  obtain ⟨p, l, e, R, s, m, args, below, meth, c, A, Q, nL⟩ := o
  obtain ⟨hx, hb, hml, hn, hown, hts, hr, hlocks, hK, hD, hA, hN, hR⟩ := C
  subst hstk
  intro H locs ls hP hS hl
  have hF := free_in (hD f) hS hA
  refine va_callv (va_runV (As := As) (rest := st) ⟨hx, hb, hml, hown, hts⟩ (hM l H.size) ⟨w.1.callB hts hR hk, hts _ w.2.1, hts _ w.2.2⟩ ⟨Inw.blind, va_recv hK hP hc he, fun U hU hW => ⟨rfl, Inw.pre hP hK ((hD f).weaken (fun _ _ _ _ => trivial)) hN hU hW⟩⟩ rfl rfl hl.1 rfl (lv_room hst) d ⟨Nat.zero_le _, Nat.zero_le _⟩) hS (fun q _ h => hF q h) hF (fun g t H1 locs1 ht _ hq hB _ _ hS1 => ?_)
  exact K g hq H1 locs1 ls (by rw [← ht]; exact hB) hS1 hl
theorem g_callSi (C : Cx o D tys wf own cc rt k nK) {Qf : Int32 → Sg → Prop} (hM : ∀ l, MI l D tys wf y bz mz rz k1 As f Qf) (w : CwS own idx y bz mz rz As.length) (hk : k1 + 1 ≤ k) (hstk : stk = As.reverse ++ st) (hst : (st.map fun v => v.category).sum ≤ 8) (d : decode cc pc = .ok (.invokestatic idx, 3))
    (K : ∀ (r : Int32) (g : Sg), Qf r g → Go o D wf (pc + 3) lv (.int r :: st) g) : Go o D wf pc lv stk f := by
  obtain ⟨p, l, e, R, s, m, args, below, meth, c, A, Q, nL⟩ := o
  obtain ⟨hx, hb, hml, hn, hown, hts, hr, hlocks, hK, hD, hA, hN, hR⟩ := C
  subst hstk
  intro H locs ls hP hS hl
  have hF := free_in (hD f) hS hA
  refine va_calli (va_runS (As := As) (rest := st) ⟨hx, hb, hml, hown, hts⟩ (hM l H.size) ⟨w.1.callB hts hR hk, hts _ w.2⟩ ⟨Inw.blind, fun U hU hW => ⟨rfl, Inw.pre hP hK ((hD f).weaken (fun _ _ _ _ => trivial)) hN hU hW⟩⟩ rfl rfl hl.1 rfl (lv_room hst) d ⟨Nat.zero_le _, Nat.zero_le _⟩) hS (fun q _ h => hF q h) hF (fun r g t H1 locs1 ht _ hq hB _ _ hS1 => ?_)
  exact K r g hq H1 locs1 ls (by rw [← ht]; exact hB) hS1 hl
theorem g_callNi (C : Cx o D tys wf own cc rt k nK) {Qf : Int32 → Sg → Prop} (hM : ∀ l, MI l D tys wf y bz mz rz k1 As f Qf) (w : CwN own idx y bz mz rz As.length host) (hk : k1 + 1 ≤ k) (hstk : stk = As.reverse ++ st) (hst : (st.map fun v => v.category).sum ≤ 8) (d : decode cc pc = .ok (.invokestatic idx, 3))
    (K : ∀ (r : Int32) (g : Sg), Qf r g → Go o D wf (pc + 3) lv (.int r :: st) g) : Go o D wf pc lv stk f := by
  obtain ⟨p, l, e, R, s, m, args, below, meth, c, A, Q, nL⟩ := o
  obtain ⟨hx, hb, hml, hn, hown, hts, hr, hlocks, hK, hD, hA, hN, hR⟩ := C
  subst hstk hR
  intro H locs ls hP hS hl
  have hF := free_in (hD f) hS hA
  obtain ⟨w1, w2, w3, w4, w5, w6⟩ := w
  refine va_calli (va_runSN (As := As) (rest := st) ⟨hx, hb, hml, hown, hts⟩ (hM l H.size) ⟨va_cnB As.length hts (gTB w2) rfl rfl rfl (hN _ w1) (hts _ w3) w4 (rk_room hk w5), hts _ w6, trivial⟩ ⟨Inw.blind, fun U hU hW => ⟨rfl, Inw.pre hP hK ((hD f).weaken (fun _ _ _ _ => trivial)) hN hU hW⟩⟩ rfl rfl hl.1 rfl (lv_room hst) d ⟨Nat.zero_le _, Nat.zero_le _⟩) hS (fun q _ h => hF q h) hF (fun r g t H1 locs1 ht _ hq hB _ _ hS1 => ?_)
  exact K r g hq H1 locs1 ls (by rw [← ht]; exact hB) hS1 hl
theorem CwU.cu {R : Room} {s : State} {args : Array Value} (w : CwU own idx x y owner bz mz rz n C1) (hts : ∀ w ∈ TB, w.before args s = true) (hN : Nst s) (hR : R = rk k) (hk : k1 + 1 ≤ k) : va_CU R s args own C1 owner idx x y bz mz rz (.code y bz mz rz :: TB) (rk k1) 0 0 n := by
  obtain ⟨w1, w2, w3, w4, w5, w6, w7, w8, w9⟩ := w
  subst hR
  have hG : GoodIn TB (va_wsU own idx C1 owner x y (.code y bz mz rz :: TB)) := by
    intro w hw
    rcases List.mem_append.mp hw with h | h
    · have hm : w ∈ TB := by
        simp only [List.mem_cons, List.not_mem_nil, or_false] at h
        rcases h with rfl | rfl | rfl | rfl | rfl
        · exact w1
        · exact w2
        · exact w3
        · exact w4
        · exact w5
      exact ⟨hm, good_of_word (List.mem_filter.mp hm).2⟩
    · exact gTB w6 w h
  rcases w9 with h9 | h9
  · exact va_cwU n hts hG rfl rfl rfl h9 w7 (rk_room hk w8)
  · exact va_cwA n hts hG rfl rfl rfl (hN _ h9) w7 (rk_room hk w8)
theorem g_callUi (C : Cx o D tys wf own cc rt k nK) {Qf : Int32 → Sg → Prop} (hM : ∀ l, MI l D tys wf y bz mz rz k1 (.ref b :: As) f Qf) (w : CwU own idx x y owner bz mz rz As.length C1) {ci q : Nat} {T : u_T} {N : Nat} {fs : List Value} (hc : vwCl[ci]? = some (C1, T, N)) (he : (wf f)[q]? = some (b, .inr (ci, fs))) (hk : k1 + 1 ≤ k) (hstk : stk = As.reverse ++ .ref b :: st) (hst : (st.map fun v => v.category).sum ≤ 8) (d : decode cc pc = .ok (.invokevirtual idx, 3))
    (K : ∀ (r : Int32) (g : Sg), Qf r g → Go o D wf (pc + 3) lv (.int r :: st) g) : Go o D wf pc lv stk f := by
  obtain ⟨p, l, e, R, s, m, args, below, meth, c, A, Q, nL⟩ := o
  obtain ⟨hx, hb, hml, hn, hown, hts, hr, hlocks, hK, hD, hA, hN, hR⟩ := C
  subst hstk
  intro H locs ls hP hS hl
  have hF := free_in (hD f) hS hA
  refine va_calli (va_runU (As := As) (rest := st) ⟨hx, hb, hml, hown, hts⟩ (hM l H.size) (w.cu hts hN hR hk) ⟨Inw.blind, va_recv hK hP hc he, fun U hU hW => ⟨rfl, Inw.pre hP hK ((hD f).weaken (fun _ _ _ _ => trivial)) hN hU hW⟩⟩ rfl rfl hl.1 rfl (lv_room hst) d ⟨Nat.zero_le _, Nat.zero_le _⟩) hS (fun q _ h => hF q h) hF (fun r g t H1 locs1 ht _ hq hB _ _ hS1 => ?_)
  exact K r g hq H1 locs1 ls (by rw [← ht]; exact hB) hS1 hl
theorem g_callUv (C : Cx o D tys wf own cc rt k nK) {Qf : Sg → Prop} (hM : ∀ l, MV l D tys wf y bz mz k1 (.ref b :: As) f Qf) (w : CwU own idx x y owner bz mz none As.length C1) {ci q : Nat} {T : u_T} {N : Nat} {fs : List Value} (hc : vwCl[ci]? = some (C1, T, N)) (he : (wf f)[q]? = some (b, .inr (ci, fs))) (hk : k1 + 1 ≤ k) (hstk : stk = As.reverse ++ .ref b :: st) (hst : (st.map fun v => v.category).sum ≤ 8) (d : decode cc pc = .ok (.invokevirtual idx, 3))
    (K : ∀ (g : Sg), Qf g → Go o D wf (pc + 3) lv st g) : Go o D wf pc lv stk f := by
  obtain ⟨p, l, e, R, s, m, args, below, meth, c, A, Q, nL⟩ := o
  obtain ⟨hx, hb, hml, hn, hown, hts, hr, hlocks, hK, hD, hA, hN, hR⟩ := C
  subst hstk
  intro H locs ls hP hS hl
  have hF := free_in (hD f) hS hA
  refine va_callv (va_runU (As := As) (rest := st) ⟨hx, hb, hml, hown, hts⟩ (hM l H.size) (w.cu hts hN hR hk) ⟨Inw.blind, va_recv hK hP hc he, fun U hU hW => ⟨rfl, Inw.pre hP hK ((hD f).weaken (fun _ _ _ _ => trivial)) hN hU hW⟩⟩ rfl rfl hl.1 rfl (lv_room hst) d ⟨Nat.zero_le _, Nat.zero_le _⟩) hS (fun q _ h => hF q h) hF (fun g t H1 locs1 ht _ hq hB _ _ hS1 => ?_)
  exact K g hq H1 locs1 ls (by rw [← ht]; exact hB) hS1 hl
end GC
