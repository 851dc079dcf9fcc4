/-! what the tables say at the law's entry -/
theorem sel_goOn {args : Array Value} {s : State} (hts : ∀ w ∈ lw_tbl, w.before args s = true) {C1 : String} {n : Nat} (hins : Cond.instantiable C1 n ∈ lw_tbl) : (Cond.selects C1 yX8_goOn yX8_goOn).before args s = true := by
  have hT : ∀ w ∈ tables_1, w.before args s = true := fun w hw => hts w (List.mem_append_right _ hw)
  have hpriv : (Cond.privateMethod yX8_goOn).before args s = true := hT _ (List.mem_of_getElem? (i := 419) (by decide +kernel))
  have hinst : (Cond.instanceMethod yX8_goOn).before args s = true := hT _ (List.mem_of_getElem? (i := 420) (by decide +kernel))
  have hfor : (Cond.selects RX2 (⟨RX2, "forget", "()V"⟩ : MethodName) yX8_forget).before args s = true := hT _ (List.mem_of_getElem? (i := 297) (by decide +kernel))
  obtain ⟨c, k, hc, -, -, -, -, -⟩ := Cond.instantiable_spec (hts _ hins)
  obtain ⟨mk, methM, hnamed, hmethM, -, -⟩ := Cond.instanceMethod_spec hinst
  have hfound : s.methodFound? yX8_goOn.cls yX8_goOn.name yX8_goOn.desc = some mk := State.methodFound?_of_named hnamed (by decide +kernel)
  have hsel : selectMethod {} s.vm c mk = .method mk := selectMethod_private hmethM (Cond.privateMethod_at hpriv mk methM hnamed hmethM)
  obtain ⟨c2, r2, m2, -, -, h3, -, mk2, h5, h6⟩ := Cond.selects_spec hfor
  have e1 : s.vm.findClass RX8 = some mk.cls := findClass_of_methodNamed hnamed
  have e2 : s.vm.findClass RX8 = some m2.cls := findClass_of_methodNamed h3
  have hcls : mk.cls = m2.cls := Option.some.inj (e1.symm.trans e2)
  simp only [Cond.before, Cond.holds, Cond.value, hc, hfound, hnamed, hsel, hcls, h5]
  simp; exact h6
theorem tb_all {args : Array Value} {s : State} (hts : ∀ w ∈ lw_tbl, w.before args s = true) : ∀ w ∈ TB, w.before args s = true := by
  intro w hw
  have hw := (List.mem_filter.mp hw).1
  rcases List.mem_append.mp hw with h | h
  · simp only [XS, List.mem_cons, List.not_mem_nil, or_false] at h
    rcases h with rfl | rfl | rfl | rfl
    · exact sel_goOn hts (n := 7) (List.mem_append_right _ (List.mem_of_getElem? (i := 170) (by decide +kernel)))
    · exact sel_goOn hts (n := 7) (List.mem_append_right _ (List.mem_of_getElem? (i := 211) (by decide +kernel)))
    · exact sel_goOn hts (n := 11) (List.mem_append_right _ (List.mem_of_getElem? (i := 104) (by decide +kernel)))
    · exact sel_goOn hts (n := 6) (List.mem_append_right _ (List.mem_of_getElem? (i := 193) (by decide +kernel)))
  · exact hts w h
theorem nst_all {args : Array Value} {s : State} (hts : ∀ w ∈ lw_tbl, w.before args s = true) : Nst s := fun w hw => va_Nw.of (nest_on (List.mem_filter.mp hw).2) (hts w (List.mem_append_right _ (List.mem_filter.mp hw).1))
theorem arr_of {args : Array Value} {s : State} {ty : FieldType} (hp : ty = .int ∨ ty = .boolean) (h : (Cond.arrayClass ty).before args s = true) : ∃ cA : ClassId, ArrOfT s cA ty ∧ va_RA s cA ty := by
  obtain ⟨cA, kA, comp, h1, h2, h3⟩ := Cond.arrayClass_spec h
  refine ⟨cA, fun n z => ⟨fun k h => (by cases h), kA, h2, comp, h3⟩, ?_⟩
  rcases hp with rfl | rfl <;> exact h1
theorem k_all {args : Array Value} {s : State} (hts : ∀ w ∈ TB, w.before args s = true) : ∃ (D : va_G) (cI cZ : ClassId), va_K D vwCl [(cI, .int), (cZ, .boolean)] s := by
  obtain ⟨c0, i0, k0⟩ := u_known hts in_X0 (hts _ tb_170)
  obtain ⟨c1, i1, k1⟩ := u_known hts in_X1 (hts _ tb_211)
  obtain ⟨c2, i2, k2⟩ := u_known hts in_X2 (hts _ tb_104)
  obtain ⟨c3, i3, k3⟩ := u_known hts in_X3 (hts _ tb_193)
  obtain ⟨c4, i4, k4⟩ := u_known hts in_X4 (hts _ tb_58)
  obtain ⟨c5, i5, k5⟩ := u_known hts in_X5 (hts _ tb_24)
  obtain ⟨c6, i6, k6⟩ := u_known hts in_X6 (hts _ tb_74)
  obtain ⟨c7, i7, k7⟩ := u_known hts in_X7 (hts _ tb_233)
  obtain ⟨c8, i8, k8⟩ := u_known hts in_X9 (hts _ tb_16)
  obtain ⟨c9, i9, k9⟩ := u_known hts in_X10 (hts _ tb_615)
  obtain ⟨cI, a1, a2⟩ := arr_of (Or.inl rfl) (hts _ tb_56)
  obtain ⟨cZ, b1, b2⟩ := arr_of (Or.inr rfl) (hts _ tb_669)
  refine ⟨(fun k => ([c0, c1, c2, c3, c4, c5, c6, c7, c8, c9] : List ClassId).getD k c0, fun k => ([i0, i1, i2, i3, i4, i5, i6, i7, i8, i9] : List (Nat → Nat)).getD k i0), cI, cZ, ?_, ?_⟩
  · intro k q hq
    match k, hq with
    | 0, hq => cases hq; exact k0
    | 1, hq => cases hq; exact k1
    | 2, hq => cases hq; exact k2
    | 3, hq => cases hq; exact k3
    | 4, hq => cases hq; exact k4
    | 5, hq => cases hq; exact k5
    | 6, hq => cases hq; exact k6
    | 7, hq => cases hq; exact k7
    | 8, hq => cases hq; exact k8
    | 9, hq => cases hq; exact k9
    | k + 10, hq => simp [vwCl] at hq
  · intro k q hq
    match k, hq with
    | 0, hq => cases hq; exact ⟨a1, a2⟩
    | 1, hq => cases hq; exact ⟨b1, b2⟩
    | k + 2, hq => simp at hq
theorem no_img {P : Pl → Prop} : ∀ p : Pl, (none : Option Pl) = some p → P p := fun _ h => nomatch h
/-- a new object and a new reference agree -/
theorem inv_zero {f : Sg} (h : P1 f p0) (z : ZC f) : Inv f g0 := by
  obtain ⟨z1, z2, z3, z4, z5, z6, z7, z8, z9⟩ := z
  refine ⟨p0, [], none, none, ?_, ?_, no_img, no_img, ⟨h, ?_, ⟨z1, no_img, no_img⟩, ⟨z3, z4, z5⟩, Or.inl z6, Or.inl z7, Or.inl z8, Or.inl z9⟩, ?_, ?_, ⟨rfl, rfl⟩, no_img, no_img⟩
  · exact ⟨by decide +kernel, by decide +kernel, by decide +kernel⟩
  · exact ⟨Nat.zero_le _, fun i c hi => absurd hi (Nat.not_lt_zero _)⟩
  · exact ⟨z2, fun i hi => absurd hi (Nat.not_lt_zero _)⟩
  · exact ⟨by decide +kernel, by decide +kernel⟩
  · exact ⟨rfl, fun i hi => absurd hi (Nat.not_lt_zero _)⟩
