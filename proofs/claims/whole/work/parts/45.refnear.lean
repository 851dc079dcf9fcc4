/-! near, with a local number beside the cells -/
theorem r_enumB {β : Type} {p : Pl} (ok : POk p) {W : Nat → Sg → β → Int32 → Prop} {St : Sg → β → List (List Nat) → Prop}
    (hv : ∀ n f b done o rest, done ++ o :: rest = AO p → o.length = tot p → Cls o → RR f o → St f b done → (∀ g b', RR g o → St g b' (done ++ [o]) → M_X10_nextOrder_0 g (fun r g2 => W n g2 b' r)) → W (n + 1) f b 1)
    (hs : ∀ f g b done, Eqx [5] f g → St f b done → St g b done) (hend : ∀ n g b, St g b (AO p) → W (n + 1) g b 0) :
    ∀ (rest : List (List Nat)) (done : List (List Nat)) (o : List Nat) (f : Sg) (b : β), done ++ o :: rest = AO p → RR f o → St f b done → W (rest.length + 2) f b 1 := by
  have ht := ok.2.2
  obtain ⟨c1, c2, c3⟩ := ords_chn (tot p) (pDm p) rfl
  intro rest
  induction rest with
  | nil =>
    intro done o f b hd hr hS
    have ho : o ∈ AO p := by rw [← hd]; simp
    obtain ⟨l1, l2⟩ := AO_mem ho
    refine hv 1 f b done o [] hd l1 l2 hr hS (fun g b' rg Sg' => ?_)
    have hlast : o = dsr (pDm p) 0 5 := by
      have : (done ++ [o]).getLast? = some o := by simp
      rw [hd] at this
      exact Option.some.inj (this.symm.trans c3)
    refine r_nextNo (by omega) l2 rg (by rw [hlast]; exact dsr_ninc _ _ _) ?_
    exact hend 0 g b' (by rw [← hd]; exact Sg')
  | cons o' rest ih =>
    intro done o f b hd hr hS
    have ho : o ∈ AO p := by rw [← hd]; simp
    obtain ⟨l1, l2⟩ := AO_mem ho
    refine hv (rest.length + 2) f b done o (o' :: rest) hd l1 l2 hr hS (fun g b' rg Sg' => ?_)
    have hc : Chn (o :: o' :: rest) := Chn.drop (L := done) (by rw [hd]; exact c1)
    refine r_nextYes (by omega) l2 rg hc.1 (fun g2 x2 r2 => ?_)
    exact ih (done ++ [o]) o' g2 b' (by rw [← hd]; simp) r2 (hs g g2 b' _ x2 Sg')
theorem r_enumB0 {β : Type} {p : Pl} (ok : POk p) {W : Nat → Sg → β → Int32 → Prop} {St : Sg → β → List (List Nat) → Prop}
    (hv : ∀ n f b done o rest, done ++ o :: rest = AO p → o.length = tot p → Cls o → RR f o → St f b done → (∀ g b', RR g o → St g b' (done ++ [o]) → M_X10_nextOrder_0 g (fun r g2 => W n g2 b' r)) → W (n + 1) f b 1)
    (hs : ∀ f g b done, Eqx [5] f g → St f b done → St g b done) (hend : ∀ n g b, St g b (AO p) → W (n + 1) g b 0) (f : Sg) (b : β) (hr : RR f (dsr (pDm p) 0 5).reverse) (hS : St f b []) : ∃ n, W n f b 1 := by
  obtain ⟨c1, c2, c3⟩ := ords_chn (tot p) (pDm p) rfl
  cases hL : AO p with
  | nil => rw [show ords (tot p) (pDm p) = AO p from rfl, hL] at c2; cases c2
  | cons o rest =>
    have : o = (dsr (pDm p) 0 5).reverse := by
      rw [show ords (tot p) (pDm p) = AO p from rfl, hL] at c2
      exact Option.some.inj c2
    refine ⟨rest.length + 2, r_enumB ok hv hs hend rest [] o f b (by rw [hL]; rfl) (by rw [this]; exact hr) hS⟩
def cntF (p : Pl) (L : List (List Nat)) : Nat := (L.filter (fun o => decide (bks p o = 0))).length
theorem cntF_app (p : Pl) (L : List (List Nat)) (o : List Nat) : cntF p (L ++ [o]) = cntF p L + (if bks p o = 0 then 1 else 0) := by
  unfold cntF
  rw [List.filter_append, List.length_append]
  congr 1
  by_cases q : bks p o = 0 <;> simp [q]
theorem cntF_le (p : Pl) (L : List (List Nat)) : cntF p L ≤ L.length := List.length_filter_le _ _
def s14 (p : Pl) (L : List (List Nat)) : S14 := L.foldl (nt14 p) (0, [], 0, [], fun _ => 0)
theorem s14_app (p : Pl) (L : List (List Nat)) (o : List Nat) : s14 p (L ++ [o]) = nt14 p (s14 p L) o := by unfold s14; rw [List.foldl_append]; rfl
theorem list_snoc_ind {P : List (List Nat) → Prop} (h0 : P []) (h1 : ∀ L o, P L → P (L ++ [o])) (L : List (List Nat)) : P L := by
  have : ∀ M : List (List Nat), P M.reverse := by
    intro M
    induction M with
    | nil => exact h0
    | cons a M ih => rw [List.reverse_cons]; exact h1 _ _ ih
  have h := this L.reverse
  rw [List.reverse_reverse] at h
  exact h
theorem s14_1 (p : Pl) (L : List (List Nat)) : (s14 p L).1 = nI (cntF p L) := by
  refine list_snoc_ind (P := fun L => (s14 p L).1 = nI (cntF p L)) rfl (fun L o ih => ?_) L
  rw [s14_app, cntF_app]
  unfold nt14
  by_cases q : bks p o = 0
  · rw [if_pos q, if_pos q, ← nI_1, ← ih]
  · rw [if_neg q, if_neg q, ih]; rfl
theorem sF_s14 (p : Pl) (L : List (List Nat)) : sF p L = ((s14 p L).1, (s14 p L).2.1, (s14 p L).2.2.2.2) := by
  refine list_snoc_ind (P := fun L => sF p L = ((s14 p L).1, (s14 p L).2.1, (s14 p L).2.2.2.2)) rfl (fun L o ih => ?_) L
  rw [s14_app, sF_app, ih]
  unfold nt14 ntF
  by_cases q : bks p o = 0
  · rw [if_pos q, if_pos q]
  · rw [if_neg q, if_neg q]
def StN (p : Pl) (f0 f : Sg) (b : Int32) (done : List (List Nat)) : Prop := Eqx [0, 5, 6, 8] f0 f ∧ Fld [6, 9] f0 f ∧ f 0 6 = nI (tot p) ∧ (cntF p done = 0 → f 0 9 = 0 ∧ b = -6) ∧ (cntF p done ≠ 0 → f 0 9 = 1 ∧ b = nI (s14 p done).2.2.1 ∧ (s14 p done).2.2.1 ≤ 9 ∧ keepsRow p (f 6) (s14 p done).2.2.2.1)
theorem r_n52 {p : Pl} (ok : POk p) {f0 f : Sg} {o : List Nat} {done : List (List Nat)} {x1 : Int32} {Q : Int32 → Sg → Prop} {K : Sg → Int32 → Int32 → Int32 → Prop} (hol : o.length = tot p) (hr : RR f o) (h1 : Eqx [0, 5, 6, 8] f0 f) (h2 : Fld [6, 9] f0 f) (h0 : bks p o = 0) (hn : cntF p done = 0 ∨ offc p o (tot p) < (s14 p done).2.2.1) (hlen : done.length < 2000000)
    (h : ∀ g, RR g o → StN p f0 g (nI (offc p o (tot p))) (done ++ [o]) → M_X10_nextOrder_0 g (fun r g2 => K g2 x1 (nI (offc p o (tot p))) r)) : J_X10_near_0_52 Q K f x1 (nI (offc p o (tot p))) := by
  have ht := ok.2.2
  intro g17 e17
  subst e17
  refine r_keepBest (p := p) hol ht (f := va_up f 0 (upd (f 0) 9 1)) ⟨hr.1, hr.2⟩ (fun g x k => ?_)
  have ho := offc_le p o (tot p)
  have hc := cntF_le p done
  have hcond : (s14 p done).1 = 0 ∨ offc p o (tot p) < (s14 p done).2.2.1 := by
    rcases hn with q | q
    · exact Or.inl (by rw [s14_1, q]; rfl)
    · exact Or.inr q
  have en : (s14 p (done ++ [o])).2.2.1 = offc p o (tot p) := by
    rw [s14_app]; unfold nt14; rw [if_pos h0]; exact if_pos hcond
  have eo : (s14 p (done ++ [o])).2.2.2.1 = o := by
    rw [s14_app]; unfold nt14; rw [if_pos h0]; exact if_pos hcond
  refine h g ⟨by rw [x 0 (by decide)]; exact hr.1, by rw [x 5 (by decide)]; exact hr.2⟩ ⟨(h1.up (by decide)).tr (x.mono (by decide)), fun j hj => ?_, by rw [x 0 (by decide)]; show f 0 6 = _; rw [hr.1, hol], fun q => ?_, fun _ => ⟨by rw [x 0 (by decide)]; rfl, by rw [en], by rw [en]; omega, by rw [eo]; exact k⟩⟩
  · rw [x 0 (by decide)]
    exact (h2.up0 (j := 9) (by decide)) j hj
  · rw [cntF_app, if_pos h0] at q; omega
theorem r_near {p : Pl} (ok : POk p) {f : Sg} (hp : R1 (f 1) p) {x1 : Int32} {Q : Int32 → Sg → Prop} (hx : ¬ (-1 : Int32) ≤ x1 → Q (-2) f) (h : (-1 : Int32) ≤ x1 → ∀ g b, StN p f g b (AO p) → (x1 = -1 → Q b g) ∧ (¬ x1 = -1 → M_X10_told__0 g x1 Q)) : M_X10_near_0 f x1 Q := by
  have ht := ok.2.2
  unfold M_X10_near_0
  refine ⟨fun q g2 e2 => ?_, hx⟩
  have h := h q
  subst e2
  refine r_firstOrder (p := p) ok ?_ (fun g3 x3 f3 r3 => ?_)
  · exact hp
  have hlen : (dsr (pDm p) 0 5).reverse.length = tot p := by rw [List.length_reverse, dsr_len]; rfl
  refine r_enumB0 ok (W := fun n f b x => itr3 (B_X10_near_0_22 Q) n f x1 b x) (St := StN p f) ?_ ?_ (fun n g b hS => ⟨fun _ => h g b hS, fun q => absurd rfl q⟩) g3 (-6) r3 ?_
  · intro n f1 b done o rest hd hol hoc hr hS K
    obtain ⟨s1, s2, s3, s4, s5⟩ := id hS
    have hp1 : R1 (f1 1) p := by rw [s1 1 (by decide)]; exact hp
    have hb := bks_le p (l := o) (by omega)
    have hdl : done.length < 2000000 := by
      have h1 := AO_len ok
      rw [← hd, List.length_append, List.length_cons] at h1
      omega
    show B_X10_near_0_22 Q _ f1 x1 b 1
    unfold B_X10_near_0_22 J_X10_near_0_64
    refine ⟨fun q => absurd q (by decide), fun _ => r_breaks ok hp1 hoc hr (by omega) ?_⟩
    refine pk_eq _ _ (fun z => ?_) (fun z => ?_) rfl (nI_0).symm
    · refine r_off ok hp1 hoc (by omega) hr (fun g14 x14 y14 => ?_)
      rw [hol]
      have ho := offc_le p o (tot p)
      have hr14 : RR g14 o := ⟨by rw [x14 0 (by decide)]; exact hr.1, by rw [y14]; exact hr.2⟩
      have t1 : Eqx [0, 5, 6, 8] f g14 := s1.tr (x14.mono (by decide))
      have t2 : Fld [6, 9] f g14 := fun j hj => by rw [x14 0 (by decide)]; exact s2 j hj
      by_cases hc : cntF p done = 0
      · obtain ⟨a1, a2⟩ := s4 hc
        rw [x14 0 (by decide), a1]
        exact ⟨fun _ => r_n52 ok hol hr14 t1 t2 z (Or.inl hc) hdl (fun g a b => K g _ a b), fun q => absurd rfl q⟩
      · obtain ⟨a1, a2, a3, a4⟩ := s5 hc
        rw [x14 0 (by decide), a1, a2]
        refine ⟨fun q => absurd q (by decide), fun _ => ?_⟩
        refine pk_le _ _ (fun w => K g14 _ hr14 ⟨t1, t2, by rw [x14 0 (by decide)]; exact s3, fun q => ?_, fun _ => ?_⟩) (fun w => r_n52 ok hol hr14 t1 t2 z (Or.inr w) hdl (fun g a b => K g _ a b)) rfl rfl
        · rw [cntF_app, if_pos z] at q; omega
        · have hcl := cntF_le p done
          have hn : ¬ ((s14 p done).1 = 0 ∨ offc p o (tot p) < (s14 p done).2.2.1) := by
            rintro (y | y)
            · rw [s14_1] at y; exact nI_ne0 (by omega) (by omega) y
            · omega
          have en : (s14 p (done ++ [o])).2.2.1 = (s14 p done).2.2.1 := by rw [s14_app]; unfold nt14; rw [if_pos z]; exact if_neg hn
          have eo : (s14 p (done ++ [o])).2.2.2.1 = (s14 p done).2.2.2.1 := by rw [s14_app]; unfold nt14; rw [if_pos z]; exact if_neg hn
          rw [en, eo]
          exact ⟨by rw [x14 0 (by decide)]; exact a1, rfl, a3, by rw [x14 6 (by decide)]; exact a4⟩
    · refine K f1 b hr ⟨s1, s2, s3, fun q => ?_, fun q => ?_⟩
      · rw [cntF_app, if_neg z] at q; exact s4 q
      · rw [cntF_app, if_neg z] at q
        have : s14 p (done ++ [o]) = s14 p done := by rw [s14_app]; unfold nt14; rw [if_neg z]
        rw [this]; exact s5 q
  · intro f1 g b done x hS
    obtain ⟨s1, s2, s3, s4, s5⟩ := hS
    exact ⟨s1.tr (x.mono (by decide)), fun j hj => by rw [x 0 (by decide)]; exact s2 j hj, by rw [x 0 (by decide)]; exact s3, fun q => by rw [x 0 (by decide)]; exact s4 q, fun q => by rw [x 0 (by decide), x 6 (by decide)]; exact s5 q⟩
  · refine ⟨(Eqx.rf.up (by decide)).tr (x3.mono (by decide)), fun j hj => ?_, by rw [r3.1, hlen], fun _ => ⟨?_, rfl⟩, fun q => absurd rfl q⟩
    · rw [f3 j (fun q => hj (by simp at q ⊢; omega))]
      exact (Fld.rf (S := [6, 9]).up0 (j := 9) (by decide)) j hj
    · rw [f3 9 (by decide)]; rfl
/-! the reference's pad -/
def sgR (x : Option Nat) : Int32 := match x with
  | none => 63
  | some c => nI (48 + c)
def PadR (f : Sg) (q : Pd) : Prop := f 0 4 = nI q.length ∧ ∀ i, i < q.length → f 4 i = sgR (q.getD i none)
theorem sgR_63 {q : Pd} (ok : PdOk q) {i : Nat} (hi : i < q.length) : sgR (q.getD i none) = 63 ↔ q.getD i none = none := by
  cases h : q.getD i none with
  | none => exact ⟨fun _ => rfl, fun _ => rfl⟩
  | some c =>
    have hc := ok.2 i c hi h
    refine ⟨fun z => ?_, fun z => by cases z⟩
    have : nI (48 + c) = nI 63 := z
    rw [nI_eq (by omega) (by omega)] at this
    omega
theorem r_isOpen {f : Sg} {q : Pd} (ok : PdOk q) (hq : PadR f q) {Q : Int32 → Sg → Prop} (h1 : opn q → Q 1 f) (h0 : ¬ opn q → Q 0 f) : M_X10_isOpen_0 f Q := by
  have h9 := ok.1
  refine pk_loop (fun n i (s : Int32) => itr2 (B_X10_isOpen_0_4 Q) n f s (nI i)) (fun i s => (s = 0 ∧ ∀ j, j < i → ¬ q.getD j none = none) ∨ (s = 1 ∧ opn q)) q.length 0 0 (Nat.zero_le _) (Or.inl ⟨rfl, fun j hj => absurd hj (Nat.not_lt_zero _)⟩) ?_ ?_
  · intro n s e
    unfold itr2 B_X10_isOpen_0_4
    rw [hq.1]
    refine pk_le _ _ (fun _ => ?_) (fun z => absurd z (by omega)) rfl rfl
    rcases e with ⟨rfl, e⟩ | ⟨rfl, e⟩
    · exact ⟨rfl, h0 (fun ⟨i, i1, i2⟩ => e i i1 i2)⟩
    · exact ⟨rfl, h1 e⟩
  · intro n i s hi e K
    unfold itr2 B_X10_isOpen_0_4 J_X10_isOpen_0_27 J_X10_isOpen_0_32
    rw [hq.1, nI_1 i]
    refine pk_le _ _ (fun z => absurd z (by omega)) (fun _ => ?_) rfl rfl
    rcases e with ⟨rfl, e⟩ | ⟨rfl, e⟩
    · refine ⟨fun _ => ⟨pk_in i 9 (by omega), ?_⟩, fun z => absurd rfl z⟩
      rw [pk_cl i, hq.2 i hi, sgR_63 ok hi]
      refine ⟨fun z => K 1 (Or.inr ⟨rfl, i, hi, z⟩), fun z => K 0 (Or.inl ⟨rfl, fun j hj => ?_⟩)⟩
      rcases Nat.lt_or_ge j i with y | y
      · exact e j y
      · rw [Nat.le_antisymm (by omega) y]; exact z
    · exact ⟨fun z => absurd z (by decide), fun _ => K 1 (Or.inr ⟨rfl, e⟩)⟩
theorem sub48 (c : Nat) : nI (48 + c) - 48 = nI c := by
  rw [show (48 : Int32) = nI 48 from rfl, pk_sub (by omega)]
  congr 1; omega
theorem r_layPad {f : Sg} {q : Pd} (ok : PdOk q) (hq : PadR f q) (hn : ¬ opn q) {Q : Sg → Prop} (h : ∀ g, Eqx [0, 5] f g → Fld [6] f g → RR g (cl q) → Q g) : M_X10_layPad_0 f Q := by
  have h9 := ok.1
  have hlen := cl_len q
  intro g1 e1
  subst e1
  refine pk_loop (fun n i (s : Sg) => itr1 (B_X10_layPad_0_10 Q) n s (nI i)) (fun i s => Eqx [0, 5] f s ∧ s 0 = upd (f 0) 6 (f 0 4) ∧ ∀ j, j < i → s 5 j = nI ((cl q).getD j 0)) q.length 0 _ (Nat.zero_le _) ⟨Eqx.rf.up (by decide), rfl, fun j hj => absurd hj (Nat.not_lt_zero _)⟩ ?_ ?_
  · intro n s e
    obtain ⟨e1, e2, e3⟩ := e
    unfold itr1 B_X10_layPad_0_10
    have q4 : s 0 4 = nI q.length := by rw [e2]; exact hq.1
    rw [q4]
    refine pk_le _ _ (fun _ => h s e1 (fun j hj => ?_) ⟨?_, fun j hj => e3 j (by omega)⟩) (fun z => absurd z (by omega)) rfl rfl
    · rw [e2]
      show upd (f 0) 6 _ j = _
      rw [pk_un (fun z => hj (by rw [z]; decide))]
    · rw [e2, hlen]; exact hq.1
  · intro n i s hi e K
    obtain ⟨e1, e2, e3⟩ := e
    unfold itr1 B_X10_layPad_0_10
    have q4 : s 0 4 = nI q.length := by rw [e2]; exact hq.1
    rw [q4, nI_1 i]
    refine pk_le _ _ (fun z => absurd z (by omega)) (fun _ => ⟨pk_in i 9 (by omega), pk_in i 9 (by omega), fun g5 e5 => ?_⟩) rfl rfl
    rw [pk_cl i, e1 4 (by decide), hq.2 i hi, cl_get hn hi] at e5
    subst e5
    refine K _ ⟨e1.up (by decide), e2, fun j hj => ?_⟩
    show upd (s 5) i (sgR (some ((cl q).getD i 0)) - 48) j = _
    rcases Nat.lt_or_ge j i with y | y
    · rw [pk_un (by omega)]; exact e3 j y
    · rw [Nat.le_antisymm (by omega) y, pk_us]
      exact sub48 _
theorem r_firstBreak {f : Sg} {p : Pl} (ok : POk p) (hp : R1 (f 1) p) {l : List Nat} (hl : Cls l) (h9 : l.length ≤ 9) (hr : RR f l) {Q : Int32 → Sg → Prop} (h : ∀ r, FB p l r → Q r f) : M_X10_firstBreak_0 f Q := by
  refine pk_loop (fun n i (_ : Unit) => itr1 (B_X10_firstBreak_0_2 Q) n f (nI i)) (fun i _ => ∀ j, j < i → bAt p l j = 0) l.length 0 () (Nat.zero_le _) (fun c hc => absurd hc (Nat.not_lt_zero _)) ?_ ?_
  · intro n s e
    unfold itr1 B_X10_firstBreak_0_2 J_X10_firstBreak_0_24 J_X10_firstBreak_0_38
    rw [hr.1]
    refine pk_le _ _ (fun _ => pk_le _ _ (fun _ => h _ (Or.inr ⟨e, rfl⟩)) (fun z => absurd z (by omega)) rfl rfl) (fun z => absurd z (by omega)) rfl rfl
  · intro n i s hi e K
    unfold itr1 B_X10_firstBreak_0_2 J_X10_firstBreak_0_24 J_X10_firstBreak_0_38
    rw [hr.1, nI_1]
    have hb := bAt_le p l i
    refine pk_le _ _ (fun z => absurd z (by omega)) (fun _ => r_breaksAt ok hp hl hr.2 hi h9 (pk_eq _ _ (fun z => K () (fun j hj => ?_)) (fun z => pk_le _ _ (fun y => absurd y (by omega)) (fun _ => h _ (Or.inl ⟨i, hi, z, e, rfl⟩)) (hr.1.trans rfl) rfl) rfl (nI_0).symm)) rfl rfl
    rcases Nat.lt_or_ge j i with y | y
    · exact e j y
    · rw [Nat.le_antisymm (by omega) y]; exact z
