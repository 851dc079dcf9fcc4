/-! goLeast -/
abbrev SL : Type := Nat × Int32 × List Nat × Nat × Int32
def ntL (p : Pl) (s : SL) (o : List Nat) : SL := (if bks p o < s.1 then bks p o else s.1, if bks p o < s.1 then 0 + 1 else if bks p o = s.1 then s.2.1 + 1 else s.2.1 + 0, if bks p o < s.1 then o else s.2.2.1, nt22 p s.2.2.2.1 o, s.2.2.2.2 + 1)
def sL (p : Pl) (L : List (List Nat)) : SL := L.foldl (ntL p) (1000, 0, [], 0, 0)
theorem sL_app (p : Pl) (L : List (List Nat)) (o : List Nat) : sL p (L ++ [o]) = ntL p (sL p L) o := by unfold sL; rw [List.foldl_append]; rfl
def GL (p : Pl) (f0 f : Sg) (s : SL) : Prop := Eqx [0, 5, 6] f0 f ∧ Fld [6, 9, 10, 11, 12, 13] f0 f ∧ f 0 6 = nI (tot p) ∧ f 0 9 = 1 ∧ f 0 10 = nI s.1 ∧ s.1 ≤ 1000 ∧ f 0 12 = s.2.1 ∧ f 0 11 = nI s.2.2.2.1 ∧ s.2.2.2.1 ≤ 100 ∧ f 0 13 = s.2.2.2.2 ∧ (s.1 < 1000 → keepsRow p (f 6) s.2.2.1)
theorem GL.eqx {p : Pl} {f0 f g : Sg} {s : SL} (h : GL p f0 f s) (x : Eqx [5] f g) : GL p f0 g s := by
  obtain ⟨s1, s2, s3, s4, s5, s6, s7, s8, s9, s10, s11⟩ := h
  have x0 := x 0 (by decide)
  exact ⟨s1.tr (x.mono (by decide)), fun j hj => by rw [x0]; exact s2 j hj, by rw [x0]; exact s3, by rw [x0]; exact s4, by rw [x0]; exact s5, s6, by rw [x0]; exact s7, by rw [x0]; exact s8, s9, by rw [x0]; exact s10, by rw [x 6 (by decide)]; exact s11⟩
theorem r_l82 {p : Pl} {f0 f : Sg} {o : List Nat} {s : SL} {A B : Int32} {Q : Sg → Prop} {K : Sg → Int32 → Prop} (hb : bks p o ≤ 36) (hr : RR f o) (hG : GL p f0 f s)
    (h : ∀ g, RR g o → GL p f0 g (s.1, A + B, s.2.2.1, nt22 p s.2.2.2.1 o, s.2.2.2.2 + 1) → M_X10_nextOrder_0 g (fun r g2 => K g2 r)) : J_X10_goLeast_0_82 Q K f (nI (bks p o)) B A := by
  obtain ⟨s1, s2, s3, s4, s5, s6, s7, s8, s9, s10, s11⟩ := hG
  intro g13 e13
  have last : ∀ v : Nat, v = nt22 p s.2.2.2.1 o → J_X10_goLeast_0_103 Q K g13 (nI v) := by
    intro v hv g15 e15 g16 e16
    subst e13 e15 e16
    refine h _ ⟨hr.1, hr.2⟩ ⟨((s1.up (by decide)).up (by decide)).up (by decide), ((s2.up0 (by decide)).up0 (by decide)).up0 (by decide), s3, s4, s5, s6, rfl, ?_, ?_, ?_, s11⟩
    · rw [← hv]; rfl
    · show nt22 p s.2.2.2.1 o ≤ 100
      unfold nt22; split <;> omega
    · show f 0 13 + 1 = _
      rw [s10]
  have e11 : g13 0 11 = nI s.2.2.2.1 := by rw [e13]; exact s8
  rw [e11]
  refine pk_le _ _ (fun z => last _ ?_) (fun z => last _ ?_) rfl rfl
  · unfold nt22; rw [if_neg (by omega)]
  · unfold nt22; rw [if_pos (by omega)]
theorem r_goLeast {p : Pl} (ok : POk p) {f : Sg} (hp : R1 (f 1) p) {Q : Sg → Prop} (h : ∀ g, GL p f g (sL p (AO p)) → Q g) : M_X10_goLeast_0 f Q := by
  have ht := ok.2.2
  intro g1 e1 g2 e2 g3 e3 g4 e4 g5 e5
  subst e1 e2 e3 e4 e5
  refine r_firstOrder (p := p) ok ?_ (fun g6 x6 f6 r6 => ?_)
  · exact hp
  have hlen : (dsr (pDm p) 0 5).reverse.length = tot p := by rw [List.length_reverse, dsr_len]; rfl
  refine r_enum0 ok (W := fun n f x => itr1 (B_X10_goLeast_0_33 Q) n f x) (St := fun g done => GL p f g (sL p done)) ?_ (fun f1 g done x hS => hS.eqx x) (fun n g hS => ⟨fun _ => h g hS, fun q => absurd rfl q⟩) g6 r6 ?_
  · intro n f1 done o rest hd hol hoc hr hS K
    have hG := hS
    obtain ⟨s1, s2, s3, s4, s5, s6, s7, s8, s9, s10, s11⟩ := hS
    have hp1 : R1 (f1 1) p := by rw [s1 1 (by decide)]; exact hp
    have hb := bks_le p (l := o) (by omega)
    show B_X10_goLeast_0_33 Q _ f1 1
    unfold B_X10_goLeast_0_33
    refine ⟨fun q => absurd q (by decide), fun _ => r_breaks ok hp1 hoc hr (by omega) ?_⟩
    have K' : ∀ g, RR g o → GL p f g (ntL p (sL p done) o) → M_X10_nextOrder_0 g (fun r g2 => itr1 (B_X10_goLeast_0_33 Q) n g2 r) := fun g a b => K g a (by rw [sL_app]; exact b)
    rw [s5]
    refine pk_le _ _ (fun z => ?_) (fun z g19 e19 g20 e20 => ?_) rfl rfl
    · have hz : ¬ bks p o < (sL p done).1 := by omega
      unfold J_X10_goLeast_0_64
      rw [s5, s7]
      refine pk_eq _ _ (fun y => r_l82 hb hr hG (fun g a b => K' g a ?_)) (fun y => r_l82 hb hr hG (fun g a b => K' g a ?_)) rfl rfl
      · unfold ntL; rw [if_neg hz, if_neg hz, if_neg hz, if_pos y]; exact b
      · unfold ntL; rw [if_neg hz, if_neg hz, if_neg hz, if_neg y]; exact b
    · subst e19 e20
      refine r_keepBest (p := p) hol ht (f := va_up (va_up f1 0 (upd (f1 0) 10 (nI (bks p o)))) 0 (upd (va_up f1 0 (upd (f1 0) 10 (nI (bks p o))) 0) 12 0)) ⟨hr.1, hr.2⟩ (fun g21 x21 k21 => ?_)
      have e10 : g21 0 10 = nI (bks p o) := by rw [x21 0 (by decide)]; rfl
      have e12 : g21 0 12 = 0 := by rw [x21 0 (by decide)]; rfl
      unfold J_X10_goLeast_0_64
      rw [e10, e12]
      refine ⟨fun _ => r_l82 (p := p) (f0 := f) (s := (bks p o, 0, o, (sL p done).2.2.2.1, (sL p done).2.2.2.2)) hb ⟨by rw [x21 0 (by decide)]; exact hr.1, by rw [x21 5 (by decide)]; exact hr.2⟩ ⟨?_, ?_, ?_, ?_, e10, ?_, e12, ?_, s9, ?_, fun _ => k21⟩ (fun g a b => K' g a ?_), fun q => absurd rfl q⟩
      · exact ((s1.up (by decide)).up (by decide)).tr (x21.mono (by decide))
      · intro j hj
        rw [x21 0 (by decide)]
        exact ((s2.up0 (j := 10) (by decide)).up0 (j := 12) (by decide)) j hj
      · rw [x21 0 (by decide)]; exact s3
      · rw [x21 0 (by decide)]; exact s4
      · show bks p o ≤ 1000; omega
      · rw [x21 0 (by decide)]; exact s8
      · rw [x21 0 (by decide)]; exact s10
      · unfold ntL; rw [if_pos z, if_pos z, if_pos z]; exact b
  · refine ⟨(((((Eqx.rf.up (by decide)).up (by decide)).up (by decide)).up (by decide)).up (by decide)).tr (x6.mono (by decide)), fun j hj => ?_, by rw [r6.1, hlen], ?_, ?_, Nat.le_refl _, ?_, ?_, Nat.zero_le _, ?_, fun z => absurd z (Nat.lt_irrefl _)⟩
    · rw [f6 j (fun q => hj (by simp at q ⊢; omega))]
      exact (((((Fld.rf (S := [6, 9, 10, 11, 12, 13]).up0 (j := 10) (by decide)).up0 (j := 11) (by decide)).up0 (j := 12) (by decide)).up0 (j := 13) (by decide)).up0 (j := 9) (by decide)) j hj
    · rw [f6 9 (by decide)]; rfl
    · rw [f6 10 (by decide)]; rfl
    · rw [f6 12 (by decide)]; rfl
    · rw [f6 11 (by decide)]; rfl
    · rw [f6 13 (by decide)]; rfl
/-! the reference's rule -/
theorem size_ok : ∀ s, s < 16 → ((((nI s &&& 1) + ((nI s >>> ((1 : Int32) &&& 31)) &&& 1)) + ((nI s >>> ((2 : Int32) &&& 31)) &&& 1)) + ((nI s >>> ((3 : Int32) &&& 31)) &&& 1)) = nI (sz4 s) := by decide +kernel
theorem r_layLeft {f : Sg} {p : Pl} (ok : POk p) (hp : R1 (f 1) p) {l : List Nat} (hl : Cls l) (h9 : l.length ≤ 9) (hrow : RowF (f 5) l) {a : Nat} (ha : a ≤ l.length) {Q : Sg → Prop} (h : ∀ g, Eqx [8] f g → (∀ c, c < 5 → g 8 c = iI (lf p (l.take a) c)) → Q g) : M_X10_layLeft_0 f (nI a) Q := by
  refine pk_loop (fun n i (s : Sg) => itr2 (B_X10_layLeft_0_2 Q) n s (nI a) (nI i)) (fun i s => Eqx [8] f s ∧ ∀ c, c < i → s 8 c = iI (lf p [] c)) 5 0 f (Nat.zero_le _) ⟨Eqx.rf, fun c hc => absurd hc (Nat.not_lt_zero _)⟩ ?_ ?_
  · intro n s e
    refine pk_le 5 5 (fun _ => ?_) (fun q => absurd q (by omega))
    refine pk_loop (fun n i (s : Sg) => itr2 (B_X10_layLeft_0_30 Q) n s (nI a) (nI i)) (fun i s => Eqx [8] f s ∧ ∀ c, c < 5 → s 8 c = iI (lf p (l.take i) c)) a 0 s (Nat.zero_le _) ⟨e.1, by rw [List.take_zero]; exact e.2⟩ ?_ ?_
    · intro n s2 e2
      exact pk_le _ _ (fun _ => h s2 e2.1 e2.2) (fun q => absurd q (by omega)) rfl rfl
    · intro n i s2 hi e2 K
      have hc : l.getD i 0 < 5 := hl i (by omega)
      unfold itr2 B_X10_layLeft_0_30
      rw [nI_1 i, e2.1 5 (by decide)]
      refine pk_le _ _ (fun q => absurd q (by omega)) (fun _ => ⟨pk_in i 9 (by omega), ?_⟩) rfl rfl
      rw [pk_cl i, hrow i (by omega)]
      refine ⟨pk_in _ 5 hc, pk_in _ 5 hc, fun g6 e6 => ?_⟩
      rw [pk_cl (l.getD i 0) rfl (by omega)] at e6
      subst e6
      refine K _ ⟨e2.1.up (by decide), fun c hc2 => ?_⟩
      show upd (s2 8) (l.getD i 0) (s2 8 (l.getD i 0) - 1) c = _
      rw [take_succ_getD (by omega)]
      unfold lf
      rw [List.count_append]
      by_cases q : c = l.getD i 0
      · rw [← q, pk_us, e2.2 c hc2, iI_m1]
        unfold lf
        simp
        congr 1
        omega
      · rw [pk_un q, e2.2 c hc2, List.count_eq_zero_of_not_mem (a := c) (l := [l.getD i 0]) (by simpa [-List.getD_eq_getElem?_getD] using q)]
        unfold lf
        simp
  · intro n i s hi e K
    unfold itr2 B_X10_layLeft_0_2
    rw [ad13 i, nI_1 i]
    refine pk_le 5 i (fun q => absurd q (by omega)) (fun _ => ⟨pk_in (13 + i) 18 (by omega), pk_in i 5 hi, fun g9 e9 => ?_⟩)
    rw [pk_cl i, pk_cl (13 + i), e.1 1 (by decide), (hp.2 i hi).2] at e9
    subst e9
    refine K _ ⟨e.1.up (by decide), fun c hc => ?_⟩
    show upd (s 8) i (nI (pDm p i)) c = _
    rcases Nat.lt_or_ge c i with q | q
    · rw [pk_un (by omega)]; exact e.2 c q
    · rw [Nat.le_antisymm (by omega) q, pk_us, iI_nI]
      unfold lf
      simp
theorem r_isBetter {f : Sg} {p : Pl} (ok : POk p) (hp : R1 (f 1) p) {l : List Nat} (h9 : l.length ≤ 9) {c b : Nat} (hc : c < 5) (hb : b < 5) (hlc : 0 < lf p l c) (hlb : 0 < lf p l b) (e8 : ∀ c, c < 5 → f 8 c = iI (lf p l c)) {Q : Int32 → Sg → Prop} (h1 : rnk p l c < rnk p l b → Q 1 f) (h0 : ¬ rnk p l c < rnk p l b → Q 0 f) : M_X10_isBetter_0 f (nI c) (nI (cmg p l c)) (nI b) (nI (cmg p l b)) Q := by
  unfold M_X10_isBetter_0 M_X10_size J_X10_isBetter_0_85
  rw [ad8 c, ad8 b]
  obtain ⟨c1, c2⟩ := lf_rng ok h9 hc
  obtain ⟨b1, b2⟩ := lf_rng ok h9 hb
  have k1 := bAt_le p (l ++ [c]) l.length
  have k2 := bAt_le p (l ++ [b]) l.length
  have m1 : cmg p l c ≤ 4 := k1
  have m2 : cmg p l b ≤ 4 := k2
  have z1 := sz4_le _ (ok.2.1 c hc)
  have z2 := sz4_le _ (ok.2.1 b hb)
  unfold rnk at h1 h0
  refine ⟨pk_in (8 + c) 18 (by omega), pk_in (8 + b) 18 (by omega), fun z7 e7 => ?_⟩
  rw [pk_cl (8 + c), pk_cl (8 + b), (hp.2 c hc).1, (hp.2 b hb).1, size_ok _ (ok.2.1 c hc), size_ok _ (ok.2.1 b hb), iI_nI, iI_nI, iI_sub] at e7
  refine pk_eq _ _ (fun q => ?_) (fun q => ?_) rfl rfl
  · rw [e7, iI_eq0 (by omega) (by omega)]
    refine ⟨fun q2 => ⟨pk_in c 5 hc, pk_in b 5 hb, ?_⟩, fun q2 => ?_⟩
    · rw [pk_cl c, pk_cl b, e8 c hc, e8 b hb, iI_le (by omega) (by omega) (by omega) (by omega)]
      exact ⟨fun q3 => ⟨rfl, h0 (by omega)⟩, fun q3 => ⟨rfl, h1 (by omega)⟩⟩
    · rw [iI_le0 (by omega) (by omega)]
      exact ⟨fun q3 => ⟨rfl, h0 (by omega)⟩, fun q3 => ⟨rfl, h1 (by omega)⟩⟩
  · exact pk_le _ _ (fun q3 => ⟨rfl, h0 (by omega)⟩) (fun q3 => ⟨rfl, h1 (by omega)⟩) rfl rfl
theorem r_taken {f : Sg} {p : Pl} (ok : POk p) (hp : R1 (f 1) p) {l : List Nat} (hl : Cls l) (h9 : l.length ≤ 9) (hrow : RowF (f 5) l) {k : Nat} (hk : k < l.length) {Q : Int32 → Sg → Prop} (h : ∀ g, Eqx [5, 8] f g → g 5 = f 5 → Q (orI (rcl p (l.take k))) g) : M_X10_taken_0 f (nI k) Q := by
  unfold M_X10_taken_0
  refine r_layLeft ok hp hl h9 hrow (by omega) (fun g1 x1 e1 => ⟨pk_in k 9 (by omega), fun z4 e4 => ?_⟩)
  rw [pk_cl k, x1 5 (by decide)] at e4
  subst e4
  have hlt : (l.take k).length = k := by rw [List.length_take]; omega
  have hcl := hl.take k
  refine pk_loop (fun n i (s : Sg × Int32 × Int32) => itr5 (B_X10_taken_0_21 Q) n s.1 (nI k) (f 5 k) s.2.1 s.2.2 (nI i)) (fun i s => Eqx [5, 8] f s.1 ∧ (∀ j, j ≠ k → s.1 5 j = f 5 j) ∧ (∀ c, c < 5 → s.1 8 c = iI (lf p (l.take k) c)) ∧ s.2.1 = orI (pick p (l.take k) i) ∧ ∀ b, pick p (l.take k) i = some b → s.2.2 = nI (cmg p (l.take k) b)) 5 0 (g1, -6, 0) (Nat.zero_le _) ⟨x1.mono (by decide), fun j _ => congrFun (x1 5 (by decide)) j, e1, rfl, fun b q => by cases q⟩ ?_ ?_
  · intro n s e
    obtain ⟨a1, a2, a3, a4, a5⟩ := e
    refine pk_le 5 5 (fun _ => ⟨pk_in k 9 (by omega), fun g7 e7 => ?_⟩) (fun q => absurd q (by omega))
    rw [pk_cl k] at e7
    subst e7
    rw [a4]
    refine h _ (a1.up (by decide)) ?_
    funext j
    show upd (s.1 5) k (f 5 k) j = _
    by_cases q : j = k
    · rw [q, pk_us]
    · rw [pk_un q]; exact a2 j q
  · intro n i s hi e K
    obtain ⟨a1, a2, a3, a4, a5⟩ := e
    unfold itr5 B_X10_taken_0_21 J_X10_taken_0_70 J_X10_taken_0_77
    rw [nI_1 i]
    refine pk_le 5 i (fun q => absurd q (by omega)) (fun _ => ⟨pk_in i 5 hi, ?_⟩)
    obtain ⟨r1, r2⟩ := lf_rng ok (l := l.take k) (by omega) hi
    rw [pk_cl i, a3 i hi, iI_le0 (by omega) (by omega)]
    refine ⟨fun q => K s ⟨a1, a2, a3, ?_, ?_⟩, fun q => ⟨pk_in k 9 (by omega), fun g11 e11 => ?_⟩⟩
    · have e3 : pick p (l.take k) (i + 1) = pick p (l.take k) i := by
        show (if 0 < lf p (l.take k) i then _ else pick p (l.take k) i) = _
        rw [if_neg (by omega)]
      rw [e3]; exact a4
    · have e3 : pick p (l.take k) (i + 1) = pick p (l.take k) i := by
        show (if 0 < lf p (l.take k) i then _ else pick p (l.take k) i) = _
        rw [if_neg (by omega)]
      rw [e3]; exact a5
    · rw [pk_cl k] at e11
      have x11 : Eqx [5, 8] f g11 := by rw [e11]; exact a1.up (by decide)
      have hp11 : R1 (g11 1) p := by rw [x11 1 (by decide)]; exact hp
      have row11 : RowF (g11 5) (l.take k ++ [i]) := by
        intro j hj
        rw [List.length_append, List.length_singleton, hlt] at hj
        rw [e11]
        show upd (s.1 5) k (nI i) j = _
        rcases Nat.lt_or_ge j k with q2 | q2
        · rw [pk_un (by omega), a2 j (by omega), hrow j (by omega), getD_app1 (by omega), getD_take q2]
        · have : j = (l.take k).length := by omega
          rw [this, getD_app2, hlt, pk_us]
      have a3' : ∀ c, c < 5 → g11 8 c = iI (lf p (l.take k) c) := by rw [e11]; exact a3
      have a2' : ∀ j, j ≠ k → g11 5 j = f 5 j := by
        intro j hj
        rw [e11]
        show upd (s.1 5) k (nI i) j = _
        rw [pk_un hj]; exact a2 j hj
      refine r_breaksAt (l := l.take k ++ [i]) ok hp11 (hcl.app hi) row11 (k := k) (by rw [List.length_append, hlt]; simp) (by rw [List.length_append, hlt]; simp; omega) ?_
      have hcm : bAt p (l.take k ++ [i]) k = cmg p (l.take k) i := by unfold cmg; rw [hlt]
      rw [hcm]
      have q0 : 0 < lf p (l.take k) i := by omega
      rw [a4]
      cases hpk : pick p (l.take k) i with
      | none =>
        have e3 : pick p (l.take k) (i + 1) = some i := by
          show (if 0 < lf p (l.take k) i then (match pick p (l.take k) i with
            | none => some i
            | some b => if rnk p (l.take k) i < rnk p (l.take k) b then some i else some b) else pick p (l.take k) i) = _
          rw [if_pos q0, hpk]
        refine ⟨fun _ => K (g11, nI i, nI (cmg p (l.take k) i)) ⟨x11, a2', a3', by rw [e3]; rfl, fun b hb => ?_⟩, fun z => absurd (by decide) z⟩
        rw [e3] at hb; cases hb; rfl
      | some b =>
        obtain ⟨b1, b2⟩ := pick_some hpk
        have e5 := a5 b hpk
        have e3 : pick p (l.take k) (i + 1) = if rnk p (l.take k) i < rnk p (l.take k) b then some i else some b := by
          show (if 0 < lf p (l.take k) i then (match pick p (l.take k) i with
            | none => some i
            | some b => if rnk p (l.take k) i < rnk p (l.take k) b then some i else some b) else pick p (l.take k) i) = _
          rw [if_pos q0, hpk]
        refine ⟨fun z => absurd z (nI_pos (n := b) (by omega)), fun _ => ?_⟩
        show M_X10_isBetter_0 g11 (nI i) (nI (cmg p (l.take k) i)) (nI b) s.2.2 _
        rw [e5]
        refine r_isBetter (l := l.take k) ok hp11 (by omega) hi (by omega) q0 b2 a3' (fun z => ⟨fun w => absurd w (by decide), fun _ => K (g11, nI i, nI (cmg p (l.take k) i)) ⟨x11, a2', a3', ?_, fun b' hb => ?_⟩⟩) (fun z => ⟨fun _ => K (g11, nI b, nI (cmg p (l.take k) b)) ⟨x11, a2', a3', ?_, fun b' hb => ?_⟩, fun w => absurd rfl w⟩)
        · rw [e3, if_pos z]; rfl
        · rw [e3, if_pos z] at hb; cases hb; rfl
        · rw [e3, if_neg z]; rfl
        · rw [e3, if_neg z] at hb; cases hb; rfl
theorem r_off {f : Sg} {p : Pl} (ok : POk p) (hp : R1 (f 1) p) {l : List Nat} (hl : Cls l) (h9 : l.length ≤ 9) (hr : RR f l) {Q : Int32 → Sg → Prop} (h : ∀ g, Eqx [5, 8] f g → g 5 = f 5 → Q (nI (offc p l l.length)) g) : M_X10_off_0 f Q := by
  refine pk_loop (fun n i (s : Sg × Int32) => itr2 (B_X10_off_0_4 Q) n s.1 s.2 (nI i)) (fun i s => Eqx [5, 8] f s.1 ∧ s.1 5 = f 5 ∧ s.2 = nI (offc p l i)) l.length 0 (f, 0) (Nat.zero_le _) ⟨Eqx.rf, rfl, rfl⟩ ?_ ?_
  · intro n s e
    unfold itr2 B_X10_off_0_4
    rw [e.1 0 (by decide), hr.1, e.2.2]
    exact pk_le _ _ (fun _ => h s.1 e.1 e.2.1) (fun q => absurd q (by omega)) rfl rfl
  · intro n i s hi e K
    obtain ⟨e1, e2, e3⟩ := e
    unfold itr2 B_X10_off_0_4 J_X10_off_0_32
    rw [e1 0 (by decide), hr.1, nI_1 i]
    refine pk_le _ _ (fun q => absurd q (by omega)) (fun _ => r_taken ok (by rw [e1 1 (by decide)]; exact hp) hl h9 (by rw [e2]; exact hr.2) hi (fun g x y => ⟨pk_in i 9 (by omega), ?_⟩)) rfl rfl
    have hc := hl i hi
    rw [pk_cl i, y, e2, hr.2 i hi]
    have hs : (orI (rcl p (l.take i)) = nI (l.getD i 0)) ↔ rcl p (l.take i) = some (l.getD i 0) := by
      rw [← orI_eq rcl_lt hc]
      exact ⟨fun z => z.symm, fun z => z.symm⟩
    rw [hs]
    have ho : offc p l (i + 1) = offc p l i + bi (!(rcl p (l.take i) == some (l.getD i 0))) := rfl
    refine ⟨fun z z6 e6 => K (g, z6) ⟨e1.tr x, y.trans e2, ?_⟩, fun z z6 e6 => K (g, z6) ⟨e1.tr x, y.trans e2, ?_⟩⟩
    · rw [ho, e6, e3, z, show (0 : Int32) = nI 0 from rfl, nI_add]; simp [bi]
    · have : (rcl p (l.take i) == some (l.getD i 0)) = false := by simpa [-List.getD_eq_getElem?_getD] using z
      rw [ho, this, e6, e3, nI_1]; rfl
theorem r_goRule {f : Sg} {p : Pl} (ok : POk p) (hp : R1 (f 1) p) {Q : Sg → Prop} (h : ∀ g, Eqx [0, 5, 8] f g → Fld [6] f g → RR g (rlr p (tot p)) → Q g) : M_X10_goRule_0 f Q := by
  have ht := ok.2.2
  unfold M_X10_goRule_0
  refine r_firstOrder ok hp (fun g1 x1 f1 r1 => ?_)
  have hlen : (dsr (pDm p) 0 5).reverse.length = tot p := by rw [List.length_reverse, dsr_len]; rfl
  have hcl0 : Cls (dsr (pDm p) 0 5).reverse := Cls.of (fun c hc => by
    have := dsr_mem 5 c (List.mem_reverse.mp hc)
    omega)
  refine pk_loop (fun n k (s : Sg) => itr1 (B_X10_goRule_0_6 Q) n s (nI k)) (fun k s => Eqx [0, 5, 8] f s ∧ Fld [6] f s ∧ ∃ l, l.length = tot p ∧ Cls l ∧ RR s l ∧ l.take k = rlr p k) (tot p) 0 g1 (Nat.zero_le _) ⟨x1.mono (by decide), f1, _, hlen, hcl0, r1, rfl⟩ ?_ ?_
  · intro n s e
    obtain ⟨e1, e2, l, e3, e4, e5, e6⟩ := e
    unfold itr1 B_X10_goRule_0_6
    rw [e5.1, e3]
    refine pk_le _ _ (fun _ => h s e1 e2 ?_) (fun q => absurd q (by omega)) rfl rfl
    rw [← e6, ← e3, List.take_length]
    exact e5
  · intro n k s hk e K
    obtain ⟨e1, e2, l, e3, e4, e5, e6⟩ := e
    obtain ⟨b, b1, b2, b3⟩ := rlr_some hk
    unfold itr1 B_X10_goRule_0_6
    rw [e5.1, e3, nI_1 k]
    refine pk_le _ _ (fun q => absurd q (by omega)) (fun _ => r_taken ok (by rw [e1 1 (by decide)]; exact hp) e4 (by omega) e5.2 (k := k) (by omega) (fun g4 x4 y4 => ⟨pk_in k 9 (by omega), fun g7 e7 => ?_⟩)) rfl rfl
    rw [pk_cl k, e6, b2] at e7
    subst e7
    refine K _ ⟨(e1.tr (x4.mono (by decide))).up (by decide), fun j hj => ?_, l.set k b, by rw [List.length_set, e3], ?_, ⟨?_, ?_⟩, ?_⟩
    · show g4 0 j = _
      rw [x4 0 (by decide)]; exact e2 j hj
    · refine Cls.of (fun c hc => ?_)
      rcases List.mem_or_eq_of_mem_set hc with q | q
      · exact e4.mem c q
      · rw [q]; exact b1
    · show g4 0 6 = _
      rw [x4 0 (by decide), e5.1, List.length_set]
    · intro j hj
      rw [List.length_set] at hj
      show upd (g4 5) k (nI b) j = _
      by_cases q : j = k
      · rw [q, pk_us]
        congr 1
        simp [List.getD, show k < l.length by omega]
      · rw [pk_un q, y4, e5.2 j hj]
        congr 1
        simp [List.getD, List.getElem?_set_ne (fun w => q w.symm)]
    · rw [b3, ← e6, take_succ_getD (by rw [List.length_set]; omega), List.take_set_of_le (Nat.le_refl _)]
      congr 2
      simp [List.getD, show k < l.length by omega]
