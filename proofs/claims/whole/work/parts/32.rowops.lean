/-! the class's Row -/
def lf (p : Pl) (l : List Nat) (c : Nat) : Int := (pDm p c : Int) - (l.count c : Int)
def RRep (f : Sg) (p : Pl) (l : List Nat) : Prop := f 9 5 = nI l.length ∧ (∀ i, i < l.length → f 10 i = nI (l.getD i 0)) ∧ (∀ i, i ≤ l.length → f 11 i = nI (trn p l i)) ∧ (∀ i, i ≤ l.length → f 12 i = nI (sm (bAt p l) i)) ∧ ∀ c, c < 5 → f 13 c = iI (lf p l c)
theorem lf_rng {p : Pl} (ok : POk p) {l : List Nat} (h9 : l.length ≤ 9) {c : Nat} (hc : c < 5) : -9 ≤ lf p l c ∧ lf p l c ≤ 9 := by
  have h1 := ok.dm hc
  have h2 : l.count c ≤ l.length := List.count_le_length
  unfold lf
  omega
theorem iI_le {a b : Int} (h1 : -100000 ≤ a) (h2 : a ≤ 100000) (h3 : -100000 ≤ b) (h4 : b ≤ 100000) : iI a ≤ iI b ↔ a ≤ b := by
  rw [Int32.le_iff_toInt_le, iI_toInt (by omega) (by omega), iI_toInt (by omega) (by omega)]
theorem w_isClass {f : Sg} {x : Int32} {Q : Int32 → Sg → Prop} (h1 : ∀ c, c < 5 → x = nI c → Q 1 f) (h0 : (∀ c, c < 5 → x ≠ nI c) → Q 0 f) : M_X9_isClass f x Q := by
  unfold M_X9_isClass J_X9_isClass_13 J_X9_isClass_14
  refine ⟨fun c => ⟨rfl, h0 (fun j hj e => ?_)⟩, fun c => ⟨fun c2 => ⟨rfl, h0 (fun j hj e => ?_)⟩, fun c2 => ⟨rfl, ?_⟩⟩⟩
  · rw [e] at c; exact absurd c (nI_pos (by omega))
  · rw [e] at c2; exact absurd c2 (nI_ge (a := j) (b := 5) hj (by omega))
  · rcases pk_ix x (n := 5) (by omega) with q | q | ⟨j, hj, e⟩
    · exact absurd q c
    · exact absurd q c2
    · exact h1 j hj e
theorem w_isClassY {f : Sg} {c : Nat} (hc : c < 5) {Q : Int32 → Sg → Prop} (h : Q 1 f) : M_X9_isClass f (nI c) Q := w_isClass (fun _ _ _ => h) (fun q => absurd rfl (q c hc))
theorem w_start {f : Sg} {p : Pl} {Q : Sg → Prop} (hp : P1 f p) (h11 : f 11 0 = 0) (h12 : f 12 0 = 0) (h : ∀ g, RRep g p [] → Eqx [9, 13] f g → Q g) : M_X6_start_9 f Q := by
  intro g1 e1 g2 e2
  subst e1 e2
  refine h _ ⟨rfl, fun i hi => absurd hi (Nat.not_lt_zero _), fun i hi => ?_, fun i hi => ?_, fun c hc => ?_⟩ ((Eqx.rf.up (by decide)).up (by decide))
  · rw [Nat.le_zero.mp hi]; exact h11
  · rw [Nat.le_zero.mp hi]; exact h12
  · show va_cpy (f 6) (f 13) 0 0 5 c = _
    rw [pk_cpy_in (by omega) (by omega), Nat.zero_add, Nat.sub_zero, (hp.2 c hc).2]
    show nI _ = iI ((pDm p c : Int) - ((List.count c [] : Nat) : Int))
    rw [List.count_nil, iI_nI]; simp
theorem w_breaks {f : Sg} {p : Pl} {l : List Nat} (hr : RRep f p l) (h9 : l.length ≤ 9) {Q : Int32 → Sg → Prop} (h : Q (nI (bks p l)) f) : M_X6_breaks_9 f Q := by
  unfold M_X6_breaks_9
  rw [hr.1]
  refine ⟨pk_in l.length 10 (by omega), ?_⟩
  rw [pk_cl l.length, hr.2.2.2.1 _ (Nat.le_refl _)]
  exact h
theorem trn_app {p : Pl} {l : List Nat} {c i : Nat} (h : i ≤ l.length) : trn p (l ++ [c]) i = trn p l i := trn_congr (fun j hj => getD_app1 (by omega))
theorem trn_app' {p : Pl} {l : List Nat} {c : Nat} : trn p (l ++ [c]) (l.length + 1) = 16 * trn p l l.length + pSt p c := by
  show 16 * trn p (l ++ [c]) l.length + pSt p ((l ++ [c]).getD l.length 0) = _
  rw [trn_app (Nat.le_refl _), getD_app2]
theorem smb_app {p : Pl} (ok : POk p) {l : List Nat} {c i : Nat} (h : i ≤ l.length) : sm (bAt p (l ++ [c])) i = sm (bAt p l) i := sm_congr (fun k hk => bAt_congr (fun j hj => getD_app1 (by omega)) ok.of1)
theorem bks_app {p : Pl} (ok : POk p) {l : List Nat} {c : Nat} : bks p (l ++ [c]) = bks p l + bAt p (l ++ [c]) l.length := by
  unfold bks
  rw [List.length_append, List.length_singleton, sm_succ, smb_app ok (Nat.le_refl _)]
theorem Cls.app {l : List Nat} (h : Cls l) {c : Nat} (hc : c < 5) : Cls (l ++ [c]) := by
  intro i hi
  rw [List.length_append, List.length_singleton] at hi
  rcases Nat.lt_or_ge i l.length with q | q
  · rw [getD_app1 q]; exact h i q
  · rw [Nat.le_antisymm (by omega) q, getD_app2]; exact hc
theorem w_trail {f : Sg} {p : Pl} (ok : POk p) (hp : P1 f p) {l : List Nat} (hr : RRep f p l) (h9 : l.length ≤ 9) {c : Nat} (hc : c < 5) {Q : Int32 → Sg → Prop} (h : Q (nI (trn p (l ++ [c]) (l.length + 1))) f) : M_X6_trailWith_9 f (nI c) Q := by
  unfold M_X6_trailWith_9
  rw [hr.1]
  refine ⟨pk_in l.length 10 (by omega), pk_in c 5 hc, ?_⟩
  rw [pk_cl l.length, pk_cl c, hr.2.2.1 _ (Nat.le_refl _), (hp.2 c hc).1, nx_trail _ (ok.2.1 c hc), ← trn_app' (l := l)]
  exact h
theorem P1.eqx {f g : Sg} {p : Pl} {S : List Nat} (h : P1 f p) (e : Eqx S f g) (hS : 2 ∉ S ∧ 3 ∉ S ∧ 4 ∉ S ∧ 5 ∉ S ∧ 6 ∉ S) : P1 g p := by
  unfold P1
  rw [e 2 hS.1, e 3 hS.2.1, e 4 hS.2.2.1, e 5 hS.2.2.2.1, e 6 hS.2.2.2.2]
  exact h
theorem w_put {f : Sg} {p : Pl} (ok : POk p) (hp : P1 f p) {l : List Nat} (hr : RRep f p l) (hl : Cls l) (h9 : l.length < 9) {c : Nat} (hc : c < 5) {Q : Sg → Prop} (h : ∀ g, RRep g p (l ++ [c]) → Eqx [9, 10, 11, 12, 13] f g → Q g) : M_X6_put_9 f (nI c) Q := by
  unfold M_X6_put_9 J_X6_put_9_16
  refine w_isClassY hc ⟨fun q => absurd q (by decide), fun _ => ?_⟩
  rw [hr.1]
  refine pk_lt l.length 9 (fun _ => w_trail ok hp hr (by omega) hc ?_) (fun q => absurd q (by omega))
  rw [hr.1]
  refine ⟨pk_in l.length 10 (by omega), fun z8 e8 => ⟨pk_in l.length 9 h9, fun g10 e10 => ⟨pk_in c 5 hc, pk_in c 5 hc, fun g13 e13 g14 e14 => ?_⟩⟩⟩
  rw [pk_cl l.length] at e8 e10
  rw [pk_cl c] at e13
  have q14 : g14 9 5 = nI (l.length + 1) := by
    rw [e14, e13, e10]
    show f 9 5 + 1 = _
    rw [hr.1, nI_1]
  rw [q14]
  refine ⟨pk_in (l.length + 1) 10 (by omega), fun g16 e16 => ?_⟩
  rw [pk_cl (l.length + 1)] at e16
  have q16 : g16 9 5 = nI (l.length + 1) := by rw [e16]; exact q14
  rw [q16]
  have hx : Eqx [9, 10, 11, 12, 13] f g16 := by
    rw [e16, e14, e13, e10]
    exact (((Eqx.rf.up (by decide)).up (by decide)).up (by decide)).up (by decide)
  refine w_bae ok (hp.eqx hx (by decide)) (hl.app hc) h9 ⟨pk_in (l.length + 1) 10 (by omega), fun g20 e20 => ?_⟩
  rw [pk_cl (l.length + 1)] at e20
  refine h g20 ⟨?_, fun i hi => ?_, fun i hi => ?_, fun i hi => ?_, fun c' hc' => ?_⟩ (by rw [e20]; exact hx.up (by decide))
  · rw [e20, List.length_append, List.length_singleton]; exact q16
  · rw [List.length_append, List.length_singleton] at hi
    rw [e20, e16, e14, e13, e10]
    show upd (f 10) l.length (nI c) i = _
    rcases Nat.lt_or_ge i l.length with q | q
    · rw [pk_un (by omega), getD_app1 q]; exact hr.2.1 i q
    · rw [Nat.le_antisymm (by omega) q, pk_us, getD_app2]
  · rw [List.length_append, List.length_singleton] at hi
    rw [e20, e16, e14, e13, e10]
    show upd (f 11) (l.length + 1) (nI (trn p (l ++ [c]) (l.length + 1))) i = _
    rcases Nat.lt_or_ge i (l.length + 1) with q | q
    · rw [pk_un (by omega), trn_app (by omega)]; exact hr.2.2.1 i (by omega)
    · rw [Nat.le_antisymm (by omega) q, pk_us]
  · rw [List.length_append, List.length_singleton] at hi
    rw [e20, e16, e14, e13, e10]
    show upd (f 12) (l.length + 1) (z8 + nI (bAt p (l ++ [c]) l.length)) i = _
    rcases Nat.lt_or_ge i (l.length + 1) with q | q
    · rw [pk_un (by omega), smb_app ok (by omega)]; exact hr.2.2.2.1 i (by omega)
    · rw [Nat.le_antisymm (by omega) q, pk_us, e8, hr.2.2.2.1 _ (Nat.le_refl _), nI_add, sm_succ, smb_app ok (Nat.le_refl _)]
  · rw [e20, e16, e14, e13, e10]
    show upd (f 13) c (f 13 c - 1) c' = _
    unfold lf
    rw [List.count_append]
    by_cases q : c' = c
    · rw [q, pk_us, hr.2.2.2.2 c hc, iI_m1]
      unfold lf
      simp
      congr 1
      omega
    · rw [pk_un q, hr.2.2.2.2 c' hc', List.count_eq_zero_of_not_mem (a := c') (l := [c]) (by simpa using q)]
      unfold lf
      simp
theorem w_drop {f : Sg} {p : Pl} (ok : POk p) {l : List Nat} {c : Nat} (hr : RRep f p (l ++ [c])) (h9 : l.length < 9) (hc : c < 5) {Q : Sg → Prop} (h : ∀ g, RRep g p l → Eqx [9, 13] f g → Q g) : M_X6_drop_9 f Q := by
  unfold M_X6_drop_9 J_X6_drop_9_35
  have e0 : f 9 5 = nI (l.length + 1) := by rw [hr.1, List.length_append, List.length_singleton]
  rw [e0]
  refine pk_le (l.length + 1) 0 (fun q => absurd q (by omega)) (fun _ g2 e2 => ?_)
  have q2 : g2 9 5 = nI l.length := by rw [e2]; exact nI_pred _
  have q3 : g2 10 l.length = nI c := by
    rw [e2]; show f 10 l.length = _
    rw [hr.2.1 l.length (by rw [List.length_append, List.length_singleton]; omega), getD_app2]
  rw [q2, pk_cl l.length, q3]
  refine ⟨pk_in l.length 9 h9, pk_in c 5 hc, pk_in c 5 hc, fun g6 e6 => ?_⟩
  rw [pk_cl c] at e6
  refine h g6 ⟨?_, fun i hi => ?_, fun i hi => ?_, fun i hi => ?_, fun c' hc' => ?_⟩ (by rw [e6, e2]; exact (Eqx.rf.up (by decide)).up (by decide))
  · rw [e6]; exact q2
  · rw [e6, e2]; show f 10 i = _
    rw [hr.2.1 i (by rw [List.length_append, List.length_singleton]; omega), getD_app1 hi]
  · rw [e6, e2]; show f 11 i = _
    rw [hr.2.2.1 i (by rw [List.length_append, List.length_singleton]; omega), trn_app hi]
  · rw [e6, e2]; show f 12 i = _
    rw [hr.2.2.2.1 i (by rw [List.length_append, List.length_singleton]; omega), smb_app ok hi]
  · rw [e6, e2]; show upd (f 13) c (f 13 c + 1) c' = _
    by_cases q : c' = c
    · rw [q, pk_us, hr.2.2.2.2 c hc, iI_p1]
      unfold lf
      rw [List.count_append]
      simp
      congr 1
      omega
    · rw [pk_un q, hr.2.2.2.2 c' hc']
      unfold lf
      rw [List.count_append, List.count_eq_zero_of_not_mem (a := c') (l := [c]) (by simpa using q)]
      simp
theorem w_isOrder {f : Sg} {p : Pl} (ok : POk p) {l : List Nat} (hr : RRep f p l) (h9 : l.length ≤ 9) {Q : Int32 → Sg → Prop} (h1 : (∀ c, c < 5 → l.count c = pDm p c) → Q 1 f) (h0 : (¬ ∀ c, c < 5 → l.count c = pDm p c) → Q 0 f) : M_X6_isOrder_9 f Q := by
  refine pk_loop (fun n i (_ : Unit) => itr1 (B_X6_isOrder_9_2 Q) n f (nI i)) (fun i _ => ∀ c, c < i → l.count c = pDm p c) 5 0 () (Nat.zero_le _) (fun c hc => absurd hc (Nat.not_lt_zero _)) ?_ ?_
  · intro n s e
    exact pk_le 5 5 (fun _ => h1 e) (fun q => absurd q (by omega))
  · intro n i s hi e K
    refine pk_le 5 i (fun q => absurd q (by omega)) (fun _ => ⟨pk_in i 5 hi, ?_⟩)
    rw [pk_cl i, hr.2.2.2.2 i hi, nI_1]
    obtain ⟨r1, r2⟩ := lf_rng ok h9 hi
    rw [iI_eq0 (by omega) (by omega)]
    refine ⟨fun q => K () (fun c hc => ?_), fun q => h0 (fun w => q ?_)⟩
    · rcases Nat.lt_or_ge c i with z | z
      · exact e c z
      · rw [Nat.le_antisymm (by omega) z]; unfold lf at q; omega
    · unfold lf; rw [w i hi]; omega
