/-! whether the pad is an order -/
def ordP (p : Pl) (q : Pd) : Prop := ¬ opn q ∧ ∀ c, c < 5 → (cl q).count c = pDm p c
theorem ad48 (i : Nat) : (48 : Int32) + nI i = nI (48 + i) := by rw [show (48 : Int32) = nI 48 from rfl, nI_add]
theorem r_onPad {f : Sg} {q : Pd} (ok : PdOk q) (hq : PadR f q) (hn : ¬ opn q) {c : Nat} (hc : c < 5) {Q : Int32 → Sg → Prop} (h : Q (nI ((cl q).count c)) f) : M_X10_onPad_0 f (nI c) Q := by
  have h9 := ok.1
  have hlen := cl_len q
  refine pk_loop (fun n i (s : Int32) => itr3 (B_X10_onPad_0_4 Q) n f (nI c) s (nI i)) (fun i s => s = nI (((cl q).take i).count c)) q.length 0 0 (Nat.zero_le _) rfl ?_ ?_
  · intro n s e
    unfold itr3 B_X10_onPad_0_4
    rw [hq.1, e, ← hlen, List.take_length]
    exact pk_le _ _ (fun _ => h) (fun z => absurd z (by omega)) rfl rfl
  · intro n i s hi e K
    unfold itr3 B_X10_onPad_0_4 J_X10_onPad_0_31
    rw [hq.1, nI_1 i, ad48 c]
    refine pk_le _ _ (fun z => absurd z (by omega)) (fun _ => ⟨pk_in i 9 (by omega), ?_⟩) rfl rfl
    rw [pk_cl i, hq.2 i hi, cl_get hn hi]
    have hci := cl_cls ok hn i (by omega)
    have ht : ((cl q).take (i + 1)).count c = ((cl q).take i).count c + if (cl q).getD i 0 = c then 1 else 0 := by
      rw [take_succ_getD (by omega), List.count_append, List.count_singleton]
      simp [-List.getD_eq_getElem?_getD]
    refine pk_eq (48 + (cl q).getD i 0) (48 + c) (fun z z4 e4 => K z4 ?_) (fun z z4 e4 => K z4 ?_)
    · rw [ht, if_pos (by omega), e4, e, nI_1]
    · rw [ht, if_neg (by omega), e4, e, show (0 : Int32) = nI 0 from rfl, nI_add]
theorem r_isOrder {f : Sg} {p : Pl} {q : Pd} (ok : POk p) (hp : R1 (f 1) p) (qok : PdOk q) (hq : PadR f q) {Q : Int32 → Sg → Prop} (h1 : ordP p q → Q 1 f) (h0 : ¬ ordP p q → Q 0 f) : M_X10_isOrder_0 f Q := by
  have h9 := qok.1
  have loop : ∀ s0 : Int32, ((s0 = 1 ∧ ¬ opn q) ∨ (s0 = 0 ∧ ¬ ordP p q)) → J_X10_isOrder_0_12 Q f s0 := by
    intro s0 hs0
    refine pk_loop (fun n i (s : Int32) => itr2 (B_X10_isOrder_0_15 Q) n f s (nI i)) (fun i s => (s = 1 ∧ ¬ opn q ∧ ∀ c, c < i → (cl q).count c = pDm p c) ∨ (s = 0 ∧ ¬ ordP p q)) 5 0 s0 (Nat.zero_le _) ?_ ?_ ?_
    · rcases hs0 with ⟨a, b⟩ | ⟨a, b⟩
      · exact Or.inl ⟨a, b, fun c hc => absurd hc (Nat.not_lt_zero _)⟩
      · exact Or.inr ⟨a, b⟩
    · intro n s e
      refine pk_le 5 5 (fun _ => ?_) (fun z => absurd z (by omega))
      rcases e with ⟨rfl, a, b⟩ | ⟨rfl, a⟩
      · exact ⟨rfl, h1 ⟨a, b⟩⟩
      · exact ⟨rfl, h0 a⟩
    · intro n i s hi e K
      unfold itr2 B_X10_isOrder_0_15 J_X10_isOrder_0_45 J_X10_isOrder_0_46
      rw [ad13 i, nI_1 i]
      refine pk_le 5 i (fun z => absurd z (by omega)) (fun _ => ?_)
      rcases e with ⟨rfl, a, b⟩ | ⟨rfl, a⟩
      · refine ⟨fun z => absurd z (by decide), fun _ => r_onPad qok hq a hi ⟨pk_in (13 + i) 18 (by omega), ?_⟩⟩
        rw [pk_cl (13 + i), (hp.2 i hi).2]
        have hcnt : (cl q).count i ≤ (cl q).length := List.count_le_length
        have hlen := cl_len q
        have hdm := ok.dm hi
        refine pk_eq _ _ (fun z => K 1 (Or.inl ⟨rfl, a, fun c hc => ?_⟩)) (fun z => K 0 (Or.inr ⟨rfl, fun w => z (w.2 i hi)⟩)) rfl rfl
        rcases Nat.lt_or_ge c i with y | y
        · exact b c y
        · rw [Nat.le_antisymm (by omega) y]; exact z
      · exact ⟨fun _ => K 0 (Or.inr ⟨rfl, a⟩), fun z => absurd rfl z⟩
  unfold M_X10_isOrder_0
  exact r_isOpen qok hq (fun w => ⟨fun z => absurd z (by decide), fun _ => loop 0 (Or.inr ⟨rfl, fun v => v.1 w⟩)⟩) (fun w => ⟨fun _ => loop 1 (Or.inl ⟨rfl, w⟩), fun z => absurd rfl z⟩)
/-! filled -/
def tld (p : Pl) (q : Pd) (o : List Nat) : Prop := q.length = tot p ∧ ∀ i, i < tot p → alw q i (o.getD i 0) = true
theorem fl_iff (p : Pl) (q : Pd) (o : List Nat) : fl p q o = true ↔ tld p q o ∧ bks p o = 0 := by
  unfold fl tld
  simp only [Bool.and_eq_true, decide_eq_true_eq, List.all_eq_true, List.mem_range]
  constructor
  · rintro ⟨⟨a, b⟩, c⟩; exact ⟨⟨a, c⟩, b⟩
  · rintro ⟨⟨a, c⟩, b⟩; exact ⟨⟨a, b⟩, c⟩
theorem r_isAsTold {f : Sg} {p : Pl} {q : Pd} (ok : POk p) (qok : PdOk q) (hq : PadR f q) {o : List Nat} (hol : o.length = tot p) (hoc : Cls o) (hr : RR f o) {Q : Int32 → Sg → Prop} (h1 : tld p q o → Q 1 f) (h0 : ¬ tld p q o → Q 0 f) : M_X10_isAsTold_0 f Q := by
  have h9 := qok.1
  have ht := ok.2.2
  have loop : ∀ s0 : Int32, ((s0 = 1 ∧ q.length = tot p) ∨ (s0 = 0 ∧ ¬ tld p q o)) → J_X10_isAsTold_0_16 Q f s0 := by
    intro s0 hs0
    refine pk_loop (fun n i (s : Int32) => itr2 (B_X10_isAsTold_0_19 Q) n f s (nI i)) (fun i s => (s = 1 ∧ q.length = tot p ∧ ∀ j, j < i → alw q j (o.getD j 0) = true) ∨ (s = 0 ∧ ¬ tld p q o)) (tot p) 0 s0 (Nat.zero_le _) ?_ ?_ ?_
    · rcases hs0 with ⟨a, b⟩ | ⟨a, b⟩
      · exact Or.inl ⟨a, b, fun c hc => absurd hc (Nat.not_lt_zero _)⟩
      · exact Or.inr ⟨a, b⟩
    · intro n s e
      unfold itr2 B_X10_isAsTold_0_19 J_X10_isAsTold_0_72
      rw [hr.1, hol]
      refine pk_le _ _ (fun _ => ?_) (fun z => absurd z (by omega)) rfl rfl
      rcases e with ⟨rfl, a, b⟩ | ⟨rfl, a⟩
      · exact ⟨rfl, h1 ⟨a, b⟩⟩
      · exact ⟨rfl, h0 a⟩
    · intro n i s hi e K
      unfold itr2 B_X10_isAsTold_0_19 J_X10_isAsTold_0_72 J_X10_isAsTold_0_60 J_X10_isAsTold_0_65
      rw [hr.1, hol, nI_1 i]
      refine pk_le _ _ (fun z => absurd z (by omega)) (fun _ => ?_) rfl rfl
      rcases e with ⟨rfl, a, b⟩ | ⟨rfl, a⟩
      · refine ⟨fun z => absurd z (by decide), fun _ => ⟨pk_in i 9 (by omega), ?_⟩⟩
        rw [pk_cl i, hq.2 i (by omega), sgR_63 qok (by omega)]
        have step : alw q i (o.getD i 0) = true → itr2 (B_X10_isAsTold_0_19 Q) n f 1 (nI (i + 1)) := fun w => K 1 (Or.inl ⟨rfl, a, fun j hj => by
          rcases Nat.lt_or_ge j i with y | y
          · exact b j y
          · rw [Nat.le_antisymm (by omega) y]; exact w⟩)
        refine ⟨fun z => step (by unfold alw; rw [z]), fun z => ⟨pk_in i 9 (by omega), pk_in i 9 (by omega), ?_⟩⟩
        cases hz : q.getD i none with
        | none => exact absurd hz z
        | some c =>
          have hc := qok.2 i c (by omega) hz
          have hoi := hoc i (by omega)
          have e1 : sgR (some c) - 48 = nI c := sub48 c
          rw [e1, hr.2 i (by omega)]
          refine pk_eq _ _ (fun w => step (by unfold alw; rw [hz, w]; simp)) (fun w => K 0 (Or.inr ⟨rfl, fun v => ?_⟩)) rfl rfl
          have := v.2 i hi
          unfold alw at this
          rw [hz] at this
          exact w (by simpa [-List.getD_eq_getElem?_getD] using this)
      · exact ⟨fun _ => ⟨rfl, h0 a⟩, fun z => absurd rfl z⟩
  unfold M_X10_isAsTold_0
  rw [hr.1, hq.1, hol]
  exact pk_eq _ _ (fun z => loop 1 (Or.inl ⟨rfl, z.symm⟩)) (fun z => loop 0 (Or.inr ⟨rfl, fun v => z v.1.symm⟩)) rfl rfl
def s24 (p : Pl) (q : Pd) (L : List (List Nat)) : S24 := L.foldl (nt24 p q) (0, [])
theorem s24_app (p : Pl) (q : Pd) (L : List (List Nat)) (o : List Nat) : s24 p q (L ++ [o]) = nt24 p q (s24 p q L) o := by unfold s24; rw [List.foldl_append]; rfl
def StP (p : Pl) (q : Pd) (f0 f : Sg) (done : List (List Nat)) : Prop := Eqx [0, 5, 6] f0 f ∧ Fld [6, 9] f0 f ∧ f 0 6 = nI (tot p) ∧ f 0 9 = (s24 p q done).1 ∧ ((s24 p q done).1 ≠ 0 → keepsRow p (f 6) (s24 p q done).2)
theorem PadR.eqx {f g : Sg} {q : Pd} (h : PadR f q) (h0 : g 0 4 = f 0 4) (h4 : g 4 = f 4) : PadR g q := by
  unfold PadR
  rw [h0, h4]
  exact h
theorem r_filled {p : Pl} (ok : POk p) {q : Pd} (qok : PdOk q) {f : Sg} (hp : R1 (f 1) p) (hq : PadR f q) {x1 : Int32} {Q : Int32 → Sg → Prop} (hx : ¬ (-1 : Int32) ≤ x1 → Q (-2) f) (h : (-1 : Int32) ≤ x1 → ∀ g, StP p q f g (AO p) → (x1 = -1 → Q (g 0 9) g) ∧ (¬ x1 = -1 → M_X10_told__0 g x1 Q)) : M_X10_filled_0 f x1 Q := by
  have ht := ok.2.2
  unfold M_X10_filled_0
  refine ⟨fun z g2 e2 => ?_, hx⟩
  have h := h z
  subst e2
  refine r_firstOrder (p := p) ok ?_ (fun g3 x3 f3 r3 => ?_)
  · exact hp
  have hlen : (dsr (pDm p) 0 5).reverse.length = tot p := by rw [List.length_reverse, dsr_len]; rfl
  refine r_enum0 ok (W := fun n f x => itr2 (B_X10_filled_0_19 Q) n f x1 x) (St := StP p q f) ?_ ?_ (fun n g hS => ⟨fun _ => h g hS, fun z => absurd rfl z⟩) g3 r3 ?_
  · intro n f1 done o rest hd hol hoc hr hS K
    obtain ⟨s1, s2, s3, s4, s5⟩ := id hS
    have hp1 : R1 (f1 1) p := by rw [s1 1 (by decide)]; exact hp
    have hq1 : PadR f1 q := hq.eqx (s2 4 (by decide)) (s1 4 (by decide))
    have hb := bks_le p (l := o) (by omega)
    have skip : fl p q o = false → M_X10_nextOrder_0 f1 (fun r g2 => itr2 (B_X10_filled_0_19 Q) n g2 x1 r) := by
      intro w
      have e : s24 p q (done ++ [o]) = s24 p q done := by rw [s24_app]; unfold nt24; rw [if_neg (by rw [w]; decide)]
      refine K f1 hr ⟨s1, s2, s3, ?_, ?_⟩
      · rw [e]; exact s4
      · rw [e]; exact s5
    show B_X10_filled_0_19 Q _ f1 x1 1
    unfold B_X10_filled_0_19 J_X10_filled_0_48 J_X10_filled_0_58
    refine ⟨fun z => absurd z (by decide), fun _ => r_isAsTold ok qok hq1 hol hoc hr (fun w => ⟨fun z => absurd z (by decide), fun _ => r_breaks ok hp1 hoc hr (by omega) ?_⟩) (fun w => ⟨fun _ => skip ?_, fun z => absurd rfl z⟩)⟩
    · refine pk_eq _ _ (fun y => ?_) (fun y => skip ?_) rfl (nI_0).symm
      · have hfl : fl p q o = true := (fl_iff p q o).mpr ⟨w, y⟩
        have e : s24 p q (done ++ [o]) = ((s24 p q done).1 + 1, if (s24 p q done).1 = 0 then o else (s24 p q done).2) := by rw [s24_app]; unfold nt24; rw [if_pos hfl]
        rw [s4]
        refine ⟨fun v => r_keepBest hol ht hr (fun g19 x19 k19 g18 e18 => ?_), fun v g18 e18 => ?_⟩
        · subst e18
          refine K _ ⟨by show g19 0 6 = _; rw [x19 0 (by decide)]; exact hr.1, by show RowF (g19 5) o; rw [x19 5 (by decide)]; exact hr.2⟩ ⟨(s1.tr (x19.mono (by decide))).up (by decide), Fld.up0 (fun j hj => by rw [x19 0 (by decide)]; exact s2 j hj) (by decide), by show g19 0 6 = _; rw [x19 0 (by decide)]; exact s3, ?_, fun _ => ?_⟩
          · rw [e]; show g19 0 9 + 1 = _; rw [x19 0 (by decide), s4]
          · rw [e]; show keepsRow p (g19 6) (if _ then _ else _); rw [if_pos v]; exact k19
        · subst e18
          refine K _ ⟨hr.1, hr.2⟩ ⟨s1.up (by decide), s2.up0 (by decide), s3, ?_, fun _ => ?_⟩
          · rw [e]; rfl
          · rw [e]; show keepsRow p (f1 6) (if _ then _ else _); rw [if_neg v]; exact s5 v
      · cases hz : fl p q o with
        | false => rfl
        | true => exact absurd ((fl_iff p q o).mp hz).2 y
    · cases hz : fl p q o with
      | false => rfl
      | true => exact absurd ((fl_iff p q o).mp hz).1 w
  · intro f1 g done x hS
    obtain ⟨s1, s2, s3, s4, s5⟩ := hS
    exact ⟨s1.tr (x.mono (by decide)), fun j hj => by rw [x 0 (by decide)]; exact s2 j hj, by rw [x 0 (by decide)]; exact s3, by rw [x 0 (by decide)]; exact s4, fun z => by rw [x 6 (by decide)]; exact s5 z⟩
  · refine ⟨(Eqx.rf.up (by decide)).tr (x3.mono (by decide)), fun j hj => ?_, by rw [r3.1, hlen], ?_, fun z => absurd rfl z⟩
    · rw [f3 j (fun z => hj (by simp at z ⊢; omega))]
      exact (Fld.rf (S := [6, 9]).up0 (j := 9) (by decide)) j hj
    · rw [f3 9 (by decide)]; rfl
/-! the lane, by numbers -/
def gor (k : Nat) : Nat → Nat → List Nat → Option (List Nat)
  | 0, _, _ => some []
  | n + 1, v, w => if v % (k + 1) < w.length then (gor k n (v / (k + 1)) (w.eraseIdx (v % (k + 1)))).map (fun t => w.getD (v % (k + 1)) 0 :: t) else none
theorem getD_erase {w : List Nat} {d j : Nat} (hj : j + 1 < w.length) (hd : d < w.length) : (w.eraseIdx d).getD j 0 = if j < d then w.getD j 0 else w.getD (j + 1) 0 := by
  simp only [List.getD, List.getElem?_eraseIdx]
  split <;> rfl
theorem r_goOn48 {q : Pd} (ok : PdOk q) {k : Nat} (hk : k ≤ 2) {f0 : Sg} {Q : Int32 → Sg → Prop} (hq4 : f0 0 4 = nI q.length) : ∀ (n v : Nat) (w pre : List Nat) (f : Sg), pre.length + n = q.length → w.length = n → v < 2 ^ 30 → Eqx [0, 5, 9] f0 f → Fld [6] f0 f → f 0 6 = nI q.length → RowF (f 5) pre → RowF (f 9) w →
    (∀ t g, gor k n v w = some t → Eqx [0, 5, 9] f0 g → Fld [6] f0 g → RR g (pre ++ t) → Q 1 g) → (∀ g, gor k n v w = none → Eqx [0, 5, 9] f0 g → Fld [6] f0 g → Q 0 g) → itr3 (B_X10_goOn_0_48 Q) (n + 1) f (nI k) (nI v) (nI pre.length) := by
  have h9 := ok.1
  intro n
  induction n with
  | zero =>
    intro v w pre f hl hw hv x fl' h6 hpre hwait h1 h0
    show B_X10_goOn_0_48 Q _ f _ _ _
    unfold B_X10_goOn_0_48
    rw [fl' 4 (by decide), hq4]
    refine pk_le _ _ (fun _ => h1 [] f rfl x fl' ⟨?_, ?_⟩) (fun z => absurd z (by omega)) rfl rfl
    · rw [List.append_nil, h6]; congr 1; omega
    · rw [List.append_nil]; exact hpre
  | succ n ih =>
    intro v w pre f hl hw hv x fl' h6 hpre hwait h1 h0
    show B_X10_goOn_0_48 Q _ f _ _ _
    unfold B_X10_goOn_0_48
    have hd4 : f 0 4 = nI q.length := by rw [fl' 4 (by decide), hq4]
    rw [hd4, nI_1 k]
    refine pk_le _ _ (fun z => absurd z (by omega)) (fun _ => ⟨nI_ne0 (by omega) (by omega), fun z5 e5 => ⟨nI_ne0 (by omega) (by omega), fun z7 e7 => ?_⟩⟩) rfl rfl
    rw [pk_rem (by omega) (by omega) (by omega)] at e5
    rw [pk_div (by omega) (by omega) (by omega)] at e7
    have hmod : v % (k + 1) < k + 1 := Nat.mod_lt _ (by omega)
    have hdiv : v / (k + 1) ≤ v := Nat.div_le_self _ _
    rw [e5, e7, pk_sub (show pre.length ≤ q.length by omega)]
    have hgor : gor k (n + 1) v w = if v % (k + 1) < w.length then (gor k n (v / (k + 1)) (w.eraseIdx (v % (k + 1)))).map (fun t => w.getD (v % (k + 1)) 0 :: t) else none := rfl
    refine pk_lt _ _ (fun z => ⟨pk_in (v % (k + 1)) 9 (by omega), pk_in pre.length 9 (by omega), fun g11 e11 => ?_⟩) (fun z => h0 f (by rw [hgor, if_neg (by omega)]) x fl') rfl rfl
    rw [hgor, if_pos (by omega)] at h1 h0
    rw [pk_cl pre.length, pk_cl (v % (k + 1)) rfl (by omega), hwait _ (by omega)] at e11
    generalize hde : v % (k + 1) = d at *
    subst e11
    refine pk_loop (fun m j (s : Sg) => itr4 (B_X10_goOn_0_102 Q (itr3 (B_X10_goOn_0_48 Q) (n + 1))) m s (nI k) (nI (v / (k + 1))) (nI pre.length) (nI j)) (fun j s => d ≤ j ∧ Eqx [9] (va_up f 5 (upd (f 5) pre.length (nI (w.getD d 0)))) s ∧ ∀ i, i < q.length → s 9 i = if d ≤ i ∧ i < j then f 9 (i + 1) else f 9 i) (q.length - 1) d _ (by omega) ⟨Nat.le_refl _, Eqx.rf, fun i hi => by rw [if_neg (by omega)]; rfl⟩ ?_ ?_
    · intro m s e
      obtain ⟨_, e1, e2⟩ := e
      unfold itr4 B_X10_goOn_0_102
      have s4 : s 0 4 = nI q.length := by rw [e1 0 (by decide)]; exact hd4
      rw [s4, nI_1 (q.length - 1), nI_1 pre.length]
      refine pk_le _ _ (fun _ => ?_) (fun y => absurd y (by omega)) rfl rfl
      have hl2 : (pre ++ [w.getD d 0]).length = pre.length + 1 := by rw [List.length_append]; rfl
      rw [← hl2]
      refine ih (v / (k + 1)) (w.eraseIdx d) (pre ++ [w.getD d 0]) s (by omega) (by rw [List.length_eraseIdx, if_pos (by omega)]; omega) (by omega) ((x.up (by decide)).tr (e1.mono (by decide))) (fun j hj => by rw [e1 0 (by decide)]; exact fl' j hj) (by rw [e1 0 (by decide)]; exact h6) ?_ ?_ (fun t g ht a b c => h1 (w.getD d 0 :: t) g (by rw [ht]; rfl) a b (by simpa [-List.getD_eq_getElem?_getD] using c)) (fun g hg a b => h0 g (by rw [hg]; rfl) a b)
      · rw [e1 5 (by decide)]
        exact hpre.app
      · intro i hi
        rw [List.length_eraseIdx, if_pos (by omega)] at hi
        rw [getD_erase (by omega) (by omega), e2 i (by omega)]
        by_cases y : i < d
        · rw [if_neg (by omega), if_pos y]; exact hwait i (by omega)
        · rw [if_pos (by omega), if_neg y]; exact hwait (i + 1) (by omega)
    · intro m j s hj e K
      obtain ⟨hjd, e1, e2⟩ := e
      unfold itr4 B_X10_goOn_0_102
      have s4 : s 0 4 = nI q.length := by rw [e1 0 (by decide)]; exact hd4
      rw [s4, nI_1 j]
      refine pk_le _ _ (fun y => absurd y (by omega)) (fun _ => ⟨pk_in (j + 1) 9 (by omega), pk_in j 9 (by omega), fun g15 e15 => ?_⟩) rfl rfl
      rw [pk_cl j, pk_cl (j + 1)] at e15
      subst e15
      refine K _ ⟨by omega, e1.up (by decide), fun i hi => ?_⟩
      show upd (s 9) j (s 9 (j + 1)) i = _
      rcases Nat.lt_trichotomy i j with y | y | y
      · rw [pk_un (by omega), e2 i hi]
        by_cases y2 : d ≤ i
        · rw [if_pos (by omega), if_pos (by omega)]
        · rw [if_neg (by omega), if_neg (by omega)]
      · rw [y, pk_us, e2 (j + 1) (by omega), if_neg (by omega), if_pos (by omega)]
      · rw [pk_un (by omega), e2 i hi, if_neg (by omega), if_neg (by omega)]
theorem r_goOn {q : Pd} (ok : PdOk q) (hn : ¬ opn q) {k : Nat} (hk : k ≤ 2) {f : Sg} (hq : PadR f q) {v : Nat} (hv : v < 2 ^ 30) {Q : Int32 → Sg → Prop} (h1 : ∀ t g, gor k q.length v (cl q) = some t → Eqx [0, 5, 9] f g → Fld [6] f g → RR g t → Q 1 g) (h0 : ∀ g, gor k q.length v (cl q) = none → Eqx [0, 5, 9] f g → Fld [6] f g → Q 0 g) : M_X10_goOn_0 f (nI v) (nI k) Q := by
  have h9 := ok.1
  have hlen := cl_len q
  refine pk_loop (fun n i (s : Sg) => itr3 (B_X10_goOn_0_5 Q) n s (nI k) (nI v) (nI i)) (fun i s => Eqx [9] f s ∧ ∀ j, j < i → s 9 j = nI ((cl q).getD j 0)) q.length 0 f (Nat.zero_le _) ⟨Eqx.rf, fun j hj => absurd hj (Nat.not_lt_zero _)⟩ ?_ ?_
  · intro n s e
    obtain ⟨e1, e2⟩ := e
    unfold itr3 B_X10_goOn_0_5
    have s4 : s 0 4 = nI q.length := by rw [e1 0 (by decide)]; exact hq.1
    rw [s4]
    refine pk_le _ _ (fun _ g2 eg => ?_) (fun z => absurd z (by omega)) rfl rfl
    subst eg
    have := r_goOn48 ok hk (f0 := f) (Q := Q) hq.1 q.length v (cl q) [] (va_up s 0 (upd (s 0) 6 (nI q.length))) (by simp) hlen hv ((e1.mono (by decide)).up (by decide)) (Fld.up0 (fun j hj => by rw [e1 0 (by decide)]) (by decide)) rfl (fun i hi => absurd hi (Nat.not_lt_zero _)) (fun i hi => e2 i (by omega)) (fun t g a b c d => h1 t g a b c d) h0
    exact ⟨_, this⟩
  · intro n i s hi e K
    obtain ⟨e1, e2⟩ := e
    unfold itr3 B_X10_goOn_0_5
    have s4 : s 0 4 = nI q.length := by rw [e1 0 (by decide)]; exact hq.1
    rw [s4, nI_1 i]
    refine pk_le _ _ (fun z => absurd z (by omega)) (fun _ => ⟨pk_in i 9 (by omega), pk_in i 9 (by omega), fun g18 e18 => ?_⟩) rfl rfl
    rw [pk_cl i, e1 4 (by decide), hq.2 i hi, cl_get hn hi] at e18
    subst e18
    refine K _ ⟨e1.up (by decide), fun j hj => ?_⟩
    show upd (s 9) i (sgR (some ((cl q).getD i 0)) - 48) j = _
    rcases Nat.lt_or_ge j i with y | y
    · rw [pk_un (by omega)]; exact e2 j y
    · rw [Nat.le_antisymm (by omega) y, pk_us]; exact sub48 _
def mn (p : Pl) (k : Nat) (l : List Nat) : Nat → Nat
  | 0 => 1000
  | i + 1 => match gor k l.length i l with
    | none => mn p k l i
    | some t => if bks p t ≤ mn p k l i then bks p t else mn p k l i
theorem mn_le (p : Pl) (k : Nat) (l : List Nat) : ∀ i, mn p k l i ≤ 1000 := by
  intro i
  induction i with
  | zero => exact Nat.le_refl _
  | succ i ih =>
    unfold mn
    split
    · exact ih
    · split <;> omega
theorem gor_mem {k : Nat} : ∀ (n v : Nat) (w t : List Nat), gor k n v w = some t → t ∈ lns k n w := by
  intro n
  induction n with
  | zero => intro v w t h; cases h; simp [lns]
  | succ n ih =>
    intro v w t h
    unfold gor at h
    split at h
    · rename_i hlt
      cases hz : gor k n (v / (k + 1)) (w.eraseIdx (v % (k + 1))) with
      | none => rw [hz] at h; cases h
      | some u =>
        rw [hz] at h
        cases h
        unfold lns
        refine List.mem_flatMap.mpr ⟨v % (k + 1), List.mem_range.mpr (Nat.mod_lt _ (by omega)), ?_⟩
        rw [if_pos hlt]
        exact List.mem_map.mpr ⟨u, ih _ _ _ hz, rfl⟩
    · cases h
theorem mem_gor {k : Nat} : ∀ (n : Nat) (w t : List Nat), t ∈ lns k n w → ∃ v, v < (k + 1) ^ n ∧ gor k n v w = some t := by
  intro n
  induction n with
  | zero => intro w t h; have : t = [] := by simpa [lns] using h
            exact ⟨0, by simp, by rw [this]; rfl⟩
  | succ n ih =>
    intro w t h
    unfold lns at h
    obtain ⟨i, hi, h⟩ := List.mem_flatMap.mp h
    have hi := List.mem_range.mp hi
    split at h
    · rename_i hlt
      obtain ⟨u, hu, rfl⟩ := List.mem_map.mp h
      obtain ⟨v, hv, hg⟩ := ih _ _ hu
      refine ⟨i + (k + 1) * v, ?_, ?_⟩
      · have e2 : (k + 1) ^ (n + 1) = (k + 1) * (k + 1) ^ n := by rw [Nat.pow_succ, Nat.mul_comm]
        rw [e2]
        have : (k + 1) * (v + 1) ≤ (k + 1) * (k + 1) ^ n := Nat.mul_le_mul_left _ hv
        rw [Nat.mul_add] at this
        omega
      · unfold gor
        rw [Nat.add_mul_mod_self_left, Nat.mod_eq_of_lt hi, if_pos hlt, Nat.add_mul_div_left _ _ (by omega), Nat.div_eq_of_lt hi, Nat.zero_add, hg]
        rfl
    · simp at h
theorem lns_self {k : Nat} : ∀ (w : List Nat), w ∈ lns k w.length w := by
  intro w
  induction w with
  | nil => simp [lns]
  | cons a w ih =>
    show _ ∈ lns k (w.length + 1) (a :: w)
    unfold lns
    refine List.mem_flatMap.mpr ⟨0, List.mem_range.mpr (by omega), ?_⟩
    rw [if_pos (by simp)]
    exact List.mem_map.mpr ⟨w, ih, rfl⟩
theorem lns_len {k : Nat} : ∀ (n : Nat) (w t : List Nat), w.length = n → (∀ c, c ∈ w → c < 5) → t ∈ lns k n w → t.length = n ∧ ∀ c, c ∈ t → c < 5 := by
  intro n
  induction n with
  | zero => intro w t _ _ h; have : t = [] := by simpa [lns] using h
            subst this; exact ⟨rfl, fun c hc => by simp at hc⟩
  | succ n ih =>
    intro w t hw hc h
    unfold lns at h
    obtain ⟨i, hi, h⟩ := List.mem_flatMap.mp h
    split at h
    · rename_i hlt
      obtain ⟨u, hu, rfl⟩ := List.mem_map.mp h
      obtain ⟨a, b⟩ := ih (w.eraseIdx i) u (by rw [List.length_eraseIdx, if_pos hlt]; omega) (fun c h => hc c (List.mem_of_mem_eraseIdx h)) hu
      refine ⟨by simp [a], fun c h => ?_⟩
      rcases List.mem_cons.mp h with rfl | h
      · rw [show w.getD i 0 = w[i] by simp [List.getD, hlt]]
        exact hc _ (List.getElem_mem hlt)
      · exact b c h
    · simp at h
theorem mn_low (p : Pl) (k : Nat) (l : List Nat) : ∀ N v t, v < N → gor k l.length v l = some t → mn p k l N ≤ bks p t := by
  intro N
  induction N with
  | zero => intro v t h; exact absurd h (Nat.not_lt_zero _)
  | succ N ih =>
    intro v t hv hg
    unfold mn
    rcases Nat.lt_or_ge v N with q | q
    · have := ih v t q hg
      split
      · exact this
      · split <;> omega
    · have : v = N := by omega
      rw [this] at hg
      rw [hg]
      show (if _ then _ else _) ≤ _
      split <;> omega
theorem mn_att (p : Pl) (k : Nat) (l : List Nat) : ∀ N, mn p k l N = 1000 ∨ ∃ v t, v < N ∧ gor k l.length v l = some t ∧ mn p k l N = bks p t := by
  intro N
  induction N with
  | zero => exact Or.inl rfl
  | succ N ih =>
    have old : mn p k l (N + 1) = mn p k l N → mn p k l (N + 1) = 1000 ∨ ∃ v t, v < N + 1 ∧ gor k l.length v l = some t ∧ mn p k l (N + 1) = bks p t := by
      intro e
      rw [e]
      rcases ih with q | ⟨v, t, a, b, c⟩
      · exact Or.inl q
      · exact Or.inr ⟨v, t, by omega, b, c⟩
    cases hg : gor k l.length N l with
    | none =>
      refine old ?_
      show (match gor k l.length N l with | none => mn p k l N | some t => if bks p t ≤ mn p k l N then bks p t else mn p k l N) = _
      rw [hg]
    | some t =>
      by_cases q : bks p t ≤ mn p k l N
      · refine Or.inr ⟨N, t, by omega, hg, ?_⟩
        show (match gor k l.length N l with | none => mn p k l N | some t => if bks p t ≤ mn p k l N then bks p t else mn p k l N) = _
        rw [hg]; exact if_pos q
      · refine old ?_
        show (match gor k l.length N l with | none => mn p k l N | some t => if bks p t ≤ mn p k l N then bks p t else mn p k l N) = _
        rw [hg]; exact if_neg q
theorem nts_fold (p : Pl) : ∀ (L : List (List Nat)) (s : Nat), L.foldl (nts p) s ≤ s ∧ (∀ t, t ∈ L → L.foldl (nts p) s ≤ bks p t) ∧ (L.foldl (nts p) s = s ∨ ∃ t, t ∈ L ∧ L.foldl (nts p) s = bks p t) := by
  intro L
  induction L with
  | nil => intro s; exact ⟨Nat.le_refl _, fun t h => by simp at h, Or.inl rfl⟩
  | cons a L ih =>
    intro s
    rw [List.foldl_cons]
    obtain ⟨i1, i2, i3⟩ := ih (nts p s a)
    have hn : nts p s a ≤ s ∧ nts p s a ≤ bks p a ∧ (nts p s a = s ∨ nts p s a = bks p a) := by
      unfold nts
      split
      · exact ⟨by omega, by omega, Or.inr rfl⟩
      · exact ⟨by omega, by omega, Or.inl rfl⟩
    refine ⟨by omega, fun t ht => ?_, ?_⟩
    · rcases List.mem_cons.mp ht with rfl | h
      · omega
      · exact i2 t h
    · rcases i3 with q | ⟨t, a1, a2⟩
      · rcases hn.2.2 with w | w
        · exact Or.inl (by omega)
        · exact Or.inr ⟨a, List.mem_cons_self, by omega⟩
      · exact Or.inr ⟨t, List.mem_cons_of_mem _ a1, a2⟩
theorem lane_eq (p : Pl) {k : Nat} {l : List Nat} (h9 : l.length ≤ 9) : lnb p k l = mn p k l ((k + 1) ^ l.length) := by
  have hb := bks_le p h9
  unfold lnb
  obtain ⟨i1, i2, i3⟩ := nts_fold p (lns k l.length l) (bks p l)
  have low : ∀ t, t ∈ lns k l.length l → mn p k l ((k + 1) ^ l.length) ≤ bks p t := by
    intro t ht
    obtain ⟨v, hv, hg⟩ := mem_gor _ _ _ ht
    exact mn_low p k l _ v t hv hg
  apply Nat.le_antisymm
  · rcases mn_att p k l ((k + 1) ^ l.length) with q | ⟨v, t, a, b, c⟩
    · have := low l (lns_self l); omega
    · rw [c]; exact i2 t (gor_mem _ _ _ _ b)
  · rcases i3 with q | ⟨t, a, b⟩
    · rw [q]; exact low l (lns_self l)
    · rw [b]; exact low t a
theorem r_lane {p : Pl} (ok : POk p) {q : Pd} (qok : PdOk q) {f : Sg} (hp : R1 (f 1) p) (hq : PadR f q) {x1 : Int32} {Q : Int32 → Sg → Prop} (hx : (∀ k, k < 3 → x1 ≠ nI k) → Q (-2) f) (ho : ∀ k, k < 3 → x1 = nI k → opn q → Q (-7) f) (h : ∀ k, k < 3 → x1 = nI k → ¬ opn q → ∀ g, Eqx [0, 5, 9] f g → Fld [6] f g → Q (nI (lnb p k (cl q))) g) : M_X10_lane_0 f x1 Q := by
  have h9 := qok.1
  have hlen := cl_len q
  unfold M_X10_lane_0
  refine r_inN 3 (by omega) (by omega) rfl (fun k hk e => ⟨fun z => absurd z (by decide), fun _ => r_isOpen qok hq (fun w => ⟨fun z => absurd z (by decide), fun _ => ho k hk e w⟩) (fun w => ⟨fun _ => ?_, fun z => absurd rfl z⟩)⟩) (fun w => ⟨fun _ => hx w, fun z => absurd rfl z⟩)
  have hh := h k hk e w
  subst e
  have hpow : ∀ i, i ≤ 9 → (k + 1) ^ i ≤ 19683 := by
    intro i hi
    have a1 : (k + 1) ^ i ≤ 3 ^ i := Nat.pow_le_pow_left (by omega) i
    have a2 : (3 : Nat) ^ i ≤ 3 ^ 9 := Nat.pow_le_pow_right (by omega) hi
    have a3 : (3 : Nat) ^ 9 = 19683 := by decide
    omega
  refine pk_loop (fun n i (s : Int32) => itr3 (B_X10_lane_0_26 Q) n f (nI k) s (nI i)) (fun i s => s = nI ((k + 1) ^ i)) q.length 0 1 (Nat.zero_le _) rfl ?_ ?_
  · intro n s e
    unfold itr3 B_X10_lane_0_26
    rw [hq.1, e]
    refine pk_le _ _ (fun _ => ?_) (fun z => absurd z (by omega)) rfl rfl
    have hP := hpow q.length h9
    refine pk_loop (fun n v (s : Sg × Int32) => itr4 (B_X10_lane_0_53 Q) n s.1 (nI k) (nI ((k + 1) ^ q.length)) s.2 (nI v)) (fun v s => Eqx [0, 5, 9] f s.1 ∧ Fld [6] f s.1 ∧ s.2 = nI (mn p k (cl q) v)) ((k + 1) ^ q.length) 0 (f, 1000) (Nat.zero_le _) ⟨Eqx.rf, Fld.rf, rfl⟩ ?_ ?_
    · intro n s e
      unfold itr4 B_X10_lane_0_53
      refine pk_le _ _ (fun _ => ?_) (fun z => absurd z (by omega)) rfl rfl
      rw [e.2.2, ← hlen, ← lane_eq p (by omega)]
      exact hh s.1 e.1 e.2.1
    · intro n v s hv e K
      obtain ⟨e1, e2, e3⟩ := e
      unfold itr4 B_X10_lane_0_53 J_X10_lane_0_78
      rw [nI_1 v]
      have hq1 : PadR s.1 q := hq.eqx (e2 4 (by decide)) (e1 4 (by decide))
      refine pk_le _ _ (fun z => absurd z (by omega)) (fun _ => r_goOn qok w (by omega) hq1 (by omega) (fun t g hg x y r => ⟨fun z => absurd z (by decide), fun _ => ?_⟩) (fun g hg x y => ⟨fun _ => K (g, s.2) ⟨e1.tr x, e2.tr y, ?_⟩, fun z => absurd rfl z⟩)) rfl rfl
      · rw [← hlen] at hg
        obtain ⟨t1, t2⟩ := lns_len _ _ _ rfl (cl_cls qok w).mem (gor_mem _ _ _ _ hg)
        have hb := bks_le p (l := t) (by omega)
        have hm := mn_le p k (cl q) v
        refine r_breaks ok (by rw [(e1.tr x) 1 (by decide)]; exact hp) (Cls.of t2) r (by omega) ?_
        unfold M_X10_less J_X10_less_10
        rw [e3]
        have hmn : mn p k (cl q) (v + 1) = if bks p t ≤ mn p k (cl q) v then bks p t else mn p k (cl q) v := by
          show (match gor k (cl q).length v (cl q) with | none => mn p k (cl q) v | some t => if bks p t ≤ mn p k (cl q) v then bks p t else mn p k (cl q) v) = _
          rw [hg]
        refine pk_le _ _ (fun z => K (g, nI (bks p t)) ⟨e1.tr x, e2.tr y, ?_⟩) (fun z => K (g, nI (mn p k (cl q) v)) ⟨e1.tr x, e2.tr y, ?_⟩) rfl rfl
        · show nI (bks p t) = _
          rw [hmn, if_pos z]
        · show nI (mn p k (cl q) v) = _
          rw [hmn, if_neg (by omega)]
      · rw [← hlen] at hg
        rw [e3]
        congr 1
        show _ = (match gor k (cl q).length v (cl q) with | none => mn p k (cl q) v | some t => if bks p t ≤ mn p k (cl q) v then bks p t else mn p k (cl q) v)
        rw [hg]
  · intro n i s hi e K
    unfold itr3 B_X10_lane_0_26
    rw [hq.1, nI_1 i, nI_1 k]
    refine pk_le _ _ (fun z => absurd z (by omega)) (fun _ z16 e16 => K z16 ?_) rfl rfl
    rw [e16, e, pk_mul, Nat.pow_succ]
