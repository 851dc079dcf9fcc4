/-! the rule -/
def cmg (p : Pl) (l : List Nat) (c : Nat) : Nat := bAt p (l ++ [c]) l.length
def rnk (p : Pl) (l : List Nat) (c : Nat) : Int := 100 * (cmg p l c : Int) + 10 * (4 - (sz4 (pSt p c) : Int)) + 9 - lf p l c
def pick (p : Pl) (l : List Nat) : Nat → Option Nat
  | 0 => none
  | n + 1 => if 0 < lf p l n then (match pick p l n with
    | none => some n
    | some b => if rnk p l n < rnk p l b then some n else some b) else pick p l n
def rcl (p : Pl) (l : List Nat) : Option Nat := pick p l 5
def orI (x : Option Nat) : Int32 := match x with
  | none => -6
  | some c => nI c
theorem pick_some {p : Pl} {l : List Nat} : ∀ {n b : Nat}, pick p l n = some b → b < n ∧ 0 < lf p l b := by
  intro n
  induction n with
  | zero => intro b h; cases h
  | succ n ih =>
    intro b h
    unfold pick at h
    split at h
    · rename_i h0
      split at h
      · cases h; exact ⟨by omega, h0⟩
      · rename_i b' hb
        obtain ⟨i1, i2⟩ := ih hb
        split at h
        · cases h; exact ⟨by omega, h0⟩
        · cases h; exact ⟨by omega, i2⟩
    · obtain ⟨i1, i2⟩ := ih h
      exact ⟨by omega, i2⟩
theorem pick_none {p : Pl} {l : List Nat} : ∀ {n : Nat}, pick p l n = none → ∀ c, c < n → lf p l c ≤ 0 := by
  intro n
  induction n with
  | zero => intro _ c hc; exact absurd hc (Nat.not_lt_zero _)
  | succ n ih =>
    intro h c hc
    unfold pick at h
    split at h
    · split at h
      · cases h
      · split at h <;> cases h
    · rename_i h0
      rcases Nat.lt_or_ge c n with q | q
      · exact ih h c q
      · rw [Nat.le_antisymm (by omega) q]; omega
theorem nI_ne6 : ∀ c, c < 5 → ¬ nI c = -6 := by decide
theorem rnk_rng {p : Pl} (ok : POk p) {l : List Nat} (h9 : l.length ≤ 9) {c : Nat} (hc : c < 5) : -1000 ≤ rnk p l c ∧ rnk p l c ≤ 1000 := by
  obtain ⟨r1, r2⟩ := lf_rng ok h9 hc
  have h1 := bAt_le p (l ++ [c]) l.length
  have h2 := sz4_le _ (ok.2.1 c hc)
  unfold rnk cmg
  omega
theorem iI_add (a b : Int) : iI a + iI b = iI (a + b) := (Int32.ofInt_add a b).symm
theorem iI_sub (a b : Int) : iI a - iI b = iI (a - b) := (Int32.ofInt_sub a b).symm
theorem iI_mul (a b : Int) : iI a * iI b = iI (a * b) := (Int32.ofInt_mul a b).symm
theorem li_100 : (100 : Int32) = iI 100 := rfl
theorem li_10 : (10 : Int32) = iI 10 := rfl
theorem li_4 : (4 : Int32) = iI 4 := rfl
theorem li_9 : (9 : Int32) = iI 9 := rfl
theorem w_ruleClass {f : Sg} {p : Pl} (ok : POk p) (hp : P1 f p) {l : List Nat} (hr : RRep f p l) (hl : Cls l) (h9 : l.length ≤ 9) {Q : Int32 → Sg → Prop} (h : l.length < 9 ∨ (∀ c, c < 5 → lf p l c ≤ 0)) (hQ : Q (orI (rcl p l)) f) : M_X6_ruleClass_9 f Q := by
  refine pk_loop (fun n i (s : Int32 × Int32) => itr3 (B_X6_ruleClass_9_7 Q) n f s.1 s.2 (nI i)) (fun i s => s.1 = orI (pick p l i) ∧ ∀ b, pick p l i = some b → s.2 = iI (rnk p l b)) 5 0 (-6, 0) (Nat.zero_le _) ⟨rfl, fun b q => by cases q⟩ ?_ ?_
  · intro n s e
    exact pk_le 5 5 (fun _ => by rw [e.1]; exact hQ) (fun q => absurd q (by omega))
  · intro n i s hi e K
    obtain ⟨e1, e2⟩ := e
    refine pk_le 5 i (fun q => absurd q (by omega)) (fun _ => ⟨pk_in i 5 hi, ?_⟩)
    unfold J_X6_ruleClass_9_92 J_X6_ruleClass_9_97
    obtain ⟨r1, r2⟩ := lf_rng ok h9 hi
    rw [pk_cl i, hr.2.2.2.2 i hi, nI_1, iI_le0 (by omega) (by omega)]
    refine ⟨fun q => K s ?_, fun q => w_trail ok hp hr h9 hi ?_⟩
    · have e3 : pick p l (i + 1) = pick p l i := by
        show (if 0 < lf p l i then _ else pick p l i) = _
        rw [if_neg (by omega)]
      rw [e3]; exact ⟨e1, e2⟩
    · have h8 : l.length < 9 := by
        rcases h with h | h
        · exact h
        · exact absurd (h i hi) q
      rw [hr.1, nI_1]
      refine w_bae ok hp (hl.app hi) h8 ⟨pk_in i 5 hi, ?_⟩
      rw [(hp.2 i hi).1]
      refine w_bitCount (fun z11 e11 => ⟨pk_in i 5 hi, fun z13 e13 => ?_⟩)
      rw [bc_sz _ (ok.2.1 i hi)] at e11
      rw [hr.2.2.2.2 i hi, e11] at e13
      have e4 : z13 = iI (rnk p l i) := by
        rw [e13, li_100, li_10, li_4, li_9, iI_nI, iI_nI, iI_sub, iI_mul, iI_mul, iI_add, iI_add, iI_sub]
        rfl
      have q0 : 0 < lf p l i := by omega
      obtain ⟨k1, k2⟩ := rnk_rng ok h9 hi
      cases hpk : pick p l i with
      | none =>
        have e3 : pick p l (i + 1) = some i := by
          show (if 0 < lf p l i then (match pick p l i with
            | none => some i
            | some b => if rnk p l i < rnk p l b then some i else some b) else pick p l i) = _
          rw [if_pos q0, hpk]
        rw [hpk] at e1
        refine ⟨fun _ => K (nI i, z13) ⟨?_, fun b hb => ?_⟩, fun z => absurd e1 z⟩
        · rw [e3]; rfl
        · rw [e3] at hb; cases hb; exact e4
      | some b =>
        obtain ⟨b1, b2⟩ := pick_some hpk
        have e5 := e2 b hpk
        obtain ⟨k3, k4⟩ := rnk_rng ok h9 (c := b) (by omega)
        have e3 : pick p l (i + 1) = if rnk p l i < rnk p l b then some i else some b := by
          show (if 0 < lf p l i then (match pick p l i with
            | none => some i
            | some b => if rnk p l i < rnk p l b then some i else some b) else pick p l i) = _
          rw [if_pos q0, hpk]
        rw [hpk] at e1
        refine ⟨fun z => absurd (e1.symm.trans z) (nI_ne6 b (by omega)), fun _ => ?_⟩
        rw [e5, e4, iI_le (by omega) (by omega) (by omega) (by omega)]
        refine ⟨fun z => K (s.1, iI (rnk p l b)) ⟨?_, fun b2 hb => ?_⟩, fun z => K (nI i, iI (rnk p l i)) ⟨?_, fun b2 hb => ?_⟩⟩
        · rw [e3, if_neg (by omega)]; exact e1
        · rw [e3, if_neg (by omega)] at hb; cases hb; exact rfl
        · rw [e3, if_pos (by omega)]; rfl
        · rw [e3, if_pos (by omega)] at hb; cases hb; exact rfl
/-! what is left, over all classes -/
theorem sm_count {l : List Nat} (h : ∀ c, c ∈ l → c < 5) : sm (fun c => l.count c) 5 = l.length := by
  induction l with
  | nil => rfl
  | cons a l ih =>
    have ih := ih (fun c hc => h c (List.mem_cons_of_mem _ hc))
    have ha := h a List.mem_cons_self
    have e : ∀ c, List.count c (a :: l) = List.count c l + if a = c then 1 else 0 := by
      intro c
      rw [List.count_cons]
      simp
    simp only [sm] at ih ⊢
    rw [e 0, e 1, e 2, e 3, e 4, List.length_cons, ← ih]
    rcases (show a = 0 ∨ a = 1 ∨ a = 2 ∨ a = 3 ∨ a = 4 by omega) with rfl | rfl | rfl | rfl | rfl <;> simp <;> omega
theorem Cls.mem {l : List Nat} (h : Cls l) : ∀ c, c ∈ l → c < 5 := by
  intro c hc
  obtain ⟨i, hi, e⟩ := List.getElem_of_mem hc
  have := h i hi
  rw [show l.getD i 0 = l[i] by simp [List.getD, hi]] at this
  rw [← e]; exact this
theorem Cls.of {l : List Nat} (h : ∀ c, c ∈ l → c < 5) : Cls l := by
  intro i hi
  rw [show l.getD i 0 = l[i] by simp [List.getD, hi]]
  exact h _ (List.getElem_mem hi)
theorem lf_sum {p : Pl} {l : List Nat} (hl : Cls l) : lf p l 0 + lf p l 1 + lf p l 2 + lf p l 3 + lf p l 4 = (tot p : Int) - (l.length : Int) := by
  have h := sm_count hl.mem
  unfold tot lf
  simp only [sm] at h ⊢
  omega
/-- the row that the rule makes: its first n cars -/
def rlr (p : Pl) : Nat → List Nat
  | 0 => []
  | n + 1 => rlr p n ++ [(rcl p (rlr p n)).getD 0]
theorem rlr_ok {p : Pl} : ∀ n, n ≤ tot p → (rlr p n).length = n ∧ Cls (rlr p n) ∧ (∀ c, c < 5 → 0 ≤ lf p (rlr p n) c) := by
  intro n
  induction n with
  | zero => intro _; exact ⟨rfl, fun i hi => absurd hi (Nat.not_lt_zero _), fun c _ => by show 0 ≤ lf p [] c; unfold lf; simp⟩
  | succ n ih =>
    intro hn
    obtain ⟨i1, i2, i3⟩ := ih (by omega)
    have hs := lf_sum (p := p) i2
    rw [i1] at hs
    cases hp : rcl p (rlr p n) with
    | none =>
      have := pick_none hp
      have a0 := this 0 (by omega); have a1 := this 1 (by omega); have a2 := this 2 (by omega); have a3 := this 3 (by omega); have a4 := this 4 (by omega)
      omega
    | some b =>
      obtain ⟨b1, b2⟩ := pick_some hp
      have e : rlr p (n + 1) = rlr p n ++ [b] := by show rlr p n ++ [(rcl p (rlr p n)).getD 0] = _; rw [hp]; rfl
      rw [e]
      refine ⟨by rw [List.length_append, i1]; rfl, i2.app b1, fun c hc => ?_⟩
      have h3 := i3 c hc
      unfold lf at h3 b2 ⊢
      rw [List.count_append]
      by_cases q : c = b
      · rw [q]; rw [q] at h3; simp; omega
      · rw [List.count_eq_zero_of_not_mem (a := c) (l := [b]) (by simpa using q)]; simpa using h3
theorem rlr_some {p : Pl} {n : Nat} (hn : n < tot p) : ∃ b, b < 5 ∧ rcl p (rlr p n) = some b ∧ rlr p (n + 1) = rlr p n ++ [b] := by
  obtain ⟨i1, i2, i3⟩ := rlr_ok (p := p) n (by omega)
  have hs := lf_sum (p := p) i2
  rw [i1] at hs
  cases hp : rcl p (rlr p n) with
  | none =>
    have := pick_none hp
    have a0 := this 0 (by omega); have a1 := this 1 (by omega); have a2 := this 2 (by omega); have a3 := this 3 (by omega); have a4 := this 4 (by omega)
    omega
  | some b => exact ⟨b, (pick_some hp).1, rfl, by show rlr p n ++ [(rcl p (rlr p n)).getD 0] = _; rw [hp]; rfl⟩
theorem w_takeRule {f : Sg} {p : Pl} (ok : POk p) (hp : P1 f p) (h11 : f 11 0 = 0) (h12 : f 12 0 = 0) {Q : Sg → Prop} (h : ∀ g, RRep g p (rlr p (tot p)) → Eqx [9, 10, 11, 12, 13] f g → Q g) : M_X6_takeRule_9 f (nI (tot p)) Q := by
  unfold M_X6_takeRule_9
  refine w_start hp h11 h12 (fun g hg hx => ?_)
  have ht := ok.2.2
  refine pk_loop (fun n i (s : Sg) => itr2 (B_X6_takeRule_9_6 Q) n s (nI (tot p)) (nI i)) (fun i s => RRep s p (rlr p i) ∧ Eqx [9, 10, 11, 12, 13] f s) (tot p) 0 g (Nat.zero_le _) ⟨hg, hx.mono (by decide)⟩ ?_ ?_
  · intro n s e
    exact pk_le (tot p) (tot p) (fun _ => h s e.1 e.2) (fun q => absurd q (by omega))
  · intro n i s hi e K
    obtain ⟨e1, e2⟩ := e
    obtain ⟨i1, i2, i3⟩ := rlr_ok (p := p) i (by omega)
    obtain ⟨b, b1, b2, b3⟩ := rlr_some hi
    have hp1 := hp.eqx e2 (by decide)
    refine pk_le (tot p) i (fun q => absurd q (by omega)) (fun _ => w_ruleClass ok hp1 e1 i2 (by omega) (Or.inl (by omega)) ?_)
    rw [b2]
    refine w_put ok hp1 e1 i2 (by omega) b1 (fun g2 r2 x2 => ?_)
    rw [nI_1]
    exact K g2 ⟨by rw [b3]; exact r2, e2.tr x2⟩
