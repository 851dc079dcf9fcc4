/-! the reference's walks through the orders -/
theorem ords_len : ∀ (n : Nat) (d : Nat → Nat), (ords n d).length ≤ 5 ^ n := by
  intro n
  induction n with
  | zero => intro d; exact Nat.le_refl _
  | succ n ih =>
    intro d
    have h : ∀ c, (if 0 < d c then (ords n (decr d c)).map (fun t => c :: t) else []).length ≤ 5 ^ n := by
      intro c
      split
      · rw [List.length_map]; exact ih _
      · exact Nat.zero_le _
    have k : ∀ i, (ordu n d i).length ≤ i * 5 ^ n := by
      intro i
      induction i with
      | zero => exact Nat.zero_le _
      | succ i ihi =>
        rw [ordu_succ, List.length_append, Nat.succ_mul]
        have := h i
        omega
    have := k 5
    rw [ords_succ, Nat.pow_succ]
    omega
theorem ords_all : ∀ (n : Nat) (d : Nat → Nat) (t : List Nat), t.length = n → (∀ c, c ∈ t → c < 5) → (∀ c, c < 5 → t.count c ≤ d c) → t ∈ ords n d := by
  intro n
  induction n with
  | zero => intro d t h1 _ _; have := List.length_eq_zero_iff.mp h1; rw [this]; simp [ords]
  | succ n ih =>
    intro d t h1 h2 h3
    cases t with
    | nil => simp at h1
    | cons c t =>
      have hc := h2 c List.mem_cons_self
      have h4 := h3 c hc
      rw [List.count_cons_self] at h4
      unfold ords
      refine List.mem_flatMap.mpr ⟨c, List.mem_range.mpr hc, ?_⟩
      rw [if_pos (by omega)]
      refine List.mem_map.mpr ⟨t, ih _ t (by simpa using h1) (fun x hx => h2 x (List.mem_cons_of_mem _ hx)) (fun x hx => ?_), rfl⟩
      have h5 := h3 x hx
      rw [List.count_cons] at h5
      unfold decr
      by_cases q : x = c
      · rw [if_pos q]; rw [q] at h5 ⊢; simp at h5; omega
      · rw [if_neg q]
        omega
/-- all orders of a plan -/
abbrev AO (p : Pl) : List (List Nat) := ords (tot p) (pDm p)
theorem AO_mem {p : Pl} {o : List Nat} (h : o ∈ AO p) : o.length = tot p ∧ Cls o := by
  obtain ⟨h1, h2, _⟩ := ords_mem _ _ o h
  exact ⟨h1, Cls.of h2⟩
theorem AO_len {p : Pl} (ok : POk p) : (AO p).length ≤ 1953125 := by
  have h1 := ords_len (tot p) (pDm p)
  have h2 : (5 : Nat) ^ tot p ≤ 5 ^ 9 := Nat.pow_le_pow_right (by omega) ok.2.2
  have h3 : (5 : Nat) ^ 9 = 1953125 := by decide
  show (ords (tot p) (pDm p)).length ≤ _
  omega
theorem Chn.tail {a : List Nat} {L : List (List Nat)} (h : Chn (a :: L)) : Chn L := by
  cases L with
  | nil => trivial
  | cons b L => exact h.2
theorem Chn.drop {L M : List (List Nat)} (h : Chn (L ++ M)) : Chn M := by
  induction L with
  | nil => exact h
  | cons a L ih => exact ih h.tail
/-- the loop 'while (more)': St tells the state by the orders that are done -/
theorem r_enum {p : Pl} (ok : POk p) {W : Nat → Sg → Int32 → Prop} {St : Sg → List (List Nat) → Prop}
    (hv : ∀ n f done o rest, done ++ o :: rest = AO p → o.length = tot p → Cls o → RR f o → St f done → (∀ g, RR g o → St g (done ++ [o]) → M_X10_nextOrder_0 g (fun r g2 => W n g2 r)) → W (n + 1) f 1)
    (hs : ∀ f g done, Eqx [5] f g → St f done → St g done) (hend : ∀ n g, St g (AO p) → W (n + 1) g 0) :
    ∀ (rest : List (List Nat)) (done : List (List Nat)) (o : List Nat) (f : Sg), done ++ o :: rest = AO p → RR f o → St f done → W (rest.length + 2) f 1 := by
  have ht := ok.2.2
  obtain ⟨c1, c2, c3⟩ := ords_chn (tot p) (pDm p) rfl
  intro rest
  induction rest with
  | nil =>
    intro done o f hd hr hS
    have ho : o ∈ AO p := by rw [← hd]; simp
    obtain ⟨l1, l2⟩ := AO_mem ho
    refine hv 1 f done o [] hd l1 l2 hr hS (fun g rg Sg' => ?_)
    have hlast : o = dsr (pDm p) 0 5 := by
      have : (done ++ [o]).getLast? = some o := by simp
      rw [hd] at this
      exact Option.some.inj (this.symm.trans c3)
    refine r_nextNo (by omega) l2 rg (by rw [hlast]; exact dsr_ninc _ _ _) ?_
    exact hend 0 g (by rw [← hd]; exact Sg')
  | cons o' rest ih =>
    intro done o f hd hr hS
    have ho : o ∈ AO p := by rw [← hd]; simp
    obtain ⟨l1, l2⟩ := AO_mem ho
    refine hv (rest.length + 2) f done o (o' :: rest) hd l1 l2 hr hS (fun g rg Sg' => ?_)
    have hc : Chn (o :: o' :: rest) := Chn.drop (L := done) (by rw [hd]; exact c1)
    refine r_nextYes (by omega) l2 rg hc.1 (fun g2 x2 r2 => ?_)
    exact ih (done ++ [o]) o' g2 (by rw [← hd]; simp) r2 (hs g g2 _ x2 Sg')
/-- from firstOrder on -/
theorem r_enum0 {p : Pl} (ok : POk p) {W : Nat → Sg → Int32 → Prop} {St : Sg → List (List Nat) → Prop}
    (hv : ∀ n f done o rest, done ++ o :: rest = AO p → o.length = tot p → Cls o → RR f o → St f done → (∀ g, RR g o → St g (done ++ [o]) → M_X10_nextOrder_0 g (fun r g2 => W n g2 r)) → W (n + 1) f 1)
    (hs : ∀ f g done, Eqx [5] f g → St f done → St g done) (hend : ∀ n g, St g (AO p) → W (n + 1) g 0) (f : Sg) (hr : RR f (dsr (pDm p) 0 5).reverse) (hS : St f []) : ∃ n, W n f 1 := by
  obtain ⟨c1, c2, c3⟩ := ords_chn (tot p) (pDm p) rfl
  cases hL : AO p with
  | nil => rw [show ords (tot p) (pDm p) = AO p from rfl, hL] at c2; cases c2
  | cons o rest =>
    have : o = (dsr (pDm p) 0 5).reverse := by
      rw [show ords (tot p) (pDm p) = AO p from rfl, hL] at c2
      exact Option.some.inj c2
    refine ⟨rest.length + 2, r_enum ok hv hs hend rest [] o f (by rw [hL]; rfl) (by rw [this]; exact hr) hS⟩
theorem r_keepBest {f : Sg} {p : Pl} {l : List Nat} (hl : l.length = tot p) (h9 : tot p ≤ 9) (hr : RR f l) {Q : Sg → Prop} (h : ∀ g, Eqx [6] f g → keepsRow p (g 6) l → Q g) : M_X10_keepBest_0 f Q := by
  refine pk_loop (fun n i (s : Sg) => itr1 (B_X10_keepBest_0_2 Q) n s (nI i)) (fun i s => Eqx [6] f s ∧ ∀ j, j < i → s 6 j = nI (l.getD j 0)) l.length 0 f (Nat.zero_le _) ⟨Eqx.rf, fun j hj => absurd hj (Nat.not_lt_zero _)⟩ ?_ ?_
  · intro n s e
    unfold itr1 B_X10_keepBest_0_2
    rw [e.1 0 (by decide), hr.1]
    refine pk_le _ _ (fun _ => h s e.1 (fun i hi => e.2 i (by omega))) (fun q => absurd q (by omega)) rfl rfl
  · intro n i s hi e K
    unfold itr1 B_X10_keepBest_0_2
    rw [e.1 0 (by decide), hr.1]
    refine pk_le _ _ (fun q => absurd q (by omega)) (fun _ => ⟨pk_in i 9 (by omega), pk_in i 9 (by omega), fun g4 e4 => ?_⟩) rfl rfl
    subst e4
    rw [nI_1 i, pk_cl i]
    refine K _ ⟨e.1.up (by decide), fun j hj => ?_⟩
    show upd (s 6) i (s 5 i) j = _
    rcases Nat.lt_or_ge j i with q | q
    · rw [pk_un (by omega)]; exact e.2 j q
    · rw [Nat.le_antisymm (by omega) q, pk_us, e.1 5 (by decide)]; exact hr.2 i hi
/-- an answer of 'the class at place i' -/
def clAt (p : Pl) (h : Nat → Int32) (x : Int32) : Int32 := if x < 0 ∨ nI (tot p) ≤ x then -6 else h x.toNatClampNeg
theorem r_told {f : Sg} {p : Pl} (ok : POk p) {x : Int32} (hm : f 0 6 = nI (tot p)) {Q : Int32 → Sg → Prop} (h1 : ¬ f 0 9 ≤ 0 → Q (clAt p (f 6) x) f) (h0 : f 0 9 ≤ 0 → Q (-6) f) : M_X10_told__0 f x Q := by
  have ht := ok.2.2
  unfold M_X10_told__0 J_X10_told__0_30 J_X10_told__0_32
  rw [hm]
  have go6 : (x < 0 ∨ nI (tot p) ≤ x) → Q (-6) f := by
    intro c
    by_cases q : f 0 9 ≤ 0
    · exact h0 q
    · have := h1 q
      unfold clAt at this
      rw [if_pos c] at this
      exact this
  have em : nI (tot p) - 1 = iI ((tot p : Int) - 1) := by rw [iI_nI, iI_m1]
  rw [em]
  have hcmp : ∀ c : Int32, (iI ((tot p : Int) - 1) < x) ↔ nI (tot p) ≤ x := by
    intro _
    rw [Int32.lt_iff_toInt_lt, Int32.le_iff_toInt_le, iI_toInt (by omega) (by omega), nI_toInt (by omega)]
    omega
  refine r_in (fun c1 c2 => ⟨fun q => absurd q (by decide), fun _ => ?_⟩) (fun c => ⟨fun _ => go6 ?_, fun q => absurd rfl q⟩)
  · rw [hcmp 0] at c2
    refine ⟨fun q => h0 q, fun q => ⟨?_, ?_⟩⟩
    · rcases pk_ix x (n := tot p) (by omega) with w | w | ⟨j, hj, e⟩
      · exact absurd w c1
      · exact absurd w c2
      · exact pk_in j 9 (by omega) e
    · have := h1 q
      unfold clAt at this
      rw [if_neg (by rintro (w | w); exact c1 w; exact c2 w)] at this
      exact this
  · rw [hcmp 0] at c
    exact c
/-! goFits -/
abbrev SF : Type := Int32 × List Nat × (Nat → Int32)
def ntF (p : Pl) (s : SF) (o : List Nat) : SF := if bks p o = 0 then (s.1 + 1, (if s.1 = 0 then o else s.2.1), fun i => if i < tot p then s.2.2 i ||| ((1 : Int32) <<< (nI (o.getD i 0) &&& 31)) else s.2.2 i) else s
def sF (p : Pl) (L : List (List Nat)) : SF := L.foldl (ntF p) (0, [], fun _ => 0)
theorem sF_app (p : Pl) (L : List (List Nat)) (o : List Nat) : sF p (L ++ [o]) = ntF p (sF p L) o := by unfold sF; rw [List.foldl_append]; rfl
def StF (p : Pl) (f0 f : Sg) (done : List (List Nat)) : Prop := Eqx [0, 5, 6, 7] f0 f ∧ Fld [6, 9] f0 f ∧ f 0 6 = nI (tot p) ∧ f 0 9 = (sF p done).1 ∧ ((sF p done).1 ≠ 0 → keepsRow p (f 6) (sF p done).2.1) ∧ ∀ i, i < 9 → f 7 i = (sF p done).2.2 i
theorem r_f54 {p : Pl} (ok : POk p) {f0 f : Sg} {l : List Nat} {s : SF} {n : Nat} {Q : Sg → Prop} {K : Sg → Int32 → Prop} (hl : l.length = tot p) (hr : RR f l) (h1 : Eqx [0, 5, 6, 7] f0 f) (h2 : Fld [6, 9] f0 f) (h3 : f 0 9 = s.1) (h4 : keepsRow p (f 6) s.2.1) (h5 : ∀ i, i < 9 → f 7 i = s.2.2 i)
    (h : ∀ g, Eqx [0, 5, 6, 7] f0 g → Fld [6, 9] f0 g → RR g l → g 0 9 = s.1 + 1 → keepsRow p (g 6) s.2.1 → (∀ i, i < 9 → g 7 i = if i < tot p then s.2.2 i ||| ((1 : Int32) <<< (nI (l.getD i 0) &&& 31)) else s.2.2 i) → M_X10_nextOrder_0 g (fun r g2 => K g2 r)) : J_X10_goFits_0_54 Q K f := by
  have ht := ok.2.2
  intro g12 e12
  subst e12
  refine pk_loop (fun n i (s : Sg) => itr1 (B_X10_goFits_0_66 Q K) n s (nI i)) (fun i sg => Eqx [0, 7] f sg ∧ sg 0 = upd (f 0) 9 (f 0 9 + 1) ∧ ∀ j, j < 9 → sg 7 j = if j < i then s.2.2 j ||| ((1 : Int32) <<< (nI (l.getD j 0) &&& 31)) else s.2.2 j) (tot p) 0 _ (Nat.zero_le _) ⟨Eqx.rf.up (by decide), rfl, fun j hj => by rw [if_neg (Nat.not_lt_zero _)]; exact h5 j hj⟩ ?_ ?_
  · intro n sg e
    obtain ⟨e1, e2, e3⟩ := e
    have q6 : sg 0 6 = nI (tot p) := by rw [e2]; show f 0 6 = _; rw [hr.1, hl]
    unfold itr1 B_X10_goFits_0_66 J_X10_goFits_0_97
    rw [q6]
    refine pk_le _ _ (fun _ => h sg (h1.tr (e1.mono (by decide))) (fun j hj => ?_) ⟨by rw [q6, hl], ?_⟩ ?_ ?_ e3) (fun q => absurd q (by omega)) rfl rfl
    · rw [e2]
      show upd (f 0) 9 _ j = _
      rw [pk_un (fun q => hj (by rw [q]; decide))]; exact h2 j hj
    · rw [e1 5 (by decide)]; exact hr.2
    · rw [e2]; show f 0 9 + 1 = _; rw [h3]
    · rw [e1 6 (by decide)]; exact h4
  · intro n i sg hi e K2
    obtain ⟨e1, e2, e3⟩ := e
    have q6 : sg 0 6 = nI (tot p) := by rw [e2]; show f 0 6 = _; rw [hr.1, hl]
    unfold itr1 B_X10_goFits_0_66
    rw [q6]
    refine pk_le _ _ (fun q => absurd q (by omega)) (fun _ => ⟨pk_in i 9 (by omega), pk_in i 9 (by omega), pk_in i 9 (by omega), fun g17 e17 => ?_⟩) rfl rfl
    subst e17
    rw [nI_1 i, pk_cl i]
    refine K2 _ ⟨e1.up (by decide), e2, fun j hj => ?_⟩
    show upd (sg 7) i (sg 7 i ||| ((1 : Int32) <<< (sg 5 i &&& 31))) j = _
    rcases Nat.lt_trichotomy j i with w | w | w
    · rw [pk_un (by omega), e3 j hj, if_pos w, if_pos (by omega)]
    · rw [w, pk_us, e3 i (by omega), if_neg (Nat.lt_irrefl _), if_pos (by omega), e1 5 (by decide), hr.2 i (by omega)]
    · rw [pk_un (by omega), e3 j hj, if_neg (by omega), if_neg (by omega)]
theorem r_goFits {p : Pl} (ok : POk p) {f : Sg} (hp : R1 (f 1) p) {Q : Sg → Prop} (h : ∀ g, StF p f g (AO p) → Q g) : M_X10_goFits_0 f Q := by
  have ht := ok.2.2
  intro g1 e1
  subst e1
  refine pk_loop (fun n i (s : Sg) => itr1 (B_X10_goFits_0_7 Q) n s (nI i)) (fun i sg => Eqx [0, 7] f sg ∧ sg 0 = upd (f 0) 9 0 ∧ ∀ j, j < i → sg 7 j = 0) 9 0 _ (Nat.zero_le _) ⟨Eqx.rf.up (by decide), rfl, fun j hj => absurd hj (Nat.not_lt_zero _)⟩ ?_ ?_
  · intro n sg e
    obtain ⟨e1, e2, e3⟩ := e
    refine pk_le 9 9 (fun _ => r_firstOrder ok (by rw [e1 1 (by decide)]; exact hp) (fun g3 x3 f3 r3 => ?_)) (fun q => absurd q (by omega))
    have hlen : (dsr (pDm p) 0 5).reverse.length = tot p := by rw [List.length_reverse, dsr_len]; rfl
    refine r_enum0 ok (W := fun n f x => itr1 (B_X10_goFits_0_32 Q) n f x) (St := StF p f) ?_ ?_ (fun n g hS => ⟨fun _ => h g hS, fun q => absurd rfl q⟩) g3 r3 ?_
    · intro n f1 done o rest hd hol hoc hr hS K
      obtain ⟨s1, s2, s3, s4, s5, s6⟩ := hS
      have hp1 : R1 (f1 1) p := by rw [s1 1 (by decide)]; exact hp
      have hb := bks_le p (l := o) (by omega)
      show B_X10_goFits_0_32 Q _ f1 1
      unfold B_X10_goFits_0_32
      refine ⟨fun q => absurd q (by decide), fun _ => r_breaks ok hp1 hoc hr (by omega) ?_⟩
      have K' : ∀ g, Eqx [0, 5, 6, 7] f g → Fld [6, 9] f g → RR g o → g 0 9 = (ntF p (sF p done) o).1 → ((ntF p (sF p done) o).1 ≠ 0 → keepsRow p (g 6) (ntF p (sF p done) o).2.1) → (∀ i, i < 9 → g 7 i = (ntF p (sF p done) o).2.2 i) → M_X10_nextOrder_0 g (fun r g2 => itr1 (B_X10_goFits_0_32 Q) n g2 r) := by
        intro g a1 a2 a3 a4 a5 a6
        refine K g a3 ⟨a1, a2, by rw [a3.1, hol], ?_, ?_, ?_⟩
        · rw [sF_app]; exact a4
        · rw [sF_app]; exact a5
        · rw [sF_app]; exact a6
      refine pk_eq _ _ (fun z => ?_) (fun z => ?_) rfl (nI_0).symm
      · have hnt : ntF p (sF p done) o = ((sF p done).1 + 1, (if (sF p done).1 = 0 then o else (sF p done).2.1), fun i => if i < tot p then (sF p done).2.2 i ||| ((1 : Int32) <<< (nI (o.getD i 0) &&& 31)) else (sF p done).2.2 i) := by unfold ntF; rw [if_pos z]
        rw [hnt] at K'
        rw [s4]
        refine ⟨fun y => r_keepBest hol ht hr (fun g18 x18 k18 => ?_), fun y => ?_⟩
        · rw [if_pos y] at K'
          refine r_f54 (f0 := f) (s := ((sF p done).1, o, (sF p done).2.2)) (n := n) ok hol ⟨by rw [x18 0 (by decide)]; exact hr.1, by rw [x18 5 (by decide)]; exact hr.2⟩ (s1.tr (x18.mono (by decide))) (fun j hj => by rw [x18 0 (by decide)]; exact s2 j hj) (by rw [x18 0 (by decide)]; exact s4) k18 (fun i hi => by rw [x18 7 (by decide)]; exact s6 i hi) (fun g a1 a2 a3 a4 a5 a6 => K' g a1 a2 a3 a4 (fun _ => a5) a6)
        · rw [if_neg y] at K'
          exact r_f54 (f0 := f) (s := sF p done) (n := n) ok hol hr s1 s2 s4 (s5 y) s6 (fun g a1 a2 a3 a4 a5 a6 => K' g a1 a2 a3 a4 (fun _ => a5) a6)
      · have hnt : ntF p (sF p done) o = sF p done := by unfold ntF; rw [if_neg z]
        rw [hnt] at K'
        exact K' f1 s1 s2 hr s4 s5 s6
    · intro f1 g done x hS
      obtain ⟨s1, s2, s3, s4, s5, s6⟩ := hS
      exact ⟨s1.tr (x.mono (by decide)), fun j hj => by rw [x 0 (by decide)]; exact s2 j hj, by rw [x 0 (by decide)]; exact s3, by rw [x 0 (by decide)]; exact s4, fun z => by rw [x 6 (by decide)]; exact s5 z, fun i hi => by rw [x 7 (by decide)]; exact s6 i hi⟩
    · refine ⟨(e1.mono (by decide)).tr (x3.mono (by decide)), fun j hj => ?_, by rw [r3.1, hlen], ?_, fun z => absurd rfl z, fun i hi => ?_⟩
      · rw [f3 j (fun q => hj (by simp at q ⊢; omega)), e2]
        show upd (f 0) 9 0 j = _
        rw [pk_un (fun q => hj (by rw [q]; decide))]
      · rw [f3 9 (by decide), e2]; rfl
      · rw [x3 7 (by decide)]; exact e3 i hi
  · intro n i sg hi e K
    obtain ⟨e1, e2, e3⟩ := e
    refine pk_le 9 i (fun q => absurd q (by omega)) (fun _ => ⟨pk_in i 9 hi, fun g21 e21 => ?_⟩)
    subst e21
    rw [nI_1 i, pk_cl i]
    refine K _ ⟨e1.up (by decide), e2, fun j hj => ?_⟩
    show upd (sg 7) i 0 j = _
    rcases Nat.lt_or_ge j i with q | q
    · rw [pk_un (by omega)]; exact e3 j q
    · rw [Nat.le_antisymm (by omega) q, pk_us]
