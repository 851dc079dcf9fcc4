/-! Fitting -/
def offc (p : Pl) (l : List Nat) (n : Nat) : Nat := sm (fun k => bi (!(rcl p (l.take k) == some (l.getD k 0)))) n
theorem offc_le (p : Pl) (l : List Nat) (n : Nat) : offc p l n ≤ n := by
  have h := sm_le (f := fun k => bi (!(rcl p (l.take k) == some (l.getD k 0)))) (g := fun _ => 1) (n := n) (fun k _ => bi_le _)
  rw [sm_const] at h
  unfold offc; omega
theorem offc_left {p : Pl} {l t : List Nat} {n : Nat} (h : n ≤ l.length) : offc p (l ++ t) n = offc p l n := by
  unfold offc
  apply sm_congr
  intro k hk
  rw [getD_left (by omega), List.take_append_of_le_length (by omega)]
theorem orI_eq {x : Option Nat} (hx : ∀ b, x = some b → b < 5) {c : Nat} (hc : c < 5) : nI c = orI x ↔ x = some c := by
  cases x with
  | none => exact ⟨fun h => absurd h (nI_ne6 c hc), fun h => by cases h⟩
  | some b =>
    have hb := hx b rfl
    show nI c = nI b ↔ _
    rw [nI_eq (by omega) (by omega)]
    constructor
    · intro h; rw [h]
    · intro h; cases h; rfl
theorem rcl_lt {p : Pl} {l : List Nat} : ∀ b, rcl p l = some b → b < 5 := fun _ h => (pick_some h).1
abbrev S14 : Type := Int32 × List Nat × Nat × List Nat × (Nat → Int32)
def nt14 (p : Pl) (s : S14) (o : List Nat) : S14 := if bks p o = 0 then
    (s.1 + 1, (if s.1 = 0 then o else s.2.1), (if s.1 = 0 ∨ offc p o (tot p) < s.2.2.1 then offc p o (tot p) else s.2.2.1), (if s.1 = 0 ∨ offc p o (tot p) < s.2.2.1 then o else s.2.2.2.1), fun i => if i < tot p then s.2.2.2.2 i ||| ((1 : Int32) <<< (nI (o.getD i 0) &&& 31)) else s.2.2.2.2 i)
  else s
def Z14 (p : Pl) (f : Sg) (s : S14) : Prop := f 14 2 = nI (tot p) ∧ f 14 9 = s.1 ∧ (s.1 ≠ 0 → keepsRow p (f 15) s.2.1 ∧ f 14 10 = nI s.2.2.1 ∧ s.2.2.1 ≤ 9 ∧ keepsRow p (f 16) s.2.2.2.1) ∧ (∀ i, i < 9 → f 17 i = s.2.2.2.2 i) ∧ f 19 0 = 0
def X14 (p : Pl) (f : Sg) (l : List Nat) (s : S14) : Prop := Z14 p f s ∧ ∀ i, i < l.length → f 18 i = orI (rcl p (l.take i)) ∧ f 19 i = nI (offc p l i)
def Y14 (p : Pl) (f : Sg) (l : List Nat) (s : S14) : Prop := Z14 p f s ∧ ∀ i, i ≤ l.length → f 18 i = orI (rcl p (l.take i)) ∧ f 19 i = nI (offc p l i)
theorem Z14.eqx {p : Pl} {f g : Sg} {s : S14} (h : Z14 p f s) (h1 : g 14 = f 14) (h2 : g 15 = f 15) (h3 : g 16 = f 16) (h4 : g 17 = f 17) (h5 : g 19 = f 19) : Z14 p g s := by
  unfold Z14
  rw [h1, h2, h3, h4, h5]
  exact h
abbrev F14 : List Nat := [9, 10, 11, 12, 13, 14, 15, 16, 17, 18, 19]
/-- what stays for a row's end: the rule's places and OFF -/
def A14 (p : Pl) (f : Sg) (l : List Nat) : Prop := ∀ i, i ≤ l.length → f 18 i = orI (rcl p (l.take i)) ∧ f 19 i = nI (offc p l i)
theorem A14.eqx {p : Pl} {f g : Sg} {l : List Nat} (h : A14 p f l) (h1 : g 18 = f 18) (h2 : g 19 = f 19) : A14 p g l := by
  unfold A14
  rw [h1, h2]
  exact h
theorem w_n14_59 {p : Pl} (ok : POk p) {f : Sg} {l : List Nat} {s : S14} {Q : Sg → Prop} (hl : l.length = tot p) (hr : RRep f p l) (h2 : f 14 2 = nI (tot p)) (h9 : f 14 9 = s.1) (hk : keepsRow p (f 15) s.2.1 ∧ f 14 10 = nI s.2.2.1 ∧ s.2.2.1 ≤ 9 ∧ keepsRow p (f 16) s.2.2.2.1) (hs : ∀ i, i < 9 → f 17 i = s.2.2.2.2 i) (h0 : f 19 0 = 0) (hA : A14 p f l)
    (h : ∀ g, Eqx F14 f g → RRep g p l → A14 p g l → Z14 p g (s.1 + 1, s.2.1, s.2.2.1, s.2.2.2.1, fun i => if i < tot p then s.2.2.2.2 i ||| ((1 : Int32) <<< (nI (l.getD i 0) &&& 31)) else s.2.2.2.2 i) → Q g) : J_X2_note_14_59 Q f := by
  have ht := ok.2.2
  intro g7 e7
  subst e7
  refine pk_loop (fun n i (sg : Sg) => itr1 (B_X2_note_14_71 Q) n sg (nI i)) (fun i sg => Eqx [14, 17] f sg ∧ sg 14 = upd (f 14) 9 (f 14 9 + 1) ∧ ∀ j, j < 9 → sg 17 j = if j < i then s.2.2.2.2 j ||| ((1 : Int32) <<< (nI (l.getD j 0) &&& 31)) else s.2.2.2.2 j) (tot p) 0 _ (Nat.zero_le _) ⟨Eqx.rf.up (by decide), rfl, fun j hj => by rw [if_neg (Nat.not_lt_zero _)]; exact hs j hj⟩ ?_ ?_
  · intro n sg e
    obtain ⟨e1, e2, e3⟩ := e
    have q2 : sg 14 2 = nI (tot p) := by rw [e2]; exact h2
    unfold itr1 B_X2_note_14_71
    rw [q2]
    refine pk_le _ _ (fun _ => ?_) (fun z => absurd z (by omega)) rfl rfl
    refine h sg (e1.mono (by decide)) (hr.eqx (e1 9 (by decide)) (e1 10 (by decide)) (e1 11 (by decide)) (e1 12 (by decide)) (e1 13 (by decide))) (hA.eqx (e1 18 (by decide)) (e1 19 (by decide))) ⟨q2, ?_, fun _ => ⟨?_, ?_, hk.2.2.1, ?_⟩, e3, ?_⟩
    · rw [e2]; show f 14 9 + 1 = _; rw [h9]
    · rw [e1 15 (by decide)]; exact hk.1
    · rw [e2]; exact hk.2.1
    · rw [e1 16 (by decide)]; exact hk.2.2.2
    · rw [e1 19 (by decide)]; exact h0
  · intro n i sg hi e K
    obtain ⟨e1, e2, e3⟩ := e
    have q2 : sg 14 2 = nI (tot p) := by rw [e2]; exact h2
    unfold itr1 B_X2_note_14_71
    rw [q2]
    refine pk_le _ _ (fun z => absurd z (by omega)) (fun _ => ⟨pk_in i 9 (by omega), pk_in i 9 (by omega), pk_in i 9 (by omega), fun g12 e12 => ?_⟩) rfl rfl
    subst e12
    rw [nI_1, pk_cl i]
    refine K _ ⟨e1.up (by decide), e2, fun j hj => ?_⟩
    show upd (sg 17) i (sg 17 i ||| ((1 : Int32) <<< (sg 10 i &&& 31))) j = _
    rcases Nat.lt_trichotomy j i with w | w | w
    · rw [pk_un (by omega), e3 j hj, if_pos w, if_pos (by omega)]
    · rw [w, pk_us, e3 i (by omega), if_neg (Nat.lt_irrefl _), if_pos (by omega), e1 10 (by decide), hr.2.1 i (by omega)]
    · rw [pk_un (by omega), e3 j hj, if_neg (by omega), if_neg (by omega)]
theorem w_n14_38 {p : Pl} (ok : POk p) {f : Sg} {l : List Nat} {s : S14} {Q : Sg → Prop} (hl : l.length = tot p) (hr : RRep f p l) (h2 : f 14 2 = nI (tot p)) (h9 : f 14 9 = s.1) (hk : keepsRow p (f 15) s.2.1) (hs : ∀ i, i < 9 → f 17 i = s.2.2.2.2 i) (h0 : f 19 0 = 0) (hA : A14 p f l)
    (h : ∀ g, Eqx F14 f g → RRep g p l → A14 p g l → Z14 p g (s.1 + 1, s.2.1, offc p l (tot p), l, fun i => if i < tot p then s.2.2.2.2 i ||| ((1 : Int32) <<< (nI (l.getD i 0) &&& 31)) else s.2.2.2.2 i) → Q g) : J_X2_note_14_38 Q f := by
  have ht := ok.2.2
  have ho := offc_le p l (tot p)
  unfold J_X2_note_14_38
  rw [h2]
  refine ⟨pk_in (tot p) 10 (by omega), fun g4 e4 g5 e5 => ?_⟩
  rw [pk_cl (tot p)] at e4
  have q4 := (hA (tot p) (by omega)).2
  subst e4 e5
  refine w_n14_59 (s := (s.1, s.2.1, offc p l (tot p), l, s.2.2.2.2)) ok hl (hr.eqx rfl rfl rfl rfl rfl) h2 h9 ⟨hk, q4, by show offc p l (tot p) ≤ 9; omega, keep_cpy ok hr hl _⟩ hs h0 (hA.eqx rfl rfl) (fun g x r a X => h g (((Eqx.rf.up (by decide)).up (by decide)).tr x) r a X)
theorem w_n14_15 {p : Pl} (ok : POk p) {f : Sg} {l : List Nat} {s : S14} {Q : Sg → Prop} (hl : l.length = tot p) (hr : RRep f p l) (h2 : f 14 2 = nI (tot p)) (h9 : f 14 9 = s.1) (hk : keepsRow p (f 15) s.2.1) (hk2 : s.1 ≠ 0 → f 14 10 = nI s.2.2.1 ∧ s.2.2.1 ≤ 9 ∧ keepsRow p (f 16) s.2.2.2.1) (hs : ∀ i, i < 9 → f 17 i = s.2.2.2.2 i) (h0 : f 19 0 = 0) (hA : A14 p f l)
    (h : ∀ g, Eqx F14 f g → RRep g p l → A14 p g l → Z14 p g (s.1 + 1, s.2.1, (if s.1 = 0 ∨ offc p l (tot p) < s.2.2.1 then offc p l (tot p) else s.2.2.1), (if s.1 = 0 ∨ offc p l (tot p) < s.2.2.1 then l else s.2.2.2.1), fun i => if i < tot p then s.2.2.2.2 i ||| ((1 : Int32) <<< (nI (l.getD i 0) &&& 31)) else s.2.2.2.2 i) → Q g) : J_X2_note_14_15 Q f := by
  have ht := ok.2.2
  have ho := offc_le p l (tot p)
  unfold J_X2_note_14_15
  rw [h9]
  refine ⟨fun z => ?_, fun z => ?_⟩
  · rw [if_pos (Or.inl z), if_pos (Or.inl z)] at h
    exact w_n14_38 ok hl hr h2 h9 hk hs h0 hA h
  · obtain ⟨k1, k2, k3⟩ := hk2 z
    rw [h2]
    refine ⟨pk_in (tot p) 10 (by omega), ?_⟩
    rw [pk_cl (tot p), (hA (tot p) (by omega)).2, k1]
    refine pk_le _ _ (fun w => ?_) (fun w => ?_) rfl rfl
    · have hn : ¬ (s.1 = 0 ∨ offc p l (tot p) < s.2.2.1) := by rintro (y | y); exact z y; omega
      rw [if_neg hn, if_neg hn] at h
      exact w_n14_59 ok hl hr h2 h9 ⟨hk, k1, k2, k3⟩ hs h0 hA h
    · rw [if_pos (Or.inr w), if_pos (Or.inr w)] at h
      exact w_n14_38 ok hl hr h2 h9 hk hs h0 hA h
theorem w_note14 {p : Pl} (ok : POk p) {f : Sg} {l : List Nat} {s : S14} {Q : Sg → Prop} (hl : l.length = tot p) (hr : RRep f p l) (hY : Y14 p f l s) (hm : bks p l = 0) (h : ∀ g, Eqx F14 f g → RRep g p l → X14 p g l (nt14 p s l) → Q g) : M_X2_note_14 f Q := by
  obtain ⟨⟨y1, y2, y3, y4, y5⟩, y6⟩ := hY
  unfold nt14 at h
  rw [if_pos hm] at h
  have h' : ∀ g, Eqx F14 f g → RRep g p l → A14 p g l → Z14 p g _ → Q g := fun g x r a z => h g x r ⟨z, fun i hi => a i (by omega)⟩
  unfold M_X2_note_14
  rw [y2]
  refine ⟨fun z g15 e15 => ?_, fun z => ?_⟩
  · rw [if_pos z] at h'
    subst e15
    refine w_n14_15 (s := (s.1, l, s.2.2.1, s.2.2.2.1, s.2.2.2.2)) ok hl (hr.eqx rfl rfl rfl rfl rfl) y1 y2 (keep_cpy ok hr hl _) (fun w => absurd z w) y4 y5 (A14.eqx (f := f) y6 rfl rfl) (fun g x r a X => h' g ((Eqx.rf.up (by decide)).tr x) r a X)
  · rw [if_neg z] at h'
    exact w_n14_15 ok hl hr y1 y2 (y3 z).1 (fun w => (y3 w).2) y4 y5 y6 h'
theorem w_m14_60 {p : Pl} (ok : POk p) {f : Sg} {l : List Nat} {s : S14} {Q : Int32 → Sg → Prop} (hf : Fit p l) (hp : P1 f p) (hr : RRep f p l) (hz : Z14 p f s) (ha : ∀ i, i < l.length → f 18 i = orI (rcl p (l.take i))) (hb : ∀ i, i ≤ l.length → f 19 i = nI (offc p l i)) (h : ∀ g, Eqx F14 f g → RRep g p l → Y14 p g l s → Q 1 g) : J_X2_matters_14_60 Q f (nI l.length) := by
  have ht := ok.2.2
  have hl := hf.len
  unfold J_X2_matters_14_60
  have hc : l.length < 9 ∨ ∀ c, c < 5 → lf p l c ≤ 0 := by
    rcases Nat.lt_or_ge l.length 9 with q | q
    · exact Or.inl q
    · refine Or.inr ?_
      have h1 := lf_sum (p := p) hf.1
      have g0 := hf.left (c := 0) (by omega); have g1 := hf.left (c := 1) (by omega); have g2 := hf.left (c := 2) (by omega); have g3 := hf.left (c := 3) (by omega); have g4 := hf.left (c := 4) (by omega)
      intro c hc
      rcases (show c = 0 ∨ c = 1 ∨ c = 2 ∨ c = 3 ∨ c = 4 by omega) with rfl | rfl | rfl | rfl | rfl <;> omega
  refine w_ruleClass ok hp hr hf.1 (by omega) hc ⟨pk_in l.length 10 (by omega), fun g8 e8 => ?_⟩
  rw [pk_cl l.length] at e8
  subst e8
  refine h _ (Eqx.rf.up (by decide)) (hr.eqx rfl rfl rfl rfl rfl) ⟨hz.eqx rfl rfl rfl rfl rfl, fun i hi => ⟨?_, hb i hi⟩⟩
  show upd (f 18) l.length (orI (rcl p l)) i = _
  rcases Nat.lt_or_ge i l.length with q | q
  · rw [pk_un (by omega)]; exact ha i q
  · rw [Nat.le_antisymm hi q, pk_us, List.take_length]
theorem w_mat14 {p : Pl} (ok : POk p) {f : Sg} {l : List Nat} {s : S14} {Q : Int32 → Sg → Prop} (hf : Fit p l) (hp : P1 f p) (hr : RRep f p l) (hX : X14 p f l s) (h1 : bks p l = 0 → ∀ g, Eqx F14 f g → RRep g p l → Y14 p g l s → Q 1 g) (h0 : ¬ bks p l = 0 → Q 0 f) : M_X2_matters_14 f (nI l.length) Q := by
  have ht := ok.2.2
  have hl := hf.len
  have hb := bks_le p (l := l) (by omega)
  obtain ⟨hz, hx⟩ := hX
  unfold M_X2_matters_14
  refine w_breaks hr (by omega) (pk_le _ _ (fun z => ?_) (fun z => h0 (by omega)) rfl (nI_0).symm)
  have h1 := h1 (by omega)
  refine pk_le l.length 0 (fun z2 => ?_) (fun z2 => ?_)
  · refine w_m14_60 ok hf hp hr hz (fun i hi => absurd hi (by omega)) (fun i hi => ?_) h1
    have : i = 0 := by omega
    rw [this, hz.2.2.2.2]; rfl
  · obtain ⟨k, hk⟩ : ∃ k, l.length = k + 1 := ⟨l.length - 1, by omega⟩
    have ek : nI l.length - 1 = nI k := by rw [hk]; exact nI_pred k
    unfold J_X2_matters_14_43
    rw [ek]
    refine ⟨pk_in k 9 (by omega), pk_in k 10 (by omega), ?_⟩
    rw [pk_cl k, pk_cl l.length, hr.2.1 k (by omega), (hx k (by omega)).1, (hx k (by omega)).2, orI_eq rcl_lt (hf.1 k (by omega))]
    have go : ∀ s0 : Nat, s0 = bi (!(rcl p (l.take k) == some (l.getD k 0))) → vp_in (nI k) 10 ∧ vp_in (nI l.length) 10 ∧ ∀ g14 : Sg, g14 = va_up f 19 (upd (f 19) l.length (nI (offc p l k) + nI s0)) → J_X2_matters_14_60 Q g14 (nI l.length) := by
      intro s0 hs0
      refine ⟨pk_in k 10 (by omega), pk_in l.length 10 (by omega), fun g14 e14 => ?_⟩
      subst e14
      have x1 : Eqx F14 f (va_up f 19 (upd (f 19) l.length (nI (offc p l k) + nI s0))) := Eqx.rf.up (by decide)
      refine w_m14_60 ok hf (hp.eqx x1 (by decide)) (hr.eqx rfl rfl rfl rfl rfl) (s := s) ⟨hz.1, hz.2.1, hz.2.2.1, hz.2.2.2.1, ?_⟩ (fun i hi => (hx i hi).1) (fun i hi => ?_) (fun g x r Y => h1 g (x1.tr x) r Y)
      · show upd (f 19) l.length _ 0 = _
        rw [pk_un (by omega)]; exact hz.2.2.2.2
      · show upd (f 19) l.length _ i = _
        rcases Nat.lt_or_ge i l.length with q | q
        · rw [pk_un (by omega)]; exact (hx i q).2
        · rw [Nat.le_antisymm hi q, pk_us, nI_add, hs0, hk]; rfl
    exact ⟨fun c => go 0 (by rw [c]; simp [bi]), fun c => go 1 (by simp [bi]; simpa using c)⟩
def ft (p : Pl) : S14 := (ords (tot p) (pDm p)).foldl (nt14 p) (0, [], 0, [], fun _ => 0)
theorem w_refresh14 {p : Pl} (ok : POk p) {f : Sg} {Q : Sg → Prop} (hp : P1 f p) (h11 : f 11 0 = 0) (h12 : f 12 0 = 0) (h19 : f 19 0 = 0) (hk : f 14 3 = 0) (h : ∀ g, Eqx F14 f g → g 11 0 = 0 → g 12 0 = 0 → g 14 3 = 1 → Z14 p g (ft p) → Q g) : M_X8_refresh_14 f Q := by
  have ht := ok.2.2
  refine ⟨fun _ => w_cars hp (fun g4 e4 g5 e5 => ?_), fun z => absurd hk z⟩
  subst e4 e5
  refine pk_loop (fun n i (sg : Sg) => itr1 (B_X2_begin_14_7 _) n sg (nI i)) (fun i sg => Eqx F14 f sg ∧ sg 11 = f 11 ∧ sg 12 = f 12 ∧ sg 19 = f 19 ∧ sg 14 2 = nI (tot p) ∧ sg 14 9 = 0 ∧ ∀ j, j < i → sg 17 j = 0) 9 0 _ (Nat.zero_le _) ⟨(Eqx.rf.up (by decide)).up (by decide), rfl, rfl, rfl, rfl, rfl, fun j hj => absurd hj (Nat.not_lt_zero _)⟩ ?_ ?_
  · intro n sg e
    obtain ⟨e1, e2, e3, e4, e5, e6, e7⟩ := e
    refine pk_le 9 9 (fun _ => ?_) (fun q => absurd q (by omega))
    refine w_start (p := p) (hp.eqx e1 (by decide)) (by rw [e2]; exact h11) (by rw [e3]; exact h12) (fun g8 r8 x8 => ?_)
    have hX8 : X14 p g8 [] (0, [], 0, [], fun _ => 0) := by
      refine ⟨⟨?_, ?_, fun z => absurd rfl z, fun i hi => ?_, ?_⟩, fun i hi => absurd hi (Nat.not_lt_zero _)⟩
      · rw [x8 14 (by decide)]; exact e5
      · rw [x8 14 (by decide)]; exact e6
      · rw [x8 17 (by decide)]; exact e7 i hi
      · rw [x8 19 (by decide), e4]; exact h19
    have hx8 : Eqx F14 f g8 := e1.tr (x8.mono (by decide))
    rw [gm_14]
    refine w_goOn (w := 14) ok F14 (by decide) (by decide) (X14 p) (Y14 p) (nt14 p) (fun l _ => decide (bks p l = 0)) (fun f l s hX => hX.1.1) ?_ ?_ ?_ ?_ ?_ ?_ 12 g8 [] _ _ (by simp; omega) (Fit.nil p) (hp.eqx hx8 (by decide)) r8 hX8 (fun g9 x9 r9 X9 g11 e11 => ?_)
    · intro f g l s c hY hx
      refine ⟨hY.1.eqx (hx 14 (by decide)) (hx 15 (by decide)) (hx 16 (by decide)) (hx 17 (by decide)) (hx 19 (by decide)), fun i hi => ?_⟩
      rw [List.length_append, List.length_singleton] at hi
      rw [hx 18 (by decide), hx 19 (by decide), offc_left (by omega), List.take_append_of_le_length (by omega)]
      exact hY.2 i (by omega)
    · intro f g l s c hX hx
      refine ⟨hX.1.eqx (hx 14 (by decide)) (hx 15 (by decide)) (hx 16 (by decide)) (hx 17 (by decide)) (hx 19 (by decide)), fun i hi => ?_⟩
      have := hX.2 i (by rw [List.length_append, List.length_singleton]; omega)
      rw [offc_left (by omega), List.take_append_of_le_length (by omega)] at this
      rw [hx 18 (by decide), hx 19 (by decide)]
      exact this
    · intro f l s Q hf hp hr hX q1 q0
      exact w_mat14 ok hf hp hr hX (fun z g x r Y => q1 (by simpa using z) g x r Y) (fun z => q0 (by simpa using z) f Eqx.rf hr hX)
    · intro f l s Q hf hl hp hr hY hm q
      exact w_note14 ok hl hr hY (by simpa using hm) q
    · intro f l s hY
      exact ⟨hY.1, fun i hi => hY.2 i (by omega)⟩
    · intro l s hf hm t ht
      have h1 := bks_mono ok l t
      have h2 : ¬ bks p l = 0 := by simpa using hm
      unfold nt14
      rw [if_neg (by omega)]
    · subst e11
      have e0 : (List.length ([] : List Nat)) = 0 := rfl
      rw [e0, Nat.sub_zero, rem_nil] at X9
      refine h _ ((hx8.tr x9).up (by decide)) (r9.2.2.1 0 (Nat.zero_le _)) (r9.2.2.2.1 0 (Nat.zero_le _)) rfl ?_
      have X9' : X14 p g9 [] (ft p) := by simpa [ft] using X9
      exact X9'.1
  · intro n i sg hi e K
    obtain ⟨e1, e2, e3, e4, e5, e6, e7⟩ := e
    refine pk_le 9 i (fun q => absurd q (by omega)) (fun _ => ⟨pk_in i 9 hi, fun g6 e8 => ?_⟩)
    subst e8
    rw [nI_1, pk_cl i]
    refine K _ ⟨e1.up (by decide), e2, e3, e4, e5, e6, fun j hj => ?_⟩
    show upd (sg 17) i 0 j = _
    rcases Nat.lt_or_ge j i with q | q
    · rw [pk_un (by omega)]; exact e7 j q
    · rw [Nat.le_antisymm (by omega) q, pk_us]
