/-! the pad of the class -/
abbrev Pd : Type := List (Option Nat)
def sgC (x : Option Nat) : Int32 := match x with
  | none => -1
  | some c => nI c
def PdOk (q : Pd) : Prop := q.length ≤ 9 ∧ ∀ i c, i < q.length → q.getD i none = some c → c < 5
def PadC (f : Sg) (q : Pd) : Prop := f 7 1 = nI q.length ∧ ∀ i, i < q.length → f 8 i = sgC (q.getD i none)
theorem PadC.eqx {f g : Sg} {q : Pd} (h : PadC f q) (h7 : g 7 = f 7) (h8 : g 8 = f 8) : PadC g q := by
  unfold PadC
  rw [h7, h8]
  exact h
def opn (q : Pd) : Prop := ∃ i, i < q.length ∧ q.getD i none = none
def alw (q : Pd) (i c : Nat) : Bool := match q.getD i none with
  | none => true
  | some b => b == c
theorem nI_nem1 : ∀ c, c < 5 → ¬ nI c = -1 := by decide
theorem sgC_m1 {q : Pd} (ok : PdOk q) {i : Nat} (hi : i < q.length) : sgC (q.getD i none) = -1 ↔ q.getD i none = none := by
  cases h : q.getD i none with
  | none => exact ⟨fun _ => rfl, fun _ => rfl⟩
  | some c => exact ⟨fun z => absurd z (nI_nem1 c (ok.2 i c hi h)), fun z => by cases z⟩
theorem w_hasAny {f : Sg} {q : Pd} (ok : PdOk q) (hq : PadC f q) {Q : Int32 → Sg → Prop} (h1 : opn q → Q 1 f) (h0 : ¬ opn q → Q 0 f) : M_X4_hasAny_7 f Q := by
  have h9 := ok.1
  refine pk_loop (fun n i (_ : Unit) => itr1 (B_X4_hasAny_7_2 Q) n f (nI i)) (fun i _ => ∀ j, j < i → ¬ q.getD j none = none) q.length 0 () (Nat.zero_le _) (fun c hc => absurd hc (Nat.not_lt_zero _)) ?_ ?_
  · intro n s e
    unfold itr1 B_X4_hasAny_7_2
    rw [hq.1]
    exact pk_le _ _ (fun _ => h0 (fun ⟨i, i1, i2⟩ => e i i1 i2)) (fun z => absurd z (by omega)) rfl rfl
  · intro n i s hi e K
    unfold itr1 B_X4_hasAny_7_2
    rw [hq.1]
    refine pk_le _ _ (fun z => absurd z (by omega)) (fun _ => ⟨pk_in i 9 (by omega), ?_⟩) rfl rfl
    rw [pk_cl i, hq.2 i hi, nI_1, sgC_m1 ok hi]
    refine ⟨fun z => h1 ⟨i, hi, z⟩, fun z => K () (fun j hj => ?_)⟩
    rcases Nat.lt_or_ge j i with y | y
    · exact e j y
    · rw [Nat.le_antisymm (by omega) y]; exact z
theorem w_signAt {f : Sg} {q : Pd} (ok : PdOk q) (hq : PadC f q) {i : Nat} (hi : i < q.length) {Q : Int32 → Sg → Prop} (h : Q (sgC (q.getD i none)) f) : M_X4_signAt_7 f (nI i) Q := by
  have h9 := ok.1
  unfold M_X4_signAt_7 J_X4_signAt_7_21 J_X4_signAt_7_22
  refine pk_lt i 0 (fun z => absurd z (by omega)) (fun _ => ?_)
  rw [hq.1]
  refine pk_le _ _ (fun z => absurd z (by omega)) (fun _ => ⟨pk_in i 9 (by omega), ?_⟩) rfl rfl
  rw [pk_cl i, hq.2 i hi]
  exact h
theorem w_allows {f : Sg} {q : Pd} (ok : PdOk q) (hq : PadC f q) {i c : Nat} (hi : i < q.length) (hc : c < 5) {Q : Int32 → Sg → Prop} (h1 : alw q i c = true → Q 1 f) (h0 : alw q i c = false → Q 0 f) : M_X4_allows_7 f (nI i) (nI c) Q := by
  unfold M_X4_allows_7 J_X4_allows_7_16 J_X4_allows_7_21
  refine w_signAt ok hq hi ?_
  rw [sgC_m1 ok hi]
  refine ⟨fun z => ⟨rfl, h1 (by unfold alw; rw [z])⟩, fun z => ?_⟩
  cases hz : q.getD i none with
  | none => exact absurd hz z
  | some b =>
    have hb := ok.2 i b hi hz
    refine pk_eq b c (fun y => ⟨rfl, h1 (by unfold alw; rw [hz, y]; simp)⟩) (fun y => ⟨rfl, h0 (by unfold alw; rw [hz]; simpa using y)⟩)
/-! Filling -/
abbrev S24 : Type := Int32 × List Nat
def fl (p : Pl) (q : Pd) (o : List Nat) : Bool := decide (q.length = tot p) && decide (bks p o = 0) && (List.range (tot p)).all (fun i => alw q i (o.getD i 0))
def nt24 (p : Pl) (q : Pd) (s : S24) (o : List Nat) : S24 := if fl p q o then (s.1 + 1, if s.1 = 0 then o else s.2) else s
abbrev F24 : List Nat := [9, 10, 11, 12, 13, 24, 25]
def X24 (p : Pl) (q : Pd) (f : Sg) (l : List Nat) (s : S24) : Prop := f 24 2 = nI (tot p) ∧ PadC f q ∧ f 24 6 = s.1 ∧ (s.1 ≠ 0 → keepsRow p (f 25) s.2) ∧ ∀ i, i + 1 < l.length → alw q i (l.getD i 0) = true
def Y24 (p : Pl) (q : Pd) (f : Sg) (l : List Nat) (s : S24) : Prop := f 24 2 = nI (tot p) ∧ PadC f q ∧ f 24 6 = s.1 ∧ (s.1 ≠ 0 → keepsRow p (f 25) s.2) ∧ ∀ i, i < l.length → alw q i (l.getD i 0) = true
def mt24 (p : Pl) (q : Pd) (l : List Nat) (_ : S24) : Bool := decide (q.length = tot p) && decide (bks p l = 0) && (decide (l.length = 0) || alw q (l.length - 1) (l.getD (l.length - 1) 0))
theorem w_n24 {p : Pl} {q : Pd} {f : Sg} {l : List Nat} {s : S24} {Q : Sg → Prop} (hr : RRep f p l) (hX : X24 p q f l s) (hne : s.1 ≠ 0 ∨ keepsRow p (f 25) s.2) (h : ∀ g, Eqx F24 f g → RRep g p l → X24 p q g l (s.1 + 1, s.2) → Q g) : J_X1_note_24_15 Q f := by
  intro g8 e8
  subst e8
  obtain ⟨x1, x2, x3, x4, x5⟩ := hX
  refine h _ (Eqx.rf.up (by decide)) (hr.eqx rfl rfl rfl rfl rfl) ⟨x1, x2.eqx rfl rfl, ?_, fun _ => ?_, x5⟩
  · show f 24 6 + 1 = _
    rw [x3]
  · rcases hne with z | z
    · exact x4 z
    · exact z
def fi (p : Pl) (q : Pd) : S24 := (ords (tot p) (pDm p)).foldl (nt24 p q) (0, [])
theorem w_refresh24 {p : Pl} (ok : POk p) {q : Pd} (qok : PdOk q) {f : Sg} {Q : Sg → Prop} (hp : P1 f p) (hq : PadC f q) (h11 : f 11 0 = 0) (h12 : f 12 0 = 0) (hk : f 24 3 = 0) (h : ∀ g, Eqx F24 f g → g 11 0 = 0 → g 12 0 = 0 → g 24 3 = 1 → X24 p q g [] (fi p q) → Q g) : M_X8_refresh_24 f Q := by
  have ht := ok.2.2
  have h9 := qok.1
  refine ⟨fun _ => w_cars hp (fun g4 e4 g5 e5 => ?_), fun z => absurd hk z⟩
  subst e4 e5
  refine w_start (p := p) (f := va_up (va_up f 24 (upd (f 24) 2 (nI (tot p)))) 24 (upd (va_up f 24 (upd (f 24) 2 (nI (tot p))) 24) 6 0)) hp h11 h12 (fun g8 r8 x8 => ?_)
  have hx8 : Eqx F24 f g8 := ((Eqx.rf.up (S := F24) (k := 24) (by decide)).up (by decide)).tr (x8.mono (by decide))
  have hX8 : X24 p q g8 [] (0, []) := by
    refine ⟨?_, ?_, ?_, fun z => absurd rfl z, fun i hi => absurd hi (by simp)⟩
    · rw [x8 24 (by decide)]; rfl
    · exact hq.eqx (x8 7 (by decide)) (x8 8 (by decide))
    · rw [x8 24 (by decide)]; rfl
  rw [gm_24]
  refine w_goOn (w := 24) ok F24 (by decide) (by decide) (X24 p q) (Y24 p q) (nt24 p q) (mt24 p q) (fun f l s hX => hX.1) ?_ ?_ ?_ ?_ ?_ ?_ 12 g8 [] _ _ (by simp; omega) (Fit.nil p) (hp.eqx hx8 (by decide)) r8 hX8 (fun g9 x9 r9 X9 g11 e11 => ?_)
  · intro f g l s c hY hx
    obtain ⟨y1, y2, y3, y4, y5⟩ := hY
    refine ⟨by rw [hx 24 (by decide)]; exact y1, y2.eqx (hx 7 (by decide)) (hx 8 (by decide)), by rw [hx 24 (by decide)]; exact y3, by rw [hx 25 (by decide)]; exact y4, fun i hi => ?_⟩
    rw [List.length_append, List.length_singleton] at hi
    rw [getD_app1 (by omega)]
    exact y5 i (by omega)
  · intro f g l s c hX hx
    obtain ⟨y1, y2, y3, y4, y5⟩ := hX
    refine ⟨by rw [hx 24 (by decide)]; exact y1, y2.eqx (hx 7 (by decide)) (hx 8 (by decide)), by rw [hx 24 (by decide)]; exact y3, by rw [hx 25 (by decide)]; exact y4, fun i hi => ?_⟩
    have := y5 i (by rw [List.length_append, List.length_singleton]; omega)
    rw [getD_app1 hi] at this
    exact this
  · intro f l s Q hf hp hr hX q1 q0
    have hl := hf.len
    have hb := bks_le p (l := l) (by omega)
    obtain ⟨y1, y2, y3, y4, y5⟩ := id hX
    unfold M_X1_matters_24 J_X1_matters_24_24 J_X1_matters_24_54 J_X1_matters_24_59
    rw [y2.1, y1]
    refine pk_eq _ _ (fun z => ?_) (fun z => q0 (by unfold mt24; simp [z]) f Eqx.rf hr hX) rfl rfl
    refine w_breaks hr (by omega) ?_
    refine pk_le _ _ (fun z2 => ?_) (fun z2 => q0 (by unfold mt24; simp; intro _ h; omega) f Eqx.rf hr hX) rfl (nI_0).symm
    have z2 : bks p l = 0 := by omega
    refine pk_eq l.length 0 (fun z3 => ⟨rfl, q1 (by unfold mt24; simp [z, z2, z3]) f Eqx.rf hr ⟨y1, y2, y3, y4, fun i hi => absurd hi (by omega)⟩⟩) (fun z3 => ?_)
    obtain ⟨k, hk⟩ : ∃ k, l.length = k + 1 := ⟨l.length - 1, by omega⟩
    have ek : nI l.length - 1 = nI k := by rw [hk]; exact nI_pred k
    rw [ek]
    refine ⟨pk_in k 9 (by omega), ?_⟩
    rw [pk_cl k, hr.2.1 k (by omega)]
    have hck := hf.1 k (by omega)
    refine w_allows qok y2 (by omega) hck (fun z4 => ⟨fun w => absurd w (by decide), fun _ => ⟨rfl, ?_⟩⟩) (fun z4 => ⟨fun _ => ⟨rfl, ?_⟩, fun w => absurd rfl w⟩)
    · refine q1 (by unfold mt24; simp only [hk, Nat.add_sub_cancel]; simp [z, z2, z4, -List.getD_eq_getElem?_getD]) f Eqx.rf hr ⟨y1, y2, y3, y4, fun i hi => ?_⟩
      rcases Nat.lt_or_ge (i + 1) l.length with w | w
      · exact y5 i w
      · have : i = k := by omega
        rw [this]; exact z4
    · refine q0 (by unfold mt24; simp only [hk, Nat.add_sub_cancel]; simp [z, z2, z4, -List.getD_eq_getElem?_getD]) f Eqx.rf hr hX
  · intro f l s Q hf hl hp hr hY hm hQ
    obtain ⟨y1, y2, y3, y4, y5⟩ := hY
    unfold mt24 at hm
    simp only [Bool.and_eq_true, decide_eq_true_eq] at hm
    have hfl : fl p q l = true := by
      unfold fl
      simp only [Bool.and_eq_true, decide_eq_true_eq, List.all_eq_true, List.mem_range]
      exact ⟨hm.1, fun i hi => y5 i (by omega)⟩
    unfold nt24 at hQ
    rw [if_pos hfl] at hQ
    have hX : X24 p q f l s := ⟨y1, y2, y3, y4, fun i hi => y5 i (by omega)⟩
    unfold M_X1_note_24
    rw [y3]
    refine ⟨fun z => ?_, fun z => ?_⟩
    · rw [if_pos z] at hQ
      intro g3 e3
      subst e3
      refine w_n24 (p := p) (q := q) (l := l) (s := (s.1, l)) (hr.eqx rfl rfl rfl rfl rfl) ⟨y1, y2.eqx rfl rfl, y3, fun w => absurd z w, fun i hi => y5 i (by omega)⟩ (Or.inr (keep_cpy ok hr hl _)) (fun g x r X => hQ g ?_ r X)
      exact (Eqx.rf.up (by decide)).tr x
    · rw [if_neg z] at hQ
      exact w_n24 hr hX (Or.inl z) hQ
  · intro f l s hY
    exact ⟨hY.1, hY.2.1, hY.2.2.1, hY.2.2.2.1, fun i hi => hY.2.2.2.2 i (by omega)⟩
  · intro l s hf hm t ht
    obtain ⟨f1, f2⟩ := hf.full ht
    have hfl : fl p q (l ++ t) = false := by
      cases hz : fl p q (l ++ t) with
      | false => rfl
      | true =>
        exfalso
        unfold fl at hz
        simp only [Bool.and_eq_true, decide_eq_true_eq, List.all_eq_true, List.mem_range] at hz
        obtain ⟨⟨z1, z2⟩, z3⟩ := hz
        have h1 := bks_mono ok l t
        have z4 : bks p l = 0 := by omega
        unfold mt24 at hm
        by_cases h0 : l.length = 0
        · simp [z1, z4, h0] at hm
        · have hlen := hf.len
          have h2 := z3 (l.length - 1) (by omega)
          rw [getD_left (by omega)] at h2
          simp [z1, z4, h2, -List.getD_eq_getElem?_getD] at hm
    unfold nt24
    rw [if_neg (by rw [hfl]; decide)]
  · subst e11
    have e0 : (List.length ([] : List Nat)) = 0 := rfl
    rw [e0, Nat.sub_zero, rem_nil] at X9
    refine h _ ((hx8.tr x9).up (by decide)) (r9.2.2.1 0 (Nat.zero_le _)) (r9.2.2.2.1 0 (Nat.zero_le _)) rfl ?_
    have X9' : X24 p q g9 [] (fi p q) := by simpa [fi] using X9
    exact X9'
