/-! members of ords; breaks only grow -/
theorem ords_mem : ∀ (n : Nat) (d : Nat → Nat) (t : List Nat), t ∈ ords n d → t.length = n ∧ (∀ c, c ∈ t → c < 5) ∧ (∀ c, t.count c ≤ d c) := by
  intro n
  induction n with
  | zero =>
    intro d t ht
    have : t = [] := by simpa [ords] using ht
    subst this
    exact ⟨rfl, fun c hc => by simp at hc, fun c => by simp⟩
  | succ n ih =>
    intro d t ht
    unfold ords at ht
    obtain ⟨c, hc, ht⟩ := List.mem_flatMap.mp ht
    have hc5 : c < 5 := List.mem_range.mp hc
    split at ht
    · rename_i h0
      obtain ⟨u, hu, rfl⟩ := List.mem_map.mp ht
      obtain ⟨i1, i2, i3⟩ := ih _ u hu
      refine ⟨by simp [i1], fun x hx => ?_, fun x => ?_⟩
      · rcases List.mem_cons.mp hx with rfl | h
        · exact hc5
        · exact i2 x h
      · have := i3 x
        unfold decr at this
        rw [List.count_cons]
        by_cases q : x = c
        · rw [if_pos q] at this; simp [q]; rw [q] at this; omega
        · rw [if_neg q] at this
          have : ¬ (c == x) = true := by simp; exact fun h => q h.symm
          simp [this]; omega
    · simp at ht
theorem getD_left {l t : List Nat} {i : Nat} (h : i < l.length) : (l ++ t).getD i 0 = l.getD i 0 := by
  simp [List.getD, List.getElem?_append_left h]
theorem smb_left {p : Pl} (ok : POk p) {l t : List Nat} {n : Nat} (h : n ≤ l.length) : sm (bAt p (l ++ t)) n = sm (bAt p l) n := sm_congr (fun k hk => bAt_congr (fun j hj => getD_left (by omega)) ok.of1)
theorem bks_mono {p : Pl} (ok : POk p) (l t : List Nat) : bks p l ≤ bks p (l ++ t) := by
  unfold bks
  rw [← smb_left ok (t := t) (Nat.le_refl _)]
  exact sm_mono _ (by simp)
theorem bks_le (p : Pl) {l : List Nat} (h : l.length ≤ 9) : bks p l ≤ 36 := by
  have := smb_le p l l.length
  unfold bks
  omega
theorem Fit.full {p : Pl} {l t : List Nat} (h : Fit p l) (ht : t ∈ ords (tot p - l.length) (rem p l)) : Fit p (l ++ t) ∧ (l ++ t).length = tot p := by
  obtain ⟨i1, i2, i3⟩ := ords_mem _ _ t ht
  have hl := h.len
  refine ⟨⟨Cls.of (fun c hc => ?_), fun c hc => ?_⟩, by rw [List.length_append, i1]; omega⟩
  · rcases List.mem_append.mp hc with q | q
    · exact h.1.mem c q
    · exact i2 c q
  · have h1 := i3 c
    have h2 := h.2 c hc
    unfold rem at h1
    rw [List.count_append]
    omega
/-! Fewest -/
abbrev S20 : Type := Nat × Int32 × List Nat
def nt20 (p : Pl) (s : S20) (o : List Nat) : S20 := if s.1 < bks p o then s else if s.2.1 = 0 ∨ bks p o < s.1 then (bks p o, 0 + 1, o) else (s.1, s.2.1 + 1, s.2.2)
def keepsRow (p : Pl) (h : Nat → Int32) (o : List Nat) : Prop := ∀ i, i < tot p → h i = nI (o.getD i 0)
def X20 (p : Pl) (f : Sg) (_ : List Nat) (s : S20) : Prop := f 20 2 = nI (tot p) ∧ f 20 5 = nI s.1 ∧ f 20 6 = s.2.1 ∧ s.1 ≤ 100 ∧ (s.2.1 ≠ 0 → keepsRow p (f 21) s.2.2)
theorem X20.eqx {p : Pl} {f g : Sg} {l l' : List Nat} {s : S20} (h : X20 p f l s) (h1 : g 20 = f 20) (h2 : g 21 = f 21) : X20 p g l' s := by
  unfold X20
  rw [h1, h2]
  exact h
abbrev F20 : List Nat := [9, 10, 11, 12, 13, 20, 21]
theorem keep_cpy {p : Pl} (ok : POk p) {f : Sg} {l : List Nat} (hr : RRep f p l) (hl : l.length = tot p) (h : Nat → Int32) : keepsRow p (va_cpy (f 10) h 0 0 9) l := by
  intro i hi
  have := ok.2.2
  rw [pk_cpy_in (by omega) (by omega), Nat.zero_add, Nat.sub_zero]
  exact hr.2.1 i (by omega)
theorem RRep.eqx {f g : Sg} {p : Pl} {l : List Nat} (h : RRep f p l) (h9 : g 9 = f 9) (h10 : g 10 = f 10) (h11 : g 11 = f 11) (h12 : g 12 = f 12) (h13 : g 13 = f 13) : RRep g p l := by
  unfold RRep
  rw [h9, h10, h11, h12, h13]
  exact h
theorem w_n20_45 {p : Pl} {f : Sg} {l : List Nat} {s : S20} {Q : Sg → Prop} (hr : RRep f p l) (hX : X20 p f l s) (hne : s.2.1 ≠ 0 ∨ keepsRow p (f 21) s.2.2) (h : ∀ g, Eqx F20 f g → RRep g p l → X20 p g l (s.1, s.2.1 + 1, s.2.2) → Q g) : J_X0_note_20_45 Q f := by
  intro g8 e8
  subst e8
  obtain ⟨x1, x2, x3, x4, x5⟩ := hX
  refine h _ (Eqx.rf.up (by decide)) (hr.eqx rfl rfl rfl rfl rfl) ⟨x1, x2, ?_, x4, fun _ => ?_⟩
  · show f 20 6 + 1 = _
    rw [x3]
  · rcases hne with q | q
    · exact x5 q
    · exact q
theorem w_n20_21 {p : Pl} (ok : POk p) {f : Sg} {l : List Nat} {s : S20} {Q : Sg → Prop} (hl : l.length = tot p) (hr : RRep f p l) (hX : X20 p f l s) (h : ∀ g, Eqx F20 f g → RRep g p l → X20 p g l (bks p l, 0 + 1, l) → Q g) : J_X0_note_20_21 Q f := by
  have ht := ok.2.2
  have hb := bks_le p (l := l) (by omega)
  refine w_breaks hr (by omega) (fun g4 e4 g5 e5 g6 e6 => ?_)
  subst e4 e5 e6
  refine w_n20_45 (p := p) (l := l) (s := (bks p l, 0, l)) (hr.eqx rfl rfl rfl rfl rfl) ⟨hX.1, rfl, rfl, by show bks p l ≤ 100; omega, fun q => absurd rfl q⟩ (Or.inr (keep_cpy ok hr hl _)) (fun g x r X => h g ?_ r X)
  exact (((Eqx.rf.up (by decide)).up (by decide)).up (by decide)).tr x
theorem w_note20 {p : Pl} (ok : POk p) {f : Sg} {l : List Nat} {s : S20} {Q : Sg → Prop} (hl : l.length = tot p) (hr : RRep f p l) (hX : X20 p f l s) (hm : bks p l ≤ s.1) (h : ∀ g, Eqx F20 f g → RRep g p l → X20 p g l (nt20 p s l) → Q g) : M_X0_note_20 f Q := by
  have ht := ok.2.2
  have hb := bks_le p (l := l) (by omega)
  unfold nt20 at h
  rw [if_neg (by omega)] at h
  have hX' := hX
  obtain ⟨x1, x2, x3, x4, x5⟩ := hX
  unfold M_X0_note_20
  rw [x3]
  refine ⟨fun q => ?_, fun q => w_breaks hr (by omega) ?_⟩
  · rw [if_pos (Or.inl q)] at h
    exact w_n20_21 ok hl hr hX' h
  · rw [x2]
    refine pk_le _ _ (fun z => ?_) (fun z => ?_) rfl rfl
    · rw [if_neg (by rintro (w | w); exact q w; omega)] at h
      exact w_n20_45 hr hX' (Or.inl q) h
    · rw [if_pos (Or.inr z)] at h
      exact w_n20_21 ok hl hr hX' h
theorem w_mat20 {p : Pl} (ok : POk p) {f : Sg} {l : List Nat} {s : S20} {Q : Int32 → Sg → Prop} (hl : l.length ≤ 9) (hr : RRep f p l) (hX : X20 p f l s) (h1 : bks p l ≤ s.1 → Q 1 f) (h0 : ¬ bks p l ≤ s.1 → Q 0 f) : M_X0_matters_20 f (nI l.length) Q := by
  unfold M_X0_matters_20 J_X0_matters_20_19
  refine w_breaks hr hl ?_
  have hb := bks_le p hl
  have := hX.2.2.2.1
  rw [hX.2.1]
  exact pk_lt _ _ (fun z => ⟨rfl, h0 (by omega)⟩) (fun z => ⟨rfl, h1 z⟩) rfl rfl
/-- what Fewest finds -/
def fw (p : Pl) : S20 := (ords (tot p) (pDm p)).foldl (nt20 p) (bks p (rlr p (tot p)), 0, [])
theorem rem_nil (p : Pl) : rem p [] = pDm p := by funext c; unfold rem; simp
theorem Fit.nil (p : Pl) : Fit p [] := ⟨fun i hi => absurd hi (Nat.not_lt_zero _), fun c _ => by simp⟩
theorem w_refresh20 {p : Pl} (ok : POk p) {f : Sg} {Q : Sg → Prop} (hp : P1 f p) (h11 : f 11 0 = 0) (h12 : f 12 0 = 0) (hk : f 20 3 = 0) (h : ∀ g, Eqx F20 f g → g 11 0 = 0 → g 12 0 = 0 → g 20 3 = 1 → X20 p g [] (fw p) → Q g) : M_X8_refresh_20 f Q := by
  have ht := ok.2.2
  refine ⟨fun _ => w_cars hp (fun g4 e4 => ?_), fun q => absurd hk q⟩
  subst e4
  unfold M_X0_begin_20
  show M_X6_takeRule_9 _ (nI (tot p)) _
  refine w_takeRule (f := va_up f 20 (upd (f 20) 2 (nI (tot p)))) ok hp h11 h12 (fun g5 r5 x5 => ?_)
  obtain ⟨i1, i2, i3⟩ := rlr_ok (p := p) (tot p) (Nat.le_refl _)
  refine w_breaks r5 (by omega) (fun g6 e6 g7 e7 => ?_)
  subst e6 e7
  have z11 : g5 11 0 = 0 := r5.2.2.1 0 (Nat.zero_le _)
  have z12 : g5 12 0 = 0 := r5.2.2.2.1 0 (Nat.zero_le _)
  have e20 : g5 20 = upd (f 20) 2 (nI (tot p)) := x5 20 (by decide)
  have hx6 : Eqx F20 f (va_up (va_up g5 20 (upd (g5 20) 5 (nI (bks p (rlr p (tot p)))))) 20 (upd (va_up g5 20 (upd (g5 20) 5 (nI (bks p (rlr p (tot p))))) 20) 6 0)) :=
    (((Eqx.rf.up (S := F20) (k := 20) (by decide)).tr (x5.mono (by decide))).up (by decide)).up (by decide)
  refine w_start (p := p) (hp.eqx hx6 (by decide)) z11 z12 (fun g8 r8 x8 => ?_)
  have hb := bks_le p (l := rlr p (tot p)) (by omega)
  have hX8 : X20 p g8 [] (bks p (rlr p (tot p)), 0, []) := by
    refine X20.eqx (f := (va_up (va_up g5 20 (upd (g5 20) 5 (nI (bks p (rlr p (tot p)))))) 20 (upd (va_up g5 20 (upd (g5 20) 5 (nI (bks p (rlr p (tot p))))) 20) 6 0))) (l := []) ⟨?_, rfl, rfl, by show bks p (rlr p (tot p)) ≤ 100; omega, fun q => absurd rfl q⟩ (x8 20 (by decide)) (x8 21 (by decide))
    show g5 20 2 = _
    rw [e20]; rfl
  have hx8 : Eqx F20 f g8 := hx6.tr (x8.mono (by decide))
  rw [gm_20]
  refine w_goOn (w := 20) ok F20 (by decide) (by decide) (X20 p) (X20 p) (nt20 p) (fun l s => decide (bks p l ≤ s.1)) (fun f l s hX => hX.1) (fun f g l s c hX hx => hX.eqx (hx 20 (by decide)) (hx 21 (by decide))) (fun f g l s c hX hx => hX.eqx (hx 20 (by decide)) (hx 21 (by decide)))
    ?_ ?_ (fun f l s hX => hX) ?_ 12 g8 [] _ _ (by simp; omega) (Fit.nil p) (hp.eqx hx8 (by decide)) r8 hX8 (fun g9 x9 r9 X9 g11 e11 => ?_)
  · intro f l s Q hf hp hr hX q1 q0
    have := hf.len
    exact w_mat20 ok (by omega) hr hX (fun z => q1 (by simpa using z) f Eqx.rf hr hX) (fun z => q0 (by simpa using z) f Eqx.rf hr hX)
  · intro f l s Q hf hl hp hr hX hm q
    exact w_note20 ok hl hr hX (by simpa using hm) q
  · intro l s hf hm t ht
    have h1 := bks_mono ok l t
    have h2 : s.1 < bks p l := by simpa using hm
    unfold nt20
    rw [if_pos (by omega)]
  · subst e11
    have e0 : (List.length ([] : List Nat)) = 0 := rfl
    rw [e0, Nat.sub_zero, rem_nil] at X9
    refine h _ ((hx8.tr x9).up (by decide)) (r9.2.2.1 0 (Nat.zero_le _)) (r9.2.2.2.1 0 (Nat.zero_le _)) rfl ?_
    have X9' : X20 p g9 [] (fw p) := by simpa [fw] using X9
    exact X9'
