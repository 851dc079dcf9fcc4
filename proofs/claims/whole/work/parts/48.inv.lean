/-! the invariant between class and reference -/
def K14 (p : Pl) (f : Sg) : Prop := f 14 3 = 0 ∨ (f 14 3 = 1 ∧ Z14 p f (ft p))
def K20 (p : Pl) (f : Sg) : Prop := f 20 3 = 0 ∨ (f 20 3 = 1 ∧ X20 p f [] (fw p))
def K22 (p : Pl) (f : Sg) : Prop := f 22 3 = 0 ∨ (f 22 3 = 1 ∧ X22 p f [] (ms p))
def K24 (p : Pl) (q : Pd) (f : Sg) : Prop := f 24 3 = 0 ∨ (f 24 3 = 1 ∧ X24 p q f [] (fi p q))
def CZ (f : Sg) : Prop := f 11 0 = 0 ∧ f 12 0 = 0 ∧ f 19 0 = 0
def CIm (f : Sg) (i0 i1 : Option Pl) : Prop := f 0 10 = nI (bi i0.isSome + 2 * bi i1.isSome) ∧ (∀ p, i0 = some p → PRep (f 28) (f 29) (f 30) (f 31) (f 32) p) ∧ (∀ p, i1 = some p → PRep (f 34) (f 35) (f 36) (f 37) (f 38) p)
def CInv (f : Sg) (p : Pl) (q : Pd) (i0 i1 : Option Pl) : Prop := P1 f p ∧ PadC f q ∧ CIm f i0 i1 ∧ CZ f ∧ K14 p f ∧ K20 p f ∧ K22 p f ∧ K24 p q f
def RInv (g : Sg) (p : Pl) (q : Pd) (i0 i1 : Option Pl) : Prop := R1 (g 1) p ∧ PadR g q ∧ (g 3 0 = nI (bi i0.isSome) ∧ g 3 1 = nI (bi i1.isSome)) ∧ (∀ p, i0 = some p → R1 (fun j => g 2 j) p) ∧ (∀ p, i1 = some p → R1 (fun j => g 2 (18 + j)) p)
def Inv (f g : Sg) : Prop := ∃ (p : Pl) (q : Pd) (i0 i1 : Option Pl), POk p ∧ PdOk q ∧ (∀ p, i0 = some p → POk p) ∧ (∀ p, i1 = some p → POk p) ∧ CInv f p q i0 i1 ∧ RInv g p q i0 i1
theorem K14.eqx {p : Pl} {f g : Sg} (h : K14 p f) (h1 : g 14 = f 14) (h2 : g 15 = f 15) (h3 : g 16 = f 16) (h4 : g 17 = f 17) (h5 : g 19 = f 19) : K14 p g := by
  unfold K14
  rw [h1]
  rcases h with h | ⟨a, b⟩
  · exact Or.inl h
  · exact Or.inr ⟨a, b.eqx h1 h2 h3 h4 h5⟩
theorem K20.eqx {p : Pl} {f g : Sg} (h : K20 p f) (h1 : g 20 = f 20) (h2 : g 21 = f 21) : K20 p g := by
  unfold K20
  rw [h1]
  rcases h with h | ⟨a, b⟩
  · exact Or.inl h
  · exact Or.inr ⟨a, b.eqx h1 h2⟩
theorem K22.eqx {p : Pl} {f g : Sg} (h : K22 p f) (h1 : g 22 = f 22) (h2 : g 23 = f 23) : K22 p g := by
  unfold K22
  rw [h1]
  rcases h with h | ⟨a, b⟩
  · exact Or.inl h
  · exact Or.inr ⟨a, b.eqx h1 h2⟩
theorem X24.eqx0 {p : Pl} {q : Pd} {f g : Sg} {s : S24} (h : X24 p q f [] s) (h1 : g 24 = f 24) (h2 : g 25 = f 25) (h7 : g 7 = f 7) (h8 : g 8 = f 8) : X24 p q g [] s := by
  obtain ⟨x1, x2, x3, x4, x5⟩ := h
  exact ⟨by rw [h1]; exact x1, x2.eqx h7 h8, by rw [h1]; exact x3, by rw [h2]; exact x4, x5⟩
theorem K24.eqx {p : Pl} {q : Pd} {f g : Sg} (h : K24 p q f) (h1 : g 24 = f 24) (h2 : g 25 = f 25) (h7 : g 7 = f 7) (h8 : g 8 = f 8) : K24 p q g := by
  unfold K24
  rw [h1]
  rcases h with h | ⟨a, b⟩
  · exact Or.inl h
  · exact Or.inr ⟨a, b.eqx0 h1 h2 h7 h8⟩
theorem CIm.eqx {f g : Sg} {i0 i1 : Option Pl} {S : List Nat} (h : CIm f i0 i1) (x : Eqx S f g) (hS : 0 ∉ S ∧ (28 ∉ S ∧ 29 ∉ S ∧ 30 ∉ S ∧ 31 ∉ S ∧ 32 ∉ S) ∧ (34 ∉ S ∧ 35 ∉ S ∧ 36 ∉ S ∧ 37 ∉ S ∧ 38 ∉ S)) : CIm g i0 i1 := by
  unfold CIm
  rw [x 0 hS.1, x 28 hS.2.1.1, x 29 hS.2.1.2.1, x 30 hS.2.1.2.2.1, x 31 hS.2.1.2.2.2.1, x 32 hS.2.1.2.2.2.2, x 34 hS.2.2.1, x 35 hS.2.2.2.1, x 36 hS.2.2.2.2.1, x 37 hS.2.2.2.2.2.1, x 38 hS.2.2.2.2.2.2]
  exact h
theorem RInv.keep {g g' : Sg} {p : Pl} {q : Pd} {i0 i1 : Option Pl} (h : RInv g p q i0 i1) (x : Eqx [0, 5, 6, 7, 8, 9] g g') (h4 : g' 0 4 = g 0 4) : RInv g' p q i0 i1 := by
  obtain ⟨a, b, c, d, e⟩ := h
  refine ⟨by rw [x 1 (by decide)]; exact a, b.eqx h4 (x 4 (by decide)), by rw [x 3 (by decide)]; exact c, by rw [x 2 (by decide)]; exact d, by rw [x 2 (by decide)]; exact e⟩
section FIND
variable {f : Sg} {p : Pl} {q : Pd} {i0 i1 : Option Pl} {Q : Sg → Prop}
theorem w_fit (ok : POk p) (h : CInv f p q i0 i1) (hQ : ∀ g, CInv g p q i0 i1 → Z14 p g (ft p) → Q g) : M_X8_refresh_14 f Q := by
  obtain ⟨c1, c2, c3, c4, c5, c6, c7, c8⟩ := id h
  rcases c5 with c5 | ⟨c5, c5b⟩
  · refine w_refresh14 ok c1 c4.1 c4.2.1 c4.2.2 c5 (fun g x a b c z => hQ g ⟨c1.eqx x (by decide), c2.eqx (x 7 (by decide)) (x 8 (by decide)), c3.eqx x (by decide), ⟨a, b, z.2.2.2.2⟩, Or.inr ⟨c, z⟩, c6.eqx (x 20 (by decide)) (x 21 (by decide)), c7.eqx (x 22 (by decide)) (x 23 (by decide)), c8.eqx (x 24 (by decide)) (x 25 (by decide)) (x 7 (by decide)) (x 8 (by decide))⟩ z)
  · exact ⟨fun z => absurd (c5.symm.trans z) (by decide), fun _ => hQ f h c5b⟩
theorem w_few (ok : POk p) (h : CInv f p q i0 i1) (hQ : ∀ g, CInv g p q i0 i1 → X20 p g [] (fw p) → Q g) : M_X8_refresh_20 f Q := by
  obtain ⟨c1, c2, c3, c4, c5, c6, c7, c8⟩ := id h
  rcases c6 with c6 | ⟨c6, c6b⟩
  · refine w_refresh20 ok c1 c4.1 c4.2.1 c6 (fun g x a b c z => hQ g ⟨c1.eqx x (by decide), c2.eqx (x 7 (by decide)) (x 8 (by decide)), c3.eqx x (by decide), ⟨a, b, by rw [x 19 (by decide)]; exact c4.2.2⟩, c5.eqx (x 14 (by decide)) (x 15 (by decide)) (x 16 (by decide)) (x 17 (by decide)) (x 19 (by decide)), Or.inr ⟨c, z⟩, c7.eqx (x 22 (by decide)) (x 23 (by decide)), c8.eqx (x 24 (by decide)) (x 25 (by decide)) (x 7 (by decide)) (x 8 (by decide))⟩ z)
  · exact ⟨fun z => absurd (c6.symm.trans z) (by decide), fun _ => hQ f h c6b⟩
theorem w_mst (ok : POk p) (h : CInv f p q i0 i1) (hQ : ∀ g, CInv g p q i0 i1 → X22 p g [] (ms p) → Q g) : M_X8_refresh_22 f Q := by
  obtain ⟨c1, c2, c3, c4, c5, c6, c7, c8⟩ := id h
  rcases c7 with c7 | ⟨c7, c7b⟩
  · refine w_refresh22 ok c1 c4.1 c4.2.1 c7 (fun g x a b c z => hQ g ⟨c1.eqx x (by decide), c2.eqx (x 7 (by decide)) (x 8 (by decide)), c3.eqx x (by decide), ⟨a, b, by rw [x 19 (by decide)]; exact c4.2.2⟩, c5.eqx (x 14 (by decide)) (x 15 (by decide)) (x 16 (by decide)) (x 17 (by decide)) (x 19 (by decide)), c6.eqx (x 20 (by decide)) (x 21 (by decide)), Or.inr ⟨c, z⟩, c8.eqx (x 24 (by decide)) (x 25 (by decide)) (x 7 (by decide)) (x 8 (by decide))⟩ z)
  · exact ⟨fun z => absurd (c7.symm.trans z) (by decide), fun _ => hQ f h c7b⟩
theorem w_fil (ok : POk p) (qok : PdOk q) (h : CInv f p q i0 i1) (hQ : ∀ g, CInv g p q i0 i1 → X24 p q g [] (fi p q) → Q g) : M_X8_refresh_24 f Q := by
  obtain ⟨c1, c2, c3, c4, c5, c6, c7, c8⟩ := id h
  rcases c8 with c8 | ⟨c8, c8b⟩
  · refine w_refresh24 ok qok c1 c2 c4.1 c4.2.1 c8 (fun g x a b c z => hQ g ⟨c1.eqx x (by decide), c2.eqx (x 7 (by decide)) (x 8 (by decide)), c3.eqx x (by decide), ⟨a, b, by rw [x 19 (by decide)]; exact c4.2.2⟩, c5.eqx (x 14 (by decide)) (x 15 (by decide)) (x 16 (by decide)) (x 17 (by decide)) (x 19 (by decide)), c6.eqx (x 20 (by decide)) (x 21 (by decide)), c7.eqx (x 22 (by decide)) (x 23 (by decide)), Or.inr ⟨c, z⟩⟩ z)
  · exact ⟨fun z => absurd (c8.symm.trans z) (by decide), fun _ => hQ f h c8b⟩
/-- only the row (and the lane's best) was used -/
theorem CInv.row {g : Sg} (h : CInv f p q i0 i1) (x : Eqx [9, 10, 11, 12, 13, 26] f g) (a : g 11 0 = 0) (b : g 12 0 = 0) : CInv g p q i0 i1 := by
  obtain ⟨c1, c2, c3, c4, c5, c6, c7, c8⟩ := h
  exact ⟨c1.eqx x (by decide), c2.eqx (x 7 (by decide)) (x 8 (by decide)), c3.eqx x (by decide), ⟨a, b, by rw [x 19 (by decide)]; exact c4.2.2⟩, c5.eqx (x 14 (by decide)) (x 15 (by decide)) (x 16 (by decide)) (x 17 (by decide)) (x 19 (by decide)), c6.eqx (x 20 (by decide)) (x 21 (by decide)), c7.eqx (x 22 (by decide)) (x 23 (by decide)), c8.eqx (x 24 (by decide)) (x 25 (by decide)) (x 7 (by decide)) (x 8 (by decide))⟩
theorem w_forget (hQ : ∀ g, Eqx [14, 20, 22, 24] f g → g 14 3 = 0 → g 20 3 = 0 → g 22 3 = 0 → g 24 3 = 0 → Q g) : M_X9_forgetOrders_0 f Q := by
  intro g1 e1 g3 e3 g5 e5 g7 e7
  subst e1 e3 e5 e7
  exact hQ _ ((((Eqx.rf.up (by decide)).up (by decide)).up (by decide)).up (by decide)) rfl rfl rfl rfl
/-- a plan of its own, everything forgotten -/
theorem CInv.plan {g : Sg} {p' : Pl} (h : CInv f p q i0 i1) (x : Eqx [2, 3, 4, 5, 6, 14, 20, 22, 24] f g) (hp : P1 g p') (a : g 14 3 = 0) (b : g 20 3 = 0) (c : g 22 3 = 0) (d : g 24 3 = 0) : CInv g p' q i0 i1 := by
  obtain ⟨c1, c2, c3, c4, c5, c6, c7, c8⟩ := h
  exact ⟨hp, c2.eqx (x 7 (by decide)) (x 8 (by decide)), c3.eqx x (by decide), ⟨by rw [x 11 (by decide)]; exact c4.1, by rw [x 12 (by decide)]; exact c4.2.1, by rw [x 19 (by decide)]; exact c4.2.2⟩, Or.inl a, Or.inl b, Or.inl c, Or.inl d⟩
end FIND
theorem clAt_eq {p : Pl} {h h' : Nat → Int32} (e : ∀ i, i < tot p → h i = h' i) (h9 : tot p ≤ 9) (x : Int32) : clAt p h x = clAt p h' x := by
  unfold clAt
  split
  · rfl
  · rename_i c
    rcases pk_ix x (n := tot p) (by omega) with w | w | ⟨j, hj, ej⟩
    · exact absurd (Or.inl w) c
    · exact absurd (Or.inr w) c
    · rw [pk_cl j ej, e j hj]
theorem keeps_eq {p : Pl} {h h' : Nat → Int32} {o : List Nat} (a : keepsRow p h o) (b : keepsRow p h' o) : ∀ i, i < tot p → h i = h' i := fun i hi => (a i hi).trans (b i hi).symm
theorem w_at15 {f : Sg} {p : Pl} (ok : POk p) (hp : P1 f p) {x : Int32} {Q : Int32 → Sg → Prop} (h : Q (clAt p (f 15) x) f) : M_X9_classAt_0_15 f x Q := by
  have ht := ok.2.2
  unfold M_X9_classAt_0_15 J_X9_classAt_0_15_27 J_X9_classAt_0_15_29
  unfold clAt at h
  refine ⟨fun c => ?_, fun c => w_cars hp ⟨fun c2 => ?_, fun c2 => ⟨fun c3 => absurd (Int32.le_trans (nI_le (a := tot p) (b := 9) ht (by omega)) c3) c2, fun c3 => ?_⟩⟩⟩
  · rw [if_pos (Or.inl c)] at h; exact h
  · rw [if_pos (Or.inr c2)] at h; exact h
  · rw [if_neg (by rintro (w | w); exact c w; exact c2 w)] at h
    rcases pk_ix x (n := 9) (by omega) with w | w | ⟨j, hj, ej⟩
    · exact absurd w c
    · exact absurd w c3
    · exact ⟨pk_in j 9 hj ej, h⟩
theorem w_at21 {f : Sg} {p : Pl} (ok : POk p) (hp : P1 f p) {x : Int32} {Q : Int32 → Sg → Prop} (h : Q (clAt p (f 21) x) f) : M_X9_classAt_0_21 f x Q := by
  have ht := ok.2.2
  unfold M_X9_classAt_0_21 J_X9_classAt_0_21_27 J_X9_classAt_0_21_29
  unfold clAt at h
  refine ⟨fun c => ?_, fun c => w_cars hp ⟨fun c2 => ?_, fun c2 => ⟨fun c3 => absurd (Int32.le_trans (nI_le (a := tot p) (b := 9) ht (by omega)) c3) c2, fun c3 => ?_⟩⟩⟩
  · rw [if_pos (Or.inl c)] at h; exact h
  · rw [if_pos (Or.inr c2)] at h; exact h
  · rw [if_neg (by rintro (w | w); exact c w; exact c2 w)] at h
    rcases pk_ix x (n := 9) (by omega) with w | w | ⟨j, hj, ej⟩
    · exact absurd w c
    · exact absurd w c3
    · exact ⟨pk_in j 9 hj ej, h⟩
theorem w_at17 {f : Sg} {p : Pl} (ok : POk p) (hp : P1 f p) {x : Int32} {Q : Int32 → Sg → Prop} (h : Q (clAt p (f 17) x) f) : M_X9_classAt_0_17 f x Q := by
  have ht := ok.2.2
  unfold M_X9_classAt_0_17 J_X9_classAt_0_17_27 J_X9_classAt_0_17_29
  unfold clAt at h
  refine ⟨fun c => ?_, fun c => w_cars hp ⟨fun c2 => ?_, fun c2 => ⟨fun c3 => absurd (Int32.le_trans (nI_le (a := tot p) (b := 9) ht (by omega)) c3) c2, fun c3 => ?_⟩⟩⟩
  · rw [if_pos (Or.inl c)] at h; exact h
  · rw [if_pos (Or.inr c2)] at h; exact h
  · rw [if_neg (by rintro (w | w); exact c w; exact c2 w)] at h
    rcases pk_ix x (n := 9) (by omega) with w | w | ⟨j, hj, ej⟩
    · exact absurd w c
    · exact absurd w c3
    · exact ⟨pk_in j 9 hj ej, h⟩
theorem w_at10 {f : Sg} {p : Pl} (ok : POk p) (hp : P1 f p) {x : Int32} {Q : Int32 → Sg → Prop} (h : Q (clAt p (f 10) x) f) : M_X9_classAt_0_10 f x Q := by
  have ht := ok.2.2
  unfold M_X9_classAt_0_10 J_X9_classAt_0_10_27 J_X9_classAt_0_10_29
  unfold clAt at h
  refine ⟨fun c => ?_, fun c => w_cars hp ⟨fun c2 => ?_, fun c2 => ⟨fun c3 => absurd (Int32.le_trans (nI_le (a := tot p) (b := 9) ht (by omega)) c3) c2, fun c3 => ?_⟩⟩⟩
  · rw [if_pos (Or.inl c)] at h; exact h
  · rw [if_pos (Or.inr c2)] at h; exact h
  · rw [if_neg (by rintro (w | w); exact c w; exact c2 w)] at h
    rcases pk_ix x (n := 9) (by omega) with w | w | ⟨j, hj, ej⟩
    · exact absurd w c
    · exact absurd w c3
    · exact ⟨pk_in j 9 hj ej, h⟩
theorem w_at16 {f : Sg} {p : Pl} (ok : POk p) (hp : P1 f p) {x : Int32} {Q : Int32 → Sg → Prop} (h : Q (clAt p (f 16) x) f) : M_X9_classAt_0_16 f x Q := by
  have ht := ok.2.2
  unfold M_X9_classAt_0_16 J_X9_classAt_0_16_27 J_X9_classAt_0_16_29
  unfold clAt at h
  refine ⟨fun c => ?_, fun c => w_cars hp ⟨fun c2 => ?_, fun c2 => ⟨fun c3 => absurd (Int32.le_trans (nI_le (a := tot p) (b := 9) ht (by omega)) c3) c2, fun c3 => ?_⟩⟩⟩
  · rw [if_pos (Or.inl c)] at h; exact h
  · rw [if_pos (Or.inr c2)] at h; exact h
  · rw [if_neg (by rintro (w | w); exact c w; exact c2 w)] at h
    rcases pk_ix x (n := 9) (by omega) with w | w | ⟨j, hj, ej⟩
    · exact absurd w c
    · exact absurd w c3
    · exact ⟨pk_in j 9 hj ej, h⟩
theorem w_at25 {f : Sg} {p : Pl} (ok : POk p) (hp : P1 f p) {x : Int32} {Q : Int32 → Sg → Prop} (h : Q (clAt p (f 25) x) f) : M_X9_classAt_0_25 f x Q := by
  have ht := ok.2.2
  unfold M_X9_classAt_0_25 J_X9_classAt_0_25_27 J_X9_classAt_0_25_29
  unfold clAt at h
  refine ⟨fun c => ?_, fun c => w_cars hp ⟨fun c2 => ?_, fun c2 => ⟨fun c3 => absurd (Int32.le_trans (nI_le (a := tot p) (b := 9) ht (by omega)) c3) c2, fun c3 => ?_⟩⟩⟩
  · rw [if_pos (Or.inl c)] at h; exact h
  · rw [if_pos (Or.inr c2)] at h; exact h
  · rw [if_neg (by rintro (w | w); exact c w; exact c2 w)] at h
    rcases pk_ix x (n := 9) (by omega) with w | w | ⟨j, hj, ej⟩
    · exact absurd w c
    · exact absurd w c3
    · exact ⟨pk_in j 9 hj ej, h⟩
theorem w_isOption {f : Sg} {x : Int32} {Q : Int32 → Sg → Prop} (h1 : ∀ c, c < 4 → x = nI c → Q 1 f) (h0 : (∀ c, c < 4 → x ≠ nI c) → Q 0 f) : M_X9_isOption f x Q := by
  unfold M_X9_isOption J_X9_isOption_13 J_X9_isOption_14
  refine ⟨fun c => ⟨rfl, h0 (fun j hj e => ?_)⟩, fun c => ⟨fun c2 => ⟨rfl, h0 (fun j hj e => ?_)⟩, fun c2 => ⟨rfl, ?_⟩⟩⟩
  · rw [e] at c; exact absurd c (nI_pos (by omega))
  · rw [e] at c2; exact absurd c2 (nI_ge (a := j) (b := 4) hj (by omega))
  · rcases pk_ix x (n := 4) (by omega) with q | q | ⟨j, hj, e⟩
    · exact absurd q c
    · exact absurd q c2
    · exact h1 j hj e
theorem w_isImage {f : Sg} {x : Int32} {Q : Int32 → Sg → Prop} (h1 : ∀ c, c < 2 → x = nI c → Q 1 f) (h0 : (∀ c, c < 2 → x ≠ nI c) → Q 0 f) : M_X9_isImage f x Q := by
  unfold M_X9_isImage J_X9_isImage_13 J_X9_isImage_14
  refine ⟨fun c => ⟨rfl, h0 (fun j hj e => ?_)⟩, fun c => ⟨fun c2 => ⟨rfl, h0 (fun j hj e => ?_)⟩, fun c2 => ⟨rfl, ?_⟩⟩⟩
  · rw [e] at c; exact absurd c (nI_pos (by omega))
  · rw [e] at c2; exact absurd c2 (nI_ge (a := j) (b := 2) hj (by omega))
  · rcases pk_ix x (n := 2) (by omega) with q | q | ⟨j, hj, e⟩
    · exact absurd q c
    · exact absurd q c2
    · exact h1 j hj e
/-- the two ends of a call that is refused or only looks -/
theorem same {f g : Sg} (I : Inv f g) {r : Int32} : r = r ∧ Inv f g := ⟨rfl, I⟩
