/-! say, wipe, row, image, restore, count -/
theorem pd_app1 {q : Pd} {s : Option Nat} {i : Nat} (h : i < q.length) : (q ++ [s]).getD i none = q.getD i none := by
  simp [List.getD, List.getElem?_append_left h]
theorem pd_app2 {q : Pd} {s : Option Nat} : (q ++ [s]).getD q.length none = s := by
  simp [List.getD]
theorem CInv.pad {f g : Sg} {p : Pl} {q q' : Pd} {i0 i1 : Option Pl} (h : CInv f p q i0 i1) (x : Eqx [7, 8, 24] f g) (hq : PadC g q') (hk : g 24 3 = 0) : CInv g p q' i0 i1 := by
  obtain ⟨c1, c2, c3, c4, c5, c6, c7, c8⟩ := h
  exact ⟨c1.eqx x (by decide), hq, c3.eqx x (by decide), ⟨by rw [x 11 (by decide)]; exact c4.1, by rw [x 12 (by decide)]; exact c4.2.1, by rw [x 19 (by decide)]; exact c4.2.2⟩, c5.eqx (x 14 (by decide)) (x 15 (by decide)) (x 16 (by decide)) (x 17 (by decide)) (x 19 (by decide)), c6.eqx (x 20 (by decide)) (x 21 (by decide)), c7.eqx (x 22 (by decide)) (x 23 (by decide)), Or.inl hk⟩
theorem PdOk.app {q : Pd} (ok : PdOk q) (h : q.length < 9) {s : Option Nat} (hs : ∀ c, s = some c → c < 5) : PdOk (q ++ [s]) := by
  refine ⟨by rw [List.length_append, List.length_singleton]; omega, fun i c hi e => ?_⟩
  rw [List.length_append, List.length_singleton] at hi
  rcases Nat.lt_or_ge i q.length with w | w
  · rw [pd_app1 w] at e; exact ok.2 i c w e
  · rw [Nat.le_antisymm (by omega) w, pd_app2] at e; exact hs c e
theorem w_say54 {f : Sg} {p : Pl} {q : Pd} {i0 i1 : Option Pl} (qok : PdOk q) (C : CInv f p q i0 i1) (h9 : q.length < 9) (s : Option Nat) {Q : Int32 → Sg → Prop} (h : ∀ g, CInv g p (q ++ [s]) i0 i1 → Q (nI (q.length + 1)) g) : J_X9_say_0_54 Q f (sgC s) := by
  unfold J_X9_say_0_54 M_X4_add_7 J_X4_add_7_29
  have hq := C.2.1
  rw [hq.1]
  refine pk_le 9 q.length (fun z => absurd z (by omega)) (fun _ => ⟨pk_in q.length 9 h9, fun g3 e3 g4 e4 g7 e7 => ?_⟩)
  rw [pk_cl q.length] at e3
  have l4 : g4 7 1 = nI (q.length + 1) := by rw [e4, e3]; show f 7 1 + 1 = _; rw [hq.1, nI_1]
  have l7 : g7 7 1 = nI (q.length + 1) := by rw [e7]; exact l4
  rw [l7]
  refine h g7 (C.pad (by rw [e7, e4, e3]; exact ((Eqx.rf.up (by decide)).up (by decide)).up (by decide)) ⟨?_, fun i hi => ?_⟩ (by rw [e7]; rfl))
  · rw [l7, List.length_append]; rfl
  · rw [List.length_append, List.length_singleton] at hi
    rw [e7, e4, e3]
    show upd (f 8) q.length (sgC s) i = _
    rcases Nat.lt_or_ge i q.length with w | w
    · rw [pk_un (by omega), pd_app1 w]; exact hq.2 i w
    · rw [Nat.le_antisymm (by omega) w, pk_us, pd_app2]
theorem r_say20 {g : Sg} {p : Pl} {q : Pd} {i0 i1 : Option Pl} (qok : PdOk q) (R : RInv g p q i0 i1) (s : Option Nat) {Q : Int32 → Sg → Prop} (h1 : q.length < 9 → ∀ g', RInv g' p (q ++ [s]) i0 i1 → Q (nI (q.length + 1)) g') (h0 : ¬ q.length < 9 → Q (-4) g) : J_X10_say_0_20 Q g (sgR s) := by
  have h9 := qok.1
  unfold J_X10_say_0_20
  have hq := R.2.1
  rw [hq.1]
  refine pk_eq q.length 9 (fun z => h0 (by omega)) (fun z => ⟨pk_in q.length 9 (by omega), fun g6 e6 g7 e7 => ?_⟩)
  rw [pk_cl q.length] at e6
  have l7 : g7 0 4 = nI (q.length + 1) := by rw [e7, e6]; show g 0 4 + 1 = _; rw [hq.1, nI_1]
  rw [l7]
  refine h1 (by omega) g7 ⟨by rw [e7, e6]; exact R.1, ⟨?_, fun i hi => ?_⟩, by rw [e7, e6]; exact R.2.2.1, by rw [e7, e6]; exact R.2.2.2.1, by rw [e7, e6]; exact R.2.2.2.2⟩
  · rw [l7, List.length_append]; rfl
  · rw [List.length_append, List.length_singleton] at hi
    rw [e7, e6]
    show upd (g 4) q.length (sgR s) i = _
    rcases Nat.lt_or_ge i q.length with w | w
    · rw [pk_un (by omega), pd_app1 w]; exact hq.2 i w
    · rw [Nat.le_antisymm (by omega) w, pk_us, pd_app2]
theorem st_say {f g : Sg} (I : Inv f g) (x1 : Int32) : M_X9_say_0 f x1 (fun r f' => M_X10_say_0 g x1 (fun r' g' => r = r' ∧ Inv f' g')) := by
  have J := I
  obtain ⟨p, q, i0, i1, ok, qok, ok0, ok1, C, R⟩ := I
  have h9 := qok.1
  -- a sign: both add it
  have add : ∀ s : Option Nat, (∀ c, s = some c → c < 5) → sgR s = x1 → (∀ Q : Int32 → Sg → Prop, J_X10_say_0_20 Q g x1 → M_X10_say_0 g x1 Q) → ((x1 = 63 → s = none) ∧ (¬ x1 = 63 → x1 - 48 = sgC s)) → J_X9_say_0_21 (fun r f' => M_X10_say_0 g x1 (fun r' g' => r = r' ∧ Inv f' g')) f x1 := by
    intro s hs e ref es
    unfold J_X9_say_0_21
    rw [C.2.1.1]
    have go : q.length < 9 → J_X9_say_0_54 (fun r f' => M_X10_say_0 g x1 (fun r' g' => r = r' ∧ Inv f' g')) f (sgC s) := fun hl => w_say54 qok C hl s (fun f1 C1 => ref _ (by
      rw [← e]
      exact r_say20 qok R s (fun _ g1 R1 => ⟨rfl, p, q ++ [s], i0, i1, ok, qok.app hl hs, ok0, ok1, C1, R1⟩) (fun z => absurd hl z)))
    refine pk_lt q.length 9 (fun hl => ⟨fun a => ?_, fun a => ?_⟩) (fun hl => ref _ ?_)
    · have := go hl
      rw [es.1 a] at this
      exact this
    · rw [es.2 a]; exact go hl
    · rw [← e]
      exact r_say20 qok R s (fun z => absurd z (by omega)) (fun _ => same J)
  have ref63 : x1 = 63 → ∀ Q : Int32 → Sg → Prop, J_X10_say_0_20 Q g x1 → M_X10_say_0 g x1 Q := by
    intro a Q h
    unfold M_X10_say_0
    refine r_in (fun b c => absurd (by rw [a]; decide) c) (fun _ => ⟨fun _ => ⟨fun _ => h, fun z => absurd a z⟩, fun z => absurd rfl z⟩)
  have refN : ∀ c, c < 5 → x1 = nI (48 + c) → ∀ Q : Int32 → Sg → Prop, J_X10_say_0_20 Q g x1 → M_X10_say_0 g x1 Q := by
    intro c hc a Q h
    unfold M_X10_say_0
    refine r_in (fun _ _ => ⟨fun z => absurd z (by decide), fun _ => h⟩) (fun w => ?_)
    exfalso
    rw [a] at w
    rcases w with w | w
    · exact absurd w (nI_nlt (a := 48 + c) (b := 48) (by omega) (by omega))
    · exact absurd w (nI_nlt (a := 52) (b := 48 + c) (by omega) (by omega))
  have q12 : (x1 < 48 ∨ ¬ x1 < 53) → J_X9_say_0_12 (fun r f' => M_X10_say_0 g x1 (fun r' g' => r = r' ∧ Inv f' g')) f x1 := by
    intro hb
    unfold J_X9_say_0_12
    refine ⟨fun a => add none (fun c z => by cases z) a.symm (ref63 a) ⟨fun _ => rfl, fun z => absurd a z⟩, fun a => ?_⟩
    unfold M_X10_say_0
    refine r_in (fun b c => ?_) (fun _ => ⟨fun _ => ⟨fun z => absurd z a, fun _ => same J⟩, fun z => absurd rfl z⟩)
    exfalso
    rcases hb with w | w
    · exact b w
    · refine c ?_
      exact Int32.lt_of_lt_of_le (by decide : (52 : Int32) < 53) (Int32.not_lt.mp w)
  unfold M_X9_say_0
  refine ⟨fun a => q12 (Or.inl a), fun a => ⟨fun b => ?_, fun b => q12 (Or.inr b)⟩⟩
  obtain ⟨j, hj, e⟩ := rng (n := 52) (by omega) (fun w => a (Int32.lt_trans w (by decide))) (fun w : nI 52 < x1 => by
    have h1 : (53 : Int32) ≤ x1 := by
      rw [Int32.le_iff_toInt_le]
      rw [Int32.lt_iff_toInt_lt] at w
      have e1 : (53 : Int32).toInt = 53 := by decide
      have e2 : (nI 52).toInt = 52 := by decide
      omega
    exact absurd b (Int32.not_lt.mpr h1))
  have hj48 : 48 ≤ j := by
    rcases Nat.lt_or_ge j 48 with w | w
    · exact absurd (by rw [e]; exact nI_lt (a := j) (b := 48) w (by omega)) a
    · exact w
  obtain ⟨c, rfl⟩ : ∃ c, j = 48 + c := ⟨j - 48, by omega⟩
  refine add (some c) (fun c' z => by cases z; omega) e.symm (refN c (by omega) e) ⟨fun z => ?_, fun _ => ?_⟩
  · rw [e] at z
    have z : nI (48 + c) = nI 63 := z
    rw [nI_eq (by omega) (by omega)] at z
    omega
  · rw [e]; exact sub48 c
theorem st_wipe {f g : Sg} (I : Inv f g) : M_X9_wipe_0 f (fun r f' => M_X10_wipe_0 g (fun r' g' => r = r' ∧ Inv f' g')) := by
  obtain ⟨p, q, i0, i1, ok, qok, ok0, ok1, C, R⟩ := I
  intro z1 e1 g2 e2 g3 e3 z1' e1' g2' e2'
  refine ⟨by rw [e1, e1', C.2.1.1, R.2.1.1], p, [], i0, i1, ok, ⟨Nat.zero_le _, fun i c hi => absurd hi (Nat.not_lt_zero _)⟩, ok0, ok1, C.pad (by rw [e3, e2]; exact (Eqx.rf.up (by decide)).up (by decide)) ⟨by rw [e3, e2]; rfl, fun i hi => absurd hi (Nat.not_lt_zero _)⟩ (by rw [e3]; rfl), by rw [e2']; exact R.1, ⟨by rw [e2']; rfl, fun i hi => absurd hi (Nat.not_lt_zero _)⟩, by rw [e2']; exact R.2.2.1, by rw [e2']; exact R.2.2.2.1, by rw [e2']; exact R.2.2.2.2⟩
theorem st_row {f g : Sg} (I : Inv f g) (x1 : Int32) : M_X9_row_0 f x1 (fun r f' => M_X10_row_0 g x1 (fun r' g' => r = r' ∧ Inv f' g')) := by
  have J := I
  obtain ⟨p, q, i0, i1, ok, qok, ok0, ok1, C, R⟩ := I
  have h9 := qok.1
  have hlen := cl_len q
  unfold M_X9_row_0 J_X9_row_0_9 J_X9_row_0_88
  have bad : (∀ k, k < 3 → x1 ≠ nI k) → M_X10_row_0 g x1 (fun r' g' => -2 = r' ∧ Inv f g') := by
    intro w
    unfold M_X10_row_0
    exact r_inN 3 (by omega) (by omega) rfl (fun k hk e => absurd e (w k hk)) (fun _ => ⟨fun _ => same J, fun z => absurd rfl z⟩)
  refine ⟨fun a => bad (fun k hk e => ?_), fun a => ⟨fun b => ?_, fun b => bad (fun k hk e => ?_)⟩⟩
  · rw [e] at a; exact absurd a (nI_pos (by omega))
  · obtain ⟨k, hk, ek⟩ := rng (n := 2) (by omega) a (Int32.not_lt.mpr b)
    refine w_hasAny qok C.2.1 (fun w => ⟨fun z => absurd z (by decide), fun _ => ?_⟩) (fun w => ⟨fun _ => ?_, fun z => absurd rfl z⟩)
    · unfold M_X10_row_0
      exact r_inN 3 (by omega) (by omega) rfl (fun k hk e => ⟨fun z => absurd z (by decide), fun _ => r_isOpen qok R.2.1 (fun _ => ⟨fun z => absurd z (by decide), fun _ => same J⟩) (fun v => absurd w v)⟩) (fun v => absurd ek (v k (by omega)))
    · have hcls := cl_cls qok w
      refine w_walkPad ok qok C.1 C.2.1 w C.2.2.2.1.1 C.2.2.2.1.2.1 (fun f1 x rr => ?_)
      have C1 : CInv f1 p q i0 i1 := C.row (x.mono (by decide)) (rr.2.2.1 0 (Nat.zero_le _)) (rr.2.2.2.1 0 (Nat.zero_le _))
      have ref : ∀ (Q : Int32 → Sg → Prop), (∀ g1, RInv g1 p q i0 i1 → RR g1 (cl q) → (x1 = 0 → M_X10_breaks_0 g1 Q) ∧ (¬ x1 = 0 → (x1 = 1 → M_X10_firstBreak_0 g1 Q) ∧ (¬ x1 = 1 → M_X10_isOrder_0 g1 (fun r12 g11 => (r12 = 0 → Q (-6) g11) ∧ (¬ r12 = 0 → M_X10_off_0 g11 Q))))) → M_X10_row_0 g x1 Q := by
        intro Q hQ
        unfold M_X10_row_0 J_X10_row_0_65
        exact r_inN 3 (by omega) (by omega) rfl (fun k hk e => ⟨fun z => absurd z (by decide), fun _ => r_isOpen qok R.2.1 (fun v => absurd v w) (fun _ => ⟨fun _ => r_layPad qok R.2.1 w (fun g1 x1' y1 r1 => hQ g1 (R.keep (x1'.mono (by decide)) (keep04 y1 (by decide))) r1), fun z => absurd rfl z⟩)⟩) (fun v => absurd ek (v k (by omega)))
      have inv1 : ∀ g1, RInv g1 p q i0 i1 → Inv f1 g1 := fun g1 R1 => ⟨p, q, i0, i1, ok, qok, ok0, ok1, C1, R1⟩
      refine ⟨fun a0 => w_breaks rr (by omega) (ref _ (fun g1 R1 r1 => ⟨fun _ => r_breaks ok R1.1 hcls r1 (by omega) ⟨rfl, inv1 g1 R1⟩, fun z => absurd a0 z⟩)), fun a0 => ⟨fun a1 => w_firstBreak rr (by omega) (fun r hr => ref _ (fun g1 R1 r1 => ⟨fun z => absurd z a0, fun _ => ⟨fun _ => r_firstBreak ok R1.1 hcls (by omega) r1 (fun r' hr' => ⟨hr.one hr', inv1 g1 R1⟩), fun z => absurd a1 z⟩⟩)), fun a1 => w_isOrder ok rr (by omega) (fun ho => ⟨fun z => absurd z (by decide), fun _ => ref _ (fun g1 R1 r1 => ⟨fun z => absurd z a0, fun _ => ⟨fun z => absurd z a1, fun _ => r_isOrder ok R1.1 qok R1.2.1 (fun _ => ⟨fun z => absurd z (by decide), fun _ => r_off ok R1.1 hcls (by omega) r1 (fun g2 x2 y2 => ⟨rfl, inv1 g2 (R1.keep (x2.mono (by decide)) (by rw [x2 0 (by decide)]))⟩)⟩) (fun v => absurd ⟨w, ho⟩ v)⟩⟩)⟩) (fun ho => ⟨fun _ => ref _ (fun g1 R1 r1 => ⟨fun z => absurd z a0, fun _ => ⟨fun z => absurd z a1, fun _ => r_isOrder ok R1.1 qok R1.2.1 (fun v => absurd v.2 ho) (fun _ => ⟨fun _ => ⟨rfl, inv1 g1 R1⟩, fun z => absurd rfl z⟩)⟩⟩), fun z => absurd rfl z⟩)⟩⟩
  · rw [e] at b; exact absurd (nI_le (a := k) (b := 2) (by omega) (by omega)) b
/-! images -/
theorem PRep.cpy {m o w s d m' o' w' s' d' : Nat → Int32} {p : Pl} (h : PRep m o w s d p) : PRep (va_cpy m m' 0 0 4) (va_cpy o o' 0 0 4) (va_cpy w w' 0 0 4) (va_cpy s s' 0 0 5) (va_cpy d d' 0 0 5) p := by
  refine ⟨fun i hi => ?_, fun c hc => ?_⟩
  · rw [pk_cpy_in (by omega) (by omega), pk_cpy_in (by omega) (by omega), pk_cpy_in (by omega) (by omega), Nat.zero_add, Nat.sub_zero]
    exact h.1 i hi
  · rw [pk_cpy_in (by omega) (by omega), pk_cpy_in (by omega) (by omega), Nat.zero_add, Nat.sub_zero]
    exact h.2 c hc
theorem img_or : ∀ a, a < 2 → ∀ b, b < 2 → (nI (a + 2 * b) ||| ((1 : Int32) <<< (nI 0 &&& 31)) = nI (1 + 2 * b)) ∧ (nI (a + 2 * b) ||| ((1 : Int32) <<< (nI 1 &&& 31)) = nI (a + 2 * 1)) := by decide +kernel
theorem img_bit : ∀ a, a < 2 → ∀ b, b < 2 → (((nI (a + 2 * b) >>> (nI 0 &&& 31)) &&& 1) = nI a) ∧ (((nI (a + 2 * b) >>> (nI 1 &&& 31)) &&& 1) = nI b) := by decide +kernel
theorem R1.congr {h h' : Nat → Int32} {p : Pl} (a : R1 h p) (e : ∀ i, i < 18 → h' i = h i) : R1 h' p := by
  refine ⟨fun i hi => ?_, fun c hc => ?_⟩
  · rw [e i (by omega), e (4 + i) (by omega)]; exact a.1 i hi
  · rw [e (8 + c) (by omega), e (13 + c) (by omega)]; exact a.2 c hc
theorem mul18 (k i : Nat) : (18 : Int32) * nI k + nI i = nI (18 * k + i) := by rw [show (18 : Int32) = nI 18 from rfl, pk_mul, nI_add]
theorem r_image {g : Sg} {k : Nat} (hk : k < 2) {Q : Int32 → Sg → Prop} (h : ∀ g', Eqx [2, 3] g g' → (∀ i, i < 18 → g' 2 (18 * k + i) = g 1 i) → (∀ j, (j < 18 * k ∨ 18 * k + 18 ≤ j) → g' 2 j = g 2 j) → g' 3 = upd (g 3) k 1 → Q 1 g') : M_X10_image_0 g (nI k) Q := by
  unfold M_X10_image_0
  refine r_inN 2 (by omega) (by omega) rfl (fun i hi e => ⟨fun z => absurd z (by decide), fun _ => ?_⟩) (fun w => absurd rfl (w k hk))
  refine pk_loop (fun n i (s : Sg) => itr2 (B_X10_image_0_14 Q) n s (nI k) (nI i)) (fun i s => Eqx [2] g s ∧ (∀ j, j < i → s 2 (18 * k + j) = g 1 j) ∧ ∀ j, (j < 18 * k ∨ 18 * k + i ≤ j) → s 2 j = g 2 j) 18 0 g (Nat.zero_le _) ⟨Eqx.rf, fun j hj => absurd hj (Nat.not_lt_zero _), fun _ _ => rfl⟩ ?_ ?_
  · intro n s e
    obtain ⟨e1, e2, e3⟩ := e
    refine pk_le 18 18 (fun _ => ⟨pk_in k 2 hk, fun g6 e6 => ?_⟩) (fun z => absurd z (by omega))
    rw [pk_cl k] at e6
    subst e6
    refine h _ ((e1.mono (by decide)).up (by decide)) e2 e3 ?_
    show upd (s 3) k (vp_nar .boolean 1) = _
    rw [e1 3 (by decide)]; rfl
  · intro n i s hi e K
    obtain ⟨e1, e2, e3⟩ := e
    unfold itr2 B_X10_image_0_14
    rw [mul18, nI_1 i]
    refine pk_le 18 i (fun z => absurd z (by omega)) (fun _ => ⟨pk_in i 18 hi, pk_in (18 * k + i) 36 (by omega), fun g9 e9 => ?_⟩)
    rw [pk_cl (18 * k + i), pk_cl i] at e9
    subst e9
    refine K _ ⟨e1.up (by decide), fun j hj => ?_, fun j hj => ?_⟩
    · show upd (s 2) (18 * k + i) (s 1 i) (18 * k + j) = _
      rcases Nat.lt_or_ge j i with w | w
      · rw [pk_un (by omega)]; exact e2 j w
      · rw [Nat.le_antisymm (by omega) w, pk_us, e1 1 (by decide)]
    · show upd (s 2) (18 * k + i) (s 1 i) j = _
      rw [pk_un (by omega)]; exact e3 j (by omega)
theorem r_restore {g : Sg} {k : Nat} (hk : k < 2) {Q : Int32 → Sg → Prop} (h0 : g 3 k = 0 → Q (-3) g) (h : ¬ g 3 k = 0 → ∀ g', Eqx [1] g g' → (∀ i, i < 18 → g' 1 i = g 2 (18 * k + i)) → Q 1 g') : M_X10_restore_0 g (nI k) Q := by
  unfold M_X10_restore_0
  refine r_inN 2 (by omega) (by omega) rfl (fun i hi e => ⟨fun z => absurd z (by decide), fun _ => ⟨pk_in k 2 hk, ?_⟩⟩) (fun w => absurd rfl (w k hk))
  rw [pk_cl k]
  refine ⟨h0, fun z => ?_⟩
  have h := h z
  refine pk_loop (fun n i (s : Sg) => itr2 (B_X10_restore_0_26 Q) n s (nI k) (nI i)) (fun i s => Eqx [1] g s ∧ ∀ j, j < i → s 1 j = g 2 (18 * k + j)) 18 0 g (Nat.zero_le _) ⟨Eqx.rf, fun j hj => absurd hj (Nat.not_lt_zero _)⟩ ?_ ?_
  · intro n s e
    exact pk_le 18 18 (fun _ => h s e.1 e.2) (fun z => absurd z (by omega))
  · intro n i s hi e K
    obtain ⟨e1, e2⟩ := e
    unfold itr2 B_X10_restore_0_26
    rw [mul18, nI_1 i]
    refine pk_le 18 i (fun z => absurd z (by omega)) (fun _ => ⟨pk_in (18 * k + i) 36 (by omega), pk_in i 18 hi, fun g9 e9 => ?_⟩)
    rw [pk_cl i, pk_cl (18 * k + i)] at e9
    subst e9
    refine K _ ⟨e1.up (by decide), fun j hj => ?_⟩
    show upd (s 1) i (s 2 (18 * k + i)) j = _
    rcases Nat.lt_or_ge j i with w | w
    · rw [pk_un (by omega)]; exact e2 j w
    · rw [Nat.le_antisymm (by omega) w, pk_us, e1 2 (by decide)]
theorem CInv.img {f g : Sg} {p : Pl} {q : Pd} {i0 i1 j0 j1 : Option Pl} (h : CInv f p q i0 i1) (x : Eqx [0, 28, 29, 30, 31, 32, 34, 35, 36, 37, 38] f g) (hi : CIm g j0 j1) : CInv g p q j0 j1 := by
  obtain ⟨c1, c2, c3, c4, c5, c6, c7, c8⟩ := h
  exact ⟨c1.eqx x (by decide), c2.eqx (x 7 (by decide)) (x 8 (by decide)), hi, ⟨by rw [x 11 (by decide)]; exact c4.1, by rw [x 12 (by decide)]; exact c4.2.1, by rw [x 19 (by decide)]; exact c4.2.2⟩, c5.eqx (x 14 (by decide)) (x 15 (by decide)) (x 16 (by decide)) (x 17 (by decide)) (x 19 (by decide)), c6.eqx (x 20 (by decide)) (x 21 (by decide)), c7.eqx (x 22 (by decide)) (x 23 (by decide)), c8.eqx (x 24 (by decide)) (x 25 (by decide)) (x 7 (by decide)) (x 8 (by decide))⟩
theorem refBadI {g : Sg} {x1 : Int32} {Q : Int32 → Sg → Prop} (w : ∀ c, c < 2 → x1 ≠ nI c) (h : Q (-2) g) : M_X10_image_0 g x1 Q := by
  unfold M_X10_image_0
  exact r_inN 2 (by omega) (by omega) rfl (fun k hk e => absurd e (w k hk)) (fun _ => ⟨fun _ => h, fun z => absurd rfl z⟩)
theorem refBadR {g : Sg} {x1 : Int32} {Q : Int32 → Sg → Prop} (w : ∀ c, c < 2 → x1 ≠ nI c) (h : Q (-2) g) : M_X10_restore_0 g x1 Q := by
  unfold M_X10_restore_0
  exact r_inN 2 (by omega) (by omega) rfl (fun k hk e => absurd e (w k hk)) (fun _ => ⟨fun _ => h, fun z => absurd rfl z⟩)
theorem st_image {f g : Sg} (I : Inv f g) (x1 : Int32) : M_X9_image_0 f x1 (fun r f' => M_X10_image_0 g x1 (fun r' g' => r = r' ∧ Inv f' g')) := by
  have J := I
  obtain ⟨p, q, i0, i1, ok, qok, ok0, ok1, C, R⟩ := I
  have hi := C.2.2.1
  unfold M_X9_image_0
  refine w_isImage (fun k hk e => ⟨fun z => absurd z (by decide), fun _ => ?_⟩) (fun w => ⟨fun _ => refBadI w (same J), fun z => absurd rfl z⟩)
  subst e
  obtain ⟨o0, o1⟩ := img_or (bi i0.isSome) (bi_lt2 _) (bi i1.isSome) (bi_lt2 _)
  rcases (show k = 0 ∨ k = 1 by omega) with rfl | rfl
  · refine ⟨fun _ g1 e1 g2 e2 g3 e3 g4 e4 g5 e5 g7 e7 => ?_, fun z => absurd rfl z⟩
    subst e1 e2 e3 e4 e5
    have f0 : g7 0 10 = nI (bi (some p : Option Pl).isSome + 2 * bi i1.isSome) := by
      rw [e7]
      show f 0 10 ||| ((1 : Int32) <<< (nI 0 &&& 31)) = _
      rw [hi.1, o0]; rfl
    have x7 : Eqx [0, 28, 29, 30, 31, 32, 34, 35, 36, 37, 38] f g7 := by
      rw [e7]
      exact (((((Eqx.rf.up (by decide)).up (by decide)).up (by decide)).up (by decide)).up (by decide)).up (by decide)
    refine r_image (k := 0) (by omega) (fun g' x a b c => ⟨rfl, p, q, some p, i1, ok, qok, fun p' h => by cases h; exact ok, ok1, C.img x7 ⟨f0, fun p' h => ?_, fun p' h => ?_⟩, by rw [x 1 (by decide)]; exact R.1, R.2.1.eqx (by rw [x 0 (by decide)]) (x 4 (by decide)), ⟨by rw [c]; rfl, by rw [c]; exact R.2.2.1.2⟩, fun p' h => ?_, fun p' h => ?_⟩)
    · cases h
      rw [e7]
      exact C.1.cpy
    · rw [e7]
      exact hi.2.2 p' h
    · cases h
      exact R.1.congr (fun i hi => by have := a i hi; simpa using this)
    · exact (R.2.2.2.2 p' h).congr (fun i hi => b _ (by omega))
  · refine ⟨fun z => absurd z (by decide), fun _ g1 e1 g2 e2 g3 e3 g4 e4 g5 e5 g7 e7 => ?_⟩
    subst e1 e2 e3 e4 e5
    have f0 : g7 0 10 = nI (bi i0.isSome + 2 * bi (some p : Option Pl).isSome) := by
      rw [e7]
      show f 0 10 ||| ((1 : Int32) <<< (nI 1 &&& 31)) = _
      rw [hi.1, o1]; rfl
    have x7 : Eqx [0, 28, 29, 30, 31, 32, 34, 35, 36, 37, 38] f g7 := by
      rw [e7]
      exact (((((Eqx.rf.up (by decide)).up (by decide)).up (by decide)).up (by decide)).up (by decide)).up (by decide)
    refine r_image (k := 1) (by omega) (fun g' x a b c => ⟨rfl, p, q, i0, some p, ok, qok, ok0, fun p' h => by cases h; exact ok, C.img x7 ⟨f0, fun p' h => ?_, fun p' h => ?_⟩, by rw [x 1 (by decide)]; exact R.1, R.2.1.eqx (by rw [x 0 (by decide)]) (x 4 (by decide)), ⟨by rw [c]; exact R.2.2.1.1, by rw [c]; rfl⟩, fun p' h => ?_, fun p' h => ?_⟩)
    · rw [e7]
      exact hi.2.1 p' h
    · cases h
      rw [e7]
      exact C.1.cpy
    · exact (R.2.2.2.1 p' h).congr (fun i hi => b _ (by omega))
    · cases h
      exact R.1.congr (fun i hi => a i hi)
theorem nI_bi0 (b : Bool) : nI (bi b) = 0 ↔ b = false := by cases b <;> decide
theorem st_restore {f g : Sg} (I : Inv f g) (x1 : Int32) : M_X9_restore_0 f x1 (fun r f' => M_X10_restore_0 g x1 (fun r' g' => r = r' ∧ Inv f' g')) := by
  have J := I
  obtain ⟨p, q, i0, i1, ok, qok, ok0, ok1, C, R⟩ := I
  have hi := C.2.2.1
  unfold M_X9_restore_0
  refine w_isImage (fun k hk e => ⟨fun z => absurd z (by decide), fun _ => ?_⟩) (fun w => ⟨fun _ => refBadR w (same J), fun z => absurd rfl z⟩)
  subst e
  obtain ⟨b0, b1⟩ := img_bit (bi i0.isSome) (bi_lt2 _) (bi i1.isSome) (bi_lt2 _)
  rw [hi.1]
  rcases (show k = 0 ∨ k = 1 by omega) with rfl | rfl
  · rw [b0, nI_bi0]
    have g0 := R.2.2.1.1
    refine ⟨fun z => r_restore (k := 0) (by omega) (fun _ => same J) (fun w => absurd (by rw [g0, z]; rfl) w), fun z => ⟨fun _ g1 e1 g2 e2 g3 e3 g4 e4 g5 e5 => ?_, fun w => absurd rfl w⟩⟩
    cases hi0 : i0 with
    | none => rw [hi0] at z; exact absurd rfl z
    | some p' =>
      subst e1 e2 e3 e4 e5
      refine w_forget (fun g13 x13 a1 a2 a3 a4 => r_restore (k := 0) (by omega) (fun w => absurd w (by rw [g0, hi0]; show ¬ (nI 1 = 0); decide)) (fun _ g' x a => ?_))
      have hp' := hi.2.1 p' hi0
      refine ⟨rfl, p', q, i0, i1, ok0 p' hi0, qok, ok0, ok1, C.plan ((((((Eqx.rf.up (by decide)).up (by decide)).up (by decide)).up (by decide)).up (by decide)).tr (x13.mono (by decide))) (P1.eqx (f := va_up (va_up (va_up (va_up (va_up f 2 _) 3 _) 4 _) 5 _) 6 _) hp'.cpy x13 (by decide)) a1 a2 a3 a4, (R.2.2.2.1 p' hi0).congr (fun i hi => by have := a i hi; simpa using this), R.2.1.eqx (by rw [x 0 (by decide)]) (x 4 (by decide)), by rw [x 3 (by decide)]; exact R.2.2.1, by rw [x 2 (by decide)]; exact R.2.2.2.1, by rw [x 2 (by decide)]; exact R.2.2.2.2⟩
  · rw [b1, nI_bi0]
    have g0 := R.2.2.1.2
    refine ⟨fun z => r_restore (k := 1) (by omega) (fun _ => same J) (fun w => absurd (by rw [g0, z]; rfl) w), fun z => ⟨fun w => absurd w (by decide), fun _ g1 e1 g2 e2 g3 e3 g4 e4 g5 e5 => ?_⟩⟩
    cases hi1 : i1 with
    | none => rw [hi1] at z; exact absurd rfl z
    | some p' =>
      subst e1 e2 e3 e4 e5
      refine w_forget (fun g13 x13 a1 a2 a3 a4 => r_restore (k := 1) (by omega) (fun w => absurd w (by rw [g0, hi1]; show ¬ (nI 1 = 0); decide)) (fun _ g' x a => ?_))
      have hp' := hi.2.2 p' hi1
      refine ⟨rfl, p', q, i0, i1, ok1 p' hi1, qok, ok0, ok1, C.plan ((((((Eqx.rf.up (by decide)).up (by decide)).up (by decide)).up (by decide)).up (by decide)).tr (x13.mono (by decide))) (P1.eqx (f := va_up (va_up (va_up (va_up (va_up f 2 _) 3 _) 4 _) 5 _) 6 _) hp'.cpy x13 (by decide)) a1 a2 a3 a4, (R.2.2.2.2 p' hi1).congr (fun i hi => a i hi), R.2.1.eqx (by rw [x 0 (by decide)]) (x 4 (by decide)), by rw [x 3 (by decide)]; exact R.2.2.1, by rw [x 2 (by decide)]; exact R.2.2.2.1, by rw [x 2 (by decide)]; exact R.2.2.2.2⟩
/-! count -/
def cwd (p : Pl) : Nat := sm (fun c => if 0 < pDm p c then 1 else 0) 5
theorem w_cwd {f : Sg} {p : Pl} (ok : POk p) (hp : P1 f p) {Q : Int32 → Sg → Prop} (h : Q (nI (cwd p)) f) : M_X5_classesWithDemand_1 f Q := by
  refine pk_loop (fun n i (s : Int32) => itr2 (B_X5_classesWithDemand_1_4 Q) n f s (nI i)) (fun i s => s = nI (sm (fun c => if 0 < pDm p c then 1 else 0) i)) 5 0 0 (Nat.zero_le _) rfl ?_ ?_
  · intro n s e
    exact pk_le 5 5 (fun _ => by rw [e]; exact h) (fun q => absurd q (by omega))
  · intro n i s hi e K
    have hd := ok.dm hi
    unfold itr2 B_X5_classesWithDemand_1_4 J_X5_classesWithDemand_1_21
    rw [nI_1 i]
    refine pk_le 5 i (fun q => absurd q (by omega)) (fun _ => ⟨pk_in i 5 hi, ?_⟩)
    rw [pk_cl i, (hp.2 i hi).2]
    refine pk_le _ 0 (fun z => K s ?_) (fun z => K _ ?_) rfl rfl
    · rw [sm_succ, if_neg (by omega), e]; rfl
    · rw [sm_succ, if_pos (by omega), e, nI_1]
theorem r_cwd {f : Sg} {p : Pl} (ok : POk p) (hp : R1 (f 1) p) {Q : Int32 → Sg → Prop} (h : Q (nI (cwd p)) f) : M_X10_demanded_0 f Q := by
  refine pk_loop (fun n i (s : Int32) => itr2 (B_X10_demanded_0_4 Q) n f s (nI i)) (fun i s => s = nI (sm (fun c => if 0 < pDm p c then 1 else 0) i)) 5 0 0 (Nat.zero_le _) rfl ?_ ?_
  · intro n s e
    exact pk_le 5 5 (fun _ => by rw [e]; exact h) (fun q => absurd q (by omega))
  · intro n i s hi e K
    have hd := ok.dm hi
    unfold itr2 B_X10_demanded_0_4 J_X10_demanded_0_27
    rw [ad13 i, nI_1 i]
    refine pk_le 5 i (fun q => absurd q (by omega)) (fun _ => ⟨pk_in (13 + i) 18 (by omega), ?_⟩)
    rw [pk_cl (13 + i), (hp.2 i hi).2]
    refine pk_le _ 0 (fun z z4 e4 => K z4 ?_) (fun z z4 e4 => K z4 ?_) rfl rfl
    · rw [sm_succ, if_neg (by omega), e4, e, show (0 : Int32) = nI 0 from rfl, nI_add]
    · rw [sm_succ, if_pos (by omega), e4, e, nI_1]
theorem st_count {f g : Sg} (I : Inv f g) (x1 : Int32) : M_X9_count_0 f x1 (fun r f' => M_X10_count_0 g x1 (fun r' g' => r = r' ∧ Inv f' g')) := by
  have J := I
  obtain ⟨p, q, i0, i1, ok, qok, ok0, ok1, C, R⟩ := I
  have ref : ∀ (Q : Int32 → Sg → Prop), (x1 = 0 → Q (nI (tot p)) g) → (x1 = 1 → Q (nI (cwd p)) g) → (x1 = 2 → Q (nI q.length) g) → (x1 = 3 → (ordP p q → Q 1 g) ∧ (¬ ordP p q → Q 0 g)) → (x1 = 4 → Q (nI (bi i0.isSome + 2 * bi i1.isSome)) g) → (¬ x1 = 0 → ¬ x1 = 1 → ¬ x1 = 2 → ¬ x1 = 3 → ¬ x1 = 4 → Q (-2) g) → M_X10_count_0 g x1 Q := by
    intro Q q0 q1 q2 q3 q4 q5
    unfold M_X10_count_0 J_X10_count_0_63 J_X10_count_0_78 J_X10_count_0_92
    refine ⟨fun a => r_cars R.1 (q0 a), fun a => ⟨fun b => r_cwd ok R.1 (q1 b), fun b => ⟨fun c => by rw [R.2.1.1]; exact q2 c, fun c => ⟨fun d => r_isOrder ok R.1 qok R.2.1 (fun w => ⟨fun z => absurd z (by decide), fun _ => (q3 d).1 w⟩) (fun w => ⟨fun _ => (q3 d).2 w, fun z => absurd rfl z⟩), fun d => ⟨fun e => ?_, fun e => q5 a b c d e⟩⟩⟩⟩⟩
    have h := q4 e
    refine ⟨pk_in 0 2 (by omega), ?_⟩
    rw [show (0 : Int32).toNatClampNeg = 0 from rfl, show (1 : Int32).toNatClampNeg = 1 from rfl, R.2.2.1.1, R.2.2.1.2, nI_bi0, nI_bi0]
    cases hb0 : i0.isSome <;> cases hb1 : i1.isSome <;> rw [hb0, hb1] at h
    · exact ⟨fun _ => ⟨pk_in 1 2 (by omega), fun _ => h, fun z => absurd rfl z⟩, fun z => absurd rfl z⟩
    · exact ⟨fun _ => ⟨pk_in 1 2 (by omega), fun z => absurd z (by decide), fun _ => h⟩, fun z => absurd rfl z⟩
    · exact ⟨fun z => absurd z (by decide), fun _ => ⟨pk_in 1 2 (by omega), fun _ => h, fun z => absurd rfl z⟩⟩
    · exact ⟨fun z => absurd z (by decide), fun _ => ⟨pk_in 1 2 (by omega), fun z => absurd z (by decide), fun _ => h⟩⟩
  have no : ∀ (x y : Int32) (P : Prop), x1 = x → x ≠ y → x1 = y → P := fun x y P a b c => absurd (a.symm.trans c) b
  unfold M_X9_count_0 J_X9_count_0_72
  refine ⟨fun a => w_cars C.1 (ref _ (fun _ => same J) (no 0 1 _ a (by decide)) (no 0 2 _ a (by decide)) (no 0 3 _ a (by decide)) (no 0 4 _ a (by decide)) (fun z => absurd a z)), fun a => ⟨fun b => w_cwd ok C.1 (ref _ (fun z => absurd z a) (fun _ => same J) (no 1 2 _ b (by decide)) (no 1 3 _ b (by decide)) (no 1 4 _ b (by decide)) (fun _ z => absurd b z)), fun b => ⟨fun c => ?_, fun c => ⟨fun d => ?_, fun d => ⟨fun e => ?_, fun e => ref _ (fun z => absurd z a) (fun z => absurd z b) (fun z => absurd z c) (fun z => absurd z d) (fun z => absurd z e) (fun _ _ _ _ _ => same J)⟩⟩⟩⟩⟩
  · rw [C.2.1.1]
    exact ref _ (fun z => absurd z a) (fun z => absurd z b) (fun _ => same J) (no 2 3 _ c (by decide)) (no 2 4 _ c (by decide)) (fun _ _ z => absurd c z)
  · have h9 := qok.1
    have hlen := cl_len q
    have ref3 : ∀ (Q : Int32 → Sg → Prop), (ordP p q → Q 1 g) → (¬ ordP p q → Q 0 g) → M_X10_count_0 g x1 Q := fun Q w1 w0 => ref Q (fun z => absurd z a) (fun z => absurd z b) (fun z => absurd z c) (fun _ => ⟨w1, w0⟩) (no 3 4 _ d (by decide)) (fun _ _ _ z => absurd d z)
    unfold M_X9_padIsOrder_0
    refine w_hasAny qok C.2.1 (fun w => ⟨fun z => absurd z (by decide), fun _ => ⟨fun _ => ref3 _ (fun v => absurd w v.1) (fun _ => same J), fun z => absurd rfl z⟩⟩) (fun w => ⟨fun _ => w_walkPad ok qok C.1 C.2.1 w C.2.2.2.1.1 C.2.2.2.1.2.1 (fun f1 x rr => ?_), fun z => absurd rfl z⟩)
    have J1 : Inv f1 g := ⟨p, q, i0, i1, ok, qok, ok0, ok1, C.row (x.mono (by decide)) (rr.2.2.1 0 (Nat.zero_le _)) (rr.2.2.2.1 0 (Nat.zero_le _)), R⟩
    exact w_isOrder ok rr (by omega) (fun ho => ⟨rfl, fun z => absurd z (by decide), fun _ => ref3 _ (fun _ => same J1) (fun v => absurd ⟨w, ho⟩ v)⟩) (fun ho => ⟨rfl, fun _ => ref3 _ (fun v => absurd v.2 ho) (fun _ => same J1), fun z => absurd rfl z⟩)
  · rw [C.2.2.1.1]
    exact ref _ (fun z => absurd z a) (fun z => absurd z b) (fun z => absurd z c) (fun z => absurd z d) (fun _ => same J) (fun _ _ _ _ z => absurd e z)
