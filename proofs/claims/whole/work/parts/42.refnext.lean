/-! the reference goes through the orders -/
def Fld (S : List Nat) (f g : Sg) : Prop := ∀ j, j ∉ S → g 0 j = f 0 j
theorem Fld.rf {S : List Nat} {f : Sg} : Fld S f f := fun _ _ => rfl
theorem Fld.tr {S : List Nat} {f g h : Sg} (a : Fld S f g) (b : Fld S g h) : Fld S f h := fun k hk => (b k hk).trans (a k hk)
theorem Fld.mono {S T : List Nat} {f g : Sg} (a : Fld S f g) (h : ∀ k, k ∈ S → k ∈ T) : Fld T f g := fun k hk => a k (fun q => hk (h k q))
theorem Fld.up0 {S : List Nat} {f g : Sg} {j : Nat} {x : Int32} (a : Fld S f g) (hj : j ∈ S) : Fld S f (va_up g 0 (upd (g 0) j x)) := fun i hi => by
  have : i ≠ j := fun e => hi (e ▸ hj)
  show upd (g 0) j x i = _
  rw [pk_un this]; exact a i hi
theorem Fld.upk {S : List Nat} {f g : Sg} {k : Nat} {h : Nat → Int32} (a : Fld S f g) (hk : k ≠ 0) : Fld S f (va_up g k h) := fun i hi => by
  rw [show va_up g k h 0 = g 0 from if_neg (fun e => hk e.symm)]; exact a i hi
theorem dsr_len (d : Nat → Nat) : ∀ k, (dsr d 0 k).length = sm d k := by
  intro k
  induction k with
  | zero => rfl
  | succ k ih =>
    show (List.replicate (d (0 + k)) (0 + k) ++ dsr d 0 k).length = _
    rw [List.length_append, List.length_replicate, ih, sm_succ, Nat.zero_add, Nat.add_comm]
theorem getD_app {u v : List Nat} {i : Nat} : (u ++ v).getD i 0 = if i < u.length then u.getD i 0 else v.getD (i - u.length) 0 := by
  split
  · rename_i h; exact getD_left h
  · rename_i h
    simp [List.getD, List.getElem?_append_right (Nat.not_lt.mp h)]
theorem getD_rev {v : List Nat} {i : Nat} (h : i < v.length) : v.reverse.getD i 0 = v.getD (v.length - 1 - i) 0 := by
  simp [List.getD, List.getElem?_reverse h]
theorem RowF.app {h : Nat → Int32} {l : List Nat} {c : Nat} (hl : RowF h l) : RowF (upd h l.length (nI c)) (l ++ [c]) := by
  intro i hi
  rw [List.length_append, List.length_singleton] at hi
  rcases Nat.lt_or_ge i l.length with q | q
  · rw [pk_un (by omega), getD_app1 q]; exact hl i q
  · rw [Nat.le_antisymm (by omega) q, pk_us, getD_app2]
theorem r_firstOrder {f : Sg} {p : Pl} (ok : POk p) (hp : R1 (f 1) p) {Q : Sg → Prop} (h : ∀ g, Eqx [0, 5] f g → Fld [6] f g → RR g (dsr (pDm p) 0 5).reverse → Q g) : M_X10_firstOrder_0 f Q := by
  have ht := ok.2.2
  intro g1 e1
  subst e1
  refine pk_loop (fun n c (sg : Sg) => itr1 (B_X10_firstOrder_0_7 Q) n sg (nI c)) (fun c sg => Eqx [0, 5] f sg ∧ Fld [6] f sg ∧ RR sg (dsr (pDm p) 0 c).reverse) 5 0 _ (Nat.zero_le _) ⟨Eqx.rf.up (by decide), Fld.rf.up0 (by decide), rfl, fun i hi => absurd hi (Nat.not_lt_zero _)⟩ ?_ ?_
  · intro n sg e
    exact pk_le 5 5 (fun _ => h sg e.1 e.2.1 e.2.2) (fun q => absurd q (by omega))
  · intro n c sg hc e K
    obtain ⟨e1, e2, e3⟩ := e
    refine pk_le 5 c (fun q => absurd q (by omega)) (fun _ => ?_)
    have hlen : (dsr (pDm p) 0 c).reverse.length = sm (pDm p) c := by rw [List.length_reverse, dsr_len]
    have hsm := sm_mono (pDm p) (m := c + 1) (n := 5) hc
    rw [sm_succ] at hsm
    have htot : sm (pDm p) 5 = tot p := rfl
    refine pk_loop (fun m k (s : Sg) => itr2 (B_X10_firstOrder_0_14 Q (itr1 (B_X10_firstOrder_0_7 Q) n)) m s (nI c) (nI k)) (fun k s => Eqx [0, 5] f s ∧ Fld [6] f s ∧ RR s ((dsr (pDm p) 0 c).reverse ++ List.replicate k c)) (pDm p c) 0 sg (Nat.zero_le _) ⟨e1, e2, by rw [List.replicate_zero, List.append_nil]; exact e3⟩ ?_ ?_
    · intro m s e
      obtain ⟨a1, a2, a3⟩ := e
      unfold itr2 B_X10_firstOrder_0_14
      rw [ad13 c, nI_1 c]
      refine ⟨pk_in (13 + c) 18 (by omega), ?_⟩
      rw [pk_cl (13 + c), a1 1 (by decide), (hp.2 c hc).2]
      refine pk_le _ _ (fun _ => K s ⟨a1, a2, ?_⟩) (fun q => absurd q (by omega)) rfl rfl
      show RR s (List.replicate (pDm p (0 + c)) (0 + c) ++ dsr (pDm p) 0 c).reverse
      rw [List.reverse_append, List.reverse_replicate, Nat.zero_add]
      exact a3
    · intro m k s hk e K2
      obtain ⟨a1, a2, a3⟩ := e
      unfold itr2 B_X10_firstOrder_0_14
      rw [ad13 c, nI_1 k]
      refine ⟨pk_in (13 + c) 18 (by omega), ?_⟩
      rw [pk_cl (13 + c), a1 1 (by decide), (hp.2 c hc).2]
      have hl2 : ((dsr (pDm p) 0 c).reverse ++ List.replicate k c).length = sm (pDm p) c + k := by rw [List.length_append, List.length_replicate, hlen]
      rw [a3.1]
      have hdm := ok.dm hc
      refine pk_le _ _ (fun q => absurd q (by omega)) (fun _ => ⟨pk_in _ 9 (show ((dsr (pDm p) 0 c).reverse ++ List.replicate k c).length < 9 by omega), fun g6 e6 g7 e7 => ?_⟩) rfl rfl
      rw [pk_cl ((dsr (pDm p) 0 c).reverse ++ List.replicate k c).length rfl (by omega)] at e6
      subst e6 e7
      refine K2 _ ⟨(a1.up (by decide)).up (by decide), (a2.upk (by decide)).up0 (by decide), ?_, ?_⟩
      · show s 0 6 + 1 = _
        rw [a3.1, nI_1, List.replicate_succ', ← List.append_assoc, List.length_append (bs := [c])]; rfl
      · rw [List.replicate_succ', ← List.append_assoc]
        exact a3.2.app
/-- the next order: as the code goes -/
theorem r_swap {f : Sg} {i j : Nat} (hi : i < 9) (hj : j < 9) {Q : Sg → Prop} (h : Q (va_up f 5 (upd (upd (f 5) i (f 5 j)) j (f 5 i)))) : M_X10_swap_0 f (nI i) (nI j) Q := by
  unfold M_X10_swap_0
  refine ⟨pk_in i 9 hi, fun z2 e2 => ⟨pk_in j 9 hj, pk_in i 9 hi, fun g5 e5 => ⟨pk_in j 9 hj, fun g7 e7 => ?_⟩⟩⟩
  rw [pk_cl i] at e2
  rw [pk_cl i, pk_cl j] at e5
  rw [pk_cl j] at e7
  subst e2 e5 e7
  have : va_up (va_up f 5 (upd (f 5) i (f 5 j))) 5 (upd (va_up f 5 (upd (f 5) i (f 5 j)) 5) j (f 5 i)) = va_up f 5 (upd (upd (f 5) i (f 5 j)) j (f 5 i)) := by
    funext k
    by_cases q : k = 5
    · subst q; rfl
    · show (if k = 5 then _ else va_up f 5 _ k) = (if k = 5 then _ else f k)
      rw [if_neg q, if_neg q]
      exact if_neg q
  rw [this]
  exact h
theorem ninc_get {w : List Nat} (h : nInc w) {i j : Nat} (hij : i < j) (hj : j < w.length) : w.getD j 0 ≤ w.getD i 0 := by
  have := List.pairwise_iff_getElem.mp h i j (by omega) hj hij
  rw [show w.getD j 0 = w[j] by simp [List.getD, hj], show w.getD i 0 = w[i]'(by omega) by simp [List.getD, show i < w.length by omega]]
  exact this
theorem iI_sub2 (m : Nat) : nI m - 2 = iI ((m : Int) - 2) := by
  rw [iI_nI, show (2 : Int32) = iI 2 from rfl, iI_sub]
theorem iI_neg {z : Int} (h1 : -100 ≤ z) (h2 : z < 0) : iI z < 0 := by
  rw [Int32.lt_iff_toInt_lt, iI_toInt (by omega) (by omega)]; exact h2
theorem r_nextNo {f : Sg} {l : List Nat} (h9 : l.length ≤ 9) (hcl : Cls l) (hr : RR f l) (hn : nInc l) {Q : Int32 → Sg → Prop} (h : Q 0 f) : M_X10_nextOrder_0 f Q := by
  intro z1 e1
  rw [hr.1, iI_sub2] at e1
  have fin : ∀ z : Int, -100 ≤ z → z < 0 → ∃ n, itr1 (B_X10_nextOrder_0_7 Q) n f (iI z) := by
    intro z a b
    refine ⟨1, ?_⟩
    show B_X10_nextOrder_0_7 Q _ f (iI z)
    unfold B_X10_nextOrder_0_7 J_X10_nextOrder_0_34
    have := iI_neg a b
    exact ⟨fun _ => ⟨fun q => absurd q (Int32.not_le.mpr this), fun _ => h⟩, fun q => absurd this q⟩
  have key : ∀ t, t + 1 ≤ l.length → ∃ n, itr1 (B_X10_nextOrder_0_7 Q) n f (iI ((t : Int) - 1)) := by
    intro t
    induction t with
    | zero => intro _; exact fin _ (by omega) (by omega)
    | succ t ih =>
      intro ht
      obtain ⟨n, hn'⟩ := ih (by omega)
      refine ⟨n + 1, ?_⟩
      show B_X10_nextOrder_0_7 Q _ f _
      have e : iI (((t + 1 : Nat) : Int) - 1) = nI t := by rw [iI_nI]; congr 1; omega
      rw [e]
      unfold B_X10_nextOrder_0_7
      refine ⟨fun q => absurd q (nI_pos (by omega)), fun _ => ⟨pk_in t 9 (by omega), ?_⟩⟩
      rw [nI_1 t]
      refine ⟨pk_in (t + 1) 9 (by omega), ?_⟩
      rw [pk_cl t, pk_cl (t + 1), hr.2 t (by omega), hr.2 (t + 1) (by omega)]
      have := ninc_get hn (i := t) (j := t + 1) (by omega) (by omega)
      have c1 := hcl t (by omega)
      refine pk_lt _ _ (fun q => absurd q (by omega)) (fun _ => ?_) rfl rfl (by omega) (by omega)
      rw [show nI t + (-1) = iI ((t : Int) - 1) by rw [iI_nI, show (-1 : Int32) = iI (-1) from rfl, iI_add]; rfl]
      exact hn'
  rw [e1]
  rcases Nat.lt_or_ge l.length 1 with q | q
  · exact fin _ (by omega) (by omega)
  · obtain ⟨n, hn'⟩ := key (l.length - 1) (by omega)
    refine ⟨n, ?_⟩
    rw [show ((l.length : Int) - 2) = ((l.length - 1 : Nat) : Int) - 1 by omega]
    exact hn'
theorem r_reverse {f : Sg} {s0 L : Nat} {w : Nat → Int32} (h9 : s0 + L ≤ 9) (hw : ∀ i, i < L → f 5 (s0 + i) = w i) {Q : Int32 → Sg → Prop}
    (h : ∀ g, Eqx [5] f g → (∀ i, i < s0 → g 5 i = f 5 i) → (∀ i, i < L → g 5 (s0 + i) = w (L - 1 - i)) → Q 1 g) : ∃ n, itr2 (B_X10_nextOrder_0_86 Q) n f (nI s0) (iI ((s0 : Int) + L - 1)) := by
  have key : ∀ (j s : Nat) (sg : Sg), L ≤ 2 * s + j → 2 * s ≤ L + 1 → Eqx [5] f sg → (∀ i, i < s0 → sg 5 i = f 5 i) → (∀ i, i < L → sg 5 (s0 + i) = if i < s ∨ L - s ≤ i then w (L - 1 - i) else w i) → ∃ n, itr2 (B_X10_nextOrder_0_86 Q) n sg (nI (s0 + s)) (iI ((s0 : Int) + L - 1 - s)) := by
    intro j
    induction j with
    | zero =>
      intro s sg h1 h2 h3 h4 h5
      refine ⟨1, ?_⟩
      show B_X10_nextOrder_0_86 Q _ sg _ _
      unfold B_X10_nextOrder_0_86
      rw [iI_nI, iI_le (by omega) (by omega) (by omega) (by omega)]
      refine ⟨fun _ => h sg h3 h4 (fun i hi => ?_), fun q => absurd (by omega) q⟩
      rw [h5 i hi]
      split
      · rfl
      · rename_i q; exact absurd (by omega) q
    | succ j ih =>
      intro s sg h1 h2 h3 h4 h5
      by_cases hlow : L ≤ 2 * s + 1
      · refine ⟨1, ?_⟩
        show B_X10_nextOrder_0_86 Q _ sg _ _
        unfold B_X10_nextOrder_0_86
        rw [iI_nI, iI_le (by omega) (by omega) (by omega) (by omega)]
        refine ⟨fun _ => h sg h3 h4 (fun i hi => ?_), fun q => absurd (by omega) q⟩
        rw [h5 i hi]
        split
        · rfl
        · congr 1; omega
      · have ehi : iI ((s0 : Int) + L - 1 - s) = nI (s0 + (L - 1 - s)) := by rw [iI_nI]; congr 1; omega
        obtain ⟨n, hn⟩ := ih (s + 1) (va_up sg 5 (upd (upd (sg 5) (s0 + s) (sg 5 (s0 + (L - 1 - s)))) (s0 + (L - 1 - s)) (sg 5 (s0 + s)))) (by omega) (by omega) (h3.up (by decide)) (fun i hi => by
            show upd (upd (sg 5) _ _) _ _ i = _
            rw [pk_un (by omega), pk_un (by omega)]; exact h4 i hi) (fun i hi => by
            show upd (upd (sg 5) _ _) _ _ (s0 + i) = _
            by_cases q1 : i = L - 1 - s
            · rw [q1, pk_us, h5 s (by omega), if_neg (by omega), if_pos (by omega)]; congr 1; omega
            · rw [pk_un (by omega)]
              by_cases q2 : i = s
              · rw [q2, pk_us, h5 (L - 1 - s) (by omega), if_neg (by omega), if_pos (by omega)]
              · rw [pk_un (by omega), h5 i hi]
                by_cases q3 : i < s ∨ L - s ≤ i
                · rw [if_pos q3, if_pos (by omega)]
                · rw [if_neg q3, if_neg (by omega)])
        refine ⟨n + 1, ?_⟩
        show B_X10_nextOrder_0_86 Q _ sg _ _
        unfold B_X10_nextOrder_0_86
        rw [ehi]
        refine pk_le _ _ (fun q => absurd q (by omega)) (fun _ => r_swap (by omega) (by omega) ?_) rfl rfl
        have e2 : nI (s0 + (L - 1 - s)) + (-1) = iI ((s0 : Int) + L - 1 - (s + 1 : Nat)) := by
          rw [iI_nI, show (-1 : Int32) = iI (-1) from rfl, iI_add]; congr 1; omega
        rw [e2, nI_1]
        exact hn
  have := key L 0 f (by omega) (by omega) Eqx.rf (fun _ _ => rfl) (fun i hi => by rw [hw i hi, if_neg (by omega)])
  simpa using this
theorem r_nextYes {f : Sg} {l l' : List Nat} (h9 : l.length ≤ 9) (hcl : Cls l) (hr : RR f l) (hn : Nx l l') {Q : Int32 → Sg → Prop} (h : ∀ g, Eqx [5] f g → RR g l' → Q 1 g) : M_X10_nextOrder_0 f Q := by
  obtain ⟨u, a, X, b, Y, h1, h2, h3, h4, h5⟩ := hn
  obtain ⟨w, ew⟩ : ∃ w, w = X ++ b :: Y := ⟨_, rfl⟩
  rw [← ew] at h1 h2
  have hlw : w.length = X.length + 1 + Y.length := by rw [ew, List.length_append, List.length_cons]; omega
  have hll : l.length = u.length + 1 + w.length := by rw [h1, List.length_append, List.length_cons]; omega
  have gu : ∀ i, i < u.length → l.getD i 0 = u.getD i 0 := fun i hi => by rw [h1]; exact getD_left hi
  have ga : l.getD u.length 0 = a := by rw [h1, getD_app, if_neg (Nat.lt_irrefl _), Nat.sub_self]; rfl
  have gw : ∀ i, l.getD (u.length + 1 + i) 0 = w.getD i 0 := fun i => by
    rw [h1, getD_app, if_neg (by omega), show u.length + 1 + i - u.length = i + 1 by omega]; rfl
  have gX : ∀ i, i < X.length → w.getD i 0 = X.getD i 0 := fun i hi => by rw [ew]; exact getD_left hi
  have gb : w.getD X.length 0 = b := by rw [ew, getD_app, if_neg (Nat.lt_irrefl _), Nat.sub_self]; rfl
  have gY : ∀ i, w.getD (X.length + 1 + i) 0 = Y.getD i 0 := fun i => by
    rw [ew, getD_app, if_neg (by omega), show X.length + 1 + i - X.length = i + 1 by omega]; rfl
  have ha5 : a < 5 := by have := hcl u.length (by omega); rw [ga] at this; exact this
  have hb5 : b < 5 := by have := hcl (u.length + 1 + X.length) (by omega); rw [gw, gb] at this; exact this
  intro z1 e1
  rw [hr.1, iI_sub2] at e1
  -- behind the swap: the end of the row is turned round
  have third : M_X10_swap_0 f (nI u.length) (nI (u.length + 1 + X.length)) (fun g8 => ∀ z10 : Int32, z10 = nI u.length + 1 → ∀ z11 : Int32, z11 = g8 0 6 - 1 → ∃ n : Nat, itr2 (B_X10_nextOrder_0_86 Q) n g8 z10 z11) := by
    refine r_swap (by omega) (by omega) (fun z10 e10 z11 e11 => ?_)
    have e11' : z11 = iI (((u.length + 1 : Nat) : Int) + w.length - 1) := by
      rw [e11]
      show f 0 6 - 1 = _
      rw [hr.1, iI_nI, show (1 : Int32) = iI 1 from rfl, iI_sub]; congr 1; omega
    rw [e10, nI_1, e11']
    have r1 : f 5 u.length = nI a := by rw [hr.2 _ (by omega), ga]
    have r2 : f 5 (u.length + 1 + X.length) = nI b := by rw [hr.2 _ (by omega), gw, gb]
    rw [r1, r2]
    refine r_reverse (w := fun i => nI ((X ++ a :: Y).getD i 0)) (by omega) (fun i hi => ?_) (fun g x g1 g2 => h g ?_ ⟨?_, fun i hi => ?_⟩)
    · show upd (upd (f 5) u.length (nI b)) (u.length + 1 + X.length) (nI a) (u.length + 1 + i) = _
      rcases Nat.lt_trichotomy i X.length with q | q | q
      · rw [pk_un (by omega), pk_un (by omega), hr.2 _ (by omega), gw, gX i q, getD_left q]
      · rw [q, pk_us]
        congr 1
        rw [getD_app, if_neg (Nat.lt_irrefl _), Nat.sub_self]; rfl
      · rw [pk_un (by omega), pk_un (by omega), hr.2 _ (by omega), gw]
        obtain ⟨k, hk⟩ : ∃ k, i = X.length + 1 + k := ⟨i - X.length - 1, by omega⟩
        rw [hk, gY k]
        congr 1
        rw [getD_app, if_neg (by omega), show X.length + 1 + k - X.length = k + 1 by omega]; rfl
    · exact (Eqx.rf.up (by decide)).tr x
    · rw [x 0 (by decide)]
      show f 0 6 = _
      rw [hr.1, h5]
      congr 1
      rw [hll, hlw]
      simp; omega
    · have hl5 : l'.length = u.length + 1 + w.length := by rw [h5, hlw]; simp; omega
      have hXY : (X ++ a :: Y).length = w.length := by rw [hlw, List.length_append, List.length_cons]; omega
      rcases Nat.lt_trichotomy i u.length with q | q | q
      · rw [g1 i (by omega)]
        show upd (upd (f 5) u.length (nI b)) (u.length + 1 + X.length) (nI a) i = _
        rw [pk_un (by omega), pk_un (by omega), hr.2 i (by omega), gu i q, h5, getD_left q]
      · rw [q, g1 u.length (by omega)]
        show upd (upd (f 5) u.length (nI b)) (u.length + 1 + X.length) (nI a) u.length = _
        rw [pk_un (by omega), pk_us, h5, getD_app, if_neg (Nat.lt_irrefl _), Nat.sub_self]; rfl
      · obtain ⟨k, hk⟩ : ∃ k, i = u.length + 1 + k := ⟨i - u.length - 1, by omega⟩
        rw [hk, g2 k (by omega), h5, getD_app (u := u), if_neg (by omega), show u.length + 1 + k - u.length = k + 1 by omega]
        show _ = nI ((X ++ a :: Y).reverse.getD k 0)
        rw [getD_rev (by omega), hXY]
  -- the second loop: from the end down to b
  have second : ∀ t, X.length ≤ t → t < w.length → ∃ n : Nat, itr2 (B_X10_nextOrder_0_47 Q) n f (nI u.length) (nI (u.length + 1 + t)) := by
    intro t
    induction t with
    | zero =>
      intro q1 q2
      refine ⟨1, ?_⟩
      show B_X10_nextOrder_0_47 Q _ f _ _
      unfold B_X10_nextOrder_0_47
      have q3 : X.length = 0 := by omega
      rw [q3] at gb third
      refine ⟨pk_in _ 9 (show u.length + 1 + 0 < 9 by omega), pk_in u.length 9 (by omega), ?_⟩
      rw [pk_cl u.length, pk_cl (u.length + 1 + 0), hr.2 _ (by omega), hr.2 _ (by omega), ga, gw, gb]
      exact pk_lt a b (fun _ => third) (fun q => absurd q (by omega))
    | succ t ih =>
      intro q1 q2
      by_cases q : X.length = t + 1
      · refine ⟨1, ?_⟩
        show B_X10_nextOrder_0_47 Q _ f _ _
        unfold B_X10_nextOrder_0_47
        rw [q] at gb third
        refine ⟨pk_in _ 9 (show u.length + 1 + (t + 1) < 9 by omega), pk_in u.length 9 (by omega), ?_⟩
        rw [pk_cl u.length, pk_cl (u.length + 1 + (t + 1)), hr.2 _ (by omega), hr.2 _ (by omega), ga, gw, gb]
        exact pk_lt a b (fun _ => third) (fun q => absurd q (by omega))
      · obtain ⟨n, hn⟩ := ih (by omega) (by omega)
        refine ⟨n + 1, ?_⟩
        show B_X10_nextOrder_0_47 Q _ f _ _
        unfold B_X10_nextOrder_0_47
        refine ⟨pk_in _ 9 (show u.length + 1 + (t + 1) < 9 by omega), pk_in u.length 9 (by omega), ?_⟩
        obtain ⟨k, hk⟩ : ∃ k, t + 1 = X.length + 1 + k := ⟨t - X.length, by omega⟩
        have hy : Y.getD k 0 ≤ a := by
          apply h4
          rw [show Y.getD k 0 = Y[k]'(by omega) by simp [List.getD, show k < Y.length by omega]]
          exact List.getElem_mem _
        rw [pk_cl u.length, pk_cl (u.length + 1 + (t + 1)), hr.2 _ (by omega), hr.2 _ (by omega), ga, gw, hk, gY, ← hk]
        refine pk_lt a _ (fun z => absurd z (by omega)) (fun _ => ?_) rfl rfl (by omega) (by omega)
        rw [show u.length + 1 + (t + 1) = (u.length + 1 + t) + 1 by omega, pk_m1]
        exact hn
  have first : ∀ t, t < w.length → ∃ n : Nat, itr1 (B_X10_nextOrder_0_7 Q) n f (nI (u.length + t)) := by
    intro t
    induction t with
    | zero =>
      intro q
      refine ⟨1, ?_⟩
      show B_X10_nextOrder_0_7 Q _ f _
      unfold B_X10_nextOrder_0_7 J_X10_nextOrder_0_34
      rw [Nat.add_zero, nI_1]
      refine ⟨fun z => absurd z (nI_pos (by omega)), fun _ => ⟨pk_in u.length 9 (by omega), pk_in (u.length + 1) 9 (by omega), ?_⟩⟩
      have hw0 : b ≤ w.getD 0 0 := by
        rcases Nat.lt_or_ge 0 X.length with z | z
        · have := ninc_get h2 (i := 0) (j := X.length) z (by omega)
          rw [gb] at this; exact this
        · have z0 : X.length = 0 := by omega
          rw [z0] at gb; rw [gb]; exact Nat.le_refl _
      have hw5 : w.getD 0 0 < 5 := by have := hcl (u.length + 1 + 0) (by omega); rw [gw] at this; exact this
      have e0 : f 5 (u.length + 1) = nI (w.getD 0 0) := by
        rw [hr.2 _ (by omega)]
        have := gw 0
        rw [Nat.add_zero] at this
        rw [this]
      rw [pk_cl u.length, pk_cl (u.length + 1), hr.2 u.length (by omega), ga, e0]
      refine pk_lt a _ (fun _ => ⟨fun _ z4 e4 => ?_, fun z => absurd (nI_pos' (by omega)) z⟩) (fun z => absurd z (by omega)) rfl rfl (by omega) (by omega)
      obtain ⟨n, hn⟩ := second (w.length - 1) (by omega) (by omega)
      refine ⟨n, ?_⟩
      have : z4 = nI (u.length + 1 + (w.length - 1)) := by
        rw [e4, hr.1, show l.length = (u.length + 1 + (w.length - 1)) + 1 by omega, nI_pred]
      rw [this]
      exact hn
    | succ t ih =>
      intro q
      obtain ⟨n, hn⟩ := ih (by omega)
      refine ⟨n + 1, ?_⟩
      show B_X10_nextOrder_0_7 Q _ f _
      unfold B_X10_nextOrder_0_7
      refine ⟨fun z => absurd z (nI_pos (by omega)), fun _ => ⟨pk_in (u.length + (t + 1)) 9 (by omega), ?_⟩⟩
      rw [nI_1 (u.length + (t + 1))]
      refine ⟨pk_in (u.length + (t + 1) + 1) 9 (by omega), ?_⟩
      rw [pk_cl (u.length + (t + 1)), pk_cl (u.length + (t + 1) + 1), hr.2 _ (by omega), hr.2 _ (by omega), show u.length + (t + 1) + 1 = u.length + 1 + (t + 1) by omega, gw, show u.length + (t + 1) = u.length + 1 + t by omega, gw]
      have := ninc_get h2 (i := t) (j := t + 1) (by omega) (by omega)
      have h5' : w.getD t 0 < 5 := by have := hcl (u.length + 1 + t) (by omega); rw [gw] at this; exact this
      refine pk_lt _ _ (fun z => absurd z (by omega)) (fun _ => ?_) rfl rfl (by omega) (by omega)
      rw [show u.length + 1 + t = (u.length + t) + 1 by omega, pk_m1]
      exact hn
  obtain ⟨n, hn⟩ := first (w.length - 1) (by omega)
  refine ⟨n, ?_⟩
  rw [e1, show iI ((l.length : Int) - 2) = nI (u.length + (w.length - 1)) by rw [iI_nI]; congr 1; omega]
  exact hn
