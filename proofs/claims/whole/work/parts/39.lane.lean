/-! a pad without ?: its row -/
def cl (q : Pd) : List Nat := q.map (fun x => x.getD 0)
theorem cl_len (q : Pd) : (cl q).length = q.length := by unfold cl; simp
theorem cl_get {q : Pd} (h : ¬ opn q) {i : Nat} (hi : i < q.length) : q.getD i none = some ((cl q).getD i 0) := by
  cases hz : q.getD i none with
  | none => exact absurd ⟨i, hi, hz⟩ h
  | some c =>
    have : q[i]? = some (some c) := by
      rw [List.getElem?_eq_getElem hi]
      rw [show q.getD i none = q[i] by simp [List.getD, hi]] at hz
      rw [hz]
    unfold cl
    rw [show (List.map (fun x : Option Nat => x.getD 0) q).getD i 0 = c by simp [List.getD, this]]
theorem cl_cls {q : Pd} (ok : PdOk q) (h : ¬ opn q) : Cls (cl q) := by
  intro i hi
  rw [cl_len] at hi
  exact ok.2 i _ hi (cl_get h hi)
theorem take_succ_getD {l : List Nat} {i : Nat} (h : i < l.length) : l.take (i + 1) = l.take i ++ [l.getD i 0] := by
  rw [List.take_succ, List.getElem?_eq_getElem h, show l.getD i 0 = l[i] by simp [List.getD, h]]
  rfl
theorem Cls.take {l : List Nat} (h : Cls l) (i : Nat) : Cls (l.take i) := Cls.of (fun c hc => h.mem c (List.mem_of_mem_take hc))
theorem getD_take {l : List Nat} {i j : Nat} (h : j < i) : (l.take i).getD j 0 = l.getD j 0 := by
  simp [List.getD, List.getElem?_take, h]
theorem w_walkPad {f : Sg} {p : Pl} {q : Pd} (ok : POk p) (qok : PdOk q) (hp : P1 f p) (hq : PadC f q) (hn : ¬ opn q) (h11 : f 11 0 = 0) (h12 : f 12 0 = 0) {Q : Int32 → Sg → Prop} (h : ∀ g, Eqx [9, 10, 11, 12, 13] f g → RRep g p (cl q) → Q (nI (offc p (cl q) (cl q).length)) g) : M_X9_walkPad_0 f Q := by
  have h9 := qok.1
  have hlen := cl_len q
  have hcls := cl_cls qok hn
  unfold M_X9_walkPad_0
  refine w_start hp h11 h12 (fun g1 r1 x1 => ?_)
  refine pk_loop (fun n i (s : Sg × Int32) => itr2 (B_X9_walkPad_0_11 Q) n s.1 s.2 (nI i)) (fun i s => Eqx [9, 10, 11, 12, 13] f s.1 ∧ RRep s.1 p ((cl q).take i) ∧ s.2 = nI (offc p (cl q) i)) q.length 0 (g1, 0) (Nat.zero_le _) ⟨x1.mono (by decide), by rw [List.take_zero]; exact r1, rfl⟩ ?_ ?_
  · intro n s e
    obtain ⟨e1, e2, e3⟩ := e
    have q7 : s.1 7 1 = nI q.length := by rw [e1 7 (by decide)]; exact hq.1
    unfold itr2 B_X9_walkPad_0_11
    rw [q7, e3]
    refine pk_le _ _ (fun _ => ?_) (fun z => absurd z (by omega)) rfl rfl
    rw [← hlen]
    rw [← hlen, List.take_length] at e2
    exact h s.1 e1 e2
  · intro n i s hi e K
    obtain ⟨e1, e2, e3⟩ := e
    have hq' : PadC s.1 q := hq.eqx (e1 7 (by decide)) (e1 8 (by decide))
    have hp' := hp.eqx e1 (by decide)
    have hc : (cl q).getD i 0 < 5 := hcls i (by omega)
    unfold itr2 B_X9_walkPad_0_11
    rw [hq'.1]
    refine pk_le _ _ (fun z => absurd z (by omega)) (fun _ => w_signAt qok hq' hi ?_) rfl rfl
    rw [cl_get hn hi]
    have hlt : ((cl q).take i).length = i := by rw [List.length_take]; omega
    refine w_ruleClass ok hp' e2 (hcls.take i) (by omega) (Or.inl (by omega)) ?_
    unfold J_X9_walkPad_0_45
    have go : ∀ z : Int32, z = nI (offc p (cl q) (i + 1)) → M_X6_put_9 s.1 (nI ((cl q).getD i 0)) (fun g9 => itr2 (B_X9_walkPad_0_11 Q) n g9 z (nI i + 1)) := by
      intro z hz
      refine w_put ok hp' e2 (hcls.take i) (by omega) hc (fun g2 r2 x2 => ?_)
      rw [nI_1]
      exact K (g2, z) ⟨e1.tr x2, by rw [take_succ_getD (by omega)]; exact r2, hz⟩
    have ho : offc p (cl q) (i + 1) = offc p (cl q) i + bi (!(rcl p ((cl q).take i) == some ((cl q).getD i 0))) := rfl
    have hs : (orI (rcl p ((cl q).take i)) = sgC (some ((cl q).getD i 0))) ↔ rcl p ((cl q).take i) = some ((cl q).getD i 0) := by
      rw [← orI_eq rcl_lt hc]
      exact ⟨fun z => z.symm, fun z => z.symm⟩
    rw [hs]
    refine ⟨fun z => go _ ?_, fun z => go _ ?_⟩
    · rw [ho, z, e3]; simp [bi]
    · rw [ho, e3, nI_1]
      congr 1
      have : (rcl p ((cl q).take i) == some ((cl q).getD i 0)) = false := by simpa [-List.getD_eq_getElem?_getD] using z
      rw [this]; rfl
/-- the first break of a row, or none -/
def FB (p : Pl) (l : List Nat) (r : Int32) : Prop := (∃ k, k < l.length ∧ bAt p l k ≠ 0 ∧ (∀ j, j < k → bAt p l j = 0) ∧ r = nI k) ∨ ((∀ k, k < l.length → bAt p l k = 0) ∧ r = -6)
theorem FB.one {p : Pl} {l : List Nat} {r r' : Int32} (h : FB p l r) (h' : FB p l r') : r = r' := by
  rcases h with ⟨k, k1, k2, k3, k4⟩ | ⟨k1, k2⟩ <;> rcases h' with ⟨j, j1, j2, j3, j4⟩ | ⟨j1, j2⟩
  · have : k = j := by
      rcases Nat.lt_trichotomy k j with q | q | q
      · exact absurd (j3 k q) k2
      · exact q
      · exact absurd (k3 j q) j2
    rw [k4, j4, this]
  · exact absurd (j1 k k1) k2
  · exact absurd (k1 j j1) j2
  · rw [k2, j2]
theorem sm_zero {f : Nat → Nat} {n : Nat} (h : ∀ j, j < n → f j = 0) : sm f n = 0 := by
  have := sm_congr (f := f) (g := fun _ => 0) h
  rw [this, sm_const]; omega
theorem w_firstBreak {f : Sg} {p : Pl} {l : List Nat} (hr : RRep f p l) (h9 : l.length ≤ 9) {Q : Int32 → Sg → Prop} (h : ∀ r, FB p l r → Q r f) : M_X6_firstBreak_9 f Q := by
  refine pk_loop (fun n i (_ : Unit) => itr1 (B_X6_firstBreak_9_2 Q) n f (nI i)) (fun i _ => ∀ j, j < i → bAt p l j = 0) l.length 0 () (Nat.zero_le _) (fun c hc => absurd hc (Nat.not_lt_zero _)) ?_ ?_
  · intro n s e
    unfold itr1 B_X6_firstBreak_9_2
    rw [hr.1]
    exact pk_le _ _ (fun _ => h _ (Or.inr ⟨e, rfl⟩)) (fun z => absurd z (by omega)) rfl rfl
  · intro n i s hi e K
    unfold itr1 B_X6_firstBreak_9_2
    rw [hr.1, nI_1]
    refine pk_le _ _ (fun z => absurd z (by omega)) (fun _ => ⟨pk_in (i + 1) 10 (by omega), ?_⟩) rfl rfl
    rw [pk_cl (i + 1), hr.2.2.2.1 (i + 1) (by omega), sm_succ, sm_zero e, Nat.zero_add]
    have hb := bAt_le p l i
    refine pk_le _ _ (fun z => K () (fun j hj => ?_)) (fun z => h _ (Or.inl ⟨i, hi, by omega, e, rfl⟩)) rfl (nI_0).symm
    rcases Nat.lt_or_ge j i with y | y
    · exact e j y
    · rw [Nat.le_antisymm (by omega) y]; omega
/-! the lane -/
def lns (k : Nat) : Nat → List Nat → List (List Nat)
  | 0, _ => [[]]
  | n + 1, w => (List.range (k + 1)).flatMap (fun i => if i < w.length then (lns k n (w.eraseIdx i)).map (fun t => w.getD i 0 :: t) else [])
def lnu (k n : Nat) (w : List Nat) (c : Nat) : List (List Nat) := (List.range c).flatMap (fun i => if i < w.length then (lns k n (w.eraseIdx i)).map (fun t => w.getD i 0 :: t) else [])
theorem lnu_succ (k n : Nat) (w : List Nat) (c : Nat) : lnu k n w (c + 1) = lnu k n w c ++ (if c < w.length then (lns k n (w.eraseIdx c)).map (fun t => w.getD c 0 :: t) else []) := by
  unfold lnu
  rw [List.range_succ, List.flatMap_append]
  simp
theorem lnu_more {k n : Nat} {w : List Nat} {c : Nat} (hc : w.length ≤ c) : ∀ j, lnu k n w (c + j) = lnu k n w c := by
  intro j
  induction j with
  | zero => rfl
  | succ j ih => rw [← Nat.add_assoc, lnu_succ, if_neg (by omega), List.append_nil, ih]
def wt : List Nat → (Nat → Bool) → List Nat
  | [], _ => []
  | a :: l, g => if g 0 then wt l (fun i => g (i + 1)) else a :: wt l (fun i => g (i + 1))
def ng (g : Nat → Bool) (j : Nat) : Nat := sm (fun i => bi (!(g i))) j
theorem ng_shift (g : Nat → Bool) (j : Nat) : ng g (j + 1) = bi (!(g 0)) + ng (fun i => g (i + 1)) j := sm_shift _ j
theorem wt_len (l : List Nat) : ∀ g, (wt l g).length = ng g l.length := by
  induction l with
  | nil => intro g; rfl
  | cons a l ih =>
    intro g
    rw [List.length_cons, ng_shift]
    unfold wt
    cases h : g 0 with
    | true => simp [ih, bi]
    | false => simp [ih, bi]; omega
theorem wt_get (l : List Nat) : ∀ g j, j < l.length → g j = false → (wt l g).getD (ng g j) 0 = l.getD j 0 := by
  induction l with
  | nil => intro g j hj; exact absurd hj (Nat.not_lt_zero _)
  | cons a l ih =>
    intro g j hj hg
    cases j with
    | zero =>
      unfold wt
      rw [if_neg (by rw [hg]; decide)]
      rfl
    | succ j =>
      have := ih (fun i => g (i + 1)) j (by simpa using hj) hg
      rw [ng_shift]
      unfold wt
      cases h : g 0 with
      | true =>
        rw [if_pos rfl]
        simp only [Bool.not_true]
        rw [show bi false = 0 from rfl, Nat.zero_add, this]
        rfl
      | false =>
        rw [if_neg (by decide)]
        simp only [Bool.not_false]
        rw [show bi true = 1 from rfl, Nat.add_comm]
        exact this
theorem wt_congr (l : List Nat) : ∀ g g', (∀ i, i < l.length → g i = g' i) → wt l g = wt l g' := by
  induction l with
  | nil => intro g g' _; rfl
  | cons a l ih =>
    intro g g' h
    unfold wt
    rw [h 0 (by simp), ih (fun i => g (i + 1)) (fun i => g' (i + 1)) (fun i hi => h (i + 1) (by simpa using hi))]
theorem wt_del (l : List Nat) : ∀ g j, j < l.length → g j = false → wt l (fun i => g i || decide (i = j)) = (wt l g).eraseIdx (ng g j) := by
  induction l with
  | nil => intro g j hj; exact absurd hj (Nat.not_lt_zero _)
  | cons a l ih =>
    intro g j hj hg
    cases j with
    | zero =>
      show (if (g 0 || decide (0 = 0)) = true then wt l (fun i => g (i + 1) || decide (i + 1 = 0)) else a :: wt l (fun i => g (i + 1) || decide (i + 1 = 0))) = (if g 0 = true then wt l (fun i => g (i + 1)) else a :: wt l (fun i => g (i + 1))).eraseIdx 0
      rw [if_pos (by simp), if_neg (by rw [hg]; decide), List.eraseIdx_cons_zero]
      apply wt_congr
      intro i _
      simp
    | succ j =>
      have := ih (fun i => g (i + 1)) j (by simpa using hj) hg
      rw [ng_shift]
      have e0 : (g 0 || decide (0 = j + 1)) = g 0 := by simp
      show (if (g 0 || decide (0 = j + 1)) = true then wt l (fun i => g (i + 1) || decide (i + 1 = j + 1)) else a :: wt l (fun i => g (i + 1) || decide (i + 1 = j + 1))) = (if g 0 = true then wt l (fun i => g (i + 1)) else a :: wt l (fun i => g (i + 1))).eraseIdx (bi (!(g 0)) + ng (fun i => g (i + 1)) j)
      rw [e0]
      have e1 : wt l (fun i => g (i + 1) || decide (i + 1 = j + 1)) = wt l (fun i => g (i + 1) || decide (i = j)) := by
        apply wt_congr
        intro i _
        simp
      rw [e1, this]
      cases h : g 0 with
      | true =>
        rw [if_pos rfl, if_pos rfl]
        simp only [Bool.not_true]
        rw [show bi false = 0 from rfl, Nat.zero_add]
      | false =>
        rw [if_neg (by decide), if_neg (by decide)]
        simp only [Bool.not_false]
        rw [show bi true = 1 from rfl, Nat.add_comm, List.eraseIdx_cons_succ]
theorem bit_gone : ∀ g, g < 512 → ∀ j, j < 9 → ((nI g >>> (nI j &&& 31)) &&& 1) = nI (bi (g.testBit j)) := by decide +kernel
theorem bit_one : ∀ j, j < 9 → (1 : Int32) <<< (nI j &&& 31) = nI (2 ^ j) := by decide +kernel
def nts (p : Pl) (s : Nat) (o : List Nat) : Nat := if bks p o < s then bks p o else s
abbrev FS : List Nat := [9, 10, 11, 12, 13, 26]
theorem w_walk {p : Pl} (ok : POk p) {q : Pd} (qok : PdOk q) (hn : ¬ opn q) {k : Nat} (hk : k ≤ 2) : ∀ (d : Nat) (f : Sg) (pre : List Nat) (gn s : Nat) (Q : Sg → Prop), q.length < pre.length + d → Cls pre → gn < 512 → pre.length + (wt (cl q) gn.testBit).length = q.length → P1 f p → PadC f q → RRep f p pre → f 26 2 = nI s → s ≤ 100 →
    (∀ g, Eqx FS f g → RRep g p pre → g 26 2 = nI ((lns k (wt (cl q) gn.testBit).length (wt (cl q) gn.testBit)).foldl (fun s t => nts p s (pre ++ t)) s) → Q g) → M_X7_walk_26 d f (nI pre.length) (nI gn) (nI k) Q := by
  have h9 := qok.1
  have hlen := cl_len q
  have hcls := cl_cls qok hn
  intro d
  induction d with
  | zero => intro f pre gn s Q hd _ _ hw; omega
  | succ d ih =>
    intro f pre gn s Q hd hcp hg hw hp hq hr hs hs1 hQ
    have hb := bks_le p (l := pre) (by omega)
    show E_X7_walk_26 (M_X7_walk_26 d) f (nI pre.length) (nI gn) (nI k) Q
    unfold E_X7_walk_26
    refine w_breaks hr (by omega) ?_
    rw [hs, hq.1]
    refine pk_lt _ _ (fun z => ?_) (fun z => ?_) rfl rfl
    · refine pk_lt _ _ (fun z2 => ?_) (fun z2 => ?_) rfl rfl
      · obtain ⟨m, hm⟩ : ∃ m, (wt (cl q) gn.testBit).length = m + 1 := ⟨(wt (cl q) gn.testBit).length - 1, by omega⟩
        generalize hwe : wt (cl q) gn.testBit = w at hm hQ hw
        have hlw : w.length = ng gn.testBit q.length := by rw [← hwe, wt_len, hlen]
        rw [hm] at hQ
        have fin : ∀ (c : Nat) (sg : Sg), c ≤ k + 1 → (c = k + 1 ∨ c = w.length) → Eqx FS f sg → RRep sg p pre → sg 26 2 = nI ((lnu k m w c).foldl (fun s t => nts p s (pre ++ t)) s) → Q sg := by
          intro c sg c1 c2 e1 e2 e3
          refine hQ sg e1 e2 ?_
          have : lns k (m + 1) w = lnu k m w (k + 1) := rfl
          rw [this]
          rcases c2 with c2 | c2
          · rw [← c2]; exact e3
          · have := lnu_more (k := k) (n := m) (w := w) (c := c) (by omega) (k + 1 - c)
            rw [show c + (k + 1 - c) = k + 1 by omega] at this
            rw [this]; exact e3
        refine pk_loop (fun n j (sc : Sg × Nat) => itr5 (B_X7_walk_26_44 (M_X7_walk_26 d) Q) n sc.1 (nI pre.length) (nI gn) (nI k) (nI sc.2) (nI j)) (fun j sc => sc.2 = ng gn.testBit j ∧ sc.2 ≤ k + 1 ∧ Eqx FS f sc.1 ∧ RRep sc.1 p pre ∧ ∃ s2, s2 ≤ 100 ∧ sc.1 26 2 = nI s2 ∧ s2 = (lnu k m w sc.2).foldl (fun s t => nts p s (pre ++ t)) s) q.length 0 (f, 0) (Nat.zero_le _) ⟨rfl, Nat.zero_le _, Eqx.rf, hr, s, hs1, hs, rfl⟩ ?_ ?_
        · intro n sc e
          obtain ⟨e1, e2, e3, e4, s2, e5, e6, e7⟩ := e
          unfold itr5 B_X7_walk_26_44 J_X7_walk_26_117
          have q7 : sc.1 7 1 = nI q.length := by rw [e3 7 (by decide)]; exact hq.1
          rw [q7]
          exact pk_le _ _ (fun _ => fin sc.2 sc.1 e2 (Or.inr (by rw [e1, hlw])) e3 e4 (by rw [e6, e7])) (fun y => absurd y (by omega)) rfl rfl
        · intro n j sc hj e K
          obtain ⟨e1, e2, e3, e4, s2, e5, e6, e7⟩ := e
          unfold itr5 B_X7_walk_26_44 J_X7_walk_26_117 J_X7_walk_26_111
          have hq' : PadC sc.1 q := hq.eqx (e3 7 (by decide)) (e3 8 (by decide))
          rw [hq'.1]
          refine pk_le _ _ (fun y => absurd y (by omega)) (fun _ => ?_) rfl rfl
          refine pk_lt k sc.2 (fun y => fin sc.2 sc.1 e2 (Or.inl (by omega)) e3 e4 (by rw [e6, e7])) (fun y => ?_)
          rw [bit_gone gn hg j (by omega), nI_1 j]
          have hng : ng gn.testBit (j + 1) = ng gn.testBit j + bi (!(gn.testBit j)) := rfl
          cases hbit : gn.testBit j with
          | true =>
            refine ⟨fun y2 => absurd y2 (by decide), fun _ => K (sc.1, sc.2) ⟨?_, e2, e3, e4, s2, e5, e6, e7⟩⟩
            rw [hng, hbit, ← e1]; rfl
          | false =>
            refine ⟨fun _ => w_signAt qok hq' hj ?_, fun y2 => absurd rfl y2⟩
            rw [cl_get hn hj]
            have hc : (cl q).getD j 0 < 5 := hcls j (by omega)
            refine w_put ok (hp.eqx e3 (by decide)) e4 hcp (by omega) hc (fun g10 r10 x10 => ?_)
            rw [nI_1 pre.length, bit_one j (by omega), nx_or]
            have e10 : Eqx FS f g10 := e3.tr (x10.mono (by decide))
            have hl10 : (pre ++ [(cl q).getD j 0]).length = pre.length + 1 := by rw [List.length_append]; rfl
            have hwt : wt (cl q) (gn ||| 2 ^ j).testBit = w.eraseIdx sc.2 := by
              rw [e1, ← hwe, ← wt_del (cl q) gn.testBit j (by omega) hbit]
              apply wt_congr
              intro i _
              rw [Nat.testBit_or, Nat.testBit_two_pow]
              congr 1
              simp [eq_comm]
            have hcw : sc.2 < w.length := by
              rw [e1, hlw]
              have := sm_mono (fun i => bi (!(gn.testBit i))) (m := j + 1) (n := q.length) (by omega)
              have h2 : ng gn.testBit (j + 1) ≤ ng gn.testBit q.length := this
              rw [hng, hbit] at h2
              simp [bi] at h2
              omega
            have hwl : (w.eraseIdx sc.2).length = m := by rw [List.length_eraseIdx, if_pos hcw]; omega
            have hget : w.getD sc.2 0 = (cl q).getD j 0 := by rw [e1, ← hwe]; exact wt_get (cl q) gn.testBit j (by omega) hbit
            rw [← hl10]
            refine ih g10 (pre ++ [(cl q).getD j 0]) (gn ||| 2 ^ j) s2 _ (by omega) (hcp.app hc) ?_ ?_ (hp.eqx e10 (by decide)) (hq.eqx (e10 7 (by decide)) (e10 8 (by decide))) r10 ?_ e5 (fun g12 x12 r12 b12 => ?_)
            · exact Nat.or_lt_two_pow (n := 9) hg (Nat.pow_lt_pow_right (by omega) (by omega))
            · rw [hwt, hl10, hwl]; omega
            · rw [x10 26 (by decide)]; exact e6
            · refine w_drop ok r12 (by omega) hc (fun g14 r14 x14 => ?_)
              rw [nI_1 sc.2]
              have hfold : ∀ L : List (List Nat), ∀ s0, s0 ≤ 100 → L.foldl (fun s t => nts p s (pre ++ [(cl q).getD j 0] ++ t)) s0 ≤ 100 := by
                intro L
                induction L with
                | nil => intro s0 h0; exact h0
                | cons a L ihL =>
                  intro s0 h0
                  rw [List.foldl_cons]
                  apply ihL
                  unfold nts
                  split <;> omega
              refine K (g14, sc.2 + 1) ⟨?_, by omega, e10.tr (x12.tr (x14.mono (by decide))), r14, (lns k m (w.eraseIdx sc.2)).foldl (fun s t => nts p s (pre ++ [(cl q).getD j 0] ++ t)) s2, hfold _ s2 e5, ?_, ?_⟩
              · rw [hng, hbit, ← e1]; rfl
              · show g14 26 2 = _; rw [x14 26 (by decide), b12, hwt, hwl]
              · rw [lnu_succ, if_pos hcw, List.foldl_append, ← e7, List.foldl_map, hget]
                simp
      · have hz : (wt (cl q) gn.testBit).length = 0 := by omega
        refine w_breaks hr (by omega) (fun g18 e18 => ?_)
        subst e18
        refine hQ _ (Eqx.rf.up (by decide)) (hr.eqx rfl rfl rfl rfl rfl) ?_
        rw [hz]
        show nI (bks p pre) = nI ((lns k 0 _).foldl _ s)
        simp [lns, nts, z]
    · refine hQ f Eqx.rf hr ?_
      have : ∀ (L : List (List Nat)), L.foldl (fun s t => nts p s (pre ++ t)) s = s := by
        intro L
        induction L with
        | nil => rfl
        | cons a L ihL =>
          rw [List.foldl_cons]
          have h1 := bks_mono ok pre a
          have : nts p s (pre ++ a) = s := by unfold nts; rw [if_neg (by omega)]
          rw [this]; exact ihL
      rw [this]; exact hs
theorem wt_all (l : List Nat) : wt l (0 : Nat).testBit = l := by
  have h : ∀ l : List Nat, wt l (fun _ => false) = l := by
    intro l
    induction l with
    | nil => rfl
    | cons a l ih => show a :: wt l _ = _; rw [ih]
  have := wt_congr l (0 : Nat).testBit (fun _ => false) (fun i _ => by simp)
  rw [this]; exact h l
def lnb (p : Pl) (k : Nat) (l : List Nat) : Nat := (lns k l.length l).foldl (nts p) (bks p l)
theorem w_putRight {p : Pl} (ok : POk p) {q : Pd} (qok : PdOk q) (hn : ¬ opn q) {k : Nat} (hk : k ≤ 2) {f : Sg} (hp : P1 f p) (hq : PadC f q) (h11 : f 11 0 = 0) (h12 : f 12 0 = 0) {Q : Int32 → Sg → Prop} (h : ∀ g, Eqx FS f g → g 11 0 = 0 → g 12 0 = 0 → Q (nI (lnb p k (cl q))) g) : M_X7_putRight_26 f (nI k) Q := by
  have h9 := qok.1
  have hlen := cl_len q
  have hcls := cl_cls qok hn
  unfold M_X7_putRight_26
  refine w_start hp h11 h12 (fun g1 r1 x1 => ?_)
  refine pk_loop (fun n i (s : Sg) => itr2 (B_X7_putRight_26_9 Q) n s (nI k) (nI i)) (fun i s => Eqx [9, 10, 11, 12, 13] f s ∧ RRep s p ((cl q).take i)) q.length 0 g1 (Nat.zero_le _) ⟨x1.mono (by decide), by rw [List.take_zero]; exact r1⟩ ?_ ?_
  · intro n s e
    obtain ⟨e1, e2⟩ := e
    rw [← hlen, List.take_length] at e2
    have q7 : s 7 1 = nI q.length := by rw [e1 7 (by decide)]; exact hq.1
    unfold itr2 B_X7_putRight_26_9
    rw [q7]
    refine pk_le _ _ (fun _ => ?_) (fun z => absurd z (by omega)) rfl rfl
    have hb := bks_le p (l := cl q) (by omega)
    refine w_breaks e2 (by omega) (fun g6 e6 => ?_)
    subst e6
    have x6 : Eqx FS f (va_up s 26 (upd (s 26) 2 (nI (bks p (cl q))))) := (e1.mono (by decide)).up (by decide)
    refine w_start (p := p) (hp.eqx x6 (by decide)) (e2.2.2.1 0 (Nat.zero_le _)) (e2.2.2.2.1 0 (Nat.zero_le _)) (fun g7 r7 x7 => ?_)
    have e7 : Eqx FS f g7 := x6.tr (x7.mono (by decide))
    refine w_walk ok qok hn hk 12 g7 [] 0 (bks p (cl q)) _ (by simp; omega) (fun i hi => absurd hi (Nat.not_lt_zero _)) (by omega) (by rw [wt_all]; simp [hlen]) (hp.eqx e7 (by decide)) (hq.eqx (e7 7 (by decide)) (e7 8 (by decide))) r7 ?_ (by omega) (fun g9 x9 r9 b9 => ?_)
    · rw [x7 26 (by decide)]; rfl
    · rw [b9, wt_all]
      have := h g9 (e7.tr x9) (r9.2.2.1 0 (Nat.zero_le _)) (r9.2.2.2.1 0 (Nat.zero_le _))
      simpa [lnb] using this
  · intro n i s hi e K
    obtain ⟨e1, e2⟩ := e
    have hq' : PadC s q := hq.eqx (e1 7 (by decide)) (e1 8 (by decide))
    have hlt : ((cl q).take i).length = i := by rw [List.length_take]; omega
    unfold itr2 B_X7_putRight_26_9
    rw [hq'.1]
    refine pk_le _ _ (fun z => absurd z (by omega)) (fun _ => w_signAt qok hq' hi ?_) rfl rfl
    rw [cl_get hn hi]
    refine w_put ok (hp.eqx e1 (by decide)) e2 (hcls.take i) (by omega) (hcls i (by omega)) (fun g2 r2 x2 => ?_)
    rw [nI_1]
    exact K g2 ⟨e1.tr x2, by rw [take_succ_getD (by omega)]; exact r2⟩
