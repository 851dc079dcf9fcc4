/-! all orders, the first one first; a walk through them -/
def decr (d : Nat → Nat) (c : Nat) : Nat → Nat := fun x => if x = c then d x - 1 else d x
def ords : Nat → (Nat → Nat) → List (List Nat)
  | 0, _ => [[]]
  | n + 1, d => (List.range 5).flatMap (fun c => if 0 < d c then (ords n (decr d c)).map (fun t => c :: t) else [])
/-- those that begin with one of the first i classes -/
def ordu (n : Nat) (d : Nat → Nat) (i : Nat) : List (List Nat) := (List.range i).flatMap (fun c => if 0 < d c then (ords n (decr d c)).map (fun t => c :: t) else [])
theorem ords_succ (n : Nat) (d : Nat → Nat) : ords (n + 1) d = ordu n d 5 := rfl
theorem ordu_succ (n : Nat) (d : Nat → Nat) (i : Nat) : ordu n d (i + 1) = ordu n d i ++ (if 0 < d i then (ords n (decr d i)).map (fun t => i :: t) else []) := by
  unfold ordu
  rw [List.range_succ, List.flatMap_append]
  simp
def rem (p : Pl) (l : List Nat) : Nat → Nat := fun c => pDm p c - l.count c
theorem rem_app (p : Pl) (l : List Nat) (c : Nat) : rem p (l ++ [c]) = decr (rem p l) c := by
  funext x
  unfold rem decr
  rw [List.count_append]
  by_cases q : x = c
  · rw [if_pos q, q]; simp; omega
  · rw [if_neg q, List.count_eq_zero_of_not_mem (a := x) (l := [c]) (by simpa using q)]; simp
def Fit (p : Pl) (l : List Nat) : Prop := Cls l ∧ ∀ c, c < 5 → l.count c ≤ pDm p c
theorem Fit.left {p : Pl} {l : List Nat} (h : Fit p l) {c : Nat} (hc : c < 5) : lf p l c = (rem p l c : Int) := by
  have := h.2 c hc
  unfold lf rem
  omega
theorem Fit.len {p : Pl} {l : List Nat} (h : Fit p l) : l.length ≤ tot p := by
  have h1 := sm_count h.1.mem
  have h2 := sm_le (f := fun c => l.count c) (g := pDm p) (n := 5) h.2
  unfold tot
  omega
theorem Fit.app {p : Pl} {l : List Nat} (h : Fit p l) {c : Nat} (hc : c < 5) (h0 : 0 < rem p l c) : Fit p (l ++ [c]) := by
  refine ⟨h.1.app hc, fun x hx => ?_⟩
  have h1 := h.2 x hx
  unfold rem at h0
  rw [List.count_append]
  by_cases q : x = c
  · rw [q] at h1 ⊢; simp; omega
  · rw [List.count_eq_zero_of_not_mem (a := x) (l := [c]) (by simpa using q)]; simpa using h1
def GB (Rc : Sg → Int32 → (Sg → Prop) → Prop) (Q : Sg → Prop) (K24 : Sg → Int32 → Int32 → Prop) (f : Sg) (x1 : Int32) (x2 : Int32) : Prop :=
  (5 ≤ x2 → Q f) ∧ (¬ 5 ≤ x2 → vp_in x2 5 ∧ ((f 13 (x2 : Int32).toNatClampNeg) ≤ 0 → K24 f x1 (x2 + 1)) ∧ (¬ (f 13 (x2 : Int32).toNatClampNeg) ≤ 0 → M_X6_put_9 f x2 (fun g8 => Rc g8 (x1 + 1) (fun g10 => M_X6_drop_9 g10 (fun g12 => K24 g12 x1 (x2 + 1))))))
def GE (Mm : Sg → Int32 → (Int32 → Sg → Prop) → Prop) (Mn : Sg → (Sg → Prop) → Prop) (w : Nat) (Rc : Sg → Int32 → (Sg → Prop) → Prop) (f : Sg) (x1 : Int32) (Q : Sg → Prop) : Prop :=
  Mm f x1 (fun r2 g1 => (r2 = 0 → Q g1) ∧ (¬ r2 = 0 → (x1 < (g1 w 2) → ∃ n : Nat, itr2 (GB Rc Q) n g1 x1 0) ∧ (¬ x1 < (g1 w 2) → Mn g1 (fun g14 => Q g14))))
def GM (Mm : Sg → Int32 → (Int32 → Sg → Prop) → Prop) (Mn : Sg → (Sg → Prop) → Prop) (w : Nat) : Nat → Sg → Int32 → (Sg → Prop) → Prop
  | 0 => fun _ _ _ => False
  | d + 1 => GE Mm Mn w (GM Mm Mn w d)
theorem gm_14 : ∀ d, M_X8_goOn_14 d = GM M_X2_matters_14 M_X2_note_14 14 d := by
  intro d
  induction d with
  | zero => rfl
  | succ d ih => show E_X8_goOn_14 (M_X8_goOn_14 d) = GE _ _ _ (GM _ _ _ d); rw [ih]; rfl
theorem gm_20 : ∀ d, M_X8_goOn_20 d = GM M_X0_matters_20 M_X0_note_20 20 d := by
  intro d
  induction d with
  | zero => rfl
  | succ d ih => show E_X8_goOn_20 (M_X8_goOn_20 d) = GE _ _ _ (GM _ _ _ d); rw [ih]; rfl
theorem gm_22 : ∀ d, M_X8_goOn_22 d = GM M_X3_matters_22 M_X3_note_22 22 d := by
  intro d
  induction d with
  | zero => rfl
  | succ d ih => show E_X8_goOn_22 (M_X8_goOn_22 d) = GE _ _ _ (GM _ _ _ d); rw [ih]; rfl
theorem gm_24 : ∀ d, M_X8_goOn_24 d = GM M_X1_matters_24 M_X1_note_24 24 d := by
  intro d
  induction d with
  | zero => rfl
  | succ d ih => show E_X8_goOn_24 (M_X8_goOn_24 d) = GE _ _ _ (GM _ _ _ d); rw [ih]; rfl
/-- the walk: X is the walk's own state behind the cars 'pre' (what is told of places below its length), Y the same with the place itself -/
theorem w_goOn {S : Type} {Mm : Sg → Int32 → (Int32 → Sg → Prop) → Prop} {Mn : Sg → (Sg → Prop) → Prop} {w : Nat} {p : Pl} (ok : POk p) (F : List Nat) (hF : 2 ∉ F ∧ 3 ∉ F ∧ 4 ∉ F ∧ 5 ∉ F ∧ 6 ∉ F) (hF2 : ∀ k, k ∈ [9, 10, 11, 12, 13] → k ∈ F)
    (X Y : Sg → List Nat → S → Prop) (nt : S → List Nat → S) (mt : List Nat → S → Bool)
    (hcars : ∀ f pre s, Y f pre s → f w 2 = nI (tot p))
    (hput : ∀ f g pre s c, Y f pre s → Eqx [9, 10, 11, 12, 13] f g → X g (pre ++ [c]) s)
    (hdrop : ∀ f g pre s c, X f (pre ++ [c]) s → Eqx [9, 13] f g → Y g pre s)
    (hmat : ∀ f pre s (Q : Int32 → Sg → Prop), Fit p pre → P1 f p → RRep f p pre → X f pre s → (mt pre s = true → ∀ g, Eqx F f g → RRep g p pre → Y g pre s → Q 1 g) → (mt pre s = false → ∀ g, Eqx F f g → RRep g p pre → X g pre s → Q 0 g) → Mm f (nI pre.length) Q)
    (hnote : ∀ f pre s (Q : Sg → Prop), Fit p pre → pre.length = tot p → P1 f p → RRep f p pre → Y f pre s → mt pre s = true → (∀ g, Eqx F f g → RRep g p pre → X g pre (nt s pre) → Q g) → Mn f Q)
    (hback : ∀ f pre s, Y f pre s → X f pre s)
    (hprune : ∀ pre s, Fit p pre → mt pre s = false → ∀ t, t ∈ ords (tot p - pre.length) (rem p pre) → nt s (pre ++ t) = s) :
    ∀ (d : Nat) (f : Sg) (pre : List Nat) (s : S) (Q : Sg → Prop), tot p < pre.length + d → Fit p pre → P1 f p → RRep f p pre → X f pre s →
      (∀ g, Eqx F f g → RRep g p pre → X g pre ((ords (tot p - pre.length) (rem p pre)).foldl (fun s t => nt s (pre ++ t)) s) → Q g) → GM Mm Mn w d f (nI pre.length) Q := by
  intro d
  induction d with
  | zero => intro f pre s Q hd hf; have := hf.len; omega
  | succ d ih =>
    intro f pre s Q hd hfit hp hr hX hQ
    have hlen := hfit.len
    have ht := ok.2.2
    show Mm f (nI pre.length) _
    refine hmat f pre s _ hfit hp hr hX (fun hm g hx hrg hY => ⟨fun q => absurd q (by decide), fun _ => ?_⟩) (fun hm g hx hrg hXg => ⟨fun _ => ?_, fun q => absurd rfl q⟩)
    · rw [hcars g pre s hY]
      refine pk_lt pre.length (tot p) (fun hlt => ?_) (fun hge => ?_)
      · obtain ⟨k, hk⟩ : ∃ k, tot p - pre.length = k + 1 := ⟨tot p - pre.length - 1, by omega⟩
        rw [hk] at hQ
        refine pk_loop (fun n i (sg : Sg) => itr2 (GB (GM Mm Mn w d) Q) n sg (nI pre.length) (nI i)) (fun i sg => Eqx F f sg ∧ RRep sg p pre ∧ Y sg pre ((ordu k (rem p pre) i).foldl (fun s t => nt s (pre ++ t)) s)) 5 0 g (Nat.zero_le _) ⟨hx, hrg, hY⟩ ?_ ?_
        · intro n sg e
          exact pk_le 5 5 (fun _ => hQ sg e.1 e.2.1 (hback _ _ _ e.2.2)) (fun q => absurd q (by omega))
        · intro n i sg hi e K
          obtain ⟨e1, e2, e3⟩ := e
          refine pk_le 5 i (fun q => absurd q (by omega)) (fun _ => ⟨pk_in i 5 hi, ?_⟩)
          have hl := hfit.left hi
          obtain ⟨r1, r2⟩ := lf_rng ok (l := pre) (by omega) hi
          rw [pk_cl i, e2.2.2.2.2 i hi, nI_1, iI_le0 (by omega) (by omega), hl]
          refine ⟨fun q => K sg ⟨e1, e2, ?_⟩, fun q => ?_⟩
          · rw [ordu_succ, if_neg (by omega), List.append_nil]; exact e3
          · have hp1 := hp.eqx e1 hF
            refine w_put ok hp1 e2 hfit.1 (by omega) hi (fun g8 r8 x8 => ?_)
            have e8 : Eqx F f g8 := e1.tr (x8.mono hF2)
            have hf8 : Fit p (pre ++ [i]) := hfit.app hi (by omega)
            have hlen8 : (pre ++ [i]).length = pre.length + 1 := by rw [List.length_append]; rfl
            have hk8 : tot p - (pre ++ [i]).length = k := by rw [hlen8]; omega
            rw [nI_1, ← hlen8]
            refine ih g8 (pre ++ [i]) _ _ (by omega) hf8 (hp.eqx e8 hF) r8 (hput _ _ _ _ i e3 x8) (fun g10 x10 r10 X10 => ?_)
            refine w_drop ok r10 (by omega) hi (fun g12 r12 x12 => ?_)
            refine K g12 ⟨e8.tr (x10.tr (x12.mono (fun k hk => hF2 k (by simp at hk ⊢; omega)))), r12, ?_⟩
            have hY12 := hdrop _ _ _ _ _ X10 x12
            rw [hk8, rem_app] at hY12
            rw [ordu_succ, if_pos (by omega), List.foldl_append, List.foldl_map]
            simpa using hY12
      · have e0 : tot p - pre.length = 0 := by omega
        rw [e0] at hQ
        refine hnote g pre s _ hfit (by omega) (hp.eqx hx hF) hrg hY hm (fun g2 x2 r2 X2 => hQ g2 (hx.tr x2) r2 ?_)
        simpa [ords] using X2
    · refine hQ g hx hrg ?_
      have : ∀ (L : List (List Nat)), (∀ t, t ∈ L → nt s (pre ++ t) = s) → L.foldl (fun s t => nt s (pre ++ t)) s = s := by
        intro L
        induction L with
        | nil => intro _; rfl
        | cons a L ihL =>
          intro h
          rw [List.foldl_cons, h a List.mem_cons_self]
          exact ihL (fun t ht => h t (List.mem_cons_of_mem _ ht))
      rw [this _ (hprune pre s hfit hm)]
      exact hXg
