/-! how many orders there are: the class's product against the list -/
def oc1 : Nat → Nat × Nat → Nat × Nat
  | 0, s => s
  | k + 1, s => ((oc1 k s).1 * ((oc1 k s).2 + 1) / (k + 1), (oc1 k s).2 + 1)
def oc (d : Nat → Nat) : Nat → Nat × Nat
  | 0 => (1, 0)
  | n + 1 => oc1 (d n) (oc d n)
def v5 (a b c d e : Nat) : Nat → Nat := fun i => if i = 0 then a else if i = 1 then b else if i = 2 then c else if i = 3 then d else if i = 4 then e else 0
def ocv (a b c d e : Nat) : Nat := (oc (v5 a b c d e) 5).1
theorem oc_rec : ∀ a, a < 10 → ∀ b, b < 10 - a → ∀ c, c < 10 - a - b → ∀ d, d < 10 - a - b - c → ∀ e, e < 10 - a - b - c - d →
    ocv a b c d e = if a + b + c + d + e = 0 then 1 else ((((0 + (if 0 < a then ocv (a - 1) b c d e else 0)) + (if 0 < b then ocv a (b - 1) c d e else 0)) + (if 0 < c then ocv a b (c - 1) d e else 0)) + (if 0 < d then ocv a b c (d - 1) e else 0)) + (if 0 < e then ocv a b c d (e - 1) else 0) := by decide +kernel
theorem oc_bnd : ∀ a, a < 10 → ∀ b, b < 10 - a → ∀ c, c < 10 - a - b → ∀ d, d < 10 - a - b - c → ∀ e, e < 10 - a - b - c - d → ∀ n, n < 6 → (oc (v5 a b c d e) n).1 ≤ 22680 := by decide +kernel
theorem oc_congr {d e : Nat → Nat} : ∀ n, (∀ i, i < n → d i = e i) → oc d n = oc e n := by
  intro n
  induction n with
  | zero => intro _; rfl
  | succ n ih =>
    intro h
    show oc1 (d n) (oc d n) = oc1 (e n) (oc e n)
    rw [h n (by omega), ih (fun i hi => h i (by omega))]
theorem v5_at (d : Nat → Nat) : ∀ i, i < 5 → d i = v5 (d 0) (d 1) (d 2) (d 3) (d 4) i := by
  intro i hi
  rcases (show i = 0 ∨ i = 1 ∨ i = 2 ∨ i = 3 ∨ i = 4 by omega) with rfl | rfl | rfl | rfl | rfl <;> rfl
theorem oc_ocv (d : Nat → Nat) : (oc d 5).1 = ocv (d 0) (d 1) (d 2) (d 3) (d 4) := by
  unfold ocv
  rw [oc_congr 5 (v5_at d)]
theorem oc_cars (d : Nat → Nat) : ∀ n, (oc d n).2 = sm d n := by
  have h1 : ∀ k s, (oc1 k s).2 = s.2 + k := by
    intro k
    induction k with
    | zero => intro s; rfl
    | succ k ih => intro s; show (oc1 k s).2 + 1 = _; rw [ih]; omega
  intro n
  induction n with
  | zero => rfl
  | succ n ih => show (oc1 (d n) (oc d n)).2 = _; rw [h1, ih, sm_succ]
theorem oc1_cars (k : Nat) (s : Nat × Nat) : (oc1 k s).2 = s.2 + k := by
  induction k with
  | zero => rfl
  | succ k ih => show (oc1 k s).2 + 1 = _; rw [ih]; omega
theorem ordu_length (n : Nat) (d : Nat → Nat) : (ords (n + 1) d).length = ((((0 + (if 0 < d 0 then (ords n (decr d 0)).length else 0)) + (if 0 < d 1 then (ords n (decr d 1)).length else 0)) + (if 0 < d 2 then (ords n (decr d 2)).length else 0)) + (if 0 < d 3 then (ords n (decr d 3)).length else 0)) + (if 0 < d 4 then (ords n (decr d 4)).length else 0) := by
  have h : ∀ c, (if 0 < d c then (ords n (decr d c)).map (fun t => c :: t) else []).length = if 0 < d c then (ords n (decr d c)).length else 0 := by
    intro c
    split
    · rw [List.length_map]
    · rfl
  rw [ords_succ, ordu_succ, ordu_succ, ordu_succ, ordu_succ, ordu_succ, List.length_append, List.length_append, List.length_append, List.length_append, List.length_append, h, h, h, h, h]
  rfl
theorem ords_oc : ∀ (n : Nat) (d : Nat → Nat), sm d 5 = n → n ≤ 9 → (ords n d).length = (oc d 5).1 := by
  intro n
  induction n with
  | zero =>
    intro d hd _
    simp only [sm] at hd
    have r := oc_rec (d 0) (by omega) (d 1) (by omega) (d 2) (by omega) (d 3) (by omega) (d 4) (by omega)
    rw [oc_ocv, r, if_pos (by omega)]
    rfl
  | succ n ih =>
    intro d hd hn
    have hd' := hd
    simp only [sm] at hd
    have r := oc_rec (d 0) (by omega) (d 1) (by omega) (d 2) (by omega) (d 3) (by omega) (d 4) (by omega)
    rw [oc_ocv, r, if_neg (by omega), ordu_length]
    have step : ∀ c, c < 5 → 0 < d c → (ords n (decr d c)).length = ocv (decr d c 0) (decr d c 1) (decr d c 2) (decr d c 3) (decr d c 4) := by
      intro c hc h0
      have := sm_decr hc h0
      rw [ih (decr d c) (by omega) (by omega), oc_ocv]
    have e0 : (if 0 < d 0 then (ords n (decr d 0)).length else 0) = if 0 < d 0 then ocv (d 0 - 1) (d 1) (d 2) (d 3) (d 4) else 0 := by
      split
      · rename_i q; rw [step 0 (by omega) q]; rfl
      · rfl
    have e1 : (if 0 < d 1 then (ords n (decr d 1)).length else 0) = if 0 < d 1 then ocv (d 0) (d 1 - 1) (d 2) (d 3) (d 4) else 0 := by
      split
      · rename_i q; rw [step 1 (by omega) q]; rfl
      · rfl
    have e2 : (if 0 < d 2 then (ords n (decr d 2)).length else 0) = if 0 < d 2 then ocv (d 0) (d 1) (d 2 - 1) (d 3) (d 4) else 0 := by
      split
      · rename_i q; rw [step 2 (by omega) q]; rfl
      · rfl
    have e3 : (if 0 < d 3 then (ords n (decr d 3)).length else 0) = if 0 < d 3 then ocv (d 0) (d 1) (d 2) (d 3 - 1) (d 4) else 0 := by
      split
      · rename_i q; rw [step 3 (by omega) q]; rfl
      · rfl
    have e4 : (if 0 < d 4 then (ords n (decr d 4)).length else 0) = if 0 < d 4 then ocv (d 0) (d 1) (d 2) (d 3) (d 4 - 1) else 0 := by
      split
      · rename_i q; rw [step 4 (by omega) q]; rfl
      · rfl
    rw [e0, e1, e2, e3, e4]
theorem oc1_bnd {d : Nat → Nat} (hd : sm d 5 ≤ 9) {n k : Nat} (hn : n < 5) (hk : k ≤ d n) : (oc1 k (oc d n)).1 ≤ 22680 := by
  obtain ⟨e, he⟩ : ∃ e : Nat → Nat, e = fun i => if i = n then k else d i := ⟨_, rfl⟩
  have h1 : oc1 k (oc d n) = oc e (n + 1) := by
    show _ = oc1 (e n) (oc e n)
    have a : e n = k := by rw [he]; exact if_pos rfl
    have b : oc e n = oc d n := oc_congr n (fun i hi => by rw [he]; exact if_neg (by omega))
    rw [a, b]
  have h2 : sm e 5 ≤ sm d 5 := sm_le (fun i _ => by
    rw [he]
    by_cases q : i = n
    · show (if i = n then k else d i) ≤ _; rw [if_pos q, q]; exact hk
    · show (if i = n then k else d i) ≤ _; rw [if_neg q]; exact Nat.le_refl _)
  have h3 := h2
  simp only [sm] at h3 hd
  have := oc_bnd (e 0) (by omega) (e 1) (by omega) (e 2) (by omega) (e 3) (by omega) (e 4) (by omega) (n + 1) (by omega)
  rw [h1, oc_congr (n + 1) (fun i hi => v5_at e i (by omega))]
  exact this
theorem w_orderCount {f : Sg} {p : Pl} {Q : Int32 → Sg → Prop} (ok : POk p) (hp : P1 f p) (h : Q (nI (AO p).length) f) : M_X5_orderCount_1 f Q := by
  have ht := ok.2.2
  have hA : (AO p).length = (oc (pDm p) 5).1 := ords_oc (tot p) (pDm p) rfl ht
  refine pk_loop (fun n c (s : Int32 × Int32) => itr3 (B_X5_orderCount_1_6 Q) n f s.1 s.2 (nI c)) (fun c s => s.1 = nI (oc (pDm p) c).1 ∧ s.2 = nI (oc (pDm p) c).2) 5 0 (1, 0) (Nat.zero_le _) ⟨rfl, rfl⟩ ?_ ?_
  · intro n s e
    refine pk_le 5 5 (fun _ => ?_) (fun q => absurd q (by omega))
    rw [e.1, ← hA]; exact h
  · intro n c s hc e K
    refine pk_le 5 c (fun q => absurd q (by omega)) (fun _ => ?_)
    have hdm := ok.dm hc
    have hcar : (oc (pDm p) c).2 + pDm p c ≤ 9 := by
      rw [oc_cars]
      have := sm_mono (pDm p) (m := c + 1) (n := 5) hc
      rw [sm_succ] at this
      have h5 : sm (pDm p) 5 = tot p := rfl
      omega
    refine pk_loop (fun m k (s : Int32 × Int32) => itr4 (B_X5_orderCount_1_14 Q (itr3 (B_X5_orderCount_1_6 Q) n)) m f s.1 s.2 (nI c) (nI (k + 1))) (fun k s => s.1 = nI (oc1 k (oc (pDm p) c)).1 ∧ s.2 = nI (oc1 k (oc (pDm p) c)).2) (pDm p c) 0 s (Nat.zero_le _) e ?_ ?_
    · intro m s2 e2
      unfold itr4 B_X5_orderCount_1_14
      refine ⟨pk_in c 5 hc, ?_⟩
      rw [pk_cl c, (hp.2 c hc).2, nI_1 c]
      exact pk_lt _ _ (fun _ => K s2 e2) (fun q => absurd q (by omega)) rfl rfl
    · intro m k s2 hk e2 K2
      unfold itr4 B_X5_orderCount_1_14
      refine ⟨pk_in c 5 hc, ?_⟩
      rw [pk_cl c, (hp.2 c hc).2, nI_1 (k + 1), e2.1, e2.2, nI_1 (oc1 k (oc (pDm p) c)).2]
      have hb := oc1_bnd (d := pDm p) ht hc (k := k) (by omega)
      have hc2 : (oc1 k (oc (pDm p) c)).2 + 1 ≤ 9 := by rw [oc1_cars]; omega
      have hprod : (oc1 k (oc (pDm p) c)).1 * ((oc1 k (oc (pDm p) c)).2 + 1) ≤ 22680 * 9 := Nat.mul_le_mul hb hc2
      refine pk_lt _ _ (fun q => absurd q (by omega)) (fun _ => ⟨nI_ne0 (by omega) (by omega), fun z5 e5 => ?_⟩) rfl rfl
      refine K2 (z5, nI ((oc1 k (oc (pDm p) c)).2 + 1)) ⟨?_, rfl⟩
      show z5 = _
      rw [e5, pk_mul, pk_div (by omega) (by omega) (by omega)]
      rfl
/-! the least: class and reference find the same -/
theorem least_sim (p : Pl) (r0 : Nat) (hr : r0 ≤ 36) (L : List (List Nat)) (hL : ∀ o, o ∈ L → o.length ≤ 9) (hlen : L.length < 2000000) :
    ((sL p L).1 ≤ r0 ∧ (L.foldl (nt20 p) (r0, 0, [])) = ((sL p L).1, (sL p L).2.1, (sL p L).2.2.1) ∧ ∃ c, 1 ≤ c ∧ c ≤ L.length ∧ (sL p L).2.1 = nI c) ∨ (r0 < (sL p L).1 ∧ (L.foldl (nt20 p) (r0, 0, [])).1 = r0 ∧ (L.foldl (nt20 p) (r0, 0, [])).2.1 = 0) := by
  revert hL hlen
  refine list_snoc_ind (P := fun L => (∀ o, o ∈ L → o.length ≤ 9) → L.length < 2000000 → ((sL p L).1 ≤ r0 ∧ (L.foldl (nt20 p) (r0, 0, [])) = ((sL p L).1, (sL p L).2.1, (sL p L).2.2.1) ∧ ∃ c, 1 ≤ c ∧ c ≤ L.length ∧ (sL p L).2.1 = nI c) ∨ (r0 < (sL p L).1 ∧ (L.foldl (nt20 p) (r0, 0, [])).1 = r0 ∧ (L.foldl (nt20 p) (r0, 0, [])).2.1 = 0)) ?_ ?_ L
  · intro _ _
    exact Or.inr ⟨by show r0 < 1000; omega, rfl, rfl⟩
  · intro L o ih hL hlen
    rw [List.length_append, List.length_singleton] at hlen
    have hb := bks_le p (l := o) (hL o (by simp))
    rw [sL_app, List.foldl_append, List.foldl_cons, List.foldl_nil]
    have ih := ih (fun x hx => hL x (by simp [hx])) (by omega)
    generalize hs : sL p L = s at ih ⊢
    generalize hc : L.foldl (nt20 p) (r0, 0, []) = c at ih ⊢
    rcases ih with ⟨i1, i2, k, k1, k2, k3⟩ | ⟨i1, i2, i3⟩
    · left
      have hk0 : ¬ s.2.1 = 0 := by rw [k3]; exact nI_ne0 (by omega) (by omega)
      rw [i2]
      unfold nt20 ntL
      rcases Nat.lt_trichotomy (bks p o) s.1 with q | q | q
      · simp only [if_pos q, if_neg (show ¬ s.1 < bks p o by omega), if_pos (Or.inr q : s.2.1 = 0 ∨ bks p o < s.1)]
        exact ⟨by omega, by first | rfl | trivial, 1, by omega, by simp, by first | rfl | trivial⟩
      · simp only [if_neg (show ¬ bks p o < s.1 by omega), if_neg (show ¬ s.1 < bks p o by omega), if_neg (show ¬ (s.2.1 = 0 ∨ bks p o < s.1) by rintro (w | w); exact hk0 w; omega), if_pos q]
        exact ⟨i1, by first | rfl | trivial, k + 1, by omega, by simp; omega, by rw [k3, nI_1]⟩
      · simp only [if_neg (show ¬ bks p o < s.1 by omega), if_pos q, if_neg (show ¬ bks p o = s.1 by omega)]
        have e0 : s.2.1 + 0 = s.2.1 := by rw [k3, show (0 : Int32) = nI 0 from rfl, nI_add]; rfl
        rw [e0]
        exact ⟨i1, by first | rfl | trivial, k, k1, by simp; omega, k3⟩
    · unfold nt20 ntL
      rw [i2, i3]
      by_cases q : r0 < bks p o
      · right
        simp only [if_pos q]
        refine ⟨?_, i2, i3⟩
        show r0 < if bks p o < s.1 then bks p o else s.1
        split <;> omega
      · left
        have q2 : bks p o < s.1 := by omega
        simp only [if_neg q, if_pos (Or.inl rfl : (0 : Int32) = 0 ∨ bks p o < r0), if_pos q2]
        exact ⟨by omega, by first | rfl | trivial, 1, by omega, by simp, by first | rfl | trivial⟩
theorem sL_min (p : Pl) (L : List (List Nat)) : ∀ o, o ∈ L → (sL p L).1 ≤ bks p o := by
  refine list_snoc_ind (P := fun L => ∀ o, o ∈ L → (sL p L).1 ≤ bks p o) (fun o ho => by simp at ho) (fun L o ih x hx => ?_) L
  rw [sL_app]
  have h : (ntL p (sL p L) o).1 = if bks p o < (sL p L).1 then bks p o else (sL p L).1 := rfl
  rw [h]
  rcases List.mem_append.mp hx with q | q
  · have := ih x q
    split <;> omega
  · have : x = o := by simpa using q
    rw [this]
    split <;> omega
theorem least_eq {p : Pl} (ok : POk p) : fw p = ((sL p (AO p)).1, (sL p (AO p)).2.1, (sL p (AO p)).2.2.1) ∧ (sL p (AO p)).1 < 1000 := by
  have ht := ok.2.2
  obtain ⟨i1, i2, i3⟩ := rlr_ok (p := p) (tot p) (Nat.le_refl _)
  have hb := bks_le p (l := rlr p (tot p)) (by omega)
  have hmem : rlr p (tot p) ∈ AO p := ords_all (tot p) (pDm p) _ i1 i2.mem (fun c hc => by
    have := i3 c hc
    unfold lf at this
    omega)
  have hmin := sL_min p (AO p) _ hmem
  have hlen := AO_len ok
  rcases least_sim p (bks p (rlr p (tot p))) hb (AO p) (fun o ho => by rw [(AO_mem ho).1]; exact ht) (by omega) with ⟨a, b, _⟩ | ⟨a, _, _⟩
  · exact ⟨b, by omega⟩
  · omega
theorem most_eq (p : Pl) : ms p = (sL p (AO p)).2.2.2.1 := by
  have : ∀ L : List (List Nat), L.foldl (nt22 p) 0 = (sL p L).2.2.2.1 := by
    intro L
    refine list_snoc_ind (P := fun L => L.foldl (nt22 p) 0 = (sL p L).2.2.2.1) rfl (fun L o ih => ?_) L
    rw [List.foldl_append, List.foldl_cons, List.foldl_nil, sL_app, ih]
    rfl
  exact this _
theorem all_eq (p : Pl) : (sL p (AO p)).2.2.2.2 = nI (AO p).length := by
  have : ∀ L : List (List Nat), (sL p L).2.2.2.2 = nI L.length := by
    intro L
    refine list_snoc_ind (P := fun L => (sL p L).2.2.2.2 = nI L.length) rfl (fun L o ih => ?_) L
    rw [sL_app, List.length_append, List.length_singleton, ← nI_1, ← ih]
    rfl
  exact this _
