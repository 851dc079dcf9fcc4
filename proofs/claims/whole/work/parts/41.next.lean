/-! the next order -/
/-- classes lo .. lo + k - 1, the greatest first, each as often as d has it -/
def dsr (d : Nat → Nat) (lo : Nat) : Nat → List Nat
  | 0 => []
  | k + 1 => List.replicate (d (lo + k)) (lo + k) ++ dsr d lo k
def nInc (l : List Nat) : Prop := l.Pairwise (fun x y => y ≤ x)
def Nx (l l' : List Nat) : Prop := ∃ (u : List Nat) (a : Nat) (X : List Nat) (b : Nat) (Y : List Nat), l = u ++ a :: (X ++ b :: Y) ∧ nInc (X ++ b :: Y) ∧ a < b ∧ (∀ y, y ∈ Y → y ≤ a) ∧ l' = u ++ b :: (X ++ a :: Y).reverse
theorem Nx.cons {l l' : List Nat} (c : Nat) (h : Nx l l') : Nx (c :: l) (c :: l') := by
  obtain ⟨u, a, X, b, Y, h1, h2, h3, h4, h5⟩ := h
  exact ⟨c :: u, a, X, b, Y, by rw [h1]; rfl, h2, h3, h4, by rw [h5]; rfl⟩
def Chn : List (List Nat) → Prop
  | [] => True
  | [_] => True
  | a :: b :: L => Nx a b ∧ Chn (b :: L)
theorem Chn.map {L : List (List Nat)} (c : Nat) (h : Chn L) : Chn (L.map (fun t => c :: t)) := by
  induction L with
  | nil => trivial
  | cons a L ih =>
    cases L with
    | nil => trivial
    | cons b L => exact ⟨h.1.cons c, ih h.2⟩
theorem Chn.app {L M : List (List Nat)} (h1 : Chn L) (h2 : Chn M) (h : ∀ a b, L.getLast? = some a → M.head? = some b → Nx a b) : Chn (L ++ M) := by
  induction L with
  | nil => exact h2
  | cons a L ih =>
    cases L with
    | nil =>
      cases M with
      | nil => trivial
      | cons b M => exact ⟨h a b rfl rfl, h2⟩
    | cons b L => exact ⟨h1.1, ih h1.2 (fun x y hx hy => h x y (by rw [List.getLast?_cons_cons]; exact hx) hy)⟩
theorem dsr_congr {d e : Nat → Nat} {lo : Nat} : ∀ k, (∀ j, j < k → d (lo + j) = e (lo + j)) → dsr d lo k = dsr e lo k := by
  intro k
  induction k with
  | zero => intro _; rfl
  | succ k ih =>
    intro h
    show List.replicate _ _ ++ _ = List.replicate _ _ ++ _
    rw [h k (by omega), ih (fun j hj => h j (by omega))]
theorem dsr_add (d : Nat → Nat) (lo a : Nat) : ∀ b, dsr d lo (a + b) = dsr d (lo + a) b ++ dsr d lo a := by
  intro b
  induction b with
  | zero => rfl
  | succ b ih =>
    show List.replicate (d (lo + (a + b))) (lo + (a + b)) ++ dsr d lo (a + b) = (List.replicate (d (lo + a + b)) (lo + a + b) ++ dsr d (lo + a) b) ++ dsr d lo a
    rw [ih, Nat.add_assoc lo a b, List.append_assoc]
theorem dsr_zero {d : Nat → Nat} {lo : Nat} : ∀ k, (∀ j, j < k → d (lo + j) = 0) → dsr d lo k = [] := by
  intro k
  induction k with
  | zero => intro _; rfl
  | succ k ih =>
    intro h
    show List.replicate _ _ ++ _ = _
    rw [h k (by omega), ih (fun j hj => h j (by omega))]
    rfl
theorem dsr_mem {d : Nat → Nat} {lo : Nat} : ∀ k x, x ∈ dsr d lo k → lo ≤ x ∧ x < lo + k := by
  intro k
  induction k with
  | zero => intro x hx; simp [dsr] at hx
  | succ k ih =>
    intro x hx
    rcases List.mem_append.mp hx with h | h
    · have := List.eq_of_mem_replicate h
      omega
    · have := ih x h
      omega
theorem dsr_ninc (d : Nat → Nat) (lo : Nat) : ∀ k, nInc (dsr d lo k) := by
  intro k
  induction k with
  | zero => exact List.Pairwise.nil
  | succ k ih =>
    refine List.pairwise_append.mpr ⟨List.pairwise_replicate.mpr (Or.inr (Nat.le_refl _)), ih, fun x hx y hy => ?_⟩
    have h1 := List.eq_of_mem_replicate hx
    have h2 := dsr_mem k y hy
    omega
theorem decr_self {d : Nat → Nat} {c : Nat} : decr d c c = d c - 1 := if_pos rfl
theorem decr_ne {d : Nat → Nat} {c x : Nat} (h : x ≠ c) : decr d c x = d x := if_neg h
theorem sm_decr {d : Nat → Nat} {c : Nat} (hc : c < 5) (h : 0 < d c) : sm (decr d c) 5 + 1 = sm d 5 := by
  simp only [sm, decr]
  rcases (show c = 0 ∨ c = 1 ∨ c = 2 ∨ c = 3 ∨ c = 4 by omega) with rfl | rfl | rfl | rfl | rfl <;> simp <;> omega
/-- the parts of dsr d 0 5 around class c -/
theorem dsr_at (d : Nat → Nat) {c : Nat} (hc : c < 5) : dsr d 0 5 = dsr d (c + 1) (4 - c) ++ (List.replicate (d c) c ++ dsr d 0 c) := by
  have h1 := dsr_add d 0 (c + 1) (4 - c)
  rw [show c + 1 + (4 - c) = 5 by omega, Nat.zero_add] at h1
  rw [h1]
  congr 1
  show List.replicate (d (0 + c)) (0 + c) ++ _ = _
  rw [Nat.zero_add]
theorem nx_step {d : Nat → Nat} {c i : Nat} (hci : c < i) (hi : i < 5) (h0 : 0 < d c) (h1 : 0 < d i) (hz : ∀ x, c < x → x < i → d x = 0) : Nx (c :: dsr (decr d c) 0 5) (i :: (dsr (decr d i) 0 5).reverse) := by
  have mid : ∀ e : Nat → Nat, (∀ x, c < x → x < i → e x = 0) → dsr e 0 i = List.replicate (e c) c ++ dsr e 0 c := by
    intro e he
    have h2 := dsr_add e 0 (c + 1) (i - c - 1)
    rw [show c + 1 + (i - c - 1) = i by omega] at h2
    rw [h2, dsr_zero (i - c - 1) (fun j hj => he _ (by omega) (by omega))]
    show [] ++ (List.replicate (e (0 + c)) (0 + c) ++ _) = _
    rw [Nat.zero_add]; rfl
  have eA : dsr (decr d c) 0 5 = dsr d (i + 1) (4 - i) ++ (List.replicate (d i) i ++ (List.replicate (d c - 1) c ++ dsr d 0 c)) := by
    rw [dsr_at _ hi, mid (decr d c) (fun x a b => by rw [decr_ne (by omega)]; exact hz x a b), decr_self, decr_ne (show i ≠ c by omega)]
    rw [dsr_congr (e := d) (4 - i) (fun j hj => decr_ne (by omega)), dsr_congr (e := d) (lo := 0) c (fun j hj => decr_ne (by omega))]
  have eB : dsr (decr d i) 0 5 = dsr d (i + 1) (4 - i) ++ (List.replicate (d i - 1) i ++ (List.replicate (d c) c ++ dsr d 0 c)) := by
    rw [dsr_at _ hi, mid (decr d i) (fun x a b => by rw [decr_ne (by omega)]; exact hz x a b), decr_self, decr_ne (show c ≠ i by omega)]
    rw [dsr_congr (e := d) (4 - i) (fun j hj => decr_ne (by omega)), dsr_congr (e := d) (lo := 0) c (fun j hj => decr_ne (by omega))]
  obtain ⟨m, hm⟩ : ∃ m, d i = m + 1 := ⟨d i - 1, by omega⟩
  obtain ⟨k, hk⟩ : ∃ k, d c = k + 1 := ⟨d c - 1, by omega⟩
  have hw : dsr (decr d c) 0 5 = (dsr d (i + 1) (4 - i) ++ List.replicate m i) ++ i :: (List.replicate (d c - 1) c ++ dsr d 0 c) := by
    rw [eA, hm, List.replicate_succ', List.append_assoc, List.append_assoc]; simp
  refine ⟨[], c, dsr d (i + 1) (4 - i) ++ List.replicate m i, i, List.replicate (d c - 1) c ++ dsr d 0 c, by rw [hw]; rfl, by rw [← hw]; exact dsr_ninc _ _ _, hci, fun y hy => ?_, ?_⟩
  · rcases List.mem_append.mp hy with h | h
    · have := List.eq_of_mem_replicate h; omega
    · have := dsr_mem c y h; omega
  · rw [eB, hm, hk]
    simp [List.replicate_succ]
theorem dsr_first {d : Nat → Nat} {c : Nat} (hc : c < 5) (h0 : 0 < d c) (hz : ∀ x, x < c → d x = 0) : dsr d 0 5 = dsr (decr d c) 0 5 ++ [c] := by
  have e1 : dsr d 0 c = [] := dsr_zero c (fun j hj => hz _ (by omega))
  have e2 : dsr (decr d c) 0 c = [] := dsr_zero c (fun j hj => by rw [decr_ne (by omega)]; exact hz _ (by omega))
  obtain ⟨k, hk⟩ : ∃ k, d c = k + 1 := ⟨d c - 1, by omega⟩
  rw [dsr_at d hc, dsr_at (decr d c) hc, e1, e2, decr_self, dsr_congr (e := decr d c) (4 - c) (fun j hj => (decr_ne (by omega)).symm), hk, List.replicate_succ']
  simp
theorem dsr_last {d : Nat → Nat} {c : Nat} (hc : c < 5) (h0 : 0 < d c) (hz : ∀ x, c < x → x < 5 → d x = 0) : dsr d 0 5 = c :: dsr (decr d c) 0 5 := by
  have e1 : dsr d (c + 1) (4 - c) = [] := dsr_zero _ (fun j hj => hz _ (by omega) (by omega))
  have e2 : dsr (decr d c) (c + 1) (4 - c) = [] := dsr_zero _ (fun j hj => by rw [decr_ne (by omega)]; exact hz _ (by omega) (by omega))
  obtain ⟨k, hk⟩ : ∃ k, d c = k + 1 := ⟨d c - 1, by omega⟩
  rw [dsr_at d hc, dsr_at (decr d c) hc, e1, e2, decr_self, dsr_congr (e := decr d c) (lo := 0) c (fun j hj => (decr_ne (by omega)).symm), hk, List.replicate_succ]
  rfl
/-- the orders are a chain, from the least to the greatest -/
theorem ords_chn : ∀ (n : Nat) (d : Nat → Nat), sm d 5 = n → Chn (ords n d) ∧ (ords n d).head? = some (dsr d 0 5).reverse ∧ (ords n d).getLast? = some (dsr d 0 5) := by
  intro n
  induction n with
  | zero =>
    intro d hd
    have hz : dsr d 0 5 = [] := dsr_zero 5 (fun j hj => by
      have := sm_part d (i := j) (n := 5) hj
      rw [Nat.zero_add]; omega)
    rw [hz]
    exact ⟨trivial, rfl, rfl⟩
  | succ n ih =>
    intro d hd
    have key : ∀ i, i ≤ 5 → Chn (ordu n d i) ∧ (∀ x, (ordu n d i).getLast? = some x → ∃ c, c < i ∧ 0 < d c ∧ (∀ y, c < y → y < i → d y = 0) ∧ x = c :: dsr (decr d c) 0 5) ∧ (∀ x, (ordu n d i).head? = some x → ∃ c, c < i ∧ 0 < d c ∧ (∀ y, y < c → d y = 0) ∧ x = c :: (dsr (decr d c) 0 5).reverse) ∧ (ordu n d i = [] → ∀ y, y < i → d y = 0) := by
      intro i
      induction i with
      | zero => intro _; exact ⟨trivial, fun x hx => by simp [ordu] at hx, fun x hx => by simp [ordu] at hx, fun _ y hy => absurd hy (Nat.not_lt_zero _)⟩
      | succ i ihi =>
        intro hi
        obtain ⟨k1, k2, k3, k4⟩ := ihi (by omega)
        rw [ordu_succ]
        by_cases h0 : 0 < d i
        · rw [if_pos h0]
          obtain ⟨j1, j2, j3⟩ := ih (decr d i) (by have := sm_decr (d := d) (c := i) (by omega) h0; omega)
          have hne : ords n (decr d i) ≠ [] := fun q => by rw [q] at j2; cases j2
          have hlast : ((ords n (decr d i)).map (fun t => i :: t)).getLast? = some (i :: dsr (decr d i) 0 5) := by rw [List.getLast?_map, j3]; rfl
          have hhead : ((ords n (decr d i)).map (fun t => i :: t)).head? = some (i :: (dsr (decr d i) 0 5).reverse) := by rw [List.head?_map, j2]; rfl
          refine ⟨k1.app (j1.map i) (fun a b ha hb => ?_), fun x hx => ?_, fun x hx => ?_, fun q => ?_⟩
          · obtain ⟨c, c1, c2, c3, rfl⟩ := k2 a ha
            rw [hhead] at hb
            cases hb
            exact nx_step c1 (by omega) c2 h0 c3
          · rw [List.getLast?_append, hlast] at hx
            simp at hx
            exact ⟨i, by omega, h0, fun y a b => by omega, hx.symm⟩
          · by_cases q : ordu n d i = []
            · rw [q, List.nil_append, hhead] at hx
              cases hx
              exact ⟨i, by omega, h0, k4 q, rfl⟩
            · have hz : (ordu n d i ++ (ords n (decr d i)).map (fun t => i :: t)).head? = (ordu n d i).head? := by
                cases hL : ordu n d i with
                | nil => exact absurd hL q
                | cons a L => rfl
              rw [hz] at hx
              obtain ⟨c, c1, c2, c3, c4⟩ := k3 x hx
              exact ⟨c, by omega, c2, c3, c4⟩
          · have := List.append_eq_nil_iff.mp q
            exact absurd (List.map_eq_nil_iff.mp this.2) hne
        · rw [if_neg h0, List.append_nil]
          refine ⟨k1, fun x hx => ?_, fun x hx => ?_, fun q y hy => ?_⟩
          · obtain ⟨c, c1, c2, c3, c4⟩ := k2 x hx
            refine ⟨c, by omega, c2, fun y a b => ?_, c4⟩
            rcases Nat.lt_or_ge y i with w | w
            · exact c3 y a w
            · have : y = i := by omega
              rw [this]; omega
          · obtain ⟨c, c1, c2, c3, c4⟩ := k3 x hx
            exact ⟨c, by omega, c2, c3, c4⟩
          · rcases Nat.lt_or_ge y i with w | w
            · exact k4 q y w
            · have : y = i := by omega
              rw [this]; omega
    obtain ⟨k1, k2, k3, k4⟩ := key 5 (Nat.le_refl _)
    rw [ords_succ]
    have hne : ordu n d 5 ≠ [] := by
      intro q
      have := k4 q
      have h0 := this 0 (by omega); have h1 := this 1 (by omega); have h2 := this 2 (by omega); have h3 := this 3 (by omega); have h4 := this 4 (by omega)
      simp [sm, h0, h1, h2, h3, h4] at hd
    refine ⟨k1, ?_, ?_⟩
    · cases hh : (ordu n d 5).head? with
      | none => exact absurd (List.head?_eq_none_iff.mp hh) hne
      | some x =>
        obtain ⟨c, c1, c2, c3, c4⟩ := k3 x hh
        rw [c4, dsr_first c1 c2 c3, List.reverse_append]
        rfl
    · cases hh : (ordu n d 5).getLast? with
      | none => exact absurd (List.getLast?_eq_none_iff.mp hh) hne
      | some x =>
        obtain ⟨c, c1, c2, c3, c4⟩ := k2 x hh
        rw [c4, dsr_last c1 c2 c3]
