/-! the reference: its numbers -/
def R1 (h : Nat → Int32) (p : Pl) : Prop := (∀ i, i < 4 → h i = nI (pMy p i) ∧ h (4 + i) = nI (pOf p i)) ∧ ∀ c, c < 5 → h (8 + c) = nI (pSt p c) ∧ h (13 + c) = nI (pDm p c)
def RowF (h : Nat → Int32) (l : List Nat) : Prop := ∀ i, i < l.length → h i = nI (l.getD i 0)
theorem ad0 (i : Nat) : (0 : Int32) + nI i = nI i := by rw [show (0 : Int32) = nI 0 from rfl, nI_add, Nat.zero_add]
theorem ad4 (i : Nat) : (4 : Int32) + nI i = nI (4 + i) := by rw [show (4 : Int32) = nI 4 from rfl, nI_add]
theorem ad8 (i : Nat) : (8 : Int32) + nI i = nI (8 + i) := by rw [show (8 : Int32) = nI 8 from rfl, nI_add]
theorem ad13 (i : Nat) : (13 : Int32) + nI i = nI (13 + i) := by rw [show (13 : Int32) = nI 13 from rfl, nI_add]
theorem r_in {f : Sg} {x a b : Int32} {Q : Int32 → Sg → Prop} (h1 : ¬ x < a → ¬ b < x → Q 1 f) (h0 : (x < a ∨ b < x) → Q 0 f) : M_X10_in f x a b Q := by
  unfold M_X10_in J_X10_in_14 J_X10_in_15
  exact ⟨fun c => ⟨rfl, h0 (Or.inl c)⟩, fun c => ⟨fun c2 => ⟨rfl, h0 (Or.inr c2)⟩, fun c2 => ⟨rfl, h1 c c2⟩⟩⟩
/-- one of the first n, or none of them -/
theorem r_inN {f : Sg} {x : Int32} (n : Nat) (hn : 1 ≤ n) (h31 : n < 1000) {b : Int32} (hb : b = nI (n - 1)) {Q : Int32 → Sg → Prop} (h1 : ∀ i, i < n → x = nI i → Q 1 f) (h0 : (∀ i, i < n → x ≠ nI i) → Q 0 f) : M_X10_in f x 0 b Q := by
  refine r_in (fun c1 c2 => ?_) (fun c => h0 (fun i hi e => ?_))
  · rcases pk_ix x (n := n) (by omega) with q | q | ⟨j, hj, e⟩
    · exact absurd q c1
    · refine absurd ?_ c2
      rw [hb]
      exact Int32.lt_of_lt_of_le (nI_lt (a := n - 1) (b := n) (by omega) (by omega)) q
    · exact h1 j hj e
  · rw [e, hb] at c
    rcases c with c | c
    · exact absurd c (nI_pos (by omega))
    · exact absurd c (nI_nlt (a := n - 1) (b := i) (by omega) (by omega))
theorem r_isOption {f : Sg} {x : Int32} {Q : Int32 → Sg → Prop} (h1 : ∀ i, i < 4 → x = nI i → Q 1 f) (h0 : (∀ i, i < 4 → x ≠ nI i) → Q 0 f) : M_X10_isOption f x Q := r_inN 4 (by omega) (by omega) rfl (fun i hi e => ⟨rfl, h1 i hi e⟩) (fun h => ⟨rfl, h0 h⟩)
theorem r_isClass {f : Sg} {x : Int32} {Q : Int32 → Sg → Prop} (h1 : ∀ i, i < 5 → x = nI i → Q 1 f) (h0 : (∀ i, i < 5 → x ≠ nI i) → Q 0 f) : M_X10_isClass f x Q := r_inN 5 (by omega) (by omega) rfl (fun i hi e => ⟨rfl, h1 i hi e⟩) (fun h => ⟨rfl, h0 h⟩)
theorem r_cars {f : Sg} {p : Pl} {Q : Int32 → Sg → Prop} (hp : R1 (f 1) p) (h : Q (nI (tot p)) f) : M_X10_cars_0 f Q := by
  refine pk_loop (fun n i (s : Int32) => itr2 (B_X10_cars_0_4 Q) n f s (nI i)) (fun i s => s = nI (sm (pDm p) i)) 5 0 0 (Nat.zero_le _) rfl ?_ ?_
  · intro n s e
    exact pk_le 5 5 (fun _ => by rw [e]; exact h) (fun q => absurd q (by omega))
  · intro n i s hi e K
    unfold itr2 B_X10_cars_0_4
    rw [ad13 i, nI_1]
    refine pk_le 5 i (fun q => absurd q (by omega)) (fun _ => ⟨pk_in (13 + i) 18 (by omega), fun z hz => K z ?_⟩)
    rw [hz, e, pk_cl (13 + i), (hp.2 i hi).2, nI_add]; rfl
theorem r_has {f : Sg} {p : Pl} (ok : POk p) (hp : R1 (f 1) p) {c o : Nat} (hc : c < 5) (ho : o < 4) {Q : Int32 → Sg → Prop} (h : Q (nI (bi (hs p c o))) f) : M_X10_has_0 f (nI c) (nI o) Q := by
  unfold M_X10_has_0 J_X10_has_0_22
  rw [ad8 c]
  refine ⟨pk_in (8 + c) 18 (by omega), ?_⟩
  rw [pk_cl (8 + c), (hp.2 c hc).1, bit_has _ (ok.2.1 c hc) o ho]
  unfold hs at h
  cases hb : (pSt p c).testBit o with
  | true => rw [hb] at h; exact ⟨fun _ => ⟨rfl, h⟩, fun q => absurd rfl q⟩
  | false => rw [hb] at h; exact ⟨fun q => absurd q (by decide), fun _ => ⟨rfl, h⟩⟩
theorem r_wanted {f : Sg} {p : Pl} {Q : Int32 → Sg → Prop} (ok : POk p) (hp : R1 (f 1) p) {o : Nat} (ho : o < 4) (h : Q (nI (wtd p o)) f) : M_X10_wanted_0 f (nI o) Q := by
  refine pk_loop (fun n i (s : Int32) => itr3 (B_X10_wanted_0_4 Q) n f (nI o) s (nI i)) (fun i s => s = nI (sm (fun c => if hs p c o then pDm p c else 0) i)) 5 0 0 (Nat.zero_le _) rfl ?_ ?_
  · intro n s e
    exact pk_le 5 5 (fun _ => by rw [e]; exact h) (fun q => absurd q (by omega))
  · intro n i s hi e K
    unfold itr3 B_X10_wanted_0_4 J_X10_wanted_0_32
    rw [ad13 i, nI_1]
    refine pk_le 5 i (fun q => absurd q (by omega)) (fun _ => r_has ok hp hi ho ?_)
    cases hb : hs p i o with
    | false =>
      refine ⟨fun _ z hz => K z ?_, fun q => absurd rfl q⟩
      rw [sm_succ, hz, e, hb, show (0 : Int32) = nI 0 from rfl, nI_add]; rfl
    | true =>
      refine ⟨fun q => absurd q (by decide), fun _ => ⟨pk_in (13 + i) 18 (by omega), fun z hz => K z ?_⟩⟩
      rw [sm_succ, hz, e, hb, pk_cl (13 + i), (hp.2 i hi).2, nI_add]; rfl
/-- ROOM, and it is the same on both sides -/
def rmm (p : Pl) (o : Nat) : Nat := pMy p o * (tot p / pOf p o) + (if pMy p o < tot p % pOf p o then pMy p o else tot p % pOf p o)
theorem r_room {f : Sg} {p : Pl} {Q : Int32 → Sg → Prop} (ok : POk p) (hp : R1 (f 1) p) {o : Nat} (ho : o < 4) (h : Q (nI (rmm p o)) f) : M_X10_room_0 f (nI o) Q := by
  obtain ⟨o1, o2, o3⟩ := ok.1 o ho
  have ht := ok.2.2
  unfold M_X10_room_0
  rw [ad0 o, ad4 o]
  refine ⟨pk_in o 18 (by omega), fun z2 e2 => ⟨pk_in (4 + o) 18 (by omega), fun z4 e4 => ?_⟩⟩
  rw [pk_cl o, (hp.1 o ho).1] at e2
  rw [pk_cl (4 + o), (hp.1 o ho).2] at e4
  have hn : ¬ z4 = 0 := by rw [e4]; exact nI_ne0 (by omega) (by omega)
  refine r_cars hp ⟨hn, r_cars hp ⟨hn, ?_⟩⟩
  rw [e2, e4, pk_rem (by omega) (by omega) (by omega), pk_div (by omega) (by omega) (by omega)]
  have hm : tot p % pOf p o ≤ tot p := Nat.mod_le _ _
  unfold M_X10_less J_X10_less_10
  unfold rmm at h
  refine pk_le _ _ (fun q => ?_) (fun q => ?_) rfl rfl
  · rw [if_neg (by omega)] at h
    rw [pk_mul, nI_add]; exact h
  · rw [if_pos (by omega)] at h
    rw [pk_mul, nI_add]; exact h
theorem w_room {f : Sg} {p : Pl} {Q : Int32 → Sg → Prop} (ok : POk p) (hp : P1 f p) {o : Nat} (ho : o < 4) (h : Q (nI (rmm p o)) f) : M_X5_room_1 f (nI o) Q := by
  obtain ⟨o1, o2, o3⟩ := ok.1 o ho
  obtain ⟨m1, m2, m3⟩ := hp.1 o ho
  have ht := ok.2.2
  unfold M_X5_room_1
  refine ⟨pk_in o 4 ho, fun z2 e2 => ?_⟩
  rw [pk_cl o, m2] at e2
  rw [e2]
  refine pk_le 1 (pOf p o) (fun _ => w_cars hp ⟨pk_in o 4 ho, nI_ne0 (by omega) (by omega), pk_in o 4 ho, nI_ne0 (by omega) (by omega), fun z10 e10 => ?_⟩) (fun q => absurd q (by omega))
  rw [pk_cl o, m1] at e10 ⊢
  rw [pk_rem (by omega) (by omega) (by omega)] at e10
  rw [pk_div (by omega) (by omega) (by omega), pk_mul, e10]
  have hm : tot p % pOf p o ≤ tot p := Nat.mod_le _ _
  unfold rmm at h
  simp only [nI_ltI (show tot p % pOf p o < 2 ^ 31 by omega) (show pMy p o < 2 ^ 31 by omega)]
  by_cases q : pMy p o < tot p % pOf p o
  · rw [if_pos q] at h
    rw [if_neg (by omega), nI_add]; exact h
  · rw [if_neg q] at h
    by_cases q2 : tot p % pOf p o < pMy p o
    · rw [if_pos q2, nI_add]; exact h
    · rw [if_neg q2, nI_add]
      have : pMy p o = tot p % pOf p o := by omega
      rw [show pMy p o * (tot p / pOf p o) + pMy p o = pMy p o * (tot p / pOf p o) + tot p % pOf p o by omega]
      exact h
/-! breaks in the reference -/
theorem r_isBreak {f : Sg} {p : Pl} (ok : POk p) (hp : R1 (f 1) p) {l : List Nat} (hl : Cls l) (hrow : RowF (f 5) l) {k o : Nat} (hk : k < l.length) (h9 : l.length ≤ 9) (ho : o < 4) {Q : Int32 → Sg → Prop} (h : Q (nI (bi (isB p l k o))) f) : M_X10_isBreak_0 f (nI k) (nI o) Q := by
  obtain ⟨o1, o2, o3⟩ := ok.1 o ho
  unfold M_X10_isBreak_0
  rw [ad4 o]
  refine ⟨pk_in (4 + o) 18 (by omega), fun z2 e2 => ?_⟩
  rw [pk_cl (4 + o), (hp.1 o ho).2, iI_nI, iI_nI, iI_sub, iI_p1] at e2
  have e0 : (0 ≤ z2) ↔ pOf p o ≤ k + 1 := by
    rw [e2, show (0 : Int32) = iI 0 from rfl, iI_le (by omega) (by omega) (by omega) (by omega)]
    omega
  rw [e0]
  refine ⟨fun c => ?_, fun c => ?_⟩
  · have ez : z2 = nI (k + 1 - pOf p o + 0) := by rw [e2, iI_nI]; congr 1; omega
    rw [ez]
    refine pk_loop (fun n j (s : Int32) => itr4 (B_X10_isBreak_0_25 Q) n f (nI k) (nI o) s (nI (k + 1 - pOf p o + j))) (fun j s => s = nI (wnd p l o (k + 1 - pOf p o) j)) (pOf p o) 0 0 (Nat.zero_le _) rfl ?_ ?_
    · intro n s e
      unfold itr4 B_X10_isBreak_0_25 J_X10_isBreak_0_80
      rw [ad0 o, e]
      have hw := wnd_le p l o (k + 1 - pOf p o) (pOf p o)
      refine pk_lt k (k + 1 - pOf p o + pOf p o) (fun _ => ⟨pk_in o 18 (by omega), ?_⟩) (fun q => absurd q (by omega))
      rw [pk_cl o, (hp.1 o ho).1]
      refine pk_le _ _ (fun q => ⟨rfl, ?_⟩) (fun q => ⟨rfl, ?_⟩) rfl rfl
      · have : isB p l k o = false := by unfold isB; simp; omega
        rw [this] at h; exact h
      · have : isB p l k o = true := by unfold isB; simp; omega
        rw [this] at h; exact h
    · intro n j s hj e K
      unfold itr4 B_X10_isBreak_0_25 J_X10_isBreak_0_53
      rw [nI_1 (k + 1 - pOf p o + j)]
      refine pk_lt k (k + 1 - pOf p o + j) (fun q => absurd q (by omega)) (fun _ => ⟨pk_in _ 9 (show k + 1 - pOf p o + j < 9 by omega), ?_⟩)
      rw [pk_cl (k + 1 - pOf p o + j), hrow _ (by omega)]
      refine r_has ok hp (hl _ (by omega)) ho ?_
      have hwn : wnd p l o (k + 1 - pOf p o) (j + 1) = wnd p l o (k + 1 - pOf p o) j + bi (hs p (l.getD (k + 1 - pOf p o + j) 0) o) := rfl
      cases hb : hs p (l.getD (k + 1 - pOf p o + j) 0) o with
      | false =>
        refine ⟨fun _ z hz => K z ?_, fun q => absurd rfl q⟩
        rw [hwn, hz, e, hb, show (0 : Int32) = nI 0 from rfl, nI_add]; rfl
      | true =>
        refine ⟨fun q => absurd q (by decide), fun _ z hz => K z ?_⟩
        rw [hwn, hz, e, hb, nI_1]; rfl
  · have : isB p l k o = false := by unfold isB; simp; intro q; omega
    rw [this] at h; exact h
theorem r_breaksAt {f : Sg} {p : Pl} (ok : POk p) (hp : R1 (f 1) p) {l : List Nat} (hl : Cls l) (hrow : RowF (f 5) l) {k : Nat} (hk : k < l.length) (h9 : l.length ≤ 9) {Q : Int32 → Sg → Prop} (h : Q (nI (bAt p l k)) f) : M_X10_breaksAt_0 f (nI k) Q := by
  refine pk_loop (fun n o (s : Int32) => itr3 (B_X10_breaksAt_0_4 Q) n f (nI k) s (nI o)) (fun o s => s = nI (sm (fun o => bi (isB p l k o)) o)) 4 0 0 (Nat.zero_le _) rfl ?_ ?_
  · intro n s e
    exact pk_le 4 4 (fun _ => by rw [e]; exact h) (fun q => absurd q (by omega))
  · intro n o s ho e K
    unfold itr3 B_X10_breaksAt_0_4 J_X10_breaksAt_0_24
    rw [nI_1 o]
    refine pk_le 4 o (fun q => absurd q (by omega)) (fun _ => r_isBreak ok hp hl hrow hk h9 ho ?_)
    cases hb : isB p l k o with
    | false =>
      refine ⟨fun _ z hz => K z ?_, fun q => absurd rfl q⟩
      rw [sm_succ, hz, e, hb, show (0 : Int32) = nI 0 from rfl, nI_add]; rfl
    | true =>
      refine ⟨fun q => absurd q (by decide), fun _ z hz => K z ?_⟩
      rw [sm_succ, hz, e, hb, nI_1]; rfl
/-- the reference's row -/
def RR (f : Sg) (l : List Nat) : Prop := f 0 6 = nI l.length ∧ RowF (f 5) l
theorem r_breaks {f : Sg} {p : Pl} (ok : POk p) (hp : R1 (f 1) p) {l : List Nat} (hl : Cls l) (hrow : RR f l) (h9 : l.length ≤ 9) {Q : Int32 → Sg → Prop} (h : Q (nI (bks p l)) f) : M_X10_breaks_0 f Q := by
  refine pk_loop (fun n k (s : Int32) => itr2 (B_X10_breaks_0_4 Q) n f s (nI k)) (fun k s => s = nI (sm (bAt p l) k)) l.length 0 0 (Nat.zero_le _) rfl ?_ ?_
  · intro n s e
    unfold itr2 B_X10_breaks_0_4
    rw [hrow.1, e]
    exact pk_le _ _ (fun _ => h) (fun q => absurd q (by omega)) rfl rfl
  · intro n k s hk e K
    unfold itr2 B_X10_breaks_0_4
    rw [hrow.1, nI_1 k]
    refine pk_le _ _ (fun q => absurd q (by omega)) (fun _ => r_breaksAt ok hp hl hrow.2 hk h9 (fun z hz => K z ?_)) rfl rfl
    rw [hz, e, nI_add, sm_succ]
