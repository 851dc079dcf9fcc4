/-! What the words of the document mean, in plain numbers: a plan is may, of, sets, demands. -/
abbrev Pl : Type := (Nat → Nat) × (Nat → Nat) × (Nat → Nat) × (Nat → Nat)
abbrev pMy (p : Pl) : Nat → Nat := p.1
abbrev pOf (p : Pl) : Nat → Nat := p.2.1
abbrev pSt (p : Pl) : Nat → Nat := p.2.2.1
abbrev pDm (p : Pl) : Nat → Nat := p.2.2.2
def sm (f : Nat → Nat) : Nat → Nat
  | 0 => 0
  | n + 1 => sm f n + f n
theorem sm_succ (f : Nat → Nat) (n : Nat) : sm f (n + 1) = sm f n + f n := rfl
theorem sm_congr {f g : Nat → Nat} {n : Nat} (h : ∀ k, k < n → f k = g k) : sm f n = sm g n := by
  induction n with
  | zero => rfl
  | succ n ih => rw [sm_succ, sm_succ, ih (fun k hk => h k (by omega)), h n (by omega)]
theorem sm_le {f g : Nat → Nat} {n : Nat} (h : ∀ k, k < n → f k ≤ g k) : sm f n ≤ sm g n := by
  induction n with
  | zero => exact Nat.le_refl _
  | succ n ih =>
    have h1 := ih (fun k hk => h k (by omega))
    have h2 := h n (by omega)
    rw [sm_succ, sm_succ]; omega
theorem sm_mono (f : Nat → Nat) {m n : Nat} (h : m ≤ n) : sm f m ≤ sm f n := by
  induction n with
  | zero => rw [Nat.le_zero.mp h]; exact Nat.le_refl _
  | succ n ih =>
    rcases Nat.lt_or_ge m (n + 1) with q | q
    · have := ih (by omega); rw [sm_succ]; omega
    · rw [Nat.le_antisymm h q]; exact Nat.le_refl _
theorem sm_const (c n : Nat) : sm (fun _ => c) n = n * c := by
  induction n with
  | zero => rw [Nat.zero_mul]; rfl
  | succ n ih => rw [sm_succ, ih, Nat.succ_mul]
theorem sm_part (f : Nat → Nat) {i n : Nat} (h : i < n) : f i ≤ sm f n := by
  have := sm_mono f (m := i + 1) (n := n) h
  rw [sm_succ] at this; omega
def bi (b : Bool) : Nat := if b then 1 else 0
theorem bi_le (b : Bool) : bi b ≤ 1 := by cases b <;> decide
def hs (p : Pl) (c o : Nat) : Bool := (pSt p c).testBit o
def wnd (p : Pl) (l : List Nat) (o a n : Nat) : Nat := sm (fun j => bi (hs p (l.getD (a + j) 0) o)) n
def isB (p : Pl) (l : List Nat) (k o : Nat) : Bool := decide (pOf p o ≤ k + 1) && decide (pMy p o < wnd p l o (k + 1 - pOf p o) (pOf p o))
def bAt (p : Pl) (l : List Nat) (k : Nat) : Nat := sm (fun o => bi (isB p l k o)) 4
def bks (p : Pl) (l : List Nat) : Nat := sm (bAt p l) l.length
def tot (p : Pl) : Nat := sm (pDm p) 5
def wtd (p : Pl) (o : Nat) : Nat := sm (fun c => if hs p c o then pDm p c else 0) 5
def POk (p : Pl) : Prop := (∀ o, o < 4 → 1 ≤ pMy p o ∧ pMy p o ≤ pOf p o ∧ pOf p o ≤ 5) ∧ (∀ c, c < 5 → pSt p c < 16) ∧ tot p ≤ 9
theorem POk.dm {p : Pl} (h : POk p) {c : Nat} (hc : c < 5) : pDm p c ≤ 9 := Nat.le_trans (sm_part (pDm p) hc) h.2.2
def win (w o : Nat) : Nat := (69905 / 2 ^ (4 * (5 - w))) * 2 ^ o
/-- the cells of a plan -/
def PRep (m o w s d : Nat → Int32) (p : Pl) : Prop := (∀ i, i < 4 → m i = nI (pMy p i) ∧ o i = nI (pOf p i) ∧ w i = nI (win (pOf p i) i)) ∧ ∀ c, c < 5 → s c = nI (pSt p c) ∧ d c = nI (pDm p c)
theorem nx_and (a b : Nat) : nI a &&& nI b = nI (a &&& b) := by
  apply Int32.toBitVec_inj.1
  show BitVec.ofNat 32 a &&& BitVec.ofNat 32 b = BitVec.ofNat 32 (a &&& b)
  apply BitVec.eq_of_getLsbD_eq
  intro i hi
  simp [hi]
theorem nx_or (a b : Nat) : nI a ||| nI b = nI (a ||| b) := by
  apply Int32.toBitVec_inj.1
  show BitVec.ofNat 32 a ||| BitVec.ofNat 32 b = BitVec.ofNat 32 (a ||| b)
  apply BitVec.eq_of_getLsbD_eq
  intro i hi
  simp [hi]
theorem nx_shl4 (T : Nat) : nI T <<< ((4 : Int32) &&& 31) = nI (16 * T) := by
  apply Int32.toBitVec_inj.mp
  apply BitVec.eq_of_toNat_eq
  rw [pk_shl _ _ 4 (by decide)]
  show (BitVec.ofNat 32 T).toNat * 2 ^ 4 % 2 ^ 32 = (BitVec.ofNat 32 (16 * T)).toNat
  rw [BitVec.toNat_ofNat, BitVec.toNat_ofNat]
  omega
theorem nx_trail (T : Nat) {s : Nat} (hs : s < 16) : (nI T <<< ((4 : Int32) &&& 31)) ||| nI s = nI (16 * T + s) := by
  rw [nx_shl4, nx_or]
  have h := Nat.two_pow_add_eq_or_of_lt (i := 4) (b := s) (by omega) T
  have e : (2 : Nat) ^ 4 = 16 := by decide
  rw [e] at h
  rw [h]
theorem bit_has : ∀ s, s < 16 → ∀ o, o < 4 → ((nI s >>> (nI o &&& 31)) &&& 1) = nI (bi (s.testBit o)) := by decide +kernel
theorem win_ok : ∀ w, w < 6 → 1 ≤ w → ∀ o, o < 4 → (((69905 : Int32) >>> (((4 : Int32) * ((5 : Int32) - nI w)) &&& 31)) <<< (nI o &&& 31)) = nI (win w o) := by decide +kernel
/-- Integer.bitCount, as the JDK has it -/
def bc (x0 : Int32) : Int32 :=
  let z1 := x0 - (((x0.toUInt32 >>> ((1 : Int32).toUInt32 &&& Int32.toUInt32 31)).toInt32) &&& 1431655765)
  let z2 := (z1 &&& 858993459) + (((z1.toUInt32 >>> ((2 : Int32).toUInt32 &&& Int32.toUInt32 31)).toInt32) &&& 858993459)
  let z3 := (z2 + ((z2.toUInt32 >>> ((4 : Int32).toUInt32 &&& Int32.toUInt32 31)).toInt32)) &&& 252645135
  let z4 := z3 + ((z3.toUInt32 >>> ((8 : Int32).toUInt32 &&& Int32.toUInt32 31)).toInt32)
  let z5 := z4 + ((z4.toUInt32 >>> ((16 : Int32).toUInt32 &&& Int32.toUInt32 31)).toInt32)
  z5 &&& 63
theorem w_bitCount {f : Sg} {x : Int32} {Q : Int32 → Sg → Prop} (h : Q (bc x) f) : M_J6_bitCount_0f7a4 f x Q := by
  intro z1 e1 z2 e2 z3 e3 z4 e4 z5 e5
  subst e1 e2 e3 e4 e5
  exact h
theorem bc_ok : ∀ o, o < 4 → ∀ b0, b0 < 2 → ∀ b1, b1 < 2 → ∀ b2, b2 < 2 → ∀ b3, b3 < 2 → ∀ b4, b4 < 2 → bc (nI (2 ^ o * (b0 + 16 * (b1 + 16 * (b2 + 16 * (b3 + 16 * b4)))))) = nI (b0 + (b1 + (b2 + (b3 + b4)))) := by decide +kernel
def sz4 (s : Nat) : Nat := bi (s.testBit 0) + bi (s.testBit 1) + bi (s.testBit 2) + bi (s.testBit 3)
theorem bc_sz : ∀ s, s < 16 → bc (nI s) = nI (sz4 s) := by decide +kernel
theorem sz4_le : ∀ s, s < 16 → sz4 s ≤ 4 := by decide +kernel
/-! the class Plan -/
abbrev P1 (f : Sg) (p : Pl) : Prop := PRep (f 2) (f 3) (f 4) (f 5) (f 6) p
theorem w_cars {f : Sg} {p : Pl} {Q : Int32 → Sg → Prop} (hp : P1 f p) (h : Q (nI (tot p)) f) : M_X5_cars_1 f Q := by
  refine pk_loop (fun n i (s : Int32) => itr2 (B_X5_cars_1_4 Q) n f s (nI i)) (fun i s => s = nI (sm (pDm p) i)) 5 0 0 (Nat.zero_le _) rfl ?_ ?_
  · intro n s e
    exact pk_le 5 5 (fun _ => by rw [e]; exact h) (fun q => absurd q (by omega))
  · intro n i s hi e K
    refine pk_le 5 i (fun q => absurd q (by omega)) (fun _ => ⟨pk_in i 5 hi, fun z hz => ?_⟩)
    rw [nI_1]
    exact K z (by rw [hz, e, pk_cl i, (hp.2 i hi).2, nI_add]; rfl)
theorem w_wanted {f : Sg} {p : Pl} {Q : Int32 → Sg → Prop} (ok : POk p) (hp : P1 f p) {o : Nat} (ho : o < 4) (h : Q (nI (wtd p o)) f) : M_X5_wanted_1 f (nI o) Q := by
  refine pk_loop (fun n i (s : Int32) => itr3 (B_X5_wanted_1_4 Q) n f (nI o) s (nI i)) (fun i s => s = nI (sm (fun c => if hs p c o then pDm p c else 0) i)) 5 0 0 (Nat.zero_le _) rfl ?_ ?_
  · intro n s e
    exact pk_le 5 5 (fun _ => by rw [e]; exact h) (fun q => absurd q (by omega))
  · intro n i s hi e K
    refine pk_le 5 i (fun q => absurd q (by omega)) (fun _ => ⟨pk_in i 5 hi, ?_⟩)
    unfold J_X5_wanted_1_31
    rw [nI_1, pk_cl i, (hp.2 i hi).1, bit_has _ (ok.2.1 i hi) o ho]
    have K' := K
    refine ⟨fun c => K' _ ?_, fun c => ⟨pk_in i 5 hi, fun z hz => K' _ ?_⟩⟩
    · have : hs p i o = false := by
        unfold hs
        cases hb : (pSt p i).testBit o with
        | false => rfl
        | true => rw [hb] at c; exact absurd c (by decide)
      rw [sm_succ, this, e]; simp
    · have : hs p i o = true := by
        unfold hs
        cases hb : (pSt p i).testBit o with
        | true => rfl
        | false => rw [hb] at c; exact absurd rfl c
      rw [sm_succ, this, hz, e, (hp.2 i hi).2, nI_add]; simp
