/-! trails, windows, breaks -/
def trn (p : Pl) (l : List Nat) : Nat → Nat
  | 0 => 0
  | n + 1 => 16 * trn p l n + pSt p (l.getD n 0)
def vv (b : Nat → Nat) : Nat → Nat → Nat
  | 0, _ => 0
  | _ + 1, 0 => 0
  | w + 1, n + 1 => b n + 16 * vv b w n
theorem and16 (a b s t : Nat) (hs : s < 16) (ht : t < 16) : (16 * a + s) &&& (16 * b + t) = 16 * (a &&& b) + (s &&& t) := by
  have h1 : s &&& t < 2 ^ 4 := Nat.lt_of_le_of_lt Nat.and_le_left hs
  have e : (16 : Nat) = 2 ^ 4 := by decide
  rw [e]
  apply Nat.eq_of_testBit_eq
  intro i
  rw [Nat.testBit_and, Nat.testBit_two_pow_mul_add _ hs, Nat.testBit_two_pow_mul_add _ ht, Nat.testBit_two_pow_mul_add _ h1]
  split
  · rw [Nat.testBit_and]
  · rw [Nat.testBit_and]
theorem win_succ : ∀ w, w < 5 → ∀ o, o < 4 → win (w + 1) o = 16 * win w o + 2 ^ o := by decide +kernel
theorem and_bit : ∀ s, s < 16 → ∀ o, o < 4 → s &&& 2 ^ o = 2 ^ o * bi (s.testBit o) := by decide +kernel
theorem pow_lt16 : ∀ o, o < 4 → 2 ^ o < 16 := by decide
theorem win_0 : ∀ o, o < 4 → win 0 o = 0 := by decide +kernel
def Cls (l : List Nat) : Prop := ∀ i, i < l.length → l.getD i 0 < 5
theorem st_lt {p : Pl} (ok : POk p) {l : List Nat} (hc : Cls l) (i : Nat) : pSt p (l.getD i 0) < 16 := by
  rcases Nat.lt_or_ge i l.length with h | h
  · exact ok.2.1 _ (hc i h)
  · have : l.getD i 0 = 0 := by simp [List.getD, h]
    rw [this]
    exact ok.2.1 0 (by omega)
theorem and_win {p : Pl} (ok : POk p) {l : List Nat} (hc : Cls l) {o : Nat} (ho : o < 4) : ∀ w, w ≤ 5 → ∀ n, w ≤ n → trn p l n &&& win w o = 2 ^ o * vv (fun k => bi (hs p (l.getD k 0) o)) w n := by
  intro w
  induction w with
  | zero => intro _ n _; rw [win_0 o ho, Nat.and_zero]; rfl
  | succ w ih =>
    intro hw n hn
    obtain ⟨n, rfl⟩ : ∃ m, n = m + 1 := ⟨n - 1, by omega⟩
    have e1 : trn p l (n + 1) = 16 * trn p l n + pSt p (l.getD n 0) := rfl
    rw [win_succ w (by omega) o ho, e1, and16 _ _ _ _ (st_lt ok hc n) (pow_lt16 o ho), ih (by omega) n (by omega), and_bit _ (st_lt ok hc n) o ho]
    show _ = 2 ^ o * (bi (hs p (l.getD n 0) o) + 16 * vv _ w n)
    rw [Nat.mul_add, Nat.mul_left_comm 16, Nat.add_comm]
    rfl
theorem bi_lt2 (b : Bool) : bi b < 2 := by cases b <;> decide
theorem bc_win {p : Pl} (ok : POk p) {l : List Nat} (hc : Cls l) {o : Nat} (ho : o < 4) {w : Nat} (h1 : 1 ≤ w) (h5 : w ≤ 5) (a : Nat) : bc (nI (trn p l (a + w) &&& win w o)) = nI (wnd p l o a w) := by
  rw [and_win ok hc ho w h5 (a + w) (by omega)]
  have hb : ∀ k, bi (hs p (l.getD k 0) o) < 2 := fun k => bi_lt2 _
  generalize hbe : (fun k => bi (hs p (l.getD k 0) o)) = b
  have hb : ∀ k, b k < 2 := by rw [← hbe]; exact hb
  have e : wnd p l o a w = sm (fun j => b (a + j)) w := by rw [← hbe]; rfl
  rw [e]
  rcases (show w = 1 ∨ w = 2 ∨ w = 3 ∨ w = 4 ∨ w = 5 by omega) with rfl | rfl | rfl | rfl | rfl
  · have h := bc_ok o ho (b a) (hb _) 0 (by omega) 0 (by omega) 0 (by omega) 0 (by omega)
    have e2 : sm (fun j => b (a + j)) 1 = b a + (0 + (0 + (0 + 0))) := by simp [sm]
    rw [e2]
    exact h
  · have h := bc_ok o ho (b (a + 1)) (hb _) (b a) (hb _) 0 (by omega) 0 (by omega) 0 (by omega)
    have e2 : sm (fun j => b (a + j)) 2 = b (a + 1) + (b a + (0 + (0 + 0))) := by simp [sm]; omega
    rw [e2]
    exact h
  · have h := bc_ok o ho (b (a + 2)) (hb _) (b (a + 1)) (hb _) (b a) (hb _) 0 (by omega) 0 (by omega)
    have e2 : sm (fun j => b (a + j)) 3 = b (a + 2) + (b (a + 1) + (b a + (0 + 0))) := by simp [sm]; omega
    rw [e2]
    exact h
  · have h := bc_ok o ho (b (a + 3)) (hb _) (b (a + 2)) (hb _) (b (a + 1)) (hb _) (b a) (hb _) 0 (by omega)
    have e2 : sm (fun j => b (a + j)) 4 = b (a + 3) + (b (a + 2) + (b (a + 1) + (b a + 0))) := by simp [sm]; omega
    rw [e2]
    exact h
  · have h := bc_ok o ho (b (a + 4)) (hb _) (b (a + 3)) (hb _) (b (a + 2)) (hb _) (b (a + 1)) (hb _) (b a) (hb _)
    have e2 : sm (fun j => b (a + j)) 5 = b (a + 4) + (b (a + 3) + (b (a + 2) + (b (a + 1) + b a))) := by simp [sm]; omega
    rw [e2]
    exact h
theorem wnd_le (p : Pl) (l : List Nat) (o a n : Nat) : wnd p l o a n ≤ n := by
  have h := sm_le (f := fun j => bi (hs p (l.getD (a + j) 0) o)) (g := fun _ => 1) (n := n) (fun k _ => bi_le _)
  rw [sm_const] at h
  unfold wnd; omega
theorem bAt_le (p : Pl) (l : List Nat) (k : Nat) : bAt p l k ≤ 4 := by
  have h := sm_le (f := fun o => bi (isB p l k o)) (g := fun _ => 1) (n := 4) (fun k _ => bi_le _)
  rw [sm_const] at h
  unfold bAt; omega
theorem smb_le (p : Pl) (l : List Nat) (n : Nat) : sm (bAt p l) n ≤ n * 4 := by
  have h := sm_le (f := bAt p l) (g := fun _ => 4) (n := n) (fun k _ => bAt_le p l k)
  rw [sm_const] at h
  exact h
theorem w_bae {f : Sg} {p : Pl} {Q : Int32 → Sg → Prop} (ok : POk p) (hp : P1 f p) {l : List Nat} (hc : Cls l) {k : Nat} (hk : k < 9) (h : Q (nI (bAt p l k)) f) : M_X5_breaksAtEnd_1 f (nI (trn p l (k + 1))) (nI (k + 1)) Q := by
  refine pk_loop (fun n i (s : Int32) => itr4 (B_X5_breaksAtEnd_1_5 Q) n f (nI (trn p l (k + 1))) (nI (k + 1)) s (nI i)) (fun i s => s = nI (sm (fun o => bi (isB p l k o)) i)) 4 0 0 (Nat.zero_le _) rfl ?_ ?_
  · intro n s e
    exact pk_le 4 4 (fun _ => by rw [e]; exact h) (fun q => absurd q (by omega))
  · intro n i s hi e K
    obtain ⟨o1, o2, o3⟩ := ok.1 i hi
    obtain ⟨m1, m2, m3⟩ := hp.1 i hi
    refine pk_le 4 i (fun q => absurd q (by omega)) (fun _ => ⟨pk_in i 4 hi, ?_⟩)
    unfold J_X5_breaksAtEnd_1_47
    rw [nI_1, pk_cl i, m2, m3, nx_and]
    refine pk_lt (k + 1) (pOf p i) (fun q => ?_) (fun q => ⟨pk_in i 4 hi, w_bitCount ⟨pk_in i 4 hi, ?_⟩⟩)
    · have : isB p l k i = false := by unfold isB; simp; intro h; omega
      exact K s (by rw [sm_succ, this, e]; simp [bi])
    · have eb : bc (nI (trn p l (k + 1) &&& win (pOf p i) i)) = nI (wnd p l i (k + 1 - pOf p i) (pOf p i)) := by
        have h := bc_win ok hc hi (w := pOf p i) (by omega) o3 (k + 1 - pOf p i)
        rw [show k + 1 - pOf p i + pOf p i = k + 1 by omega] at h
        exact h
      rw [eb, m1]
      have hw := wnd_le p l i (k + 1 - pOf p i) (pOf p i)
      refine pk_le _ _ (fun z => ?_) (fun z => ?_) rfl rfl
      · have : isB p l k i = false := by unfold isB; simp; omega
        exact K s (by rw [sm_succ, this, e]; simp [bi])
      · have : isB p l k i = true := by unfold isB; simp; omega
        exact K _ (by rw [sm_succ, this, e, nI_1]; simp [bi])
theorem trn_congr {p : Pl} {l l' : List Nat} {n : Nat} (h : ∀ i, i < n → l.getD i 0 = l'.getD i 0) : trn p l n = trn p l' n := by
  induction n with
  | zero => rfl
  | succ n ih =>
    show 16 * trn p l n + _ = 16 * trn p l' n + _
    rw [ih (fun i hi => h i (by omega)), h n (by omega)]
theorem bAt_congr {p : Pl} {l l' : List Nat} {k : Nat} (h : ∀ i, i ≤ k → l.getD i 0 = l'.getD i 0) (hof : ∀ o, o < 4 → 1 ≤ pOf p o) : bAt p l k = bAt p l' k := by
  unfold bAt
  apply sm_congr
  intro o ho
  have : isB p l k o = isB p l' k o := by
    unfold isB
    by_cases q : pOf p o ≤ k + 1
    · have : wnd p l o (k + 1 - pOf p o) (pOf p o) = wnd p l' o (k + 1 - pOf p o) (pOf p o) := by
        unfold wnd
        apply sm_congr
        intro j hj
        rw [h _ (by omega)]
      rw [this]
    · simp [q]
  rw [this]
theorem POk.of1 {p : Pl} (ok : POk p) : ∀ o, o < 4 → 1 ≤ pOf p o := fun o ho => by have := ok.1 o ho; omega
theorem getD_app1 {l : List Nat} {c i : Nat} (h : i < l.length) : (l ++ [c]).getD i 0 = l.getD i 0 := by
  simp [List.getD, List.getElem?_append_left h]
theorem getD_app2 {l : List Nat} {c : Nat} : (l ++ [c]).getD l.length 0 = c := by
  simp [List.getD]
/-! left: below 0 where a row has more than the demand -/
def iI (z : Int) : Int32 := Int32.ofInt z
theorem iI_toInt {z : Int} (h1 : -2147483648 ≤ z) (h2 : z < 2147483648) : (iI z).toInt = z := by
  unfold iI
  rw [Int32.toInt_ofInt, show Int32.size = 4294967296 from rfl]
  exact Int.bmod_eq_of_le (by omega) (by omega)
theorem iI_nI (n : Nat) : nI n = iI n := rfl
theorem iI_m1 (z : Int) : iI z - 1 = iI (z - 1) := by
  unfold iI
  rw [Int32.ofInt_sub]; rfl
theorem iI_p1 (z : Int) : iI z + 1 = iI (z + 1) := by
  unfold iI
  rw [Int32.ofInt_add]; rfl
theorem iI_le0 {z : Int} (h1 : -100 ≤ z) (h2 : z ≤ 100) : iI z ≤ 0 ↔ z ≤ 0 := by
  rw [Int32.le_iff_toInt_le, iI_toInt (by omega) (by omega)]; rfl
theorem iI_eq0 {z : Int} (h1 : -100 ≤ z) (h2 : z ≤ 100) : iI z = 0 ↔ z = 0 := by
  rw [← Int32.toInt_inj, iI_toInt (by omega) (by omega)]; rfl
def Eqx (S : List Nat) (f g : Sg) : Prop := ∀ k, k ∉ S → g k = f k
theorem Eqx.rf {S : List Nat} {f : Sg} : Eqx S f f := fun _ _ => rfl
theorem Eqx.tr {S : List Nat} {f g h : Sg} (a : Eqx S f g) (b : Eqx S g h) : Eqx S f h := fun k hk => (b k hk).trans (a k hk)
theorem Eqx.mono {S T : List Nat} {f g : Sg} (a : Eqx S f g) (h : ∀ k, k ∈ S → k ∈ T) : Eqx T f g := fun k hk => a k (fun q => hk (h k q))
theorem Eqx.up {S : List Nat} {f g : Sg} {k : Nat} {h : Nat → Int32} (a : Eqx S f g) (hk : k ∈ S) : Eqx S f (va_up g k h) := fun j hj => by
  have : j ≠ k := fun e => hj (e ▸ hk)
  rw [show va_up g k h j = g j from if_neg this]
  exact a j hj
