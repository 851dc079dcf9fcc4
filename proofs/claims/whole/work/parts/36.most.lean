/-! Most -/
def tco (p : Pl) (i o : Nat) : Nat := if pMy p o < wtd p o then tot p - (if i < pOf p o - 1 then pOf p o - 1 else i) else 0
def tcm (p : Pl) (i : Nat) : Nat := sm (tco p i) 4
theorem wtd_le (p : Pl) (o : Nat) : wtd p o ≤ tot p := by
  unfold wtd tot
  refine sm_le (fun c _ => ?_)
  split
  · exact Nat.le_refl _
  · exact Nat.zero_le _
theorem tcm_le {p : Pl} (ok : POk p) (i : Nat) : tcm p i ≤ 36 := by
  have ht := ok.2.2
  have h := sm_le (f := tco p i) (g := fun _ => 9) (n := 4) (fun o _ => by unfold tco; split <;> omega)
  rw [sm_const] at h
  exact h
theorem w_bbh {f : Sg} {p : Pl} {Q : Int32 → Sg → Prop} (ok : POk p) (hp : P1 f p) {i : Nat} (hi : i ≤ 9) (h : Q (nI (tcm p i)) f) : M_X5_breaksBehind_1 f (nI i) (nI (tot p)) Q := by
  have ht := ok.2.2
  refine pk_loop (fun n o (s : Int32) => itr4 (B_X5_breaksBehind_1_5 Q) n f (nI i) (nI (tot p)) s (nI o)) (fun o s => s = nI (sm (tco p i) o)) 4 0 0 (Nat.zero_le _) rfl ?_ ?_
  · intro n s e
    exact pk_le 4 4 (fun _ => by rw [e]; exact h) (fun q => absurd q (by omega))
  · intro n o s ho e K
    obtain ⟨o1, o2, o3⟩ := ok.1 o ho
    obtain ⟨m1, m2, m3⟩ := hp.1 o ho
    have hw := wtd_le p o
    refine pk_le 4 o (fun q => absurd q (by omega)) (fun _ => w_wanted ok hp ho ⟨pk_in o 4 ho, ?_⟩)
    unfold J_X5_breaksBehind_1_49
    rw [nI_1, pk_cl o, m1, m2]
    refine pk_le _ _ (fun q => K s ?_) (fun q => ⟨pk_in o 4 ho, fun z7 e7 z8 e8 z9 e9 => K z9 ?_⟩) rfl rfl
    · have : tco p i o = 0 := by unfold tco; rw [if_neg (by omega)]
      rw [sm_succ, this, e]; rfl
    · have e7' : z7 = nI (if i < pOf p o - 1 then pOf p o - 1 else i) := by
        rw [e7, show (1 : Int32) = nI 1 from rfl, pk_sub (by omega)]
        simp only [nI_ltI (show i < 2 ^ 31 by omega) (show pOf p o - 1 < 2 ^ 31 by omega)]
        split <;> rfl
      have e8' : z8 = nI (tot p - (if i < pOf p o - 1 then pOf p o - 1 else i)) := by
        rw [e8, e7']
        generalize hj : (if i < pOf p o - 1 then pOf p o - 1 else i) = j
        have hj9 : j ≤ 9 := by rw [← hj]; split <;> omega
        rcases Nat.lt_or_ge j (tot p) with q2 | q2
        · rw [pk_sub (by omega)]
          rw [if_pos (show (0 : Int32) < nI (tot p - j) from nI_lt (a := 0) (by omega) (by omega))]
        · have h1 : ¬ (0 : Int32) < nI (tot p) - nI j := by
            rcases Nat.lt_or_ge (tot p) j with q3 | q3
            · have := pk_sneg (a := tot p) (b := j) (by omega) q3
              intro q4
              exact absurd (Int32.lt_trans q4 this) Int32.lt_irrefl
            · have : tot p = j := by omega
              rw [this, pk_sub (Nat.le_refl _), Nat.sub_self]; decide
          rw [if_neg h1]
          have : tot p - j = 0 := by omega
          rw [this]; rfl
      have : tco p i o = tot p - (if i < pOf p o - 1 then pOf p o - 1 else i) := by unfold tco; rw [if_pos q]
      rw [sm_succ, this, e9, e8', e, nI_add]
def X22 (p : Pl) (f : Sg) (_ : List Nat) (s : Nat) : Prop := f 22 2 = nI (tot p) ∧ f 22 4 = nI s ∧ s ≤ 100 ∧ ∀ i, i < 10 → f 23 i = nI (tcm p i)
theorem X22.eqx {p : Pl} {f g : Sg} {l l' : List Nat} {s : Nat} (h : X22 p f l s) (h1 : g 22 = f 22) (h2 : g 23 = f 23) : X22 p g l' s := by
  unfold X22
  rw [h1, h2]
  exact h
abbrev F22 : List Nat := [9, 10, 11, 12, 13, 22, 23]
def nt22 (p : Pl) (s : Nat) (o : List Nat) : Nat := if s < bks p o then bks p o else s
theorem sm_shift (g : Nat → Nat) (n : Nat) : sm g (n + 1) = g 0 + sm (fun j => g (j + 1)) n := by
  induction n with
  | zero => simp [sm]
  | succ n ih => rw [sm_succ, ih, sm_succ]; omega
theorem wnd_cons (p : Pl) (a : Nat) (l : List Nat) (o : Nat) : wnd p (a :: l) o 0 (l.length + 1) = bi (hs p a o) + wnd p l o 0 l.length := by
  unfold wnd
  rw [sm_shift]
  congr 1
theorem wnd_all (p : Pl) (o : Nat) (l : List Nat) (h : ∀ c, c ∈ l → c < 5) : wnd p l o 0 l.length = sm (fun c => if hs p c o then l.count c else 0) 5 := by
  induction l with
  | nil => simp [wnd, sm]
  | cons a l ih =>
    rw [List.length_cons, wnd_cons, ih (fun c hc => h c (List.mem_cons_of_mem _ hc))]
    have ha := h a List.mem_cons_self
    have e : ∀ c, List.count c (a :: l) = List.count c l + if a = c then 1 else 0 := by
      intro c
      rw [List.count_cons]
      simp
    simp only [sm, e]
    rcases (show a = 0 ∨ a = 1 ∨ a = 2 ∨ a = 3 ∨ a = 4 by omega) with rfl | rfl | rfl | rfl | rfl <;> simp [bi] <;> (repeat' split) <;> omega
theorem wnd_part (p : Pl) (l : List Nat) (o a w : Nat) (h : a + w ≤ l.length) : wnd p l o a w ≤ wnd p l o 0 l.length := by
  have h1 : ∀ n, wnd p l o a n ≤ wnd p l o 0 (a + n) := by
    intro n
    induction n with
    | zero => exact Nat.zero_le _
    | succ n ih =>
      unfold wnd at ih ⊢
      rw [sm_succ, show a + (n + 1) = (a + n) + 1 by omega, sm_succ, Nat.zero_add]
      omega
  have h2 := h1 w
  have h3 := sm_mono (fun j => bi (hs p (l.getD (0 + j) 0) o)) h
  unfold wnd at h2 h3 ⊢
  omega
theorem bAt_tcm {p : Pl} (ok : POk p) {l : List Nat} (hf : Fit p l) (hl : l.length = tot p) {i : Nat} (hi : i < tot p) : bAt p l i + tcm p (i + 1) ≤ tcm p i := by
  have key : ∀ o, o < 4 → bi (isB p l i o) + tco p (i + 1) o ≤ tco p i o := by
    intro o ho
    obtain ⟨o1, o2, o3⟩ := ok.1 o ho
    have hw : wnd p l o 0 l.length ≤ wtd p o := by
      rw [wnd_all p o l hf.1.mem]
      unfold wtd
      refine sm_le (fun c hc => ?_)
      have := hf.2 c hc
      split <;> omega
    cases hb : isB p l i o with
    | false =>
      unfold tco bi
      simp
      split
      · split <;> split <;> omega
      · omega
    | true =>
      unfold isB at hb
      simp at hb
      have h2 := wnd_part p l o (i + 1 - pOf p o) (pOf p o) (by omega)
      have hlt : pMy p o < wtd p o := by omega
      unfold tco bi
      simp only [hlt, if_true]
      (repeat' split) <;> omega
  unfold bAt tcm
  have k0 := key 0 (by omega); have k1 := key 1 (by omega); have k2 := key 2 (by omega); have k3 := key 3 (by omega)
  simp only [sm]
  omega
theorem tcm_end (p : Pl) : tcm p (tot p) = 0 := by
  have : ∀ o, tco p (tot p) o = 0 := by
    intro o
    unfold tco
    split
    · split <;> omega
    · rfl
  unfold tcm
  simp [sm, this]
theorem bks_tcm {p : Pl} (ok : POk p) {l : List Nat} (hf : Fit p l) (hl : l.length = tot p) : ∀ j i, i + j = tot p → bks p l ≤ sm (bAt p l) i + tcm p i := by
  intro j
  induction j with
  | zero => intro i hi; unfold bks; rw [hl, ← hi, Nat.add_zero]; omega
  | succ j ih =>
    intro i hi
    have h1 := ih (i + 1) (by omega)
    have h2 := bAt_tcm ok hf hl (i := i) (by omega)
    rw [sm_succ] at h1
    omega
def ms (p : Pl) : Nat := (ords (tot p) (pDm p)).foldl (nt22 p) 0
theorem w_refresh22 {p : Pl} (ok : POk p) {f : Sg} {Q : Sg → Prop} (hp : P1 f p) (h11 : f 11 0 = 0) (h12 : f 12 0 = 0) (hk : f 22 3 = 0) (h : ∀ g, Eqx F22 f g → g 11 0 = 0 → g 12 0 = 0 → g 22 3 = 1 → X22 p g [] (ms p) → Q g) : M_X8_refresh_22 f Q := by
  have ht := ok.2.2
  refine ⟨fun _ => w_cars hp (fun g4 e4 g5 e5 => ?_), fun q => absurd hk q⟩
  subst e4 e5
  refine pk_loop (fun n i (sg : Sg) => itr1 (B_X3_begin_22_7 _) n sg (nI i)) (fun i sg => Eqx F22 f sg ∧ sg 11 = f 11 ∧ sg 12 = f 12 ∧ sg 22 2 = nI (tot p) ∧ sg 22 4 = 0 ∧ ∀ j, j < i → sg 23 j = nI (tcm p j)) 10 0 _ (Nat.zero_le _) ⟨(Eqx.rf.up (by decide)).up (by decide), rfl, rfl, rfl, rfl, fun j hj => absurd hj (Nat.not_lt_zero _)⟩ ?_ ?_
  · intro n sg e
    obtain ⟨e1, e2, e3, e4, e5, e6⟩ := e
    refine pk_lt 9 10 (fun _ => ?_) (fun q => absurd q (by omega))
    refine w_start (p := p) (hp.eqx e1 (by decide)) (by rw [e2]; exact h11) (by rw [e3]; exact h12) (fun g8 r8 x8 => ?_)
    have hX8 : X22 p g8 [] 0 := by
      refine X22.eqx (f := sg) (l := []) ⟨e4, e5, Nat.zero_le _, e6⟩ (x8 22 (by decide)) (x8 23 (by decide))
    have hx8 : Eqx F22 f g8 := e1.tr (x8.mono (by decide))
    rw [gm_22]
    refine w_goOn (w := 22) ok F22 (by decide) (by decide) (X22 p) (X22 p) (nt22 p) (fun l s => decide (s < bks p l + tcm p l.length)) (fun f l s hX => hX.1) (fun f g l s c hX hx => hX.eqx (hx 22 (by decide)) (hx 23 (by decide))) (fun f g l s c hX hx => hX.eqx (hx 22 (by decide)) (hx 23 (by decide)))
      ?_ ?_ (fun f l s hX => hX) ?_ 12 g8 [] _ _ (by simp; omega) (Fit.nil p) (hp.eqx hx8 (by decide)) r8 hX8 (fun g9 x9 r9 X9 g11 e11 => ?_)
    · intro f l s Q hf hp hr hX q1 q0
      have hl := hf.len
      have hb := bks_le p (l := l) (by omega)
      have hc := tcm_le ok l.length
      obtain ⟨y1, y2, y3, y4⟩ := hX
      unfold M_X3_matters_22 J_X3_matters_22_26
      refine w_breaks hr (by omega) ⟨pk_in l.length 10 (by omega), ?_⟩
      rw [pk_cl l.length, y4 l.length (by omega), y2, nI_add]
      exact pk_le _ _ (fun z => ⟨rfl, q0 (by simp; omega) f Eqx.rf hr ⟨y1, y2, y3, y4⟩⟩) (fun z => ⟨rfl, q1 (by simp; omega) f Eqx.rf hr ⟨y1, y2, y3, y4⟩⟩) rfl rfl
    · intro f l s Q hf hl hp hr hX hm q
      have hb := bks_le p (l := l) (by omega)
      obtain ⟨y1, y2, y3, y4⟩ := hX
      have hm : s < bks p l := by
        have : s < bks p l + tcm p l.length := by simpa using hm
        rw [hl, tcm_end] at this
        exact this
      refine w_breaks hr (by omega) (fun g3 e3 => ?_)
      subst e3
      refine q _ (Eqx.rf.up (by decide)) (hr.eqx rfl rfl rfl rfl rfl) ⟨y1, ?_, ?_, y4⟩
      · unfold nt22; rw [if_pos hm]; rfl
      · unfold nt22; rw [if_pos hm]; omega
    · intro l s hf hm t ht
      obtain ⟨f1, f2⟩ := hf.full ht
      have h1 := bks_tcm ok f1 f2 (tot p - l.length) l.length (by have := hf.len; omega)
      rw [smb_left ok (Nat.le_refl _)] at h1
      have h2 : ¬ s < bks p l + tcm p l.length := by simpa using hm
      unfold nt22
      rw [if_neg (by unfold bks at h2; omega)]
    · subst e11
      have e0 : (List.length ([] : List Nat)) = 0 := rfl
      rw [e0, Nat.sub_zero, rem_nil] at X9
      refine h _ ((hx8.tr x9).up (by decide)) (r9.2.2.1 0 (Nat.zero_le _)) (r9.2.2.2.1 0 (Nat.zero_le _)) rfl ?_
      have X9' : X22 p g9 [] (ms p) := by simpa [ms] using X9
      exact X9'
  · intro n i sg hi e K
    obtain ⟨e1, e2, e3, e4, e5, e6⟩ := e
    refine pk_lt 9 i (fun q => absurd q (by omega)) (fun _ => ?_)
    rw [e4]
    refine w_bbh ok (hp.eqx e1 (by decide)) (by omega) ⟨pk_in i 10 hi, fun g6 e7 => ?_⟩
    subst e7
    rw [nI_1, pk_cl i]
    refine K _ ⟨e1.up (by decide), e2, e3, e4, e5, fun j hj => ?_⟩
    show upd (sg 23) i (nI (tcm p i)) j = _
    rcases Nat.lt_or_ge j i with q | q
    · rw [pk_un (by omega)]; exact e6 j q
    · rw [Nat.le_antisymm (by omega) q, pk_us]
