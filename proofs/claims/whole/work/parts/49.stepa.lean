/-! option, options, demand, told, of, clash -/
theorem rng {x : Int32} {n : Nat} (hn : n < 1000) (a : ¬ x < 0) (b : ¬ nI n < x) : ∃ j, j ≤ n ∧ x = nI j := by
  rcases pk_ix x (n := n + 1) (by omega) with w | w | ⟨j, hj, e⟩
  · exact absurd w a
  · exact absurd (Int32.lt_of_lt_of_le (nI_lt (a := n) (b := n + 1) (by omega) (by omega)) w) b
  · exact ⟨j, by omega, e⟩
theorem rng5 {x2 x3 : Int32} (a : ¬ x3 < 1) (b : ¬ 5 < x3) (c : ¬ x2 < 1) (d : x2 ≤ x3) : ∃ u v, x2 = nI u ∧ x3 = nI v ∧ 1 ≤ u ∧ u ≤ v ∧ v ≤ 5 := by
  have z1 : (0 : Int32) < 1 := by decide
  obtain ⟨v, hv, ev⟩ := rng (n := 5) (by omega) (fun w => a (Int32.lt_trans w z1)) b
  have b2 : ¬ nI 5 < x2 := fun w => b (Int32.lt_of_lt_of_le w d)
  obtain ⟨u, hu, eu⟩ := rng (n := 5) (by omega) (fun w => c (Int32.lt_trans w z1)) b2
  refine ⟨u, v, eu, ev, ?_, ?_, hv⟩
  · rcases Nat.lt_or_ge u 1 with w | w
    · exact absurd (by rw [eu]; exact nI_lt (a := u) (b := 1) w (by omega)) c
    · exact w
  · rw [eu, ev, nI_leI (by omega) (by omega)] at d
    exact d
def setO (p : Pl) (o u v : Nat) : Pl := (fun i => if i = o then u else pMy p i, fun i => if i = o then v else pOf p i, pSt p, pDm p)
theorem setO_ok {p : Pl} (ok : POk p) {o u v : Nat} (h1 : 1 ≤ u) (h2 : u ≤ v) (h3 : v ≤ 5) : POk (setO p o u v) := by
  refine ⟨fun i hi => ?_, ok.2.1, ok.2.2⟩
  show 1 ≤ (if i = o then u else pMy p i) ∧ (if i = o then u else pMy p i) ≤ (if i = o then v else pOf p i) ∧ (if i = o then v else pOf p i) ≤ 5
  by_cases q : i = o
  · rw [if_pos q, if_pos q]; exact ⟨h1, h2, h3⟩
  · rw [if_neg q, if_neg q]; exact ok.1 i hi
theorem w_setOption {f : Sg} {p : Pl} (hp : P1 f p) {o u v : Nat} (ho : o < 4) (h1 : 1 ≤ v) (h5 : v ≤ 5) {Q : Sg → Prop} (h : ∀ g, Eqx [2, 3, 4] f g → P1 g (setO p o u v) → Q g) : M_X5_setOption_1 f (nI o) (nI u) (nI v) Q := by
  refine ⟨pk_in o 4 ho, fun g2 e2 => ⟨pk_in o 4 ho, fun g4 e4 => ⟨pk_in o 4 ho, fun g6 e6 => ?_⟩⟩⟩
  rw [pk_cl o] at e2 e4 e6
  rw [win_ok v (by omega) h1 o ho] at e6
  subst e2 e4 e6
  refine h _ (((Eqx.rf.up (by decide)).up (by decide)).up (by decide)) ⟨fun i hi => ?_, hp.2⟩
  obtain ⟨m1, m2, m3⟩ := hp.1 i hi
  show upd (f 2) o (nI u) i = nI (if i = o then u else pMy p i) ∧ upd (f 3) o (nI v) i = nI (if i = o then v else pOf p i) ∧ upd (f 4) o (nI (win v o)) i = nI (win (if i = o then v else pOf p i) i)
  by_cases q : i = o
  · rw [if_pos q, if_pos q, q, pk_us, pk_us, pk_us]; exact ⟨rfl, rfl, rfl⟩
  · rw [if_neg q, if_neg q, pk_un q, pk_un q, pk_un q]; exact ⟨m1, m2, m3⟩
theorem r_optBad {f : Sg} {x1 x2 x3 : Int32} {o : Nat} (ho : o < 4) (e : x1 = nI o) {Q : Int32 → Sg → Prop} (hb : x3 < 1 ∨ 5 < x3 ∨ x2 < 1 ∨ x3 < x2) (h : Q (-2) f) : M_X10_option_0 f x1 x2 x3 Q := by
  unfold M_X10_option_0 J_X10_option_0_27
  refine r_isOption (fun i hi e => ⟨fun z => absurd z (by decide), fun _ => r_in (fun a b => ⟨fun z => absurd z (by decide), fun _ => r_in (fun c d => ?_) (fun _ => ⟨fun _ => h, fun z => absurd rfl z⟩)⟩) (fun _ => ⟨fun _ => h, fun z => absurd rfl z⟩)⟩) (fun w => absurd e (w o ho))
  rcases hb with w | w | w | w
  · exact absurd w a
  · exact absurd w b
  · exact absurd w c
  · exact absurd w d
theorem st_option {f g : Sg} (I : Inv f g) (x1 x2 x3 : Int32) : M_X9_option_0 f x1 x2 x3 (fun r f' => M_X10_option_0 g x1 x2 x3 (fun r' g' => r = r' ∧ Inv f' g')) := by
  have J := I
  obtain ⟨p, q, i0, i1, ok, qok, ok0, ok1, C, R⟩ := I
  unfold M_X9_option_0 J_X9_option_0_29
  refine w_isOption (fun o ho e => ⟨fun z => absurd z (by decide), fun _ => ⟨fun c => r_optBad ho e (Or.inl c) (same J), fun c => ⟨fun d => r_optBad ho e (Or.inr (Or.inl d)) (same J), fun d => ⟨fun a => r_optBad ho e (Or.inr (Or.inr (Or.inl a))) (same J), fun a => ⟨fun b => ?_, fun b => r_optBad ho e (Or.inr (Or.inr (Or.inr (Int32.not_le.mp b)))) (same J)⟩⟩⟩⟩⟩) (fun w => ⟨fun _ => ?_, fun z => absurd rfl z⟩)
  · obtain ⟨u, v, rfl, rfl, h1, h2, h3⟩ := rng5 c d a b
    subst e
    obtain ⟨m1, m2, m3⟩ := C.1.1 o ho
    refine ⟨pk_in o 4 ho, pk_in o 4 ho, fun z10 e10 => w_setOption C.1 ho (by omega) h3 (fun g11 x11 p11 => w_forget (fun g13 x13 a1 a2 a3 a4 => ?_))⟩
    rw [pk_cl o, m1, m2] at e10
    unfold M_X10_option_0
    rw [ad0 o, ad4 o]
    refine r_isOption (fun i hi e => ⟨fun z => absurd z (by decide), fun _ => r_in (fun _ _ => ⟨fun z => absurd z (by decide), fun _ => r_in (fun _ _ => ⟨fun z => absurd z (by decide), fun _ => ⟨pk_in o 18 (by omega), pk_in (4 + o) 18 (by omega), fun z12 e12 => ⟨pk_in o 18 (by omega), fun g14 e14 => ⟨pk_in (4 + o) 18 (by omega), fun g16 e16 => ?_⟩⟩⟩⟩) (fun w => ?_)⟩) (fun w => ?_)⟩) (fun w => absurd rfl (w o ho))
    · rw [pk_cl o, pk_cl (4 + o), (R.1.1 o ho).1, (R.1.1 o ho).2] at e12
      rw [pk_cl o] at e14
      rw [pk_cl (4 + o)] at e16
      subst e14 e16
      refine ⟨by rw [e10, e12], setO p o u v, q, i0, i1, setO_ok ok h1 h2 h3, qok, ok0, ok1, C.plan ((x11.mono (by decide)).tr (x13.mono (by decide))) (p11.eqx x13 (by decide)) a1 a2 a3 a4, ⟨fun i hi => ?_, fun c hc => ?_⟩, R.2.1.eqx rfl rfl, R.2.2.1, R.2.2.2.1, R.2.2.2.2⟩
      · show upd (upd (g 1) o (nI u)) (4 + o) (nI v) i = nI (if i = o then u else pMy p i) ∧ upd (upd (g 1) o (nI u)) (4 + o) (nI v) (4 + i) = nI (if i = o then v else pOf p i)
        obtain ⟨n1, n2⟩ := R.1.1 i hi
        by_cases w : i = o
        · rw [if_pos w, if_pos w, w, pk_un (by omega), pk_us, pk_us]; exact ⟨rfl, rfl⟩
        · rw [if_neg w, if_neg w, pk_un (by omega), pk_un (by omega), pk_un (by omega), pk_un (by omega)]; exact ⟨n1, n2⟩
      · show upd (upd (g 1) o (nI u)) (4 + o) (nI v) (8 + c) = nI (pSt p c) ∧ upd (upd (g 1) o (nI u)) (4 + o) (nI v) (13 + c) = nI (pDm p c)
        rw [pk_un (by omega), pk_un (by omega), pk_un (by omega), pk_un (by omega)]
        exact R.1.2 c hc
    · exfalso
      rcases w with w | w
      · exact a w
      · exact absurd b (Int32.not_le.mpr w)
    · exfalso
      rcases w with w | w
      · exact c w
      · exact d w
  · unfold M_X10_option_0
    exact r_isOption (fun i hi e => absurd e (w i hi)) (fun _ => ⟨fun _ => same J, fun z => absurd rfl z⟩)
def setS (p : Pl) (c s : Nat) : Pl := (pMy p, pOf p, fun i => if i = c then s else pSt p i, pDm p)
theorem st_options {f g : Sg} (I : Inv f g) (x1 x2 : Int32) : M_X9_options_0 f x1 x2 (fun r f' => M_X10_options_0 g x1 x2 (fun r' g' => r = r' ∧ Inv f' g')) := by
  have J := I
  obtain ⟨p, q, i0, i1, ok, qok, ok0, ok1, C, R⟩ := I
  have bad : ∀ c, c < 5 → x1 = nI c → (x2 < 0 ∨ 15 < x2) → M_X10_options_0 g x1 x2 (fun r' g' => -2 = r' ∧ Inv f g') := by
    intro c hc e hb
    unfold M_X10_options_0
    refine r_isClass (fun i hi e => ⟨fun z => absurd z (by decide), fun _ => r_in (fun a b => ?_) (fun _ => ⟨fun _ => same J, fun z => absurd rfl z⟩)⟩) (fun w => absurd e (w c hc))
    rcases hb with w | w
    · exact absurd w a
    · exact absurd w b
  unfold M_X9_options_0 J_X9_options_0_19
  refine w_isClass (fun c hc e => ⟨fun z => absurd z (by decide), fun _ => ⟨fun a => bad c hc e (Or.inl a), fun a => ⟨fun b => ?_, fun b => bad c hc e (Or.inr (Int32.not_le.mp b))⟩⟩⟩) (fun w => ⟨fun _ => ?_, fun z => absurd rfl z⟩)
  · obtain ⟨s, hs, rfl⟩ := rng (n := 15) (by omega) a (Int32.not_lt.mpr b)
    subst e
    refine ⟨pk_in c 5 hc, fun z7 e7 => ⟨pk_in c 5 hc, fun g9 e9 => w_forget (fun g13 x13 a1 a2 a3 a4 => ?_)⟩⟩
    rw [pk_cl c, (C.1.2 c hc).1] at e7
    rw [pk_cl c] at e9
    unfold M_X10_options_0
    rw [ad8 c]
    refine r_isClass (fun i hi e => ⟨fun z => absurd z (by decide), fun _ => r_in (fun _ _ => ⟨fun z => absurd z (by decide), fun _ => ⟨pk_in (8 + c) 18 (by omega), fun z8 e8 => ⟨pk_in (8 + c) 18 (by omega), fun g10 e10 => ?_⟩⟩⟩) (fun w => ?_)⟩) (fun w => absurd rfl (w c hc))
    · rw [pk_cl (8 + c), (R.1.2 c hc).1] at e8
      rw [pk_cl (8 + c)] at e10
      have x9 : Eqx [5] f g9 := by rw [e9]; exact Eqx.rf.up (by decide)
      have p9 : P1 g9 (setS p c s) := by
        rw [e9]
        refine ⟨C.1.1, fun i hi => ⟨?_, (C.1.2 i hi).2⟩⟩
        show upd (f 5) c (nI s) i = nI (if i = c then s else pSt p i)
        by_cases w : i = c
        · rw [if_pos w, w, pk_us]
        · rw [if_neg w, pk_un w]; exact (C.1.2 i hi).1
      subst e10
      refine ⟨by rw [e7, e8], setS p c s, q, i0, i1, ⟨ok.1, fun i hi => ?_, ok.2.2⟩, qok, ok0, ok1, C.plan ((x9.mono (by decide)).tr (x13.mono (by decide))) (p9.eqx x13 (by decide)) a1 a2 a3 a4, ⟨fun i hi => ?_, fun i hi => ?_⟩, R.2.1.eqx rfl rfl, R.2.2.1, R.2.2.2.1, R.2.2.2.2⟩
      · show (if i = c then s else pSt p i) < 16
        split
        · omega
        · exact ok.2.1 i hi
      · show upd (g 1) (8 + c) (nI s) i = nI (pMy p i) ∧ upd (g 1) (8 + c) (nI s) (4 + i) = nI (pOf p i)
        rw [pk_un (by omega), pk_un (by omega)]
        exact R.1.1 i hi
      · show upd (g 1) (8 + c) (nI s) (8 + i) = nI (if i = c then s else pSt p i) ∧ upd (g 1) (8 + c) (nI s) (13 + i) = nI (pDm p i)
        rw [pk_un (show 13 + i ≠ 8 + c by omega)]
        refine ⟨?_, (R.1.2 i hi).2⟩
        by_cases w : i = c
        · rw [if_pos w, w, pk_us]
        · rw [if_neg w, pk_un (by omega)]; exact (R.1.2 i hi).1
    · exfalso
      rcases w with w | w
      · exact a w
      · exact absurd b (Int32.not_le.mpr w)
  · unfold M_X10_options_0
    exact r_isClass (fun i hi e => absurd e (w i hi)) (fun _ => ⟨fun _ => same J, fun z => absurd rfl z⟩)
def setD (p : Pl) (c n : Nat) : Pl := (pMy p, pOf p, pSt p, fun i => if i = c then n else pDm p i)
theorem setD_tot (p : Pl) {c n : Nat} (hc : c < 5) : tot (setD p c n) + pDm p c = tot p + n := by
  unfold tot
  show sm (fun i => if i = c then n else pDm p i) 5 + pDm p c = sm (pDm p) 5 + n
  simp only [sm]
  rcases (show c = 0 ∨ c = 1 ∨ c = 2 ∨ c = 3 ∨ c = 4 by omega) with rfl | rfl | rfl | rfl | rfl <;> simp <;> omega
theorem st_demand {f g : Sg} (I : Inv f g) (x1 x2 : Int32) : M_X9_demand_0 f x1 x2 (fun r f' => M_X10_demand_0 g x1 x2 (fun r' g' => r = r' ∧ Inv f' g')) := by
  have J := I
  obtain ⟨p, q, i0, i1, ok, qok, ok0, ok1, C, R⟩ := I
  have ht := ok.2.2
  have bad : ∀ c, c < 5 → x1 = nI c → (x2 < 0 ∨ 9 < x2) → M_X10_demand_0 g x1 x2 (fun r' g' => -2 = r' ∧ Inv f g') := by
    intro c hc e hb
    unfold M_X10_demand_0
    refine r_isClass (fun i hi e => ⟨fun z => absurd z (by decide), fun _ => r_in (fun a b => ?_) (fun _ => ⟨fun _ => same J, fun z => absurd rfl z⟩)⟩) (fun w => absurd e (w c hc))
    rcases hb with w | w
    · exact absurd w a
    · exact absurd w b
  unfold M_X9_demand_0 J_X9_demand_0_19
  refine w_isClass (fun c hc e => ⟨fun z => absurd z (by decide), fun _ => ⟨fun a => bad c hc e (Or.inl a), fun a => ⟨fun b => ?_, fun b => bad c hc e (Or.inr (Int32.not_le.mp b))⟩⟩⟩) (fun w => ⟨fun _ => ?_, fun z => absurd rfl z⟩)
  · obtain ⟨n, hn, rfl⟩ := rng (n := 9) (by omega) a (Int32.not_lt.mpr b)
    subst e
    have hdc := ok.dm hc
    have hle : pDm p c ≤ tot p := sm_part (pDm p) hc
    have hsd := setD_tot p (n := n) hc
    have num : nI (tot p) - nI (pDm p c) + nI n = nI (tot p - pDm p c + n) := by rw [pk_sub hle, nI_add]
    refine w_cars C.1 ⟨pk_in c 5 hc, fun z9 e9 => ?_⟩
    rw [pk_cl c, (C.1.2 c hc).2, num] at e9
    have ref : ∀ (Q : Int32 → Sg → Prop), (tot p - pDm p c + n ≤ 9 → ∀ g12, g12 = va_up g 1 (upd (g 1) (13 + c) (nI n)) → Q (nI (tot p - pDm p c + n)) g12) → (¬ tot p - pDm p c + n ≤ 9 → Q (-4) g) → M_X10_demand_0 g (nI c) (nI n) Q := by
      intro Q q1 q0
      unfold M_X10_demand_0
      rw [ad13 c]
      refine r_isClass (fun i hi e => ⟨fun z => absurd z (by decide), fun _ => r_in (fun _ _ => ⟨fun z => absurd z (by decide), fun _ => r_cars R.1 ⟨pk_in (13 + c) 18 (by omega), ?_⟩⟩) (fun w => ?_)⟩) (fun w => absurd rfl (w c hc))
      · rw [pk_cl (13 + c), (R.1.2 c hc).2, num]
        refine pk_le _ 9 (fun w => ⟨pk_in (13 + c) 18 (by omega), fun g12 e12 => ?_⟩) (fun w => q0 (by omega)) rfl rfl
        have hR : R1 (g12 1) (setD p c n) := by
          rw [e12]
          refine ⟨fun i hi => ?_, fun i hi => ?_⟩
          · show upd (g 1) (13 + c) (nI n) i = nI (pMy p i) ∧ upd (g 1) (13 + c) (nI n) (4 + i) = nI (pOf p i)
            rw [pk_un (by omega), pk_un (by omega)]
            exact R.1.1 i hi
          · show upd (g 1) (13 + c) (nI n) (8 + i) = nI (pSt p i) ∧ upd (g 1) (13 + c) (nI n) (13 + i) = nI (if i = c then n else pDm p i)
            rw [pk_un (show 8 + i ≠ 13 + c by omega)]
            refine ⟨(R.1.2 i hi).1, ?_⟩
            by_cases w : i = c
            · rw [if_pos w, w, pk_us]
            · rw [if_neg w, pk_un (by omega)]; exact (R.1.2 i hi).2
        refine r_cars hR ?_
        rw [show tot (setD p c n) = tot p - pDm p c + n by omega]
        exact q1 w g12 e12
      · exfalso
        rcases w with w | w
        · exact a w
        · exact absurd b (Int32.not_le.mpr w)
    rw [e9]
    refine pk_le _ 9 (fun w => ⟨pk_in c 5 hc, fun g12 e12 => w_forget (fun g13 x13 a1 a2 a3 a4 => ref _ (fun _ g' e' => ?_) (fun v => absurd w v))⟩) (fun w => ref _ (fun v => absurd v (by omega)) (fun _ => same J)) rfl rfl
    rw [pk_cl c] at e12
    have x12 : Eqx [6] f g12 := by rw [e12]; exact Eqx.rf.up (by decide)
    have p12 : P1 g12 (setD p c n) := by
      rw [e12]
      refine ⟨C.1.1, fun i hi => ⟨(C.1.2 i hi).1, ?_⟩⟩
      show upd (f 6) c (nI n) i = nI (if i = c then n else pDm p i)
      by_cases w : i = c
      · rw [if_pos w, w, pk_us]
      · rw [if_neg w, pk_un w]; exact (C.1.2 i hi).2
    subst e'
    refine ⟨rfl, setD p c n, q, i0, i1, ⟨ok.1, ok.2.1, by omega⟩, qok, ok0, ok1, C.plan ((x12.mono (by decide)).tr (x13.mono (by decide))) (p12.eqx x13 (by decide)) a1 a2 a3 a4, ⟨fun i hi => ?_, fun i hi => ?_⟩, R.2.1.eqx rfl rfl, R.2.2.1, R.2.2.2.1, R.2.2.2.2⟩
    · show upd (g 1) (13 + c) (nI n) i = nI (pMy p i) ∧ upd (g 1) (13 + c) (nI n) (4 + i) = nI (pOf p i)
      rw [pk_un (by omega), pk_un (by omega)]
      exact R.1.1 i hi
    · show upd (g 1) (13 + c) (nI n) (8 + i) = nI (pSt p i) ∧ upd (g 1) (13 + c) (nI n) (13 + i) = nI (if i = c then n else pDm p i)
      rw [pk_un (show 8 + i ≠ 13 + c by omega)]
      refine ⟨(R.1.2 i hi).1, ?_⟩
      by_cases w : i = c
      · rw [if_pos w, w, pk_us]
      · rw [if_neg w, pk_un (by omega)]; exact (R.1.2 i hi).2
  · unfold M_X10_demand_0
    exact r_isClass (fun i hi e => absurd e (w i hi)) (fun _ => ⟨fun _ => same J, fun z => absurd rfl z⟩)
theorem st_told {f g : Sg} (I : Inv f g) (x1 x2 : Int32) : M_X9_told_0 f x1 x2 (fun r f' => M_X10_told_0 g x1 x2 (fun r' g' => r = r' ∧ Inv f' g')) := by
  have J := I
  obtain ⟨p, q, i0, i1, ok, qok, ok0, ok1, C, R⟩ := I
  unfold M_X9_told_0
  refine w_isClass (fun c hc e => ⟨fun z => absurd z (by decide), fun _ => ?_⟩) (fun w => ⟨fun _ => ?_, fun z => absurd rfl z⟩)
  · subst e
    have ref : ∀ (Q : Int32 → Sg → Prop), (x2 = 0 → Q (nI (pSt p c)) g) → (x2 = 1 → Q (nI (pDm p c)) g) → (¬ x2 = 0 → ¬ x2 = 1 → Q (-2) g) → M_X10_told_0 g (nI c) x2 Q := by
      intro Q q0 q1 q2
      unfold M_X10_told_0 J_X10_told_0_44
      rw [ad8 c, ad13 c]
      refine r_isClass (fun i hi e => ⟨fun z => absurd z (by decide), fun _ => ⟨fun a => ⟨pk_in (8 + c) 18 (by omega), ?_⟩, fun a => ⟨fun b => ⟨pk_in (13 + c) 18 (by omega), ?_⟩, fun b => q2 a b⟩⟩⟩) (fun w => absurd rfl (w c hc))
      · rw [pk_cl (8 + c), (R.1.2 c hc).1]; exact q0 a
      · rw [pk_cl (13 + c), (R.1.2 c hc).2]; exact q1 b
    refine ⟨fun a => ⟨pk_in c 5 hc, ?_⟩, fun a => ⟨fun b => ⟨pk_in c 5 hc, ?_⟩, fun b => ref _ (fun z => absurd z a) (fun z => absurd z b) (fun _ _ => same J)⟩⟩
    · rw [pk_cl c, (C.1.2 c hc).1]
      exact ref _ (fun _ => same J) (fun z => absurd (a.symm.trans z) (by decide)) (fun z => absurd a z)
    · rw [pk_cl c, (C.1.2 c hc).2]
      exact ref _ (fun z => absurd z a) (fun _ => same J) (fun _ z => absurd b z)
  · unfold M_X10_told_0
    exact r_isClass (fun i hi e => absurd e (w i hi)) (fun _ => ⟨fun _ => same J, fun z => absurd rfl z⟩)
theorem st_of {f g : Sg} (I : Inv f g) (x1 x2 : Int32) : M_X9_of_0 f x1 x2 (fun r f' => M_X10_of_0 g x1 x2 (fun r' g' => r = r' ∧ Inv f' g')) := by
  have J := I
  obtain ⟨p, q, i0, i1, ok, qok, ok0, ok1, C, R⟩ := I
  unfold M_X9_of_0
  refine w_isOption (fun o ho e => ⟨fun z => absurd z (by decide), fun _ => ?_⟩) (fun w => ⟨fun _ => ?_, fun z => absurd rfl z⟩)
  · subst e
    have ref : ∀ (Q : Int32 → Sg → Prop), (x2 = 0 → Q (nI (pMy p o)) g) → (x2 = 1 → Q (nI (pOf p o)) g) → (x2 = 2 → Q (nI (wtd p o)) g) → (x2 = 3 → Q (nI (rmm p o)) g) → (¬ x2 = 0 → ¬ x2 = 1 → ¬ x2 = 2 → ¬ x2 = 3 → Q (-2) g) → M_X10_of_0 g (nI o) x2 Q := by
      intro Q q0 q1 q2 q3 q4
      unfold M_X10_of_0
      rw [ad0 o, ad4 o]
      refine r_isOption (fun i hi e => ⟨fun z => absurd z (by decide), fun _ => ⟨fun a => ⟨pk_in o 18 (by omega), ?_⟩, fun a => ⟨fun b => ⟨pk_in (4 + o) 18 (by omega), ?_⟩, fun b => ⟨fun c => r_wanted ok R.1 ho (q2 c), fun c => ⟨fun d => r_room ok R.1 ho (q3 d), fun d => q4 a b c d⟩⟩⟩⟩⟩) (fun w => absurd rfl (w o ho))
      · rw [pk_cl o, (R.1.1 o ho).1]; exact q0 a
      · rw [pk_cl (4 + o), (R.1.1 o ho).2]; exact q1 b
    obtain ⟨m1, m2, m3⟩ := C.1.1 o ho
    refine ⟨fun a => ⟨pk_in o 4 ho, ?_⟩, fun a => ⟨fun b => ⟨pk_in o 4 ho, ?_⟩, fun b => ⟨fun c => w_wanted ok C.1 ho (ref _ (fun z => absurd z a) (fun z => absurd z b) (fun _ => same J) (fun z => absurd (c.symm.trans z) (by decide)) (fun _ _ z => absurd c z)), fun c => ⟨fun d => w_room ok C.1 ho (ref _ (fun z => absurd z a) (fun z => absurd z b) (fun z => absurd z c) (fun _ => same J) (fun _ _ _ z => absurd d z)), fun d => ref _ (fun z => absurd z a) (fun z => absurd z b) (fun z => absurd z c) (fun z => absurd z d) (fun _ _ _ _ => same J)⟩⟩⟩⟩
    · rw [pk_cl o, m1]
      exact ref _ (fun _ => same J) (fun z => absurd (a.symm.trans z) (by decide)) (fun z => absurd (a.symm.trans z) (by decide)) (fun z => absurd (a.symm.trans z) (by decide)) (fun z => absurd a z)
    · rw [pk_cl o, m2]
      exact ref _ (fun z => absurd z a) (fun _ => same J) (fun z => absurd (b.symm.trans z) (by decide)) (fun z => absurd (b.symm.trans z) (by decide)) (fun _ z => absurd b z)
  · unfold M_X10_of_0
    exact r_isOption (fun i hi e => absurd e (w i hi)) (fun _ => ⟨fun _ => same J, fun z => absurd rfl z⟩)
def csh (p : Pl) : Nat → Int32
  | 0 => 0
  | i + 1 => if rmm p i < wtd p i then csh p i ||| ((1 : Int32) <<< (nI i &&& 31)) else csh p i
theorem rmm_le {p : Pl} (ok : POk p) {o : Nat} (ho : o < 4) : rmm p o ≤ 100 := by
  obtain ⟨o1, o2, o3⟩ := ok.1 o ho
  have ht := ok.2.2
  have h1 : tot p / pOf p o ≤ 9 := Nat.le_trans (Nat.div_le_self _ _) ht
  have h2 : pMy p o * (tot p / pOf p o) ≤ 5 * 9 := Nat.mul_le_mul (by omega) h1
  have h3 : tot p % pOf p o ≤ 9 := Nat.le_trans (Nat.mod_le _ _) ht
  unfold rmm
  split <;> omega
theorem w_clash {f : Sg} {p : Pl} (ok : POk p) (hp : P1 f p) {Q : Int32 → Sg → Prop} (h : Q (csh p 4) f) : M_X9_clash_0 f Q := by
  refine pk_loop (fun n i (s : Int32) => itr2 (B_X9_clash_0_4 Q) n f s (nI i)) (fun i s => s = csh p i) 4 0 0 (Nat.zero_le _) rfl ?_ ?_
  · intro n s e
    exact pk_le 4 4 (fun _ => by rw [e]; exact h) (fun q => absurd q (by omega))
  · intro n i s hi e K
    have h1 := rmm_le ok hi
    have h2 := wtd_le p i
    have h3 := ok.2.2
    unfold itr2 B_X9_clash_0_4 J_X9_clash_0_34
    rw [nI_1 i]
    refine pk_le 4 i (fun q => absurd q (by omega)) (fun _ => w_wanted ok hp hi (w_room ok hp hi (pk_le _ _ (fun z => K s ?_) (fun z z7 e7 => K z7 ?_) rfl rfl)))
    · show s = if _ then _ else _
      rw [if_neg (by omega), e]
    · show z7 = if _ then _ else _
      rw [if_pos (by omega), e7, e]
theorem r_clash {f : Sg} {p : Pl} (ok : POk p) (hp : R1 (f 1) p) {Q : Int32 → Sg → Prop} (h : Q (csh p 4) f) : M_X10_clash_0 f Q := by
  refine pk_loop (fun n i (s : Int32) => itr2 (B_X10_clash_0_4 Q) n f s (nI i)) (fun i s => s = csh p i) 4 0 0 (Nat.zero_le _) rfl ?_ ?_
  · intro n s e
    exact pk_le 4 4 (fun _ => by rw [e]; exact h) (fun q => absurd q (by omega))
  · intro n i s hi e K
    have h1 := rmm_le ok hi
    have h2 := wtd_le p i
    have h3 := ok.2.2
    unfold itr2 B_X10_clash_0_4 J_X10_clash_0_30
    rw [nI_1 i]
    refine pk_le 4 i (fun q => absurd q (by omega)) (fun _ => r_wanted ok hp hi (r_room ok hp hi (pk_le _ _ (fun z z7 e7 => K z7 ?_) (fun z z7 e7 => K z7 ?_) rfl rfl)))
    · show z7 = if _ then _ else _
      rw [if_neg (by omega), e7, e, Int32.or_zero]
    · show z7 = if _ then _ else _
      rw [if_pos (by omega), e7, e]
theorem st_clash {f g : Sg} (I : Inv f g) : M_X9_clash_0 f (fun r f' => M_X10_clash_0 g (fun r' g' => r = r' ∧ Inv f' g')) := by
  have J := I
  obtain ⟨p, q, i0, i1, ok, qok, ok0, ok1, C, R⟩ := I
  exact w_clash ok C.1 (r_clash ok R.1 (same J))
