/-! fits, at, near, least, orders, rule, filled, lane -/
theorem keep04 {f g : Sg} {S : List Nat} (h : Fld S f g) (h4 : 4 ∉ S) : g 0 4 = f 0 4 := h 4 h4
theorem least_ne {p : Pl} (ok : POk p) : (fw p).2.1 ≠ 0 := by
  have ht := ok.2.2
  obtain ⟨i1, i2, i3⟩ := rlr_ok (p := p) (tot p) (Nat.le_refl _)
  have hb := bks_le p (l := rlr p (tot p)) (by omega)
  have hmem : rlr p (tot p) ∈ AO p := ords_all (tot p) (pDm p) _ i1 i2.mem (fun c hc => by
    have := i3 c hc
    unfold lf at this
    omega)
  have hmin := sL_min p (AO p) _ hmem
  have hlen := AO_len ok
  rcases least_sim p (bks p (rlr p (tot p))) hb (AO p) (fun o ho => by rw [(AO_mem ho).1]; exact ht) (by omega) with ⟨a, b, c, c1, c2, c3⟩ | ⟨a, _, _⟩
  · have e : (fw p).2.1 = (sL p (AO p)).2.1 := by rw [(least_eq ok).1]
    rw [e, c3]
    exact nI_ne0 (by omega) (by omega)
  · omega
theorem ft_1 (p : Pl) : (ft p).1 = nI (cntF p (AO p)) := s14_1 p (AO p)
theorem cnt_bnd {p : Pl} (ok : POk p) : cntF p (AO p) < 2 ^ 31 := by
  have h1 := cntF_le p (AO p)
  have h2 := AO_len ok
  omega
theorem nI_le0 {n : Nat} (h : n < 2 ^ 31) : nI n ≤ 0 ↔ n = 0 := by
  rw [show (0 : Int32) = nI 0 from rfl, nI_leI h (by omega)]
  omega
theorem nI_eq0 {n : Nat} (h : n < 2 ^ 31) : nI n = 0 ↔ n = 0 := by
  rw [show (0 : Int32) = nI 0 from rfl, nI_eq h (by omega)]
theorem st_fits {f g : Sg} (I : Inv f g) (x1 : Int32) : M_X9_fits_0 f x1 (fun r f' => M_X10_fits_0 g x1 (fun r' g' => r = r' ∧ Inv f' g')) := by
  have J := I
  obtain ⟨p, q, i0, i1, ok, qok, ok0, ok1, C, R⟩ := I
  have ht := ok.2.2
  have hc := cnt_bnd ok
  unfold M_X9_fits_0 J_X9_fits_0_55
  refine ⟨fun c => w_fit ok C (fun f1 C1 Z1 => ?_), fun c => ⟨fun z => absurd z c, fun _ => same J⟩⟩
  have ref : ∀ (Q : Int32 → Sg → Prop), (∀ g1, StF p g g1 (AO p) → RInv g1 p q i0 i1 → (x1 = -1 → Q (g1 0 9) g1) ∧ (¬ x1 = -1 → M_X10_told__0 g1 x1 Q)) → M_X10_fits_0 g x1 Q := by
    intro Q hQ
    unfold M_X10_fits_0 J_X10_fits_0_29
    exact ⟨fun _ => r_goFits ok R.1 (fun g1 S1 => hQ g1 S1 (R.keep (S1.1.mono (by decide)) (keep04 S1.2.1 (by decide)))), fun z => absurd c z⟩
  have inv1 : ∀ g1, RInv g1 p q i0 i1 → Inv f1 g1 := fun g1 R1 => ⟨p, q, i0, i1, ok, qok, ok0, ok1, C1, R1⟩
  have e9 : f1 14 9 = nI (cntF p (AO p)) := by rw [Z1.2.1, ft_1]
  have g9 : ∀ g1, StF p g g1 (AO p) → g1 0 9 = nI (cntF p (AO p)) := fun g1 S1 => by rw [S1.2.2.2.1, sF_s14, s14_1]
  rw [e9, nI_eq0 hc]
  refine ⟨fun a => ref _ (fun g1 S1 R1 => ⟨fun _ => ⟨(g9 g1 S1).symm, inv1 g1 R1⟩, fun z => absurd a z⟩), fun a => ⟨fun b => ref _ (fun g1 S1 R1 => ⟨fun z => absurd z a, fun _ => r_told ok S1.2.2.1 (fun z => ?_) (fun _ => ⟨rfl, inv1 g1 R1⟩)⟩), fun b => w_at15 ok C1.1 (ref _ (fun g1 S1 R1 => ⟨fun z => absurd z a, fun _ => r_told ok S1.2.2.1 (fun _ => ⟨?_, inv1 g1 R1⟩) (fun z => ?_)⟩))⟩⟩
  · rw [g9 g1 S1, nI_le0 hc] at z; exact absurd b z
  · have n1 : (ft p).1 ≠ 0 := by rw [ft_1]; exact fun w => b ((nI_eq0 hc).mp w)
    have n2 : (sF p (AO p)).1 ≠ 0 := by rw [sF_s14]; exact n1
    have k2 := S1.2.2.2.2.1 n2
    rw [sF_s14] at k2
    exact clAt_eq (keeps_eq (Z1.2.2.1 n1).1 k2) ht x1
  · rw [g9 g1 S1, nI_le0 hc] at z; exact absurd z b
theorem st_at {f g : Sg} (I : Inv f g) (x1 : Int32) : M_X9_at_0 f x1 (fun r f' => M_X10_at_0 g x1 (fun r' g' => r = r' ∧ Inv f' g')) := by
  obtain ⟨p, q, i0, i1, ok, qok, ok0, ok1, C, R⟩ := I
  have ht := ok.2.2
  have hc := cnt_bnd ok
  unfold M_X9_at_0 J_X9_at_0_34
  refine w_fit ok C (fun f1 C1 Z1 => ?_)
  have inv1 : ∀ g1, RInv g1 p q i0 i1 → Inv f1 g1 := fun g1 R1 => ⟨p, q, i0, i1, ok, qok, ok0, ok1, C1, R1⟩
  have e9 : f1 14 9 = nI (cntF p (AO p)) := by rw [Z1.2.1, ft_1]
  rw [e9, nI_eq0 hc]
  have ref : ∀ (Q : Int32 → Sg → Prop), (∀ g1, StF p g g1 (AO p) → RInv g1 p q i0 i1 → Q (if cntF p (AO p) = 0 then -6 else clAt p (g1 7) x1) g1) → M_X10_at_0 g x1 Q := by
    intro Q hQ
    unfold M_X10_at_0 J_X10_at_0_34 J_X10_at_0_36
    refine r_goFits ok R.1 (fun g1 S1 => ?_)
    have hq := hQ g1 S1 (R.keep (S1.1.mono (by decide)) (keep04 S1.2.1 (by decide)))
    have g9 : g1 0 9 = nI (cntF p (AO p)) := by rw [S1.2.2.2.1, sF_s14, s14_1]
    rw [g9, nI_le0 hc, S1.2.2.1]
    refine ⟨fun z => by rw [if_pos z] at hq; exact hq, fun z => ?_⟩
    rw [if_neg z] at hq
    unfold clAt at hq
    have em : nI (tot p) - 1 = iI ((tot p : Int) - 1) := by rw [iI_nI, iI_m1]
    have hcmp : (iI ((tot p : Int) - 1) < x1) ↔ nI (tot p) ≤ x1 := by
      rw [Int32.lt_iff_toInt_lt, Int32.le_iff_toInt_le, iI_toInt (by omega) (by omega), nI_toInt (by omega)]
      omega
    rw [em]
    refine r_in (fun a b => ⟨fun w => absurd w (by decide), fun _ => ?_⟩) (fun w => ⟨fun _ => ?_, fun w => absurd rfl w⟩)
    · rw [hcmp] at b
      rw [if_neg (by rintro (w | w); exact a w; exact b w)] at hq
      refine ⟨?_, hq⟩
      rcases pk_ix x1 (n := tot p) (by omega) with w | w | ⟨j, hj, e⟩
      · exact absurd w a
      · exact absurd w b
      · exact pk_in j 9 (by omega) e
    · rw [hcmp] at w
      rw [if_pos w] at hq; exact hq
  refine ⟨fun b => ref _ (fun g1 S1 R1 => ⟨by rw [if_pos b], inv1 g1 R1⟩), fun b => w_at17 ok C1.1 (ref _ (fun g1 S1 R1 => ⟨?_, inv1 g1 R1⟩))⟩
  rw [if_neg b]
  refine clAt_eq (fun i hi => ?_) ht x1
  rw [Z1.2.2.2.1 i (by omega), S1.2.2.2.2.2 i (by omega), sF_s14]
  rfl
theorem st_near {f g : Sg} (I : Inv f g) (x1 : Int32) : M_X9_near_0 f x1 (fun r f' => M_X10_near_0 g x1 (fun r' g' => r = r' ∧ Inv f' g')) := by
  have J := I
  obtain ⟨p, q, i0, i1, ok, qok, ok0, ok1, C, R⟩ := I
  have ht := ok.2.2
  have hc := cnt_bnd ok
  unfold M_X9_near_0 J_X9_near_0_55
  refine ⟨fun c => w_fit ok C (fun f1 C1 Z1 => ?_), fun c => r_near ok R.1 (fun _ => same J) (fun z => absurd z c)⟩
  have inv1 : ∀ g1 b, StN p g g1 b (AO p) → Inv f1 g1 := fun g1 b S1 => ⟨p, q, i0, i1, ok, qok, ok0, ok1, C1, R.keep (S1.1.mono (by decide)) (keep04 S1.2.1 (by decide))⟩
  have e9 : f1 14 9 = nI (cntF p (AO p)) := by rw [Z1.2.1, ft_1]
  rw [e9, nI_eq0 hc]
  refine ⟨fun b => r_near ok R.1 (fun z => absurd c z) (fun _ g1 v S1 => ?_), fun b => ?_⟩
  · obtain ⟨a1, a2⟩ := S1.2.2.2.1 b
    refine ⟨fun _ => ⟨a2.symm, inv1 g1 v S1⟩, fun _ => r_told ok S1.2.2.1 (fun z => absurd (by rw [a1]; decide) z) (fun _ => ⟨rfl, inv1 g1 v S1⟩)⟩
  · have n1 : (ft p).1 ≠ 0 := by rw [ft_1]; exact fun w => b ((nI_eq0 hc).mp w)
    obtain ⟨_, z2, _, z4⟩ := Z1.2.2.1 n1
    refine ⟨fun a => r_near ok R.1 (fun z => absurd c z) (fun _ g1 v S1 => ⟨fun _ => ⟨?_, inv1 g1 v S1⟩, fun z => absurd a z⟩), fun a => w_at16 ok C1.1 (r_near ok R.1 (fun z => absurd c z) (fun _ g1 v S1 => ⟨fun z => absurd z a, fun _ => ?_⟩))⟩
    · obtain ⟨a1, a2, a3, a4⟩ := S1.2.2.2.2 b
      rw [z2, a2]; rfl
    · obtain ⟨a1, a2, a3, a4⟩ := S1.2.2.2.2 b
      exact r_told ok S1.2.2.1 (fun _ => ⟨clAt_eq (keeps_eq z4 a4) ht x1, inv1 g1 v S1⟩) (fun z => absurd z (by rw [a1]; decide))
theorem st_least {f g : Sg} (I : Inv f g) (x1 : Int32) : M_X9_least_0 f x1 (fun r f' => M_X10_least_0 g x1 (fun r' g' => r = r' ∧ Inv f' g')) := by
  have J := I
  obtain ⟨p, q, i0, i1, ok, qok, ok0, ok1, C, R⟩ := I
  have ht := ok.2.2
  obtain ⟨le, lt⟩ := least_eq ok
  unfold M_X9_least_0 J_X9_least_0_42
  refine ⟨fun c => w_few ok C (fun f1 C1 X1 => ?_), fun c => ⟨fun z => absurd z c, fun _ => same J⟩⟩
  have inv1 : ∀ g1, GL p g g1 (sL p (AO p)) → Inv f1 g1 := fun g1 S1 => ⟨p, q, i0, i1, ok, qok, ok0, ok1, C1, R.keep (S1.1.mono (by decide)) (keep04 S1.2.1 (by decide))⟩
  have ref : ∀ (Q : Int32 → Sg → Prop), (∀ g1, GL p g g1 (sL p (AO p)) → (x1 = -1 → Q (g1 0 10) g1) ∧ (¬ x1 = -1 → M_X10_told__0 g1 x1 Q)) → M_X10_least_0 g x1 Q := by
    intro Q hQ
    unfold M_X10_least_0 J_X10_least_0_29
    exact ⟨fun _ => r_goLeast ok R.1 hQ, fun z => absurd c z⟩
  refine ⟨fun a => ref _ (fun g1 S1 => ⟨fun _ => ⟨?_, inv1 g1 S1⟩, fun z => absurd a z⟩), fun a => w_at21 ok C1.1 (ref _ (fun g1 S1 => ⟨fun z => absurd z a, fun _ => r_told ok S1.2.2.1 (fun _ => ⟨?_, inv1 g1 S1⟩) (fun z => absurd z (by rw [S1.2.2.2.1]; decide))⟩))⟩
  · rw [X1.2.1, S1.2.2.2.2.1, le]
  · have k1 := X1.2.2.2.2 (least_ne ok)
    have k2 := S1.2.2.2.2.2.2.2.2.2.2 lt
    rw [le] at k1
    exact clAt_eq (keeps_eq k1 k2) ht x1
theorem st_orders {f g : Sg} (I : Inv f g) (x1 : Int32) : M_X9_orders_0 f x1 (fun r f' => M_X10_orders_0 g x1 (fun r' g' => r = r' ∧ Inv f' g')) := by
  have J := I
  obtain ⟨p, q, i0, i1, ok, qok, ok0, ok1, C, R⟩ := I
  obtain ⟨le, lt⟩ := least_eq ok
  have ref : ∀ (Q : Int32 → Sg → Prop), (∀ g1, GL p g g1 (sL p (AO p)) → (x1 = 0 → Q (nI (AO p).length) g1) ∧ (x1 = 1 → Q (nI (ms p)) g1) ∧ (x1 = 2 → Q (fw p).2.1 g1)) → ((¬ x1 = 0 → ¬ x1 = 1 → ¬ x1 = 2 → Q (-2) g)) → M_X10_orders_0 g x1 Q := by
    intro Q hQ hb
    unfold M_X10_orders_0 J_X10_orders_0_43
    refine r_inN 3 (by omega) (by omega) rfl (fun i hi e => ⟨fun z => absurd z (by decide), fun _ => r_goLeast ok R.1 (fun g1 S1 => ?_)⟩) (fun w => ⟨fun _ => hb (fun z => w 0 (by omega) z) (fun z => w 1 (by omega) z) (fun z => w 2 (by omega) z), fun z => absurd rfl z⟩)
    obtain ⟨q0, q1, q2⟩ := hQ g1 S1
    refine ⟨fun a => ?_, fun a => ⟨fun b => ?_, fun b => ?_⟩⟩
    · rw [S1.2.2.2.2.2.2.2.2.2.1, all_eq]; exact q0 a
    · rw [S1.2.2.2.2.2.2.2.1, ← most_eq]; exact q1 b
    · have e2 : x1 = 2 := by
        rcases (show i = 0 ∨ i = 1 ∨ i = 2 by omega) with rfl | rfl | rfl
        · exact absurd e a
        · exact absurd e b
        · exact e
      have := q2 e2
      rw [S1.2.2.2.2.2.2.1]
      rw [le] at this
      exact this
  have inv1 : ∀ f1 g1, CInv f1 p q i0 i1 → GL p g g1 (sL p (AO p)) → Inv f1 g1 := fun f1 g1 C1 S1 => ⟨p, q, i0, i1, ok, qok, ok0, ok1, C1, R.keep (S1.1.mono (by decide)) (keep04 S1.2.1 (by decide))⟩
  unfold M_X9_orders_0
  refine ⟨fun a => w_orderCount ok C.1 (ref _ (fun g1 S1 => ⟨fun _ => ⟨rfl, inv1 f g1 C S1⟩, fun z => absurd (a.symm.trans z) (by decide), fun z => absurd (a.symm.trans z) (by decide)⟩) (fun z => absurd a z)), fun a => ⟨fun b => w_mst ok C (fun f1 C1 X1 => ?_), fun b => ⟨fun c => w_few ok C (fun f1 C1 X1 => ?_), fun c => ref _ (fun g1 S1 => ⟨fun z => absurd z a, fun z => absurd z b, fun z => absurd z c⟩) (fun _ _ _ => same J)⟩⟩⟩
  · rw [X1.2.1]
    exact ref _ (fun g1 S1 => ⟨fun z => absurd z a, fun _ => ⟨rfl, inv1 f1 g1 C1 S1⟩, fun z => absurd (b.symm.trans z) (by decide)⟩) (fun _ z => absurd b z)
  · rw [X1.2.2.1]
    exact ref _ (fun g1 S1 => ⟨fun z => absurd z a, fun z => absurd z b, fun _ => ⟨rfl, inv1 f1 g1 C1 S1⟩⟩) (fun _ _ z => absurd c z)
theorem st_rule {f g : Sg} (I : Inv f g) (x1 : Int32) : M_X9_rule_0 f x1 (fun r f' => M_X10_rule_0 g x1 (fun r' g' => r = r' ∧ Inv f' g')) := by
  have J := I
  obtain ⟨p, q, i0, i1, ok, qok, ok0, ok1, C, R⟩ := I
  have ht := ok.2.2
  obtain ⟨l1, l2, l3⟩ := rlr_ok (p := p) (tot p) (Nat.le_refl _)
  unfold M_X9_rule_0 J_X9_rule_0_49
  refine ⟨fun c => w_cars C.1 (w_takeRule ok C.1 C.2.2.2.1.1 C.2.2.2.1.2.1 (fun f1 rr x => ?_)), fun c => ⟨fun z => absurd z c, fun _ => same J⟩⟩
  have C1 : CInv f1 p q i0 i1 := C.row (x.mono (by decide)) (rr.2.2.1 0 (Nat.zero_le _)) (rr.2.2.2.1 0 (Nat.zero_le _))
  have inv1 : ∀ g1, Eqx [0, 5, 8] g g1 → Fld [6] g g1 → Inv f1 g1 := fun g1 x1 y1 => ⟨p, q, i0, i1, ok, qok, ok0, ok1, C1, R.keep (x1.mono (by decide)) (keep04 y1 (by decide))⟩
  have ref : ∀ (Q : Int32 → Sg → Prop), (∀ g1, Eqx [0, 5, 8] g g1 → Fld [6] g g1 → RR g1 (rlr p (tot p)) → (x1 = -1 → Q (nI (bks p (rlr p (tot p)))) g1) ∧ (¬ x1 = -1 → Q (clAt p (g1 5) x1) g1)) → M_X10_rule_0 g x1 Q := by
    intro Q hQ
    unfold M_X10_rule_0 J_X10_rule_0_43
    refine ⟨fun _ => r_goRule ok R.1 (fun g1 x2 y2 r2 => ?_), fun z => absurd c z⟩
    obtain ⟨q1, q2⟩ := hQ g1 x2 y2 r2
    refine ⟨fun a => r_breaks ok (by rw [x2 1 (by decide)]; exact R.1) l2 r2 (by omega) (q1 a), fun a => ?_⟩
    have q2 := q2 a
    unfold clAt at q2
    rw [r2.1, l1]
    have h0 : ¬ x1 < 0 := by
      intro w
      rw [Int32.lt_iff_toInt_lt] at w
      rw [Int32.le_iff_toInt_le] at c
      have h1 : (-1 : Int32).toInt = -1 := by decide
      have h2 : (0 : Int32).toInt = 0 := by decide
      rw [h1] at c
      rw [h2] at w
      exact a (Int32.toInt_inj.mp (by rw [h1]; omega))
    refine ⟨fun b => by rw [if_pos (Or.inr b)] at q2; exact q2, fun b => ?_⟩
    rw [if_neg (by rintro (w | w); exact h0 w; exact b w)] at q2
    refine ⟨?_, q2⟩
    rcases pk_ix x1 (n := tot p) (by omega) with w | w | ⟨j, hj, e⟩
    · exact absurd w h0
    · exact absurd w b
    · exact pk_in j 9 (by omega) e
  refine ⟨fun a => w_breaks rr (by omega) (ref _ (fun g1 x2 y2 r2 => ⟨fun _ => ⟨rfl, inv1 g1 x2 y2⟩, fun z => absurd a z⟩)), fun a => w_at10 ok C1.1 (ref _ (fun g1 x2 y2 r2 => ⟨fun z => absurd z a, fun _ => ⟨?_, inv1 g1 x2 y2⟩⟩))⟩
  exact clAt_eq (fun i hi => (rr.2.1 i (by omega)).trans (r2.2 i (by omega)).symm) ht x1
theorem fi_cnt (p : Pl) (q : Pd) (L : List (List Nat)) : ∃ c, c ≤ L.length ∧ (s24 p q L).1 = nI c := by
  refine list_snoc_ind (P := fun L => ∃ c, c ≤ L.length ∧ (s24 p q L).1 = nI c) ⟨0, Nat.le_refl _, rfl⟩ (fun L o ih => ?_) L
  obtain ⟨c, h1, h2⟩ := ih
  rw [s24_app, List.length_append, List.length_singleton]
  unfold nt24
  split
  · exact ⟨c + 1, by omega, by rw [← nI_1, ← h2]⟩
  · exact ⟨c, by omega, h2⟩
theorem st_filled {f g : Sg} (I : Inv f g) (x1 : Int32) : M_X9_filled_0 f x1 (fun r f' => M_X10_filled_0 g x1 (fun r' g' => r = r' ∧ Inv f' g')) := by
  have J := I
  obtain ⟨p, q, i0, i1, ok, qok, ok0, ok1, C, R⟩ := I
  have ht := ok.2.2
  have hl := AO_len ok
  obtain ⟨n, hn, en⟩ := fi_cnt p q (AO p)
  have efi : (fi p q).1 = nI n := en
  unfold M_X9_filled_0 J_X9_filled_0_55
  refine ⟨fun c => w_fil ok qok C (fun f1 C1 X1 => ?_), fun c => r_filled ok qok R.1 R.2.1 (fun _ => same J) (fun z => absurd z c)⟩
  have inv1 : ∀ g1, StP p q g g1 (AO p) → Inv f1 g1 := fun g1 S1 => ⟨p, q, i0, i1, ok, qok, ok0, ok1, C1, R.keep (S1.1.mono (by decide)) (keep04 S1.2.1 (by decide))⟩
  have e9 : f1 24 6 = nI n := by rw [X1.2.2.1, efi]
  have g9 : ∀ g1, StP p q g g1 (AO p) → g1 0 9 = nI n := fun g1 S1 => by rw [S1.2.2.2.1, en]
  rw [e9, nI_eq0 (by omega)]
  refine ⟨fun a => r_filled ok qok R.1 R.2.1 (fun z => absurd c z) (fun _ g1 S1 => ⟨fun _ => ⟨(g9 g1 S1).symm, inv1 g1 S1⟩, fun z => absurd a z⟩), fun a => ⟨fun b => r_filled ok qok R.1 R.2.1 (fun z => absurd c z) (fun _ g1 S1 => ⟨fun z => absurd z a, fun _ => r_told ok S1.2.2.1 (fun z => ?_) (fun _ => ⟨rfl, inv1 g1 S1⟩)⟩), fun b => w_at25 ok C1.1 (r_filled ok qok R.1 R.2.1 (fun z => absurd c z) (fun _ g1 S1 => ⟨fun z => absurd z a, fun _ => r_told ok S1.2.2.1 (fun _ => ⟨?_, inv1 g1 S1⟩) (fun z => ?_)⟩))⟩⟩
  · rw [g9 g1 S1, nI_le0 (by omega)] at z; exact absurd b z
  · have n1 : (fi p q).1 ≠ 0 := by rw [efi]; exact fun w => b ((nI_eq0 (by omega)).mp w)
    exact clAt_eq (keeps_eq (X1.2.2.2.1 n1) (S1.2.2.2.2 n1)) ht x1
  · rw [g9 g1 S1, nI_le0 (by omega)] at z; exact absurd z b
theorem st_lane {f g : Sg} (I : Inv f g) (x1 : Int32) : M_X9_lane_0 f x1 (fun r f' => M_X10_lane_0 g x1 (fun r' g' => r = r' ∧ Inv f' g')) := by
  have J := I
  obtain ⟨p, q, i0, i1, ok, qok, ok0, ok1, C, R⟩ := I
  unfold M_X9_lane_0 J_X9_lane_0_9
  have bad : (∀ k, k < 3 → x1 ≠ nI k) → M_X10_lane_0 g x1 (fun r' g' => -2 = r' ∧ Inv f g') := fun w => r_lane ok qok R.1 R.2.1 (fun _ => same J) (fun k hk e => absurd e (w k hk)) (fun k hk e => absurd e (w k hk))
  refine ⟨fun a => bad (fun k hk e => ?_), fun a => ⟨fun b => ?_, fun b => bad (fun k hk e => ?_)⟩⟩
  · rw [e] at a; exact absurd a (nI_pos (by omega))
  · obtain ⟨k, hk, rfl⟩ := rng (n := 2) (by omega) a (Int32.not_lt.mpr b)
    have uniq : ∀ k', k' < 3 → nI k = nI k' → k' = k := fun k' h' e => by rw [nI_eq (by omega) (by omega)] at e; exact e.symm
    refine w_hasAny qok C.2.1 (fun w => ⟨fun z => absurd z (by decide), fun _ => r_lane ok qok R.1 R.2.1 (fun v => absurd rfl (v k (by omega))) (fun _ _ _ _ => same J) (fun _ _ _ v => absurd w v)⟩) (fun w => ⟨fun _ => w_putRight ok qok w hk C.1 C.2.1 C.2.2.2.1.1 C.2.2.2.1.2.1 (fun f1 x a b => r_lane ok qok R.1 R.2.1 (fun v => absurd rfl (v k (by omega))) (fun _ _ _ v => absurd v w) (fun k' h' e' _ g1 x2 y2 => ⟨?_, p, q, i0, i1, ok, qok, ok0, ok1, C.row x a b, R.keep (x2.mono (by decide)) (keep04 y2 (by decide))⟩)), fun z => absurd rfl z⟩)
    rw [uniq k' h' e']
  · rw [e] at b; exact absurd (nI_le (a := k) (b := 2) (by omega) (by omega)) b
