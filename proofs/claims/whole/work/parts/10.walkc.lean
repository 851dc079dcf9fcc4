/-! X9_fits_0: rank 17 -/
def J_X9_fits_0_55 (Q : Int32 → Sg → Prop) (f : Sg) (s0 : Int32) : Prop :=
  Q s0 f
def M_X9_fits_0 (f : Sg) (x1 : Int32) (Q : Int32 → Sg → Prop) : Prop :=
  ((-1) ≤ x1 → M_X8_refresh_14 f (fun g2 => (x1 = (-1) → Q (g2 14 9) g2) ∧ (¬ x1 = (-1) → ((g2 14 9) = 0 → J_X9_fits_0_55 Q g2 (-6)) ∧ (¬ (g2 14 9) = 0 → M_X9_classAt_0_15 g2 x1 (fun r7 g6 => J_X9_fits_0_55 Q g6 r7))))) ∧ (¬ (-1) ≤ x1 → Q (-2) f)
set_option maxHeartbeats 4000000 in
theorem t_X9_fits_0_55 {o : Om} {D : va_G} {a : Nat → Nat} {cI : ClassId} {Q : Int32 → Sg → Prop} (C : Cx o D [(cI, .int)] (cw a cI) RX9 cX9_fits (some .int) 17 2) (hQ : RetI o D (cw a cI) Q) {f : Sg} {s0 : Int32} (h : J_X9_fits_0_55 Q f s0) : Go o D (cw a cI) 55 [] [.int s0] f := by
  unfold J_X9_fits_0_55 at h
  exact g_iret C hQ dX9_fits_55 h
set_option maxHeartbeats 4000000 in
theorem c_X9_fits_0 (l : Launch) (D : va_G) (a : Nat → Nat) (cI : ClassId) {f : Sg} {x1 : Int32} {Q : Int32 → Sg → Prop} (h : M_X9_fits_0 f x1 Q) : MI l D [(cI, .int)] (cw a cI) yX9_fits cX9_fits 2 (some .int) (17) [.ref (a 0), .int x1] f Q := by
  refine mkI (cw_fix a cI) (by decide +kernel) (Nat.le_of_ble_eq_true rfl) (fun o C hQ => ?_)
  show Go o D (cw a cI) 0 [(0, .ref (a 0)), (1, .int x1)] [] f
  unfold M_X9_fits_0 at h
  refine g_iload_n C 1 dX9_fits_0 rfl ?_
  refine g_iconst C (-1) dX9_fits_1 (by decide) ?_
  refine g_icmp_ge C 8 dX9_fits_2 (by decide) (fun c1 => ?_) (fun c1 => ?_)
  · have h := h.1 c1
    refine g_aload_n C 0 dX9_fits_8 rfl ?_
    refine gf_RX9_37_X9 C ce_0 rfl dX9_fits_9 ?_
    refine g_callUv C (As := []) (st := []) (fun l => c_X8_refresh_14 l D a cI h) cl_RX9_121_X2 rfl ce_14 (by omega) rfl (Nat.le_of_ble_eq_true rfl) dX9_fits_12 (fun g2 h => ?_)
    refine g_iload_n C 1 dX9_fits_15 rfl ?_
    refine g_iconst C (-1) dX9_fits_16 (by decide) ?_
    refine g_icmp_ne C 28 dX9_fits_17 (by decide) (fun c4 => ?_) (fun c4 => ?_)
    · have h := h.2 c4
      refine g_aload_n C 0 dX9_fits_28 rfl ?_
      refine gf_RX9_37_X9 C ce_0 rfl dX9_fits_29 ?_
      refine gf_RX9_124_X2 C ce_14 rfl dX9_fits_32 ?_
      refine g_if_ne C 43 dX9_fits_35 (by decide) (fun c5 => ?_) (fun c5 => ?_)
      · have h := h.2 c5
        refine g_aload_n C 0 dX9_fits_43 rfl ?_
        refine g_aload_n C 0 dX9_fits_44 rfl ?_
        refine gf_RX9_37_X9 C ce_0 rfl dX9_fits_45 ?_
        refine gf_RX9_127_X2 C ce_14 rfl dX9_fits_48 ?_
        refine g_iload_n C 1 dX9_fits_51 rfl ?_
        refine g_callVi C (As := [.ref (a 15), .int x1]) (st := []) (fun l => c_X9_classAt_0_15 l D a cI h) cl_RX9_130_X9 rfl ce_0 (by omega) rfl (Nat.le_of_ble_eq_true rfl) dX9_fits_52 (fun r7 g6 h => ?_)
        refine g_sub (lv' := []) [] rfl ?_
        exact t_X9_fits_0_55 C hQ h
      · have h := h.1 c5
        refine g_bipush C (-6) dX9_fits_38 (by decide) ?_
        refine g_goto C 55 dX9_fits_40 (by decide) ?_
        refine g_sub (lv' := []) [] rfl ?_
        exact t_X9_fits_0_55 C hQ h
    · have h := h.1 c4
      refine g_aload_n C 0 dX9_fits_20 rfl ?_
      refine gf_RX9_37_X9 C ce_0 rfl dX9_fits_21 ?_
      refine gf_RX9_124_X2 C ce_14 rfl dX9_fits_24 ?_
      exact g_iret C hQ dX9_fits_27 h
  · have h := h.2 c1
    refine g_bipush C (-2) dX9_fits_5 (by decide) ?_
    exact g_iret C hQ dX9_fits_7 h
/-! X6_takeRule_9: rank 3 -/
def B_X6_takeRule_9_6 (Q : Sg → Prop) (K6 : Sg → Int32 → Int32 → Prop) (f : Sg) (x1 : Int32) (x2 : Int32) : Prop :=
  (x1 ≤ x2 → Q f) ∧ (¬ x1 ≤ x2 → M_X6_ruleClass_9 f (fun r5 g4 => M_X6_put_9 g4 r5 (fun g6 => K6 g6 x1 (x2 + 1))))
def M_X6_takeRule_9 (f : Sg) (x1 : Int32) (Q : Sg → Prop) : Prop :=
  M_X6_start_9 f (fun g1 => ∃ n : Nat, itr2 (B_X6_takeRule_9_6 Q) n g1 x1 0)
set_option maxHeartbeats 4000000 in
theorem t_X6_takeRule_9_6 {o : Om} {D : va_G} {a : Nat → Nat} {cI : ClassId} {Q : Sg → Prop} (C : Cx o D [(cI, .int)] (cw a cI) RX6 cX6_takeRule none 3 3) (hQ : RetV o D (cw a cI) Q) : ∀ (n : Nat) (f : Sg) (x1 : Int32) (x2 : Int32), itr2 (B_X6_takeRule_9_6 Q) n f x1 x2 → Go o D (cw a cI) 6 [(0, .ref (a 9)), (1, .int x1), (2, .int x2)] [] f := by
  intro n
  induction n with
  | zero => intro f x1 x2 h; exact h.elim
  | succ n ih =>
    intro f x1 x2 h
    have h : B_X6_takeRule_9_6 Q (itr2 (B_X6_takeRule_9_6 Q) n) f x1 x2 := h
    have hK6 := ih
    generalize itr2 (B_X6_takeRule_9_6 Q) n = K6 at h hK6
    clear ih
    unfold B_X6_takeRule_9_6 at h
    refine g_iload_n C 2 dX6_takeRule_6 rfl ?_
    refine g_iload_n C 1 dX6_takeRule_7 rfl ?_
    refine g_icmp_ge C 25 dX6_takeRule_8 (by decide) (fun c3 => ?_) (fun c3 => ?_)
    · have h := h.1 c3
      exact g_vret C hQ dX6_takeRule_25 h
    · have h := h.2 c3
      refine g_aload_n C 0 dX6_takeRule_11 rfl ?_
      refine g_aload_n C 0 dX6_takeRule_12 rfl ?_
      refine g_callVi C (As := []) (st := [.ref (a 9)]) (fun l => c_X6_ruleClass_9 l D a cI h) cl_RX6_58_X6 rfl ce_9 (by omega) rfl (Nat.le_of_ble_eq_true rfl) dX6_takeRule_13 (fun r5 g4 h => ?_)
      refine g_callVv C (As := [.int r5]) (st := []) (fun l => c_X6_put_9 l D a cI h) cl_RX6_62_X6 rfl ce_9 (by omega) rfl (Nat.le_of_ble_eq_true rfl) dX6_takeRule_16 (fun g6 h => ?_)
      refine g_iinc (lv' := [(2, .int (x2 + 1)), (0, .ref (a 9)), (1, .int x1)]) C 2 dX6_takeRule_19 rfl rfl (by decide) rfl ?_
      refine g_goto C 6 dX6_takeRule_22 (by decide) ?_
      refine g_sub (lv' := [(0, .ref (a 9)), (1, .int x1), (2, .int (x2 + 1))]) [1, 2, 0] rfl ?_
      exact hK6 g6 x1 (x2 + 1) h
set_option maxHeartbeats 4000000 in
theorem c_X6_takeRule_9 (l : Launch) (D : va_G) (a : Nat → Nat) (cI : ClassId) {f : Sg} {x1 : Int32} {Q : Sg → Prop} (h : M_X6_takeRule_9 f x1 Q) : MV l D [(cI, .int)] (cw a cI) yX6_takeRule cX6_takeRule 3 (3) [.ref (a 9), .int x1] f Q := by
  refine mkV (cw_fix a cI) (by decide +kernel) (Nat.le_of_ble_eq_true rfl) (fun o C hQ => ?_)
  show Go o D (cw a cI) 0 [(0, .ref (a 9)), (1, .int x1)] [] f
  unfold M_X6_takeRule_9 at h
  refine g_aload_n C 0 dX6_takeRule_0 rfl ?_
  refine g_callVv C (As := []) (st := []) (fun l => c_X6_start_9 l D a cI h) cl_RX6_55_X6 rfl ce_9 (by omega) rfl (Nat.le_of_ble_eq_true rfl) dX6_takeRule_1 (fun g1 h => ?_)
  refine g_iconst C 0 dX6_takeRule_4 (by decide) ?_
  refine g_istore_n (lv' := [(2, .int 0), (0, .ref (a 9)), (1, .int x1)]) C dX6_takeRule_5 (by decide) rfl ?_
  refine g_sub (lv' := [(0, .ref (a 9)), (1, .int x1), (2, .int 0)]) [1, 2, 0] rfl ?_
  obtain ⟨n, h⟩ := h
  exact t_X6_takeRule_9_6 C hQ n g1 x1 0 h
/-! X0_begin_20: rank 4 -/
def M_X0_begin_20 (f : Sg) (Q : Sg → Prop) : Prop :=
  M_X6_takeRule_9 f (f 20 2) (fun g1 => M_X6_breaks_9 g1 (fun r4 g3 => ∀ g5 : Sg, g5 = va_up g3 20 (upd (g3 20) 5 r4) → ∀ g6 : Sg, g6 = va_up g5 20 (upd (g5 20) 6 0) → Q g6))
set_option maxHeartbeats 4000000 in
theorem c_X0_begin_20 (l : Launch) (D : va_G) (a : Nat → Nat) (cI : ClassId) {f : Sg} {Q : Sg → Prop} (h : M_X0_begin_20 f Q) : MV l D [(cI, .int)] (cw a cI) yX0_begin cX0_begin 1 (4) [.ref (a 20)] f Q := by
  refine mkV (cw_fix a cI) (by decide +kernel) (Nat.le_of_ble_eq_true rfl) (fun o C hQ => ?_)
  show Go o D (cw a cI) 0 [(0, .ref (a 20))] [] f
  unfold M_X0_begin_20 at h
  refine g_aload_n C 0 dX0_begin_0 rfl ?_
  refine gf_RX0_22_X0 C ce_20 rfl dX0_begin_1 ?_
  refine g_aload_n C 0 dX0_begin_4 rfl ?_
  refine gf_RX0_26_X0 C ce_20 rfl dX0_begin_5 ?_
  refine g_callVv C (As := [.int (f 20 2)]) (st := []) (fun l => c_X6_takeRule_9 l D a cI h) cl_RX0_29_X6 rfl ce_9 (by omega) rfl (Nat.le_of_ble_eq_true rfl) dX0_begin_8 (fun g1 h => ?_)
  refine g_aload_n C 0 dX0_begin_11 rfl ?_
  refine g_aload_n C 0 dX0_begin_12 rfl ?_
  refine gf_RX0_22_X0 C ce_20 rfl dX0_begin_13 ?_
  refine g_callVi C (As := []) (st := [.ref (a 20)]) (fun l => c_X6_breaks_9 l D a cI h) cl_RX0_35_X6 rfl ce_9 (by omega) rfl (Nat.le_of_ble_eq_true rfl) dX0_begin_16 (fun r4 g3 h => ?_)
  obtain ⟨g5, eg5⟩ : ∃ g : Sg, g = va_up g3 20 (upd (g3 20) 5 r4) := ⟨_, rfl⟩
  have h := h g5 eg5
  refine gp_RX0_15_X0 C rfl rfl ce_20 (Nat.le_of_ble_eq_true rfl) (g := g5) (by rw [eg5]; exact cs_20_5) dX0_begin_19 ?_
  refine g_aload_n C 0 dX0_begin_22 rfl ?_
  refine g_iconst C 0 dX0_begin_23 (by decide) ?_
  obtain ⟨g6, eg6⟩ : ∃ g : Sg, g = va_up g5 20 (upd (g5 20) 6 0) := ⟨_, rfl⟩
  have h := h g6 eg6
  refine gp_RX0_19_X0 C rfl rfl ce_20 (Nat.le_of_ble_eq_true rfl) (g := g6) (by rw [eg6]; exact cs_20_6) dX0_begin_24 ?_
  exact g_vret C hQ dX0_begin_27 h
/-! X0_matters_20: rank 1 -/
def J_X0_matters_20_19 (Q : Int32 → Sg → Prop) (f : Sg) (s0 : Int32) : Prop :=
  narrow .boolean (.int s0) = .int s0 ∧ Q s0 f
def M_X0_matters_20 (f : Sg) (x1 : Int32) (Q : Int32 → Sg → Prop) : Prop :=
  M_X6_breaks_9 f (fun r2 g1 => ((g1 20 5) < r2 → J_X0_matters_20_19 Q g1 0) ∧ (¬ (g1 20 5) < r2 → J_X0_matters_20_19 Q g1 1))
set_option maxHeartbeats 4000000 in
theorem t_X0_matters_20_19 {o : Om} {D : va_G} {a : Nat → Nat} {cI : ClassId} {Q : Int32 → Sg → Prop} (C : Cx o D [(cI, .int)] (cw a cI) RX0 cX0_matters (some .boolean) 1 2) (hQ : RetI o D (cw a cI) Q) {f : Sg} {s0 : Int32} (h : J_X0_matters_20_19 Q f s0) : Go o D (cw a cI) 19 [] [.int s0] f := by
  unfold J_X0_matters_20_19 at h
  exact g_zret C hQ h.1 dX0_matters_19 h.2
set_option maxHeartbeats 4000000 in
theorem c_X0_matters_20 (l : Launch) (D : va_G) (a : Nat → Nat) (cI : ClassId) {f : Sg} {x1 : Int32} {Q : Int32 → Sg → Prop} (h : M_X0_matters_20 f x1 Q) : MI l D [(cI, .int)] (cw a cI) yX0_matters cX0_matters 2 (some .boolean) (1) [.ref (a 20), .int x1] f Q := by
  refine mkI (cw_fix a cI) (by decide +kernel) (Nat.le_of_ble_eq_true rfl) (fun o C hQ => ?_)
  show Go o D (cw a cI) 0 [(0, .ref (a 20)), (1, .int x1)] [] f
  unfold M_X0_matters_20 at h
  refine g_aload_n C 0 dX0_matters_0 rfl ?_
  refine gf_RX0_22_X0 C ce_20 rfl dX0_matters_1 ?_
  refine g_callVi C (As := []) (st := []) (fun l => c_X6_breaks_9 l D a cI h) cl_RX0_35_X6 rfl ce_9 (by omega) rfl (Nat.le_of_ble_eq_true rfl) dX0_matters_4 (fun r2 g1 h => ?_)
  refine g_aload_n C 0 dX0_matters_7 rfl ?_
  refine gf_RX0_15_X0 C ce_20 rfl dX0_matters_8 ?_
  refine g_icmp_gt C 18 dX0_matters_11 (by decide) (fun c3 => ?_) (fun c3 => ?_)
  · have h := h.1 c3
    refine g_iconst C 0 dX0_matters_18 (by decide) ?_
    refine g_sub (lv' := []) [] rfl ?_
    exact t_X0_matters_20_19 C hQ h
  · have h := h.2 c3
    refine g_iconst C 1 dX0_matters_14 (by decide) ?_
    refine g_goto C 19 dX0_matters_15 (by decide) ?_
    refine g_sub (lv' := []) [] rfl ?_
    exact t_X0_matters_20_19 C hQ h
/-! X8_keepRow_20_21: rank 1 -/
def M_X8_keepRow_20_21 (f : Sg) (Q : Sg → Prop) : Prop :=
  ∀ g1 : Sg, g1 = va_up f 21 (va_cpy (f 10) (f 21) (0 : Int32).toNatClampNeg (0 : Int32).toNatClampNeg (9 : Int32).toNatClampNeg) → Q g1
set_option maxHeartbeats 4000000 in
theorem c_X8_keepRow_20_21 (l : Launch) (D : va_G) (a : Nat → Nat) (cI : ClassId) {f : Sg} {Q : Sg → Prop} (h : M_X8_keepRow_20_21 f Q) : MV l D [(cI, .int)] (cw a cI) yX8_keepRow cX8_keepRow 2 (1) [.ref (a 20), .ref (a 21)] f Q := by
  refine mkV (cw_fix a cI) (by decide +kernel) (Nat.le_of_ble_eq_true rfl) (fun o C hQ => ?_)
  show Go o D (cw a cI) 0 [(0, .ref (a 20)), (1, .ref (a 21))] [] f
  unfold M_X8_keepRow_20_21 at h
  refine g_aload_n C 0 dX8_keepRow_0 rfl ?_
  refine gf_RX8_23_X0 C ce_20 rfl dX8_keepRow_1 ?_
  refine gf_RX8_61_X6 C ce_9 rfl dX8_keepRow_4 ?_
  refine g_iconst C 0 dX8_keepRow_7 (by decide) ?_
  refine g_aload_n C 1 dX8_keepRow_8 rfl ?_
  refine g_iconst C 0 dX8_keepRow_9 (by decide) ?_
  refine g_bipush C 9 dX8_keepRow_10 (by decide) ?_
  obtain ⟨g1, eg1⟩ : ∃ g : Sg, g = va_up f 21 (va_cpy (f 10) (f 21) (0 : Int32).toNatClampNeg (0 : Int32).toNatClampNeg (9 : Int32).toNatClampNeg) := ⟨_, rfl⟩
  have h := h g1 eg1
  refine g_copy C (by omega) tb_461 tb_371 tb_370 tb_13 0 ce_10 ce_21 rfl (by decide) (by decide) (by decide) (by decide) (by decide) (Nat.le_of_ble_eq_true rfl) (g := g1) (by rw [eg1]; exact cs_21) dX8_keepRow_12 ?_
  exact g_vret C hQ dX8_keepRow_15 h
/-! X0_note_20: rank 2 -/
def J_X0_note_20_45 (Q : Sg → Prop) (f : Sg) : Prop :=
  ∀ g8 : Sg, g8 = va_up f 20 (upd (f 20) 6 ((f 20 6) + 1)) → Q g8
def J_X0_note_20_21 (Q : Sg → Prop) (f : Sg) : Prop :=
  M_X6_breaks_9 f (fun r3 g2 => ∀ g4 : Sg, g4 = va_up g2 20 (upd (g2 20) 5 r3) → ∀ g5 : Sg, g5 = va_up g4 20 (upd (g4 20) 6 0) → M_X8_keepRow_20_21 g5 (fun g6 => J_X0_note_20_45 Q g6))
def M_X0_note_20 (f : Sg) (Q : Sg → Prop) : Prop :=
  ((f 20 6) = 0 → J_X0_note_20_21 Q f) ∧ (¬ (f 20 6) = 0 → M_X6_breaks_9 f (fun r10 g9 => ((g9 20 5) ≤ r10 → J_X0_note_20_45 Q g9) ∧ (¬ (g9 20 5) ≤ r10 → J_X0_note_20_21 Q g9)))
set_option maxHeartbeats 4000000 in
theorem t_X0_note_20_45 {o : Om} {D : va_G} {a : Nat → Nat} {cI : ClassId} {Q : Sg → Prop} (C : Cx o D [(cI, .int)] (cw a cI) RX0 cX0_note none 2 1) (hQ : RetV o D (cw a cI) Q) {f : Sg} (h : J_X0_note_20_45 Q f) : Go o D (cw a cI) 45 [(0, .ref (a 20))] [] f := by
  unfold J_X0_note_20_45 at h
  refine g_aload_n C 0 dX0_note_45 rfl ?_
  refine g_dup C dX0_note_46 rfl ?_
  refine gf_RX0_19_X0 C ce_20 rfl dX0_note_47 ?_
  refine g_iconst C 1 dX0_note_50 (by decide) ?_
  refine g_iadd C dX0_note_51 ?_
  obtain ⟨g8, eg8⟩ : ∃ g : Sg, g = va_up f 20 (upd (f 20) 6 ((f 20 6) + 1)) := ⟨_, rfl⟩
  have h := h g8 eg8
  refine gp_RX0_19_X0 C rfl rfl ce_20 (Nat.le_of_ble_eq_true rfl) (g := g8) (by rw [eg8]; exact cs_20_6) dX0_note_52 ?_
  exact g_vret C hQ dX0_note_55 h
set_option maxHeartbeats 4000000 in
theorem t_X0_note_20_21 {o : Om} {D : va_G} {a : Nat → Nat} {cI : ClassId} {Q : Sg → Prop} (C : Cx o D [(cI, .int)] (cw a cI) RX0 cX0_note none 2 1) (hQ : RetV o D (cw a cI) Q) {f : Sg} (h : J_X0_note_20_21 Q f) : Go o D (cw a cI) 21 [(0, .ref (a 20))] [] f := by
  unfold J_X0_note_20_21 at h
  refine g_aload_n C 0 dX0_note_21 rfl ?_
  refine g_aload_n C 0 dX0_note_22 rfl ?_
  refine gf_RX0_22_X0 C ce_20 rfl dX0_note_23 ?_
  refine g_callVi C (As := []) (st := [.ref (a 20)]) (fun l => c_X6_breaks_9 l D a cI h) cl_RX0_35_X6 rfl ce_9 (by omega) rfl (Nat.le_of_ble_eq_true rfl) dX0_note_26 (fun r3 g2 h => ?_)
  obtain ⟨g4, eg4⟩ : ∃ g : Sg, g = va_up g2 20 (upd (g2 20) 5 r3) := ⟨_, rfl⟩
  have h := h g4 eg4
  refine gp_RX0_15_X0 C rfl rfl ce_20 (Nat.le_of_ble_eq_true rfl) (g := g4) (by rw [eg4]; exact cs_20_5) dX0_note_29 ?_
  refine g_aload_n C 0 dX0_note_32 rfl ?_
  refine g_iconst C 0 dX0_note_33 (by decide) ?_
  obtain ⟨g5, eg5⟩ : ∃ g : Sg, g = va_up g4 20 (upd (g4 20) 6 0) := ⟨_, rfl⟩
  have h := h g5 eg5
  refine gp_RX0_19_X0 C rfl rfl ce_20 (Nat.le_of_ble_eq_true rfl) (g := g5) (by rw [eg5]; exact cs_20_6) dX0_note_34 ?_
  refine g_aload_n C 0 dX0_note_37 rfl ?_
  refine g_aload_n C 0 dX0_note_38 rfl ?_
  refine gf_RX0_9_X0 C ce_20 rfl dX0_note_39 ?_
  refine g_callUv C (As := [.ref (a 21)]) (st := []) (fun l => c_X8_keepRow_20_21 l D a cI h) cl_RX0_39_X0 rfl ce_20 (by omega) rfl (Nat.le_of_ble_eq_true rfl) dX0_note_42 (fun g6 h => ?_)
  refine g_sub (lv' := [(0, .ref (a 20))]) [0] rfl ?_
  exact t_X0_note_20_45 C hQ h
set_option maxHeartbeats 4000000 in
theorem c_X0_note_20 (l : Launch) (D : va_G) (a : Nat → Nat) (cI : ClassId) {f : Sg} {Q : Sg → Prop} (h : M_X0_note_20 f Q) : MV l D [(cI, .int)] (cw a cI) yX0_note cX0_note 1 (2) [.ref (a 20)] f Q := by
  refine mkV (cw_fix a cI) (by decide +kernel) (Nat.le_of_ble_eq_true rfl) (fun o C hQ => ?_)
  show Go o D (cw a cI) 0 [(0, .ref (a 20))] [] f
  unfold M_X0_note_20 at h
  refine g_aload_n C 0 dX0_note_0 rfl ?_
  refine gf_RX0_19_X0 C ce_20 rfl dX0_note_1 ?_
  refine g_if_eq C 21 dX0_note_4 (by decide) (fun c1 => ?_) (fun c1 => ?_)
  · have h := h.1 c1
    refine g_sub (lv' := [(0, .ref (a 20))]) [0] rfl ?_
    exact t_X0_note_20_21 C hQ h
  · have h := h.2 c1
    refine g_aload_n C 0 dX0_note_7 rfl ?_
    refine gf_RX0_22_X0 C ce_20 rfl dX0_note_8 ?_
    refine g_callVi C (As := []) (st := []) (fun l => c_X6_breaks_9 l D a cI h) cl_RX0_35_X6 rfl ce_9 (by omega) rfl (Nat.le_of_ble_eq_true rfl) dX0_note_11 (fun r10 g9 h => ?_)
    refine g_aload_n C 0 dX0_note_14 rfl ?_
    refine gf_RX0_15_X0 C ce_20 rfl dX0_note_15 ?_
    refine g_icmp_ge C 45 dX0_note_18 (by decide) (fun c11 => ?_) (fun c11 => ?_)
    · have h := h.1 c11
      refine g_sub (lv' := [(0, .ref (a 20))]) [0] rfl ?_
      exact t_X0_note_20_45 C hQ h
    · have h := h.2 c11
      refine g_sub (lv' := [(0, .ref (a 20))]) [0] rfl ?_
      exact t_X0_note_20_21 C hQ h
/-! X8_goOn_20: rank 2 -/
def J_X8_goOn_20_63 (Rc : Sg → Int32 → (Sg → Prop) → Prop) (Q : Sg → Prop) (K24 : Sg → Int32 → Int32 → Prop) (f : Sg) (x1 : Int32) (x2 : Int32) : Prop :=
  K24 f x1 (x2 + 1)
def B_X8_goOn_20_24 (Rc : Sg → Int32 → (Sg → Prop) → Prop) (Q : Sg → Prop) (K24 : Sg → Int32 → Int32 → Prop) (f : Sg) (x1 : Int32) (x2 : Int32) : Prop :=
  (5 ≤ x2 → Q f) ∧ (¬ 5 ≤ x2 → vp_in x2 5 ∧ ((f 13 (x2 : Int32).toNatClampNeg) ≤ 0 → J_X8_goOn_20_63 Rc Q K24 f x1 x2) ∧ (¬ (f 13 (x2 : Int32).toNatClampNeg) ≤ 0 → M_X6_put_9 f x2 (fun g8 => Rc g8 (x1 + 1) (fun g10 => M_X6_drop_9 g10 (fun g12 => J_X8_goOn_20_63 Rc Q K24 g12 x1 x2)))))
def E_X8_goOn_20 (Rc : Sg → Int32 → (Sg → Prop) → Prop) (f : Sg) (x1 : Int32) (Q : Sg → Prop) : Prop :=
  M_X0_matters_20 f x1 (fun r2 g1 => (r2 = 0 → Q g1) ∧ (¬ r2 = 0 → (x1 < (g1 20 2) → ∃ n : Nat, itr2 (B_X8_goOn_20_24 Rc Q) n g1 x1 0) ∧ (¬ x1 < (g1 20 2) → M_X0_note_20 g1 (fun g14 => Q g14))))
def M_X8_goOn_20 : Nat → Sg → Int32 → (Sg → Prop) → Prop
  | 0 => fun _ _ _ => False
  | d + 1 => E_X8_goOn_20 (M_X8_goOn_20 d)
set_option maxHeartbeats 4000000 in
theorem t_X8_goOn_20_63 {o : Om} {D : va_G} {a : Nat → Nat} {cI : ClassId} {d : Nat} {Rc : Sg → Int32 → (Sg → Prop) → Prop} {Q : Sg → Prop} {K24 : Sg → Int32 → Int32 → Prop} (C : Cx o D [(cI, .int)] (cw a cI) RX8 cX8_goOn none (2 + d + 1) 3) (hQ : RetV o D (cw a cI) Q) (hRc : ∀ (l : Launch) (g : Sg) (y0 : Int32) (Qr : Sg → Prop), Rc g y0 Qr → MV l D [(cI, .int)] (cw a cI) yX8_goOn cX8_goOn 3 (2 + d) [.ref (a 20), .int y0] g Qr) (hK24 : ∀ (g : Sg) (x1 : Int32) (x2 : Int32), K24 g x1 x2 → Go o D (cw a cI) 24 [(0, .ref (a 20)), (1, .int x1), (2, .int x2)] [] g) {f : Sg} {x1 : Int32} {x2 : Int32} (h : J_X8_goOn_20_63 Rc Q K24 f x1 x2) : Go o D (cw a cI) 63 [(0, .ref (a 20)), (1, .int x1), (2, .int x2)] [] f := by
  unfold J_X8_goOn_20_63 at h
  refine g_iinc (lv' := [(2, .int (x2 + 1)), (0, .ref (a 20)), (1, .int x1)]) C 2 dX8_goOn_63 rfl rfl (by decide) rfl ?_
  refine g_goto C 24 dX8_goOn_66 (by decide) ?_
  refine g_sub (lv' := [(0, .ref (a 20)), (1, .int x1), (2, .int (x2 + 1))]) [1, 2, 0] rfl ?_
  exact hK24 f x1 (x2 + 1) h
set_option maxHeartbeats 4000000 in
theorem t_X8_goOn_20_24 {o : Om} {D : va_G} {a : Nat → Nat} {cI : ClassId} {d : Nat} {Rc : Sg → Int32 → (Sg → Prop) → Prop} {Q : Sg → Prop} (C : Cx o D [(cI, .int)] (cw a cI) RX8 cX8_goOn none (2 + d + 1) 3) (hQ : RetV o D (cw a cI) Q) (hRc : ∀ (l : Launch) (g : Sg) (y0 : Int32) (Qr : Sg → Prop), Rc g y0 Qr → MV l D [(cI, .int)] (cw a cI) yX8_goOn cX8_goOn 3 (2 + d) [.ref (a 20), .int y0] g Qr) : ∀ (n : Nat) (f : Sg) (x1 : Int32) (x2 : Int32), itr2 (B_X8_goOn_20_24 Rc Q) n f x1 x2 → Go o D (cw a cI) 24 [(0, .ref (a 20)), (1, .int x1), (2, .int x2)] [] f := by
  intro n
  induction n with
  | zero => intro f x1 x2 h; exact h.elim
  | succ n ih =>
    intro f x1 x2 h
    have h : B_X8_goOn_20_24 Rc Q (itr2 (B_X8_goOn_20_24 Rc Q) n) f x1 x2 := h
    have hK24 := ih
    generalize itr2 (B_X8_goOn_20_24 Rc Q) n = K24 at h hK24
    clear ih
    unfold B_X8_goOn_20_24 at h
    refine g_iload_n C 2 dX8_goOn_24 rfl ?_
    refine g_iconst C 5 dX8_goOn_25 (by decide) ?_
    refine g_icmp_ge C 69 dX8_goOn_26 (by decide) (fun c5 => ?_) (fun c5 => ?_)
    · have h := h.1 c5
      exact g_vret C hQ dX8_goOn_69 h
    · have h := h.2 c5
      refine g_aload_n C 0 dX8_goOn_29 rfl ?_
      refine gf_RX8_23_X0 C ce_20 rfl dX8_goOn_30 ?_
      refine gf_RX8_51_X6 C ce_9 rfl dX8_goOn_33 ?_
      refine g_iload_n C 2 dX8_goOn_36 rfl ?_
      obtain ⟨hi6, h⟩ := h
      refine g_iald C 0 ce_13 rfl hi6 dX8_goOn_37 ?_
      refine g_if_le C 63 dX8_goOn_38 (by decide) (fun c7 => ?_) (fun c7 => ?_)
      · have h := h.1 c7
        refine g_sub (lv' := [(0, .ref (a 20)), (1, .int x1), (2, .int x2)]) [0, 1, 2] rfl ?_
        exact t_X8_goOn_20_63 C hQ hRc hK24 h
      · have h := h.2 c7
        refine g_aload_n C 0 dX8_goOn_41 rfl ?_
        refine gf_RX8_23_X0 C ce_20 rfl dX8_goOn_42 ?_
        refine g_iload_n C 2 dX8_goOn_45 rfl ?_
        refine g_callVv C (As := [.int x2]) (st := []) (fun l => c_X6_put_9 l D a cI h) cl_RX8_55_X6 rfl ce_9 (by omega) rfl (Nat.le_of_ble_eq_true rfl) dX8_goOn_46 (fun g8 h => ?_)
        refine g_aload_n C 0 dX8_goOn_49 rfl ?_
        refine g_iload_n C 1 dX8_goOn_50 rfl ?_
        refine g_iconst C 1 dX8_goOn_51 (by decide) ?_
        refine g_iadd C dX8_goOn_52 ?_
        refine g_callUv C (As := [.int (x1 + 1)]) (st := []) (fun l => hRc l g8 (x1 + 1) _ h) cl_RX8_40_X0 rfl ce_20 (by omega) rfl (Nat.le_of_ble_eq_true rfl) dX8_goOn_53 (fun g10 h => ?_)
        refine g_aload_n C 0 dX8_goOn_56 rfl ?_
        refine gf_RX8_23_X0 C ce_20 rfl dX8_goOn_57 ?_
        refine g_callVv C (As := []) (st := []) (fun l => c_X6_drop_9 l D a cI h) cl_RX8_58_X6 rfl ce_9 (by omega) rfl (Nat.le_of_ble_eq_true rfl) dX8_goOn_60 (fun g12 h => ?_)
        refine g_sub (lv' := [(0, .ref (a 20)), (1, .int x1), (2, .int x2)]) [0, 1, 2] rfl ?_
        exact t_X8_goOn_20_63 C hQ hRc hK24 h
set_option maxHeartbeats 4000000 in
theorem c_X8_goOn_20 (l : Launch) (D : va_G) (a : Nat → Nat) (cI : ClassId) : ∀ (d : Nat) {f : Sg} {x1 : Int32} {Q : Sg → Prop}, M_X8_goOn_20 d f x1 Q → MV l D [(cI, .int)] (cw a cI) yX8_goOn cX8_goOn 3 (2 + d) [.ref (a 20), .int x1] f Q := by
  intro d
  induction d generalizing l with
  | zero => intro f x1 Q h; exact h.elim
  | succ d ih =>
    intro f x1 Q h
    have h : E_X8_goOn_20 (M_X8_goOn_20 d) f x1 Q := h
    have hRc : ∀ (l : Launch) (g : Sg) (y0 : Int32) (Qr : Sg → Prop), M_X8_goOn_20 d g y0 Qr → MV l D [(cI, .int)] (cw a cI) yX8_goOn cX8_goOn 3 (2 + d) [.ref (a 20), .int y0] g Qr := fun l g y0 Qr h => ih l h
    generalize M_X8_goOn_20 d = Rc at h hRc
    clear ih
    refine mkV (cw_fix a cI) (by decide +kernel) (Nat.le_of_ble_eq_true rfl) (fun o C hQ => ?_)
    show Go o D (cw a cI) 0 [(0, .ref (a 20)), (1, .int x1)] [] f
    unfold E_X8_goOn_20 at h
    refine g_aload_n C 0 dX8_goOn_0 rfl ?_
    refine g_iload_n C 1 dX8_goOn_1 rfl ?_
    refine g_callUi C (As := [.int x1]) (st := []) (fun l => c_X0_matters_20 l D a cI h) cl_RX8_44_X0 rfl ce_20 (by omega) rfl (Nat.le_of_ble_eq_true rfl) dX8_goOn_2 (fun r2 g1 h => ?_)
    refine g_if_ne C 9 dX8_goOn_5 (by decide) (fun c3 => ?_) (fun c3 => ?_)
    · have h := h.2 c3
      refine g_iload_n C 1 dX8_goOn_9 rfl ?_
      refine g_aload_n C 0 dX8_goOn_10 rfl ?_
      refine gf_RX8_9_X0 C ce_20 rfl dX8_goOn_11 ?_
      refine g_icmp_lt C 22 dX8_goOn_14 (by decide) (fun c4 => ?_) (fun c4 => ?_)
      · have h := h.1 c4
        refine g_iconst C 0 dX8_goOn_22 (by decide) ?_
        refine g_istore_n (lv' := [(2, .int 0), (0, .ref (a 20)), (1, .int x1)]) C dX8_goOn_23 (by decide) rfl ?_
        refine g_sub (lv' := [(0, .ref (a 20)), (1, .int x1), (2, .int 0)]) [1, 2, 0] rfl ?_
        obtain ⟨n, h⟩ := h
        exact t_X8_goOn_20_24 C hQ hRc n g1 x1 0 h
      · have h := h.2 c4
        refine g_aload_n C 0 dX8_goOn_17 rfl ?_
        refine g_callUv C (As := []) (st := []) (fun l => c_X0_note_20 l D a cI h) cl_RX8_48_X0 rfl ce_20 (by omega) rfl (Nat.le_of_ble_eq_true rfl) dX8_goOn_18 (fun g14 h => ?_)
        exact g_vret C hQ dX8_goOn_21 h
    · have h := h.1 c3
      exact g_vret C hQ dX8_goOn_8 h
/-! X8_refresh_20: rank 15 -/
def M_X8_refresh_20 (f : Sg) (Q : Sg → Prop) : Prop :=
  ((f 20 3) = 0 → M_X5_cars_1 f (fun r3 g2 => ∀ g4 : Sg, g4 = va_up g2 20 (upd (g2 20) 2 r3) → M_X0_begin_20 g4 (fun g5 => M_X6_start_9 g5 (fun g7 => M_X8_goOn_20 12 g7 0 (fun g9 => ∀ g11 : Sg, g11 = va_up g9 20 (upd (g9 20) 3 1) → Q g11))))) ∧ (¬ (f 20 3) = 0 → Q f)
set_option maxHeartbeats 4000000 in
theorem c_X8_refresh_20 (l : Launch) (D : va_G) (a : Nat → Nat) (cI : ClassId) {f : Sg} {Q : Sg → Prop} (h : M_X8_refresh_20 f Q) : MV l D [(cI, .int)] (cw a cI) yX8_refresh cX8_refresh 1 (15) [.ref (a 20)] f Q := by
  refine mkV (cw_fix a cI) (by decide +kernel) (Nat.le_of_ble_eq_true rfl) (fun o C hQ => ?_)
  show Go o D (cw a cI) 0 [(0, .ref (a 20))] [] f
  unfold M_X8_refresh_20 at h
  refine g_aload_n C 0 dX8_refresh_0 rfl ?_
  refine gf_RX8_15_X0 C ce_20 rfl dX8_refresh_1 ?_
  refine g_if_eq C 8 dX8_refresh_4 (by decide) (fun c1 => ?_) (fun c1 => ?_)
  · have h := h.1 c1
    refine g_aload_n C 0 dX8_refresh_8 rfl ?_
    refine g_aload_n C 0 dX8_refresh_9 rfl ?_
    refine gf_RX8_19_X0 C ce_20 rfl dX8_refresh_10 ?_
    refine g_callVi C (As := []) (st := [.ref (a 20)]) (fun l => c_X5_cars_1 l D a cI h) cl_RX8_27_X5 rfl ce_1 (by omega) rfl (Nat.le_of_ble_eq_true rfl) dX8_refresh_13 (fun r3 g2 h => ?_)
    obtain ⟨g4, eg4⟩ : ∃ g : Sg, g = va_up g2 20 (upd (g2 20) 2 r3) := ⟨_, rfl⟩
    have h := h g4 eg4
    refine gp_RX8_9_X0 C rfl rfl ce_20 (Nat.le_of_ble_eq_true rfl) (g := g4) (by rw [eg4]; exact cs_20_2) dX8_refresh_16 ?_
    refine g_aload_n C 0 dX8_refresh_19 rfl ?_
    refine g_callUv C (As := []) (st := []) (fun l => c_X0_begin_20 l D a cI h) cl_RX8_32_X0 rfl ce_20 (by omega) rfl (Nat.le_of_ble_eq_true rfl) dX8_refresh_20 (fun g5 h => ?_)
    refine g_aload_n C 0 dX8_refresh_23 rfl ?_
    refine gf_RX8_23_X0 C ce_20 rfl dX8_refresh_24 ?_
    refine g_callVv C (As := []) (st := []) (fun l => c_X6_start_9 l D a cI h) cl_RX8_35_X6 rfl ce_9 (by omega) rfl (Nat.le_of_ble_eq_true rfl) dX8_refresh_27 (fun g7 h => ?_)
    refine g_aload_n C 0 dX8_refresh_30 rfl ?_
    refine g_iconst C 0 dX8_refresh_31 (by decide) ?_
    refine g_callUv C (As := [.int 0]) (st := []) (fun l => c_X8_goOn_20 l D a cI 12 h) cl_RX8_40_X0 rfl ce_20 (by omega) rfl (Nat.le_of_ble_eq_true rfl) dX8_refresh_32 (fun g9 h => ?_)
    refine g_aload_n C 0 dX8_refresh_35 rfl ?_
    refine g_iconst C 1 dX8_refresh_36 (by decide) ?_
    obtain ⟨g11, eg11⟩ : ∃ g : Sg, g = va_up g9 20 (upd (g9 20) 3 1) := ⟨_, rfl⟩
    have h := h g11 eg11
    refine gp_RX8_15_X0 C rfl rfl ce_20 (Nat.le_of_ble_eq_true rfl) (g := g11) (by rw [eg11]; exact cs_20_3) dX8_refresh_37 ?_
    exact g_vret C hQ dX8_refresh_40 h
  · have h := h.2 c1
    exact g_vret C hQ dX8_refresh_7 h
/-! X9_classAt_0_21: rank 1 -/
def J_X9_classAt_0_21_29 (Q : Int32 → Sg → Prop) (f : Sg) (s0 : Int32) : Prop :=
  Q s0 f
def J_X9_classAt_0_21_27 (Q : Int32 → Sg → Prop) (f : Sg) : Prop :=
  J_X9_classAt_0_21_29 Q f (-6)
def M_X9_classAt_0_21 (f : Sg) (x2 : Int32) (Q : Int32 → Sg → Prop) : Prop :=
  (x2 < 0 → J_X9_classAt_0_21_27 Q f) ∧ (¬ x2 < 0 → M_X5_cars_1 f (fun r3 g2 => (r3 ≤ x2 → J_X9_classAt_0_21_27 Q g2) ∧ (¬ r3 ≤ x2 → (9 ≤ x2 → J_X9_classAt_0_21_27 Q g2) ∧ (¬ 9 ≤ x2 → vp_in x2 9 ∧ J_X9_classAt_0_21_29 Q g2 (g2 21 (x2 : Int32).toNatClampNeg)))))
set_option maxHeartbeats 4000000 in
theorem t_X9_classAt_0_21_29 {o : Om} {D : va_G} {a : Nat → Nat} {cI : ClassId} {Q : Int32 → Sg → Prop} (C : Cx o D [(cI, .int)] (cw a cI) RX9 cX9_classAt (some .int) 1 3) (hQ : RetI o D (cw a cI) Q) {f : Sg} {s0 : Int32} (h : J_X9_classAt_0_21_29 Q f s0) : Go o D (cw a cI) 29 [] [.int s0] f := by
  unfold J_X9_classAt_0_21_29 at h
  exact g_iret C hQ dX9_classAt_29 h
set_option maxHeartbeats 4000000 in
theorem t_X9_classAt_0_21_27 {o : Om} {D : va_G} {a : Nat → Nat} {cI : ClassId} {Q : Int32 → Sg → Prop} (C : Cx o D [(cI, .int)] (cw a cI) RX9 cX9_classAt (some .int) 1 3) (hQ : RetI o D (cw a cI) Q) {f : Sg} (h : J_X9_classAt_0_21_27 Q f) : Go o D (cw a cI) 27 [] [] f := by
  unfold J_X9_classAt_0_21_27 at h
  refine g_bipush C (-6) dX9_classAt_27 (by decide) ?_
  refine g_sub (lv' := []) [] rfl ?_
  exact t_X9_classAt_0_21_29 C hQ h
set_option maxHeartbeats 4000000 in
theorem c_X9_classAt_0_21 (l : Launch) (D : va_G) (a : Nat → Nat) (cI : ClassId) {f : Sg} {x2 : Int32} {Q : Int32 → Sg → Prop} (h : M_X9_classAt_0_21 f x2 Q) : MI l D [(cI, .int)] (cw a cI) yX9_classAt cX9_classAt 3 (some .int) (1) [.ref (a 0), .ref (a 21), .int x2] f Q := by
  refine mkI (cw_fix a cI) (by decide +kernel) (Nat.le_of_ble_eq_true rfl) (fun o C hQ => ?_)
  show Go o D (cw a cI) 0 [(0, .ref (a 0)), (1, .ref (a 21)), (2, .int x2)] [] f
  unfold M_X9_classAt_0_21 at h
  refine g_iload_n C 2 dX9_classAt_0 rfl ?_
  refine g_if_lt C 27 dX9_classAt_1 (by decide) (fun c1 => ?_) (fun c1 => ?_)
  · have h := h.1 c1
    refine g_sub (lv' := []) [] rfl ?_
    exact t_X9_classAt_0_21_27 C hQ h
  · have h := h.2 c1
    refine g_iload_n C 2 dX9_classAt_4 rfl ?_
    refine g_aload_n C 0 dX9_classAt_5 rfl ?_
    refine gf_RX9_10_X9 C ce_0 rfl dX9_classAt_6 ?_
    refine g_callVi C (As := []) (st := [.int x2]) (fun l => c_X5_cars_1 l D a cI h) cl_RX9_107_X5 rfl ce_1 (by omega) rfl (Nat.le_of_ble_eq_true rfl) dX9_classAt_9 (fun r3 g2 h => ?_)
    refine g_icmp_ge C 27 dX9_classAt_12 (by decide) (fun c4 => ?_) (fun c4 => ?_)
    · have h := h.1 c4
      refine g_sub (lv' := []) [] rfl ?_
      exact t_X9_classAt_0_21_27 C hQ h
    · have h := h.2 c4
      refine g_iload_n C 2 dX9_classAt_15 rfl ?_
      refine g_aload_n C 1 dX9_classAt_16 rfl ?_
      refine g_alen C 0 ce_21 rfl (v := 9) rfl dX9_classAt_17 ?_
      refine g_icmp_ge C 27 dX9_classAt_18 (by decide) (fun c5 => ?_) (fun c5 => ?_)
      · have h := h.1 c5
        refine g_sub (lv' := []) [] rfl ?_
        exact t_X9_classAt_0_21_27 C hQ h
      · have h := h.2 c5
        refine g_aload_n C 1 dX9_classAt_21 rfl ?_
        refine g_iload_n C 2 dX9_classAt_22 rfl ?_
        obtain ⟨hi6, h⟩ := h
        refine g_iald C 0 ce_21 rfl hi6 dX9_classAt_23 ?_
        refine g_goto C 29 dX9_classAt_24 (by decide) ?_
        refine g_sub (lv' := []) [] rfl ?_
        exact t_X9_classAt_0_21_29 C hQ h
/-! X9_least_0: rank 16 -/
def J_X9_least_0_42 (Q : Int32 → Sg → Prop) (f : Sg) (s0 : Int32) : Prop :=
  Q s0 f
def M_X9_least_0 (f : Sg) (x1 : Int32) (Q : Int32 → Sg → Prop) : Prop :=
  ((-1) ≤ x1 → M_X8_refresh_20 f (fun g2 => (x1 = (-1) → J_X9_least_0_42 Q g2 (g2 20 5)) ∧ (¬ x1 = (-1) → M_X9_classAt_0_21 g2 x1 (fun r6 g5 => J_X9_least_0_42 Q g5 r6)))) ∧ (¬ (-1) ≤ x1 → Q (-2) f)
set_option maxHeartbeats 4000000 in
theorem t_X9_least_0_42 {o : Om} {D : va_G} {a : Nat → Nat} {cI : ClassId} {Q : Int32 → Sg → Prop} (C : Cx o D [(cI, .int)] (cw a cI) RX9 cX9_least (some .int) 16 2) (hQ : RetI o D (cw a cI) Q) {f : Sg} {s0 : Int32} (h : J_X9_least_0_42 Q f s0) : Go o D (cw a cI) 42 [] [.int s0] f := by
  unfold J_X9_least_0_42 at h
  exact g_iret C hQ dX9_least_42 h
set_option maxHeartbeats 4000000 in
theorem c_X9_least_0 (l : Launch) (D : va_G) (a : Nat → Nat) (cI : ClassId) {f : Sg} {x1 : Int32} {Q : Int32 → Sg → Prop} (h : M_X9_least_0 f x1 Q) : MI l D [(cI, .int)] (cw a cI) yX9_least cX9_least 2 (some .int) (16) [.ref (a 0), .int x1] f Q := by
  refine mkI (cw_fix a cI) (by decide +kernel) (Nat.le_of_ble_eq_true rfl) (fun o C hQ => ?_)
  show Go o D (cw a cI) 0 [(0, .ref (a 0)), (1, .int x1)] [] f
  unfold M_X9_least_0 at h
  refine g_iload_n C 1 dX9_least_0 rfl ?_
  refine g_iconst C (-1) dX9_least_1 (by decide) ?_
  refine g_icmp_ge C 8 dX9_least_2 (by decide) (fun c1 => ?_) (fun c1 => ?_)
  · have h := h.1 c1
    refine g_aload_n C 0 dX9_least_8 rfl ?_
    refine gf_RX9_44_X9 C ce_0 rfl dX9_least_9 ?_
    refine g_callUv C (As := []) (st := []) (fun l => c_X8_refresh_20 l D a cI h) cl_RX9_134_X0 rfl ce_20 (by omega) rfl (Nat.le_of_ble_eq_true rfl) dX9_least_12 (fun g2 h => ?_)
    refine g_iload_n C 1 dX9_least_15 rfl ?_
    refine g_iconst C (-1) dX9_least_16 (by decide) ?_
    refine g_icmp_ne C 30 dX9_least_17 (by decide) (fun c4 => ?_) (fun c4 => ?_)
    · have h := h.2 c4
      refine g_aload_n C 0 dX9_least_30 rfl ?_
      refine g_aload_n C 0 dX9_least_31 rfl ?_
      refine gf_RX9_44_X9 C ce_0 rfl dX9_least_32 ?_
      refine gf_RX9_138_X0 C ce_20 rfl dX9_least_35 ?_
      refine g_iload_n C 1 dX9_least_38 rfl ?_
      refine g_callVi C (As := [.ref (a 21), .int x1]) (st := []) (fun l => c_X9_classAt_0_21 l D a cI h) cl_RX9_130_X9 rfl ce_0 (by omega) rfl (Nat.le_of_ble_eq_true rfl) dX9_least_39 (fun r6 g5 h => ?_)
      refine g_sub (lv' := []) [] rfl ?_
      exact t_X9_least_0_42 C hQ h
    · have h := h.1 c4
      refine g_aload_n C 0 dX9_least_20 rfl ?_
      refine gf_RX9_44_X9 C ce_0 rfl dX9_least_21 ?_
      refine gf_RX9_135_X0 C ce_20 rfl dX9_least_24 ?_
      refine g_goto C 42 dX9_least_27 (by decide) ?_
      refine g_sub (lv' := []) [] rfl ?_
      exact t_X9_least_0_42 C hQ h
  · have h := h.2 c1
    refine g_bipush C (-2) dX9_least_5 (by decide) ?_
    exact g_iret C hQ dX9_least_7 h
/-! X9_clash_0: rank 2 -/
def J_X9_clash_0_34 (Q : Int32 → Sg → Prop) (K4 : Sg → Int32 → Int32 → Prop) (f : Sg) (x1 : Int32) (x2 : Int32) : Prop :=
  K4 f x1 (x2 + 1)
def B_X9_clash_0_4 (Q : Int32 → Sg → Prop) (K4 : Sg → Int32 → Int32 → Prop) (f : Sg) (x1 : Int32) (x2 : Int32) : Prop :=
  (4 ≤ x2 → Q x1 f) ∧ (¬ 4 ≤ x2 → M_X5_wanted_1 f x2 (fun r3 g2 => M_X5_room_1 g2 x2 (fun r5 g4 => (r3 ≤ r5 → J_X9_clash_0_34 Q K4 g4 x1 x2) ∧ (¬ r3 ≤ r5 → ∀ z7 : Int32, z7 = x1 ||| ((1 : Int32) <<< (x2 &&& 31)) → J_X9_clash_0_34 Q K4 g4 z7 x2))))
def M_X9_clash_0 (f : Sg) (Q : Int32 → Sg → Prop) : Prop :=
  ∃ n : Nat, itr2 (B_X9_clash_0_4 Q) n f 0 0
set_option maxHeartbeats 4000000 in
theorem t_X9_clash_0_34 {o : Om} {D : va_G} {a : Nat → Nat} {cI : ClassId} {Q : Int32 → Sg → Prop} {K4 : Sg → Int32 → Int32 → Prop} (C : Cx o D [(cI, .int)] (cw a cI) RX9 cX9_clash (some .int) 2 3) (hQ : RetI o D (cw a cI) Q) (hK4 : ∀ (g : Sg) (x1 : Int32) (x2 : Int32), K4 g x1 x2 → Go o D (cw a cI) 4 [(0, .ref (a 0)), (1, .int x1), (2, .int x2)] [] g) {f : Sg} {x1 : Int32} {x2 : Int32} (h : J_X9_clash_0_34 Q K4 f x1 x2) : Go o D (cw a cI) 34 [(0, .ref (a 0)), (1, .int x1), (2, .int x2)] [] f := by
  unfold J_X9_clash_0_34 at h
  refine g_iinc (lv' := [(2, .int (x2 + 1)), (0, .ref (a 0)), (1, .int x1)]) C 2 dX9_clash_34 rfl rfl (by decide) rfl ?_
  refine g_goto C 4 dX9_clash_37 (by decide) ?_
  refine g_sub (lv' := [(0, .ref (a 0)), (1, .int x1), (2, .int (x2 + 1))]) [1, 2, 0] rfl ?_
  exact hK4 f x1 (x2 + 1) h
set_option maxHeartbeats 4000000 in
theorem t_X9_clash_0_4 {o : Om} {D : va_G} {a : Nat → Nat} {cI : ClassId} {Q : Int32 → Sg → Prop} (C : Cx o D [(cI, .int)] (cw a cI) RX9 cX9_clash (some .int) 2 3) (hQ : RetI o D (cw a cI) Q) : ∀ (n : Nat) (f : Sg) (x1 : Int32) (x2 : Int32), itr2 (B_X9_clash_0_4 Q) n f x1 x2 → Go o D (cw a cI) 4 [(0, .ref (a 0)), (1, .int x1), (2, .int x2)] [] f := by
  intro n
  induction n with
  | zero => intro f x1 x2 h; exact h.elim
  | succ n ih =>
    intro f x1 x2 h
    have h : B_X9_clash_0_4 Q (itr2 (B_X9_clash_0_4 Q) n) f x1 x2 := h
    have hK4 := ih
    generalize itr2 (B_X9_clash_0_4 Q) n = K4 at h hK4
    clear ih
    unfold B_X9_clash_0_4 at h
    refine g_iload_n C 2 dX9_clash_4 rfl ?_
    refine g_iconst C 4 dX9_clash_5 (by decide) ?_
    refine g_icmp_ge C 40 dX9_clash_6 (by decide) (fun c1 => ?_) (fun c1 => ?_)
    · have h := h.1 c1
      refine g_iload_n C 1 dX9_clash_40 rfl ?_
      exact g_iret C hQ dX9_clash_41 h
    · have h := h.2 c1
      refine g_aload_n C 0 dX9_clash_9 rfl ?_
      refine gf_RX9_10_X9 C ce_0 rfl dX9_clash_10 ?_
      refine g_iload_n C 2 dX9_clash_13 rfl ?_
      refine g_callVi C (As := [.int x2]) (st := []) (fun l => c_X5_wanted_1 l D a cI h) cl_RX9_114_X5 rfl ce_1 (by omega) rfl (Nat.le_of_ble_eq_true rfl) dX9_clash_14 (fun r3 g2 h => ?_)
      refine g_aload_n C 0 dX9_clash_17 rfl ?_
      refine gf_RX9_10_X9 C ce_0 rfl dX9_clash_18 ?_
      refine g_iload_n C 2 dX9_clash_21 rfl ?_
      refine g_callVi C (As := [.int x2]) (st := [.int r3]) (fun l => c_X5_room_1 l D a cI h) cl_RX9_118_X5 rfl ce_1 (by omega) rfl (Nat.le_of_ble_eq_true rfl) dX9_clash_22 (fun r5 g4 h => ?_)
      refine g_icmp_le C 34 dX9_clash_25 (by decide) (fun c6 => ?_) (fun c6 => ?_)
      · have h := h.1 c6
        refine g_sub (lv' := [(0, .ref (a 0)), (1, .int x1), (2, .int x2)]) [0, 1, 2] rfl ?_
        exact t_X9_clash_0_34 C hQ hK4 h
      · have h := h.2 c6
        refine g_iload_n C 1 dX9_clash_28 rfl ?_
        refine g_iconst C 1 dX9_clash_29 (by decide) ?_
        refine g_iload_n C 2 dX9_clash_30 rfl ?_
        refine g_ishl C dX9_clash_31 ?_
        refine g_ior C dX9_clash_32 ?_
        refine g_top (fun z7 ez7 => ?_)
        have h := h z7 ez7
        refine g_istore_n (lv' := [(1, .int z7), (0, .ref (a 0)), (2, .int x2)]) C dX9_clash_33 (by decide) rfl ?_
        refine g_sub (lv' := [(0, .ref (a 0)), (1, .int z7), (2, .int x2)]) [1, 0, 2] rfl ?_
        exact t_X9_clash_0_34 C hQ hK4 h
set_option maxHeartbeats 4000000 in
theorem c_X9_clash_0 (l : Launch) (D : va_G) (a : Nat → Nat) (cI : ClassId) {f : Sg} {Q : Int32 → Sg → Prop} (h : M_X9_clash_0 f Q) : MI l D [(cI, .int)] (cw a cI) yX9_clash cX9_clash 3 (some .int) (2) [.ref (a 0)] f Q := by
  refine mkI (cw_fix a cI) (by decide +kernel) (Nat.le_of_ble_eq_true rfl) (fun o C hQ => ?_)
  show Go o D (cw a cI) 0 [(0, .ref (a 0))] [] f
  unfold M_X9_clash_0 at h
  refine g_iconst C 0 dX9_clash_0 (by decide) ?_
  refine g_istore_n (lv' := [(1, .int 0), (0, .ref (a 0))]) C dX9_clash_1 (by decide) rfl ?_
  refine g_iconst C 0 dX9_clash_2 (by decide) ?_
  refine g_istore_n (lv' := [(2, .int 0), (1, .int 0), (0, .ref (a 0))]) C dX9_clash_3 (by decide) rfl ?_
  refine g_sub (lv' := [(0, .ref (a 0)), (1, .int 0), (2, .int 0)]) [2, 1, 0] rfl ?_
  obtain ⟨n, h⟩ := h
  exact t_X9_clash_0_4 C hQ n f 0 0 h
/-! X5_orderCount_1: rank 0 -/
def B_X5_orderCount_1_14 (Q : Int32 → Sg → Prop) (K6 : Sg → Int32 → Int32 → Int32 → Prop) (K14 : Sg → Int32 → Int32 → Int32 → Int32 → Prop) (f : Sg) (x1 : Int32) (x2 : Int32) (x3 : Int32) (x4 : Int32) : Prop :=
  vp_in x3 5 ∧ ((f 6 (x3 : Int32).toNatClampNeg) < x4 → K6 f x1 x2 (x3 + 1)) ∧ (¬ (f 6 (x3 : Int32).toNatClampNeg) < x4 → ¬ x4 = 0 ∧ ∀ z5 : Int32, z5 = (x1 * (x2 + 1)) / x4 → K14 f z5 (x2 + 1) x3 (x4 + 1))
def B_X5_orderCount_1_6 (Q : Int32 → Sg → Prop) (K6 : Sg → Int32 → Int32 → Int32 → Prop) (f : Sg) (x1 : Int32) (x2 : Int32) (x3 : Int32) : Prop :=
  (5 ≤ x3 → Q x1 f) ∧ (¬ 5 ≤ x3 → ∃ n : Nat, itr4 (B_X5_orderCount_1_14 Q K6) n f x1 x2 x3 1)
def M_X5_orderCount_1 (f : Sg) (Q : Int32 → Sg → Prop) : Prop :=
  ∃ n : Nat, itr3 (B_X5_orderCount_1_6 Q) n f 1 0 0
set_option maxHeartbeats 4000000 in
theorem t_X5_orderCount_1_14 {o : Om} {D : va_G} {a : Nat → Nat} {cI : ClassId} {Q : Int32 → Sg → Prop} {K6 : Sg → Int32 → Int32 → Int32 → Prop} (C : Cx o D [(cI, .int)] (cw a cI) RX5 cX5_orderCount (some .int) 0 5) (hQ : RetI o D (cw a cI) Q) (hK6 : ∀ (g : Sg) (x1 : Int32) (x2 : Int32) (x3 : Int32), K6 g x1 x2 x3 → Go o D (cw a cI) 6 [(0, .ref (a 1)), (1, .int x1), (2, .int x2), (3, .int x3)] [] g) : ∀ (n : Nat) (f : Sg) (x1 : Int32) (x2 : Int32) (x3 : Int32) (x4 : Int32), itr4 (B_X5_orderCount_1_14 Q K6) n f x1 x2 x3 x4 → Go o D (cw a cI) 14 [(0, .ref (a 1)), (1, .int x1), (2, .int x2), (3, .int x3), (4, .int x4)] [] f := by
  intro n
  induction n with
  | zero => intro f x1 x2 x3 x4 h; exact h.elim
  | succ n ih =>
    intro f x1 x2 x3 x4 h
    have h : B_X5_orderCount_1_14 Q K6 (itr4 (B_X5_orderCount_1_14 Q K6) n) f x1 x2 x3 x4 := h
    have hK14 := ih
    generalize itr4 (B_X5_orderCount_1_14 Q K6) n = K14 at h hK14
    clear ih
    unfold B_X5_orderCount_1_14 at h
    refine g_iload C 4 dX5_orderCount_14 rfl ?_
    refine g_aload_n C 0 dX5_orderCount_16 rfl ?_
    refine gf_RX5_24_X5 C ce_1 rfl dX5_orderCount_17 ?_
    refine g_iload_n C 3 dX5_orderCount_20 rfl ?_
    obtain ⟨hi2, h⟩ := h
    refine g_iald C 0 ce_6 rfl hi2 dX5_orderCount_21 ?_
    refine g_icmp_gt C 41 dX5_orderCount_22 (by decide) (fun c3 => ?_) (fun c3 => ?_)
    · have h := h.1 c3
      refine g_iinc (lv' := [(3, .int (x3 + 1)), (0, .ref (a 1)), (1, .int x1), (2, .int x2), (4, .int x4)]) C 3 dX5_orderCount_41 rfl rfl (by decide) rfl ?_
      refine g_goto C 6 dX5_orderCount_44 (by decide) ?_
      refine g_sub (lv' := [(0, .ref (a 1)), (1, .int x1), (2, .int x2), (3, .int (x3 + 1))]) [1, 2, 3, 0] rfl ?_
      exact hK6 f x1 x2 (x3 + 1) h
    · have h := h.2 c3
      refine g_iinc (lv' := [(2, .int (x2 + 1)), (0, .ref (a 1)), (1, .int x1), (3, .int x3), (4, .int x4)]) C 2 dX5_orderCount_25 rfl rfl (by decide) rfl ?_
      refine g_iload_n C 2 dX5_orderCount_28 rfl ?_
      refine g_iload_n C 0 dX5_orderCount_29 rfl ?_
      refine g_imul C dX5_orderCount_30 ?_
      refine g_iload C 4 dX5_orderCount_31 rfl ?_
      obtain ⟨hn4, h⟩ := h
      refine g_idiv C dX5_orderCount_33 hn4 ?_
      refine g_top (fun z5 ez5 => ?_)
      have h := h z5 ez5
      refine g_istore_n (lv' := [(1, .int z5), (2, .int (x2 + 1)), (0, .ref (a 1)), (3, .int x3), (4, .int x4)]) C dX5_orderCount_34 (by decide) rfl ?_
      refine g_iinc (lv' := [(4, .int (x4 + 1)), (1, .int z5), (2, .int (x2 + 1)), (0, .ref (a 1)), (3, .int x3)]) C 4 dX5_orderCount_35 rfl rfl (by decide) rfl ?_
      refine g_goto C 14 dX5_orderCount_38 (by decide) ?_
      refine g_sub (lv' := [(0, .ref (a 1)), (1, .int z5), (2, .int (x2 + 1)), (3, .int x3), (4, .int (x4 + 1))]) [3, 1, 2, 4, 0] rfl ?_
      exact hK14 f z5 (x2 + 1) x3 (x4 + 1) h
set_option maxHeartbeats 4000000 in
theorem t_X5_orderCount_1_6 {o : Om} {D : va_G} {a : Nat → Nat} {cI : ClassId} {Q : Int32 → Sg → Prop} (C : Cx o D [(cI, .int)] (cw a cI) RX5 cX5_orderCount (some .int) 0 5) (hQ : RetI o D (cw a cI) Q) : ∀ (n : Nat) (f : Sg) (x1 : Int32) (x2 : Int32) (x3 : Int32), itr3 (B_X5_orderCount_1_6 Q) n f x1 x2 x3 → Go o D (cw a cI) 6 [(0, .ref (a 1)), (1, .int x1), (2, .int x2), (3, .int x3)] [] f := by
  intro n
  induction n with
  | zero => intro f x1 x2 x3 h; exact h.elim
  | succ n ih =>
    intro f x1 x2 x3 h
    have h : B_X5_orderCount_1_6 Q (itr3 (B_X5_orderCount_1_6 Q) n) f x1 x2 x3 := h
    have hK6 := ih
    generalize itr3 (B_X5_orderCount_1_6 Q) n = K6 at h hK6
    clear ih
    unfold B_X5_orderCount_1_6 at h
    refine g_iload_n C 3 dX5_orderCount_6 rfl ?_
    refine g_iconst C 5 dX5_orderCount_7 (by decide) ?_
    refine g_icmp_ge C 47 dX5_orderCount_8 (by decide) (fun c1 => ?_) (fun c1 => ?_)
    · have h := h.1 c1
      refine g_iload_n C 1 dX5_orderCount_47 rfl ?_
      exact g_iret C hQ dX5_orderCount_48 h
    · have h := h.2 c1
      refine g_iconst C 1 dX5_orderCount_11 (by decide) ?_
      refine g_istore (lv' := [(4, .int 1), (0, .ref (a 1)), (1, .int x1), (2, .int x2), (3, .int x3)]) C dX5_orderCount_12 (by decide) rfl ?_
      refine g_sub (lv' := [(0, .ref (a 1)), (1, .int x1), (2, .int x2), (3, .int x3), (4, .int 1)]) [1, 2, 3, 4, 0] rfl ?_
      obtain ⟨n, h⟩ := h
      exact t_X5_orderCount_1_14 C hQ hK6 n f x1 x2 x3 1 h
set_option maxHeartbeats 4000000 in
theorem c_X5_orderCount_1 (l : Launch) (D : va_G) (a : Nat → Nat) (cI : ClassId) {f : Sg} {Q : Int32 → Sg → Prop} (h : M_X5_orderCount_1 f Q) : MI l D [(cI, .int)] (cw a cI) yX5_orderCount cX5_orderCount 5 (some .int) (0) [.ref (a 1)] f Q := by
  refine mkI (cw_fix a cI) (by decide +kernel) (Nat.le_of_ble_eq_true rfl) (fun o C hQ => ?_)
  show Go o D (cw a cI) 0 [(0, .ref (a 1))] [] f
  unfold M_X5_orderCount_1 at h
  refine g_iconst C 1 dX5_orderCount_0 (by decide) ?_
  refine g_istore_n (lv' := [(1, .int 1), (0, .ref (a 1))]) C dX5_orderCount_1 (by decide) rfl ?_
  refine g_iconst C 0 dX5_orderCount_2 (by decide) ?_
  refine g_istore_n (lv' := [(2, .int 0), (1, .int 1), (0, .ref (a 1))]) C dX5_orderCount_3 (by decide) rfl ?_
  refine g_iconst C 0 dX5_orderCount_4 (by decide) ?_
  refine g_istore_n (lv' := [(3, .int 0), (2, .int 0), (1, .int 1), (0, .ref (a 1))]) C dX5_orderCount_5 (by decide) rfl ?_
  refine g_sub (lv' := [(0, .ref (a 1)), (1, .int 1), (2, .int 0), (3, .int 0)]) [3, 2, 1, 0] rfl ?_
  obtain ⟨n, h⟩ := h
  exact t_X5_orderCount_1_6 C hQ n f 1 0 0 h
/-! X5_breaksBehind_1: rank 1 -/
def J_X5_breaksBehind_1_49 (Q : Int32 → Sg → Prop) (K5 : Sg → Int32 → Int32 → Int32 → Int32 → Prop) (f : Sg) (x1 : Int32) (x2 : Int32) (x3 : Int32) (x4 : Int32) : Prop :=
  K5 f x1 x2 x3 (x4 + 1)
def B_X5_breaksBehind_1_5 (Q : Int32 → Sg → Prop) (K5 : Sg → Int32 → Int32 → Int32 → Int32 → Prop) (f : Sg) (x1 : Int32) (x2 : Int32) (x3 : Int32) (x4 : Int32) : Prop :=
  (4 ≤ x4 → Q x3 f) ∧ (¬ 4 ≤ x4 → M_X5_wanted_1 f x4 (fun r3 g2 => vp_in x4 4 ∧ (r3 ≤ (g2 2 (x4 : Int32).toNatClampNeg) → J_X5_breaksBehind_1_49 Q K5 g2 x1 x2 x3 x4) ∧ (¬ r3 ≤ (g2 2 (x4 : Int32).toNatClampNeg) → vp_in x4 4 ∧ ∀ z7 : Int32, z7 = (if x1 < ((g2 3 (x4 : Int32).toNatClampNeg) - 1) then ((g2 3 (x4 : Int32).toNatClampNeg) - 1) else x1) → ∀ z8 : Int32, z8 = (if 0 < (x2 - z7) then (x2 - z7) else 0) → ∀ z9 : Int32, z9 = x3 + z8 → J_X5_breaksBehind_1_49 Q K5 g2 x1 x2 z9 x4)))
def M_X5_breaksBehind_1 (f : Sg) (x1 : Int32) (x2 : Int32) (Q : Int32 → Sg → Prop) : Prop :=
  ∃ n : Nat, itr4 (B_X5_breaksBehind_1_5 Q) n f x1 x2 0 0
set_option maxHeartbeats 4000000 in
theorem t_X5_breaksBehind_1_49 {o : Om} {D : va_G} {a : Nat → Nat} {cI : ClassId} {Q : Int32 → Sg → Prop} {K5 : Sg → Int32 → Int32 → Int32 → Int32 → Prop} (C : Cx o D [(cI, .int)] (cw a cI) RX5 cX5_breaksBehind (some .int) 1 5) (hQ : RetI o D (cw a cI) Q) (hK5 : ∀ (g : Sg) (x1 : Int32) (x2 : Int32) (x3 : Int32) (x4 : Int32), K5 g x1 x2 x3 x4 → Go o D (cw a cI) 5 [(0, .ref (a 1)), (1, .int x1), (2, .int x2), (3, .int x3), (4, .int x4)] [] g) {f : Sg} {x1 : Int32} {x2 : Int32} {x3 : Int32} {x4 : Int32} (h : J_X5_breaksBehind_1_49 Q K5 f x1 x2 x3 x4) : Go o D (cw a cI) 49 [(0, .ref (a 1)), (1, .int x1), (2, .int x2), (3, .int x3), (4, .int x4)] [] f := by
  unfold J_X5_breaksBehind_1_49 at h
  refine g_iinc (lv' := [(4, .int (x4 + 1)), (0, .ref (a 1)), (1, .int x1), (2, .int x2), (3, .int x3)]) C 4 dX5_breaksBehind_49 rfl rfl (by decide) rfl ?_
  refine g_goto C 5 dX5_breaksBehind_52 (by decide) ?_
  refine g_sub (lv' := [(0, .ref (a 1)), (1, .int x1), (2, .int x2), (3, .int x3), (4, .int (x4 + 1))]) [1, 2, 3, 4, 0] rfl ?_
  exact hK5 f x1 x2 x3 (x4 + 1) h
set_option maxHeartbeats 4000000 in
theorem t_X5_breaksBehind_1_5 {o : Om} {D : va_G} {a : Nat → Nat} {cI : ClassId} {Q : Int32 → Sg → Prop} (C : Cx o D [(cI, .int)] (cw a cI) RX5 cX5_breaksBehind (some .int) 1 5) (hQ : RetI o D (cw a cI) Q) : ∀ (n : Nat) (f : Sg) (x1 : Int32) (x2 : Int32) (x3 : Int32) (x4 : Int32), itr4 (B_X5_breaksBehind_1_5 Q) n f x1 x2 x3 x4 → Go o D (cw a cI) 5 [(0, .ref (a 1)), (1, .int x1), (2, .int x2), (3, .int x3), (4, .int x4)] [] f := by
  intro n
  induction n with
  | zero => intro f x1 x2 x3 x4 h; exact h.elim
  | succ n ih =>
    intro f x1 x2 x3 x4 h
    have h : B_X5_breaksBehind_1_5 Q (itr4 (B_X5_breaksBehind_1_5 Q) n) f x1 x2 x3 x4 := h
    have hK5 := ih
    generalize itr4 (B_X5_breaksBehind_1_5 Q) n = K5 at h hK5
    clear ih
    unfold B_X5_breaksBehind_1_5 at h
    refine g_iload C 4 dX5_breaksBehind_5 rfl ?_
    refine g_iconst C 4 dX5_breaksBehind_7 (by decide) ?_
    refine g_icmp_ge C 55 dX5_breaksBehind_8 (by decide) (fun c1 => ?_) (fun c1 => ?_)
    · have h := h.1 c1
      refine g_iload_n C 3 dX5_breaksBehind_55 rfl ?_
      exact g_iret C hQ dX5_breaksBehind_56 h
    · have h := h.2 c1
      refine g_aload_n C 0 dX5_breaksBehind_11 rfl ?_
      refine g_iload C 4 dX5_breaksBehind_12 rfl ?_
      refine g_callVi C (As := [.int x4]) (st := []) (fun l => c_X5_wanted_1 l D a cI h) cl_RX5_48_X5 rfl ce_1 (by omega) rfl (Nat.le_of_ble_eq_true rfl) dX5_breaksBehind_14 (fun r3 g2 h => ?_)
      refine g_aload_n C 0 dX5_breaksBehind_17 rfl ?_
      refine gf_RX5_9_X5 C ce_1 rfl dX5_breaksBehind_18 ?_
      refine g_iload C 4 dX5_breaksBehind_21 rfl ?_
      obtain ⟨hi4, h⟩ := h
      refine g_iald C 0 ce_2 rfl hi4 dX5_breaksBehind_23 ?_
      refine g_icmp_le C 49 dX5_breaksBehind_24 (by decide) (fun c5 => ?_) (fun c5 => ?_)
      · have h := h.1 c5
        refine g_sub (lv' := [(0, .ref (a 1)), (1, .int x1), (2, .int x2), (3, .int x3), (4, .int x4)]) [0, 1, 2, 3, 4] rfl ?_
        exact t_X5_breaksBehind_1_49 C hQ hK5 h
      · have h := h.2 c5
        refine g_iload_n C 3 dX5_breaksBehind_27 rfl ?_
        refine g_iconst C 0 dX5_breaksBehind_28 (by decide) ?_
        refine g_iload_n C 2 dX5_breaksBehind_29 rfl ?_
        refine g_iload_n C 1 dX5_breaksBehind_30 rfl ?_
        refine g_aload_n C 0 dX5_breaksBehind_31 rfl ?_
        refine gf_RX5_15_X5 C ce_1 rfl dX5_breaksBehind_32 ?_
        refine g_iload C 4 dX5_breaksBehind_35 rfl ?_
        obtain ⟨hi6, h⟩ := h
        refine g_iald C 0 ce_3 rfl hi6 dX5_breaksBehind_37 ?_
        refine g_iconst C 1 dX5_breaksBehind_38 (by decide) ?_
        refine g_isub C dX5_breaksBehind_39 ?_
        refine g_max C (by omega) tb_414 tb_415 tb_12 tb_416 (Nat.le_of_ble_eq_true rfl) dX5_breaksBehind_40 ?_
        refine g_top (fun z7 ez7 => ?_)
        have h := h z7 ez7
        refine g_isub C dX5_breaksBehind_43 ?_
        refine g_max C (by omega) tb_414 tb_415 tb_12 tb_416 (Nat.le_of_ble_eq_true rfl) dX5_breaksBehind_44 ?_
        refine g_top (fun z8 ez8 => ?_)
        have h := h z8 ez8
        refine g_iadd C dX5_breaksBehind_47 ?_
        refine g_top (fun z9 ez9 => ?_)
        have h := h z9 ez9
        refine g_istore_n (lv' := [(3, .int z9), (0, .ref (a 1)), (1, .int x1), (2, .int x2), (4, .int x4)]) C dX5_breaksBehind_48 (by decide) rfl ?_
        refine g_sub (lv' := [(0, .ref (a 1)), (1, .int x1), (2, .int x2), (3, .int z9), (4, .int x4)]) [1, 2, 3, 0, 4] rfl ?_
        exact t_X5_breaksBehind_1_49 C hQ hK5 h
set_option maxHeartbeats 4000000 in
theorem c_X5_breaksBehind_1 (l : Launch) (D : va_G) (a : Nat → Nat) (cI : ClassId) {f : Sg} {x1 : Int32} {x2 : Int32} {Q : Int32 → Sg → Prop} (h : M_X5_breaksBehind_1 f x1 x2 Q) : MI l D [(cI, .int)] (cw a cI) yX5_breaksBehind cX5_breaksBehind 5 (some .int) (1) [.ref (a 1), .int x1, .int x2] f Q := by
  refine mkI (cw_fix a cI) (by decide +kernel) (Nat.le_of_ble_eq_true rfl) (fun o C hQ => ?_)
  show Go o D (cw a cI) 0 [(0, .ref (a 1)), (1, .int x1), (2, .int x2)] [] f
  unfold M_X5_breaksBehind_1 at h
  refine g_iconst C 0 dX5_breaksBehind_0 (by decide) ?_
  refine g_istore_n (lv' := [(3, .int 0), (0, .ref (a 1)), (1, .int x1), (2, .int x2)]) C dX5_breaksBehind_1 (by decide) rfl ?_
  refine g_iconst C 0 dX5_breaksBehind_2 (by decide) ?_
  refine g_istore (lv' := [(4, .int 0), (3, .int 0), (0, .ref (a 1)), (1, .int x1), (2, .int x2)]) C dX5_breaksBehind_3 (by decide) rfl ?_
  refine g_sub (lv' := [(0, .ref (a 1)), (1, .int x1), (2, .int x2), (3, .int 0), (4, .int 0)]) [2, 3, 4, 1, 0] rfl ?_
  obtain ⟨n, h⟩ := h
  exact t_X5_breaksBehind_1_5 C hQ n f x1 x2 0 0 h
/-! X3_begin_22: rank 2 -/
def B_X3_begin_22_7 (Q : Sg → Prop) (K7 : Sg → Int32 → Prop) (f : Sg) (x1 : Int32) : Prop :=
  (9 < x1 → Q f) ∧ (¬ 9 < x1 → M_X5_breaksBehind_1 f x1 (f 22 2) (fun r4 g3 => vp_in x1 10 ∧ ∀ g6 : Sg, g6 = va_up g3 23 (upd (g3 23) (x1 : Int32).toNatClampNeg r4) → K7 g6 (x1 + 1)))
def M_X3_begin_22 (f : Sg) (Q : Sg → Prop) : Prop :=
  ∀ g1 : Sg, g1 = va_up f 22 (upd (f 22) 4 0) → ∃ n : Nat, itr1 (B_X3_begin_22_7 Q) n g1 0
set_option maxHeartbeats 4000000 in
theorem t_X3_begin_22_7 {o : Om} {D : va_G} {a : Nat → Nat} {cI : ClassId} {Q : Sg → Prop} (C : Cx o D [(cI, .int)] (cw a cI) RX3 cX3_begin none 2 2) (hQ : RetV o D (cw a cI) Q) : ∀ (n : Nat) (f : Sg) (x1 : Int32), itr1 (B_X3_begin_22_7 Q) n f x1 → Go o D (cw a cI) 7 [(0, .ref (a 22)), (1, .int x1)] [] f := by
  intro n
  induction n with
  | zero => intro f x1 h; exact h.elim
  | succ n ih =>
    intro f x1 h
    have h : B_X3_begin_22_7 Q (itr1 (B_X3_begin_22_7 Q) n) f x1 := h
    have hK7 := ih
    generalize itr1 (B_X3_begin_22_7 Q) n = K7 at h hK7
    clear ih
    unfold B_X3_begin_22_7 at h
    refine g_iload_n C 1 dX3_begin_7 rfl ?_
    refine g_bipush C 9 dX3_begin_8 (by decide) ?_
    refine g_icmp_gt C 37 dX3_begin_10 (by decide) (fun c2 => ?_) (fun c2 => ?_)
    · have h := h.1 c2
      exact g_vret C hQ dX3_begin_37 h
    · have h := h.2 c2
      refine g_aload_n C 0 dX3_begin_13 rfl ?_
      refine gf_RX3_15_X3 C ce_22 rfl dX3_begin_14 ?_
      refine g_iload_n C 1 dX3_begin_17 rfl ?_
      refine g_aload_n C 0 dX3_begin_18 rfl ?_
      refine gf_RX3_19_X3 C ce_22 rfl dX3_begin_19 ?_
      refine g_iload_n C 1 dX3_begin_22 rfl ?_
      refine g_aload_n C 0 dX3_begin_23 rfl ?_
      refine gf_RX3_23_X3 C ce_22 rfl dX3_begin_24 ?_
      refine g_callVi C (As := [.int x1, .int (f 22 2)]) (st := [.int x1, .ref (a 23)]) (fun l => c_X5_breaksBehind_1 l D a cI h) cl_RX3_26_X5 rfl ce_1 (by omega) rfl (Nat.le_of_ble_eq_true rfl) dX3_begin_27 (fun r4 g3 h => ?_)
      obtain ⟨hi5, h⟩ := h
      obtain ⟨g6, eg6⟩ : ∃ g : Sg, g = va_up g3 23 (upd (g3 23) (x1 : Int32).toNatClampNeg r4) := ⟨_, rfl⟩
      have h := h g6 eg6
      refine g_iast C 0 ce_23 rfl (g := g6) (by rw [eg6]; exact cs_23) hi5 dX3_begin_30 ?_
      refine g_iinc (lv' := [(1, .int (x1 + 1)), (0, .ref (a 22))]) C 1 dX3_begin_31 rfl rfl (by decide) rfl ?_
      refine g_goto C 7 dX3_begin_34 (by decide) ?_
      refine g_sub (lv' := [(0, .ref (a 22)), (1, .int (x1 + 1))]) [1, 0] rfl ?_
      exact hK7 g6 (x1 + 1) h
set_option maxHeartbeats 4000000 in
theorem c_X3_begin_22 (l : Launch) (D : va_G) (a : Nat → Nat) (cI : ClassId) {f : Sg} {Q : Sg → Prop} (h : M_X3_begin_22 f Q) : MV l D [(cI, .int)] (cw a cI) yX3_begin cX3_begin 2 (2) [.ref (a 22)] f Q := by
  refine mkV (cw_fix a cI) (by decide +kernel) (Nat.le_of_ble_eq_true rfl) (fun o C hQ => ?_)
  show Go o D (cw a cI) 0 [(0, .ref (a 22))] [] f
  unfold M_X3_begin_22 at h
  refine g_aload_n C 0 dX3_begin_0 rfl ?_
  refine g_iconst C 0 dX3_begin_1 (by decide) ?_
  obtain ⟨g1, eg1⟩ : ∃ g : Sg, g = va_up f 22 (upd (f 22) 4 0) := ⟨_, rfl⟩
  have h := h g1 eg1
  refine gp_RX3_9_X3 C rfl rfl ce_22 (Nat.le_of_ble_eq_true rfl) (g := g1) (by rw [eg1]; exact cs_22_4) dX3_begin_2 ?_
  refine g_iconst C 0 dX3_begin_5 (by decide) ?_
  refine g_istore_n (lv' := [(1, .int 0), (0, .ref (a 22))]) C dX3_begin_6 (by decide) rfl ?_
  refine g_sub (lv' := [(0, .ref (a 22)), (1, .int 0)]) [1, 0] rfl ?_
  obtain ⟨n, h⟩ := h
  exact t_X3_begin_22_7 C hQ n g1 0 h
/-! X3_matters_22: rank 1 -/
def J_X3_matters_22_26 (Q : Int32 → Sg → Prop) (f : Sg) (s0 : Int32) : Prop :=
  narrow .boolean (.int s0) = .int s0 ∧ Q s0 f
def M_X3_matters_22 (f : Sg) (x1 : Int32) (Q : Int32 → Sg → Prop) : Prop :=
  M_X6_breaks_9 f (fun r2 g1 => vp_in x1 10 ∧ ((r2 + (g1 23 (x1 : Int32).toNatClampNeg)) ≤ (g1 22 4) → J_X3_matters_22_26 Q g1 0) ∧ (¬ (r2 + (g1 23 (x1 : Int32).toNatClampNeg)) ≤ (g1 22 4) → J_X3_matters_22_26 Q g1 1))
set_option maxHeartbeats 4000000 in
theorem t_X3_matters_22_26 {o : Om} {D : va_G} {a : Nat → Nat} {cI : ClassId} {Q : Int32 → Sg → Prop} (C : Cx o D [(cI, .int)] (cw a cI) RX3 cX3_matters (some .boolean) 1 2) (hQ : RetI o D (cw a cI) Q) {f : Sg} {s0 : Int32} (h : J_X3_matters_22_26 Q f s0) : Go o D (cw a cI) 26 [] [.int s0] f := by
  unfold J_X3_matters_22_26 at h
  exact g_zret C hQ h.1 dX3_matters_26 h.2
set_option maxHeartbeats 4000000 in
theorem c_X3_matters_22 (l : Launch) (D : va_G) (a : Nat → Nat) (cI : ClassId) {f : Sg} {x1 : Int32} {Q : Int32 → Sg → Prop} (h : M_X3_matters_22 f x1 Q) : MI l D [(cI, .int)] (cw a cI) yX3_matters cX3_matters 2 (some .boolean) (1) [.ref (a 22), .int x1] f Q := by
  refine mkI (cw_fix a cI) (by decide +kernel) (Nat.le_of_ble_eq_true rfl) (fun o C hQ => ?_)
  show Go o D (cw a cI) 0 [(0, .ref (a 22)), (1, .int x1)] [] f
  unfold M_X3_matters_22 at h
  refine g_aload_n C 0 dX3_matters_0 rfl ?_
  refine gf_RX3_32_X3 C ce_22 rfl dX3_matters_1 ?_
  refine g_callVi C (As := []) (st := []) (fun l => c_X6_breaks_9 l D a cI h) cl_RX3_36_X6 rfl ce_9 (by omega) rfl (Nat.le_of_ble_eq_true rfl) dX3_matters_4 (fun r2 g1 h => ?_)
  refine g_aload_n C 0 dX3_matters_7 rfl ?_
  refine gf_RX3_15_X3 C ce_22 rfl dX3_matters_8 ?_
  refine g_iload_n C 1 dX3_matters_11 rfl ?_
  obtain ⟨hi3, h⟩ := h
  refine g_iald C 0 ce_23 rfl hi3 dX3_matters_12 ?_
  refine g_iadd C dX3_matters_13 ?_
  refine g_aload_n C 0 dX3_matters_14 rfl ?_
  refine gf_RX3_9_X3 C ce_22 rfl dX3_matters_15 ?_
  refine g_icmp_le C 25 dX3_matters_18 (by decide) (fun c4 => ?_) (fun c4 => ?_)
  · have h := h.1 c4
    refine g_iconst C 0 dX3_matters_25 (by decide) ?_
    refine g_sub (lv' := []) [] rfl ?_
    exact t_X3_matters_22_26 C hQ h
  · have h := h.2 c4
    refine g_iconst C 1 dX3_matters_21 (by decide) ?_
    refine g_goto C 26 dX3_matters_22 (by decide) ?_
    refine g_sub (lv' := []) [] rfl ?_
    exact t_X3_matters_22_26 C hQ h
/-! X3_note_22: rank 1 -/
def M_X3_note_22 (f : Sg) (Q : Sg → Prop) : Prop :=
  M_X6_breaks_9 f (fun r2 g1 => ∀ g3 : Sg, g3 = va_up g1 22 (upd (g1 22) 4 r2) → Q g3)
set_option maxHeartbeats 4000000 in
theorem c_X3_note_22 (l : Launch) (D : va_G) (a : Nat → Nat) (cI : ClassId) {f : Sg} {Q : Sg → Prop} (h : M_X3_note_22 f Q) : MV l D [(cI, .int)] (cw a cI) yX3_note cX3_note 1 (1) [.ref (a 22)] f Q := by
  refine mkV (cw_fix a cI) (by decide +kernel) (Nat.le_of_ble_eq_true rfl) (fun o C hQ => ?_)
  show Go o D (cw a cI) 0 [(0, .ref (a 22))] [] f
  unfold M_X3_note_22 at h
  refine g_aload_n C 0 dX3_note_0 rfl ?_
  refine g_aload_n C 0 dX3_note_1 rfl ?_
  refine gf_RX3_32_X3 C ce_22 rfl dX3_note_2 ?_
  refine g_callVi C (As := []) (st := [.ref (a 22)]) (fun l => c_X6_breaks_9 l D a cI h) cl_RX3_36_X6 rfl ce_9 (by omega) rfl (Nat.le_of_ble_eq_true rfl) dX3_note_5 (fun r2 g1 h => ?_)
  obtain ⟨g3, eg3⟩ : ∃ g : Sg, g = va_up g1 22 (upd (g1 22) 4 r2) := ⟨_, rfl⟩
  have h := h g3 eg3
  refine gp_RX3_9_X3 C rfl rfl ce_22 (Nat.le_of_ble_eq_true rfl) (g := g3) (by rw [eg3]; exact cs_22_4) dX3_note_8 ?_
  exact g_vret C hQ dX3_note_11 h
