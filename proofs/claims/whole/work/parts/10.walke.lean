/-! X9_row_0: rank 4 -/
def J_X9_row_0_9 (Q : Int32 → Sg → Prop) (f : Sg) : Prop :=
  Q (-2) f
def J_X9_row_0_88 (Q : Int32 → Sg → Prop) (f : Sg) (s0 : Int32) : Prop :=
  Q s0 f
def M_X9_row_0 (f : Sg) (x1 : Int32) (Q : Int32 → Sg → Prop) : Prop :=
  (x1 < 0 → J_X9_row_0_9 Q f) ∧ (¬ x1 < 0 → (x1 ≤ 2 → M_X4_hasAny_7 f (fun r4 g3 => (r4 = 0 → M_X9_walkPad_0 g3 (fun r7 g6 => (x1 = 0 → M_X6_breaks_9 g6 (fun r10 g9 => Q r10 g9)) ∧ (¬ x1 = 0 → (x1 = 1 → M_X6_firstBreak_9 g6 (fun r13 g12 => Q r13 g12)) ∧ (¬ x1 = 1 → M_X6_isOrder_9 g6 (fun r15 g14 => (r15 = 0 → J_X9_row_0_88 Q g14 (-6)) ∧ (¬ r15 = 0 → J_X9_row_0_88 Q g14 r7)))))) ∧ (¬ r4 = 0 → Q (-7) g3))) ∧ (¬ x1 ≤ 2 → J_X9_row_0_9 Q f))
set_option maxHeartbeats 4000000 in
theorem t_X9_row_0_9 {o : Om} {D : va_G} {a : Nat → Nat} {cI : ClassId} {Q : Int32 → Sg → Prop} (C : Cx o D [(cI, .int)] (cw a cI) RX9 cX9_row (some .int) 4 3) (hQ : RetI o D (cw a cI) Q) {f : Sg} (h : J_X9_row_0_9 Q f) : Go o D (cw a cI) 9 [] [] f := by
  unfold J_X9_row_0_9 at h
  refine g_bipush C (-2) dX9_row_9 (by decide) ?_
  exact g_iret C hQ dX9_row_11 h
set_option maxHeartbeats 4000000 in
theorem t_X9_row_0_88 {o : Om} {D : va_G} {a : Nat → Nat} {cI : ClassId} {Q : Int32 → Sg → Prop} (C : Cx o D [(cI, .int)] (cw a cI) RX9 cX9_row (some .int) 4 3) (hQ : RetI o D (cw a cI) Q) {f : Sg} {s0 : Int32} (h : J_X9_row_0_88 Q f s0) : Go o D (cw a cI) 88 [] [.int s0] f := by
  unfold J_X9_row_0_88 at h
  exact g_iret C hQ dX9_row_88 h
set_option maxHeartbeats 4000000 in
theorem c_X9_row_0 (l : Launch) (D : va_G) (a : Nat → Nat) (cI : ClassId) {f : Sg} {x1 : Int32} {Q : Int32 → Sg → Prop} (h : M_X9_row_0 f x1 Q) : MI l D [(cI, .int)] (cw a cI) yX9_row cX9_row 3 (some .int) (4) [.ref (a 0), .int x1] f Q := by
  refine mkI (cw_fix a cI) (by decide +kernel) (Nat.le_of_ble_eq_true rfl) (fun o C hQ => ?_)
  show Go o D (cw a cI) 0 [(0, .ref (a 0)), (1, .int x1)] [] f
  unfold M_X9_row_0 at h
  refine g_iload_n C 1 dX9_row_0 rfl ?_
  refine g_if_lt C 9 dX9_row_1 (by decide) (fun c1 => ?_) (fun c1 => ?_)
  · have h := h.1 c1
    refine g_sub (lv' := []) [] rfl ?_
    exact t_X9_row_0_9 C hQ h
  · have h := h.2 c1
    refine g_iload_n C 1 dX9_row_4 rfl ?_
    refine g_iconst C 2 dX9_row_5 (by decide) ?_
    refine g_icmp_le C 12 dX9_row_6 (by decide) (fun c2 => ?_) (fun c2 => ?_)
    · have h := h.1 c2
      refine g_aload_n C 0 dX9_row_12 rfl ?_
      refine gf_RX9_19_X9 C ce_0 rfl dX9_row_13 ?_
      refine g_callVi C (As := []) (st := []) (fun l => c_X4_hasAny_7 l D a cI h) cl_RX9_172_X4 rfl ce_7 (by omega) rfl (Nat.le_of_ble_eq_true rfl) dX9_row_16 (fun r4 g3 h => ?_)
      refine g_if_eq C 25 dX9_row_19 (by decide) (fun c5 => ?_) (fun c5 => ?_)
      · have h := h.1 c5
        refine g_aload_n C 0 dX9_row_25 rfl ?_
        refine g_callVi C (As := []) (st := []) (fun l => c_X9_walkPad_0 l D a cI h) cl_RX9_176_X9 rfl ce_0 (by omega) rfl (Nat.le_of_ble_eq_true rfl) dX9_row_26 (fun r7 g6 h => ?_)
        refine g_istore_n (lv' := [(2, .int r7), (0, .ref (a 0)), (1, .int x1)]) C dX9_row_29 (by decide) rfl ?_
        refine g_iload_n C 2 dX9_row_30 rfl ?_
        by_cases e8 : x1 = 0
        · have h := h.1 e8
          refine g_look C 56 dX9_row_31 (by decide) (by rw [e8] <;> rfl) (by decide) ?_
          refine g_aload_n C 1 dX9_row_56 rfl ?_
          refine gf_RX9_28_X9 C ce_0 rfl dX9_row_57 ?_
          refine g_callVi C (As := []) (st := []) (fun l => c_X6_breaks_9 l D a cI h) cl_RX9_151_X6 rfl ce_9 (by omega) rfl (Nat.le_of_ble_eq_true rfl) dX9_row_60 (fun r10 g9 h => ?_)
          exact g_iret C hQ dX9_row_63 h
        · have h := h.2 e8
          by_cases e11 : x1 = 1
          · have h := h.1 e11
            refine g_look C 64 dX9_row_31 (by decide) (by rw [e11] <;> rfl) (by decide) ?_
            refine g_aload_n C 1 dX9_row_64 rfl ?_
            refine gf_RX9_28_X9 C ce_0 rfl dX9_row_65 ?_
            refine g_callVi C (As := []) (st := []) (fun l => c_X6_firstBreak_9 l D a cI h) cl_RX9_179_X6 rfl ce_9 (by omega) rfl (Nat.le_of_ble_eq_true rfl) dX9_row_68 (fun r13 g12 h => ?_)
            exact g_iret C hQ dX9_row_71 h
          · have h := h.2 e11
            have qe8 : ¬ (x1 : Int32).toInt = 0 := i32_ne_toInt (c := 0) (by decide) e8
            have qe11 : ¬ (x1 : Int32).toInt = 1 := i32_ne_toInt (c := 1) (by decide) e11
            refine g_look C 72 dX9_row_31 (by decide) (off := 41) (by simp [Op.lookupswitch.offset, qe8, qe11, Ne.symm qe8, Ne.symm qe11]) (by decide) ?_
            refine g_aload_n C 1 dX9_row_72 rfl ?_
            refine gf_RX9_28_X9 C ce_0 rfl dX9_row_73 ?_
            refine g_callVi C (As := []) (st := []) (fun l => c_X6_isOrder_9 l D a cI h) cl_RX9_182_X6 rfl ce_9 (by omega) rfl (Nat.le_of_ble_eq_true rfl) dX9_row_76 (fun r15 g14 h => ?_)
            refine g_if_eq C 86 dX9_row_79 (by decide) (fun c16 => ?_) (fun c16 => ?_)
            · have h := h.1 c16
              refine g_bipush C (-6) dX9_row_86 (by decide) ?_
              refine g_sub (lv' := []) [] rfl ?_
              exact t_X9_row_0_88 C hQ h
            · have h := h.2 c16
              refine g_iload_n C 0 dX9_row_82 rfl ?_
              refine g_goto C 88 dX9_row_83 (by decide) ?_
              refine g_sub (lv' := []) [] rfl ?_
              exact t_X9_row_0_88 C hQ h
      · have h := h.2 c5
        refine g_bipush C (-7) dX9_row_22 (by decide) ?_
        exact g_iret C hQ dX9_row_24 h
    · have h := h.2 c2
      refine g_sub (lv' := []) [] rfl ?_
      exact t_X9_row_0_9 C hQ h
/-! X1_begin_24: rank 0 -/
def M_X1_begin_24 (f : Sg) (Q : Sg → Prop) : Prop :=
  ∀ g1 : Sg, g1 = va_up f 24 (upd (f 24) 6 0) → Q g1
set_option maxHeartbeats 4000000 in
theorem c_X1_begin_24 (l : Launch) (D : va_G) (a : Nat → Nat) (cI : ClassId) {f : Sg} {Q : Sg → Prop} (h : M_X1_begin_24 f Q) : MV l D [(cI, .int)] (cw a cI) yX1_begin cX1_begin 1 (0) [.ref (a 24)] f Q := by
  refine mkV (cw_fix a cI) (by decide +kernel) (Nat.le_of_ble_eq_true rfl) (fun o C hQ => ?_)
  show Go o D (cw a cI) 0 [(0, .ref (a 24))] [] f
  unfold M_X1_begin_24 at h
  refine g_aload_n C 0 dX1_begin_0 rfl ?_
  refine g_iconst C 0 dX1_begin_1 (by decide) ?_
  obtain ⟨g1, eg1⟩ : ∃ g : Sg, g = va_up f 24 (upd (f 24) 6 0) := ⟨_, rfl⟩
  have h := h g1 eg1
  refine gp_RX1_15_X1 C rfl rfl ce_24 (Nat.le_of_ble_eq_true rfl) (g := g1) (by rw [eg1]; exact cs_24_6) dX1_begin_2 ?_
  exact g_vret C hQ dX1_begin_5 h
/-! X4_allows_7: rank 1 -/
def J_X4_allows_7_21 (Q : Int32 → Sg → Prop) (f : Sg) (s0 : Int32) : Prop :=
  narrow .boolean (.int s0) = .int s0 ∧ Q s0 f
def J_X4_allows_7_16 (Q : Int32 → Sg → Prop) (f : Sg) : Prop :=
  J_X4_allows_7_21 Q f 1
def M_X4_allows_7 (f : Sg) (x1 : Int32) (x2 : Int32) (Q : Int32 → Sg → Prop) : Prop :=
  M_X4_signAt_7 f x1 (fun r2 g1 => (r2 = (-1) → J_X4_allows_7_16 Q g1) ∧ (¬ r2 = (-1) → (r2 = x2 → J_X4_allows_7_16 Q g1) ∧ (¬ r2 = x2 → J_X4_allows_7_21 Q g1 0)))
set_option maxHeartbeats 4000000 in
theorem t_X4_allows_7_21 {o : Om} {D : va_G} {a : Nat → Nat} {cI : ClassId} {Q : Int32 → Sg → Prop} (C : Cx o D [(cI, .int)] (cw a cI) RX4 cX4_allows (some .boolean) 1 4) (hQ : RetI o D (cw a cI) Q) {f : Sg} {s0 : Int32} (h : J_X4_allows_7_21 Q f s0) : Go o D (cw a cI) 21 [] [.int s0] f := by
  unfold J_X4_allows_7_21 at h
  exact g_zret C hQ h.1 dX4_allows_21 h.2
set_option maxHeartbeats 4000000 in
theorem t_X4_allows_7_16 {o : Om} {D : va_G} {a : Nat → Nat} {cI : ClassId} {Q : Int32 → Sg → Prop} (C : Cx o D [(cI, .int)] (cw a cI) RX4 cX4_allows (some .boolean) 1 4) (hQ : RetI o D (cw a cI) Q) {f : Sg} (h : J_X4_allows_7_16 Q f) : Go o D (cw a cI) 16 [] [] f := by
  unfold J_X4_allows_7_16 at h
  refine g_iconst C 1 dX4_allows_16 (by decide) ?_
  refine g_goto C 21 dX4_allows_17 (by decide) ?_
  refine g_sub (lv' := []) [] rfl ?_
  exact t_X4_allows_7_21 C hQ h
set_option maxHeartbeats 4000000 in
theorem c_X4_allows_7 (l : Launch) (D : va_G) (a : Nat → Nat) (cI : ClassId) {f : Sg} {x1 : Int32} {x2 : Int32} {Q : Int32 → Sg → Prop} (h : M_X4_allows_7 f x1 x2 Q) : MI l D [(cI, .int)] (cw a cI) yX4_allows cX4_allows 4 (some .boolean) (1) [.ref (a 7), .int x1, .int x2] f Q := by
  refine mkI (cw_fix a cI) (by decide +kernel) (Nat.le_of_ble_eq_true rfl) (fun o C hQ => ?_)
  show Go o D (cw a cI) 0 [(0, .ref (a 7)), (1, .int x1), (2, .int x2)] [] f
  unfold M_X4_allows_7 at h
  refine g_aload_n C 0 dX4_allows_0 rfl ?_
  refine g_iload_n C 1 dX4_allows_1 rfl ?_
  refine g_callVi C (As := [.int x1]) (st := []) (fun l => c_X4_signAt_7 l D a cI h) cl_RX4_19_X4 rfl ce_7 (by omega) rfl (Nat.le_of_ble_eq_true rfl) dX4_allows_2 (fun r2 g1 h => ?_)
  refine g_istore_n (lv' := [(3, .int r2), (0, .ref (a 7)), (1, .int x1), (2, .int x2)]) C dX4_allows_5 (by decide) rfl ?_
  refine g_iload_n C 0 dX4_allows_6 rfl ?_
  refine g_iconst C (-1) dX4_allows_7 (by decide) ?_
  refine g_icmp_eq C 16 dX4_allows_8 (by decide) (fun c3 => ?_) (fun c3 => ?_)
  · have h := h.1 c3
    refine g_sub (lv' := []) [] rfl ?_
    exact t_X4_allows_7_16 C hQ h
  · have h := h.2 c3
    refine g_iload_n C 0 dX4_allows_11 rfl ?_
    refine g_iload_n C 3 dX4_allows_12 rfl ?_
    refine g_icmp_ne C 20 dX4_allows_13 (by decide) (fun c4 => ?_) (fun c4 => ?_)
    · have h := h.2 c4
      refine g_iconst C 0 dX4_allows_20 (by decide) ?_
      refine g_sub (lv' := []) [] rfl ?_
      exact t_X4_allows_7_21 C hQ h
    · have h := h.1 c4
      refine g_sub (lv' := []) [] rfl ?_
      exact t_X4_allows_7_16 C hQ h
/-! X1_matters_24: rank 2 -/
def J_X1_matters_24_24 (Q : Int32 → Sg → Prop) (f : Sg) : Prop :=
  Q 0 f
def J_X1_matters_24_59 (Q : Int32 → Sg → Prop) (f : Sg) (s0 : Int32) : Prop :=
  narrow .boolean (.int s0) = .int s0 ∧ Q s0 f
def J_X1_matters_24_54 (Q : Int32 → Sg → Prop) (f : Sg) : Prop :=
  J_X1_matters_24_59 Q f 1
def M_X1_matters_24 (f : Sg) (x1 : Int32) (Q : Int32 → Sg → Prop) : Prop :=
  ((f 7 1) = (f 24 2) → M_X6_breaks_9 f (fun r3 g2 => (r3 ≤ 0 → (x1 = 0 → J_X1_matters_24_54 Q g2) ∧ (¬ x1 = 0 → vp_in (x1 - 1) 9 ∧ M_X4_allows_7 g2 (x1 - 1) (g2 10 (x1 - 1 : Int32).toNatClampNeg) (fun r8 g7 => (r8 = 0 → J_X1_matters_24_59 Q g7 0) ∧ (¬ r8 = 0 → J_X1_matters_24_54 Q g7)))) ∧ (¬ r3 ≤ 0 → J_X1_matters_24_24 Q g2))) ∧ (¬ (f 7 1) = (f 24 2) → J_X1_matters_24_24 Q f)
set_option maxHeartbeats 4000000 in
theorem t_X1_matters_24_24 {o : Om} {D : va_G} {a : Nat → Nat} {cI : ClassId} {Q : Int32 → Sg → Prop} (C : Cx o D [(cI, .int)] (cw a cI) RX1 cX1_matters (some .boolean) 2 2) (hQ : RetI o D (cw a cI) Q) {f : Sg} (h : J_X1_matters_24_24 Q f) : Go o D (cw a cI) 24 [] [] f := by
  unfold J_X1_matters_24_24 at h
  refine g_iconst C 0 dX1_matters_24 (by decide) ?_
  exact g_zret C hQ rfl dX1_matters_25 h
set_option maxHeartbeats 4000000 in
theorem t_X1_matters_24_59 {o : Om} {D : va_G} {a : Nat → Nat} {cI : ClassId} {Q : Int32 → Sg → Prop} (C : Cx o D [(cI, .int)] (cw a cI) RX1 cX1_matters (some .boolean) 2 2) (hQ : RetI o D (cw a cI) Q) {f : Sg} {s0 : Int32} (h : J_X1_matters_24_59 Q f s0) : Go o D (cw a cI) 59 [] [.int s0] f := by
  unfold J_X1_matters_24_59 at h
  exact g_zret C hQ h.1 dX1_matters_59 h.2
set_option maxHeartbeats 4000000 in
theorem t_X1_matters_24_54 {o : Om} {D : va_G} {a : Nat → Nat} {cI : ClassId} {Q : Int32 → Sg → Prop} (C : Cx o D [(cI, .int)] (cw a cI) RX1 cX1_matters (some .boolean) 2 2) (hQ : RetI o D (cw a cI) Q) {f : Sg} (h : J_X1_matters_24_54 Q f) : Go o D (cw a cI) 54 [] [] f := by
  unfold J_X1_matters_24_54 at h
  refine g_iconst C 1 dX1_matters_54 (by decide) ?_
  refine g_goto C 59 dX1_matters_55 (by decide) ?_
  refine g_sub (lv' := []) [] rfl ?_
  exact t_X1_matters_24_59 C hQ h
set_option maxHeartbeats 4000000 in
theorem c_X1_matters_24 (l : Launch) (D : va_G) (a : Nat → Nat) (cI : ClassId) {f : Sg} {x1 : Int32} {Q : Int32 → Sg → Prop} (h : M_X1_matters_24 f x1 Q) : MI l D [(cI, .int)] (cw a cI) yX1_matters cX1_matters 2 (some .boolean) (2) [.ref (a 24), .int x1] f Q := by
  refine mkI (cw_fix a cI) (by decide +kernel) (Nat.le_of_ble_eq_true rfl) (fun o C hQ => ?_)
  show Go o D (cw a cI) 0 [(0, .ref (a 24)), (1, .int x1)] [] f
  unfold M_X1_matters_24 at h
  refine g_aload_n C 0 dX1_matters_0 rfl ?_
  refine gf_RX1_19_X1 C ce_24 rfl dX1_matters_1 ?_
  refine gf_RX1_23_X4 C ce_7 rfl dX1_matters_4 ?_
  refine g_aload_n C 0 dX1_matters_7 rfl ?_
  refine gf_RX1_28_X1 C ce_24 rfl dX1_matters_8 ?_
  refine g_icmp_ne C 24 dX1_matters_11 (by decide) (fun c1 => ?_) (fun c1 => ?_)
  · have h := h.2 c1
    refine g_sub (lv' := []) [] rfl ?_
    exact t_X1_matters_24_24 C hQ h
  · have h := h.1 c1
    refine g_aload_n C 0 dX1_matters_14 rfl ?_
    refine gf_RX1_31_X1 C ce_24 rfl dX1_matters_15 ?_
    refine g_callVi C (As := []) (st := []) (fun l => c_X6_breaks_9 l D a cI h) cl_RX1_35_X6 rfl ce_9 (by omega) rfl (Nat.le_of_ble_eq_true rfl) dX1_matters_18 (fun r3 g2 h => ?_)
    refine g_if_le C 26 dX1_matters_21 (by decide) (fun c4 => ?_) (fun c4 => ?_)
    · have h := h.1 c4
      refine g_iload_n C 1 dX1_matters_26 rfl ?_
      refine g_if_eq C 54 dX1_matters_27 (by decide) (fun c5 => ?_) (fun c5 => ?_)
      · have h := h.1 c5
        refine g_sub (lv' := []) [] rfl ?_
        exact t_X1_matters_24_54 C hQ h
      · have h := h.2 c5
        refine g_aload_n C 0 dX1_matters_30 rfl ?_
        refine gf_RX1_19_X1 C ce_24 rfl dX1_matters_31 ?_
        refine g_iload_n C 1 dX1_matters_34 rfl ?_
        refine g_iconst C 1 dX1_matters_35 (by decide) ?_
        refine g_isub C dX1_matters_36 ?_
        refine g_aload_n C 0 dX1_matters_37 rfl ?_
        refine gf_RX1_31_X1 C ce_24 rfl dX1_matters_38 ?_
        refine gf_RX1_41_X6 C ce_9 rfl dX1_matters_41 ?_
        refine g_iload_n C 1 dX1_matters_44 rfl ?_
        refine g_iconst C 1 dX1_matters_45 (by decide) ?_
        refine g_isub C dX1_matters_46 ?_
        obtain ⟨hi6, h⟩ := h
        refine g_iald C 0 ce_10 rfl hi6 dX1_matters_47 ?_
        refine g_callVi C (As := [.int (x1 - 1), .int (g2 10 (x1 - 1 : Int32).toNatClampNeg)]) (st := []) (fun l => c_X4_allows_7 l D a cI h) cl_RX1_44_X4 rfl ce_7 (by omega) rfl (Nat.le_of_ble_eq_true rfl) dX1_matters_48 (fun r8 g7 h => ?_)
        refine g_if_eq C 58 dX1_matters_51 (by decide) (fun c9 => ?_) (fun c9 => ?_)
        · have h := h.1 c9
          refine g_iconst C 0 dX1_matters_58 (by decide) ?_
          refine g_sub (lv' := []) [] rfl ?_
          exact t_X1_matters_24_59 C hQ h
        · have h := h.2 c9
          refine g_sub (lv' := []) [] rfl ?_
          exact t_X1_matters_24_54 C hQ h
    · have h := h.2 c4
      refine g_sub (lv' := []) [] rfl ?_
      exact t_X1_matters_24_24 C hQ h
/-! X8_keepRow_24_25: rank 1 -/
def M_X8_keepRow_24_25 (f : Sg) (Q : Sg → Prop) : Prop :=
  ∀ g1 : Sg, g1 = va_up f 25 (va_cpy (f 10) (f 25) (0 : Int32).toNatClampNeg (0 : Int32).toNatClampNeg (9 : Int32).toNatClampNeg) → Q g1
set_option maxHeartbeats 4000000 in
theorem c_X8_keepRow_24_25 (l : Launch) (D : va_G) (a : Nat → Nat) (cI : ClassId) {f : Sg} {Q : Sg → Prop} (h : M_X8_keepRow_24_25 f Q) : MV l D [(cI, .int)] (cw a cI) yX8_keepRow cX8_keepRow 2 (1) [.ref (a 24), .ref (a 25)] f Q := by
  refine mkV (cw_fix a cI) (by decide +kernel) (Nat.le_of_ble_eq_true rfl) (fun o C hQ => ?_)
  show Go o D (cw a cI) 0 [(0, .ref (a 24)), (1, .ref (a 25))] [] f
  unfold M_X8_keepRow_24_25 at h
  refine g_aload_n C 0 dX8_keepRow_0 rfl ?_
  refine gf_RX8_23_X1 C ce_24 rfl dX8_keepRow_1 ?_
  refine gf_RX8_61_X6 C ce_9 rfl dX8_keepRow_4 ?_
  refine g_iconst C 0 dX8_keepRow_7 (by decide) ?_
  refine g_aload_n C 1 dX8_keepRow_8 rfl ?_
  refine g_iconst C 0 dX8_keepRow_9 (by decide) ?_
  refine g_bipush C 9 dX8_keepRow_10 (by decide) ?_
  obtain ⟨g1, eg1⟩ : ∃ g : Sg, g = va_up f 25 (va_cpy (f 10) (f 25) (0 : Int32).toNatClampNeg (0 : Int32).toNatClampNeg (9 : Int32).toNatClampNeg) := ⟨_, rfl⟩
  have h := h g1 eg1
  refine g_copy C (by omega) tb_461 tb_371 tb_370 tb_13 0 ce_10 ce_25 rfl (by decide) (by decide) (by decide) (by decide) (by decide) (Nat.le_of_ble_eq_true rfl) (g := g1) (by rw [eg1]; exact cs_25) dX8_keepRow_12 ?_
  exact g_vret C hQ dX8_keepRow_15 h
/-! X1_note_24: rank 2 -/
def J_X1_note_24_15 (Q : Sg → Prop) (f : Sg) : Prop :=
  ∀ g2 : Sg, g2 = va_up f 24 (upd (f 24) 6 ((f 24 6) + 1)) → Q g2
def M_X1_note_24 (f : Sg) (Q : Sg → Prop) : Prop :=
  ((f 24 6) = 0 → M_X8_keepRow_24_25 f (fun g3 => J_X1_note_24_15 Q g3)) ∧ (¬ (f 24 6) = 0 → J_X1_note_24_15 Q f)
set_option maxHeartbeats 4000000 in
theorem t_X1_note_24_15 {o : Om} {D : va_G} {a : Nat → Nat} {cI : ClassId} {Q : Sg → Prop} (C : Cx o D [(cI, .int)] (cw a cI) RX1 cX1_note none 2 1) (hQ : RetV o D (cw a cI) Q) {f : Sg} (h : J_X1_note_24_15 Q f) : Go o D (cw a cI) 15 [(0, .ref (a 24))] [] f := by
  unfold J_X1_note_24_15 at h
  refine g_aload_n C 0 dX1_note_15 rfl ?_
  refine g_dup C dX1_note_16 rfl ?_
  refine gf_RX1_15_X1 C ce_24 rfl dX1_note_17 ?_
  refine g_iconst C 1 dX1_note_20 (by decide) ?_
  refine g_iadd C dX1_note_21 ?_
  obtain ⟨g2, eg2⟩ : ∃ g : Sg, g = va_up f 24 (upd (f 24) 6 ((f 24 6) + 1)) := ⟨_, rfl⟩
  have h := h g2 eg2
  refine gp_RX1_15_X1 C rfl rfl ce_24 (Nat.le_of_ble_eq_true rfl) (g := g2) (by rw [eg2]; exact cs_24_6) dX1_note_22 ?_
  exact g_vret C hQ dX1_note_25 h
set_option maxHeartbeats 4000000 in
theorem c_X1_note_24 (l : Launch) (D : va_G) (a : Nat → Nat) (cI : ClassId) {f : Sg} {Q : Sg → Prop} (h : M_X1_note_24 f Q) : MV l D [(cI, .int)] (cw a cI) yX1_note cX1_note 1 (2) [.ref (a 24)] f Q := by
  refine mkV (cw_fix a cI) (by decide +kernel) (Nat.le_of_ble_eq_true rfl) (fun o C hQ => ?_)
  show Go o D (cw a cI) 0 [(0, .ref (a 24))] [] f
  unfold M_X1_note_24 at h
  refine g_aload_n C 0 dX1_note_0 rfl ?_
  refine gf_RX1_15_X1 C ce_24 rfl dX1_note_1 ?_
  refine g_if_ne C 15 dX1_note_4 (by decide) (fun c1 => ?_) (fun c1 => ?_)
  · have h := h.2 c1
    refine g_sub (lv' := [(0, .ref (a 24))]) [0] rfl ?_
    exact t_X1_note_24_15 C hQ h
  · have h := h.1 c1
    refine g_aload_n C 0 dX1_note_7 rfl ?_
    refine g_aload_n C 0 dX1_note_8 rfl ?_
    refine gf_RX1_9_X1 C ce_24 rfl dX1_note_9 ?_
    refine g_callUv C (As := [.ref (a 25)]) (st := []) (fun l => c_X8_keepRow_24_25 l D a cI h) cl_RX1_48_X1 rfl ce_24 (by omega) rfl (Nat.le_of_ble_eq_true rfl) dX1_note_12 (fun g3 h => ?_)
    refine g_sub (lv' := [(0, .ref (a 24))]) [0] rfl ?_
    exact t_X1_note_24_15 C hQ h
/-! X8_goOn_24: rank 2 -/
def J_X8_goOn_24_63 (Rc : Sg → Int32 → (Sg → Prop) → Prop) (Q : Sg → Prop) (K24 : Sg → Int32 → Int32 → Prop) (f : Sg) (x1 : Int32) (x2 : Int32) : Prop :=
  K24 f x1 (x2 + 1)
def B_X8_goOn_24_24 (Rc : Sg → Int32 → (Sg → Prop) → Prop) (Q : Sg → Prop) (K24 : Sg → Int32 → Int32 → Prop) (f : Sg) (x1 : Int32) (x2 : Int32) : Prop :=
  (5 ≤ x2 → Q f) ∧ (¬ 5 ≤ x2 → vp_in x2 5 ∧ ((f 13 (x2 : Int32).toNatClampNeg) ≤ 0 → J_X8_goOn_24_63 Rc Q K24 f x1 x2) ∧ (¬ (f 13 (x2 : Int32).toNatClampNeg) ≤ 0 → M_X6_put_9 f x2 (fun g8 => Rc g8 (x1 + 1) (fun g10 => M_X6_drop_9 g10 (fun g12 => J_X8_goOn_24_63 Rc Q K24 g12 x1 x2)))))
def E_X8_goOn_24 (Rc : Sg → Int32 → (Sg → Prop) → Prop) (f : Sg) (x1 : Int32) (Q : Sg → Prop) : Prop :=
  M_X1_matters_24 f x1 (fun r2 g1 => (r2 = 0 → Q g1) ∧ (¬ r2 = 0 → (x1 < (g1 24 2) → ∃ n : Nat, itr2 (B_X8_goOn_24_24 Rc Q) n g1 x1 0) ∧ (¬ x1 < (g1 24 2) → M_X1_note_24 g1 (fun g14 => Q g14))))
def M_X8_goOn_24 : Nat → Sg → Int32 → (Sg → Prop) → Prop
  | 0 => fun _ _ _ => False
  | d + 1 => E_X8_goOn_24 (M_X8_goOn_24 d)
set_option maxHeartbeats 4000000 in
theorem t_X8_goOn_24_63 {o : Om} {D : va_G} {a : Nat → Nat} {cI : ClassId} {d : Nat} {Rc : Sg → Int32 → (Sg → Prop) → Prop} {Q : Sg → Prop} {K24 : Sg → Int32 → Int32 → Prop} (C : Cx o D [(cI, .int)] (cw a cI) RX8 cX8_goOn none (2 + d + 1) 3) (hQ : RetV o D (cw a cI) Q) (hRc : ∀ (l : Launch) (g : Sg) (y0 : Int32) (Qr : Sg → Prop), Rc g y0 Qr → MV l D [(cI, .int)] (cw a cI) yX8_goOn cX8_goOn 3 (2 + d) [.ref (a 24), .int y0] g Qr) (hK24 : ∀ (g : Sg) (x1 : Int32) (x2 : Int32), K24 g x1 x2 → Go o D (cw a cI) 24 [(0, .ref (a 24)), (1, .int x1), (2, .int x2)] [] g) {f : Sg} {x1 : Int32} {x2 : Int32} (h : J_X8_goOn_24_63 Rc Q K24 f x1 x2) : Go o D (cw a cI) 63 [(0, .ref (a 24)), (1, .int x1), (2, .int x2)] [] f := by
  unfold J_X8_goOn_24_63 at h
  refine g_iinc (lv' := [(2, .int (x2 + 1)), (0, .ref (a 24)), (1, .int x1)]) C 2 dX8_goOn_63 rfl rfl (by decide) rfl ?_
  refine g_goto C 24 dX8_goOn_66 (by decide) ?_
  refine g_sub (lv' := [(0, .ref (a 24)), (1, .int x1), (2, .int (x2 + 1))]) [1, 2, 0] rfl ?_
  exact hK24 f x1 (x2 + 1) h
set_option maxHeartbeats 4000000 in
theorem t_X8_goOn_24_24 {o : Om} {D : va_G} {a : Nat → Nat} {cI : ClassId} {d : Nat} {Rc : Sg → Int32 → (Sg → Prop) → Prop} {Q : Sg → Prop} (C : Cx o D [(cI, .int)] (cw a cI) RX8 cX8_goOn none (2 + d + 1) 3) (hQ : RetV o D (cw a cI) Q) (hRc : ∀ (l : Launch) (g : Sg) (y0 : Int32) (Qr : Sg → Prop), Rc g y0 Qr → MV l D [(cI, .int)] (cw a cI) yX8_goOn cX8_goOn 3 (2 + d) [.ref (a 24), .int y0] g Qr) : ∀ (n : Nat) (f : Sg) (x1 : Int32) (x2 : Int32), itr2 (B_X8_goOn_24_24 Rc Q) n f x1 x2 → Go o D (cw a cI) 24 [(0, .ref (a 24)), (1, .int x1), (2, .int x2)] [] f := by
  intro n
  induction n with
  | zero => intro f x1 x2 h; exact h.elim
  | succ n ih =>
    intro f x1 x2 h
    have h : B_X8_goOn_24_24 Rc Q (itr2 (B_X8_goOn_24_24 Rc Q) n) f x1 x2 := h
    have hK24 := ih
    generalize itr2 (B_X8_goOn_24_24 Rc Q) n = K24 at h hK24
    clear ih
    unfold B_X8_goOn_24_24 at h
    refine g_iload_n C 2 dX8_goOn_24 rfl ?_
    refine g_iconst C 5 dX8_goOn_25 (by decide) ?_
    refine g_icmp_ge C 69 dX8_goOn_26 (by decide) (fun c5 => ?_) (fun c5 => ?_)
    · have h := h.1 c5
      exact g_vret C hQ dX8_goOn_69 h
    · have h := h.2 c5
      refine g_aload_n C 0 dX8_goOn_29 rfl ?_
      refine gf_RX8_23_X1 C ce_24 rfl dX8_goOn_30 ?_
      refine gf_RX8_51_X6 C ce_9 rfl dX8_goOn_33 ?_
      refine g_iload_n C 2 dX8_goOn_36 rfl ?_
      obtain ⟨hi6, h⟩ := h
      refine g_iald C 0 ce_13 rfl hi6 dX8_goOn_37 ?_
      refine g_if_le C 63 dX8_goOn_38 (by decide) (fun c7 => ?_) (fun c7 => ?_)
      · have h := h.1 c7
        refine g_sub (lv' := [(0, .ref (a 24)), (1, .int x1), (2, .int x2)]) [0, 1, 2] rfl ?_
        exact t_X8_goOn_24_63 C hQ hRc hK24 h
      · have h := h.2 c7
        refine g_aload_n C 0 dX8_goOn_41 rfl ?_
        refine gf_RX8_23_X1 C ce_24 rfl dX8_goOn_42 ?_
        refine g_iload_n C 2 dX8_goOn_45 rfl ?_
        refine g_callVv C (As := [.int x2]) (st := []) (fun l => c_X6_put_9 l D a cI h) cl_RX8_55_X6 rfl ce_9 (by omega) rfl (Nat.le_of_ble_eq_true rfl) dX8_goOn_46 (fun g8 h => ?_)
        refine g_aload_n C 0 dX8_goOn_49 rfl ?_
        refine g_iload_n C 1 dX8_goOn_50 rfl ?_
        refine g_iconst C 1 dX8_goOn_51 (by decide) ?_
        refine g_iadd C dX8_goOn_52 ?_
        refine g_callUv C (As := [.int (x1 + 1)]) (st := []) (fun l => hRc l g8 (x1 + 1) _ h) cl_RX8_40_X1 rfl ce_24 (by omega) rfl (Nat.le_of_ble_eq_true rfl) dX8_goOn_53 (fun g10 h => ?_)
        refine g_aload_n C 0 dX8_goOn_56 rfl ?_
        refine gf_RX8_23_X1 C ce_24 rfl dX8_goOn_57 ?_
        refine g_callVv C (As := []) (st := []) (fun l => c_X6_drop_9 l D a cI h) cl_RX8_58_X6 rfl ce_9 (by omega) rfl (Nat.le_of_ble_eq_true rfl) dX8_goOn_60 (fun g12 h => ?_)
        refine g_sub (lv' := [(0, .ref (a 24)), (1, .int x1), (2, .int x2)]) [0, 1, 2] rfl ?_
        exact t_X8_goOn_24_63 C hQ hRc hK24 h
set_option maxHeartbeats 4000000 in
theorem c_X8_goOn_24 (l : Launch) (D : va_G) (a : Nat → Nat) (cI : ClassId) : ∀ (d : Nat) {f : Sg} {x1 : Int32} {Q : Sg → Prop}, M_X8_goOn_24 d f x1 Q → MV l D [(cI, .int)] (cw a cI) yX8_goOn cX8_goOn 3 (2 + d) [.ref (a 24), .int x1] f Q := by
  intro d
  induction d generalizing l with
  | zero => intro f x1 Q h; exact h.elim
  | succ d ih =>
    intro f x1 Q h
    have h : E_X8_goOn_24 (M_X8_goOn_24 d) f x1 Q := h
    have hRc : ∀ (l : Launch) (g : Sg) (y0 : Int32) (Qr : Sg → Prop), M_X8_goOn_24 d g y0 Qr → MV l D [(cI, .int)] (cw a cI) yX8_goOn cX8_goOn 3 (2 + d) [.ref (a 24), .int y0] g Qr := fun l g y0 Qr h => ih l h
    generalize M_X8_goOn_24 d = Rc at h hRc
    clear ih
    refine mkV (cw_fix a cI) (by decide +kernel) (Nat.le_of_ble_eq_true rfl) (fun o C hQ => ?_)
    show Go o D (cw a cI) 0 [(0, .ref (a 24)), (1, .int x1)] [] f
    unfold E_X8_goOn_24 at h
    refine g_aload_n C 0 dX8_goOn_0 rfl ?_
    refine g_iload_n C 1 dX8_goOn_1 rfl ?_
    refine g_callUi C (As := [.int x1]) (st := []) (fun l => c_X1_matters_24 l D a cI h) cl_RX8_44_X1 rfl ce_24 (by omega) rfl (Nat.le_of_ble_eq_true rfl) dX8_goOn_2 (fun r2 g1 h => ?_)
    refine g_if_ne C 9 dX8_goOn_5 (by decide) (fun c3 => ?_) (fun c3 => ?_)
    · have h := h.2 c3
      refine g_iload_n C 1 dX8_goOn_9 rfl ?_
      refine g_aload_n C 0 dX8_goOn_10 rfl ?_
      refine gf_RX8_9_X1 C ce_24 rfl dX8_goOn_11 ?_
      refine g_icmp_lt C 22 dX8_goOn_14 (by decide) (fun c4 => ?_) (fun c4 => ?_)
      · have h := h.1 c4
        refine g_iconst C 0 dX8_goOn_22 (by decide) ?_
        refine g_istore_n (lv' := [(2, .int 0), (0, .ref (a 24)), (1, .int x1)]) C dX8_goOn_23 (by decide) rfl ?_
        refine g_sub (lv' := [(0, .ref (a 24)), (1, .int x1), (2, .int 0)]) [1, 2, 0] rfl ?_
        obtain ⟨n, h⟩ := h
        exact t_X8_goOn_24_24 C hQ hRc n g1 x1 0 h
      · have h := h.2 c4
        refine g_aload_n C 0 dX8_goOn_17 rfl ?_
        refine g_callUv C (As := []) (st := []) (fun l => c_X1_note_24 l D a cI h) cl_RX8_48_X1 rfl ce_24 (by omega) rfl (Nat.le_of_ble_eq_true rfl) dX8_goOn_18 (fun g14 h => ?_)
        exact g_vret C hQ dX8_goOn_21 h
    · have h := h.1 c3
      exact g_vret C hQ dX8_goOn_8 h
/-! X8_refresh_24: rank 15 -/
def M_X8_refresh_24 (f : Sg) (Q : Sg → Prop) : Prop :=
  ((f 24 3) = 0 → M_X5_cars_1 f (fun r3 g2 => ∀ g4 : Sg, g4 = va_up g2 24 (upd (g2 24) 2 r3) → M_X1_begin_24 g4 (fun g5 => M_X6_start_9 g5 (fun g7 => M_X8_goOn_24 12 g7 0 (fun g9 => ∀ g11 : Sg, g11 = va_up g9 24 (upd (g9 24) 3 1) → Q g11))))) ∧ (¬ (f 24 3) = 0 → Q f)
set_option maxHeartbeats 4000000 in
theorem c_X8_refresh_24 (l : Launch) (D : va_G) (a : Nat → Nat) (cI : ClassId) {f : Sg} {Q : Sg → Prop} (h : M_X8_refresh_24 f Q) : MV l D [(cI, .int)] (cw a cI) yX8_refresh cX8_refresh 1 (15) [.ref (a 24)] f Q := by
  refine mkV (cw_fix a cI) (by decide +kernel) (Nat.le_of_ble_eq_true rfl) (fun o C hQ => ?_)
  show Go o D (cw a cI) 0 [(0, .ref (a 24))] [] f
  unfold M_X8_refresh_24 at h
  refine g_aload_n C 0 dX8_refresh_0 rfl ?_
  refine gf_RX8_15_X1 C ce_24 rfl dX8_refresh_1 ?_
  refine g_if_eq C 8 dX8_refresh_4 (by decide) (fun c1 => ?_) (fun c1 => ?_)
  · have h := h.1 c1
    refine g_aload_n C 0 dX8_refresh_8 rfl ?_
    refine g_aload_n C 0 dX8_refresh_9 rfl ?_
    refine gf_RX8_19_X1 C ce_24 rfl dX8_refresh_10 ?_
    refine g_callVi C (As := []) (st := [.ref (a 24)]) (fun l => c_X5_cars_1 l D a cI h) cl_RX8_27_X5 rfl ce_1 (by omega) rfl (Nat.le_of_ble_eq_true rfl) dX8_refresh_13 (fun r3 g2 h => ?_)
    obtain ⟨g4, eg4⟩ : ∃ g : Sg, g = va_up g2 24 (upd (g2 24) 2 r3) := ⟨_, rfl⟩
    have h := h g4 eg4
    refine gp_RX8_9_X1 C rfl rfl ce_24 (Nat.le_of_ble_eq_true rfl) (g := g4) (by rw [eg4]; exact cs_24_2) dX8_refresh_16 ?_
    refine g_aload_n C 0 dX8_refresh_19 rfl ?_
    refine g_callUv C (As := []) (st := []) (fun l => c_X1_begin_24 l D a cI h) cl_RX8_32_X1 rfl ce_24 (by omega) rfl (Nat.le_of_ble_eq_true rfl) dX8_refresh_20 (fun g5 h => ?_)
    refine g_aload_n C 0 dX8_refresh_23 rfl ?_
    refine gf_RX8_23_X1 C ce_24 rfl dX8_refresh_24 ?_
    refine g_callVv C (As := []) (st := []) (fun l => c_X6_start_9 l D a cI h) cl_RX8_35_X6 rfl ce_9 (by omega) rfl (Nat.le_of_ble_eq_true rfl) dX8_refresh_27 (fun g7 h => ?_)
    refine g_aload_n C 0 dX8_refresh_30 rfl ?_
    refine g_iconst C 0 dX8_refresh_31 (by decide) ?_
    refine g_callUv C (As := [.int 0]) (st := []) (fun l => c_X8_goOn_24 l D a cI 12 h) cl_RX8_40_X1 rfl ce_24 (by omega) rfl (Nat.le_of_ble_eq_true rfl) dX8_refresh_32 (fun g9 h => ?_)
    refine g_aload_n C 0 dX8_refresh_35 rfl ?_
    refine g_iconst C 1 dX8_refresh_36 (by decide) ?_
    obtain ⟨g11, eg11⟩ : ∃ g : Sg, g = va_up g9 24 (upd (g9 24) 3 1) := ⟨_, rfl⟩
    have h := h g11 eg11
    refine gp_RX8_15_X1 C rfl rfl ce_24 (Nat.le_of_ble_eq_true rfl) (g := g11) (by rw [eg11]; exact cs_24_3) dX8_refresh_37 ?_
    exact g_vret C hQ dX8_refresh_40 h
  · have h := h.2 c1
    exact g_vret C hQ dX8_refresh_7 h
/-! X9_classAt_0_25: rank 1 -/
def J_X9_classAt_0_25_29 (Q : Int32 → Sg → Prop) (f : Sg) (s0 : Int32) : Prop :=
  Q s0 f
def J_X9_classAt_0_25_27 (Q : Int32 → Sg → Prop) (f : Sg) : Prop :=
  J_X9_classAt_0_25_29 Q f (-6)
def M_X9_classAt_0_25 (f : Sg) (x2 : Int32) (Q : Int32 → Sg → Prop) : Prop :=
  (x2 < 0 → J_X9_classAt_0_25_27 Q f) ∧ (¬ x2 < 0 → M_X5_cars_1 f (fun r3 g2 => (r3 ≤ x2 → J_X9_classAt_0_25_27 Q g2) ∧ (¬ r3 ≤ x2 → (9 ≤ x2 → J_X9_classAt_0_25_27 Q g2) ∧ (¬ 9 ≤ x2 → vp_in x2 9 ∧ J_X9_classAt_0_25_29 Q g2 (g2 25 (x2 : Int32).toNatClampNeg)))))
set_option maxHeartbeats 4000000 in
theorem t_X9_classAt_0_25_29 {o : Om} {D : va_G} {a : Nat → Nat} {cI : ClassId} {Q : Int32 → Sg → Prop} (C : Cx o D [(cI, .int)] (cw a cI) RX9 cX9_classAt (some .int) 1 3) (hQ : RetI o D (cw a cI) Q) {f : Sg} {s0 : Int32} (h : J_X9_classAt_0_25_29 Q f s0) : Go o D (cw a cI) 29 [] [.int s0] f := by
  unfold J_X9_classAt_0_25_29 at h
  exact g_iret C hQ dX9_classAt_29 h
set_option maxHeartbeats 4000000 in
theorem t_X9_classAt_0_25_27 {o : Om} {D : va_G} {a : Nat → Nat} {cI : ClassId} {Q : Int32 → Sg → Prop} (C : Cx o D [(cI, .int)] (cw a cI) RX9 cX9_classAt (some .int) 1 3) (hQ : RetI o D (cw a cI) Q) {f : Sg} (h : J_X9_classAt_0_25_27 Q f) : Go o D (cw a cI) 27 [] [] f := by
  unfold J_X9_classAt_0_25_27 at h
  refine g_bipush C (-6) dX9_classAt_27 (by decide) ?_
  refine g_sub (lv' := []) [] rfl ?_
  exact t_X9_classAt_0_25_29 C hQ h
set_option maxHeartbeats 4000000 in
theorem c_X9_classAt_0_25 (l : Launch) (D : va_G) (a : Nat → Nat) (cI : ClassId) {f : Sg} {x2 : Int32} {Q : Int32 → Sg → Prop} (h : M_X9_classAt_0_25 f x2 Q) : MI l D [(cI, .int)] (cw a cI) yX9_classAt cX9_classAt 3 (some .int) (1) [.ref (a 0), .ref (a 25), .int x2] f Q := by
  refine mkI (cw_fix a cI) (by decide +kernel) (Nat.le_of_ble_eq_true rfl) (fun o C hQ => ?_)
  show Go o D (cw a cI) 0 [(0, .ref (a 0)), (1, .ref (a 25)), (2, .int x2)] [] f
  unfold M_X9_classAt_0_25 at h
  refine g_iload_n C 2 dX9_classAt_0 rfl ?_
  refine g_if_lt C 27 dX9_classAt_1 (by decide) (fun c1 => ?_) (fun c1 => ?_)
  · have h := h.1 c1
    refine g_sub (lv' := []) [] rfl ?_
    exact t_X9_classAt_0_25_27 C hQ h
  · have h := h.2 c1
    refine g_iload_n C 2 dX9_classAt_4 rfl ?_
    refine g_aload_n C 0 dX9_classAt_5 rfl ?_
    refine gf_RX9_10_X9 C ce_0 rfl dX9_classAt_6 ?_
    refine g_callVi C (As := []) (st := [.int x2]) (fun l => c_X5_cars_1 l D a cI h) cl_RX9_107_X5 rfl ce_1 (by omega) rfl (Nat.le_of_ble_eq_true rfl) dX9_classAt_9 (fun r3 g2 h => ?_)
    refine g_icmp_ge C 27 dX9_classAt_12 (by decide) (fun c4 => ?_) (fun c4 => ?_)
    · have h := h.1 c4
      refine g_sub (lv' := []) [] rfl ?_
      exact t_X9_classAt_0_25_27 C hQ h
    · have h := h.2 c4
      refine g_iload_n C 2 dX9_classAt_15 rfl ?_
      refine g_aload_n C 1 dX9_classAt_16 rfl ?_
      refine g_alen C 0 ce_25 rfl (v := 9) rfl dX9_classAt_17 ?_
      refine g_icmp_ge C 27 dX9_classAt_18 (by decide) (fun c5 => ?_) (fun c5 => ?_)
      · have h := h.1 c5
        refine g_sub (lv' := []) [] rfl ?_
        exact t_X9_classAt_0_25_27 C hQ h
      · have h := h.2 c5
        refine g_aload_n C 1 dX9_classAt_21 rfl ?_
        refine g_iload_n C 2 dX9_classAt_22 rfl ?_
        obtain ⟨hi6, h⟩ := h
        refine g_iald C 0 ce_25 rfl hi6 dX9_classAt_23 ?_
        refine g_goto C 29 dX9_classAt_24 (by decide) ?_
        refine g_sub (lv' := []) [] rfl ?_
        exact t_X9_classAt_0_25_29 C hQ h
/-! X9_filled_0: rank 16 -/
def J_X9_filled_0_55 (Q : Int32 → Sg → Prop) (f : Sg) (s0 : Int32) : Prop :=
  Q s0 f
def M_X9_filled_0 (f : Sg) (x1 : Int32) (Q : Int32 → Sg → Prop) : Prop :=
  ((-1) ≤ x1 → M_X8_refresh_24 f (fun g2 => (x1 = (-1) → Q (g2 24 6) g2) ∧ (¬ x1 = (-1) → ((g2 24 6) = 0 → J_X9_filled_0_55 Q g2 (-6)) ∧ (¬ (g2 24 6) = 0 → M_X9_classAt_0_25 g2 x1 (fun r7 g6 => J_X9_filled_0_55 Q g6 r7))))) ∧ (¬ (-1) ≤ x1 → Q (-2) f)
set_option maxHeartbeats 4000000 in
theorem t_X9_filled_0_55 {o : Om} {D : va_G} {a : Nat → Nat} {cI : ClassId} {Q : Int32 → Sg → Prop} (C : Cx o D [(cI, .int)] (cw a cI) RX9 cX9_filled (some .int) 16 2) (hQ : RetI o D (cw a cI) Q) {f : Sg} {s0 : Int32} (h : J_X9_filled_0_55 Q f s0) : Go o D (cw a cI) 55 [] [.int s0] f := by
  unfold J_X9_filled_0_55 at h
  exact g_iret C hQ dX9_filled_55 h
set_option maxHeartbeats 4000000 in
theorem c_X9_filled_0 (l : Launch) (D : va_G) (a : Nat → Nat) (cI : ClassId) {f : Sg} {x1 : Int32} {Q : Int32 → Sg → Prop} (h : M_X9_filled_0 f x1 Q) : MI l D [(cI, .int)] (cw a cI) yX9_filled cX9_filled 2 (some .int) (16) [.ref (a 0), .int x1] f Q := by
  refine mkI (cw_fix a cI) (by decide +kernel) (Nat.le_of_ble_eq_true rfl) (fun o C hQ => ?_)
  show Go o D (cw a cI) 0 [(0, .ref (a 0)), (1, .int x1)] [] f
  unfold M_X9_filled_0 at h
  refine g_iload_n C 1 dX9_filled_0 rfl ?_
  refine g_iconst C (-1) dX9_filled_1 (by decide) ?_
  refine g_icmp_ge C 8 dX9_filled_2 (by decide) (fun c1 => ?_) (fun c1 => ?_)
  · have h := h.1 c1
    refine g_aload_n C 0 dX9_filled_8 rfl ?_
    refine gf_RX9_60_X9 C ce_0 rfl dX9_filled_9 ?_
    refine g_callUv C (As := []) (st := []) (fun l => c_X8_refresh_24 l D a cI h) cl_RX9_185_X1 rfl ce_24 (by omega) rfl (Nat.le_of_ble_eq_true rfl) dX9_filled_12 (fun g2 h => ?_)
    refine g_iload_n C 1 dX9_filled_15 rfl ?_
    refine g_iconst C (-1) dX9_filled_16 (by decide) ?_
    refine g_icmp_ne C 28 dX9_filled_17 (by decide) (fun c4 => ?_) (fun c4 => ?_)
    · have h := h.2 c4
      refine g_aload_n C 0 dX9_filled_28 rfl ?_
      refine gf_RX9_60_X9 C ce_0 rfl dX9_filled_29 ?_
      refine gf_RX9_186_X1 C ce_24 rfl dX9_filled_32 ?_
      refine g_if_ne C 43 dX9_filled_35 (by decide) (fun c5 => ?_) (fun c5 => ?_)
      · have h := h.2 c5
        refine g_aload_n C 0 dX9_filled_43 rfl ?_
        refine g_aload_n C 0 dX9_filled_44 rfl ?_
        refine gf_RX9_60_X9 C ce_0 rfl dX9_filled_45 ?_
        refine gf_RX9_187_X1 C ce_24 rfl dX9_filled_48 ?_
        refine g_iload_n C 1 dX9_filled_51 rfl ?_
        refine g_callVi C (As := [.ref (a 25), .int x1]) (st := []) (fun l => c_X9_classAt_0_25 l D a cI h) cl_RX9_130_X9 rfl ce_0 (by omega) rfl (Nat.le_of_ble_eq_true rfl) dX9_filled_52 (fun r7 g6 h => ?_)
        refine g_sub (lv' := []) [] rfl ?_
        exact t_X9_filled_0_55 C hQ h
      · have h := h.1 c5
        refine g_bipush C (-6) dX9_filled_38 (by decide) ?_
        refine g_goto C 55 dX9_filled_40 (by decide) ?_
        refine g_sub (lv' := []) [] rfl ?_
        exact t_X9_filled_0_55 C hQ h
    · have h := h.1 c4
      refine g_aload_n C 0 dX9_filled_20 rfl ?_
      refine gf_RX9_60_X9 C ce_0 rfl dX9_filled_21 ?_
      refine gf_RX9_186_X1 C ce_24 rfl dX9_filled_24 ?_
      exact g_iret C hQ dX9_filled_27 h
  · have h := h.2 c1
    refine g_bipush C (-2) dX9_filled_5 (by decide) ?_
    exact g_iret C hQ dX9_filled_7 h
/-! X7_walk_26: rank 2 -/
def J_X7_walk_26_117 (Rc : Sg → Int32 → Int32 → Int32 → (Sg → Prop) → Prop) (Q : Sg → Prop) (f : Sg) : Prop :=
  Q f
def J_X7_walk_26_111 (Rc : Sg → Int32 → Int32 → Int32 → (Sg → Prop) → Prop) (Q : Sg → Prop) (K44 : Sg → Int32 → Int32 → Int32 → Int32 → Int32 → Prop) (f : Sg) (x1 : Int32) (x2 : Int32) (x3 : Int32) (x4 : Int32) (x5 : Int32) : Prop :=
  K44 f x1 x2 x3 x4 (x5 + 1)
def B_X7_walk_26_44 (Rc : Sg → Int32 → Int32 → Int32 → (Sg → Prop) → Prop) (Q : Sg → Prop) (K44 : Sg → Int32 → Int32 → Int32 → Int32 → Int32 → Prop) (f : Sg) (x1 : Int32) (x2 : Int32) (x3 : Int32) (x4 : Int32) (x5 : Int32) : Prop :=
  ((f 7 1) ≤ x5 → J_X7_walk_26_117 Rc Q f) ∧ (¬ (f 7 1) ≤ x5 → (x3 < x4 → J_X7_walk_26_117 Rc Q f) ∧ (¬ x3 < x4 → (((x2 >>> (x5 &&& 31)) &&& 1) = 0 → M_X4_signAt_7 f x5 (fun r9 g8 => M_X6_put_9 g8 r9 (fun g10 => Rc g10 (x1 + 1) (x2 ||| ((1 : Int32) <<< (x5 &&& 31))) x3 (fun g12 => M_X6_drop_9 g12 (fun g14 => J_X7_walk_26_111 Rc Q K44 g14 x1 x2 x3 (x4 + 1) x5))))) ∧ (¬ ((x2 >>> (x5 &&& 31)) &&& 1) = 0 → J_X7_walk_26_111 Rc Q K44 f x1 x2 x3 x4 x5)))
def E_X7_walk_26 (Rc : Sg → Int32 → Int32 → Int32 → (Sg → Prop) → Prop) (f : Sg) (x1 : Int32) (x2 : Int32) (x3 : Int32) (Q : Sg → Prop) : Prop :=
  M_X6_breaks_9 f (fun r2 g1 => (r2 < (g1 26 2) → (x1 < (g1 7 1) → ∃ n : Nat, itr5 (B_X7_walk_26_44 Rc Q) n g1 x1 x2 x3 0 0) ∧ (¬ x1 < (g1 7 1) → M_X6_breaks_9 g1 (fun r17 g16 => ∀ g18 : Sg, g18 = va_up g16 26 (upd (g16 26) 2 r17) → Q g18))) ∧ (¬ r2 < (g1 26 2) → Q g1))
def M_X7_walk_26 : Nat → Sg → Int32 → Int32 → Int32 → (Sg → Prop) → Prop
  | 0 => fun _ _ _ _ _ => False
  | d + 1 => E_X7_walk_26 (M_X7_walk_26 d)
set_option maxHeartbeats 4000000 in
theorem t_X7_walk_26_117 {o : Om} {D : va_G} {a : Nat → Nat} {cI : ClassId} {d : Nat} {Rc : Sg → Int32 → Int32 → Int32 → (Sg → Prop) → Prop} {Q : Sg → Prop} (C : Cx o D [(cI, .int)] (cw a cI) RX7 cX7_walk none (2 + d + 1) 6) (hQ : RetV o D (cw a cI) Q) (hRc : ∀ (l : Launch) (g : Sg) (y0 : Int32) (y1 : Int32) (y2 : Int32) (Qr : Sg → Prop), Rc g y0 y1 y2 Qr → MV l D [(cI, .int)] (cw a cI) yX7_walk cX7_walk 6 (2 + d) [.ref (a 26), .int y0, .int y1, .int y2] g Qr) {f : Sg} (h : J_X7_walk_26_117 Rc Q f) : Go o D (cw a cI) 117 [] [] f := by
  unfold J_X7_walk_26_117 at h
  exact g_vret C hQ dX7_walk_117 h
set_option maxHeartbeats 4000000 in
theorem t_X7_walk_26_111 {o : Om} {D : va_G} {a : Nat → Nat} {cI : ClassId} {d : Nat} {Rc : Sg → Int32 → Int32 → Int32 → (Sg → Prop) → Prop} {Q : Sg → Prop} {K44 : Sg → Int32 → Int32 → Int32 → Int32 → Int32 → Prop} (C : Cx o D [(cI, .int)] (cw a cI) RX7 cX7_walk none (2 + d + 1) 6) (hQ : RetV o D (cw a cI) Q) (hRc : ∀ (l : Launch) (g : Sg) (y0 : Int32) (y1 : Int32) (y2 : Int32) (Qr : Sg → Prop), Rc g y0 y1 y2 Qr → MV l D [(cI, .int)] (cw a cI) yX7_walk cX7_walk 6 (2 + d) [.ref (a 26), .int y0, .int y1, .int y2] g Qr) (hK44 : ∀ (g : Sg) (x1 : Int32) (x2 : Int32) (x3 : Int32) (x4 : Int32) (x5 : Int32), K44 g x1 x2 x3 x4 x5 → Go o D (cw a cI) 44 [(0, .ref (a 26)), (1, .int x1), (2, .int x2), (3, .int x3), (4, .int x4), (5, .int x5)] [] g) {f : Sg} {x1 : Int32} {x2 : Int32} {x3 : Int32} {x4 : Int32} {x5 : Int32} (h : J_X7_walk_26_111 Rc Q K44 f x1 x2 x3 x4 x5) : Go o D (cw a cI) 111 [(0, .ref (a 26)), (1, .int x1), (2, .int x2), (3, .int x3), (4, .int x4), (5, .int x5)] [] f := by
  unfold J_X7_walk_26_111 at h
  refine g_iinc (lv' := [(5, .int (x5 + 1)), (0, .ref (a 26)), (1, .int x1), (2, .int x2), (3, .int x3), (4, .int x4)]) C 5 dX7_walk_111 rfl rfl (by decide) rfl ?_
  refine g_goto C 44 dX7_walk_114 (by decide) ?_
  refine g_sub (lv' := [(0, .ref (a 26)), (1, .int x1), (2, .int x2), (3, .int x3), (4, .int x4), (5, .int (x5 + 1))]) [1, 2, 3, 4, 5, 0] rfl ?_
  exact hK44 f x1 x2 x3 x4 (x5 + 1) h
set_option maxHeartbeats 4000000 in
theorem t_X7_walk_26_44 {o : Om} {D : va_G} {a : Nat → Nat} {cI : ClassId} {d : Nat} {Rc : Sg → Int32 → Int32 → Int32 → (Sg → Prop) → Prop} {Q : Sg → Prop} (C : Cx o D [(cI, .int)] (cw a cI) RX7 cX7_walk none (2 + d + 1) 6) (hQ : RetV o D (cw a cI) Q) (hRc : ∀ (l : Launch) (g : Sg) (y0 : Int32) (y1 : Int32) (y2 : Int32) (Qr : Sg → Prop), Rc g y0 y1 y2 Qr → MV l D [(cI, .int)] (cw a cI) yX7_walk cX7_walk 6 (2 + d) [.ref (a 26), .int y0, .int y1, .int y2] g Qr) : ∀ (n : Nat) (f : Sg) (x1 : Int32) (x2 : Int32) (x3 : Int32) (x4 : Int32) (x5 : Int32), itr5 (B_X7_walk_26_44 Rc Q) n f x1 x2 x3 x4 x5 → Go o D (cw a cI) 44 [(0, .ref (a 26)), (1, .int x1), (2, .int x2), (3, .int x3), (4, .int x4), (5, .int x5)] [] f := by
  intro n
  induction n with
  | zero => intro f x1 x2 x3 x4 x5 h; exact h.elim
  | succ n ih =>
    intro f x1 x2 x3 x4 x5 h
    have h : B_X7_walk_26_44 Rc Q (itr5 (B_X7_walk_26_44 Rc Q) n) f x1 x2 x3 x4 x5 := h
    have hK44 := ih
    generalize itr5 (B_X7_walk_26_44 Rc Q) n = K44 at h hK44
    clear ih
    unfold B_X7_walk_26_44 at h
    refine g_iload C 5 dX7_walk_44 rfl ?_
    refine g_aload_n C 0 dX7_walk_46 rfl ?_
    refine gf_RX7_13_X7 C ce_26 rfl dX7_walk_47 ?_
    refine gf_RX7_26_X4 C ce_7 rfl dX7_walk_50 ?_
    refine g_icmp_ge C 117 dX7_walk_53 (by decide) (fun c5 => ?_) (fun c5 => ?_)
    · have h := h.1 c5
      refine g_sub (lv' := []) [] rfl ?_
      exact t_X7_walk_26_117 C hQ hRc h
    · have h := h.2 c5
      refine g_iload C 4 dX7_walk_56 rfl ?_
      refine g_iload_n C 3 dX7_walk_58 rfl ?_
      refine g_icmp_gt C 117 dX7_walk_59 (by decide) (fun c6 => ?_) (fun c6 => ?_)
      · have h := h.1 c6
        refine g_sub (lv' := []) [] rfl ?_
        exact t_X7_walk_26_117 C hQ hRc h
      · have h := h.2 c6
        refine g_iload_n C 2 dX7_walk_62 rfl ?_
        refine g_iload C 5 dX7_walk_63 rfl ?_
        refine g_ishr C dX7_walk_65 ?_
        refine g_iconst C 1 dX7_walk_66 (by decide) ?_
        refine g_iand C dX7_walk_67 ?_
        refine g_if_ne C 111 dX7_walk_68 (by decide) (fun c7 => ?_) (fun c7 => ?_)
        · have h := h.2 c7
          refine g_sub (lv' := [(0, .ref (a 26)), (1, .int x1), (2, .int x2), (3, .int x3), (4, .int x4), (5, .int x5)]) [0, 1, 2, 3, 4, 5] rfl ?_
          exact t_X7_walk_26_111 C hQ hRc hK44 h
        · have h := h.1 c7
          refine g_aload_n C 0 dX7_walk_71 rfl ?_
          refine gf_RX7_17_X7 C ce_26 rfl dX7_walk_72 ?_
          refine g_aload_n C 0 dX7_walk_75 rfl ?_
          refine gf_RX7_13_X7 C ce_26 rfl dX7_walk_76 ?_
          refine g_iload C 5 dX7_walk_79 rfl ?_
          refine g_callVi C (As := [.int x5]) (st := [.ref (a 9)]) (fun l => c_X4_signAt_7 l D a cI h) cl_RX7_31_X4 rfl ce_7 (by omega) rfl (Nat.le_of_ble_eq_true rfl) dX7_walk_81 (fun r9 g8 h => ?_)
          refine g_callVv C (As := [.int r9]) (st := []) (fun l => c_X6_put_9 l D a cI h) cl_RX7_35_X6 rfl ce_9 (by omega) rfl (Nat.le_of_ble_eq_true rfl) dX7_walk_84 (fun g10 h => ?_)
          refine g_aload_n C 0 dX7_walk_87 rfl ?_
          refine g_iload_n C 1 dX7_walk_88 rfl ?_
          refine g_iconst C 1 dX7_walk_89 (by decide) ?_
          refine g_iadd C dX7_walk_90 ?_
          refine g_iload_n C 2 dX7_walk_91 rfl ?_
          refine g_iconst C 1 dX7_walk_92 (by decide) ?_
          refine g_iload C 5 dX7_walk_93 rfl ?_
          refine g_ishl C dX7_walk_95 ?_
          refine g_ior C dX7_walk_96 ?_
          refine g_iload_n C 3 dX7_walk_97 rfl ?_
          refine g_callVv C (As := [.int (x1 + 1), .int (x2 ||| ((1 : Int32) <<< (x5 &&& 31))), .int x3]) (st := []) (fun l => hRc l g10 (x1 + 1) (x2 ||| ((1 : Int32) <<< (x5 &&& 31))) x3 _ h) cl_RX7_43_X7 rfl ce_26 (by omega) rfl (Nat.le_of_ble_eq_true rfl) dX7_walk_98 (fun g12 h => ?_)
          refine g_aload_n C 0 dX7_walk_101 rfl ?_
          refine gf_RX7_17_X7 C ce_26 rfl dX7_walk_102 ?_
          refine g_callVv C (As := []) (st := []) (fun l => c_X6_drop_9 l D a cI h) cl_RX7_47_X6 rfl ce_9 (by omega) rfl (Nat.le_of_ble_eq_true rfl) dX7_walk_105 (fun g14 h => ?_)
          refine g_iinc (lv' := [(4, .int (x4 + 1)), (0, .ref (a 26)), (1, .int x1), (2, .int x2), (3, .int x3), (5, .int x5)]) C 4 dX7_walk_108 rfl rfl (by decide) rfl ?_
          refine g_sub (lv' := [(0, .ref (a 26)), (1, .int x1), (2, .int x2), (3, .int x3), (4, .int (x4 + 1)), (5, .int x5)]) [1, 2, 3, 4, 0, 5] rfl ?_
          exact t_X7_walk_26_111 C hQ hRc hK44 h
set_option maxHeartbeats 4000000 in
theorem c_X7_walk_26 (l : Launch) (D : va_G) (a : Nat → Nat) (cI : ClassId) : ∀ (d : Nat) {f : Sg} {x1 : Int32} {x2 : Int32} {x3 : Int32} {Q : Sg → Prop}, M_X7_walk_26 d f x1 x2 x3 Q → MV l D [(cI, .int)] (cw a cI) yX7_walk cX7_walk 6 (2 + d) [.ref (a 26), .int x1, .int x2, .int x3] f Q := by
  intro d
  induction d generalizing l with
  | zero => intro f x1 x2 x3 Q h; exact h.elim
  | succ d ih =>
    intro f x1 x2 x3 Q h
    have h : E_X7_walk_26 (M_X7_walk_26 d) f x1 x2 x3 Q := h
    have hRc : ∀ (l : Launch) (g : Sg) (y0 : Int32) (y1 : Int32) (y2 : Int32) (Qr : Sg → Prop), M_X7_walk_26 d g y0 y1 y2 Qr → MV l D [(cI, .int)] (cw a cI) yX7_walk cX7_walk 6 (2 + d) [.ref (a 26), .int y0, .int y1, .int y2] g Qr := fun l g y0 y1 y2 Qr h => ih l h
    generalize M_X7_walk_26 d = Rc at h hRc
    clear ih
    refine mkV (cw_fix a cI) (by decide +kernel) (Nat.le_of_ble_eq_true rfl) (fun o C hQ => ?_)
    show Go o D (cw a cI) 0 [(0, .ref (a 26)), (1, .int x1), (2, .int x2), (3, .int x3)] [] f
    unfold E_X7_walk_26 at h
    refine g_aload_n C 0 dX7_walk_0 rfl ?_
    refine gf_RX7_17_X7 C ce_26 rfl dX7_walk_1 ?_
    refine g_callVi C (As := []) (st := []) (fun l => c_X6_breaks_9 l D a cI h) cl_RX7_39_X6 rfl ce_9 (by omega) rfl (Nat.le_of_ble_eq_true rfl) dX7_walk_4 (fun r2 g1 h => ?_)
    refine g_aload_n C 0 dX7_walk_7 rfl ?_
    refine gf_RX7_7_X7 C ce_26 rfl dX7_walk_8 ?_
    refine g_icmp_lt C 15 dX7_walk_11 (by decide) (fun c3 => ?_) (fun c3 => ?_)
    · have h := h.1 c3
      refine g_iload_n C 1 dX7_walk_15 rfl ?_
      refine g_aload_n C 0 dX7_walk_16 rfl ?_
      refine gf_RX7_13_X7 C ce_26 rfl dX7_walk_17 ?_
      refine gf_RX7_26_X4 C ce_7 rfl dX7_walk_20 ?_
      refine g_icmp_lt C 38 dX7_walk_23 (by decide) (fun c4 => ?_) (fun c4 => ?_)
      · have h := h.1 c4
        refine g_iconst C 0 dX7_walk_38 (by decide) ?_
        refine g_istore (lv' := [(4, .int 0), (0, .ref (a 26)), (1, .int x1), (2, .int x2), (3, .int x3)]) C dX7_walk_39 (by decide) rfl ?_
        refine g_iconst C 0 dX7_walk_41 (by decide) ?_
        refine g_istore (lv' := [(5, .int 0), (4, .int 0), (0, .ref (a 26)), (1, .int x1), (2, .int x2), (3, .int x3)]) C dX7_walk_42 (by decide) rfl ?_
        refine g_sub (lv' := [(0, .ref (a 26)), (1, .int x1), (2, .int x2), (3, .int x3), (4, .int 0), (5, .int 0)]) [2, 3, 4, 5, 1, 0] rfl ?_
        obtain ⟨n, h⟩ := h
        exact t_X7_walk_26_44 C hQ hRc n g1 x1 x2 x3 0 0 h
      · have h := h.2 c4
        refine g_aload_n C 0 dX7_walk_26 rfl ?_
        refine g_aload_n C 0 dX7_walk_27 rfl ?_
        refine gf_RX7_17_X7 C ce_26 rfl dX7_walk_28 ?_
        refine g_callVi C (As := []) (st := [.ref (a 26)]) (fun l => c_X6_breaks_9 l D a cI h) cl_RX7_39_X6 rfl ce_9 (by omega) rfl (Nat.le_of_ble_eq_true rfl) dX7_walk_31 (fun r17 g16 h => ?_)
        obtain ⟨g18, eg18⟩ : ∃ g : Sg, g = va_up g16 26 (upd (g16 26) 2 r17) := ⟨_, rfl⟩
        have h := h g18 eg18
        refine gp_RX7_7_X7 C rfl rfl ce_26 (Nat.le_of_ble_eq_true rfl) (g := g18) (by rw [eg18]; exact cs_26_2) dX7_walk_34 ?_
        exact g_vret C hQ dX7_walk_37 h
    · have h := h.2 c3
      exact g_vret C hQ dX7_walk_14 h
/-! X7_putRight_26: rank 15 -/
def B_X7_putRight_26_9 (Q : Int32 → Sg → Prop) (K9 : Sg → Int32 → Int32 → Prop) (f : Sg) (x1 : Int32) (x2 : Int32) : Prop :=
  ((f 7 1) ≤ x2 → M_X6_breaks_9 f (fun r5 g4 => ∀ g6 : Sg, g6 = va_up g4 26 (upd (g4 26) 2 r5) → M_X6_start_9 g6 (fun g7 => M_X7_walk_26 12 g7 0 0 x1 (fun g9 => Q (g9 26 2) g9)))) ∧ (¬ (f 7 1) ≤ x2 → M_X4_signAt_7 f x2 (fun r12 g11 => M_X6_put_9 g11 r12 (fun g13 => K9 g13 x1 (x2 + 1))))
def M_X7_putRight_26 (f : Sg) (x1 : Int32) (Q : Int32 → Sg → Prop) : Prop :=
  M_X6_start_9 f (fun g1 => ∃ n : Nat, itr2 (B_X7_putRight_26_9 Q) n g1 x1 0)
set_option maxHeartbeats 4000000 in
theorem t_X7_putRight_26_9 {o : Om} {D : va_G} {a : Nat → Nat} {cI : ClassId} {Q : Int32 → Sg → Prop} (C : Cx o D [(cI, .int)] (cw a cI) RX7 cX7_putRight (some .int) 15 3) (hQ : RetI o D (cw a cI) Q) : ∀ (n : Nat) (f : Sg) (x1 : Int32) (x2 : Int32), itr2 (B_X7_putRight_26_9 Q) n f x1 x2 → Go o D (cw a cI) 9 [(0, .ref (a 26)), (1, .int x1), (2, .int x2)] [] f := by
  intro n
  induction n with
  | zero => intro f x1 x2 h; exact h.elim
  | succ n ih =>
    intro f x1 x2 h
    have h : B_X7_putRight_26_9 Q (itr2 (B_X7_putRight_26_9 Q) n) f x1 x2 := h
    have hK9 := ih
    generalize itr2 (B_X7_putRight_26_9 Q) n = K9 at h hK9
    clear ih
    unfold B_X7_putRight_26_9 at h
    refine g_iload_n C 2 dX7_putRight_9 rfl ?_
    refine g_aload_n C 0 dX7_putRight_10 rfl ?_
    refine gf_RX7_13_X7 C ce_26 rfl dX7_putRight_11 ?_
    refine gf_RX7_26_X4 C ce_7 rfl dX7_putRight_14 ?_
    refine g_icmp_ge C 41 dX7_putRight_17 (by decide) (fun c3 => ?_) (fun c3 => ?_)
    · have h := h.1 c3
      refine g_aload_n C 0 dX7_putRight_41 rfl ?_
      refine g_aload_n C 0 dX7_putRight_42 rfl ?_
      refine gf_RX7_17_X7 C ce_26 rfl dX7_putRight_43 ?_
      refine g_callVi C (As := []) (st := [.ref (a 26)]) (fun l => c_X6_breaks_9 l D a cI h) cl_RX7_39_X6 rfl ce_9 (by omega) rfl (Nat.le_of_ble_eq_true rfl) dX7_putRight_46 (fun r5 g4 h => ?_)
      obtain ⟨g6, eg6⟩ : ∃ g : Sg, g = va_up g4 26 (upd (g4 26) 2 r5) := ⟨_, rfl⟩
      have h := h g6 eg6
      refine gp_RX7_7_X7 C rfl rfl ce_26 (Nat.le_of_ble_eq_true rfl) (g := g6) (by rw [eg6]; exact cs_26_2) dX7_putRight_49 ?_
      refine g_aload_n C 0 dX7_putRight_52 rfl ?_
      refine gf_RX7_17_X7 C ce_26 rfl dX7_putRight_53 ?_
      refine g_callVv C (As := []) (st := []) (fun l => c_X6_start_9 l D a cI h) cl_RX7_21_X6 rfl ce_9 (by omega) rfl (Nat.le_of_ble_eq_true rfl) dX7_putRight_56 (fun g7 h => ?_)
      refine g_aload_n C 0 dX7_putRight_59 rfl ?_
      refine g_iconst C 0 dX7_putRight_60 (by decide) ?_
      refine g_iconst C 0 dX7_putRight_61 (by decide) ?_
      refine g_iload_n C 1 dX7_putRight_62 rfl ?_
      refine g_callVv C (As := [.int 0, .int 0, .int x1]) (st := []) (fun l => c_X7_walk_26 l D a cI 12 h) cl_RX7_43_X7 rfl ce_26 (by omega) rfl (Nat.le_of_ble_eq_true rfl) dX7_putRight_63 (fun g9 h => ?_)
      refine g_aload_n C 0 dX7_putRight_66 rfl ?_
      refine gf_RX7_7_X7 C ce_26 rfl dX7_putRight_67 ?_
      exact g_iret C hQ dX7_putRight_70 h
    · have h := h.2 c3
      refine g_aload_n C 0 dX7_putRight_20 rfl ?_
      refine gf_RX7_17_X7 C ce_26 rfl dX7_putRight_21 ?_
      refine g_aload_n C 0 dX7_putRight_24 rfl ?_
      refine gf_RX7_13_X7 C ce_26 rfl dX7_putRight_25 ?_
      refine g_iload_n C 2 dX7_putRight_28 rfl ?_
      refine g_callVi C (As := [.int x2]) (st := [.ref (a 9)]) (fun l => c_X4_signAt_7 l D a cI h) cl_RX7_31_X4 rfl ce_7 (by omega) rfl (Nat.le_of_ble_eq_true rfl) dX7_putRight_29 (fun r12 g11 h => ?_)
      refine g_callVv C (As := [.int r12]) (st := []) (fun l => c_X6_put_9 l D a cI h) cl_RX7_35_X6 rfl ce_9 (by omega) rfl (Nat.le_of_ble_eq_true rfl) dX7_putRight_32 (fun g13 h => ?_)
      refine g_iinc (lv' := [(2, .int (x2 + 1)), (0, .ref (a 26)), (1, .int x1)]) C 2 dX7_putRight_35 rfl rfl (by decide) rfl ?_
      refine g_goto C 9 dX7_putRight_38 (by decide) ?_
      refine g_sub (lv' := [(0, .ref (a 26)), (1, .int x1), (2, .int (x2 + 1))]) [1, 2, 0] rfl ?_
      exact hK9 g13 x1 (x2 + 1) h
set_option maxHeartbeats 4000000 in
theorem c_X7_putRight_26 (l : Launch) (D : va_G) (a : Nat → Nat) (cI : ClassId) {f : Sg} {x1 : Int32} {Q : Int32 → Sg → Prop} (h : M_X7_putRight_26 f x1 Q) : MI l D [(cI, .int)] (cw a cI) yX7_putRight cX7_putRight 3 (some .int) (15) [.ref (a 26), .int x1] f Q := by
  refine mkI (cw_fix a cI) (by decide +kernel) (Nat.le_of_ble_eq_true rfl) (fun o C hQ => ?_)
  show Go o D (cw a cI) 0 [(0, .ref (a 26)), (1, .int x1)] [] f
  unfold M_X7_putRight_26 at h
  refine g_aload_n C 0 dX7_putRight_0 rfl ?_
  refine gf_RX7_17_X7 C ce_26 rfl dX7_putRight_1 ?_
  refine g_callVv C (As := []) (st := []) (fun l => c_X6_start_9 l D a cI h) cl_RX7_21_X6 rfl ce_9 (by omega) rfl (Nat.le_of_ble_eq_true rfl) dX7_putRight_4 (fun g1 h => ?_)
  refine g_iconst C 0 dX7_putRight_7 (by decide) ?_
  refine g_istore_n (lv' := [(2, .int 0), (0, .ref (a 26)), (1, .int x1)]) C dX7_putRight_8 (by decide) rfl ?_
  refine g_sub (lv' := [(0, .ref (a 26)), (1, .int x1), (2, .int 0)]) [1, 2, 0] rfl ?_
  obtain ⟨n, h⟩ := h
  exact t_X7_putRight_26_9 C hQ n g1 x1 0 h
/-! X9_lane_0: rank 16 -/
def J_X9_lane_0_9 (Q : Int32 → Sg → Prop) (f : Sg) : Prop :=
  Q (-2) f
def M_X9_lane_0 (f : Sg) (x1 : Int32) (Q : Int32 → Sg → Prop) : Prop :=
  (x1 < 0 → J_X9_lane_0_9 Q f) ∧ (¬ x1 < 0 → (x1 ≤ 2 → M_X4_hasAny_7 f (fun r4 g3 => (r4 = 0 → M_X7_putRight_26 g3 x1 (fun r7 g6 => Q r7 g6)) ∧ (¬ r4 = 0 → Q (-7) g3))) ∧ (¬ x1 ≤ 2 → J_X9_lane_0_9 Q f))
set_option maxHeartbeats 4000000 in
theorem t_X9_lane_0_9 {o : Om} {D : va_G} {a : Nat → Nat} {cI : ClassId} {Q : Int32 → Sg → Prop} (C : Cx o D [(cI, .int)] (cw a cI) RX9 cX9_lane (some .int) 16 2) (hQ : RetI o D (cw a cI) Q) {f : Sg} (h : J_X9_lane_0_9 Q f) : Go o D (cw a cI) 9 [] [] f := by
  unfold J_X9_lane_0_9 at h
  refine g_bipush C (-2) dX9_lane_9 (by decide) ?_
  exact g_iret C hQ dX9_lane_11 h
set_option maxHeartbeats 4000000 in
theorem c_X9_lane_0 (l : Launch) (D : va_G) (a : Nat → Nat) (cI : ClassId) {f : Sg} {x1 : Int32} {Q : Int32 → Sg → Prop} (h : M_X9_lane_0 f x1 Q) : MI l D [(cI, .int)] (cw a cI) yX9_lane cX9_lane 2 (some .int) (16) [.ref (a 0), .int x1] f Q := by
  refine mkI (cw_fix a cI) (by decide +kernel) (Nat.le_of_ble_eq_true rfl) (fun o C hQ => ?_)
  show Go o D (cw a cI) 0 [(0, .ref (a 0)), (1, .int x1)] [] f
  unfold M_X9_lane_0 at h
  refine g_iload_n C 1 dX9_lane_0 rfl ?_
  refine g_if_lt C 9 dX9_lane_1 (by decide) (fun c1 => ?_) (fun c1 => ?_)
  · have h := h.1 c1
    refine g_sub (lv' := []) [] rfl ?_
    exact t_X9_lane_0_9 C hQ h
  · have h := h.2 c1
    refine g_iload_n C 1 dX9_lane_4 rfl ?_
    refine g_iconst C 2 dX9_lane_5 (by decide) ?_
    refine g_icmp_le C 12 dX9_lane_6 (by decide) (fun c2 => ?_) (fun c2 => ?_)
    · have h := h.1 c2
      refine g_aload_n C 0 dX9_lane_12 rfl ?_
      refine gf_RX9_19_X9 C ce_0 rfl dX9_lane_13 ?_
      refine g_callVi C (As := []) (st := []) (fun l => c_X4_hasAny_7 l D a cI h) cl_RX9_172_X4 rfl ce_7 (by omega) rfl (Nat.le_of_ble_eq_true rfl) dX9_lane_16 (fun r4 g3 h => ?_)
      refine g_if_eq C 25 dX9_lane_19 (by decide) (fun c5 => ?_) (fun c5 => ?_)
      · have h := h.1 c5
        refine g_aload_n C 0 dX9_lane_25 rfl ?_
        refine gf_RX9_69_X9 C ce_0 rfl dX9_lane_26 ?_
        refine g_iload_n C 1 dX9_lane_29 rfl ?_
        refine g_callVi C (As := [.int x1]) (st := []) (fun l => c_X7_putRight_26 l D a cI h) cl_RX9_188_X7 rfl ce_26 (by omega) rfl (Nat.le_of_ble_eq_true rfl) dX9_lane_30 (fun r7 g6 h => ?_)
        exact g_iret C hQ dX9_lane_33 h
      · have h := h.2 c5
        refine g_bipush C (-7) dX9_lane_22 (by decide) ?_
        exact g_iret C hQ dX9_lane_24 h
    · have h := h.2 c2
      refine g_sub (lv' := []) [] rfl ?_
      exact t_X9_lane_0_9 C hQ h
/-! X9_isImage: rank 0 -/
def J_X9_isImage_14 (Q : Int32 → Sg → Prop) (f : Sg) (s0 : Int32) : Prop :=
  narrow .boolean (.int s0) = .int s0 ∧ Q s0 f
def J_X9_isImage_13 (Q : Int32 → Sg → Prop) (f : Sg) : Prop :=
  J_X9_isImage_14 Q f 0
def M_X9_isImage (f : Sg) (x0 : Int32) (Q : Int32 → Sg → Prop) : Prop :=
  (x0 < 0 → J_X9_isImage_13 Q f) ∧ (¬ x0 < 0 → (2 ≤ x0 → J_X9_isImage_13 Q f) ∧ (¬ 2 ≤ x0 → J_X9_isImage_14 Q f 1))
set_option maxHeartbeats 4000000 in
theorem t_X9_isImage_14 {o : Om} {D : va_G} {a : Nat → Nat} {cI : ClassId} {Q : Int32 → Sg → Prop} (C : Cx o D [(cI, .int)] (cw a cI) RX9 cX9_isImage (some .boolean) 0 1) (hQ : RetI o D (cw a cI) Q) {f : Sg} {s0 : Int32} (h : J_X9_isImage_14 Q f s0) : Go o D (cw a cI) 14 [] [.int s0] f := by
  unfold J_X9_isImage_14 at h
  exact g_zret C hQ h.1 dX9_isImage_14 h.2
set_option maxHeartbeats 4000000 in
theorem t_X9_isImage_13 {o : Om} {D : va_G} {a : Nat → Nat} {cI : ClassId} {Q : Int32 → Sg → Prop} (C : Cx o D [(cI, .int)] (cw a cI) RX9 cX9_isImage (some .boolean) 0 1) (hQ : RetI o D (cw a cI) Q) {f : Sg} (h : J_X9_isImage_13 Q f) : Go o D (cw a cI) 13 [] [] f := by
  unfold J_X9_isImage_13 at h
  refine g_iconst C 0 dX9_isImage_13 (by decide) ?_
  refine g_sub (lv' := []) [] rfl ?_
  exact t_X9_isImage_14 C hQ h
set_option maxHeartbeats 4000000 in
theorem c_X9_isImage (l : Launch) (D : va_G) (a : Nat → Nat) (cI : ClassId) {f : Sg} {x0 : Int32} {Q : Int32 → Sg → Prop} (h : M_X9_isImage f x0 Q) : MI l D [(cI, .int)] (cw a cI) yX9_isImage cX9_isImage 1 (some .boolean) (0) [.int x0] f Q := by
  refine mkI (cw_fix a cI) (by decide +kernel) (Nat.le_of_ble_eq_true rfl) (fun o C hQ => ?_)
  show Go o D (cw a cI) 0 [(0, .int x0)] [] f
  unfold M_X9_isImage at h
  refine g_iload_n C 0 dX9_isImage_0 rfl ?_
  refine g_if_lt C 13 dX9_isImage_1 (by decide) (fun c1 => ?_) (fun c1 => ?_)
  · have h := h.1 c1
    refine g_sub (lv' := []) [] rfl ?_
    exact t_X9_isImage_13 C hQ h
  · have h := h.2 c1
    refine g_iload_n C 0 dX9_isImage_4 rfl ?_
    refine g_iconst C 2 dX9_isImage_5 (by decide) ?_
    refine g_icmp_ge C 13 dX9_isImage_6 (by decide) (fun c2 => ?_) (fun c2 => ?_)
    · have h := h.1 c2
      refine g_sub (lv' := []) [] rfl ?_
      exact t_X9_isImage_13 C hQ h
    · have h := h.2 c2
      refine g_iconst C 1 dX9_isImage_9 (by decide) ?_
      refine g_goto C 14 dX9_isImage_10 (by decide) ?_
      refine g_sub (lv' := []) [] rfl ?_
      exact t_X9_isImage_14 C hQ h
