/-! X10_in: rank 0 -/
def J_X10_in_15 (Q : Int32 → Sg → Prop) (f : Sg) (s0 : Int32) : Prop :=
  narrow .boolean (.int s0) = .int s0 ∧ Q s0 f
def J_X10_in_14 (Q : Int32 → Sg → Prop) (f : Sg) : Prop :=
  J_X10_in_15 Q f 0
def M_X10_in (f : Sg) (x0 : Int32) (x1 : Int32) (x2 : Int32) (Q : Int32 → Sg → Prop) : Prop :=
  (x0 < x1 → J_X10_in_14 Q f) ∧ (¬ x0 < x1 → (x2 < x0 → J_X10_in_14 Q f) ∧ (¬ x2 < x0 → J_X10_in_15 Q f 1))
set_option maxHeartbeats 4000000 in
theorem t_X10_in_15 {o : Om} {D : va_G} {a : Nat → Nat} {cI cZ : ClassId} {Q : Int32 → Sg → Prop} (C : Cx o D [(cI, .int), (cZ, .boolean)] (rw a cI cZ) RX10 cX10_in (some .boolean) 0 3) (hQ : RetI o D (rw a cI cZ) Q) {f : Sg} {s0 : Int32} (h : J_X10_in_15 Q f s0) : Go o D (rw a cI cZ) 15 [] [.int s0] f := by
  unfold J_X10_in_15 at h
  exact g_zret C hQ h.1 dX10_in_15 h.2
set_option maxHeartbeats 4000000 in
theorem t_X10_in_14 {o : Om} {D : va_G} {a : Nat → Nat} {cI cZ : ClassId} {Q : Int32 → Sg → Prop} (C : Cx o D [(cI, .int), (cZ, .boolean)] (rw a cI cZ) RX10 cX10_in (some .boolean) 0 3) (hQ : RetI o D (rw a cI cZ) Q) {f : Sg} (h : J_X10_in_14 Q f) : Go o D (rw a cI cZ) 14 [] [] f := by
  unfold J_X10_in_14 at h
  refine g_iconst C 0 dX10_in_14 (by decide) ?_
  refine g_sub (lv' := []) [] rfl ?_
  exact t_X10_in_15 C hQ h
set_option maxHeartbeats 4000000 in
theorem c_X10_in (l : Launch) (D : va_G) (a : Nat → Nat) (cI cZ : ClassId) {f : Sg} {x0 : Int32} {x1 : Int32} {x2 : Int32} {Q : Int32 → Sg → Prop} (h : M_X10_in f x0 x1 x2 Q) : MI l D [(cI, .int), (cZ, .boolean)] (rw a cI cZ) yX10_in cX10_in 3 (some .boolean) (0) [.int x0, .int x1, .int x2] f Q := by
  refine mkI (rw_fix a cI cZ) (by decide +kernel) (Nat.le_of_ble_eq_true rfl) (fun o C hQ => ?_)
  show Go o D (rw a cI cZ) 0 [(0, .int x0), (1, .int x1), (2, .int x2)] [] f
  unfold M_X10_in at h
  refine g_iload_n C 0 dX10_in_0 rfl ?_
  refine g_iload_n C 1 dX10_in_1 rfl ?_
  refine g_icmp_lt C 14 dX10_in_2 (by decide) (fun c1 => ?_) (fun c1 => ?_)
  · have h := h.1 c1
    refine g_sub (lv' := []) [] rfl ?_
    exact t_X10_in_14 C hQ h
  · have h := h.2 c1
    refine g_iload_n C 0 dX10_in_5 rfl ?_
    refine g_iload_n C 2 dX10_in_6 rfl ?_
    refine g_icmp_gt C 14 dX10_in_7 (by decide) (fun c2 => ?_) (fun c2 => ?_)
    · have h := h.1 c2
      refine g_sub (lv' := []) [] rfl ?_
      exact t_X10_in_14 C hQ h
    · have h := h.2 c2
      refine g_iconst C 1 dX10_in_10 (by decide) ?_
      refine g_goto C 15 dX10_in_11 (by decide) ?_
      refine g_sub (lv' := []) [] rfl ?_
      exact t_X10_in_15 C hQ h
/-! X10_isOption: rank 1 -/
def M_X10_isOption (f : Sg) (x0 : Int32) (Q : Int32 → Sg → Prop) : Prop :=
  M_X10_in f x0 0 3 (fun r2 g1 => narrow .boolean (.int r2) = .int r2 ∧ Q r2 g1)
set_option maxHeartbeats 4000000 in
theorem c_X10_isOption (l : Launch) (D : va_G) (a : Nat → Nat) (cI cZ : ClassId) {f : Sg} {x0 : Int32} {Q : Int32 → Sg → Prop} (h : M_X10_isOption f x0 Q) : MI l D [(cI, .int), (cZ, .boolean)] (rw a cI cZ) yX10_isOption cX10_isOption 1 (some .boolean) (1) [.int x0] f Q := by
  refine mkI (rw_fix a cI cZ) (by decide +kernel) (Nat.le_of_ble_eq_true rfl) (fun o C hQ => ?_)
  show Go o D (rw a cI cZ) 0 [(0, .int x0)] [] f
  unfold M_X10_isOption at h
  refine g_iload_n C 0 dX10_isOption_0 rfl ?_
  refine g_iconst C 0 dX10_isOption_1 (by decide) ?_
  refine g_iconst C 3 dX10_isOption_2 (by decide) ?_
  refine g_callSi C (As := [.int x0, .int 0, .int 3]) (st := []) (fun l => c_X10_in l D a cI cZ h) cl_RX10_38 (by omega) rfl (Nat.le_of_ble_eq_true rfl) dX10_isOption_3 (fun r2 g1 h => ?_)
  exact g_zret C hQ h.1 dX10_isOption_6 h.2
/-! X10_option_0: rank 2 -/
def J_X10_option_0_27 (Q : Int32 → Sg → Prop) (f : Sg) : Prop :=
  Q (-2) f
def M_X10_option_0 (f : Sg) (x1 : Int32) (x2 : Int32) (x3 : Int32) (Q : Int32 → Sg → Prop) : Prop :=
  M_X10_isOption f x1 (fun r2 g1 => (r2 = 0 → Q (-1) g1) ∧ (¬ r2 = 0 → M_X10_in g1 x3 1 5 (fun r5 g4 => (r5 = 0 → J_X10_option_0_27 Q g4) ∧ (¬ r5 = 0 → M_X10_in g4 x2 1 x3 (fun r8 g7 => (r8 = 0 → J_X10_option_0_27 Q g7) ∧ (¬ r8 = 0 → vp_in ((0 : Int32) + x1) 18 ∧ vp_in ((4 : Int32) + x1) 18 ∧ ∀ z12 : Int32, z12 = ((10 : Int32) * (g7 1 ((0 : Int32) + x1 : Int32).toNatClampNeg)) + (g7 1 ((4 : Int32) + x1 : Int32).toNatClampNeg) → vp_in ((0 : Int32) + x1) 18 ∧ ∀ g14 : Sg, g14 = va_up g7 1 (upd (g7 1) ((0 : Int32) + x1 : Int32).toNatClampNeg x2) → vp_in ((4 : Int32) + x1) 18 ∧ ∀ g16 : Sg, g16 = va_up g14 1 (upd (g14 1) ((4 : Int32) + x1 : Int32).toNatClampNeg x3) → Q z12 g16))))))
set_option maxHeartbeats 4000000 in
theorem t_X10_option_0_27 {o : Om} {D : va_G} {a : Nat → Nat} {cI cZ : ClassId} {Q : Int32 → Sg → Prop} (C : Cx o D [(cI, .int), (cZ, .boolean)] (rw a cI cZ) RX10 cX10_option (some .int) 2 5) (hQ : RetI o D (rw a cI cZ) Q) {f : Sg} (h : J_X10_option_0_27 Q f) : Go o D (rw a cI cZ) 27 [] [] f := by
  unfold J_X10_option_0_27 at h
  refine g_bipush C (-2) dX10_option_27 (by decide) ?_
  exact g_iret C hQ dX10_option_29 h
set_option maxHeartbeats 4000000 in
theorem c_X10_option_0 (l : Launch) (D : va_G) (a : Nat → Nat) (cI cZ : ClassId) {f : Sg} {x1 : Int32} {x2 : Int32} {x3 : Int32} {Q : Int32 → Sg → Prop} (h : M_X10_option_0 f x1 x2 x3 Q) : MI l D [(cI, .int), (cZ, .boolean)] (rw a cI cZ) yX10_option cX10_option 5 (some .int) (2) [.ref (a 0), .int x1, .int x2, .int x3] f Q := by
  refine mkI (rw_fix a cI cZ) (by decide +kernel) (Nat.le_of_ble_eq_true rfl) (fun o C hQ => ?_)
  show Go o D (rw a cI cZ) 0 [(0, .ref (a 0)), (1, .int x1), (2, .int x2), (3, .int x3)] [] f
  unfold M_X10_option_0 at h
  refine g_iload_n C 1 dX10_option_0 rfl ?_
  refine g_callSi C (As := [.int x1]) (st := []) (fun l => c_X10_isOption l D a cI cZ h) cl_RX10_42 (by omega) rfl (Nat.le_of_ble_eq_true rfl) dX10_option_1 (fun r2 g1 h => ?_)
  refine g_if_ne C 9 dX10_option_4 (by decide) (fun c3 => ?_) (fun c3 => ?_)
  · have h := h.2 c3
    refine g_iload_n C 3 dX10_option_9 rfl ?_
    refine g_iconst C 1 dX10_option_10 (by decide) ?_
    refine g_iconst C 5 dX10_option_11 (by decide) ?_
    refine g_callSi C (As := [.int x3, .int 1, .int 5]) (st := []) (fun l => c_X10_in l D a cI cZ h) cl_RX10_38 (by omega) rfl (Nat.le_of_ble_eq_true rfl) dX10_option_12 (fun r5 g4 h => ?_)
    refine g_if_eq C 27 dX10_option_15 (by decide) (fun c6 => ?_) (fun c6 => ?_)
    · have h := h.1 c6
      refine g_sub (lv' := []) [] rfl ?_
      exact t_X10_option_0_27 C hQ h
    · have h := h.2 c6
      refine g_iload_n C 2 dX10_option_18 rfl ?_
      refine g_iconst C 1 dX10_option_19 (by decide) ?_
      refine g_iload_n C 3 dX10_option_20 rfl ?_
      refine g_callSi C (As := [.int x2, .int 1, .int x3]) (st := []) (fun l => c_X10_in l D a cI cZ h) cl_RX10_38 (by omega) rfl (Nat.le_of_ble_eq_true rfl) dX10_option_21 (fun r8 g7 h => ?_)
      refine g_if_ne C 30 dX10_option_24 (by decide) (fun c9 => ?_) (fun c9 => ?_)
      · have h := h.2 c9
        refine g_bipush C 10 dX10_option_30 (by decide) ?_
        refine g_aload_n C 0 dX10_option_32 rfl ?_
        refine gf_RX10_7_X10 C re_0 rfl dX10_option_33 ?_
        refine g_iconst C 0 dX10_option_36 (by decide) ?_
        refine g_iload_n C 1 dX10_option_37 rfl ?_
        refine g_iadd C dX10_option_38 ?_
        obtain ⟨hi10, h⟩ := h
        refine g_iald C 0 re_1 rfl hi10 dX10_option_39 ?_
        refine g_imul C dX10_option_40 ?_
        refine g_aload_n C 0 dX10_option_41 rfl ?_
        refine gf_RX10_7_X10 C re_0 rfl dX10_option_42 ?_
        refine g_iconst C 4 dX10_option_45 (by decide) ?_
        refine g_iload_n C 1 dX10_option_46 rfl ?_
        refine g_iadd C dX10_option_47 ?_
        obtain ⟨hi11, h⟩ := h
        refine g_iald C 0 re_1 rfl hi11 dX10_option_48 ?_
        refine g_iadd C dX10_option_49 ?_
        refine g_top (fun z12 ez12 => ?_)
        have h := h z12 ez12
        refine g_istore (lv' := [(4, .int z12), (0, .ref (a 0)), (1, .int x1), (2, .int x2), (3, .int x3)]) C dX10_option_50 (by decide) rfl ?_
        refine g_aload_n C 1 dX10_option_52 rfl ?_
        refine gf_RX10_7_X10 C re_0 rfl dX10_option_53 ?_
        refine g_iconst C 0 dX10_option_56 (by decide) ?_
        refine g_iload_n C 2 dX10_option_57 rfl ?_
        refine g_iadd C dX10_option_58 ?_
        refine g_iload_n C 3 dX10_option_59 rfl ?_
        obtain ⟨hi13, h⟩ := h
        obtain ⟨g14, eg14⟩ : ∃ g : Sg, g = va_up g7 1 (upd (g7 1) ((0 : Int32) + x1 : Int32).toNatClampNeg x2) := ⟨_, rfl⟩
        have h := h g14 eg14
        refine g_iast C 0 re_1 rfl (g := g14) (by rw [eg14]; exact rs_1) hi13 dX10_option_60 ?_
        refine g_aload_n C 1 dX10_option_61 rfl ?_
        refine gf_RX10_7_X10 C re_0 rfl dX10_option_62 ?_
        refine g_iconst C 4 dX10_option_65 (by decide) ?_
        refine g_iload_n C 2 dX10_option_66 rfl ?_
        refine g_iadd C dX10_option_67 ?_
        refine g_iload_n C 4 dX10_option_68 rfl ?_
        obtain ⟨hi15, h⟩ := h
        obtain ⟨g16, eg16⟩ : ∃ g : Sg, g = va_up g14 1 (upd (g14 1) ((4 : Int32) + x1 : Int32).toNatClampNeg x3) := ⟨_, rfl⟩
        have h := h g16 eg16
        refine g_iast C 0 re_1 rfl (g := g16) (by rw [eg16]; exact rs_1) hi15 dX10_option_69 ?_
        refine g_iload C 0 dX10_option_70 rfl ?_
        exact g_iret C hQ dX10_option_72 h
      · have h := h.1 c9
        refine g_sub (lv' := []) [] rfl ?_
        exact t_X10_option_0_27 C hQ h
  · have h := h.1 c3
    refine g_iconst C (-1) dX10_option_7 (by decide) ?_
    exact g_iret C hQ dX10_option_8 h
/-! X10_isClass: rank 1 -/
def M_X10_isClass (f : Sg) (x0 : Int32) (Q : Int32 → Sg → Prop) : Prop :=
  M_X10_in f x0 0 4 (fun r2 g1 => narrow .boolean (.int r2) = .int r2 ∧ Q r2 g1)
set_option maxHeartbeats 4000000 in
theorem c_X10_isClass (l : Launch) (D : va_G) (a : Nat → Nat) (cI cZ : ClassId) {f : Sg} {x0 : Int32} {Q : Int32 → Sg → Prop} (h : M_X10_isClass f x0 Q) : MI l D [(cI, .int), (cZ, .boolean)] (rw a cI cZ) yX10_isClass cX10_isClass 1 (some .boolean) (1) [.int x0] f Q := by
  refine mkI (rw_fix a cI cZ) (by decide +kernel) (Nat.le_of_ble_eq_true rfl) (fun o C hQ => ?_)
  show Go o D (rw a cI cZ) 0 [(0, .int x0)] [] f
  unfold M_X10_isClass at h
  refine g_iload_n C 0 dX10_isClass_0 rfl ?_
  refine g_iconst C 0 dX10_isClass_1 (by decide) ?_
  refine g_iconst C 4 dX10_isClass_2 (by decide) ?_
  refine g_callSi C (As := [.int x0, .int 0, .int 4]) (st := []) (fun l => c_X10_in l D a cI cZ h) cl_RX10_38 (by omega) rfl (Nat.le_of_ble_eq_true rfl) dX10_isClass_3 (fun r2 g1 h => ?_)
  exact g_zret C hQ h.1 dX10_isClass_6 h.2
/-! X10_options_0: rank 2 -/
def M_X10_options_0 (f : Sg) (x1 : Int32) (x2 : Int32) (Q : Int32 → Sg → Prop) : Prop :=
  M_X10_isClass f x1 (fun r2 g1 => (r2 = 0 → Q (-1) g1) ∧ (¬ r2 = 0 → M_X10_in g1 x2 0 15 (fun r5 g4 => (r5 = 0 → Q (-2) g4) ∧ (¬ r5 = 0 → vp_in ((8 : Int32) + x1) 18 ∧ ∀ z8 : Int32, z8 = g4 1 ((8 : Int32) + x1 : Int32).toNatClampNeg → vp_in ((8 : Int32) + x1) 18 ∧ ∀ g10 : Sg, g10 = va_up g4 1 (upd (g4 1) ((8 : Int32) + x1 : Int32).toNatClampNeg x2) → Q z8 g10))))
set_option maxHeartbeats 4000000 in
theorem c_X10_options_0 (l : Launch) (D : va_G) (a : Nat → Nat) (cI cZ : ClassId) {f : Sg} {x1 : Int32} {x2 : Int32} {Q : Int32 → Sg → Prop} (h : M_X10_options_0 f x1 x2 Q) : MI l D [(cI, .int), (cZ, .boolean)] (rw a cI cZ) yX10_options cX10_options 4 (some .int) (2) [.ref (a 0), .int x1, .int x2] f Q := by
  refine mkI (rw_fix a cI cZ) (by decide +kernel) (Nat.le_of_ble_eq_true rfl) (fun o C hQ => ?_)
  show Go o D (rw a cI cZ) 0 [(0, .ref (a 0)), (1, .int x1), (2, .int x2)] [] f
  unfold M_X10_options_0 at h
  refine g_iload_n C 1 dX10_options_0 rfl ?_
  refine g_callSi C (As := [.int x1]) (st := []) (fun l => c_X10_isClass l D a cI cZ h) cl_RX10_46 (by omega) rfl (Nat.le_of_ble_eq_true rfl) dX10_options_1 (fun r2 g1 h => ?_)
  refine g_if_ne C 9 dX10_options_4 (by decide) (fun c3 => ?_) (fun c3 => ?_)
  · have h := h.2 c3
    refine g_iload_n C 2 dX10_options_9 rfl ?_
    refine g_iconst C 0 dX10_options_10 (by decide) ?_
    refine g_bipush C 15 dX10_options_11 (by decide) ?_
    refine g_callSi C (As := [.int x2, .int 0, .int 15]) (st := []) (fun l => c_X10_in l D a cI cZ h) cl_RX10_38 (by omega) rfl (Nat.le_of_ble_eq_true rfl) dX10_options_13 (fun r5 g4 h => ?_)
    refine g_if_ne C 22 dX10_options_16 (by decide) (fun c6 => ?_) (fun c6 => ?_)
    · have h := h.2 c6
      refine g_aload_n C 0 dX10_options_22 rfl ?_
      refine gf_RX10_7_X10 C re_0 rfl dX10_options_23 ?_
      refine g_bipush C 8 dX10_options_26 (by decide) ?_
      refine g_iload_n C 1 dX10_options_28 rfl ?_
      refine g_iadd C dX10_options_29 ?_
      obtain ⟨hi7, h⟩ := h
      refine g_iald C 0 re_1 rfl hi7 dX10_options_30 ?_
      refine g_top (fun z8 ez8 => ?_)
      have h := h z8 ez8
      refine g_istore_n (lv' := [(3, .int z8), (0, .ref (a 0)), (1, .int x1), (2, .int x2)]) C dX10_options_31 (by decide) rfl ?_
      refine g_aload_n C 1 dX10_options_32 rfl ?_
      refine gf_RX10_7_X10 C re_0 rfl dX10_options_33 ?_
      refine g_bipush C 8 dX10_options_36 (by decide) ?_
      refine g_iload_n C 2 dX10_options_38 rfl ?_
      refine g_iadd C dX10_options_39 ?_
      refine g_iload_n C 3 dX10_options_40 rfl ?_
      obtain ⟨hi9, h⟩ := h
      obtain ⟨g10, eg10⟩ : ∃ g : Sg, g = va_up g4 1 (upd (g4 1) ((8 : Int32) + x1 : Int32).toNatClampNeg x2) := ⟨_, rfl⟩
      have h := h g10 eg10
      refine g_iast C 0 re_1 rfl (g := g10) (by rw [eg10]; exact rs_1) hi9 dX10_options_41 ?_
      refine g_iload_n C 0 dX10_options_42 rfl ?_
      exact g_iret C hQ dX10_options_43 h
    · have h := h.1 c6
      refine g_bipush C (-2) dX10_options_19 (by decide) ?_
      exact g_iret C hQ dX10_options_21 h
  · have h := h.1 c3
    refine g_iconst C (-1) dX10_options_7 (by decide) ?_
    exact g_iret C hQ dX10_options_8 h
/-! X10_cars_0: rank 0 -/
def B_X10_cars_0_4 (Q : Int32 → Sg → Prop) (K4 : Sg → Int32 → Int32 → Prop) (f : Sg) (x1 : Int32) (x2 : Int32) : Prop :=
  (5 ≤ x2 → Q x1 f) ∧ (¬ 5 ≤ x2 → vp_in ((13 : Int32) + x2) 18 ∧ ∀ z3 : Int32, z3 = x1 + (f 1 ((13 : Int32) + x2 : Int32).toNatClampNeg) → K4 f z3 (x2 + 1))
def M_X10_cars_0 (f : Sg) (Q : Int32 → Sg → Prop) : Prop :=
  ∃ n : Nat, itr2 (B_X10_cars_0_4 Q) n f 0 0
set_option maxHeartbeats 4000000 in
theorem t_X10_cars_0_4 {o : Om} {D : va_G} {a : Nat → Nat} {cI cZ : ClassId} {Q : Int32 → Sg → Prop} (C : Cx o D [(cI, .int), (cZ, .boolean)] (rw a cI cZ) RX10 cX10_cars (some .int) 0 3) (hQ : RetI o D (rw a cI cZ) Q) : ∀ (n : Nat) (f : Sg) (x1 : Int32) (x2 : Int32), itr2 (B_X10_cars_0_4 Q) n f x1 x2 → Go o D (rw a cI cZ) 4 [(0, .ref (a 0)), (1, .int x1), (2, .int x2)] [] f := by
  intro n
  induction n with
  | zero => intro f x1 x2 h; exact h.elim
  | succ n ih =>
    intro f x1 x2 h
    have h : B_X10_cars_0_4 Q (itr2 (B_X10_cars_0_4 Q) n) f x1 x2 := h
    have hK4 := ih
    generalize itr2 (B_X10_cars_0_4 Q) n = K4 at h hK4
    clear ih
    unfold B_X10_cars_0_4 at h
    refine g_iload_n C 2 dX10_cars_4 rfl ?_
    refine g_iconst C 5 dX10_cars_5 (by decide) ?_
    refine g_icmp_ge C 27 dX10_cars_6 (by decide) (fun c1 => ?_) (fun c1 => ?_)
    · have h := h.1 c1
      refine g_iload_n C 1 dX10_cars_27 rfl ?_
      exact g_iret C hQ dX10_cars_28 h
    · have h := h.2 c1
      refine g_iload_n C 1 dX10_cars_9 rfl ?_
      refine g_aload_n C 0 dX10_cars_10 rfl ?_
      refine gf_RX10_7_X10 C re_0 rfl dX10_cars_11 ?_
      refine g_bipush C 13 dX10_cars_14 (by decide) ?_
      refine g_iload_n C 2 dX10_cars_16 rfl ?_
      refine g_iadd C dX10_cars_17 ?_
      obtain ⟨hi2, h⟩ := h
      refine g_iald C 0 re_1 rfl hi2 dX10_cars_18 ?_
      refine g_iadd C dX10_cars_19 ?_
      refine g_top (fun z3 ez3 => ?_)
      have h := h z3 ez3
      refine g_istore_n (lv' := [(1, .int z3), (0, .ref (a 0)), (2, .int x2)]) C dX10_cars_20 (by decide) rfl ?_
      refine g_iinc (lv' := [(2, .int (x2 + 1)), (1, .int z3), (0, .ref (a 0))]) C 2 dX10_cars_21 rfl rfl (by decide) rfl ?_
      refine g_goto C 4 dX10_cars_24 (by decide) ?_
      refine g_sub (lv' := [(0, .ref (a 0)), (1, .int z3), (2, .int (x2 + 1))]) [2, 1, 0] rfl ?_
      exact hK4 f z3 (x2 + 1) h
set_option maxHeartbeats 4000000 in
theorem c_X10_cars_0 (l : Launch) (D : va_G) (a : Nat → Nat) (cI cZ : ClassId) {f : Sg} {Q : Int32 → Sg → Prop} (h : M_X10_cars_0 f Q) : MI l D [(cI, .int), (cZ, .boolean)] (rw a cI cZ) yX10_cars cX10_cars 3 (some .int) (0) [.ref (a 0)] f Q := by
  refine mkI (rw_fix a cI cZ) (by decide +kernel) (Nat.le_of_ble_eq_true rfl) (fun o C hQ => ?_)
  show Go o D (rw a cI cZ) 0 [(0, .ref (a 0))] [] f
  unfold M_X10_cars_0 at h
  refine g_iconst C 0 dX10_cars_0 (by decide) ?_
  refine g_istore_n (lv' := [(1, .int 0), (0, .ref (a 0))]) C dX10_cars_1 (by decide) rfl ?_
  refine g_iconst C 0 dX10_cars_2 (by decide) ?_
  refine g_istore_n (lv' := [(2, .int 0), (1, .int 0), (0, .ref (a 0))]) C dX10_cars_3 (by decide) rfl ?_
  refine g_sub (lv' := [(0, .ref (a 0)), (1, .int 0), (2, .int 0)]) [2, 1, 0] rfl ?_
  obtain ⟨n, h⟩ := h
  exact t_X10_cars_0_4 C hQ n f 0 0 h
/-! X10_demand_0: rank 2 -/
def M_X10_demand_0 (f : Sg) (x1 : Int32) (x2 : Int32) (Q : Int32 → Sg → Prop) : Prop :=
  M_X10_isClass f x1 (fun r2 g1 => (r2 = 0 → Q (-1) g1) ∧ (¬ r2 = 0 → M_X10_in g1 x2 0 9 (fun r5 g4 => (r5 = 0 → Q (-2) g4) ∧ (¬ r5 = 0 → M_X10_cars_0 g4 (fun r8 g7 => vp_in ((13 : Int32) + x1) 18 ∧ (((r8 - (g7 1 ((13 : Int32) + x1 : Int32).toNatClampNeg)) + x2) ≤ 9 → vp_in ((13 : Int32) + x1) 18 ∧ ∀ g12 : Sg, g12 = va_up g7 1 (upd (g7 1) ((13 : Int32) + x1 : Int32).toNatClampNeg x2) → M_X10_cars_0 g12 (fun r14 g13 => Q r14 g13)) ∧ (¬ ((r8 - (g7 1 ((13 : Int32) + x1 : Int32).toNatClampNeg)) + x2) ≤ 9 → Q (-4) g7))))))
set_option maxHeartbeats 4000000 in
theorem c_X10_demand_0 (l : Launch) (D : va_G) (a : Nat → Nat) (cI cZ : ClassId) {f : Sg} {x1 : Int32} {x2 : Int32} {Q : Int32 → Sg → Prop} (h : M_X10_demand_0 f x1 x2 Q) : MI l D [(cI, .int), (cZ, .boolean)] (rw a cI cZ) yX10_demand cX10_demand 3 (some .int) (2) [.ref (a 0), .int x1, .int x2] f Q := by
  refine mkI (rw_fix a cI cZ) (by decide +kernel) (Nat.le_of_ble_eq_true rfl) (fun o C hQ => ?_)
  show Go o D (rw a cI cZ) 0 [(0, .ref (a 0)), (1, .int x1), (2, .int x2)] [] f
  unfold M_X10_demand_0 at h
  refine g_iload_n C 1 dX10_demand_0 rfl ?_
  refine g_callSi C (As := [.int x1]) (st := []) (fun l => c_X10_isClass l D a cI cZ h) cl_RX10_46 (by omega) rfl (Nat.le_of_ble_eq_true rfl) dX10_demand_1 (fun r2 g1 h => ?_)
  refine g_if_ne C 9 dX10_demand_4 (by decide) (fun c3 => ?_) (fun c3 => ?_)
  · have h := h.2 c3
    refine g_iload_n C 2 dX10_demand_9 rfl ?_
    refine g_iconst C 0 dX10_demand_10 (by decide) ?_
    refine g_bipush C 9 dX10_demand_11 (by decide) ?_
    refine g_callSi C (As := [.int x2, .int 0, .int 9]) (st := []) (fun l => c_X10_in l D a cI cZ h) cl_RX10_38 (by omega) rfl (Nat.le_of_ble_eq_true rfl) dX10_demand_13 (fun r5 g4 h => ?_)
    refine g_if_ne C 22 dX10_demand_16 (by decide) (fun c6 => ?_) (fun c6 => ?_)
    · have h := h.2 c6
      refine g_aload_n C 0 dX10_demand_22 rfl ?_
      refine g_callVi C (As := []) (st := []) (fun l => c_X10_cars_0 l D a cI cZ h) cl_RX10_49_X10 rfl re_0 (by omega) rfl (Nat.le_of_ble_eq_true rfl) dX10_demand_23 (fun r8 g7 h => ?_)
      refine g_aload_n C 0 dX10_demand_26 rfl ?_
      refine gf_RX10_7_X10 C re_0 rfl dX10_demand_27 ?_
      refine g_bipush C 13 dX10_demand_30 (by decide) ?_
      refine g_iload_n C 1 dX10_demand_32 rfl ?_
      refine g_iadd C dX10_demand_33 ?_
      obtain ⟨hi9, h⟩ := h
      refine g_iald C 0 re_1 rfl hi9 dX10_demand_34 ?_
      refine g_isub C dX10_demand_35 ?_
      refine g_iload_n C 2 dX10_demand_36 rfl ?_
      refine g_iadd C dX10_demand_37 ?_
      refine g_bipush C 9 dX10_demand_38 (by decide) ?_
      refine g_icmp_le C 46 dX10_demand_40 (by decide) (fun c10 => ?_) (fun c10 => ?_)
      · have h := h.1 c10
        refine g_aload_n C 0 dX10_demand_46 rfl ?_
        refine gf_RX10_7_X10 C re_0 rfl dX10_demand_47 ?_
        refine g_bipush C 13 dX10_demand_50 (by decide) ?_
        refine g_iload_n C 1 dX10_demand_52 rfl ?_
        refine g_iadd C dX10_demand_53 ?_
        refine g_iload_n C 2 dX10_demand_54 rfl ?_
        obtain ⟨hi11, h⟩ := h
        obtain ⟨g12, eg12⟩ : ∃ g : Sg, g = va_up g7 1 (upd (g7 1) ((13 : Int32) + x1 : Int32).toNatClampNeg x2) := ⟨_, rfl⟩
        have h := h g12 eg12
        refine g_iast C 0 re_1 rfl (g := g12) (by rw [eg12]; exact rs_1) hi11 dX10_demand_55 ?_
        refine g_aload_n C 0 dX10_demand_56 rfl ?_
        refine g_callVi C (As := []) (st := []) (fun l => c_X10_cars_0 l D a cI cZ h) cl_RX10_49_X10 rfl re_0 (by omega) rfl (Nat.le_of_ble_eq_true rfl) dX10_demand_57 (fun r14 g13 h => ?_)
        exact g_iret C hQ dX10_demand_60 h
      · have h := h.2 c10
        refine g_bipush C (-4) dX10_demand_43 (by decide) ?_
        exact g_iret C hQ dX10_demand_45 h
    · have h := h.1 c6
      refine g_bipush C (-2) dX10_demand_19 (by decide) ?_
      exact g_iret C hQ dX10_demand_21 h
  · have h := h.1 c3
    refine g_iconst C (-1) dX10_demand_7 (by decide) ?_
    exact g_iret C hQ dX10_demand_8 h
/-! X10_told_0: rank 2 -/
def J_X10_told_0_44 (Q : Int32 → Sg → Prop) (f : Sg) (s0 : Int32) : Prop :=
  Q s0 f
def M_X10_told_0 (f : Sg) (x1 : Int32) (x2 : Int32) (Q : Int32 → Sg → Prop) : Prop :=
  M_X10_isClass f x1 (fun r2 g1 => (r2 = 0 → Q (-1) g1) ∧ (¬ r2 = 0 → (x2 = 0 → vp_in ((8 : Int32) + x1) 18 ∧ J_X10_told_0_44 Q g1 (g1 1 ((8 : Int32) + x1 : Int32).toNatClampNeg)) ∧ (¬ x2 = 0 → (x2 = 1 → vp_in ((13 : Int32) + x1) 18 ∧ J_X10_told_0_44 Q g1 (g1 1 ((13 : Int32) + x1 : Int32).toNatClampNeg)) ∧ (¬ x2 = 1 → J_X10_told_0_44 Q g1 (-2)))))
set_option maxHeartbeats 4000000 in
theorem t_X10_told_0_44 {o : Om} {D : va_G} {a : Nat → Nat} {cI cZ : ClassId} {Q : Int32 → Sg → Prop} (C : Cx o D [(cI, .int), (cZ, .boolean)] (rw a cI cZ) RX10 cX10_told (some .int) 2 3) (hQ : RetI o D (rw a cI cZ) Q) {f : Sg} {s0 : Int32} (h : J_X10_told_0_44 Q f s0) : Go o D (rw a cI cZ) 44 [] [.int s0] f := by
  unfold J_X10_told_0_44 at h
  exact g_iret C hQ dX10_told_44 h
set_option maxHeartbeats 4000000 in
theorem c_X10_told_0 (l : Launch) (D : va_G) (a : Nat → Nat) (cI cZ : ClassId) {f : Sg} {x1 : Int32} {x2 : Int32} {Q : Int32 → Sg → Prop} (h : M_X10_told_0 f x1 x2 Q) : MI l D [(cI, .int), (cZ, .boolean)] (rw a cI cZ) yX10_told cX10_told 3 (some .int) (2) [.ref (a 0), .int x1, .int x2] f Q := by
  refine mkI (rw_fix a cI cZ) (by decide +kernel) (Nat.le_of_ble_eq_true rfl) (fun o C hQ => ?_)
  show Go o D (rw a cI cZ) 0 [(0, .ref (a 0)), (1, .int x1), (2, .int x2)] [] f
  unfold M_X10_told_0 at h
  refine g_iload_n C 1 dX10_told_0 rfl ?_
  refine g_callSi C (As := [.int x1]) (st := []) (fun l => c_X10_isClass l D a cI cZ h) cl_RX10_46 (by omega) rfl (Nat.le_of_ble_eq_true rfl) dX10_told_1 (fun r2 g1 h => ?_)
  refine g_if_ne C 9 dX10_told_4 (by decide) (fun c3 => ?_) (fun c3 => ?_)
  · have h := h.2 c3
    refine g_iload_n C 2 dX10_told_9 rfl ?_
    refine g_if_ne C 25 dX10_told_10 (by decide) (fun c4 => ?_) (fun c4 => ?_)
    · have h := h.2 c4
      refine g_iload_n C 2 dX10_told_25 rfl ?_
      refine g_iconst C 1 dX10_told_26 (by decide) ?_
      refine g_icmp_ne C 42 dX10_told_27 (by decide) (fun c5 => ?_) (fun c5 => ?_)
      · have h := h.2 c5
        refine g_bipush C (-2) dX10_told_42 (by decide) ?_
        refine g_sub (lv' := []) [] rfl ?_
        exact t_X10_told_0_44 C hQ h
      · have h := h.1 c5
        refine g_aload_n C 0 dX10_told_30 rfl ?_
        refine gf_RX10_7_X10 C re_0 rfl dX10_told_31 ?_
        refine g_bipush C 13 dX10_told_34 (by decide) ?_
        refine g_iload_n C 1 dX10_told_36 rfl ?_
        refine g_iadd C dX10_told_37 ?_
        obtain ⟨hi6, h⟩ := h
        refine g_iald C 0 re_1 rfl hi6 dX10_told_38 ?_
        refine g_goto C 44 dX10_told_39 (by decide) ?_
        refine g_sub (lv' := []) [] rfl ?_
        exact t_X10_told_0_44 C hQ h
    · have h := h.1 c4
      refine g_aload_n C 0 dX10_told_13 rfl ?_
      refine gf_RX10_7_X10 C re_0 rfl dX10_told_14 ?_
      refine g_bipush C 8 dX10_told_17 (by decide) ?_
      refine g_iload_n C 1 dX10_told_19 rfl ?_
      refine g_iadd C dX10_told_20 ?_
      obtain ⟨hi7, h⟩ := h
      refine g_iald C 0 re_1 rfl hi7 dX10_told_21 ?_
      refine g_goto C 44 dX10_told_22 (by decide) ?_
      refine g_sub (lv' := []) [] rfl ?_
      exact t_X10_told_0_44 C hQ h
  · have h := h.1 c3
    refine g_iconst C (-1) dX10_told_7 (by decide) ?_
    exact g_iret C hQ dX10_told_8 h
/-! X10_has_0: rank 0 -/
def J_X10_has_0_22 (Q : Int32 → Sg → Prop) (f : Sg) (s0 : Int32) : Prop :=
  narrow .boolean (.int s0) = .int s0 ∧ Q s0 f
def M_X10_has_0 (f : Sg) (x1 : Int32) (x2 : Int32) (Q : Int32 → Sg → Prop) : Prop :=
  vp_in ((8 : Int32) + x1) 18 ∧ ((((f 1 ((8 : Int32) + x1 : Int32).toNatClampNeg) >>> (x2 &&& 31)) &&& 1) = 1 → J_X10_has_0_22 Q f 1) ∧ (¬ (((f 1 ((8 : Int32) + x1 : Int32).toNatClampNeg) >>> (x2 &&& 31)) &&& 1) = 1 → J_X10_has_0_22 Q f 0)
set_option maxHeartbeats 4000000 in
theorem t_X10_has_0_22 {o : Om} {D : va_G} {a : Nat → Nat} {cI cZ : ClassId} {Q : Int32 → Sg → Prop} (C : Cx o D [(cI, .int), (cZ, .boolean)] (rw a cI cZ) RX10 cX10_has (some .boolean) 0 3) (hQ : RetI o D (rw a cI cZ) Q) {f : Sg} {s0 : Int32} (h : J_X10_has_0_22 Q f s0) : Go o D (rw a cI cZ) 22 [] [.int s0] f := by
  unfold J_X10_has_0_22 at h
  exact g_zret C hQ h.1 dX10_has_22 h.2
set_option maxHeartbeats 4000000 in
theorem c_X10_has_0 (l : Launch) (D : va_G) (a : Nat → Nat) (cI cZ : ClassId) {f : Sg} {x1 : Int32} {x2 : Int32} {Q : Int32 → Sg → Prop} (h : M_X10_has_0 f x1 x2 Q) : MI l D [(cI, .int), (cZ, .boolean)] (rw a cI cZ) yX10_has cX10_has 3 (some .boolean) (0) [.ref (a 0), .int x1, .int x2] f Q := by
  refine mkI (rw_fix a cI cZ) (by decide +kernel) (Nat.le_of_ble_eq_true rfl) (fun o C hQ => ?_)
  show Go o D (rw a cI cZ) 0 [(0, .ref (a 0)), (1, .int x1), (2, .int x2)] [] f
  unfold M_X10_has_0 at h
  refine g_aload_n C 0 dX10_has_0 rfl ?_
  refine gf_RX10_7_X10 C re_0 rfl dX10_has_1 ?_
  refine g_bipush C 8 dX10_has_4 (by decide) ?_
  refine g_iload_n C 1 dX10_has_6 rfl ?_
  refine g_iadd C dX10_has_7 ?_
  obtain ⟨hi1, h⟩ := h
  refine g_iald C 0 re_1 rfl hi1 dX10_has_8 ?_
  refine g_iload_n C 2 dX10_has_9 rfl ?_
  refine g_ishr C dX10_has_10 ?_
  refine g_iconst C 1 dX10_has_11 (by decide) ?_
  refine g_iand C dX10_has_12 ?_
  refine g_iconst C 1 dX10_has_13 (by decide) ?_
  refine g_icmp_ne C 21 dX10_has_14 (by decide) (fun c2 => ?_) (fun c2 => ?_)
  · have h := h.2 c2
    refine g_iconst C 0 dX10_has_21 (by decide) ?_
    refine g_sub (lv' := []) [] rfl ?_
    exact t_X10_has_0_22 C hQ h
  · have h := h.1 c2
    refine g_iconst C 1 dX10_has_17 (by decide) ?_
    refine g_goto C 22 dX10_has_18 (by decide) ?_
    refine g_sub (lv' := []) [] rfl ?_
    exact t_X10_has_0_22 C hQ h
/-! X10_wanted_0: rank 1 -/
def J_X10_wanted_0_32 (Q : Int32 → Sg → Prop) (K4 : Sg → Int32 → Int32 → Int32 → Prop) (f : Sg) (x1 : Int32) (x3 : Int32) (s0 : Int32) (s1 : Int32) : Prop :=
  ∀ z5 : Int32, z5 = s1 + s0 → K4 f x1 z5 (x3 + 1)
def B_X10_wanted_0_4 (Q : Int32 → Sg → Prop) (K4 : Sg → Int32 → Int32 → Int32 → Prop) (f : Sg) (x1 : Int32) (x2 : Int32) (x3 : Int32) : Prop :=
  (5 ≤ x3 → Q x2 f) ∧ (¬ 5 ≤ x3 → M_X10_has_0 f x3 x1 (fun r3 g2 => (r3 = 0 → J_X10_wanted_0_32 Q K4 g2 x1 x3 0 x2) ∧ (¬ r3 = 0 → vp_in ((13 : Int32) + x3) 18 ∧ J_X10_wanted_0_32 Q K4 g2 x1 x3 (g2 1 ((13 : Int32) + x3 : Int32).toNatClampNeg) x2)))
def M_X10_wanted_0 (f : Sg) (x1 : Int32) (Q : Int32 → Sg → Prop) : Prop :=
  ∃ n : Nat, itr3 (B_X10_wanted_0_4 Q) n f x1 0 0
set_option maxHeartbeats 4000000 in
theorem t_X10_wanted_0_32 {o : Om} {D : va_G} {a : Nat → Nat} {cI cZ : ClassId} {Q : Int32 → Sg → Prop} {K4 : Sg → Int32 → Int32 → Int32 → Prop} (C : Cx o D [(cI, .int), (cZ, .boolean)] (rw a cI cZ) RX10 cX10_wanted (some .int) 1 4) (hQ : RetI o D (rw a cI cZ) Q) (hK4 : ∀ (g : Sg) (x1 : Int32) (x2 : Int32) (x3 : Int32), K4 g x1 x2 x3 → Go o D (rw a cI cZ) 4 [(0, .ref (a 0)), (1, .int x1), (2, .int x2), (3, .int x3)] [] g) {f : Sg} {x1 : Int32} {x3 : Int32} {s0 : Int32} {s1 : Int32} (h : J_X10_wanted_0_32 Q K4 f x1 x3 s0 s1) : Go o D (rw a cI cZ) 32 [(0, .ref (a 0)), (1, .int x1), (3, .int x3)] [.int s0, .int s1] f := by
  unfold J_X10_wanted_0_32 at h
  refine g_iadd C dX10_wanted_32 ?_
  refine g_top (fun z5 ez5 => ?_)
  have h := h z5 ez5
  refine g_istore_n (lv' := [(2, .int z5), (0, .ref (a 0)), (1, .int x1), (3, .int x3)]) C dX10_wanted_33 (by decide) rfl ?_
  refine g_iinc (lv' := [(3, .int (x3 + 1)), (2, .int z5), (0, .ref (a 0)), (1, .int x1)]) C 3 dX10_wanted_34 rfl rfl (by decide) rfl ?_
  refine g_goto C 4 dX10_wanted_37 (by decide) ?_
  refine g_sub (lv' := [(0, .ref (a 0)), (1, .int x1), (2, .int z5), (3, .int (x3 + 1))]) [2, 3, 1, 0] rfl ?_
  exact hK4 f x1 z5 (x3 + 1) h
set_option maxHeartbeats 4000000 in
theorem t_X10_wanted_0_4 {o : Om} {D : va_G} {a : Nat → Nat} {cI cZ : ClassId} {Q : Int32 → Sg → Prop} (C : Cx o D [(cI, .int), (cZ, .boolean)] (rw a cI cZ) RX10 cX10_wanted (some .int) 1 4) (hQ : RetI o D (rw a cI cZ) Q) : ∀ (n : Nat) (f : Sg) (x1 : Int32) (x2 : Int32) (x3 : Int32), itr3 (B_X10_wanted_0_4 Q) n f x1 x2 x3 → Go o D (rw a cI cZ) 4 [(0, .ref (a 0)), (1, .int x1), (2, .int x2), (3, .int x3)] [] f := by
  intro n
  induction n with
  | zero => intro f x1 x2 x3 h; exact h.elim
  | succ n ih =>
    intro f x1 x2 x3 h
    have h : B_X10_wanted_0_4 Q (itr3 (B_X10_wanted_0_4 Q) n) f x1 x2 x3 := h
    have hK4 := ih
    generalize itr3 (B_X10_wanted_0_4 Q) n = K4 at h hK4
    clear ih
    unfold B_X10_wanted_0_4 at h
    refine g_iload_n C 3 dX10_wanted_4 rfl ?_
    refine g_iconst C 5 dX10_wanted_5 (by decide) ?_
    refine g_icmp_ge C 40 dX10_wanted_6 (by decide) (fun c1 => ?_) (fun c1 => ?_)
    · have h := h.1 c1
      refine g_iload_n C 2 dX10_wanted_40 rfl ?_
      exact g_iret C hQ dX10_wanted_41 h
    · have h := h.2 c1
      refine g_iload_n C 2 dX10_wanted_9 rfl ?_
      refine g_aload_n C 0 dX10_wanted_10 rfl ?_
      refine g_iload_n C 3 dX10_wanted_11 rfl ?_
      refine g_iload_n C 1 dX10_wanted_12 rfl ?_
      refine g_callVi C (As := [.int x3, .int x1]) (st := [.int x2]) (fun l => c_X10_has_0 l D a cI cZ h) cl_RX10_53_X10 rfl re_0 (by omega) rfl (Nat.le_of_ble_eq_true rfl) dX10_wanted_13 (fun r3 g2 h => ?_)
      refine g_if_eq C 31 dX10_wanted_16 (by decide) (fun c4 => ?_) (fun c4 => ?_)
      · have h := h.1 c4
        refine g_iconst C 0 dX10_wanted_31 (by decide) ?_
        refine g_sub (lv' := [(0, .ref (a 0)), (1, .int x1), (3, .int x3)]) [0, 1, 3] rfl ?_
        exact t_X10_wanted_0_32 C hQ hK4 h
      · have h := h.2 c4
        refine g_aload_n C 0 dX10_wanted_19 rfl ?_
        refine gf_RX10_7_X10 C re_0 rfl dX10_wanted_20 ?_
        refine g_bipush C 13 dX10_wanted_23 (by decide) ?_
        refine g_iload_n C 3 dX10_wanted_25 rfl ?_
        refine g_iadd C dX10_wanted_26 ?_
        obtain ⟨hi6, h⟩ := h
        refine g_iald C 0 re_1 rfl hi6 dX10_wanted_27 ?_
        refine g_goto C 32 dX10_wanted_28 (by decide) ?_
        refine g_sub (lv' := [(0, .ref (a 0)), (1, .int x1), (3, .int x3)]) [0, 1, 3] rfl ?_
        exact t_X10_wanted_0_32 C hQ hK4 h
set_option maxHeartbeats 4000000 in
theorem c_X10_wanted_0 (l : Launch) (D : va_G) (a : Nat → Nat) (cI cZ : ClassId) {f : Sg} {x1 : Int32} {Q : Int32 → Sg → Prop} (h : M_X10_wanted_0 f x1 Q) : MI l D [(cI, .int), (cZ, .boolean)] (rw a cI cZ) yX10_wanted cX10_wanted 4 (some .int) (1) [.ref (a 0), .int x1] f Q := by
  refine mkI (rw_fix a cI cZ) (by decide +kernel) (Nat.le_of_ble_eq_true rfl) (fun o C hQ => ?_)
  show Go o D (rw a cI cZ) 0 [(0, .ref (a 0)), (1, .int x1)] [] f
  unfold M_X10_wanted_0 at h
  refine g_iconst C 0 dX10_wanted_0 (by decide) ?_
  refine g_istore_n (lv' := [(2, .int 0), (0, .ref (a 0)), (1, .int x1)]) C dX10_wanted_1 (by decide) rfl ?_
  refine g_iconst C 0 dX10_wanted_2 (by decide) ?_
  refine g_istore_n (lv' := [(3, .int 0), (2, .int 0), (0, .ref (a 0)), (1, .int x1)]) C dX10_wanted_3 (by decide) rfl ?_
  refine g_sub (lv' := [(0, .ref (a 0)), (1, .int x1), (2, .int 0), (3, .int 0)]) [2, 3, 1, 0] rfl ?_
  obtain ⟨n, h⟩ := h
  exact t_X10_wanted_0_4 C hQ n f x1 0 0 h
/-! X10_less: rank 0 -/
def J_X10_less_10 (Q : Int32 → Sg → Prop) (f : Sg) (s0 : Int32) : Prop :=
  Q s0 f
def M_X10_less (f : Sg) (x0 : Int32) (x1 : Int32) (Q : Int32 → Sg → Prop) : Prop :=
  (x1 ≤ x0 → J_X10_less_10 Q f x1) ∧ (¬ x1 ≤ x0 → J_X10_less_10 Q f x0)
set_option maxHeartbeats 4000000 in
theorem t_X10_less_10 {o : Om} {D : va_G} {a : Nat → Nat} {cI cZ : ClassId} {Q : Int32 → Sg → Prop} (C : Cx o D [(cI, .int), (cZ, .boolean)] (rw a cI cZ) RX10 cX10_less (some .int) 0 2) (hQ : RetI o D (rw a cI cZ) Q) {f : Sg} {s0 : Int32} (h : J_X10_less_10 Q f s0) : Go o D (rw a cI cZ) 10 [] [.int s0] f := by
  unfold J_X10_less_10 at h
  exact g_iret C hQ dX10_less_10 h
set_option maxHeartbeats 4000000 in
theorem c_X10_less (l : Launch) (D : va_G) (a : Nat → Nat) (cI cZ : ClassId) {f : Sg} {x0 : Int32} {x1 : Int32} {Q : Int32 → Sg → Prop} (h : M_X10_less f x0 x1 Q) : MI l D [(cI, .int), (cZ, .boolean)] (rw a cI cZ) yX10_less cX10_less 2 (some .int) (0) [.int x0, .int x1] f Q := by
  refine mkI (rw_fix a cI cZ) (by decide +kernel) (Nat.le_of_ble_eq_true rfl) (fun o C hQ => ?_)
  show Go o D (rw a cI cZ) 0 [(0, .int x0), (1, .int x1)] [] f
  unfold M_X10_less at h
  refine g_iload_n C 0 dX10_less_0 rfl ?_
  refine g_iload_n C 1 dX10_less_1 rfl ?_
  refine g_icmp_ge C 9 dX10_less_2 (by decide) (fun c1 => ?_) (fun c1 => ?_)
  · have h := h.1 c1
    refine g_iload_n C 1 dX10_less_9 rfl ?_
    refine g_sub (lv' := []) [] rfl ?_
    exact t_X10_less_10 C hQ h
  · have h := h.2 c1
    refine g_iload_n C 0 dX10_less_5 rfl ?_
    refine g_goto C 10 dX10_less_6 (by decide) ?_
    refine g_sub (lv' := []) [] rfl ?_
    exact t_X10_less_10 C hQ h
/-! X10_room_0: rank 1 -/
def M_X10_room_0 (f : Sg) (x1 : Int32) (Q : Int32 → Sg → Prop) : Prop :=
  vp_in ((0 : Int32) + x1) 18 ∧ ∀ z2 : Int32, z2 = f 1 ((0 : Int32) + x1 : Int32).toNatClampNeg → vp_in ((4 : Int32) + x1) 18 ∧ ∀ z4 : Int32, z4 = f 1 ((4 : Int32) + x1 : Int32).toNatClampNeg → M_X10_cars_0 f (fun r6 g5 => ¬ z4 = 0 ∧ M_X10_cars_0 g5 (fun r9 g8 => ¬ z4 = 0 ∧ M_X10_less g8 z2 (r9 - r9 / z4 * z4) (fun r12 g11 => Q ((z2 * (r6 / z4)) + r12) g11)))
set_option maxHeartbeats 4000000 in
theorem c_X10_room_0 (l : Launch) (D : va_G) (a : Nat → Nat) (cI cZ : ClassId) {f : Sg} {x1 : Int32} {Q : Int32 → Sg → Prop} (h : M_X10_room_0 f x1 Q) : MI l D [(cI, .int), (cZ, .boolean)] (rw a cI cZ) yX10_room cX10_room 4 (some .int) (1) [.ref (a 0), .int x1] f Q := by
  refine mkI (rw_fix a cI cZ) (by decide +kernel) (Nat.le_of_ble_eq_true rfl) (fun o C hQ => ?_)
  show Go o D (rw a cI cZ) 0 [(0, .ref (a 0)), (1, .int x1)] [] f
  unfold M_X10_room_0 at h
  refine g_aload_n C 0 dX10_room_0 rfl ?_
  refine gf_RX10_7_X10 C re_0 rfl dX10_room_1 ?_
  refine g_iconst C 0 dX10_room_4 (by decide) ?_
  refine g_iload_n C 1 dX10_room_5 rfl ?_
  refine g_iadd C dX10_room_6 ?_
  obtain ⟨hi1, h⟩ := h
  refine g_iald C 0 re_1 rfl hi1 dX10_room_7 ?_
  refine g_top (fun z2 ez2 => ?_)
  have h := h z2 ez2
  refine g_istore_n (lv' := [(2, .int z2), (0, .ref (a 0)), (1, .int x1)]) C dX10_room_8 (by decide) rfl ?_
  refine g_aload_n C 1 dX10_room_9 rfl ?_
  refine gf_RX10_7_X10 C re_0 rfl dX10_room_10 ?_
  refine g_iconst C 4 dX10_room_13 (by decide) ?_
  refine g_iload_n C 2 dX10_room_14 rfl ?_
  refine g_iadd C dX10_room_15 ?_
  obtain ⟨hi3, h⟩ := h
  refine g_iald C 0 re_1 rfl hi3 dX10_room_16 ?_
  refine g_top (fun z4 ez4 => ?_)
  have h := h z4 ez4
  refine g_istore_n (lv' := [(3, .int z4), (2, .int z2), (0, .ref (a 0)), (1, .int x1)]) C dX10_room_17 (by decide) rfl ?_
  refine g_iload_n C 1 dX10_room_18 rfl ?_
  refine g_aload_n C 2 dX10_room_19 rfl ?_
  refine g_callVi C (As := []) (st := [.int z2]) (fun l => c_X10_cars_0 l D a cI cZ h) cl_RX10_49_X10 rfl re_0 (by omega) rfl (Nat.le_of_ble_eq_true rfl) dX10_room_20 (fun r6 g5 h => ?_)
  refine g_iload_n C 0 dX10_room_23 rfl ?_
  obtain ⟨hn7, h⟩ := h
  refine g_idiv C dX10_room_24 hn7 ?_
  refine g_imul C dX10_room_25 ?_
  refine g_iload_n C 1 dX10_room_26 rfl ?_
  refine g_aload_n C 2 dX10_room_27 rfl ?_
  refine g_callVi C (As := []) (st := [.int z2, .int (z2 * (r6 / z4))]) (fun l => c_X10_cars_0 l D a cI cZ h) cl_RX10_49_X10 rfl re_0 (by omega) rfl (Nat.le_of_ble_eq_true rfl) dX10_room_28 (fun r9 g8 h => ?_)
  refine g_iload_n C 0 dX10_room_31 rfl ?_
  obtain ⟨hn10, h⟩ := h
  refine g_irem C dX10_room_32 hn10 ?_
  refine g_callSi C (As := [.int z2, .int (r9 - r9 / z4 * z4)]) (st := [.int (z2 * (r6 / z4))]) (fun l => c_X10_less l D a cI cZ h) cl_RX10_57 (by omega) rfl (Nat.le_of_ble_eq_true rfl) dX10_room_33 (fun r12 g11 h => ?_)
  refine g_iadd C dX10_room_36 ?_
  exact g_iret C hQ dX10_room_37 h
/-! X10_of_0: rank 2 -/
def M_X10_of_0 (f : Sg) (x1 : Int32) (x2 : Int32) (Q : Int32 → Sg → Prop) : Prop :=
  M_X10_isOption f x1 (fun r2 g1 => (r2 = 0 → Q (-1) g1) ∧ (¬ r2 = 0 → (x2 = 0 → vp_in ((0 : Int32) + x1) 18 ∧ Q (g1 1 ((0 : Int32) + x1 : Int32).toNatClampNeg) g1) ∧ (¬ x2 = 0 → (x2 = 1 → vp_in ((4 : Int32) + x1) 18 ∧ Q (g1 1 ((4 : Int32) + x1 : Int32).toNatClampNeg) g1) ∧ (¬ x2 = 1 → (x2 = 2 → M_X10_wanted_0 g1 x1 (fun r10 g9 => Q r10 g9)) ∧ (¬ x2 = 2 → (x2 = 3 → M_X10_room_0 g1 x1 (fun r13 g12 => Q r13 g12)) ∧ (¬ x2 = 3 → Q (-2) g1))))))
set_option maxHeartbeats 4000000 in
theorem c_X10_of_0 (l : Launch) (D : va_G) (a : Nat → Nat) (cI cZ : ClassId) {f : Sg} {x1 : Int32} {x2 : Int32} {Q : Int32 → Sg → Prop} (h : M_X10_of_0 f x1 x2 Q) : MI l D [(cI, .int), (cZ, .boolean)] (rw a cI cZ) yX10_of cX10_of 3 (some .int) (2) [.ref (a 0), .int x1, .int x2] f Q := by
  refine mkI (rw_fix a cI cZ) (by decide +kernel) (Nat.le_of_ble_eq_true rfl) (fun o C hQ => ?_)
  show Go o D (rw a cI cZ) 0 [(0, .ref (a 0)), (1, .int x1), (2, .int x2)] [] f
  unfold M_X10_of_0 at h
  refine g_iload_n C 1 dX10_of_0 rfl ?_
  refine g_callSi C (As := [.int x1]) (st := []) (fun l => c_X10_isOption l D a cI cZ h) cl_RX10_42 (by omega) rfl (Nat.le_of_ble_eq_true rfl) dX10_of_1 (fun r2 g1 h => ?_)
  refine g_if_ne C 9 dX10_of_4 (by decide) (fun c3 => ?_) (fun c3 => ?_)
  · have h := h.2 c3
    refine g_iload_n C 2 dX10_of_9 rfl ?_
    by_cases e4 : x2 = 0
    · have h := h.1 e4
      refine g_tsIn C 40 dX10_of_10 (by rw [e4] <;> decide) (by rw [e4] <;> decide) (by rw [e4] <;> rfl) (by decide) ?_
      refine g_aload_n C 0 dX10_of_40 rfl ?_
      refine gf_RX10_7_X10 C re_0 rfl dX10_of_41 ?_
      refine g_iconst C 0 dX10_of_44 (by decide) ?_
      refine g_iload_n C 1 dX10_of_45 rfl ?_
      refine g_iadd C dX10_of_46 ?_
      obtain ⟨hi5, h⟩ := h
      refine g_iald C 0 re_1 rfl hi5 dX10_of_47 ?_
      exact g_iret C hQ dX10_of_48 h
    · have h := h.2 e4
      by_cases e6 : x2 = 1
      · have h := h.1 e6
        refine g_tsIn C 49 dX10_of_10 (by rw [e6] <;> decide) (by rw [e6] <;> decide) (by rw [e6] <;> rfl) (by decide) ?_
        refine g_aload_n C 0 dX10_of_49 rfl ?_
        refine gf_RX10_7_X10 C re_0 rfl dX10_of_50 ?_
        refine g_iconst C 4 dX10_of_53 (by decide) ?_
        refine g_iload_n C 1 dX10_of_54 rfl ?_
        refine g_iadd C dX10_of_55 ?_
        obtain ⟨hi7, h⟩ := h
        refine g_iald C 0 re_1 rfl hi7 dX10_of_56 ?_
        exact g_iret C hQ dX10_of_57 h
      · have h := h.2 e6
        by_cases e8 : x2 = 2
        · have h := h.1 e8
          refine g_tsIn C 58 dX10_of_10 (by rw [e8] <;> decide) (by rw [e8] <;> decide) (by rw [e8] <;> rfl) (by decide) ?_
          refine g_aload_n C 0 dX10_of_58 rfl ?_
          refine g_iload_n C 1 dX10_of_59 rfl ?_
          refine g_callVi C (As := [.int x1]) (st := []) (fun l => c_X10_wanted_0 l D a cI cZ h) cl_RX10_61_X10 rfl re_0 (by omega) rfl (Nat.le_of_ble_eq_true rfl) dX10_of_60 (fun r10 g9 h => ?_)
          exact g_iret C hQ dX10_of_63 h
        · have h := h.2 e8
          by_cases e11 : x2 = 3
          · have h := h.1 e11
            refine g_tsIn C 64 dX10_of_10 (by rw [e11] <;> decide) (by rw [e11] <;> decide) (by rw [e11] <;> rfl) (by decide) ?_
            refine g_aload_n C 0 dX10_of_64 rfl ?_
            refine g_iload_n C 1 dX10_of_65 rfl ?_
            refine g_callVi C (As := [.int x1]) (st := []) (fun l => c_X10_room_0 l D a cI cZ h) cl_RX10_65_X10 rfl re_0 (by omega) rfl (Nat.le_of_ble_eq_true rfl) dX10_of_66 (fun r13 g12 h => ?_)
            exact g_iret C hQ dX10_of_69 h
          · have h := h.2 e11
            have qe4 : ¬ (x2 : Int32).toInt = 0 := i32_ne_toInt (c := 0) (by decide) e4
            have qe6 : ¬ (x2 : Int32).toInt = 1 := i32_ne_toInt (c := 1) (by decide) e6
            have qe8 : ¬ (x2 : Int32).toInt = 2 := i32_ne_toInt (c := 2) (by decide) e8
            have qe11 : ¬ (x2 : Int32).toInt = 3 := i32_ne_toInt (c := 3) (by decide) e11
            refine g_tsOut C 70 dX10_of_10 (by omega) (by decide) ?_
            refine g_bipush C (-2) dX10_of_70 (by decide) ?_
            exact g_iret C hQ dX10_of_72 h
  · have h := h.1 c3
    refine g_iconst C (-1) dX10_of_7 (by decide) ?_
    exact g_iret C hQ dX10_of_8 h
/-! X10_firstOrder_0: rank 0 -/
def B_X10_firstOrder_0_14 (Q : Sg → Prop) (K7 : Sg → Int32 → Prop) (K14 : Sg → Int32 → Int32 → Prop) (f : Sg) (x1 : Int32) (x2 : Int32) : Prop :=
  vp_in ((13 : Int32) + x1) 18 ∧ ((f 1 ((13 : Int32) + x1 : Int32).toNatClampNeg) ≤ x2 → K7 f (x1 + 1)) ∧ (¬ (f 1 ((13 : Int32) + x1 : Int32).toNatClampNeg) ≤ x2 → vp_in (f 0 6) 9 ∧ ∀ g6 : Sg, g6 = va_up f 5 (upd (f 5) (f 0 6 : Int32).toNatClampNeg x1) → ∀ g7 : Sg, g7 = va_up g6 0 (upd (g6 0) 6 ((g6 0 6) + 1)) → K14 g7 x1 (x2 + 1))
def B_X10_firstOrder_0_7 (Q : Sg → Prop) (K7 : Sg → Int32 → Prop) (f : Sg) (x1 : Int32) : Prop :=
  (5 ≤ x1 → Q f) ∧ (¬ 5 ≤ x1 → ∃ n : Nat, itr2 (B_X10_firstOrder_0_14 Q K7) n f x1 0)
def M_X10_firstOrder_0 (f : Sg) (Q : Sg → Prop) : Prop :=
  ∀ g1 : Sg, g1 = va_up f 0 (upd (f 0) 6 0) → ∃ n : Nat, itr1 (B_X10_firstOrder_0_7 Q) n g1 0
set_option maxHeartbeats 4000000 in
theorem t_X10_firstOrder_0_14 {o : Om} {D : va_G} {a : Nat → Nat} {cI cZ : ClassId} {Q : Sg → Prop} {K7 : Sg → Int32 → Prop} (C : Cx o D [(cI, .int), (cZ, .boolean)] (rw a cI cZ) RX10 cX10_firstOrder none 0 3) (hQ : RetV o D (rw a cI cZ) Q) (hK7 : ∀ (g : Sg) (x1 : Int32), K7 g x1 → Go o D (rw a cI cZ) 7 [(0, .ref (a 0)), (1, .int x1)] [] g) : ∀ (n : Nat) (f : Sg) (x1 : Int32) (x2 : Int32), itr2 (B_X10_firstOrder_0_14 Q K7) n f x1 x2 → Go o D (rw a cI cZ) 14 [(0, .ref (a 0)), (1, .int x1), (2, .int x2)] [] f := by
  intro n
  induction n with
  | zero => intro f x1 x2 h; exact h.elim
  | succ n ih =>
    intro f x1 x2 h
    have h : B_X10_firstOrder_0_14 Q K7 (itr2 (B_X10_firstOrder_0_14 Q K7) n) f x1 x2 := h
    have hK14 := ih
    generalize itr2 (B_X10_firstOrder_0_14 Q K7) n = K14 at h hK14
    clear ih
    unfold B_X10_firstOrder_0_14 at h
    refine g_iload_n C 2 dX10_firstOrder_14 rfl ?_
    refine g_aload_n C 0 dX10_firstOrder_15 rfl ?_
    refine gf_RX10_7_X10 C re_0 rfl dX10_firstOrder_16 ?_
    refine g_bipush C 13 dX10_firstOrder_19 (by decide) ?_
    refine g_iload_n C 1 dX10_firstOrder_21 rfl ?_
    refine g_iadd C dX10_firstOrder_22 ?_
    obtain ⟨hi3, h⟩ := h
    refine g_iald C 0 re_1 rfl hi3 dX10_firstOrder_23 ?_
    refine g_icmp_ge C 53 dX10_firstOrder_24 (by decide) (fun c4 => ?_) (fun c4 => ?_)
    · have h := h.1 c4
      refine g_iinc (lv' := [(1, .int (x1 + 1)), (0, .ref (a 0)), (2, .int x2)]) C 1 dX10_firstOrder_53 rfl rfl (by decide) rfl ?_
      refine g_goto C 7 dX10_firstOrder_56 (by decide) ?_
      refine g_sub (lv' := [(0, .ref (a 0)), (1, .int (x1 + 1))]) [1, 0] rfl ?_
      exact hK7 f (x1 + 1) h
    · have h := h.2 c4
      refine g_aload_n C 0 dX10_firstOrder_27 rfl ?_
      refine gf_RX10_23_X10 C re_0 rfl dX10_firstOrder_28 ?_
      refine g_aload_n C 0 dX10_firstOrder_31 rfl ?_
      refine gf_RX10_71_X10 C re_0 rfl dX10_firstOrder_32 ?_
      refine g_iload_n C 1 dX10_firstOrder_35 rfl ?_
      obtain ⟨hi5, h⟩ := h
      obtain ⟨g6, eg6⟩ : ∃ g : Sg, g = va_up f 5 (upd (f 5) (f 0 6 : Int32).toNatClampNeg x1) := ⟨_, rfl⟩
      have h := h g6 eg6
      refine g_iast C 0 re_5 rfl (g := g6) (by rw [eg6]; exact rs_5) hi5 dX10_firstOrder_36 ?_
      refine g_aload_n C 0 dX10_firstOrder_37 rfl ?_
      refine g_dup C dX10_firstOrder_38 rfl ?_
      refine gf_RX10_71_X10 C re_0 rfl dX10_firstOrder_39 ?_
      refine g_iconst C 1 dX10_firstOrder_42 (by decide) ?_
      refine g_iadd C dX10_firstOrder_43 ?_
      obtain ⟨g7, eg7⟩ : ∃ g : Sg, g = va_up g6 0 (upd (g6 0) 6 ((g6 0 6) + 1)) := ⟨_, rfl⟩
      have h := h g7 eg7
      refine gp_RX10_71_X10 C rfl rfl re_0 (Nat.le_of_ble_eq_true rfl) (g := g7) (by rw [eg7]; exact rs_0_6) dX10_firstOrder_44 ?_
      refine g_iinc (lv' := [(2, .int (x2 + 1)), (0, .ref (a 0)), (1, .int x1)]) C 2 dX10_firstOrder_47 rfl rfl (by decide) rfl ?_
      refine g_goto C 14 dX10_firstOrder_50 (by decide) ?_
      refine g_sub (lv' := [(0, .ref (a 0)), (1, .int x1), (2, .int (x2 + 1))]) [1, 2, 0] rfl ?_
      exact hK14 g7 x1 (x2 + 1) h
set_option maxHeartbeats 4000000 in
theorem t_X10_firstOrder_0_7 {o : Om} {D : va_G} {a : Nat → Nat} {cI cZ : ClassId} {Q : Sg → Prop} (C : Cx o D [(cI, .int), (cZ, .boolean)] (rw a cI cZ) RX10 cX10_firstOrder none 0 3) (hQ : RetV o D (rw a cI cZ) Q) : ∀ (n : Nat) (f : Sg) (x1 : Int32), itr1 (B_X10_firstOrder_0_7 Q) n f x1 → Go o D (rw a cI cZ) 7 [(0, .ref (a 0)), (1, .int x1)] [] f := by
  intro n
  induction n with
  | zero => intro f x1 h; exact h.elim
  | succ n ih =>
    intro f x1 h
    have h : B_X10_firstOrder_0_7 Q (itr1 (B_X10_firstOrder_0_7 Q) n) f x1 := h
    have hK7 := ih
    generalize itr1 (B_X10_firstOrder_0_7 Q) n = K7 at h hK7
    clear ih
    unfold B_X10_firstOrder_0_7 at h
    refine g_iload_n C 1 dX10_firstOrder_7 rfl ?_
    refine g_iconst C 5 dX10_firstOrder_8 (by decide) ?_
    refine g_icmp_ge C 59 dX10_firstOrder_9 (by decide) (fun c2 => ?_) (fun c2 => ?_)
    · have h := h.1 c2
      exact g_vret C hQ dX10_firstOrder_59 h
    · have h := h.2 c2
      refine g_iconst C 0 dX10_firstOrder_12 (by decide) ?_
      refine g_istore_n (lv' := [(2, .int 0), (0, .ref (a 0)), (1, .int x1)]) C dX10_firstOrder_13 (by decide) rfl ?_
      refine g_sub (lv' := [(0, .ref (a 0)), (1, .int x1), (2, .int 0)]) [1, 2, 0] rfl ?_
      obtain ⟨n, h⟩ := h
      exact t_X10_firstOrder_0_14 C hQ hK7 n f x1 0 h
set_option maxHeartbeats 4000000 in
theorem c_X10_firstOrder_0 (l : Launch) (D : va_G) (a : Nat → Nat) (cI cZ : ClassId) {f : Sg} {Q : Sg → Prop} (h : M_X10_firstOrder_0 f Q) : MV l D [(cI, .int), (cZ, .boolean)] (rw a cI cZ) yX10_firstOrder cX10_firstOrder 3 (0) [.ref (a 0)] f Q := by
  refine mkV (rw_fix a cI cZ) (by decide +kernel) (Nat.le_of_ble_eq_true rfl) (fun o C hQ => ?_)
  show Go o D (rw a cI cZ) 0 [(0, .ref (a 0))] [] f
  unfold M_X10_firstOrder_0 at h
  refine g_aload_n C 0 dX10_firstOrder_0 rfl ?_
  refine g_iconst C 0 dX10_firstOrder_1 (by decide) ?_
  obtain ⟨g1, eg1⟩ : ∃ g : Sg, g = va_up f 0 (upd (f 0) 6 0) := ⟨_, rfl⟩
  have h := h g1 eg1
  refine gp_RX10_71_X10 C rfl rfl re_0 (Nat.le_of_ble_eq_true rfl) (g := g1) (by rw [eg1]; exact rs_0_6) dX10_firstOrder_2 ?_
  refine g_iconst C 0 dX10_firstOrder_5 (by decide) ?_
  refine g_istore_n (lv' := [(1, .int 0), (0, .ref (a 0))]) C dX10_firstOrder_6 (by decide) rfl ?_
  refine g_sub (lv' := [(0, .ref (a 0)), (1, .int 0)]) [1, 0] rfl ?_
  obtain ⟨n, h⟩ := h
  exact t_X10_firstOrder_0_7 C hQ n g1 0 h
/-! X10_isBreak_0: rank 1 -/
def J_X10_isBreak_0_80 (Q : Int32 → Sg → Prop) (f : Sg) (s0 : Int32) : Prop :=
  narrow .boolean (.int s0) = .int s0 ∧ Q s0 f
def J_X10_isBreak_0_53 (Q : Int32 → Sg → Prop) (K25 : Sg → Int32 → Int32 → Int32 → Int32 → Prop) (f : Sg) (x1 : Int32) (x2 : Int32) (x5 : Int32) (s0 : Int32) (s1 : Int32) : Prop :=
  ∀ z11 : Int32, z11 = s1 + s0 → K25 f x1 x2 z11 (x5 + 1)
def B_X10_isBreak_0_25 (Q : Int32 → Sg → Prop) (K25 : Sg → Int32 → Int32 → Int32 → Int32 → Prop) (f : Sg) (x1 : Int32) (x2 : Int32) (x4 : Int32) (x5 : Int32) : Prop :=
  (x1 < x5 → vp_in ((0 : Int32) + x2) 18 ∧ (x4 ≤ (f 1 ((0 : Int32) + x2 : Int32).toNatClampNeg) → J_X10_isBreak_0_80 Q f 0) ∧ (¬ x4 ≤ (f 1 ((0 : Int32) + x2 : Int32).toNatClampNeg) → J_X10_isBreak_0_80 Q f 1)) ∧ (¬ x1 < x5 → vp_in x5 9 ∧ M_X10_has_0 f (f 5 (x5 : Int32).toNatClampNeg) x2 (fun r9 g8 => (r9 = 0 → J_X10_isBreak_0_53 Q K25 g8 x1 x2 x5 0 x4) ∧ (¬ r9 = 0 → J_X10_isBreak_0_53 Q K25 g8 x1 x2 x5 1 x4)))
def M_X10_isBreak_0 (f : Sg) (x1 : Int32) (x2 : Int32) (Q : Int32 → Sg → Prop) : Prop :=
  vp_in ((4 : Int32) + x2) 18 ∧ ∀ z2 : Int32, z2 = (x1 - (f 1 ((4 : Int32) + x2 : Int32).toNatClampNeg)) + 1 → (0 ≤ z2 → ∃ n : Nat, itr4 (B_X10_isBreak_0_25 Q) n f x1 x2 0 z2) ∧ (¬ 0 ≤ z2 → Q 0 f)
set_option maxHeartbeats 4000000 in
theorem t_X10_isBreak_0_80 {o : Om} {D : va_G} {a : Nat → Nat} {cI cZ : ClassId} {Q : Int32 → Sg → Prop} (C : Cx o D [(cI, .int), (cZ, .boolean)] (rw a cI cZ) RX10 cX10_isBreak (some .boolean) 1 6) (hQ : RetI o D (rw a cI cZ) Q) {f : Sg} {s0 : Int32} (h : J_X10_isBreak_0_80 Q f s0) : Go o D (rw a cI cZ) 80 [] [.int s0] f := by
  unfold J_X10_isBreak_0_80 at h
  exact g_zret C hQ h.1 dX10_isBreak_80 h.2
set_option maxHeartbeats 4000000 in
theorem t_X10_isBreak_0_53 {o : Om} {D : va_G} {a : Nat → Nat} {cI cZ : ClassId} {Q : Int32 → Sg → Prop} {K25 : Sg → Int32 → Int32 → Int32 → Int32 → Prop} (C : Cx o D [(cI, .int), (cZ, .boolean)] (rw a cI cZ) RX10 cX10_isBreak (some .boolean) 1 6) (hQ : RetI o D (rw a cI cZ) Q) (hK25 : ∀ (g : Sg) (x1 : Int32) (x2 : Int32) (x4 : Int32) (x5 : Int32), K25 g x1 x2 x4 x5 → Go o D (rw a cI cZ) 25 [(0, .ref (a 0)), (1, .int x1), (2, .int x2), (4, .int x4), (5, .int x5)] [] g) {f : Sg} {x1 : Int32} {x2 : Int32} {x5 : Int32} {s0 : Int32} {s1 : Int32} (h : J_X10_isBreak_0_53 Q K25 f x1 x2 x5 s0 s1) : Go o D (rw a cI cZ) 53 [(0, .ref (a 0)), (1, .int x1), (2, .int x2), (5, .int x5)] [.int s0, .int s1] f := by
  unfold J_X10_isBreak_0_53 at h
  refine g_iadd C dX10_isBreak_53 ?_
  refine g_top (fun z11 ez11 => ?_)
  have h := h z11 ez11
  refine g_istore (lv' := [(4, .int z11), (0, .ref (a 0)), (1, .int x1), (2, .int x2), (5, .int x5)]) C dX10_isBreak_54 (by decide) rfl ?_
  refine g_iinc (lv' := [(5, .int (x5 + 1)), (4, .int z11), (0, .ref (a 0)), (1, .int x1), (2, .int x2)]) C 4 dX10_isBreak_56 rfl rfl (by decide) rfl ?_
  refine g_goto C 25 dX10_isBreak_59 (by decide) ?_
  refine g_sub (lv' := [(0, .ref (a 0)), (1, .int x1), (2, .int x2), (4, .int z11), (5, .int (x5 + 1))]) [2, 3, 4, 1, 0] rfl ?_
  exact hK25 f x1 x2 z11 (x5 + 1) h
set_option maxHeartbeats 4000000 in
theorem t_X10_isBreak_0_25 {o : Om} {D : va_G} {a : Nat → Nat} {cI cZ : ClassId} {Q : Int32 → Sg → Prop} (C : Cx o D [(cI, .int), (cZ, .boolean)] (rw a cI cZ) RX10 cX10_isBreak (some .boolean) 1 6) (hQ : RetI o D (rw a cI cZ) Q) : ∀ (n : Nat) (f : Sg) (x1 : Int32) (x2 : Int32) (x4 : Int32) (x5 : Int32), itr4 (B_X10_isBreak_0_25 Q) n f x1 x2 x4 x5 → Go o D (rw a cI cZ) 25 [(0, .ref (a 0)), (1, .int x1), (2, .int x2), (4, .int x4), (5, .int x5)] [] f := by
  intro n
  induction n with
  | zero => intro f x1 x2 x4 x5 h; exact h.elim
  | succ n ih =>
    intro f x1 x2 x4 x5 h
    have h : B_X10_isBreak_0_25 Q (itr4 (B_X10_isBreak_0_25 Q) n) f x1 x2 x4 x5 := h
    have hK25 := ih
    generalize itr4 (B_X10_isBreak_0_25 Q) n = K25 at h hK25
    clear ih
    unfold B_X10_isBreak_0_25 at h
    refine g_iload C 4 dX10_isBreak_25 rfl ?_
    refine g_iload_n C 1 dX10_isBreak_27 rfl ?_
    refine g_icmp_gt C 62 dX10_isBreak_28 (by decide) (fun c4 => ?_) (fun c4 => ?_)
    · have h := h.1 c4
      refine g_iload C 3 dX10_isBreak_62 rfl ?_
      refine g_aload_n C 0 dX10_isBreak_64 rfl ?_
      refine gf_RX10_7_X10 C re_0 rfl dX10_isBreak_65 ?_
      refine g_iconst C 0 dX10_isBreak_68 (by decide) ?_
      refine g_iload_n C 2 dX10_isBreak_69 rfl ?_
      refine g_iadd C dX10_isBreak_70 ?_
      obtain ⟨hi5, h⟩ := h
      refine g_iald C 0 re_1 rfl hi5 dX10_isBreak_71 ?_
      refine g_icmp_le C 79 dX10_isBreak_72 (by decide) (fun c6 => ?_) (fun c6 => ?_)
      · have h := h.1 c6
        refine g_iconst C 0 dX10_isBreak_79 (by decide) ?_
        refine g_sub (lv' := []) [] rfl ?_
        exact t_X10_isBreak_0_80 C hQ h
      · have h := h.2 c6
        refine g_iconst C 1 dX10_isBreak_75 (by decide) ?_
        refine g_goto C 80 dX10_isBreak_76 (by decide) ?_
        refine g_sub (lv' := []) [] rfl ?_
        exact t_X10_isBreak_0_80 C hQ h
    · have h := h.2 c4
      refine g_iload C 3 dX10_isBreak_31 rfl ?_
      refine g_aload_n C 0 dX10_isBreak_33 rfl ?_
      refine g_aload_n C 0 dX10_isBreak_34 rfl ?_
      refine gf_RX10_23_X10 C re_0 rfl dX10_isBreak_35 ?_
      refine g_iload C 4 dX10_isBreak_38 rfl ?_
      obtain ⟨hi7, h⟩ := h
      refine g_iald C 0 re_5 rfl hi7 dX10_isBreak_40 ?_
      refine g_iload_n C 2 dX10_isBreak_41 rfl ?_
      refine g_callVi C (As := [.int (f 5 (x5 : Int32).toNatClampNeg), .int x2]) (st := [.int x4]) (fun l => c_X10_has_0 l D a cI cZ h) cl_RX10_53_X10 rfl re_0 (by omega) rfl (Nat.le_of_ble_eq_true rfl) dX10_isBreak_42 (fun r9 g8 h => ?_)
      refine g_if_eq C 52 dX10_isBreak_45 (by decide) (fun c10 => ?_) (fun c10 => ?_)
      · have h := h.1 c10
        refine g_iconst C 0 dX10_isBreak_52 (by decide) ?_
        refine g_sub (lv' := [(0, .ref (a 0)), (1, .int x1), (2, .int x2), (5, .int x5)]) [0, 1, 2, 4] rfl ?_
        exact t_X10_isBreak_0_53 C hQ hK25 h
      · have h := h.2 c10
        refine g_iconst C 1 dX10_isBreak_48 (by decide) ?_
        refine g_goto C 53 dX10_isBreak_49 (by decide) ?_
        refine g_sub (lv' := [(0, .ref (a 0)), (1, .int x1), (2, .int x2), (5, .int x5)]) [0, 1, 2, 4] rfl ?_
        exact t_X10_isBreak_0_53 C hQ hK25 h
set_option maxHeartbeats 4000000 in
theorem c_X10_isBreak_0 (l : Launch) (D : va_G) (a : Nat → Nat) (cI cZ : ClassId) {f : Sg} {x1 : Int32} {x2 : Int32} {Q : Int32 → Sg → Prop} (h : M_X10_isBreak_0 f x1 x2 Q) : MI l D [(cI, .int), (cZ, .boolean)] (rw a cI cZ) yX10_isBreak cX10_isBreak 6 (some .boolean) (1) [.ref (a 0), .int x1, .int x2] f Q := by
  refine mkI (rw_fix a cI cZ) (by decide +kernel) (Nat.le_of_ble_eq_true rfl) (fun o C hQ => ?_)
  show Go o D (rw a cI cZ) 0 [(0, .ref (a 0)), (1, .int x1), (2, .int x2)] [] f
  unfold M_X10_isBreak_0 at h
  refine g_iload_n C 1 dX10_isBreak_0 rfl ?_
  refine g_aload_n C 0 dX10_isBreak_1 rfl ?_
  refine gf_RX10_7_X10 C re_0 rfl dX10_isBreak_2 ?_
  refine g_iconst C 4 dX10_isBreak_5 (by decide) ?_
  refine g_iload_n C 2 dX10_isBreak_6 rfl ?_
  refine g_iadd C dX10_isBreak_7 ?_
  obtain ⟨hi1, h⟩ := h
  refine g_iald C 0 re_1 rfl hi1 dX10_isBreak_8 ?_
  refine g_isub C dX10_isBreak_9 ?_
  refine g_iconst C 1 dX10_isBreak_10 (by decide) ?_
  refine g_iadd C dX10_isBreak_11 ?_
  refine g_top (fun z2 ez2 => ?_)
  have h := h z2 ez2
  refine g_istore_n (lv' := [(3, .int z2), (0, .ref (a 0)), (1, .int x1), (2, .int x2)]) C dX10_isBreak_12 (by decide) rfl ?_
  refine g_iload_n C 0 dX10_isBreak_13 rfl ?_
  refine g_if_ge C 19 dX10_isBreak_14 (by decide) (fun c3 => ?_) (fun c3 => ?_)
  · have h := h.1 c3
    refine g_iconst C 0 dX10_isBreak_19 (by decide) ?_
    refine g_istore (lv' := [(4, .int 0), (3, .int z2), (0, .ref (a 0)), (1, .int x1), (2, .int x2)]) C dX10_isBreak_20 (by decide) rfl ?_
    refine g_iload_n C 1 dX10_isBreak_22 rfl ?_
    refine g_istore (lv' := [(5, .int z2), (4, .int 0), (3, .int z2), (0, .ref (a 0)), (1, .int x1), (2, .int x2)]) C dX10_isBreak_23 (by decide) rfl ?_
    refine g_sub (lv' := [(0, .ref (a 0)), (1, .int x1), (2, .int x2), (4, .int 0), (5, .int z2)]) [3, 4, 5, 1, 0] rfl ?_
    obtain ⟨n, h⟩ := h
    exact t_X10_isBreak_0_25 C hQ n f x1 x2 0 z2 h
  · have h := h.2 c3
    refine g_iconst C 0 dX10_isBreak_17 (by decide) ?_
    exact g_zret C hQ rfl dX10_isBreak_18 h
