/-! X10_breaksAt_0: rank 2 -/
def J_X10_breaksAt_0_24 (Q : Int32 → Sg → Prop) (K4 : Sg → Int32 → Int32 → Int32 → Prop) (f : Sg) (x1 : Int32) (x3 : Int32) (s0 : Int32) (s1 : Int32) : Prop :=
  ∀ z5 : Int32, z5 = s1 + s0 → K4 f x1 z5 (x3 + 1)
def B_X10_breaksAt_0_4 (Q : Int32 → Sg → Prop) (K4 : Sg → Int32 → Int32 → Int32 → Prop) (f : Sg) (x1 : Int32) (x2 : Int32) (x3 : Int32) : Prop :=
  (4 ≤ x3 → Q x2 f) ∧ (¬ 4 ≤ x3 → M_X10_isBreak_0 f x1 x3 (fun r3 g2 => (r3 = 0 → J_X10_breaksAt_0_24 Q K4 g2 x1 x3 0 x2) ∧ (¬ r3 = 0 → J_X10_breaksAt_0_24 Q K4 g2 x1 x3 1 x2)))
def M_X10_breaksAt_0 (f : Sg) (x1 : Int32) (Q : Int32 → Sg → Prop) : Prop :=
  ∃ n : Nat, itr3 (B_X10_breaksAt_0_4 Q) n f x1 0 0
set_option maxHeartbeats 4000000 in
theorem t_X10_breaksAt_0_24 {o : Om} {D : va_G} {a : Nat → Nat} {cI cZ : ClassId} {Q : Int32 → Sg → Prop} {K4 : Sg → Int32 → Int32 → Int32 → Prop} (C : Cx o D [(cI, .int), (cZ, .boolean)] (rw a cI cZ) RX10 cX10_breaksAt (some .int) 2 4) (hQ : RetI o D (rw a cI cZ) Q) (hK4 : ∀ (g : Sg) (x1 : Int32) (x2 : Int32) (x3 : Int32), K4 g x1 x2 x3 → Go o D (rw a cI cZ) 4 [(0, .ref (a 0)), (1, .int x1), (2, .int x2), (3, .int x3)] [] g) {f : Sg} {x1 : Int32} {x3 : Int32} {s0 : Int32} {s1 : Int32} (h : J_X10_breaksAt_0_24 Q K4 f x1 x3 s0 s1) : Go o D (rw a cI cZ) 24 [(0, .ref (a 0)), (1, .int x1), (3, .int x3)] [.int s0, .int s1] f := by
  unfold J_X10_breaksAt_0_24 at h
  refine g_iadd C dX10_breaksAt_24 ?_
  refine g_top (fun z5 ez5 => ?_)
  have h := h z5 ez5
  refine g_istore_n (lv' := [(2, .int z5), (0, .ref (a 0)), (1, .int x1), (3, .int x3)]) C dX10_breaksAt_25 (by decide) rfl ?_
  refine g_iinc (lv' := [(3, .int (x3 + 1)), (2, .int z5), (0, .ref (a 0)), (1, .int x1)]) C 3 dX10_breaksAt_26 rfl rfl (by decide) rfl ?_
  refine g_goto C 4 dX10_breaksAt_29 (by decide) ?_
  refine g_sub (lv' := [(0, .ref (a 0)), (1, .int x1), (2, .int z5), (3, .int (x3 + 1))]) [2, 3, 1, 0] rfl ?_
  exact hK4 f x1 z5 (x3 + 1) h
set_option maxHeartbeats 4000000 in
theorem t_X10_breaksAt_0_4 {o : Om} {D : va_G} {a : Nat → Nat} {cI cZ : ClassId} {Q : Int32 → Sg → Prop} (C : Cx o D [(cI, .int), (cZ, .boolean)] (rw a cI cZ) RX10 cX10_breaksAt (some .int) 2 4) (hQ : RetI o D (rw a cI cZ) Q) : ∀ (n : Nat) (f : Sg) (x1 : Int32) (x2 : Int32) (x3 : Int32), itr3 (B_X10_breaksAt_0_4 Q) n f x1 x2 x3 → Go o D (rw a cI cZ) 4 [(0, .ref (a 0)), (1, .int x1), (2, .int x2), (3, .int x3)] [] f := by
  intro n
  induction n with
  | zero => intro f x1 x2 x3 h; exact h.elim
  | succ n ih =>
    intro f x1 x2 x3 h
    have h : B_X10_breaksAt_0_4 Q (itr3 (B_X10_breaksAt_0_4 Q) n) f x1 x2 x3 := h
    have hK4 := ih
    generalize itr3 (B_X10_breaksAt_0_4 Q) n = K4 at h hK4
    clear ih
    unfold B_X10_breaksAt_0_4 at h
    refine g_iload_n C 3 dX10_breaksAt_4 rfl ?_
    refine g_iconst C 4 dX10_breaksAt_5 (by decide) ?_
    refine g_icmp_ge C 32 dX10_breaksAt_6 (by decide) (fun c1 => ?_) (fun c1 => ?_)
    · have h := h.1 c1
      refine g_iload_n C 2 dX10_breaksAt_32 rfl ?_
      exact g_iret C hQ dX10_breaksAt_33 h
    · have h := h.2 c1
      refine g_iload_n C 2 dX10_breaksAt_9 rfl ?_
      refine g_aload_n C 0 dX10_breaksAt_10 rfl ?_
      refine g_iload_n C 1 dX10_breaksAt_11 rfl ?_
      refine g_iload_n C 3 dX10_breaksAt_12 rfl ?_
      refine g_callVi C (As := [.int x1, .int x3]) (st := [.int x2]) (fun l => c_X10_isBreak_0 l D a cI cZ h) cl_RX10_68_X10 rfl re_0 (by omega) rfl (Nat.le_of_ble_eq_true rfl) dX10_breaksAt_13 (fun r3 g2 h => ?_)
      refine g_if_eq C 23 dX10_breaksAt_16 (by decide) (fun c4 => ?_) (fun c4 => ?_)
      · have h := h.1 c4
        refine g_iconst C 0 dX10_breaksAt_23 (by decide) ?_
        refine g_sub (lv' := [(0, .ref (a 0)), (1, .int x1), (3, .int x3)]) [0, 1, 3] rfl ?_
        exact t_X10_breaksAt_0_24 C hQ hK4 h
      · have h := h.2 c4
        refine g_iconst C 1 dX10_breaksAt_19 (by decide) ?_
        refine g_goto C 24 dX10_breaksAt_20 (by decide) ?_
        refine g_sub (lv' := [(0, .ref (a 0)), (1, .int x1), (3, .int x3)]) [0, 1, 3] rfl ?_
        exact t_X10_breaksAt_0_24 C hQ hK4 h
set_option maxHeartbeats 4000000 in
theorem c_X10_breaksAt_0 (l : Launch) (D : va_G) (a : Nat → Nat) (cI cZ : ClassId) {f : Sg} {x1 : Int32} {Q : Int32 → Sg → Prop} (h : M_X10_breaksAt_0 f x1 Q) : MI l D [(cI, .int), (cZ, .boolean)] (rw a cI cZ) yX10_breaksAt cX10_breaksAt 4 (some .int) (2) [.ref (a 0), .int x1] f Q := by
  refine mkI (rw_fix a cI cZ) (by decide +kernel) (Nat.le_of_ble_eq_true rfl) (fun o C hQ => ?_)
  show Go o D (rw a cI cZ) 0 [(0, .ref (a 0)), (1, .int x1)] [] f
  unfold M_X10_breaksAt_0 at h
  refine g_iconst C 0 dX10_breaksAt_0 (by decide) ?_
  refine g_istore_n (lv' := [(2, .int 0), (0, .ref (a 0)), (1, .int x1)]) C dX10_breaksAt_1 (by decide) rfl ?_
  refine g_iconst C 0 dX10_breaksAt_2 (by decide) ?_
  refine g_istore_n (lv' := [(3, .int 0), (2, .int 0), (0, .ref (a 0)), (1, .int x1)]) C dX10_breaksAt_3 (by decide) rfl ?_
  refine g_sub (lv' := [(0, .ref (a 0)), (1, .int x1), (2, .int 0), (3, .int 0)]) [2, 3, 1, 0] rfl ?_
  obtain ⟨n, h⟩ := h
  exact t_X10_breaksAt_0_4 C hQ n f x1 0 0 h
/-! X10_breaks_0: rank 3 -/
def B_X10_breaks_0_4 (Q : Int32 → Sg → Prop) (K4 : Sg → Int32 → Int32 → Prop) (f : Sg) (x1 : Int32) (x2 : Int32) : Prop :=
  ((f 0 6) ≤ x2 → Q x1 f) ∧ (¬ (f 0 6) ≤ x2 → M_X10_breaksAt_0 f x2 (fun r3 g2 => ∀ z4 : Int32, z4 = x1 + r3 → K4 g2 z4 (x2 + 1)))
def M_X10_breaks_0 (f : Sg) (Q : Int32 → Sg → Prop) : Prop :=
  ∃ n : Nat, itr2 (B_X10_breaks_0_4 Q) n f 0 0
set_option maxHeartbeats 4000000 in
theorem t_X10_breaks_0_4 {o : Om} {D : va_G} {a : Nat → Nat} {cI cZ : ClassId} {Q : Int32 → Sg → Prop} (C : Cx o D [(cI, .int), (cZ, .boolean)] (rw a cI cZ) RX10 cX10_breaks (some .int) 3 3) (hQ : RetI o D (rw a cI cZ) Q) : ∀ (n : Nat) (f : Sg) (x1 : Int32) (x2 : Int32), itr2 (B_X10_breaks_0_4 Q) n f x1 x2 → Go o D (rw a cI cZ) 4 [(0, .ref (a 0)), (1, .int x1), (2, .int x2)] [] f := by
  intro n
  induction n with
  | zero => intro f x1 x2 h; exact h.elim
  | succ n ih =>
    intro f x1 x2 h
    have h : B_X10_breaks_0_4 Q (itr2 (B_X10_breaks_0_4 Q) n) f x1 x2 := h
    have hK4 := ih
    generalize itr2 (B_X10_breaks_0_4 Q) n = K4 at h hK4
    clear ih
    unfold B_X10_breaks_0_4 at h
    refine g_iload_n C 2 dX10_breaks_4 rfl ?_
    refine g_aload_n C 0 dX10_breaks_5 rfl ?_
    refine gf_RX10_71_X10 C re_0 rfl dX10_breaks_6 ?_
    refine g_icmp_ge C 26 dX10_breaks_9 (by decide) (fun c1 => ?_) (fun c1 => ?_)
    · have h := h.1 c1
      refine g_iload_n C 1 dX10_breaks_26 rfl ?_
      exact g_iret C hQ dX10_breaks_27 h
    · have h := h.2 c1
      refine g_iload_n C 1 dX10_breaks_12 rfl ?_
      refine g_aload_n C 0 dX10_breaks_13 rfl ?_
      refine g_iload_n C 2 dX10_breaks_14 rfl ?_
      refine g_callVi C (As := [.int x2]) (st := [.int x1]) (fun l => c_X10_breaksAt_0 l D a cI cZ h) cl_RX10_75_X10 rfl re_0 (by omega) rfl (Nat.le_of_ble_eq_true rfl) dX10_breaks_15 (fun r3 g2 h => ?_)
      refine g_iadd C dX10_breaks_18 ?_
      refine g_top (fun z4 ez4 => ?_)
      have h := h z4 ez4
      refine g_istore_n (lv' := [(1, .int z4), (0, .ref (a 0)), (2, .int x2)]) C dX10_breaks_19 (by decide) rfl ?_
      refine g_iinc (lv' := [(2, .int (x2 + 1)), (1, .int z4), (0, .ref (a 0))]) C 2 dX10_breaks_20 rfl rfl (by decide) rfl ?_
      refine g_goto C 4 dX10_breaks_23 (by decide) ?_
      refine g_sub (lv' := [(0, .ref (a 0)), (1, .int z4), (2, .int (x2 + 1))]) [2, 1, 0] rfl ?_
      exact hK4 g2 z4 (x2 + 1) h
set_option maxHeartbeats 4000000 in
theorem c_X10_breaks_0 (l : Launch) (D : va_G) (a : Nat → Nat) (cI cZ : ClassId) {f : Sg} {Q : Int32 → Sg → Prop} (h : M_X10_breaks_0 f Q) : MI l D [(cI, .int), (cZ, .boolean)] (rw a cI cZ) yX10_breaks cX10_breaks 3 (some .int) (3) [.ref (a 0)] f Q := by
  refine mkI (rw_fix a cI cZ) (by decide +kernel) (Nat.le_of_ble_eq_true rfl) (fun o C hQ => ?_)
  show Go o D (rw a cI cZ) 0 [(0, .ref (a 0))] [] f
  unfold M_X10_breaks_0 at h
  refine g_iconst C 0 dX10_breaks_0 (by decide) ?_
  refine g_istore_n (lv' := [(1, .int 0), (0, .ref (a 0))]) C dX10_breaks_1 (by decide) rfl ?_
  refine g_iconst C 0 dX10_breaks_2 (by decide) ?_
  refine g_istore_n (lv' := [(2, .int 0), (1, .int 0), (0, .ref (a 0))]) C dX10_breaks_3 (by decide) rfl ?_
  refine g_sub (lv' := [(0, .ref (a 0)), (1, .int 0), (2, .int 0)]) [2, 1, 0] rfl ?_
  obtain ⟨n, h⟩ := h
  exact t_X10_breaks_0_4 C hQ n f 0 0 h
/-! X10_swap_0: rank 0 -/
def M_X10_swap_0 (f : Sg) (x1 : Int32) (x2 : Int32) (Q : Sg → Prop) : Prop :=
  vp_in x1 9 ∧ ∀ z2 : Int32, z2 = f 5 (x1 : Int32).toNatClampNeg → vp_in x2 9 ∧ vp_in x1 9 ∧ ∀ g5 : Sg, g5 = va_up f 5 (upd (f 5) (x1 : Int32).toNatClampNeg (f 5 (x2 : Int32).toNatClampNeg)) → vp_in x2 9 ∧ ∀ g7 : Sg, g7 = va_up g5 5 (upd (g5 5) (x2 : Int32).toNatClampNeg z2) → Q g7
set_option maxHeartbeats 4000000 in
theorem c_X10_swap_0 (l : Launch) (D : va_G) (a : Nat → Nat) (cI cZ : ClassId) {f : Sg} {x1 : Int32} {x2 : Int32} {Q : Sg → Prop} (h : M_X10_swap_0 f x1 x2 Q) : MV l D [(cI, .int), (cZ, .boolean)] (rw a cI cZ) yX10_swap cX10_swap 4 (0) [.ref (a 0), .int x1, .int x2] f Q := by
  refine mkV (rw_fix a cI cZ) (by decide +kernel) (Nat.le_of_ble_eq_true rfl) (fun o C hQ => ?_)
  show Go o D (rw a cI cZ) 0 [(0, .ref (a 0)), (1, .int x1), (2, .int x2)] [] f
  unfold M_X10_swap_0 at h
  refine g_aload_n C 0 dX10_swap_0 rfl ?_
  refine gf_RX10_23_X10 C re_0 rfl dX10_swap_1 ?_
  refine g_iload_n C 1 dX10_swap_4 rfl ?_
  obtain ⟨hi1, h⟩ := h
  refine g_iald C 0 re_5 rfl hi1 dX10_swap_5 ?_
  refine g_top (fun z2 ez2 => ?_)
  have h := h z2 ez2
  refine g_istore_n (lv' := [(3, .int z2), (0, .ref (a 0)), (1, .int x1), (2, .int x2)]) C dX10_swap_6 (by decide) rfl ?_
  refine g_aload_n C 1 dX10_swap_7 rfl ?_
  refine gf_RX10_23_X10 C re_0 rfl dX10_swap_8 ?_
  refine g_iload_n C 2 dX10_swap_11 rfl ?_
  refine g_aload_n C 1 dX10_swap_12 rfl ?_
  refine gf_RX10_23_X10 C re_0 rfl dX10_swap_13 ?_
  refine g_iload_n C 3 dX10_swap_16 rfl ?_
  obtain ⟨hi3, h⟩ := h
  refine g_iald C 0 re_5 rfl hi3 dX10_swap_17 ?_
  obtain ⟨hi4, h⟩ := h
  obtain ⟨g5, eg5⟩ : ∃ g : Sg, g = va_up f 5 (upd (f 5) (x1 : Int32).toNatClampNeg (f 5 (x2 : Int32).toNatClampNeg)) := ⟨_, rfl⟩
  have h := h g5 eg5
  refine g_iast C 0 re_5 rfl (g := g5) (by rw [eg5]; exact rs_5) hi4 dX10_swap_18 ?_
  refine g_aload_n C 1 dX10_swap_19 rfl ?_
  refine gf_RX10_23_X10 C re_0 rfl dX10_swap_20 ?_
  refine g_iload_n C 3 dX10_swap_23 rfl ?_
  refine g_iload_n C 0 dX10_swap_24 rfl ?_
  obtain ⟨hi6, h⟩ := h
  obtain ⟨g7, eg7⟩ : ∃ g : Sg, g = va_up g5 5 (upd (g5 5) (x2 : Int32).toNatClampNeg z2) := ⟨_, rfl⟩
  have h := h g7 eg7
  refine g_iast C 0 re_5 rfl (g := g7) (by rw [eg7]; exact rs_5) hi6 dX10_swap_25 ?_
  exact g_vret C hQ dX10_swap_26 h
/-! X10_nextOrder_0: rank 1 -/
def B_X10_nextOrder_0_86 (Q : Int32 → Sg → Prop) (K86 : Sg → Int32 → Int32 → Prop) (f : Sg) (x3 : Int32) (x4 : Int32) : Prop :=
  (x4 ≤ x3 → Q 1 f) ∧ (¬ x4 ≤ x3 → M_X10_swap_0 f x3 x4 (fun g13 => K86 g13 (x3 + 1) (x4 + (-1))))
def B_X10_nextOrder_0_47 (Q : Int32 → Sg → Prop) (K47 : Sg → Int32 → Int32 → Prop) (f : Sg) (x1 : Int32) (x2 : Int32) : Prop :=
  vp_in x2 9 ∧ vp_in x1 9 ∧ ((f 5 (x1 : Int32).toNatClampNeg) < (f 5 (x2 : Int32).toNatClampNeg) → M_X10_swap_0 f x1 x2 (fun g8 => ∀ z10 : Int32, z10 = x1 + 1 → ∀ z11 : Int32, z11 = (g8 0 6) - 1 → ∃ n : Nat, itr2 (B_X10_nextOrder_0_86 Q) n g8 z10 z11)) ∧ (¬ (f 5 (x1 : Int32).toNatClampNeg) < (f 5 (x2 : Int32).toNatClampNeg) → K47 f x1 (x2 + (-1)))
def J_X10_nextOrder_0_34 (Q : Int32 → Sg → Prop) (f : Sg) (x1 : Int32) : Prop :=
  (0 ≤ x1 → ∀ z4 : Int32, z4 = (f 0 6) - 1 → ∃ n : Nat, itr2 (B_X10_nextOrder_0_47 Q) n f x1 z4) ∧ (¬ 0 ≤ x1 → Q 0 f)
def B_X10_nextOrder_0_7 (Q : Int32 → Sg → Prop) (K7 : Sg → Int32 → Prop) (f : Sg) (x1 : Int32) : Prop :=
  (x1 < 0 → J_X10_nextOrder_0_34 Q f x1) ∧ (¬ x1 < 0 → vp_in x1 9 ∧ vp_in (x1 + 1) 9 ∧ ((f 5 (x1 : Int32).toNatClampNeg) < (f 5 (x1 + 1 : Int32).toNatClampNeg) → J_X10_nextOrder_0_34 Q f x1) ∧ (¬ (f 5 (x1 : Int32).toNatClampNeg) < (f 5 (x1 + 1 : Int32).toNatClampNeg) → K7 f (x1 + (-1))))
def M_X10_nextOrder_0 (f : Sg) (Q : Int32 → Sg → Prop) : Prop :=
  ∀ z1 : Int32, z1 = (f 0 6) - 2 → ∃ n : Nat, itr1 (B_X10_nextOrder_0_7 Q) n f z1
set_option maxHeartbeats 4000000 in
theorem t_X10_nextOrder_0_86 {o : Om} {D : va_G} {a : Nat → Nat} {cI cZ : ClassId} {Q : Int32 → Sg → Prop} (C : Cx o D [(cI, .int), (cZ, .boolean)] (rw a cI cZ) RX10 cX10_nextOrder (some .boolean) 1 5) (hQ : RetI o D (rw a cI cZ) Q) : ∀ (n : Nat) (f : Sg) (x3 : Int32) (x4 : Int32), itr2 (B_X10_nextOrder_0_86 Q) n f x3 x4 → Go o D (rw a cI cZ) 86 [(0, .ref (a 0)), (3, .int x3), (4, .int x4)] [] f := by
  intro n
  induction n with
  | zero => intro f x3 x4 h; exact h.elim
  | succ n ih =>
    intro f x3 x4 h
    have h : B_X10_nextOrder_0_86 Q (itr2 (B_X10_nextOrder_0_86 Q) n) f x3 x4 := h
    have hK86 := ih
    generalize itr2 (B_X10_nextOrder_0_86 Q) n = K86 at h hK86
    clear ih
    unfold B_X10_nextOrder_0_86 at h
    refine g_iload_n C 1 dX10_nextOrder_86 rfl ?_
    refine g_iload C 2 dX10_nextOrder_87 rfl ?_
    refine g_icmp_ge C 108 dX10_nextOrder_89 (by decide) (fun c12 => ?_) (fun c12 => ?_)
    · have h := h.1 c12
      refine g_iconst C 1 dX10_nextOrder_108 (by decide) ?_
      exact g_zret C hQ rfl dX10_nextOrder_109 h
    · have h := h.2 c12
      refine g_aload_n C 0 dX10_nextOrder_92 rfl ?_
      refine g_iload_n C 1 dX10_nextOrder_93 rfl ?_
      refine g_iload C 2 dX10_nextOrder_94 rfl ?_
      refine g_callVv C (As := [.int x3, .int x4]) (st := []) (fun l => c_X10_swap_0 l D a cI cZ h) cl_RX10_78_X10 rfl re_0 (by omega) rfl (Nat.le_of_ble_eq_true rfl) dX10_nextOrder_96 (fun g13 h => ?_)
      refine g_iinc (lv' := [(3, .int (x3 + 1)), (0, .ref (a 0)), (4, .int x4)]) C 1 dX10_nextOrder_99 rfl rfl (by decide) rfl ?_
      refine g_iinc (lv' := [(4, .int (x4 + (-1))), (3, .int (x3 + 1)), (0, .ref (a 0))]) C 2 dX10_nextOrder_102 rfl rfl (by decide) rfl ?_
      refine g_goto C 86 dX10_nextOrder_105 (by decide) ?_
      refine g_sub (lv' := [(0, .ref (a 0)), (3, .int (x3 + 1)), (4, .int (x4 + (-1)))]) [2, 1, 0] rfl ?_
      exact hK86 g13 (x3 + 1) (x4 + (-1)) h
set_option maxHeartbeats 4000000 in
theorem t_X10_nextOrder_0_47 {o : Om} {D : va_G} {a : Nat → Nat} {cI cZ : ClassId} {Q : Int32 → Sg → Prop} (C : Cx o D [(cI, .int), (cZ, .boolean)] (rw a cI cZ) RX10 cX10_nextOrder (some .boolean) 1 5) (hQ : RetI o D (rw a cI cZ) Q) : ∀ (n : Nat) (f : Sg) (x1 : Int32) (x2 : Int32), itr2 (B_X10_nextOrder_0_47 Q) n f x1 x2 → Go o D (rw a cI cZ) 47 [(0, .ref (a 0)), (1, .int x1), (2, .int x2)] [] f := by
  intro n
  induction n with
  | zero => intro f x1 x2 h; exact h.elim
  | succ n ih =>
    intro f x1 x2 h
    have h : B_X10_nextOrder_0_47 Q (itr2 (B_X10_nextOrder_0_47 Q) n) f x1 x2 := h
    have hK47 := ih
    generalize itr2 (B_X10_nextOrder_0_47 Q) n = K47 at h hK47
    clear ih
    unfold B_X10_nextOrder_0_47 at h
    refine g_aload_n C 0 dX10_nextOrder_47 rfl ?_
    refine gf_RX10_23_X10 C re_0 rfl dX10_nextOrder_48 ?_
    refine g_iload_n C 2 dX10_nextOrder_51 rfl ?_
    obtain ⟨hi5, h⟩ := h
    refine g_iald C 0 re_5 rfl hi5 dX10_nextOrder_52 ?_
    refine g_aload_n C 0 dX10_nextOrder_53 rfl ?_
    refine gf_RX10_23_X10 C re_0 rfl dX10_nextOrder_54 ?_
    refine g_iload_n C 1 dX10_nextOrder_57 rfl ?_
    obtain ⟨hi6, h⟩ := h
    refine g_iald C 0 re_5 rfl hi6 dX10_nextOrder_58 ?_
    refine g_icmp_gt C 68 dX10_nextOrder_59 (by decide) (fun c7 => ?_) (fun c7 => ?_)
    · have h := h.1 c7
      refine g_aload_n C 0 dX10_nextOrder_68 rfl ?_
      refine g_iload_n C 1 dX10_nextOrder_69 rfl ?_
      refine g_iload_n C 2 dX10_nextOrder_70 rfl ?_
      refine g_callVv C (As := [.int x1, .int x2]) (st := []) (fun l => c_X10_swap_0 l D a cI cZ h) cl_RX10_78_X10 rfl re_0 (by omega) rfl (Nat.le_of_ble_eq_true rfl) dX10_nextOrder_71 (fun g8 h => ?_)
      refine g_iload_n C 1 dX10_nextOrder_74 rfl ?_
      refine g_iconst C 1 dX10_nextOrder_75 (by decide) ?_
      refine g_iadd C dX10_nextOrder_76 ?_
      refine g_top (fun z10 ez10 => ?_)
      have h := h z10 ez10
      refine g_istore_n (lv' := [(3, .int z10), (0, .ref (a 0)), (1, .int x1), (2, .int x2)]) C dX10_nextOrder_77 (by decide) rfl ?_
      refine g_aload_n C 1 dX10_nextOrder_78 rfl ?_
      refine gf_RX10_71_X10 C re_0 rfl dX10_nextOrder_79 ?_
      refine g_iconst C 1 dX10_nextOrder_82 (by decide) ?_
      refine g_isub C dX10_nextOrder_83 ?_
      refine g_top (fun z11 ez11 => ?_)
      have h := h z11 ez11
      refine g_istore (lv' := [(4, .int z11), (3, .int z10), (0, .ref (a 0)), (1, .int x1), (2, .int x2)]) C dX10_nextOrder_84 (by decide) rfl ?_
      refine g_sub (lv' := [(0, .ref (a 0)), (3, .int z10), (4, .int z11)]) [2, 1, 0] rfl ?_
      obtain ⟨n, h⟩ := h
      exact t_X10_nextOrder_0_86 C hQ n g8 z10 z11 h
    · have h := h.2 c7
      refine g_iinc (lv' := [(2, .int (x2 + (-1))), (0, .ref (a 0)), (1, .int x1)]) C 2 dX10_nextOrder_62 rfl rfl (by decide) rfl ?_
      refine g_goto C 47 dX10_nextOrder_65 (by decide) ?_
      refine g_sub (lv' := [(0, .ref (a 0)), (1, .int x1), (2, .int (x2 + (-1)))]) [1, 2, 0] rfl ?_
      exact hK47 f x1 (x2 + (-1)) h
set_option maxHeartbeats 4000000 in
theorem t_X10_nextOrder_0_34 {o : Om} {D : va_G} {a : Nat → Nat} {cI cZ : ClassId} {Q : Int32 → Sg → Prop} (C : Cx o D [(cI, .int), (cZ, .boolean)] (rw a cI cZ) RX10 cX10_nextOrder (some .boolean) 1 5) (hQ : RetI o D (rw a cI cZ) Q) {f : Sg} {x1 : Int32} (h : J_X10_nextOrder_0_34 Q f x1) : Go o D (rw a cI cZ) 34 [(0, .ref (a 0)), (1, .int x1)] [] f := by
  unfold J_X10_nextOrder_0_34 at h
  refine g_iload_n C 1 dX10_nextOrder_34 rfl ?_
  refine g_if_ge C 40 dX10_nextOrder_35 (by decide) (fun c3 => ?_) (fun c3 => ?_)
  · have h := h.1 c3
    refine g_aload_n C 0 dX10_nextOrder_40 rfl ?_
    refine gf_RX10_71_X10 C re_0 rfl dX10_nextOrder_41 ?_
    refine g_iconst C 1 dX10_nextOrder_44 (by decide) ?_
    refine g_isub C dX10_nextOrder_45 ?_
    refine g_top (fun z4 ez4 => ?_)
    have h := h z4 ez4
    refine g_istore_n (lv' := [(2, .int z4), (0, .ref (a 0)), (1, .int x1)]) C dX10_nextOrder_46 (by decide) rfl ?_
    refine g_sub (lv' := [(0, .ref (a 0)), (1, .int x1), (2, .int z4)]) [1, 2, 0] rfl ?_
    obtain ⟨n, h⟩ := h
    exact t_X10_nextOrder_0_47 C hQ n f x1 z4 h
  · have h := h.2 c3
    refine g_iconst C 0 dX10_nextOrder_38 (by decide) ?_
    exact g_zret C hQ rfl dX10_nextOrder_39 h
set_option maxHeartbeats 4000000 in
theorem t_X10_nextOrder_0_7 {o : Om} {D : va_G} {a : Nat → Nat} {cI cZ : ClassId} {Q : Int32 → Sg → Prop} (C : Cx o D [(cI, .int), (cZ, .boolean)] (rw a cI cZ) RX10 cX10_nextOrder (some .boolean) 1 5) (hQ : RetI o D (rw a cI cZ) Q) : ∀ (n : Nat) (f : Sg) (x1 : Int32), itr1 (B_X10_nextOrder_0_7 Q) n f x1 → Go o D (rw a cI cZ) 7 [(0, .ref (a 0)), (1, .int x1)] [] f := by
  intro n
  induction n with
  | zero => intro f x1 h; exact h.elim
  | succ n ih =>
    intro f x1 h
    have h : B_X10_nextOrder_0_7 Q (itr1 (B_X10_nextOrder_0_7 Q) n) f x1 := h
    have hK7 := ih
    generalize itr1 (B_X10_nextOrder_0_7 Q) n = K7 at h hK7
    clear ih
    unfold B_X10_nextOrder_0_7 at h
    refine g_iload_n C 1 dX10_nextOrder_7 rfl ?_
    refine g_if_lt C 34 dX10_nextOrder_8 (by decide) (fun c2 => ?_) (fun c2 => ?_)
    · have h := h.1 c2
      refine g_sub (lv' := [(0, .ref (a 0)), (1, .int x1)]) [0, 1] rfl ?_
      exact t_X10_nextOrder_0_34 C hQ h
    · have h := h.2 c2
      refine g_aload_n C 0 dX10_nextOrder_11 rfl ?_
      refine gf_RX10_23_X10 C re_0 rfl dX10_nextOrder_12 ?_
      refine g_iload_n C 1 dX10_nextOrder_15 rfl ?_
      obtain ⟨hi15, h⟩ := h
      refine g_iald C 0 re_5 rfl hi15 dX10_nextOrder_16 ?_
      refine g_aload_n C 0 dX10_nextOrder_17 rfl ?_
      refine gf_RX10_23_X10 C re_0 rfl dX10_nextOrder_18 ?_
      refine g_iload_n C 1 dX10_nextOrder_21 rfl ?_
      refine g_iconst C 1 dX10_nextOrder_22 (by decide) ?_
      refine g_iadd C dX10_nextOrder_23 ?_
      obtain ⟨hi16, h⟩ := h
      refine g_iald C 0 re_5 rfl hi16 dX10_nextOrder_24 ?_
      refine g_icmp_lt C 34 dX10_nextOrder_25 (by decide) (fun c17 => ?_) (fun c17 => ?_)
      · have h := h.1 c17
        refine g_sub (lv' := [(0, .ref (a 0)), (1, .int x1)]) [0, 1] rfl ?_
        exact t_X10_nextOrder_0_34 C hQ h
      · have h := h.2 c17
        refine g_iinc (lv' := [(1, .int (x1 + (-1))), (0, .ref (a 0))]) C 1 dX10_nextOrder_28 rfl rfl (by decide) rfl ?_
        refine g_goto C 7 dX10_nextOrder_31 (by decide) ?_
        refine g_sub (lv' := [(0, .ref (a 0)), (1, .int (x1 + (-1)))]) [1, 0] rfl ?_
        exact hK7 f (x1 + (-1)) h
set_option maxHeartbeats 4000000 in
theorem c_X10_nextOrder_0 (l : Launch) (D : va_G) (a : Nat → Nat) (cI cZ : ClassId) {f : Sg} {Q : Int32 → Sg → Prop} (h : M_X10_nextOrder_0 f Q) : MI l D [(cI, .int), (cZ, .boolean)] (rw a cI cZ) yX10_nextOrder cX10_nextOrder 5 (some .boolean) (1) [.ref (a 0)] f Q := by
  refine mkI (rw_fix a cI cZ) (by decide +kernel) (Nat.le_of_ble_eq_true rfl) (fun o C hQ => ?_)
  show Go o D (rw a cI cZ) 0 [(0, .ref (a 0))] [] f
  unfold M_X10_nextOrder_0 at h
  refine g_aload_n C 0 dX10_nextOrder_0 rfl ?_
  refine gf_RX10_71_X10 C re_0 rfl dX10_nextOrder_1 ?_
  refine g_iconst C 2 dX10_nextOrder_4 (by decide) ?_
  refine g_isub C dX10_nextOrder_5 ?_
  refine g_top (fun z1 ez1 => ?_)
  have h := h z1 ez1
  refine g_istore_n (lv' := [(1, .int z1), (0, .ref (a 0))]) C dX10_nextOrder_6 (by decide) rfl ?_
  refine g_sub (lv' := [(0, .ref (a 0)), (1, .int z1)]) [1, 0] rfl ?_
  obtain ⟨n, h⟩ := h
  exact t_X10_nextOrder_0_7 C hQ n f z1 h
/-! X10_keepBest_0: rank 0 -/
def B_X10_keepBest_0_2 (Q : Sg → Prop) (K2 : Sg → Int32 → Prop) (f : Sg) (x1 : Int32) : Prop :=
  ((f 0 6) ≤ x1 → Q f) ∧ (¬ (f 0 6) ≤ x1 → vp_in x1 9 ∧ vp_in x1 9 ∧ ∀ g4 : Sg, g4 = va_up f 6 (upd (f 6) (x1 : Int32).toNatClampNeg (f 5 (x1 : Int32).toNatClampNeg)) → K2 g4 (x1 + 1))
def M_X10_keepBest_0 (f : Sg) (Q : Sg → Prop) : Prop :=
  ∃ n : Nat, itr1 (B_X10_keepBest_0_2 Q) n f 0
set_option maxHeartbeats 4000000 in
theorem t_X10_keepBest_0_2 {o : Om} {D : va_G} {a : Nat → Nat} {cI cZ : ClassId} {Q : Sg → Prop} (C : Cx o D [(cI, .int), (cZ, .boolean)] (rw a cI cZ) RX10 cX10_keepBest none 0 2) (hQ : RetV o D (rw a cI cZ) Q) : ∀ (n : Nat) (f : Sg) (x1 : Int32), itr1 (B_X10_keepBest_0_2 Q) n f x1 → Go o D (rw a cI cZ) 2 [(0, .ref (a 0)), (1, .int x1)] [] f := by
  intro n
  induction n with
  | zero => intro f x1 h; exact h.elim
  | succ n ih =>
    intro f x1 h
    have h : B_X10_keepBest_0_2 Q (itr1 (B_X10_keepBest_0_2 Q) n) f x1 := h
    have hK2 := ih
    generalize itr1 (B_X10_keepBest_0_2 Q) n = K2 at h hK2
    clear ih
    unfold B_X10_keepBest_0_2 at h
    refine g_iload_n C 1 dX10_keepBest_2 rfl ?_
    refine g_aload_n C 0 dX10_keepBest_3 rfl ?_
    refine gf_RX10_71_X10 C re_0 rfl dX10_keepBest_4 ?_
    refine g_icmp_ge C 28 dX10_keepBest_7 (by decide) (fun c1 => ?_) (fun c1 => ?_)
    · have h := h.1 c1
      exact g_vret C hQ dX10_keepBest_28 h
    · have h := h.2 c1
      refine g_aload_n C 0 dX10_keepBest_10 rfl ?_
      refine gf_RX10_26_X10 C re_0 rfl dX10_keepBest_11 ?_
      refine g_iload_n C 1 dX10_keepBest_14 rfl ?_
      refine g_aload_n C 0 dX10_keepBest_15 rfl ?_
      refine gf_RX10_23_X10 C re_0 rfl dX10_keepBest_16 ?_
      refine g_iload_n C 1 dX10_keepBest_19 rfl ?_
      obtain ⟨hi2, h⟩ := h
      refine g_iald C 0 re_5 rfl hi2 dX10_keepBest_20 ?_
      obtain ⟨hi3, h⟩ := h
      obtain ⟨g4, eg4⟩ : ∃ g : Sg, g = va_up f 6 (upd (f 6) (x1 : Int32).toNatClampNeg (f 5 (x1 : Int32).toNatClampNeg)) := ⟨_, rfl⟩
      have h := h g4 eg4
      refine g_iast C 0 re_6 rfl (g := g4) (by rw [eg4]; exact rs_6) hi3 dX10_keepBest_21 ?_
      refine g_iinc (lv' := [(1, .int (x1 + 1)), (0, .ref (a 0))]) C 1 dX10_keepBest_22 rfl rfl (by decide) rfl ?_
      refine g_goto C 2 dX10_keepBest_25 (by decide) ?_
      refine g_sub (lv' := [(0, .ref (a 0)), (1, .int (x1 + 1))]) [1, 0] rfl ?_
      exact hK2 g4 (x1 + 1) h
set_option maxHeartbeats 4000000 in
theorem c_X10_keepBest_0 (l : Launch) (D : va_G) (a : Nat → Nat) (cI cZ : ClassId) {f : Sg} {Q : Sg → Prop} (h : M_X10_keepBest_0 f Q) : MV l D [(cI, .int), (cZ, .boolean)] (rw a cI cZ) yX10_keepBest cX10_keepBest 2 (0) [.ref (a 0)] f Q := by
  refine mkV (rw_fix a cI cZ) (by decide +kernel) (Nat.le_of_ble_eq_true rfl) (fun o C hQ => ?_)
  show Go o D (rw a cI cZ) 0 [(0, .ref (a 0))] [] f
  unfold M_X10_keepBest_0 at h
  refine g_iconst C 0 dX10_keepBest_0 (by decide) ?_
  refine g_istore_n (lv' := [(1, .int 0), (0, .ref (a 0))]) C dX10_keepBest_1 (by decide) rfl ?_
  refine g_sub (lv' := [(0, .ref (a 0)), (1, .int 0)]) [1, 0] rfl ?_
  obtain ⟨n, h⟩ := h
  exact t_X10_keepBest_0_2 C hQ n f 0 h
/-! X10_goFits_0: rank 4 -/
def J_X10_goFits_0_97 (Q : Sg → Prop) (K32 : Sg → Int32 → Prop) (f : Sg) : Prop :=
  M_X10_nextOrder_0 f (fun r10 g9 => K32 g9 r10)
def B_X10_goFits_0_66 (Q : Sg → Prop) (K32 : Sg → Int32 → Prop) (K66 : Sg → Int32 → Prop) (f : Sg) (x2 : Int32) : Prop :=
  ((f 0 6) ≤ x2 → J_X10_goFits_0_97 Q K32 f) ∧ (¬ (f 0 6) ≤ x2 → vp_in x2 9 ∧ vp_in x2 9 ∧ vp_in x2 9 ∧ ∀ g17 : Sg, g17 = va_up f 7 (upd (f 7) (x2 : Int32).toNatClampNeg ((f 7 (x2 : Int32).toNatClampNeg) ||| ((1 : Int32) <<< ((f 5 (x2 : Int32).toNatClampNeg) &&& 31)))) → K66 g17 (x2 + 1))
def J_X10_goFits_0_54 (Q : Sg → Prop) (K32 : Sg → Int32 → Prop) (f : Sg) : Prop :=
  ∀ g12 : Sg, g12 = va_up f 0 (upd (f 0) 9 ((f 0 9) + 1)) → ∃ n : Nat, itr1 (B_X10_goFits_0_66 Q K32) n g12 0
def B_X10_goFits_0_32 (Q : Sg → Prop) (K32 : Sg → Int32 → Prop) (f : Sg) (x1 : Int32) : Prop :=
  (x1 = 0 → Q f) ∧ (¬ x1 = 0 → M_X10_breaks_0 f (fun r7 g6 => (r7 = 0 → ((g6 0 9) = 0 → M_X10_keepBest_0 g6 (fun g18 => J_X10_goFits_0_54 Q K32 g18)) ∧ (¬ (g6 0 9) = 0 → J_X10_goFits_0_54 Q K32 g6)) ∧ (¬ r7 = 0 → J_X10_goFits_0_97 Q K32 g6)))
def B_X10_goFits_0_7 (Q : Sg → Prop) (K7 : Sg → Int32 → Prop) (f : Sg) (x1 : Int32) : Prop :=
  (9 ≤ x1 → M_X10_firstOrder_0 f (fun g3 => ∃ n : Nat, itr1 (B_X10_goFits_0_32 Q) n g3 1)) ∧ (¬ 9 ≤ x1 → vp_in x1 9 ∧ ∀ g21 : Sg, g21 = va_up f 7 (upd (f 7) (x1 : Int32).toNatClampNeg 0) → K7 g21 (x1 + 1))
def M_X10_goFits_0 (f : Sg) (Q : Sg → Prop) : Prop :=
  ∀ g1 : Sg, g1 = va_up f 0 (upd (f 0) 9 0) → ∃ n : Nat, itr1 (B_X10_goFits_0_7 Q) n g1 0
set_option maxHeartbeats 4000000 in
theorem t_X10_goFits_0_97 {o : Om} {D : va_G} {a : Nat → Nat} {cI cZ : ClassId} {Q : Sg → Prop} {K32 : Sg → Int32 → Prop} (C : Cx o D [(cI, .int), (cZ, .boolean)] (rw a cI cZ) RX10 cX10_goFits none 4 3) (hQ : RetV o D (rw a cI cZ) Q) (hK32 : ∀ (g : Sg) (x1 : Int32), K32 g x1 → Go o D (rw a cI cZ) 32 [(0, .ref (a 0)), (1, .int x1)] [] g) {f : Sg} (h : J_X10_goFits_0_97 Q K32 f) : Go o D (rw a cI cZ) 97 [(0, .ref (a 0))] [] f := by
  unfold J_X10_goFits_0_97 at h
  refine g_aload_n C 0 dX10_goFits_97 rfl ?_
  refine g_callVi C (As := []) (st := []) (fun l => c_X10_nextOrder_0 l D a cI cZ h) cl_RX10_94_X10 rfl re_0 (by omega) rfl (Nat.le_of_ble_eq_true rfl) dX10_goFits_98 (fun r10 g9 h => ?_)
  refine g_istore_n (lv' := [(1, .int r10), (0, .ref (a 0))]) C dX10_goFits_101 (by decide) rfl ?_
  refine g_goto C 32 dX10_goFits_102 (by decide) ?_
  refine g_sub (lv' := [(0, .ref (a 0)), (1, .int r10)]) [1, 0] rfl ?_
  exact hK32 g9 r10 h
set_option maxHeartbeats 4000000 in
theorem t_X10_goFits_0_66 {o : Om} {D : va_G} {a : Nat → Nat} {cI cZ : ClassId} {Q : Sg → Prop} {K32 : Sg → Int32 → Prop} (C : Cx o D [(cI, .int), (cZ, .boolean)] (rw a cI cZ) RX10 cX10_goFits none 4 3) (hQ : RetV o D (rw a cI cZ) Q) (hK32 : ∀ (g : Sg) (x1 : Int32), K32 g x1 → Go o D (rw a cI cZ) 32 [(0, .ref (a 0)), (1, .int x1)] [] g) : ∀ (n : Nat) (f : Sg) (x2 : Int32), itr1 (B_X10_goFits_0_66 Q K32) n f x2 → Go o D (rw a cI cZ) 66 [(0, .ref (a 0)), (2, .int x2)] [] f := by
  intro n
  induction n with
  | zero => intro f x2 h; exact h.elim
  | succ n ih =>
    intro f x2 h
    have h : B_X10_goFits_0_66 Q K32 (itr1 (B_X10_goFits_0_66 Q K32) n) f x2 := h
    have hK66 := ih
    generalize itr1 (B_X10_goFits_0_66 Q K32) n = K66 at h hK66
    clear ih
    unfold B_X10_goFits_0_66 at h
    refine g_iload_n C 1 dX10_goFits_66 rfl ?_
    refine g_aload_n C 0 dX10_goFits_67 rfl ?_
    refine gf_RX10_71_X10 C re_0 rfl dX10_goFits_68 ?_
    refine g_icmp_ge C 97 dX10_goFits_71 (by decide) (fun c13 => ?_) (fun c13 => ?_)
    · have h := h.1 c13
      refine g_sub (lv' := [(0, .ref (a 0))]) [0] rfl ?_
      exact t_X10_goFits_0_97 C hQ hK32 h
    · have h := h.2 c13
      refine g_aload_n C 0 dX10_goFits_74 rfl ?_
      refine gf_RX10_29_X10 C re_0 rfl dX10_goFits_75 ?_
      refine g_iload_n C 1 dX10_goFits_78 rfl ?_
      refine g_dup2 C dX10_goFits_79 rfl rfl ?_
      obtain ⟨hi14, h⟩ := h
      refine g_iald C 0 re_7 rfl hi14 dX10_goFits_80 ?_
      refine g_iconst C 1 dX10_goFits_81 (by decide) ?_
      refine g_aload_n C 0 dX10_goFits_82 rfl ?_
      refine gf_RX10_23_X10 C re_0 rfl dX10_goFits_83 ?_
      refine g_iload_n C 1 dX10_goFits_86 rfl ?_
      obtain ⟨hi15, h⟩ := h
      refine g_iald C 0 re_5 rfl hi15 dX10_goFits_87 ?_
      refine g_ishl C dX10_goFits_88 ?_
      refine g_ior C dX10_goFits_89 ?_
      obtain ⟨hi16, h⟩ := h
      obtain ⟨g17, eg17⟩ : ∃ g : Sg, g = va_up f 7 (upd (f 7) (x2 : Int32).toNatClampNeg ((f 7 (x2 : Int32).toNatClampNeg) ||| ((1 : Int32) <<< ((f 5 (x2 : Int32).toNatClampNeg) &&& 31)))) := ⟨_, rfl⟩
      have h := h g17 eg17
      refine g_iast C 0 re_7 rfl (g := g17) (by rw [eg17]; exact rs_7) hi16 dX10_goFits_90 ?_
      refine g_iinc (lv' := [(2, .int (x2 + 1)), (0, .ref (a 0))]) C 1 dX10_goFits_91 rfl rfl (by decide) rfl ?_
      refine g_goto C 66 dX10_goFits_94 (by decide) ?_
      refine g_sub (lv' := [(0, .ref (a 0)), (2, .int (x2 + 1))]) [1, 0] rfl ?_
      exact hK66 g17 (x2 + 1) h
set_option maxHeartbeats 4000000 in
theorem t_X10_goFits_0_54 {o : Om} {D : va_G} {a : Nat → Nat} {cI cZ : ClassId} {Q : Sg → Prop} {K32 : Sg → Int32 → Prop} (C : Cx o D [(cI, .int), (cZ, .boolean)] (rw a cI cZ) RX10 cX10_goFits none 4 3) (hQ : RetV o D (rw a cI cZ) Q) (hK32 : ∀ (g : Sg) (x1 : Int32), K32 g x1 → Go o D (rw a cI cZ) 32 [(0, .ref (a 0)), (1, .int x1)] [] g) {f : Sg} (h : J_X10_goFits_0_54 Q K32 f) : Go o D (rw a cI cZ) 54 [(0, .ref (a 0))] [] f := by
  unfold J_X10_goFits_0_54 at h
  refine g_aload_n C 0 dX10_goFits_54 rfl ?_
  refine g_dup C dX10_goFits_55 rfl ?_
  refine gf_RX10_82_X10 C re_0 rfl dX10_goFits_56 ?_
  refine g_iconst C 1 dX10_goFits_59 (by decide) ?_
  refine g_iadd C dX10_goFits_60 ?_
  obtain ⟨g12, eg12⟩ : ∃ g : Sg, g = va_up f 0 (upd (f 0) 9 ((f 0 9) + 1)) := ⟨_, rfl⟩
  have h := h g12 eg12
  refine gp_RX10_82_X10 C rfl rfl re_0 (Nat.le_of_ble_eq_true rfl) (g := g12) (by rw [eg12]; exact rs_0_9) dX10_goFits_61 ?_
  refine g_iconst C 0 dX10_goFits_64 (by decide) ?_
  refine g_istore_n (lv' := [(2, .int 0), (0, .ref (a 0))]) C dX10_goFits_65 (by decide) rfl ?_
  refine g_sub (lv' := [(0, .ref (a 0)), (2, .int 0)]) [1, 0] rfl ?_
  obtain ⟨n, h⟩ := h
  exact t_X10_goFits_0_66 C hQ hK32 n g12 0 h
set_option maxHeartbeats 4000000 in
theorem t_X10_goFits_0_32 {o : Om} {D : va_G} {a : Nat → Nat} {cI cZ : ClassId} {Q : Sg → Prop} (C : Cx o D [(cI, .int), (cZ, .boolean)] (rw a cI cZ) RX10 cX10_goFits none 4 3) (hQ : RetV o D (rw a cI cZ) Q) : ∀ (n : Nat) (f : Sg) (x1 : Int32), itr1 (B_X10_goFits_0_32 Q) n f x1 → Go o D (rw a cI cZ) 32 [(0, .ref (a 0)), (1, .int x1)] [] f := by
  intro n
  induction n with
  | zero => intro f x1 h; exact h.elim
  | succ n ih =>
    intro f x1 h
    have h : B_X10_goFits_0_32 Q (itr1 (B_X10_goFits_0_32 Q) n) f x1 := h
    have hK32 := ih
    generalize itr1 (B_X10_goFits_0_32 Q) n = K32 at h hK32
    clear ih
    unfold B_X10_goFits_0_32 at h
    refine g_iload_n C 1 dX10_goFits_32 rfl ?_
    refine g_if_eq C 105 dX10_goFits_33 (by decide) (fun c5 => ?_) (fun c5 => ?_)
    · have h := h.1 c5
      exact g_vret C hQ dX10_goFits_105 h
    · have h := h.2 c5
      refine g_aload_n C 0 dX10_goFits_36 rfl ?_
      refine g_callVi C (As := []) (st := []) (fun l => c_X10_breaks_0 l D a cI cZ h) cl_RX10_88_X10 rfl re_0 (by omega) rfl (Nat.le_of_ble_eq_true rfl) dX10_goFits_37 (fun r7 g6 h => ?_)
      refine g_if_ne C 97 dX10_goFits_40 (by decide) (fun c8 => ?_) (fun c8 => ?_)
      · have h := h.2 c8
        refine g_sub (lv' := [(0, .ref (a 0))]) [0] rfl ?_
        exact t_X10_goFits_0_97 C hQ hK32 h
      · have h := h.1 c8
        refine g_aload_n C 0 dX10_goFits_43 rfl ?_
        refine gf_RX10_82_X10 C re_0 rfl dX10_goFits_44 ?_
        refine g_if_ne C 54 dX10_goFits_47 (by decide) (fun c11 => ?_) (fun c11 => ?_)
        · have h := h.2 c11
          refine g_sub (lv' := [(0, .ref (a 0))]) [0] rfl ?_
          exact t_X10_goFits_0_54 C hQ hK32 h
        · have h := h.1 c11
          refine g_aload_n C 0 dX10_goFits_50 rfl ?_
          refine g_callVv C (As := []) (st := []) (fun l => c_X10_keepBest_0 l D a cI cZ h) cl_RX10_91_X10 rfl re_0 (by omega) rfl (Nat.le_of_ble_eq_true rfl) dX10_goFits_51 (fun g18 h => ?_)
          refine g_sub (lv' := [(0, .ref (a 0))]) [0] rfl ?_
          exact t_X10_goFits_0_54 C hQ hK32 h
set_option maxHeartbeats 4000000 in
theorem t_X10_goFits_0_7 {o : Om} {D : va_G} {a : Nat → Nat} {cI cZ : ClassId} {Q : Sg → Prop} (C : Cx o D [(cI, .int), (cZ, .boolean)] (rw a cI cZ) RX10 cX10_goFits none 4 3) (hQ : RetV o D (rw a cI cZ) Q) : ∀ (n : Nat) (f : Sg) (x1 : Int32), itr1 (B_X10_goFits_0_7 Q) n f x1 → Go o D (rw a cI cZ) 7 [(0, .ref (a 0)), (1, .int x1)] [] f := by
  intro n
  induction n with
  | zero => intro f x1 h; exact h.elim
  | succ n ih =>
    intro f x1 h
    have h : B_X10_goFits_0_7 Q (itr1 (B_X10_goFits_0_7 Q) n) f x1 := h
    have hK7 := ih
    generalize itr1 (B_X10_goFits_0_7 Q) n = K7 at h hK7
    clear ih
    unfold B_X10_goFits_0_7 at h
    refine g_iload_n C 1 dX10_goFits_7 rfl ?_
    refine g_bipush C 9 dX10_goFits_8 (by decide) ?_
    refine g_icmp_ge C 26 dX10_goFits_10 (by decide) (fun c2 => ?_) (fun c2 => ?_)
    · have h := h.1 c2
      refine g_aload_n C 0 dX10_goFits_26 rfl ?_
      refine g_callVv C (As := []) (st := []) (fun l => c_X10_firstOrder_0 l D a cI cZ h) cl_RX10_85_X10 rfl re_0 (by omega) rfl (Nat.le_of_ble_eq_true rfl) dX10_goFits_27 (fun g3 h => ?_)
      refine g_iconst C 1 dX10_goFits_30 (by decide) ?_
      refine g_istore_n (lv' := [(1, .int 1), (0, .ref (a 0))]) C dX10_goFits_31 (by decide) rfl ?_
      refine g_sub (lv' := [(0, .ref (a 0)), (1, .int 1)]) [1, 0] rfl ?_
      obtain ⟨n, h⟩ := h
      exact t_X10_goFits_0_32 C hQ n g3 1 h
    · have h := h.2 c2
      refine g_aload_n C 0 dX10_goFits_13 rfl ?_
      refine gf_RX10_29_X10 C re_0 rfl dX10_goFits_14 ?_
      refine g_iload_n C 1 dX10_goFits_17 rfl ?_
      refine g_iconst C 0 dX10_goFits_18 (by decide) ?_
      obtain ⟨hi20, h⟩ := h
      obtain ⟨g21, eg21⟩ : ∃ g : Sg, g = va_up f 7 (upd (f 7) (x1 : Int32).toNatClampNeg 0) := ⟨_, rfl⟩
      have h := h g21 eg21
      refine g_iast C 0 re_7 rfl (g := g21) (by rw [eg21]; exact rs_7) hi20 dX10_goFits_19 ?_
      refine g_iinc (lv' := [(1, .int (x1 + 1)), (0, .ref (a 0))]) C 1 dX10_goFits_20 rfl rfl (by decide) rfl ?_
      refine g_goto C 7 dX10_goFits_23 (by decide) ?_
      refine g_sub (lv' := [(0, .ref (a 0)), (1, .int (x1 + 1))]) [1, 0] rfl ?_
      exact hK7 g21 (x1 + 1) h
set_option maxHeartbeats 4000000 in
theorem c_X10_goFits_0 (l : Launch) (D : va_G) (a : Nat → Nat) (cI cZ : ClassId) {f : Sg} {Q : Sg → Prop} (h : M_X10_goFits_0 f Q) : MV l D [(cI, .int), (cZ, .boolean)] (rw a cI cZ) yX10_goFits cX10_goFits 3 (4) [.ref (a 0)] f Q := by
  refine mkV (rw_fix a cI cZ) (by decide +kernel) (Nat.le_of_ble_eq_true rfl) (fun o C hQ => ?_)
  show Go o D (rw a cI cZ) 0 [(0, .ref (a 0))] [] f
  unfold M_X10_goFits_0 at h
  refine g_aload_n C 0 dX10_goFits_0 rfl ?_
  refine g_iconst C 0 dX10_goFits_1 (by decide) ?_
  obtain ⟨g1, eg1⟩ : ∃ g : Sg, g = va_up f 0 (upd (f 0) 9 0) := ⟨_, rfl⟩
  have h := h g1 eg1
  refine gp_RX10_82_X10 C rfl rfl re_0 (Nat.le_of_ble_eq_true rfl) (g := g1) (by rw [eg1]; exact rs_0_9) dX10_goFits_2 ?_
  refine g_iconst C 0 dX10_goFits_5 (by decide) ?_
  refine g_istore_n (lv' := [(1, .int 0), (0, .ref (a 0))]) C dX10_goFits_6 (by decide) rfl ?_
  refine g_sub (lv' := [(0, .ref (a 0)), (1, .int 0)]) [1, 0] rfl ?_
  obtain ⟨n, h⟩ := h
  exact t_X10_goFits_0_7 C hQ n g1 0 h
/-! X10_told__0: rank 1 -/
def J_X10_told__0_32 (Q : Int32 → Sg → Prop) (f : Sg) (s0 : Int32) : Prop :=
  Q s0 f
def J_X10_told__0_30 (Q : Int32 → Sg → Prop) (f : Sg) : Prop :=
  J_X10_told__0_32 Q f (-6)
def M_X10_told__0 (f : Sg) (x1 : Int32) (Q : Int32 → Sg → Prop) : Prop :=
  M_X10_in f x1 0 ((f 0 6) - 1) (fun r2 g1 => (r2 = 0 → J_X10_told__0_30 Q g1) ∧ (¬ r2 = 0 → ((g1 0 9) ≤ 0 → J_X10_told__0_30 Q g1) ∧ (¬ (g1 0 9) ≤ 0 → vp_in x1 9 ∧ J_X10_told__0_32 Q g1 (g1 6 (x1 : Int32).toNatClampNeg))))
set_option maxHeartbeats 4000000 in
theorem t_X10_told__0_32 {o : Om} {D : va_G} {a : Nat → Nat} {cI cZ : ClassId} {Q : Int32 → Sg → Prop} (C : Cx o D [(cI, .int), (cZ, .boolean)] (rw a cI cZ) RX10 cX10_told_ (some .int) 1 2) (hQ : RetI o D (rw a cI cZ) Q) {f : Sg} {s0 : Int32} (h : J_X10_told__0_32 Q f s0) : Go o D (rw a cI cZ) 32 [] [.int s0] f := by
  unfold J_X10_told__0_32 at h
  exact g_iret C hQ dX10_told__32 h
set_option maxHeartbeats 4000000 in
theorem t_X10_told__0_30 {o : Om} {D : va_G} {a : Nat → Nat} {cI cZ : ClassId} {Q : Int32 → Sg → Prop} (C : Cx o D [(cI, .int), (cZ, .boolean)] (rw a cI cZ) RX10 cX10_told_ (some .int) 1 2) (hQ : RetI o D (rw a cI cZ) Q) {f : Sg} (h : J_X10_told__0_30 Q f) : Go o D (rw a cI cZ) 30 [] [] f := by
  unfold J_X10_told__0_30 at h
  refine g_bipush C (-6) dX10_told__30 (by decide) ?_
  refine g_sub (lv' := []) [] rfl ?_
  exact t_X10_told__0_32 C hQ h
set_option maxHeartbeats 4000000 in
theorem c_X10_told__0 (l : Launch) (D : va_G) (a : Nat → Nat) (cI cZ : ClassId) {f : Sg} {x1 : Int32} {Q : Int32 → Sg → Prop} (h : M_X10_told__0 f x1 Q) : MI l D [(cI, .int), (cZ, .boolean)] (rw a cI cZ) yX10_told_ cX10_told_ 2 (some .int) (1) [.ref (a 0), .int x1] f Q := by
  refine mkI (rw_fix a cI cZ) (by decide +kernel) (Nat.le_of_ble_eq_true rfl) (fun o C hQ => ?_)
  show Go o D (rw a cI cZ) 0 [(0, .ref (a 0)), (1, .int x1)] [] f
  unfold M_X10_told__0 at h
  refine g_iload_n C 1 dX10_told__0 rfl ?_
  refine g_iconst C 0 dX10_told__1 (by decide) ?_
  refine g_aload_n C 0 dX10_told__2 rfl ?_
  refine gf_RX10_71_X10 C re_0 rfl dX10_told__3 ?_
  refine g_iconst C 1 dX10_told__6 (by decide) ?_
  refine g_isub C dX10_told__7 ?_
  refine g_callSi C (As := [.int x1, .int 0, .int ((f 0 6) - 1)]) (st := []) (fun l => c_X10_in l D a cI cZ h) cl_RX10_38 (by omega) rfl (Nat.le_of_ble_eq_true rfl) dX10_told__8 (fun r2 g1 h => ?_)
  refine g_if_eq C 30 dX10_told__11 (by decide) (fun c3 => ?_) (fun c3 => ?_)
  · have h := h.1 c3
    refine g_sub (lv' := []) [] rfl ?_
    exact t_X10_told__0_30 C hQ h
  · have h := h.2 c3
    refine g_aload_n C 0 dX10_told__14 rfl ?_
    refine gf_RX10_82_X10 C re_0 rfl dX10_told__15 ?_
    refine g_if_le C 30 dX10_told__18 (by decide) (fun c4 => ?_) (fun c4 => ?_)
    · have h := h.1 c4
      refine g_sub (lv' := []) [] rfl ?_
      exact t_X10_told__0_30 C hQ h
    · have h := h.2 c4
      refine g_aload_n C 0 dX10_told__21 rfl ?_
      refine gf_RX10_26_X10 C re_0 rfl dX10_told__22 ?_
      refine g_iload_n C 1 dX10_told__25 rfl ?_
      obtain ⟨hi5, h⟩ := h
      refine g_iald C 0 re_6 rfl hi5 dX10_told__26 ?_
      refine g_goto C 32 dX10_told__27 (by decide) ?_
      refine g_sub (lv' := []) [] rfl ?_
      exact t_X10_told__0_32 C hQ h
/-! X10_fits_0: rank 5 -/
def J_X10_fits_0_29 (Q : Int32 → Sg → Prop) (f : Sg) (s0 : Int32) : Prop :=
  Q s0 f
def M_X10_fits_0 (f : Sg) (x1 : Int32) (Q : Int32 → Sg → Prop) : Prop :=
  ((-1) ≤ x1 → M_X10_goFits_0 f (fun g2 => (x1 = (-1) → J_X10_fits_0_29 Q g2 (g2 0 9)) ∧ (¬ x1 = (-1) → M_X10_told__0 g2 x1 (fun r6 g5 => J_X10_fits_0_29 Q g5 r6)))) ∧ (¬ (-1) ≤ x1 → Q (-2) f)
set_option maxHeartbeats 4000000 in
theorem t_X10_fits_0_29 {o : Om} {D : va_G} {a : Nat → Nat} {cI cZ : ClassId} {Q : Int32 → Sg → Prop} (C : Cx o D [(cI, .int), (cZ, .boolean)] (rw a cI cZ) RX10 cX10_fits (some .int) 5 2) (hQ : RetI o D (rw a cI cZ) Q) {f : Sg} {s0 : Int32} (h : J_X10_fits_0_29 Q f s0) : Go o D (rw a cI cZ) 29 [] [.int s0] f := by
  unfold J_X10_fits_0_29 at h
  exact g_iret C hQ dX10_fits_29 h
set_option maxHeartbeats 4000000 in
theorem c_X10_fits_0 (l : Launch) (D : va_G) (a : Nat → Nat) (cI cZ : ClassId) {f : Sg} {x1 : Int32} {Q : Int32 → Sg → Prop} (h : M_X10_fits_0 f x1 Q) : MI l D [(cI, .int), (cZ, .boolean)] (rw a cI cZ) yX10_fits cX10_fits 2 (some .int) (5) [.ref (a 0), .int x1] f Q := by
  refine mkI (rw_fix a cI cZ) (by decide +kernel) (Nat.le_of_ble_eq_true rfl) (fun o C hQ => ?_)
  show Go o D (rw a cI cZ) 0 [(0, .ref (a 0)), (1, .int x1)] [] f
  unfold M_X10_fits_0 at h
  refine g_iload_n C 1 dX10_fits_0 rfl ?_
  refine g_iconst C (-1) dX10_fits_1 (by decide) ?_
  refine g_icmp_ge C 8 dX10_fits_2 (by decide) (fun c1 => ?_) (fun c1 => ?_)
  · have h := h.1 c1
    refine g_aload_n C 0 dX10_fits_8 rfl ?_
    refine g_callVv C (As := []) (st := []) (fun l => c_X10_goFits_0 l D a cI cZ h) cl_RX10_98_X10 rfl re_0 (by omega) rfl (Nat.le_of_ble_eq_true rfl) dX10_fits_9 (fun g2 h => ?_)
    refine g_iload_n C 1 dX10_fits_12 rfl ?_
    refine g_iconst C (-1) dX10_fits_13 (by decide) ?_
    refine g_icmp_ne C 24 dX10_fits_14 (by decide) (fun c4 => ?_) (fun c4 => ?_)
    · have h := h.2 c4
      refine g_aload_n C 0 dX10_fits_24 rfl ?_
      refine g_iload_n C 1 dX10_fits_25 rfl ?_
      refine g_callVi C (As := [.int x1]) (st := []) (fun l => c_X10_told__0 l D a cI cZ h) cl_RX10_101_X10 rfl re_0 (by omega) rfl (Nat.le_of_ble_eq_true rfl) dX10_fits_26 (fun r6 g5 h => ?_)
      refine g_sub (lv' := []) [] rfl ?_
      exact t_X10_fits_0_29 C hQ h
    · have h := h.1 c4
      refine g_aload_n C 0 dX10_fits_17 rfl ?_
      refine gf_RX10_82_X10 C re_0 rfl dX10_fits_18 ?_
      refine g_goto C 29 dX10_fits_21 (by decide) ?_
      refine g_sub (lv' := []) [] rfl ?_
      exact t_X10_fits_0_29 C hQ h
  · have h := h.2 c1
    refine g_bipush C (-2) dX10_fits_5 (by decide) ?_
    exact g_iret C hQ dX10_fits_7 h
/-! X10_goLeast_0: rank 4 -/
def J_X10_goLeast_0_103 (Q : Sg → Prop) (K33 : Sg → Int32 → Prop) (f : Sg) (s0 : Int32) : Prop :=
  ∀ g15 : Sg, g15 = va_up f 0 (upd (f 0) 11 s0) → ∀ g16 : Sg, g16 = va_up g15 0 (upd (g15 0) 13 ((g15 0 13) + 1)) → M_X10_nextOrder_0 g16 (fun r18 g17 => K33 g17 r18)
def J_X10_goLeast_0_82 (Q : Sg → Prop) (K33 : Sg → Int32 → Prop) (f : Sg) (x2 : Int32) (s0 : Int32) (s1 : Int32) : Prop :=
  ∀ g13 : Sg, g13 = va_up f 0 (upd (f 0) 12 (s1 + s0)) → (x2 ≤ (g13 0 11) → J_X10_goLeast_0_103 Q K33 g13 (g13 0 11)) ∧ (¬ x2 ≤ (g13 0 11) → J_X10_goLeast_0_103 Q K33 g13 x2)
def J_X10_goLeast_0_64 (Q : Sg → Prop) (K33 : Sg → Int32 → Prop) (f : Sg) (x2 : Int32) : Prop :=
  (x2 = (f 0 10) → J_X10_goLeast_0_82 Q K33 f x2 1 (f 0 12)) ∧ (¬ x2 = (f 0 10) → J_X10_goLeast_0_82 Q K33 f x2 0 (f 0 12))
def B_X10_goLeast_0_33 (Q : Sg → Prop) (K33 : Sg → Int32 → Prop) (f : Sg) (x1 : Int32) : Prop :=
  (x1 = 0 → Q f) ∧ (¬ x1 = 0 → M_X10_breaks_0 f (fun r10 g9 => ((g9 0 10) ≤ r10 → J_X10_goLeast_0_64 Q K33 g9 r10) ∧ (¬ (g9 0 10) ≤ r10 → ∀ g19 : Sg, g19 = va_up g9 0 (upd (g9 0) 10 r10) → ∀ g20 : Sg, g20 = va_up g19 0 (upd (g19 0) 12 0) → M_X10_keepBest_0 g20 (fun g21 => J_X10_goLeast_0_64 Q K33 g21 r10))))
def M_X10_goLeast_0 (f : Sg) (Q : Sg → Prop) : Prop :=
  ∀ g1 : Sg, g1 = va_up f 0 (upd (f 0) 10 1000) → ∀ g2 : Sg, g2 = va_up g1 0 (upd (g1 0) 11 0) → ∀ g3 : Sg, g3 = va_up g2 0 (upd (g2 0) 12 0) → ∀ g4 : Sg, g4 = va_up g3 0 (upd (g3 0) 13 0) → ∀ g5 : Sg, g5 = va_up g4 0 (upd (g4 0) 9 1) → M_X10_firstOrder_0 g5 (fun g6 => ∃ n : Nat, itr1 (B_X10_goLeast_0_33 Q) n g6 1)
set_option maxHeartbeats 4000000 in
theorem t_X10_goLeast_0_103 {o : Om} {D : va_G} {a : Nat → Nat} {cI cZ : ClassId} {Q : Sg → Prop} {K33 : Sg → Int32 → Prop} (C : Cx o D [(cI, .int), (cZ, .boolean)] (rw a cI cZ) RX10 cX10_goLeast none 4 3) (hQ : RetV o D (rw a cI cZ) Q) (hK33 : ∀ (g : Sg) (x1 : Int32), K33 g x1 → Go o D (rw a cI cZ) 33 [(0, .ref (a 0)), (1, .int x1)] [] g) {f : Sg} {s0 : Int32} (h : J_X10_goLeast_0_103 Q K33 f s0) : Go o D (rw a cI cZ) 103 [(0, .ref (a 0))] [.int s0, .ref (a 0)] f := by
  unfold J_X10_goLeast_0_103 at h
  obtain ⟨g15, eg15⟩ : ∃ g : Sg, g = va_up f 0 (upd (f 0) 11 s0) := ⟨_, rfl⟩
  have h := h g15 eg15
  refine gp_RX10_107_X10 C rfl rfl re_0 (Nat.le_of_ble_eq_true rfl) (g := g15) (by rw [eg15]; exact rs_0_11) dX10_goLeast_103 ?_
  refine g_aload_n C 0 dX10_goLeast_106 rfl ?_
  refine g_dup C dX10_goLeast_107 rfl ?_
  refine gf_RX10_113_X10 C re_0 rfl dX10_goLeast_108 ?_
  refine g_iconst C 1 dX10_goLeast_111 (by decide) ?_
  refine g_iadd C dX10_goLeast_112 ?_
  obtain ⟨g16, eg16⟩ : ∃ g : Sg, g = va_up g15 0 (upd (g15 0) 13 ((g15 0 13) + 1)) := ⟨_, rfl⟩
  have h := h g16 eg16
  refine gp_RX10_113_X10 C rfl rfl re_0 (Nat.le_of_ble_eq_true rfl) (g := g16) (by rw [eg16]; exact rs_0_13) dX10_goLeast_113 ?_
  refine g_aload_n C 0 dX10_goLeast_116 rfl ?_
  refine g_callVi C (As := []) (st := []) (fun l => c_X10_nextOrder_0 l D a cI cZ h) cl_RX10_94_X10 rfl re_0 (by omega) rfl (Nat.le_of_ble_eq_true rfl) dX10_goLeast_117 (fun r18 g17 h => ?_)
  refine g_istore_n (lv' := [(1, .int r18), (0, .ref (a 0))]) C dX10_goLeast_120 (by decide) rfl ?_
  refine g_goto C 33 dX10_goLeast_121 (by decide) ?_
  refine g_sub (lv' := [(0, .ref (a 0)), (1, .int r18)]) [1, 0] rfl ?_
  exact hK33 g17 r18 h
set_option maxHeartbeats 4000000 in
theorem t_X10_goLeast_0_82 {o : Om} {D : va_G} {a : Nat → Nat} {cI cZ : ClassId} {Q : Sg → Prop} {K33 : Sg → Int32 → Prop} (C : Cx o D [(cI, .int), (cZ, .boolean)] (rw a cI cZ) RX10 cX10_goLeast none 4 3) (hQ : RetV o D (rw a cI cZ) Q) (hK33 : ∀ (g : Sg) (x1 : Int32), K33 g x1 → Go o D (rw a cI cZ) 33 [(0, .ref (a 0)), (1, .int x1)] [] g) {f : Sg} {x2 : Int32} {s0 : Int32} {s1 : Int32} (h : J_X10_goLeast_0_82 Q K33 f x2 s0 s1) : Go o D (rw a cI cZ) 82 [(0, .ref (a 0)), (2, .int x2)] [.int s0, .int s1, .ref (a 0)] f := by
  unfold J_X10_goLeast_0_82 at h
  refine g_iadd C dX10_goLeast_82 ?_
  obtain ⟨g13, eg13⟩ : ∃ g : Sg, g = va_up f 0 (upd (f 0) 12 (s1 + s0)) := ⟨_, rfl⟩
  have h := h g13 eg13
  refine gp_RX10_110_X10 C rfl rfl re_0 (Nat.le_of_ble_eq_true rfl) (g := g13) (by rw [eg13]; exact rs_0_12) dX10_goLeast_83 ?_
  refine g_aload_n C 0 dX10_goLeast_86 rfl ?_
  refine g_iload_n C 1 dX10_goLeast_87 rfl ?_
  refine g_aload_n C 0 dX10_goLeast_88 rfl ?_
  refine gf_RX10_107_X10 C re_0 rfl dX10_goLeast_89 ?_
  refine g_icmp_le C 99 dX10_goLeast_92 (by decide) (fun c14 => ?_) (fun c14 => ?_)
  · have h := h.1 c14
    refine g_aload_n C 0 dX10_goLeast_99 rfl ?_
    refine gf_RX10_107_X10 C re_0 rfl dX10_goLeast_100 ?_
    refine g_sub (lv' := [(0, .ref (a 0))]) [0] rfl ?_
    exact t_X10_goLeast_0_103 C hQ hK33 h
  · have h := h.2 c14
    refine g_iload_n C 1 dX10_goLeast_95 rfl ?_
    refine g_goto C 103 dX10_goLeast_96 (by decide) ?_
    refine g_sub (lv' := [(0, .ref (a 0))]) [0] rfl ?_
    exact t_X10_goLeast_0_103 C hQ hK33 h
set_option maxHeartbeats 4000000 in
theorem t_X10_goLeast_0_64 {o : Om} {D : va_G} {a : Nat → Nat} {cI cZ : ClassId} {Q : Sg → Prop} {K33 : Sg → Int32 → Prop} (C : Cx o D [(cI, .int), (cZ, .boolean)] (rw a cI cZ) RX10 cX10_goLeast none 4 3) (hQ : RetV o D (rw a cI cZ) Q) (hK33 : ∀ (g : Sg) (x1 : Int32), K33 g x1 → Go o D (rw a cI cZ) 33 [(0, .ref (a 0)), (1, .int x1)] [] g) {f : Sg} {x2 : Int32} (h : J_X10_goLeast_0_64 Q K33 f x2) : Go o D (rw a cI cZ) 64 [(0, .ref (a 0)), (2, .int x2)] [] f := by
  unfold J_X10_goLeast_0_64 at h
  refine g_aload_n C 0 dX10_goLeast_64 rfl ?_
  refine g_dup C dX10_goLeast_65 rfl ?_
  refine gf_RX10_110_X10 C re_0 rfl dX10_goLeast_66 ?_
  refine g_iload_n C 1 dX10_goLeast_69 rfl ?_
  refine g_aload_n C 0 dX10_goLeast_70 rfl ?_
  refine gf_RX10_104_X10 C re_0 rfl dX10_goLeast_71 ?_
  refine g_icmp_ne C 81 dX10_goLeast_74 (by decide) (fun c12 => ?_) (fun c12 => ?_)
  · have h := h.2 c12
    refine g_iconst C 0 dX10_goLeast_81 (by decide) ?_
    refine g_sub (lv' := [(0, .ref (a 0)), (2, .int x2)]) [0, 1] rfl ?_
    exact t_X10_goLeast_0_82 C hQ hK33 h
  · have h := h.1 c12
    refine g_iconst C 1 dX10_goLeast_77 (by decide) ?_
    refine g_goto C 82 dX10_goLeast_78 (by decide) ?_
    refine g_sub (lv' := [(0, .ref (a 0)), (2, .int x2)]) [0, 1] rfl ?_
    exact t_X10_goLeast_0_82 C hQ hK33 h
set_option maxHeartbeats 4000000 in
theorem t_X10_goLeast_0_33 {o : Om} {D : va_G} {a : Nat → Nat} {cI cZ : ClassId} {Q : Sg → Prop} (C : Cx o D [(cI, .int), (cZ, .boolean)] (rw a cI cZ) RX10 cX10_goLeast none 4 3) (hQ : RetV o D (rw a cI cZ) Q) : ∀ (n : Nat) (f : Sg) (x1 : Int32), itr1 (B_X10_goLeast_0_33 Q) n f x1 → Go o D (rw a cI cZ) 33 [(0, .ref (a 0)), (1, .int x1)] [] f := by
  intro n
  induction n with
  | zero => intro f x1 h; exact h.elim
  | succ n ih =>
    intro f x1 h
    have h : B_X10_goLeast_0_33 Q (itr1 (B_X10_goLeast_0_33 Q) n) f x1 := h
    have hK33 := ih
    generalize itr1 (B_X10_goLeast_0_33 Q) n = K33 at h hK33
    clear ih
    unfold B_X10_goLeast_0_33 at h
    refine g_iload_n C 1 dX10_goLeast_33 rfl ?_
    refine g_if_eq C 124 dX10_goLeast_34 (by decide) (fun c8 => ?_) (fun c8 => ?_)
    · have h := h.1 c8
      exact g_vret C hQ dX10_goLeast_124 h
    · have h := h.2 c8
      refine g_aload_n C 0 dX10_goLeast_37 rfl ?_
      refine g_callVi C (As := []) (st := []) (fun l => c_X10_breaks_0 l D a cI cZ h) cl_RX10_88_X10 rfl re_0 (by omega) rfl (Nat.le_of_ble_eq_true rfl) dX10_goLeast_38 (fun r10 g9 h => ?_)
      refine g_istore_n (lv' := [(2, .int r10), (0, .ref (a 0)), (1, .int x1)]) C dX10_goLeast_41 (by decide) rfl ?_
      refine g_iload_n C 0 dX10_goLeast_42 rfl ?_
      refine g_aload_n C 1 dX10_goLeast_43 rfl ?_
      refine gf_RX10_104_X10 C re_0 rfl dX10_goLeast_44 ?_
      refine g_icmp_ge C 64 dX10_goLeast_47 (by decide) (fun c11 => ?_) (fun c11 => ?_)
      · have h := h.1 c11
        refine g_sub (lv' := [(0, .ref (a 0)), (2, .int r10)]) [1, 0] rfl ?_
        exact t_X10_goLeast_0_64 C hQ hK33 h
      · have h := h.2 c11
        refine g_aload_n C 1 dX10_goLeast_50 rfl ?_
        refine g_iload_n C 0 dX10_goLeast_51 rfl ?_
        obtain ⟨g19, eg19⟩ : ∃ g : Sg, g = va_up g9 0 (upd (g9 0) 10 r10) := ⟨_, rfl⟩
        have h := h g19 eg19
        refine gp_RX10_104_X10 C rfl rfl re_0 (Nat.le_of_ble_eq_true rfl) (g := g19) (by rw [eg19]; exact rs_0_10) dX10_goLeast_52 ?_
        refine g_aload_n C 1 dX10_goLeast_55 rfl ?_
        refine g_iconst C 0 dX10_goLeast_56 (by decide) ?_
        obtain ⟨g20, eg20⟩ : ∃ g : Sg, g = va_up g19 0 (upd (g19 0) 12 0) := ⟨_, rfl⟩
        have h := h g20 eg20
        refine gp_RX10_110_X10 C rfl rfl re_0 (Nat.le_of_ble_eq_true rfl) (g := g20) (by rw [eg20]; exact rs_0_12) dX10_goLeast_57 ?_
        refine g_aload_n C 1 dX10_goLeast_60 rfl ?_
        refine g_callVv C (As := []) (st := []) (fun l => c_X10_keepBest_0 l D a cI cZ h) cl_RX10_91_X10 rfl re_0 (by omega) rfl (Nat.le_of_ble_eq_true rfl) dX10_goLeast_61 (fun g21 h => ?_)
        refine g_sub (lv' := [(0, .ref (a 0)), (2, .int r10)]) [1, 0] rfl ?_
        exact t_X10_goLeast_0_64 C hQ hK33 h
set_option maxHeartbeats 4000000 in
theorem c_X10_goLeast_0 (l : Launch) (D : va_G) (a : Nat → Nat) (cI cZ : ClassId) {f : Sg} {Q : Sg → Prop} (h : M_X10_goLeast_0 f Q) : MV l D [(cI, .int), (cZ, .boolean)] (rw a cI cZ) yX10_goLeast cX10_goLeast 3 (4) [.ref (a 0)] f Q := by
  refine mkV (rw_fix a cI cZ) (by decide +kernel) (Nat.le_of_ble_eq_true rfl) (fun o C hQ => ?_)
  show Go o D (rw a cI cZ) 0 [(0, .ref (a 0))] [] f
  unfold M_X10_goLeast_0 at h
  refine g_aload_n C 0 dX10_goLeast_0 rfl ?_
  refine g_sipush C 1000 dX10_goLeast_1 (by decide) ?_
  obtain ⟨g1, eg1⟩ : ∃ g : Sg, g = va_up f 0 (upd (f 0) 10 1000) := ⟨_, rfl⟩
  have h := h g1 eg1
  refine gp_RX10_104_X10 C rfl rfl re_0 (Nat.le_of_ble_eq_true rfl) (g := g1) (by rw [eg1]; exact rs_0_10) dX10_goLeast_4 ?_
  refine g_aload_n C 0 dX10_goLeast_7 rfl ?_
  refine g_iconst C 0 dX10_goLeast_8 (by decide) ?_
  obtain ⟨g2, eg2⟩ : ∃ g : Sg, g = va_up g1 0 (upd (g1 0) 11 0) := ⟨_, rfl⟩
  have h := h g2 eg2
  refine gp_RX10_107_X10 C rfl rfl re_0 (Nat.le_of_ble_eq_true rfl) (g := g2) (by rw [eg2]; exact rs_0_11) dX10_goLeast_9 ?_
  refine g_aload_n C 0 dX10_goLeast_12 rfl ?_
  refine g_iconst C 0 dX10_goLeast_13 (by decide) ?_
  obtain ⟨g3, eg3⟩ : ∃ g : Sg, g = va_up g2 0 (upd (g2 0) 12 0) := ⟨_, rfl⟩
  have h := h g3 eg3
  refine gp_RX10_110_X10 C rfl rfl re_0 (Nat.le_of_ble_eq_true rfl) (g := g3) (by rw [eg3]; exact rs_0_12) dX10_goLeast_14 ?_
  refine g_aload_n C 0 dX10_goLeast_17 rfl ?_
  refine g_iconst C 0 dX10_goLeast_18 (by decide) ?_
  obtain ⟨g4, eg4⟩ : ∃ g : Sg, g = va_up g3 0 (upd (g3 0) 13 0) := ⟨_, rfl⟩
  have h := h g4 eg4
  refine gp_RX10_113_X10 C rfl rfl re_0 (Nat.le_of_ble_eq_true rfl) (g := g4) (by rw [eg4]; exact rs_0_13) dX10_goLeast_19 ?_
  refine g_aload_n C 0 dX10_goLeast_22 rfl ?_
  refine g_iconst C 1 dX10_goLeast_23 (by decide) ?_
  obtain ⟨g5, eg5⟩ : ∃ g : Sg, g = va_up g4 0 (upd (g4 0) 9 1) := ⟨_, rfl⟩
  have h := h g5 eg5
  refine gp_RX10_82_X10 C rfl rfl re_0 (Nat.le_of_ble_eq_true rfl) (g := g5) (by rw [eg5]; exact rs_0_9) dX10_goLeast_24 ?_
  refine g_aload_n C 0 dX10_goLeast_27 rfl ?_
  refine g_callVv C (As := []) (st := []) (fun l => c_X10_firstOrder_0 l D a cI cZ h) cl_RX10_85_X10 rfl re_0 (by omega) rfl (Nat.le_of_ble_eq_true rfl) dX10_goLeast_28 (fun g6 h => ?_)
  refine g_iconst C 1 dX10_goLeast_31 (by decide) ?_
  refine g_istore_n (lv' := [(1, .int 1), (0, .ref (a 0))]) C dX10_goLeast_32 (by decide) rfl ?_
  refine g_sub (lv' := [(0, .ref (a 0)), (1, .int 1)]) [1, 0] rfl ?_
  obtain ⟨n, h⟩ := h
  exact t_X10_goLeast_0_33 C hQ n g6 1 h
/-! X10_least_0: rank 5 -/
def J_X10_least_0_29 (Q : Int32 → Sg → Prop) (f : Sg) (s0 : Int32) : Prop :=
  Q s0 f
def M_X10_least_0 (f : Sg) (x1 : Int32) (Q : Int32 → Sg → Prop) : Prop :=
  ((-1) ≤ x1 → M_X10_goLeast_0 f (fun g2 => (x1 = (-1) → J_X10_least_0_29 Q g2 (g2 0 10)) ∧ (¬ x1 = (-1) → M_X10_told__0 g2 x1 (fun r6 g5 => J_X10_least_0_29 Q g5 r6)))) ∧ (¬ (-1) ≤ x1 → Q (-2) f)
set_option maxHeartbeats 4000000 in
theorem t_X10_least_0_29 {o : Om} {D : va_G} {a : Nat → Nat} {cI cZ : ClassId} {Q : Int32 → Sg → Prop} (C : Cx o D [(cI, .int), (cZ, .boolean)] (rw a cI cZ) RX10 cX10_least (some .int) 5 2) (hQ : RetI o D (rw a cI cZ) Q) {f : Sg} {s0 : Int32} (h : J_X10_least_0_29 Q f s0) : Go o D (rw a cI cZ) 29 [] [.int s0] f := by
  unfold J_X10_least_0_29 at h
  exact g_iret C hQ dX10_least_29 h
set_option maxHeartbeats 4000000 in
theorem c_X10_least_0 (l : Launch) (D : va_G) (a : Nat → Nat) (cI cZ : ClassId) {f : Sg} {x1 : Int32} {Q : Int32 → Sg → Prop} (h : M_X10_least_0 f x1 Q) : MI l D [(cI, .int), (cZ, .boolean)] (rw a cI cZ) yX10_least cX10_least 2 (some .int) (5) [.ref (a 0), .int x1] f Q := by
  refine mkI (rw_fix a cI cZ) (by decide +kernel) (Nat.le_of_ble_eq_true rfl) (fun o C hQ => ?_)
  show Go o D (rw a cI cZ) 0 [(0, .ref (a 0)), (1, .int x1)] [] f
  unfold M_X10_least_0 at h
  refine g_iload_n C 1 dX10_least_0 rfl ?_
  refine g_iconst C (-1) dX10_least_1 (by decide) ?_
  refine g_icmp_ge C 8 dX10_least_2 (by decide) (fun c1 => ?_) (fun c1 => ?_)
  · have h := h.1 c1
    refine g_aload_n C 0 dX10_least_8 rfl ?_
    refine g_callVv C (As := []) (st := []) (fun l => c_X10_goLeast_0 l D a cI cZ h) cl_RX10_116_X10 rfl re_0 (by omega) rfl (Nat.le_of_ble_eq_true rfl) dX10_least_9 (fun g2 h => ?_)
    refine g_iload_n C 1 dX10_least_12 rfl ?_
    refine g_iconst C (-1) dX10_least_13 (by decide) ?_
    refine g_icmp_ne C 24 dX10_least_14 (by decide) (fun c4 => ?_) (fun c4 => ?_)
    · have h := h.2 c4
      refine g_aload_n C 0 dX10_least_24 rfl ?_
      refine g_iload_n C 1 dX10_least_25 rfl ?_
      refine g_callVi C (As := [.int x1]) (st := []) (fun l => c_X10_told__0 l D a cI cZ h) cl_RX10_101_X10 rfl re_0 (by omega) rfl (Nat.le_of_ble_eq_true rfl) dX10_least_26 (fun r6 g5 h => ?_)
      refine g_sub (lv' := []) [] rfl ?_
      exact t_X10_least_0_29 C hQ h
    · have h := h.1 c4
      refine g_aload_n C 0 dX10_least_17 rfl ?_
      refine gf_RX10_104_X10 C re_0 rfl dX10_least_18 ?_
      refine g_goto C 29 dX10_least_21 (by decide) ?_
      refine g_sub (lv' := []) [] rfl ?_
      exact t_X10_least_0_29 C hQ h
  · have h := h.2 c1
    refine g_bipush C (-2) dX10_least_5 (by decide) ?_
    exact g_iret C hQ dX10_least_7 h
