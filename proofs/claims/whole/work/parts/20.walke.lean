/-! X10_goOn_0: rank 0 -/
def B_X10_goOn_0_102 (Q : Int32 → Sg → Prop) (K48 : Sg → Int32 → Int32 → Int32 → Prop) (K102 : Sg → Int32 → Int32 → Int32 → Int32 → Prop) (f : Sg) (x2 : Int32) (x3 : Int32) (x4 : Int32) (x6 : Int32) : Prop :=
  ((f 0 4) ≤ (x6 + 1) → K48 f x2 x3 (x4 + 1)) ∧ (¬ (f 0 4) ≤ (x6 + 1) → vp_in (x6 + 1) 9 ∧ vp_in x6 9 ∧ ∀ g15 : Sg, g15 = va_up f 9 (upd (f 9) (x6 : Int32).toNatClampNeg (f 9 (x6 + 1 : Int32).toNatClampNeg)) → K102 g15 x2 x3 x4 (x6 + 1))
def B_X10_goOn_0_48 (Q : Int32 → Sg → Prop) (K48 : Sg → Int32 → Int32 → Int32 → Prop) (f : Sg) (x2 : Int32) (x3 : Int32) (x4 : Int32) : Prop :=
  ((f 0 4) ≤ x4 → Q 1 f) ∧ (¬ (f 0 4) ≤ x4 → ¬ (x2 + 1) = 0 ∧ ∀ z5 : Int32, z5 = x3 - x3 / (x2 + 1) * (x2 + 1) → ¬ (x2 + 1) = 0 ∧ ∀ z7 : Int32, z7 = x3 / (x2 + 1) → (z5 < ((f 0 4) - x4) → vp_in z5 9 ∧ vp_in x4 9 ∧ ∀ g11 : Sg, g11 = va_up f 5 (upd (f 5) (x4 : Int32).toNatClampNeg (f 9 (z5 : Int32).toNatClampNeg)) → ∃ n : Nat, itr4 (B_X10_goOn_0_102 Q K48) n g11 x2 z7 x4 z5) ∧ (¬ z5 < ((f 0 4) - x4) → Q 0 f))
def B_X10_goOn_0_5 (Q : Int32 → Sg → Prop) (K5 : Sg → Int32 → Int32 → Int32 → Prop) (f : Sg) (x2 : Int32) (x3 : Int32) (x4 : Int32) : Prop :=
  ((f 0 4) ≤ x4 → ∀ g2 : Sg, g2 = va_up f 0 (upd (f 0) 6 (f 0 4)) → ∃ n : Nat, itr3 (B_X10_goOn_0_48 Q) n g2 x2 x3 0) ∧ (¬ (f 0 4) ≤ x4 → vp_in x4 9 ∧ vp_in x4 9 ∧ ∀ g18 : Sg, g18 = va_up f 9 (upd (f 9) (x4 : Int32).toNatClampNeg ((f 4 (x4 : Int32).toNatClampNeg) - 48)) → K5 g18 x2 x3 (x4 + 1))
def M_X10_goOn_0 (f : Sg) (x1 : Int32) (x2 : Int32) (Q : Int32 → Sg → Prop) : Prop :=
  ∃ n : Nat, itr3 (B_X10_goOn_0_5 Q) n f x2 x1 0
set_option maxHeartbeats 4000000 in
theorem t_X10_goOn_0_102 {o : Om} {D : va_G} {a : Nat → Nat} {cI cZ : ClassId} {Q : Int32 → Sg → Prop} {K48 : Sg → Int32 → Int32 → Int32 → Prop} (C : Cx o D [(cI, .int), (cZ, .boolean)] (rw a cI cZ) RX10 cX10_goOn (some .boolean) 0 7) (hQ : RetI o D (rw a cI cZ) Q) (hK48 : ∀ (g : Sg) (x2 : Int32) (x3 : Int32) (x4 : Int32), K48 g x2 x3 x4 → Go o D (rw a cI cZ) 48 [(0, .ref (a 0)), (2, .int x2), (3, .int x3), (4, .int x4)] [] g) : ∀ (n : Nat) (f : Sg) (x2 : Int32) (x3 : Int32) (x4 : Int32) (x6 : Int32), itr4 (B_X10_goOn_0_102 Q K48) n f x2 x3 x4 x6 → Go o D (rw a cI cZ) 102 [(0, .ref (a 0)), (2, .int x2), (3, .int x3), (4, .int x4), (6, .int x6)] [] f := by
  intro n
  induction n with
  | zero => intro f x2 x3 x4 x6 h; exact h.elim
  | succ n ih =>
    intro f x2 x3 x4 x6 h
    have h : B_X10_goOn_0_102 Q K48 (itr4 (B_X10_goOn_0_102 Q K48) n) f x2 x3 x4 x6 := h
    have hK102 := ih
    generalize itr4 (B_X10_goOn_0_102 Q K48) n = K102 at h hK102
    clear ih
    unfold B_X10_goOn_0_102 at h
    refine g_iload C 4 dX10_goOn_102 rfl ?_
    refine g_iconst C 1 dX10_goOn_104 (by decide) ?_
    refine g_iadd C dX10_goOn_105 ?_
    refine g_aload_n C 0 dX10_goOn_106 rfl ?_
    refine gf_RX10_139_X10 C re_0 rfl dX10_goOn_107 ?_
    refine g_icmp_ge C 135 dX10_goOn_110 (by decide) (fun c12 => ?_) (fun c12 => ?_)
    · have h := h.1 c12
      refine g_iinc (lv' := [(4, .int (x4 + 1)), (0, .ref (a 0)), (2, .int x2), (3, .int x3), (6, .int x6)]) C 3 dX10_goOn_135 rfl rfl (by decide) rfl ?_
      refine g_goto C 48 dX10_goOn_138 (by decide) ?_
      refine g_sub (lv' := [(0, .ref (a 0)), (2, .int x2), (3, .int x3), (4, .int (x4 + 1))]) [1, 2, 3, 0] rfl ?_
      exact hK48 f x2 x3 (x4 + 1) h
    · have h := h.2 c12
      refine g_aload_n C 0 dX10_goOn_113 rfl ?_
      refine gf_RX10_35_X10 C re_0 rfl dX10_goOn_114 ?_
      refine g_iload C 4 dX10_goOn_117 rfl ?_
      refine g_aload_n C 0 dX10_goOn_119 rfl ?_
      refine gf_RX10_35_X10 C re_0 rfl dX10_goOn_120 ?_
      refine g_iload C 4 dX10_goOn_123 rfl ?_
      refine g_iconst C 1 dX10_goOn_125 (by decide) ?_
      refine g_iadd C dX10_goOn_126 ?_
      obtain ⟨hi13, h⟩ := h
      refine g_iald C 0 re_9 rfl hi13 dX10_goOn_127 ?_
      obtain ⟨hi14, h⟩ := h
      obtain ⟨g15, eg15⟩ : ∃ g : Sg, g = va_up f 9 (upd (f 9) (x6 : Int32).toNatClampNeg (f 9 (x6 + 1 : Int32).toNatClampNeg)) := ⟨_, rfl⟩
      have h := h g15 eg15
      refine g_iast C 0 re_9 rfl (g := g15) (by rw [eg15]; exact rs_9) hi14 dX10_goOn_128 ?_
      refine g_iinc (lv' := [(6, .int (x6 + 1)), (0, .ref (a 0)), (2, .int x2), (3, .int x3), (4, .int x4)]) C 4 dX10_goOn_129 rfl rfl (by decide) rfl ?_
      refine g_goto C 102 dX10_goOn_132 (by decide) ?_
      refine g_sub (lv' := [(0, .ref (a 0)), (2, .int x2), (3, .int x3), (4, .int x4), (6, .int (x6 + 1))]) [1, 2, 3, 4, 0] rfl ?_
      exact hK102 g15 x2 x3 x4 (x6 + 1) h
set_option maxHeartbeats 4000000 in
theorem t_X10_goOn_0_48 {o : Om} {D : va_G} {a : Nat → Nat} {cI cZ : ClassId} {Q : Int32 → Sg → Prop} (C : Cx o D [(cI, .int), (cZ, .boolean)] (rw a cI cZ) RX10 cX10_goOn (some .boolean) 0 7) (hQ : RetI o D (rw a cI cZ) Q) : ∀ (n : Nat) (f : Sg) (x2 : Int32) (x3 : Int32) (x4 : Int32), itr3 (B_X10_goOn_0_48 Q) n f x2 x3 x4 → Go o D (rw a cI cZ) 48 [(0, .ref (a 0)), (2, .int x2), (3, .int x3), (4, .int x4)] [] f := by
  intro n
  induction n with
  | zero => intro f x2 x3 x4 h; exact h.elim
  | succ n ih =>
    intro f x2 x3 x4 h
    have h : B_X10_goOn_0_48 Q (itr3 (B_X10_goOn_0_48 Q) n) f x2 x3 x4 := h
    have hK48 := ih
    generalize itr3 (B_X10_goOn_0_48 Q) n = K48 at h hK48
    clear ih
    unfold B_X10_goOn_0_48 at h
    refine g_iload C 3 dX10_goOn_48 rfl ?_
    refine g_aload_n C 0 dX10_goOn_50 rfl ?_
    refine gf_RX10_139_X10 C re_0 rfl dX10_goOn_51 ?_
    refine g_icmp_ge C 141 dX10_goOn_54 (by decide) (fun c3 => ?_) (fun c3 => ?_)
    · have h := h.1 c3
      refine g_iconst C 1 dX10_goOn_141 (by decide) ?_
      exact g_zret C hQ rfl dX10_goOn_142 h
    · have h := h.2 c3
      refine g_iload_n C 2 dX10_goOn_57 rfl ?_
      refine g_iload_n C 1 dX10_goOn_58 rfl ?_
      refine g_iconst C 1 dX10_goOn_59 (by decide) ?_
      refine g_iadd C dX10_goOn_60 ?_
      obtain ⟨hn4, h⟩ := h
      refine g_irem C dX10_goOn_61 hn4 ?_
      refine g_top (fun z5 ez5 => ?_)
      have h := h z5 ez5
      refine g_istore (lv' := [(5, .int z5), (0, .ref (a 0)), (2, .int x2), (3, .int x3), (4, .int x4)]) C dX10_goOn_62 (by decide) rfl ?_
      refine g_iload_n C 3 dX10_goOn_64 rfl ?_
      refine g_iload_n C 2 dX10_goOn_65 rfl ?_
      refine g_iconst C 1 dX10_goOn_66 (by decide) ?_
      refine g_iadd C dX10_goOn_67 ?_
      obtain ⟨hn6, h⟩ := h
      refine g_idiv C dX10_goOn_68 hn6 ?_
      refine g_top (fun z7 ez7 => ?_)
      have h := h z7 ez7
      refine g_istore_n (lv' := [(3, .int z7), (5, .int z5), (0, .ref (a 0)), (2, .int x2), (4, .int x4)]) C dX10_goOn_69 (by decide) rfl ?_
      refine g_iload C 1 dX10_goOn_70 rfl ?_
      refine g_aload_n C 2 dX10_goOn_72 rfl ?_
      refine gf_RX10_139_X10 C re_0 rfl dX10_goOn_73 ?_
      refine g_iload C 4 dX10_goOn_76 rfl ?_
      refine g_isub C dX10_goOn_78 ?_
      refine g_icmp_lt C 84 dX10_goOn_79 (by decide) (fun c8 => ?_) (fun c8 => ?_)
      · have h := h.1 c8
        refine g_aload_n C 2 dX10_goOn_84 rfl ?_
        refine gf_RX10_23_X10 C re_0 rfl dX10_goOn_85 ?_
        refine g_iload C 4 dX10_goOn_88 rfl ?_
        refine g_aload_n C 2 dX10_goOn_90 rfl ?_
        refine gf_RX10_35_X10 C re_0 rfl dX10_goOn_91 ?_
        refine g_iload C 1 dX10_goOn_94 rfl ?_
        obtain ⟨hi9, h⟩ := h
        refine g_iald C 0 re_9 rfl hi9 dX10_goOn_96 ?_
        obtain ⟨hi10, h⟩ := h
        obtain ⟨g11, eg11⟩ : ∃ g : Sg, g = va_up f 5 (upd (f 5) (x4 : Int32).toNatClampNeg (f 9 (z5 : Int32).toNatClampNeg)) := ⟨_, rfl⟩
        have h := h g11 eg11
        refine g_iast C 0 re_5 rfl (g := g11) (by rw [eg11]; exact rs_5) hi10 dX10_goOn_97 ?_
        refine g_iload C 1 dX10_goOn_98 rfl ?_
        refine g_istore (lv' := [(6, .int z5), (3, .int z7), (5, .int z5), (0, .ref (a 0)), (2, .int x2), (4, .int x4)]) C dX10_goOn_100 (by decide) rfl ?_
        refine g_sub (lv' := [(0, .ref (a 0)), (2, .int x2), (3, .int z7), (4, .int x4), (6, .int z5)]) [3, 4, 1, 5, 0] rfl ?_
        obtain ⟨n, h⟩ := h
        exact t_X10_goOn_0_102 C hQ hK48 n g11 x2 z7 x4 z5 h
      · have h := h.2 c8
        refine g_iconst C 0 dX10_goOn_82 (by decide) ?_
        exact g_zret C hQ rfl dX10_goOn_83 h
set_option maxHeartbeats 4000000 in
theorem t_X10_goOn_0_5 {o : Om} {D : va_G} {a : Nat → Nat} {cI cZ : ClassId} {Q : Int32 → Sg → Prop} (C : Cx o D [(cI, .int), (cZ, .boolean)] (rw a cI cZ) RX10 cX10_goOn (some .boolean) 0 7) (hQ : RetI o D (rw a cI cZ) Q) : ∀ (n : Nat) (f : Sg) (x2 : Int32) (x3 : Int32) (x4 : Int32), itr3 (B_X10_goOn_0_5 Q) n f x2 x3 x4 → Go o D (rw a cI cZ) 5 [(0, .ref (a 0)), (2, .int x2), (3, .int x3), (4, .int x4)] [] f := by
  intro n
  induction n with
  | zero => intro f x2 x3 x4 h; exact h.elim
  | succ n ih =>
    intro f x2 x3 x4 h
    have h : B_X10_goOn_0_5 Q (itr3 (B_X10_goOn_0_5 Q) n) f x2 x3 x4 := h
    have hK5 := ih
    generalize itr3 (B_X10_goOn_0_5 Q) n = K5 at h hK5
    clear ih
    unfold B_X10_goOn_0_5 at h
    refine g_iload C 3 dX10_goOn_5 rfl ?_
    refine g_aload_n C 0 dX10_goOn_7 rfl ?_
    refine gf_RX10_139_X10 C re_0 rfl dX10_goOn_8 ?_
    refine g_icmp_ge C 37 dX10_goOn_11 (by decide) (fun c1 => ?_) (fun c1 => ?_)
    · have h := h.1 c1
      refine g_aload_n C 0 dX10_goOn_37 rfl ?_
      refine g_aload_n C 0 dX10_goOn_38 rfl ?_
      refine gf_RX10_139_X10 C re_0 rfl dX10_goOn_39 ?_
      obtain ⟨g2, eg2⟩ : ∃ g : Sg, g = va_up f 0 (upd (f 0) 6 (f 0 4)) := ⟨_, rfl⟩
      have h := h g2 eg2
      refine gp_RX10_71_X10 C rfl rfl re_0 (Nat.le_of_ble_eq_true rfl) (g := g2) (by rw [eg2]; exact rs_0_6) dX10_goOn_42 ?_
      refine g_iconst C 0 dX10_goOn_45 (by decide) ?_
      refine g_istore (lv' := [(4, .int 0), (0, .ref (a 0)), (2, .int x2), (3, .int x3)]) C dX10_goOn_46 (by decide) rfl ?_
      refine g_sub (lv' := [(0, .ref (a 0)), (2, .int x2), (3, .int x3), (4, .int 0)]) [1, 2, 3, 0] rfl ?_
      obtain ⟨n, h⟩ := h
      exact t_X10_goOn_0_48 C hQ n g2 x2 x3 0 h
    · have h := h.2 c1
      refine g_aload_n C 0 dX10_goOn_14 rfl ?_
      refine gf_RX10_35_X10 C re_0 rfl dX10_goOn_15 ?_
      refine g_iload C 3 dX10_goOn_18 rfl ?_
      refine g_aload_n C 0 dX10_goOn_20 rfl ?_
      refine gf_RX10_20_X10 C re_0 rfl dX10_goOn_21 ?_
      refine g_iload C 3 dX10_goOn_24 rfl ?_
      obtain ⟨hi16, h⟩ := h
      refine g_iald C 0 re_4 rfl hi16 dX10_goOn_26 ?_
      refine g_bipush C 48 dX10_goOn_27 (by decide) ?_
      refine g_isub C dX10_goOn_29 ?_
      obtain ⟨hi17, h⟩ := h
      obtain ⟨g18, eg18⟩ : ∃ g : Sg, g = va_up f 9 (upd (f 9) (x4 : Int32).toNatClampNeg ((f 4 (x4 : Int32).toNatClampNeg) - 48)) := ⟨_, rfl⟩
      have h := h g18 eg18
      refine g_iast C 0 re_9 rfl (g := g18) (by rw [eg18]; exact rs_9) hi17 dX10_goOn_30 ?_
      refine g_iinc (lv' := [(4, .int (x4 + 1)), (0, .ref (a 0)), (2, .int x2), (3, .int x3)]) C 3 dX10_goOn_31 rfl rfl (by decide) rfl ?_
      refine g_goto C 5 dX10_goOn_34 (by decide) ?_
      refine g_sub (lv' := [(0, .ref (a 0)), (2, .int x2), (3, .int x3), (4, .int (x4 + 1))]) [1, 2, 3, 0] rfl ?_
      exact hK5 g18 x2 x3 (x4 + 1) h
set_option maxHeartbeats 4000000 in
theorem c_X10_goOn_0 (l : Launch) (D : va_G) (a : Nat → Nat) (cI cZ : ClassId) {f : Sg} {x1 : Int32} {x2 : Int32} {Q : Int32 → Sg → Prop} (h : M_X10_goOn_0 f x1 x2 Q) : MI l D [(cI, .int), (cZ, .boolean)] (rw a cI cZ) yX10_goOn cX10_goOn 7 (some .boolean) (0) [.ref (a 0), .int x1, .int x2] f Q := by
  refine mkI (rw_fix a cI cZ) (by decide +kernel) (Nat.le_of_ble_eq_true rfl) (fun o C hQ => ?_)
  show Go o D (rw a cI cZ) 0 [(0, .ref (a 0)), (1, .int x1), (2, .int x2)] [] f
  unfold M_X10_goOn_0 at h
  refine g_iload_n C 1 dX10_goOn_0 rfl ?_
  refine g_istore_n (lv' := [(3, .int x1), (0, .ref (a 0)), (1, .int x1), (2, .int x2)]) C dX10_goOn_1 (by decide) rfl ?_
  refine g_iconst C 0 dX10_goOn_2 (by decide) ?_
  refine g_istore (lv' := [(4, .int 0), (3, .int x1), (0, .ref (a 0)), (1, .int x1), (2, .int x2)]) C dX10_goOn_3 (by decide) rfl ?_
  refine g_sub (lv' := [(0, .ref (a 0)), (2, .int x2), (3, .int x1), (4, .int 0)]) [2, 4, 1, 0] rfl ?_
  obtain ⟨n, h⟩ := h
  exact t_X10_goOn_0_5 C hQ n f x2 x1 0 h
/-! X10_lane_0: rank 4 -/
def J_X10_lane_0_78 (Q : Int32 → Sg → Prop) (K53 : Sg → Int32 → Int32 → Int32 → Int32 → Prop) (f : Sg) (x1 : Int32) (x2 : Int32) (x3 : Int32) (x4 : Int32) : Prop :=
  K53 f x1 x2 x3 (x4 + 1)
def B_X10_lane_0_53 (Q : Int32 → Sg → Prop) (K53 : Sg → Int32 → Int32 → Int32 → Int32 → Prop) (f : Sg) (x1 : Int32) (x2 : Int32) (x3 : Int32) (x4 : Int32) : Prop :=
  (x2 ≤ x4 → Q x3 f) ∧ (¬ x2 ≤ x4 → M_X10_goOn_0 f x4 x1 (fun r10 g9 => (r10 = 0 → J_X10_lane_0_78 Q K53 g9 x1 x2 x3 x4) ∧ (¬ r10 = 0 → M_X10_breaks_0 g9 (fun r13 g12 => M_X10_less g12 x3 r13 (fun r15 g14 => J_X10_lane_0_78 Q K53 g14 x1 x2 r15 x4)))))
def B_X10_lane_0_26 (Q : Int32 → Sg → Prop) (K26 : Sg → Int32 → Int32 → Int32 → Prop) (f : Sg) (x1 : Int32) (x2 : Int32) (x3 : Int32) : Prop :=
  ((f 0 4) ≤ x3 → ∃ n : Nat, itr4 (B_X10_lane_0_53 Q) n f x1 x2 1000 0) ∧ (¬ (f 0 4) ≤ x3 → ∀ z16 : Int32, z16 = x2 * (x1 + 1) → K26 f x1 z16 (x3 + 1))
def M_X10_lane_0 (f : Sg) (x1 : Int32) (Q : Int32 → Sg → Prop) : Prop :=
  M_X10_in f x1 0 2 (fun r2 g1 => (r2 = 0 → Q (-2) g1) ∧ (¬ r2 = 0 → M_X10_isOpen_0 g1 (fun r5 g4 => (r5 = 0 → ∃ n : Nat, itr3 (B_X10_lane_0_26 Q) n g4 x1 1 0) ∧ (¬ r5 = 0 → Q (-7) g4))))
set_option maxHeartbeats 4000000 in
theorem t_X10_lane_0_78 {o : Om} {D : va_G} {a : Nat → Nat} {cI cZ : ClassId} {Q : Int32 → Sg → Prop} {K53 : Sg → Int32 → Int32 → Int32 → Int32 → Prop} (C : Cx o D [(cI, .int), (cZ, .boolean)] (rw a cI cZ) RX10 cX10_lane (some .int) 4 5) (hQ : RetI o D (rw a cI cZ) Q) (hK53 : ∀ (g : Sg) (x1 : Int32) (x2 : Int32) (x3 : Int32) (x4 : Int32), K53 g x1 x2 x3 x4 → Go o D (rw a cI cZ) 53 [(0, .ref (a 0)), (1, .int x1), (2, .int x2), (3, .int x3), (4, .int x4)] [] g) {f : Sg} {x1 : Int32} {x2 : Int32} {x3 : Int32} {x4 : Int32} (h : J_X10_lane_0_78 Q K53 f x1 x2 x3 x4) : Go o D (rw a cI cZ) 78 [(0, .ref (a 0)), (1, .int x1), (2, .int x2), (3, .int x3), (4, .int x4)] [] f := by
  unfold J_X10_lane_0_78 at h
  refine g_iinc (lv' := [(4, .int (x4 + 1)), (0, .ref (a 0)), (1, .int x1), (2, .int x2), (3, .int x3)]) C 4 dX10_lane_78 rfl rfl (by decide) rfl ?_
  refine g_goto C 53 dX10_lane_81 (by decide) ?_
  refine g_sub (lv' := [(0, .ref (a 0)), (1, .int x1), (2, .int x2), (3, .int x3), (4, .int (x4 + 1))]) [1, 2, 3, 4, 0] rfl ?_
  exact hK53 f x1 x2 x3 (x4 + 1) h
set_option maxHeartbeats 4000000 in
theorem t_X10_lane_0_53 {o : Om} {D : va_G} {a : Nat → Nat} {cI cZ : ClassId} {Q : Int32 → Sg → Prop} (C : Cx o D [(cI, .int), (cZ, .boolean)] (rw a cI cZ) RX10 cX10_lane (some .int) 4 5) (hQ : RetI o D (rw a cI cZ) Q) : ∀ (n : Nat) (f : Sg) (x1 : Int32) (x2 : Int32) (x3 : Int32) (x4 : Int32), itr4 (B_X10_lane_0_53 Q) n f x1 x2 x3 x4 → Go o D (rw a cI cZ) 53 [(0, .ref (a 0)), (1, .int x1), (2, .int x2), (3, .int x3), (4, .int x4)] [] f := by
  intro n
  induction n with
  | zero => intro f x1 x2 x3 x4 h; exact h.elim
  | succ n ih =>
    intro f x1 x2 x3 x4 h
    have h : B_X10_lane_0_53 Q (itr4 (B_X10_lane_0_53 Q) n) f x1 x2 x3 x4 := h
    have hK53 := ih
    generalize itr4 (B_X10_lane_0_53 Q) n = K53 at h hK53
    clear ih
    unfold B_X10_lane_0_53 at h
    refine g_iload C 4 dX10_lane_53 rfl ?_
    refine g_iload_n C 2 dX10_lane_55 rfl ?_
    refine g_icmp_ge C 84 dX10_lane_56 (by decide) (fun c8 => ?_) (fun c8 => ?_)
    · have h := h.1 c8
      refine g_iload_n C 3 dX10_lane_84 rfl ?_
      exact g_iret C hQ dX10_lane_85 h
    · have h := h.2 c8
      refine g_aload_n C 0 dX10_lane_59 rfl ?_
      refine g_iload C 4 dX10_lane_60 rfl ?_
      refine g_iload_n C 1 dX10_lane_62 rfl ?_
      refine g_callVi C (As := [.int x4, .int x1]) (st := []) (fun l => c_X10_goOn_0 l D a cI cZ h) cl_RX10_160_X10 rfl re_0 (by omega) rfl (Nat.le_of_ble_eq_true rfl) dX10_lane_63 (fun r10 g9 h => ?_)
      refine g_if_eq C 78 dX10_lane_66 (by decide) (fun c11 => ?_) (fun c11 => ?_)
      · have h := h.1 c11
        refine g_sub (lv' := [(0, .ref (a 0)), (1, .int x1), (2, .int x2), (3, .int x3), (4, .int x4)]) [0, 1, 2, 3, 4] rfl ?_
        exact t_X10_lane_0_78 C hQ hK53 h
      · have h := h.2 c11
        refine g_iload_n C 3 dX10_lane_69 rfl ?_
        refine g_aload_n C 0 dX10_lane_70 rfl ?_
        refine g_callVi C (As := []) (st := [.int x3]) (fun l => c_X10_breaks_0 l D a cI cZ h) cl_RX10_88_X10 rfl re_0 (by omega) rfl (Nat.le_of_ble_eq_true rfl) dX10_lane_71 (fun r13 g12 h => ?_)
        refine g_callSi C (As := [.int x3, .int r13]) (st := []) (fun l => c_X10_less l D a cI cZ h) cl_RX10_57 (by omega) rfl (Nat.le_of_ble_eq_true rfl) dX10_lane_74 (fun r15 g14 h => ?_)
        refine g_istore_n (lv' := [(3, .int r15), (0, .ref (a 0)), (1, .int x1), (2, .int x2), (4, .int x4)]) C dX10_lane_77 (by decide) rfl ?_
        refine g_sub (lv' := [(0, .ref (a 0)), (1, .int x1), (2, .int x2), (3, .int r15), (4, .int x4)]) [1, 2, 3, 0, 4] rfl ?_
        exact t_X10_lane_0_78 C hQ hK53 h
set_option maxHeartbeats 4000000 in
theorem t_X10_lane_0_26 {o : Om} {D : va_G} {a : Nat → Nat} {cI cZ : ClassId} {Q : Int32 → Sg → Prop} (C : Cx o D [(cI, .int), (cZ, .boolean)] (rw a cI cZ) RX10 cX10_lane (some .int) 4 5) (hQ : RetI o D (rw a cI cZ) Q) : ∀ (n : Nat) (f : Sg) (x1 : Int32) (x2 : Int32) (x3 : Int32), itr3 (B_X10_lane_0_26 Q) n f x1 x2 x3 → Go o D (rw a cI cZ) 26 [(0, .ref (a 0)), (1, .int x1), (2, .int x2), (3, .int x3)] [] f := by
  intro n
  induction n with
  | zero => intro f x1 x2 x3 h; exact h.elim
  | succ n ih =>
    intro f x1 x2 x3 h
    have h : B_X10_lane_0_26 Q (itr3 (B_X10_lane_0_26 Q) n) f x1 x2 x3 := h
    have hK26 := ih
    generalize itr3 (B_X10_lane_0_26 Q) n = K26 at h hK26
    clear ih
    unfold B_X10_lane_0_26 at h
    refine g_iload_n C 3 dX10_lane_26 rfl ?_
    refine g_aload_n C 0 dX10_lane_27 rfl ?_
    refine gf_RX10_139_X10 C re_0 rfl dX10_lane_28 ?_
    refine g_icmp_ge C 46 dX10_lane_31 (by decide) (fun c7 => ?_) (fun c7 => ?_)
    · have h := h.1 c7
      refine g_sipush C 1000 dX10_lane_46 (by decide) ?_
      refine g_istore_n (lv' := [(3, .int 1000), (0, .ref (a 0)), (1, .int x1), (2, .int x2)]) C dX10_lane_49 (by decide) rfl ?_
      refine g_iconst C 0 dX10_lane_50 (by decide) ?_
      refine g_istore (lv' := [(4, .int 0), (3, .int 1000), (0, .ref (a 0)), (1, .int x1), (2, .int x2)]) C dX10_lane_51 (by decide) rfl ?_
      refine g_sub (lv' := [(0, .ref (a 0)), (1, .int x1), (2, .int x2), (3, .int 1000), (4, .int 0)]) [2, 3, 4, 1, 0] rfl ?_
      obtain ⟨n, h⟩ := h
      exact t_X10_lane_0_53 C hQ n f x1 x2 1000 0 h
    · have h := h.2 c7
      refine g_iload_n C 2 dX10_lane_34 rfl ?_
      refine g_iload_n C 1 dX10_lane_35 rfl ?_
      refine g_iconst C 1 dX10_lane_36 (by decide) ?_
      refine g_iadd C dX10_lane_37 ?_
      refine g_imul C dX10_lane_38 ?_
      refine g_top (fun z16 ez16 => ?_)
      have h := h z16 ez16
      refine g_istore_n (lv' := [(2, .int z16), (0, .ref (a 0)), (1, .int x1), (3, .int x3)]) C dX10_lane_39 (by decide) rfl ?_
      refine g_iinc (lv' := [(3, .int (x3 + 1)), (2, .int z16), (0, .ref (a 0)), (1, .int x1)]) C 3 dX10_lane_40 rfl rfl (by decide) rfl ?_
      refine g_goto C 26 dX10_lane_43 (by decide) ?_
      refine g_sub (lv' := [(0, .ref (a 0)), (1, .int x1), (2, .int z16), (3, .int (x3 + 1))]) [2, 3, 1, 0] rfl ?_
      exact hK26 f x1 z16 (x3 + 1) h
set_option maxHeartbeats 4000000 in
theorem c_X10_lane_0 (l : Launch) (D : va_G) (a : Nat → Nat) (cI cZ : ClassId) {f : Sg} {x1 : Int32} {Q : Int32 → Sg → Prop} (h : M_X10_lane_0 f x1 Q) : MI l D [(cI, .int), (cZ, .boolean)] (rw a cI cZ) yX10_lane cX10_lane 5 (some .int) (4) [.ref (a 0), .int x1] f Q := by
  refine mkI (rw_fix a cI cZ) (by decide +kernel) (Nat.le_of_ble_eq_true rfl) (fun o C hQ => ?_)
  show Go o D (rw a cI cZ) 0 [(0, .ref (a 0)), (1, .int x1)] [] f
  unfold M_X10_lane_0 at h
  refine g_iload_n C 1 dX10_lane_0 rfl ?_
  refine g_iconst C 0 dX10_lane_1 (by decide) ?_
  refine g_iconst C 2 dX10_lane_2 (by decide) ?_
  refine g_callSi C (As := [.int x1, .int 0, .int 2]) (st := []) (fun l => c_X10_in l D a cI cZ h) cl_RX10_38 (by omega) rfl (Nat.le_of_ble_eq_true rfl) dX10_lane_3 (fun r2 g1 h => ?_)
  refine g_if_ne C 12 dX10_lane_6 (by decide) (fun c3 => ?_) (fun c3 => ?_)
  · have h := h.2 c3
    refine g_aload_n C 0 dX10_lane_12 rfl ?_
    refine g_callVi C (As := []) (st := []) (fun l => c_X10_isOpen_0 l D a cI cZ h) cl_RX10_142_X10 rfl re_0 (by omega) rfl (Nat.le_of_ble_eq_true rfl) dX10_lane_13 (fun r5 g4 h => ?_)
    refine g_if_eq C 22 dX10_lane_16 (by decide) (fun c6 => ?_) (fun c6 => ?_)
    · have h := h.1 c6
      refine g_iconst C 1 dX10_lane_22 (by decide) ?_
      refine g_istore_n (lv' := [(2, .int 1), (0, .ref (a 0)), (1, .int x1)]) C dX10_lane_23 (by decide) rfl ?_
      refine g_iconst C 0 dX10_lane_24 (by decide) ?_
      refine g_istore_n (lv' := [(3, .int 0), (2, .int 1), (0, .ref (a 0)), (1, .int x1)]) C dX10_lane_25 (by decide) rfl ?_
      refine g_sub (lv' := [(0, .ref (a 0)), (1, .int x1), (2, .int 1), (3, .int 0)]) [2, 3, 1, 0] rfl ?_
      obtain ⟨n, h⟩ := h
      exact t_X10_lane_0_26 C hQ n g4 x1 1 0 h
    · have h := h.2 c6
      refine g_bipush C (-7) dX10_lane_19 (by decide) ?_
      exact g_iret C hQ dX10_lane_21 h
  · have h := h.1 c3
    refine g_bipush C (-2) dX10_lane_9 (by decide) ?_
    exact g_iret C hQ dX10_lane_11 h
/-! X10_image_0: rank 1 -/
def B_X10_image_0_14 (Q : Int32 → Sg → Prop) (K14 : Sg → Int32 → Int32 → Prop) (f : Sg) (x1 : Int32) (x2 : Int32) : Prop :=
  (18 ≤ x2 → vp_in x1 2 ∧ ∀ g6 : Sg, g6 = va_up f 3 (upd (f 3) (x1 : Int32).toNatClampNeg (vp_nar .boolean 1)) → Q 1 g6) ∧ (¬ 18 ≤ x2 → vp_in x2 18 ∧ vp_in (((18 : Int32) * x1) + x2) 36 ∧ ∀ g9 : Sg, g9 = va_up f 2 (upd (f 2) (((18 : Int32) * x1) + x2 : Int32).toNatClampNeg (f 1 (x2 : Int32).toNatClampNeg)) → K14 g9 x1 (x2 + 1))
def M_X10_image_0 (f : Sg) (x1 : Int32) (Q : Int32 → Sg → Prop) : Prop :=
  M_X10_in f x1 0 1 (fun r2 g1 => (r2 = 0 → Q (-2) g1) ∧ (¬ r2 = 0 → ∃ n : Nat, itr2 (B_X10_image_0_14 Q) n g1 x1 0))
set_option maxHeartbeats 4000000 in
theorem t_X10_image_0_14 {o : Om} {D : va_G} {a : Nat → Nat} {cI cZ : ClassId} {Q : Int32 → Sg → Prop} (C : Cx o D [(cI, .int), (cZ, .boolean)] (rw a cI cZ) RX10 cX10_image (some .int) 1 3) (hQ : RetI o D (rw a cI cZ) Q) : ∀ (n : Nat) (f : Sg) (x1 : Int32) (x2 : Int32), itr2 (B_X10_image_0_14 Q) n f x1 x2 → Go o D (rw a cI cZ) 14 [(0, .ref (a 0)), (1, .int x1), (2, .int x2)] [] f := by
  intro n
  induction n with
  | zero => intro f x1 x2 h; exact h.elim
  | succ n ih =>
    intro f x1 x2 h
    have h : B_X10_image_0_14 Q (itr2 (B_X10_image_0_14 Q) n) f x1 x2 := h
    have hK14 := ih
    generalize itr2 (B_X10_image_0_14 Q) n = K14 at h hK14
    clear ih
    unfold B_X10_image_0_14 at h
    refine g_iload_n C 2 dX10_image_14 rfl ?_
    refine g_bipush C 18 dX10_image_15 (by decide) ?_
    refine g_icmp_ge C 43 dX10_image_17 (by decide) (fun c4 => ?_) (fun c4 => ?_)
    · have h := h.1 c4
      refine g_aload_n C 0 dX10_image_43 rfl ?_
      refine gf_RX10_16_X10 C re_0 rfl dX10_image_44 ?_
      refine g_iload_n C 1 dX10_image_47 rfl ?_
      refine g_iconst C 1 dX10_image_48 (by decide) ?_
      obtain ⟨hi5, h⟩ := h
      obtain ⟨g6, eg6⟩ : ∃ g : Sg, g = va_up f 3 (upd (f 3) (x1 : Int32).toNatClampNeg (vp_nar .boolean 1)) := ⟨_, rfl⟩
      have h := h g6 eg6
      refine g_zast C 1 re_3 rfl (g := g6) (by rw [eg6]; exact rs_3) hi5 dX10_image_49 ?_
      refine g_iconst C 1 dX10_image_50 (by decide) ?_
      exact g_iret C hQ dX10_image_51 h
    · have h := h.2 c4
      refine g_aload_n C 0 dX10_image_20 rfl ?_
      refine gf_RX10_13_X10 C re_0 rfl dX10_image_21 ?_
      refine g_bipush C 18 dX10_image_24 (by decide) ?_
      refine g_iload_n C 1 dX10_image_26 rfl ?_
      refine g_imul C dX10_image_27 ?_
      refine g_iload_n C 2 dX10_image_28 rfl ?_
      refine g_iadd C dX10_image_29 ?_
      refine g_aload_n C 0 dX10_image_30 rfl ?_
      refine gf_RX10_7_X10 C re_0 rfl dX10_image_31 ?_
      refine g_iload_n C 2 dX10_image_34 rfl ?_
      obtain ⟨hi7, h⟩ := h
      refine g_iald C 0 re_1 rfl hi7 dX10_image_35 ?_
      obtain ⟨hi8, h⟩ := h
      obtain ⟨g9, eg9⟩ : ∃ g : Sg, g = va_up f 2 (upd (f 2) (((18 : Int32) * x1) + x2 : Int32).toNatClampNeg (f 1 (x2 : Int32).toNatClampNeg)) := ⟨_, rfl⟩
      have h := h g9 eg9
      refine g_iast C 0 re_2 rfl (g := g9) (by rw [eg9]; exact rs_2) hi8 dX10_image_36 ?_
      refine g_iinc (lv' := [(2, .int (x2 + 1)), (0, .ref (a 0)), (1, .int x1)]) C 2 dX10_image_37 rfl rfl (by decide) rfl ?_
      refine g_goto C 14 dX10_image_40 (by decide) ?_
      refine g_sub (lv' := [(0, .ref (a 0)), (1, .int x1), (2, .int (x2 + 1))]) [1, 2, 0] rfl ?_
      exact hK14 g9 x1 (x2 + 1) h
set_option maxHeartbeats 4000000 in
theorem c_X10_image_0 (l : Launch) (D : va_G) (a : Nat → Nat) (cI cZ : ClassId) {f : Sg} {x1 : Int32} {Q : Int32 → Sg → Prop} (h : M_X10_image_0 f x1 Q) : MI l D [(cI, .int), (cZ, .boolean)] (rw a cI cZ) yX10_image cX10_image 3 (some .int) (1) [.ref (a 0), .int x1] f Q := by
  refine mkI (rw_fix a cI cZ) (by decide +kernel) (Nat.le_of_ble_eq_true rfl) (fun o C hQ => ?_)
  show Go o D (rw a cI cZ) 0 [(0, .ref (a 0)), (1, .int x1)] [] f
  unfold M_X10_image_0 at h
  refine g_iload_n C 1 dX10_image_0 rfl ?_
  refine g_iconst C 0 dX10_image_1 (by decide) ?_
  refine g_iconst C 1 dX10_image_2 (by decide) ?_
  refine g_callSi C (As := [.int x1, .int 0, .int 1]) (st := []) (fun l => c_X10_in l D a cI cZ h) cl_RX10_38 (by omega) rfl (Nat.le_of_ble_eq_true rfl) dX10_image_3 (fun r2 g1 h => ?_)
  refine g_if_ne C 12 dX10_image_6 (by decide) (fun c3 => ?_) (fun c3 => ?_)
  · have h := h.2 c3
    refine g_iconst C 0 dX10_image_12 (by decide) ?_
    refine g_istore_n (lv' := [(2, .int 0), (0, .ref (a 0)), (1, .int x1)]) C dX10_image_13 (by decide) rfl ?_
    refine g_sub (lv' := [(0, .ref (a 0)), (1, .int x1), (2, .int 0)]) [1, 2, 0] rfl ?_
    obtain ⟨n, h⟩ := h
    exact t_X10_image_0_14 C hQ n g1 x1 0 h
  · have h := h.1 c3
    refine g_bipush C (-2) dX10_image_9 (by decide) ?_
    exact g_iret C hQ dX10_image_11 h
/-! X10_restore_0: rank 1 -/
def B_X10_restore_0_26 (Q : Int32 → Sg → Prop) (K26 : Sg → Int32 → Int32 → Prop) (f : Sg) (x1 : Int32) (x2 : Int32) : Prop :=
  (18 ≤ x2 → Q 1 f) ∧ (¬ 18 ≤ x2 → vp_in (((18 : Int32) * x1) + x2) 36 ∧ vp_in x2 18 ∧ ∀ g9 : Sg, g9 = va_up f 1 (upd (f 1) (x2 : Int32).toNatClampNeg (f 2 (((18 : Int32) * x1) + x2 : Int32).toNatClampNeg)) → K26 g9 x1 (x2 + 1))
def M_X10_restore_0 (f : Sg) (x1 : Int32) (Q : Int32 → Sg → Prop) : Prop :=
  M_X10_in f x1 0 1 (fun r2 g1 => (r2 = 0 → Q (-2) g1) ∧ (¬ r2 = 0 → vp_in x1 2 ∧ ((g1 3 (x1 : Int32).toNatClampNeg) = 0 → Q (-3) g1) ∧ (¬ (g1 3 (x1 : Int32).toNatClampNeg) = 0 → ∃ n : Nat, itr2 (B_X10_restore_0_26 Q) n g1 x1 0)))
set_option maxHeartbeats 4000000 in
theorem t_X10_restore_0_26 {o : Om} {D : va_G} {a : Nat → Nat} {cI cZ : ClassId} {Q : Int32 → Sg → Prop} (C : Cx o D [(cI, .int), (cZ, .boolean)] (rw a cI cZ) RX10 cX10_restore (some .int) 1 3) (hQ : RetI o D (rw a cI cZ) Q) : ∀ (n : Nat) (f : Sg) (x1 : Int32) (x2 : Int32), itr2 (B_X10_restore_0_26 Q) n f x1 x2 → Go o D (rw a cI cZ) 26 [(0, .ref (a 0)), (1, .int x1), (2, .int x2)] [] f := by
  intro n
  induction n with
  | zero => intro f x1 x2 h; exact h.elim
  | succ n ih =>
    intro f x1 x2 h
    have h : B_X10_restore_0_26 Q (itr2 (B_X10_restore_0_26 Q) n) f x1 x2 := h
    have hK26 := ih
    generalize itr2 (B_X10_restore_0_26 Q) n = K26 at h hK26
    clear ih
    unfold B_X10_restore_0_26 at h
    refine g_iload_n C 2 dX10_restore_26 rfl ?_
    refine g_bipush C 18 dX10_restore_27 (by decide) ?_
    refine g_icmp_ge C 55 dX10_restore_29 (by decide) (fun c6 => ?_) (fun c6 => ?_)
    · have h := h.1 c6
      refine g_iconst C 1 dX10_restore_55 (by decide) ?_
      exact g_iret C hQ dX10_restore_56 h
    · have h := h.2 c6
      refine g_aload_n C 0 dX10_restore_32 rfl ?_
      refine gf_RX10_7_X10 C re_0 rfl dX10_restore_33 ?_
      refine g_iload_n C 2 dX10_restore_36 rfl ?_
      refine g_aload_n C 0 dX10_restore_37 rfl ?_
      refine gf_RX10_13_X10 C re_0 rfl dX10_restore_38 ?_
      refine g_bipush C 18 dX10_restore_41 (by decide) ?_
      refine g_iload_n C 1 dX10_restore_43 rfl ?_
      refine g_imul C dX10_restore_44 ?_
      refine g_iload_n C 2 dX10_restore_45 rfl ?_
      refine g_iadd C dX10_restore_46 ?_
      obtain ⟨hi7, h⟩ := h
      refine g_iald C 0 re_2 rfl hi7 dX10_restore_47 ?_
      obtain ⟨hi8, h⟩ := h
      obtain ⟨g9, eg9⟩ : ∃ g : Sg, g = va_up f 1 (upd (f 1) (x2 : Int32).toNatClampNeg (f 2 (((18 : Int32) * x1) + x2 : Int32).toNatClampNeg)) := ⟨_, rfl⟩
      have h := h g9 eg9
      refine g_iast C 0 re_1 rfl (g := g9) (by rw [eg9]; exact rs_1) hi8 dX10_restore_48 ?_
      refine g_iinc (lv' := [(2, .int (x2 + 1)), (0, .ref (a 0)), (1, .int x1)]) C 2 dX10_restore_49 rfl rfl (by decide) rfl ?_
      refine g_goto C 26 dX10_restore_52 (by decide) ?_
      refine g_sub (lv' := [(0, .ref (a 0)), (1, .int x1), (2, .int (x2 + 1))]) [1, 2, 0] rfl ?_
      exact hK26 g9 x1 (x2 + 1) h
set_option maxHeartbeats 4000000 in
theorem c_X10_restore_0 (l : Launch) (D : va_G) (a : Nat → Nat) (cI cZ : ClassId) {f : Sg} {x1 : Int32} {Q : Int32 → Sg → Prop} (h : M_X10_restore_0 f x1 Q) : MI l D [(cI, .int), (cZ, .boolean)] (rw a cI cZ) yX10_restore cX10_restore 3 (some .int) (1) [.ref (a 0), .int x1] f Q := by
  refine mkI (rw_fix a cI cZ) (by decide +kernel) (Nat.le_of_ble_eq_true rfl) (fun o C hQ => ?_)
  show Go o D (rw a cI cZ) 0 [(0, .ref (a 0)), (1, .int x1)] [] f
  unfold M_X10_restore_0 at h
  refine g_iload_n C 1 dX10_restore_0 rfl ?_
  refine g_iconst C 0 dX10_restore_1 (by decide) ?_
  refine g_iconst C 1 dX10_restore_2 (by decide) ?_
  refine g_callSi C (As := [.int x1, .int 0, .int 1]) (st := []) (fun l => c_X10_in l D a cI cZ h) cl_RX10_38 (by omega) rfl (Nat.le_of_ble_eq_true rfl) dX10_restore_3 (fun r2 g1 h => ?_)
  refine g_if_ne C 12 dX10_restore_6 (by decide) (fun c3 => ?_) (fun c3 => ?_)
  · have h := h.2 c3
    refine g_aload_n C 0 dX10_restore_12 rfl ?_
    refine gf_RX10_16_X10 C re_0 rfl dX10_restore_13 ?_
    refine g_iload_n C 1 dX10_restore_16 rfl ?_
    obtain ⟨hi4, h⟩ := h
    refine g_zald C 1 re_3 rfl hi4 dX10_restore_17 ?_
    refine g_if_ne C 24 dX10_restore_18 (by decide) (fun c5 => ?_) (fun c5 => ?_)
    · have h := h.2 c5
      refine g_iconst C 0 dX10_restore_24 (by decide) ?_
      refine g_istore_n (lv' := [(2, .int 0), (0, .ref (a 0)), (1, .int x1)]) C dX10_restore_25 (by decide) rfl ?_
      refine g_sub (lv' := [(0, .ref (a 0)), (1, .int x1), (2, .int 0)]) [1, 2, 0] rfl ?_
      obtain ⟨n, h⟩ := h
      exact t_X10_restore_0_26 C hQ n g1 x1 0 h
    · have h := h.1 c5
      refine g_bipush C (-3) dX10_restore_21 (by decide) ?_
      exact g_iret C hQ dX10_restore_23 h
  · have h := h.1 c3
    refine g_bipush C (-2) dX10_restore_9 (by decide) ?_
    exact g_iret C hQ dX10_restore_11 h
/-! X10_demanded_0: rank 0 -/
def J_X10_demanded_0_27 (Q : Int32 → Sg → Prop) (K4 : Sg → Int32 → Int32 → Prop) (f : Sg) (x2 : Int32) (s0 : Int32) (s1 : Int32) : Prop :=
  ∀ z4 : Int32, z4 = s1 + s0 → K4 f z4 (x2 + 1)
def B_X10_demanded_0_4 (Q : Int32 → Sg → Prop) (K4 : Sg → Int32 → Int32 → Prop) (f : Sg) (x1 : Int32) (x2 : Int32) : Prop :=
  (5 ≤ x2 → Q x1 f) ∧ (¬ 5 ≤ x2 → vp_in ((13 : Int32) + x2) 18 ∧ ((f 1 ((13 : Int32) + x2 : Int32).toNatClampNeg) ≤ 0 → J_X10_demanded_0_27 Q K4 f x2 0 x1) ∧ (¬ (f 1 ((13 : Int32) + x2 : Int32).toNatClampNeg) ≤ 0 → J_X10_demanded_0_27 Q K4 f x2 1 x1))
def M_X10_demanded_0 (f : Sg) (Q : Int32 → Sg → Prop) : Prop :=
  ∃ n : Nat, itr2 (B_X10_demanded_0_4 Q) n f 0 0
set_option maxHeartbeats 4000000 in
theorem t_X10_demanded_0_27 {o : Om} {D : va_G} {a : Nat → Nat} {cI cZ : ClassId} {Q : Int32 → Sg → Prop} {K4 : Sg → Int32 → Int32 → Prop} (C : Cx o D [(cI, .int), (cZ, .boolean)] (rw a cI cZ) RX10 cX10_demanded (some .int) 0 3) (hQ : RetI o D (rw a cI cZ) Q) (hK4 : ∀ (g : Sg) (x1 : Int32) (x2 : Int32), K4 g x1 x2 → Go o D (rw a cI cZ) 4 [(0, .ref (a 0)), (1, .int x1), (2, .int x2)] [] g) {f : Sg} {x2 : Int32} {s0 : Int32} {s1 : Int32} (h : J_X10_demanded_0_27 Q K4 f x2 s0 s1) : Go o D (rw a cI cZ) 27 [(0, .ref (a 0)), (2, .int x2)] [.int s0, .int s1] f := by
  unfold J_X10_demanded_0_27 at h
  refine g_iadd C dX10_demanded_27 ?_
  refine g_top (fun z4 ez4 => ?_)
  have h := h z4 ez4
  refine g_istore_n (lv' := [(1, .int z4), (0, .ref (a 0)), (2, .int x2)]) C dX10_demanded_28 (by decide) rfl ?_
  refine g_iinc (lv' := [(2, .int (x2 + 1)), (1, .int z4), (0, .ref (a 0))]) C 2 dX10_demanded_29 rfl rfl (by decide) rfl ?_
  refine g_goto C 4 dX10_demanded_32 (by decide) ?_
  refine g_sub (lv' := [(0, .ref (a 0)), (1, .int z4), (2, .int (x2 + 1))]) [2, 1, 0] rfl ?_
  exact hK4 f z4 (x2 + 1) h
set_option maxHeartbeats 4000000 in
theorem t_X10_demanded_0_4 {o : Om} {D : va_G} {a : Nat → Nat} {cI cZ : ClassId} {Q : Int32 → Sg → Prop} (C : Cx o D [(cI, .int), (cZ, .boolean)] (rw a cI cZ) RX10 cX10_demanded (some .int) 0 3) (hQ : RetI o D (rw a cI cZ) Q) : ∀ (n : Nat) (f : Sg) (x1 : Int32) (x2 : Int32), itr2 (B_X10_demanded_0_4 Q) n f x1 x2 → Go o D (rw a cI cZ) 4 [(0, .ref (a 0)), (1, .int x1), (2, .int x2)] [] f := by
  intro n
  induction n with
  | zero => intro f x1 x2 h; exact h.elim
  | succ n ih =>
    intro f x1 x2 h
    have h : B_X10_demanded_0_4 Q (itr2 (B_X10_demanded_0_4 Q) n) f x1 x2 := h
    have hK4 := ih
    generalize itr2 (B_X10_demanded_0_4 Q) n = K4 at h hK4
    clear ih
    unfold B_X10_demanded_0_4 at h
    refine g_iload_n C 2 dX10_demanded_4 rfl ?_
    refine g_iconst C 5 dX10_demanded_5 (by decide) ?_
    refine g_icmp_ge C 35 dX10_demanded_6 (by decide) (fun c1 => ?_) (fun c1 => ?_)
    · have h := h.1 c1
      refine g_iload_n C 1 dX10_demanded_35 rfl ?_
      exact g_iret C hQ dX10_demanded_36 h
    · have h := h.2 c1
      refine g_iload_n C 1 dX10_demanded_9 rfl ?_
      refine g_aload_n C 0 dX10_demanded_10 rfl ?_
      refine gf_RX10_7_X10 C re_0 rfl dX10_demanded_11 ?_
      refine g_bipush C 13 dX10_demanded_14 (by decide) ?_
      refine g_iload_n C 2 dX10_demanded_16 rfl ?_
      refine g_iadd C dX10_demanded_17 ?_
      obtain ⟨hi2, h⟩ := h
      refine g_iald C 0 re_1 rfl hi2 dX10_demanded_18 ?_
      refine g_if_le C 26 dX10_demanded_19 (by decide) (fun c3 => ?_) (fun c3 => ?_)
      · have h := h.1 c3
        refine g_iconst C 0 dX10_demanded_26 (by decide) ?_
        refine g_sub (lv' := [(0, .ref (a 0)), (2, .int x2)]) [0, 2] rfl ?_
        exact t_X10_demanded_0_27 C hQ hK4 h
      · have h := h.2 c3
        refine g_iconst C 1 dX10_demanded_22 (by decide) ?_
        refine g_goto C 27 dX10_demanded_23 (by decide) ?_
        refine g_sub (lv' := [(0, .ref (a 0)), (2, .int x2)]) [0, 2] rfl ?_
        exact t_X10_demanded_0_27 C hQ hK4 h
set_option maxHeartbeats 4000000 in
theorem c_X10_demanded_0 (l : Launch) (D : va_G) (a : Nat → Nat) (cI cZ : ClassId) {f : Sg} {Q : Int32 → Sg → Prop} (h : M_X10_demanded_0 f Q) : MI l D [(cI, .int), (cZ, .boolean)] (rw a cI cZ) yX10_demanded cX10_demanded 3 (some .int) (0) [.ref (a 0)] f Q := by
  refine mkI (rw_fix a cI cZ) (by decide +kernel) (Nat.le_of_ble_eq_true rfl) (fun o C hQ => ?_)
  show Go o D (rw a cI cZ) 0 [(0, .ref (a 0))] [] f
  unfold M_X10_demanded_0 at h
  refine g_iconst C 0 dX10_demanded_0 (by decide) ?_
  refine g_istore_n (lv' := [(1, .int 0), (0, .ref (a 0))]) C dX10_demanded_1 (by decide) rfl ?_
  refine g_iconst C 0 dX10_demanded_2 (by decide) ?_
  refine g_istore_n (lv' := [(2, .int 0), (1, .int 0), (0, .ref (a 0))]) C dX10_demanded_3 (by decide) rfl ?_
  refine g_sub (lv' := [(0, .ref (a 0)), (1, .int 0), (2, .int 0)]) [2, 1, 0] rfl ?_
  obtain ⟨n, h⟩ := h
  exact t_X10_demanded_0_4 C hQ n f 0 0 h
/-! X10_count_0: rank 2 -/
def J_X10_count_0_63 (Q : Int32 → Sg → Prop) (f : Sg) (s0 : Int32) : Prop :=
  Q s0 f
def J_X10_count_0_92 (Q : Int32 → Sg → Prop) (f : Sg) (s0 : Int32) (s1 : Int32) : Prop :=
  Q (s1 + s0) f
def J_X10_count_0_78 (Q : Int32 → Sg → Prop) (f : Sg) (s0 : Int32) : Prop :=
  vp_in 1 2 ∧ ((f 3 (1 : Int32).toNatClampNeg) = 0 → J_X10_count_0_92 Q f 0 s0) ∧ (¬ (f 3 (1 : Int32).toNatClampNeg) = 0 → J_X10_count_0_92 Q f 2 s0)
def M_X10_count_0 (f : Sg) (x1 : Int32) (Q : Int32 → Sg → Prop) : Prop :=
  (x1 = 0 → M_X10_cars_0 f (fun r3 g2 => Q r3 g2)) ∧ (¬ x1 = 0 → (x1 = 1 → M_X10_demanded_0 f (fun r6 g5 => Q r6 g5)) ∧ (¬ x1 = 1 → (x1 = 2 → Q (f 0 4) f) ∧ (¬ x1 = 2 → (x1 = 3 → M_X10_isOrder_0 f (fun r10 g9 => (r10 = 0 → J_X10_count_0_63 Q g9 0) ∧ (¬ r10 = 0 → J_X10_count_0_63 Q g9 1))) ∧ (¬ x1 = 3 → (x1 = 4 → vp_in 0 2 ∧ ((f 3 (0 : Int32).toNatClampNeg) = 0 → J_X10_count_0_78 Q f 0) ∧ (¬ (f 3 (0 : Int32).toNatClampNeg) = 0 → J_X10_count_0_78 Q f 1)) ∧ (¬ x1 = 4 → Q (-2) f)))))
set_option maxHeartbeats 4000000 in
theorem t_X10_count_0_63 {o : Om} {D : va_G} {a : Nat → Nat} {cI cZ : ClassId} {Q : Int32 → Sg → Prop} (C : Cx o D [(cI, .int), (cZ, .boolean)] (rw a cI cZ) RX10 cX10_count (some .int) 2 2) (hQ : RetI o D (rw a cI cZ) Q) {f : Sg} {s0 : Int32} (h : J_X10_count_0_63 Q f s0) : Go o D (rw a cI cZ) 63 [] [.int s0] f := by
  unfold J_X10_count_0_63 at h
  exact g_iret C hQ dX10_count_63 h
set_option maxHeartbeats 4000000 in
theorem t_X10_count_0_92 {o : Om} {D : va_G} {a : Nat → Nat} {cI cZ : ClassId} {Q : Int32 → Sg → Prop} (C : Cx o D [(cI, .int), (cZ, .boolean)] (rw a cI cZ) RX10 cX10_count (some .int) 2 2) (hQ : RetI o D (rw a cI cZ) Q) {f : Sg} {s0 : Int32} {s1 : Int32} (h : J_X10_count_0_92 Q f s0 s1) : Go o D (rw a cI cZ) 92 [] [.int s0, .int s1] f := by
  unfold J_X10_count_0_92 at h
  refine g_iadd C dX10_count_92 ?_
  exact g_iret C hQ dX10_count_93 h
set_option maxHeartbeats 4000000 in
theorem t_X10_count_0_78 {o : Om} {D : va_G} {a : Nat → Nat} {cI cZ : ClassId} {Q : Int32 → Sg → Prop} (C : Cx o D [(cI, .int), (cZ, .boolean)] (rw a cI cZ) RX10 cX10_count (some .int) 2 2) (hQ : RetI o D (rw a cI cZ) Q) {f : Sg} {s0 : Int32} (h : J_X10_count_0_78 Q f s0) : Go o D (rw a cI cZ) 78 [(0, .ref (a 0))] [.int s0] f := by
  unfold J_X10_count_0_78 at h
  refine g_aload_n C 0 dX10_count_78 rfl ?_
  refine gf_RX10_16_X10 C re_0 rfl dX10_count_79 ?_
  refine g_iconst C 1 dX10_count_82 (by decide) ?_
  obtain ⟨hi15, h⟩ := h
  refine g_zald C 1 re_3 rfl hi15 dX10_count_83 ?_
  refine g_if_eq C 91 dX10_count_84 (by decide) (fun c16 => ?_) (fun c16 => ?_)
  · have h := h.1 c16
    refine g_iconst C 0 dX10_count_91 (by decide) ?_
    refine g_sub (lv' := []) [] rfl ?_
    exact t_X10_count_0_92 C hQ h
  · have h := h.2 c16
    refine g_iconst C 2 dX10_count_87 (by decide) ?_
    refine g_goto C 92 dX10_count_88 (by decide) ?_
    refine g_sub (lv' := []) [] rfl ?_
    exact t_X10_count_0_92 C hQ h
set_option maxHeartbeats 4000000 in
theorem c_X10_count_0 (l : Launch) (D : va_G) (a : Nat → Nat) (cI cZ : ClassId) {f : Sg} {x1 : Int32} {Q : Int32 → Sg → Prop} (h : M_X10_count_0 f x1 Q) : MI l D [(cI, .int), (cZ, .boolean)] (rw a cI cZ) yX10_count cX10_count 2 (some .int) (2) [.ref (a 0), .int x1] f Q := by
  refine mkI (rw_fix a cI cZ) (by decide +kernel) (Nat.le_of_ble_eq_true rfl) (fun o C hQ => ?_)
  show Go o D (rw a cI cZ) 0 [(0, .ref (a 0)), (1, .int x1)] [] f
  unfold M_X10_count_0 at h
  refine g_iload_n C 1 dX10_count_0 rfl ?_
  by_cases e1 : x1 = 0
  · have h := h.1 e1
    refine g_tsIn C 36 dX10_count_1 (by rw [e1] <;> decide) (by rw [e1] <;> decide) (by rw [e1] <;> rfl) (by decide) ?_
    refine g_aload_n C 0 dX10_count_36 rfl ?_
    refine g_callVi C (As := []) (st := []) (fun l => c_X10_cars_0 l D a cI cZ h) cl_RX10_49_X10 rfl re_0 (by omega) rfl (Nat.le_of_ble_eq_true rfl) dX10_count_37 (fun r3 g2 h => ?_)
    exact g_iret C hQ dX10_count_40 h
  · have h := h.2 e1
    by_cases e4 : x1 = 1
    · have h := h.1 e4
      refine g_tsIn C 41 dX10_count_1 (by rw [e4] <;> decide) (by rw [e4] <;> decide) (by rw [e4] <;> rfl) (by decide) ?_
      refine g_aload_n C 0 dX10_count_41 rfl ?_
      refine g_callVi C (As := []) (st := []) (fun l => c_X10_demanded_0 l D a cI cZ h) cl_RX10_163_X10 rfl re_0 (by omega) rfl (Nat.le_of_ble_eq_true rfl) dX10_count_42 (fun r6 g5 h => ?_)
      exact g_iret C hQ dX10_count_45 h
    · have h := h.2 e4
      by_cases e7 : x1 = 2
      · have h := h.1 e7
        refine g_tsIn C 46 dX10_count_1 (by rw [e7] <;> decide) (by rw [e7] <;> decide) (by rw [e7] <;> rfl) (by decide) ?_
        refine g_aload_n C 0 dX10_count_46 rfl ?_
        refine gf_RX10_139_X10 C re_0 rfl dX10_count_47 ?_
        exact g_iret C hQ dX10_count_50 h
      · have h := h.2 e7
        by_cases e8 : x1 = 3
        · have h := h.1 e8
          refine g_tsIn C 51 dX10_count_1 (by rw [e8] <;> decide) (by rw [e8] <;> decide) (by rw [e8] <;> rfl) (by decide) ?_
          refine g_aload_n C 0 dX10_count_51 rfl ?_
          refine g_callVi C (As := []) (st := []) (fun l => c_X10_isOrder_0 l D a cI cZ h) cl_RX10_154_X10 rfl re_0 (by omega) rfl (Nat.le_of_ble_eq_true rfl) dX10_count_52 (fun r10 g9 h => ?_)
          refine g_if_eq C 62 dX10_count_55 (by decide) (fun c11 => ?_) (fun c11 => ?_)
          · have h := h.1 c11
            refine g_iconst C 0 dX10_count_62 (by decide) ?_
            refine g_sub (lv' := []) [] rfl ?_
            exact t_X10_count_0_63 C hQ h
          · have h := h.2 c11
            refine g_iconst C 1 dX10_count_58 (by decide) ?_
            refine g_goto C 63 dX10_count_59 (by decide) ?_
            refine g_sub (lv' := []) [] rfl ?_
            exact t_X10_count_0_63 C hQ h
        · have h := h.2 e8
          by_cases e12 : x1 = 4
          · have h := h.1 e12
            refine g_tsIn C 64 dX10_count_1 (by rw [e12] <;> decide) (by rw [e12] <;> decide) (by rw [e12] <;> rfl) (by decide) ?_
            refine g_aload_n C 0 dX10_count_64 rfl ?_
            refine gf_RX10_16_X10 C re_0 rfl dX10_count_65 ?_
            refine g_iconst C 0 dX10_count_68 (by decide) ?_
            obtain ⟨hi13, h⟩ := h
            refine g_zald C 1 re_3 rfl hi13 dX10_count_69 ?_
            refine g_if_eq C 77 dX10_count_70 (by decide) (fun c14 => ?_) (fun c14 => ?_)
            · have h := h.1 c14
              refine g_iconst C 0 dX10_count_77 (by decide) ?_
              refine g_sub (lv' := [(0, .ref (a 0))]) [0] rfl ?_
              exact t_X10_count_0_78 C hQ h
            · have h := h.2 c14
              refine g_iconst C 1 dX10_count_73 (by decide) ?_
              refine g_goto C 78 dX10_count_74 (by decide) ?_
              refine g_sub (lv' := [(0, .ref (a 0))]) [0] rfl ?_
              exact t_X10_count_0_78 C hQ h
          · have h := h.2 e12
            have qe1 : ¬ (x1 : Int32).toInt = 0 := i32_ne_toInt (c := 0) (by decide) e1
            have qe4 : ¬ (x1 : Int32).toInt = 1 := i32_ne_toInt (c := 1) (by decide) e4
            have qe7 : ¬ (x1 : Int32).toInt = 2 := i32_ne_toInt (c := 2) (by decide) e7
            have qe8 : ¬ (x1 : Int32).toInt = 3 := i32_ne_toInt (c := 3) (by decide) e8
            have qe12 : ¬ (x1 : Int32).toInt = 4 := i32_ne_toInt (c := 4) (by decide) e12
            refine g_tsOut C 94 dX10_count_1 (by omega) (by decide) ?_
            refine g_bipush C (-2) dX10_count_94 (by decide) ?_
            exact g_iret C hQ dX10_count_96 h
