/-! X5_breaksAtEnd_1: rank 1 -/
def J_X5_breaksAtEnd_1_47 (Q : Int32 → Sg → Prop) (K5 : Sg → Int32 → Int32 → Int32 → Int32 → Prop) (f : Sg) (x1 : Int32) (x2 : Int32) (x3 : Int32) (x4 : Int32) : Prop :=
  K5 f x1 x2 x3 (x4 + 1)
def B_X5_breaksAtEnd_1_5 (Q : Int32 → Sg → Prop) (K5 : Sg → Int32 → Int32 → Int32 → Int32 → Prop) (f : Sg) (x1 : Int32) (x2 : Int32) (x3 : Int32) (x4 : Int32) : Prop :=
  (4 ≤ x4 → Q x3 f) ∧ (¬ 4 ≤ x4 → vp_in x4 4 ∧ (x2 < (f 3 (x4 : Int32).toNatClampNeg) → J_X5_breaksAtEnd_1_47 Q K5 f x1 x2 x3 x4) ∧ (¬ x2 < (f 3 (x4 : Int32).toNatClampNeg) → vp_in x4 4 ∧ M_J6_bitCount_0f7a4 f (x1 &&& (f 4 (x4 : Int32).toNatClampNeg)) (fun r6 g5 => vp_in x4 4 ∧ (r6 ≤ (g5 2 (x4 : Int32).toNatClampNeg) → J_X5_breaksAtEnd_1_47 Q K5 g5 x1 x2 x3 x4) ∧ (¬ r6 ≤ (g5 2 (x4 : Int32).toNatClampNeg) → J_X5_breaksAtEnd_1_47 Q K5 g5 x1 x2 (x3 + 1) x4))))
def M_X5_breaksAtEnd_1 (f : Sg) (x1 : Int32) (x2 : Int32) (Q : Int32 → Sg → Prop) : Prop :=
  ∃ n : Nat, itr4 (B_X5_breaksAtEnd_1_5 Q) n f x1 x2 0 0
set_option maxHeartbeats 4000000 in
theorem t_X5_breaksAtEnd_1_47 {o : Om} {D : va_G} {a : Nat → Nat} {cI : ClassId} {Q : Int32 → Sg → Prop} {K5 : Sg → Int32 → Int32 → Int32 → Int32 → Prop} (C : Cx o D [(cI, .int)] (cw a cI) RX5 cX5_breaksAtEnd (some .int) 1 5) (hQ : RetI o D (cw a cI) Q) (hK5 : ∀ (g : Sg) (x1 : Int32) (x2 : Int32) (x3 : Int32) (x4 : Int32), K5 g x1 x2 x3 x4 → Go o D (cw a cI) 5 [(0, .ref (a 1)), (1, .int x1), (2, .int x2), (3, .int x3), (4, .int x4)] [] g) {f : Sg} {x1 : Int32} {x2 : Int32} {x3 : Int32} {x4 : Int32} (h : J_X5_breaksAtEnd_1_47 Q K5 f x1 x2 x3 x4) : Go o D (cw a cI) 47 [(0, .ref (a 1)), (1, .int x1), (2, .int x2), (3, .int x3), (4, .int x4)] [] f := by
  unfold J_X5_breaksAtEnd_1_47 at h
  refine g_iinc (lv' := [(4, .int (x4 + 1)), (0, .ref (a 1)), (1, .int x1), (2, .int x2), (3, .int x3)]) C 4 dX5_breaksAtEnd_47 rfl rfl (by decide) rfl ?_
  refine g_goto C 5 dX5_breaksAtEnd_50 (by decide) ?_
  refine g_sub (lv' := [(0, .ref (a 1)), (1, .int x1), (2, .int x2), (3, .int x3), (4, .int (x4 + 1))]) [1, 2, 3, 4, 0] rfl ?_
  exact hK5 f x1 x2 x3 (x4 + 1) h
set_option maxHeartbeats 4000000 in
theorem t_X5_breaksAtEnd_1_5 {o : Om} {D : va_G} {a : Nat → Nat} {cI : ClassId} {Q : Int32 → Sg → Prop} (C : Cx o D [(cI, .int)] (cw a cI) RX5 cX5_breaksAtEnd (some .int) 1 5) (hQ : RetI o D (cw a cI) Q) : ∀ (n : Nat) (f : Sg) (x1 : Int32) (x2 : Int32) (x3 : Int32) (x4 : Int32), itr4 (B_X5_breaksAtEnd_1_5 Q) n f x1 x2 x3 x4 → Go o D (cw a cI) 5 [(0, .ref (a 1)), (1, .int x1), (2, .int x2), (3, .int x3), (4, .int x4)] [] f := by
  intro n
  induction n with
  | zero => intro f x1 x2 x3 x4 h; exact h.elim
  | succ n ih =>
    intro f x1 x2 x3 x4 h
    have h : B_X5_breaksAtEnd_1_5 Q (itr4 (B_X5_breaksAtEnd_1_5 Q) n) f x1 x2 x3 x4 := h
    have hK5 := ih
    generalize itr4 (B_X5_breaksAtEnd_1_5 Q) n = K5 at h hK5
    clear ih
    unfold B_X5_breaksAtEnd_1_5 at h
    refine g_iload C 4 dX5_breaksAtEnd_5 rfl ?_
    refine g_iconst C 4 dX5_breaksAtEnd_7 (by decide) ?_
    refine g_icmp_ge C 53 dX5_breaksAtEnd_8 (by decide) (fun c1 => ?_) (fun c1 => ?_)
    · have h := h.1 c1
      refine g_iload_n C 3 dX5_breaksAtEnd_53 rfl ?_
      exact g_iret C hQ dX5_breaksAtEnd_54 h
    · have h := h.2 c1
      refine g_iload_n C 2 dX5_breaksAtEnd_11 rfl ?_
      refine g_aload_n C 0 dX5_breaksAtEnd_12 rfl ?_
      refine gf_RX5_15_X5 C ce_1 rfl dX5_breaksAtEnd_13 ?_
      refine g_iload C 4 dX5_breaksAtEnd_16 rfl ?_
      obtain ⟨hi2, h⟩ := h
      refine g_iald C 0 ce_3 rfl hi2 dX5_breaksAtEnd_18 ?_
      refine g_icmp_lt C 47 dX5_breaksAtEnd_19 (by decide) (fun c3 => ?_) (fun c3 => ?_)
      · have h := h.1 c3
        refine g_sub (lv' := [(0, .ref (a 1)), (1, .int x1), (2, .int x2), (3, .int x3), (4, .int x4)]) [0, 1, 2, 3, 4] rfl ?_
        exact t_X5_breaksAtEnd_1_47 C hQ hK5 h
      · have h := h.2 c3
        refine g_iload_n C 1 dX5_breaksAtEnd_22 rfl ?_
        refine g_aload_n C 0 dX5_breaksAtEnd_23 rfl ?_
        refine gf_RX5_18_X5 C ce_1 rfl dX5_breaksAtEnd_24 ?_
        refine g_iload C 4 dX5_breaksAtEnd_27 rfl ?_
        obtain ⟨hi4, h⟩ := h
        refine g_iald C 0 ce_4 rfl hi4 dX5_breaksAtEnd_29 ?_
        refine g_iand C dX5_breaksAtEnd_30 ?_
        refine g_callSi C (As := [.int (x1 &&& (f 4 (x4 : Int32).toNatClampNeg))]) (st := []) (fun l => c_J6_bitCount_0f7a4 l D a cI h) cl_RX5_55 (by omega) rfl (Nat.le_of_ble_eq_true rfl) dX5_breaksAtEnd_31 (fun r6 g5 h => ?_)
        refine g_aload_n C 0 dX5_breaksAtEnd_34 rfl ?_
        refine gf_RX5_9_X5 C ce_1 rfl dX5_breaksAtEnd_35 ?_
        refine g_iload C 4 dX5_breaksAtEnd_38 rfl ?_
        obtain ⟨hi7, h⟩ := h
        refine g_iald C 0 ce_2 rfl hi7 dX5_breaksAtEnd_40 ?_
        refine g_icmp_le C 47 dX5_breaksAtEnd_41 (by decide) (fun c8 => ?_) (fun c8 => ?_)
        · have h := h.1 c8
          refine g_sub (lv' := [(0, .ref (a 1)), (1, .int x1), (2, .int x2), (3, .int x3), (4, .int x4)]) [0, 1, 2, 3, 4] rfl ?_
          exact t_X5_breaksAtEnd_1_47 C hQ hK5 h
        · have h := h.2 c8
          refine g_iinc (lv' := [(3, .int (x3 + 1)), (0, .ref (a 1)), (1, .int x1), (2, .int x2), (4, .int x4)]) C 3 dX5_breaksAtEnd_44 rfl rfl (by decide) rfl ?_
          refine g_sub (lv' := [(0, .ref (a 1)), (1, .int x1), (2, .int x2), (3, .int (x3 + 1)), (4, .int x4)]) [1, 2, 3, 0, 4] rfl ?_
          exact t_X5_breaksAtEnd_1_47 C hQ hK5 h
set_option maxHeartbeats 4000000 in
theorem c_X5_breaksAtEnd_1 (l : Launch) (D : va_G) (a : Nat → Nat) (cI : ClassId) {f : Sg} {x1 : Int32} {x2 : Int32} {Q : Int32 → Sg → Prop} (h : M_X5_breaksAtEnd_1 f x1 x2 Q) : MI l D [(cI, .int)] (cw a cI) yX5_breaksAtEnd cX5_breaksAtEnd 5 (some .int) (1) [.ref (a 1), .int x1, .int x2] f Q := by
  refine mkI (cw_fix a cI) (by decide +kernel) (Nat.le_of_ble_eq_true rfl) (fun o C hQ => ?_)
  show Go o D (cw a cI) 0 [(0, .ref (a 1)), (1, .int x1), (2, .int x2)] [] f
  unfold M_X5_breaksAtEnd_1 at h
  refine g_iconst C 0 dX5_breaksAtEnd_0 (by decide) ?_
  refine g_istore_n (lv' := [(3, .int 0), (0, .ref (a 1)), (1, .int x1), (2, .int x2)]) C dX5_breaksAtEnd_1 (by decide) rfl ?_
  refine g_iconst C 0 dX5_breaksAtEnd_2 (by decide) ?_
  refine g_istore (lv' := [(4, .int 0), (3, .int 0), (0, .ref (a 1)), (1, .int x1), (2, .int x2)]) C dX5_breaksAtEnd_3 (by decide) rfl ?_
  refine g_sub (lv' := [(0, .ref (a 1)), (1, .int x1), (2, .int x2), (3, .int 0), (4, .int 0)]) [2, 3, 4, 1, 0] rfl ?_
  obtain ⟨n, h⟩ := h
  exact t_X5_breaksAtEnd_1_5 C hQ n f x1 x2 0 0 h
/-! X6_ruleClass_9: rank 2 -/
def J_X6_ruleClass_9_97 (Q : Int32 → Sg → Prop) (K7 : Sg → Int32 → Int32 → Int32 → Prop) (f : Sg) (x1 : Int32) (x2 : Int32) (x3 : Int32) : Prop :=
  K7 f x1 x2 (x3 + 1)
def J_X6_ruleClass_9_92 (Q : Int32 → Sg → Prop) (K7 : Sg → Int32 → Int32 → Int32 → Prop) (f : Sg) (x3 : Int32) (x6 : Int32) : Prop :=
  J_X6_ruleClass_9_97 Q K7 f x3 x6 x3
def B_X6_ruleClass_9_7 (Q : Int32 → Sg → Prop) (K7 : Sg → Int32 → Int32 → Int32 → Prop) (f : Sg) (x1 : Int32) (x2 : Int32) (x3 : Int32) : Prop :=
  (5 ≤ x3 → Q x1 f) ∧ (¬ 5 ≤ x3 → vp_in x3 5 ∧ ((f 13 (x3 : Int32).toNatClampNeg) ≤ 0 → J_X6_ruleClass_9_97 Q K7 f x1 x2 x3) ∧ (¬ (f 13 (x3 : Int32).toNatClampNeg) ≤ 0 → M_X6_trailWith_9 f x3 (fun r5 g4 => M_X5_breaksAtEnd_1 g4 r5 ((g4 9 5) + 1) (fun r7 g6 => vp_in x3 5 ∧ M_J6_bitCount_0f7a4 g6 (g6 5 (x3 : Int32).toNatClampNeg) (fun r10 g9 => ∀ z11 : Int32, z11 = (4 : Int32) - r10 → vp_in x3 5 ∧ ∀ z13 : Int32, z13 = ((((100 : Int32) * r7) + ((10 : Int32) * z11)) + 9) - (g9 13 (x3 : Int32).toNatClampNeg) → (x1 = (-6) → J_X6_ruleClass_9_92 Q K7 g9 x3 z13) ∧ (¬ x1 = (-6) → (x2 ≤ z13 → J_X6_ruleClass_9_97 Q K7 g9 x1 x2 x3) ∧ (¬ x2 ≤ z13 → J_X6_ruleClass_9_92 Q K7 g9 x3 z13)))))))
def M_X6_ruleClass_9 (f : Sg) (Q : Int32 → Sg → Prop) : Prop :=
  ∃ n : Nat, itr3 (B_X6_ruleClass_9_7 Q) n f (-6) 0 0
set_option maxHeartbeats 4000000 in
theorem t_X6_ruleClass_9_97 {o : Om} {D : va_G} {a : Nat → Nat} {cI : ClassId} {Q : Int32 → Sg → Prop} {K7 : Sg → Int32 → Int32 → Int32 → Prop} (C : Cx o D [(cI, .int)] (cw a cI) RX6 cX6_ruleClass (some .int) 2 7) (hQ : RetI o D (cw a cI) Q) (hK7 : ∀ (g : Sg) (x1 : Int32) (x2 : Int32) (x3 : Int32), K7 g x1 x2 x3 → Go o D (cw a cI) 7 [(0, .ref (a 9)), (1, .int x1), (2, .int x2), (3, .int x3)] [] g) {f : Sg} {x1 : Int32} {x2 : Int32} {x3 : Int32} (h : J_X6_ruleClass_9_97 Q K7 f x1 x2 x3) : Go o D (cw a cI) 97 [(0, .ref (a 9)), (1, .int x1), (2, .int x2), (3, .int x3)] [] f := by
  unfold J_X6_ruleClass_9_97 at h
  refine g_iinc (lv' := [(3, .int (x3 + 1)), (0, .ref (a 9)), (1, .int x1), (2, .int x2)]) C 3 dX6_ruleClass_97 rfl rfl (by decide) rfl ?_
  refine g_goto C 7 dX6_ruleClass_100 (by decide) ?_
  refine g_sub (lv' := [(0, .ref (a 9)), (1, .int x1), (2, .int x2), (3, .int (x3 + 1))]) [1, 2, 3, 0] rfl ?_
  exact hK7 f x1 x2 (x3 + 1) h
set_option maxHeartbeats 4000000 in
theorem t_X6_ruleClass_9_92 {o : Om} {D : va_G} {a : Nat → Nat} {cI : ClassId} {Q : Int32 → Sg → Prop} {K7 : Sg → Int32 → Int32 → Int32 → Prop} (C : Cx o D [(cI, .int)] (cw a cI) RX6 cX6_ruleClass (some .int) 2 7) (hQ : RetI o D (cw a cI) Q) (hK7 : ∀ (g : Sg) (x1 : Int32) (x2 : Int32) (x3 : Int32), K7 g x1 x2 x3 → Go o D (cw a cI) 7 [(0, .ref (a 9)), (1, .int x1), (2, .int x2), (3, .int x3)] [] g) {f : Sg} {x3 : Int32} {x6 : Int32} (h : J_X6_ruleClass_9_92 Q K7 f x3 x6) : Go o D (cw a cI) 92 [(0, .ref (a 9)), (3, .int x3), (6, .int x6)] [] f := by
  unfold J_X6_ruleClass_9_92 at h
  refine g_iload_n C 1 dX6_ruleClass_92 rfl ?_
  refine g_istore_n (lv' := [(1, .int x3), (0, .ref (a 9)), (3, .int x3), (6, .int x6)]) C dX6_ruleClass_93 (by decide) rfl ?_
  refine g_iload C 3 dX6_ruleClass_94 rfl ?_
  refine g_istore_n (lv' := [(2, .int x6), (1, .int x3), (0, .ref (a 9)), (3, .int x3), (6, .int x6)]) C dX6_ruleClass_96 (by decide) rfl ?_
  refine g_sub (lv' := [(0, .ref (a 9)), (1, .int x3), (2, .int x6), (3, .int x3)]) [2, 1, 0, 3] rfl ?_
  exact t_X6_ruleClass_9_97 C hQ hK7 h
set_option maxHeartbeats 4000000 in
theorem t_X6_ruleClass_9_7 {o : Om} {D : va_G} {a : Nat → Nat} {cI : ClassId} {Q : Int32 → Sg → Prop} (C : Cx o D [(cI, .int)] (cw a cI) RX6 cX6_ruleClass (some .int) 2 7) (hQ : RetI o D (cw a cI) Q) : ∀ (n : Nat) (f : Sg) (x1 : Int32) (x2 : Int32) (x3 : Int32), itr3 (B_X6_ruleClass_9_7 Q) n f x1 x2 x3 → Go o D (cw a cI) 7 [(0, .ref (a 9)), (1, .int x1), (2, .int x2), (3, .int x3)] [] f := by
  intro n
  induction n with
  | zero => intro f x1 x2 x3 h; exact h.elim
  | succ n ih =>
    intro f x1 x2 x3 h
    have h : B_X6_ruleClass_9_7 Q (itr3 (B_X6_ruleClass_9_7 Q) n) f x1 x2 x3 := h
    have hK7 := ih
    generalize itr3 (B_X6_ruleClass_9_7 Q) n = K7 at h hK7
    clear ih
    unfold B_X6_ruleClass_9_7 at h
    refine g_iload_n C 3 dX6_ruleClass_7 rfl ?_
    refine g_iconst C 5 dX6_ruleClass_8 (by decide) ?_
    refine g_icmp_ge C 103 dX6_ruleClass_9 (by decide) (fun c1 => ?_) (fun c1 => ?_)
    · have h := h.1 c1
      refine g_iload_n C 1 dX6_ruleClass_103 rfl ?_
      exact g_iret C hQ dX6_ruleClass_104 h
    · have h := h.2 c1
      refine g_aload_n C 0 dX6_ruleClass_12 rfl ?_
      refine gf_RX6_21_X6 C ce_9 rfl dX6_ruleClass_13 ?_
      refine g_iload_n C 3 dX6_ruleClass_16 rfl ?_
      obtain ⟨hi2, h⟩ := h
      refine g_iald C 0 ce_13 rfl hi2 dX6_ruleClass_17 ?_
      refine g_if_le C 97 dX6_ruleClass_18 (by decide) (fun c3 => ?_) (fun c3 => ?_)
      · have h := h.1 c3
        refine g_sub (lv' := [(0, .ref (a 9)), (1, .int x1), (2, .int x2), (3, .int x3)]) [0, 1, 2, 3] rfl ?_
        exact t_X6_ruleClass_9_97 C hQ hK7 h
      · have h := h.2 c3
        refine g_aload_n C 0 dX6_ruleClass_21 rfl ?_
        refine gf_RX6_28_X6 C ce_9 rfl dX6_ruleClass_22 ?_
        refine g_aload_n C 0 dX6_ruleClass_25 rfl ?_
        refine g_iload_n C 3 dX6_ruleClass_26 rfl ?_
        refine g_callVi C (As := [.int x3]) (st := [.ref (a 1)]) (fun l => c_X6_trailWith_9 l D a cI h) cl_RX6_47_X6 rfl ce_9 (by omega) rfl (Nat.le_of_ble_eq_true rfl) dX6_ruleClass_27 (fun r5 g4 h => ?_)
        refine g_aload_n C 0 dX6_ruleClass_30 rfl ?_
        refine gf_RX6_24_X6 C ce_9 rfl dX6_ruleClass_31 ?_
        refine g_iconst C 1 dX6_ruleClass_34 (by decide) ?_
        refine g_iadd C dX6_ruleClass_35 ?_
        refine g_callVi C (As := [.int r5, .int ((g4 9 5) + 1)]) (st := []) (fun l => c_X5_breaksAtEnd_1 l D a cI h) cl_RX6_51_X5 rfl ce_1 (by omega) rfl (Nat.le_of_ble_eq_true rfl) dX6_ruleClass_36 (fun r7 g6 h => ?_)
        refine g_istore (lv' := [(4, .int r7), (0, .ref (a 9)), (1, .int x1), (2, .int x2), (3, .int x3)]) C dX6_ruleClass_39 (by decide) rfl ?_
        refine g_iconst C 4 dX6_ruleClass_41 (by decide) ?_
        refine g_aload_n C 1 dX6_ruleClass_42 rfl ?_
        refine gf_RX6_28_X6 C ce_9 rfl dX6_ruleClass_43 ?_
        refine gf_RX6_66_X5 C ce_1 rfl dX6_ruleClass_46 ?_
        refine g_iload_n C 4 dX6_ruleClass_49 rfl ?_
        obtain ⟨hi8, h⟩ := h
        refine g_iald C 0 ce_5 rfl hi8 dX6_ruleClass_50 ?_
        refine g_callSi C (As := [.int (g6 5 (x3 : Int32).toNatClampNeg)]) (st := [.int 4]) (fun l => c_J6_bitCount_0f7a4 l D a cI h) cl_RX6_69 (by omega) rfl (Nat.le_of_ble_eq_true rfl) dX6_ruleClass_51 (fun r10 g9 h => ?_)
        refine g_isub C dX6_ruleClass_54 ?_
        refine g_top (fun z11 ez11 => ?_)
        have h := h z11 ez11
        refine g_istore (lv' := [(5, .int z11), (4, .int r7), (0, .ref (a 9)), (1, .int x1), (2, .int x2), (3, .int x3)]) C dX6_ruleClass_55 (by decide) rfl ?_
        refine g_bipush C 100 dX6_ruleClass_57 (by decide) ?_
        refine g_iload C 1 dX6_ruleClass_59 rfl ?_
        refine g_imul C dX6_ruleClass_61 ?_
        refine g_bipush C 10 dX6_ruleClass_62 (by decide) ?_
        refine g_iload C 0 dX6_ruleClass_64 rfl ?_
        refine g_imul C dX6_ruleClass_66 ?_
        refine g_iadd C dX6_ruleClass_67 ?_
        refine g_bipush C 9 dX6_ruleClass_68 (by decide) ?_
        refine g_iadd C dX6_ruleClass_70 ?_
        refine g_aload_n C 2 dX6_ruleClass_71 rfl ?_
        refine gf_RX6_21_X6 C ce_9 rfl dX6_ruleClass_72 ?_
        refine g_iload_n C 5 dX6_ruleClass_75 rfl ?_
        obtain ⟨hi12, h⟩ := h
        refine g_iald C 0 ce_13 rfl hi12 dX6_ruleClass_76 ?_
        refine g_isub C dX6_ruleClass_77 ?_
        refine g_top (fun z13 ez13 => ?_)
        have h := h z13 ez13
        refine g_istore (lv' := [(6, .int z13), (5, .int z11), (4, .int r7), (0, .ref (a 9)), (1, .int x1), (2, .int x2), (3, .int x3)]) C dX6_ruleClass_78 (by decide) rfl ?_
        refine g_iload_n C 4 dX6_ruleClass_80 rfl ?_
        refine g_bipush C (-6) dX6_ruleClass_81 (by decide) ?_
        refine g_icmp_eq C 92 dX6_ruleClass_83 (by decide) (fun c14 => ?_) (fun c14 => ?_)
        · have h := h.1 c14
          refine g_sub (lv' := [(0, .ref (a 9)), (3, .int x3), (6, .int z13)]) [3, 6, 0] rfl ?_
          exact t_X6_ruleClass_9_92 C hQ hK7 h
        · have h := h.2 c14
          refine g_iload C 0 dX6_ruleClass_86 rfl ?_
          refine g_iload_n C 5 dX6_ruleClass_88 rfl ?_
          refine g_icmp_ge C 97 dX6_ruleClass_89 (by decide) (fun c15 => ?_) (fun c15 => ?_)
          · have h := h.1 c15
            refine g_sub (lv' := [(0, .ref (a 9)), (1, .int x1), (2, .int x2), (3, .int x3)]) [3, 4, 5, 6] rfl ?_
            exact t_X6_ruleClass_9_97 C hQ hK7 h
          · have h := h.2 c15
            refine g_sub (lv' := [(0, .ref (a 9)), (3, .int x3), (6, .int z13)]) [3, 6, 0] rfl ?_
            exact t_X6_ruleClass_9_92 C hQ hK7 h
set_option maxHeartbeats 4000000 in
theorem c_X6_ruleClass_9 (l : Launch) (D : va_G) (a : Nat → Nat) (cI : ClassId) {f : Sg} {Q : Int32 → Sg → Prop} (h : M_X6_ruleClass_9 f Q) : MI l D [(cI, .int)] (cw a cI) yX6_ruleClass cX6_ruleClass 7 (some .int) (2) [.ref (a 9)] f Q := by
  refine mkI (cw_fix a cI) (by decide +kernel) (Nat.le_of_ble_eq_true rfl) (fun o C hQ => ?_)
  show Go o D (cw a cI) 0 [(0, .ref (a 9))] [] f
  unfold M_X6_ruleClass_9 at h
  refine g_bipush C (-6) dX6_ruleClass_0 (by decide) ?_
  refine g_istore_n (lv' := [(1, .int (-6)), (0, .ref (a 9))]) C dX6_ruleClass_2 (by decide) rfl ?_
  refine g_iconst C 0 dX6_ruleClass_3 (by decide) ?_
  refine g_istore_n (lv' := [(2, .int 0), (1, .int (-6)), (0, .ref (a 9))]) C dX6_ruleClass_4 (by decide) rfl ?_
  refine g_iconst C 0 dX6_ruleClass_5 (by decide) ?_
  refine g_istore_n (lv' := [(3, .int 0), (2, .int 0), (1, .int (-6)), (0, .ref (a 9))]) C dX6_ruleClass_6 (by decide) rfl ?_
  refine g_sub (lv' := [(0, .ref (a 9)), (1, .int (-6)), (2, .int 0), (3, .int 0)]) [3, 2, 1, 0] rfl ?_
  obtain ⟨n, h⟩ := h
  exact t_X6_ruleClass_9_7 C hQ n f (-6) 0 0 h
/-! X2_matters_14: rank 3 -/
def J_X2_matters_14_60 (Q : Int32 → Sg → Prop) (f : Sg) (x1 : Int32) : Prop :=
  M_X6_ruleClass_9 f (fun r6 g5 => vp_in x1 10 ∧ ∀ g8 : Sg, g8 = va_up g5 18 (upd (g5 18) (x1 : Int32).toNatClampNeg r6) → Q 1 g8)
def J_X2_matters_14_43 (Q : Int32 → Sg → Prop) (f : Sg) (x1 : Int32) (s0 : Int32) : Prop :=
  vp_in (x1 - 1) 10 ∧ vp_in x1 10 ∧ ∀ g14 : Sg, g14 = va_up f 19 (upd (f 19) (x1 : Int32).toNatClampNeg ((f 19 (x1 - 1 : Int32).toNatClampNeg) + s0)) → J_X2_matters_14_60 Q g14 x1
def M_X2_matters_14 (f : Sg) (x1 : Int32) (Q : Int32 → Sg → Prop) : Prop :=
  M_X6_breaks_9 f (fun r2 g1 => (r2 ≤ 0 → (x1 ≤ 0 → J_X2_matters_14_60 Q g1 x1) ∧ (¬ x1 ≤ 0 → vp_in (x1 - 1) 9 ∧ vp_in (x1 - 1) 10 ∧ ((g1 10 (x1 - 1 : Int32).toNatClampNeg) = (g1 18 (x1 - 1 : Int32).toNatClampNeg) → J_X2_matters_14_43 Q g1 x1 0) ∧ (¬ (g1 10 (x1 - 1 : Int32).toNatClampNeg) = (g1 18 (x1 - 1 : Int32).toNatClampNeg) → J_X2_matters_14_43 Q g1 x1 1))) ∧ (¬ r2 ≤ 0 → Q 0 g1))
set_option maxHeartbeats 4000000 in
theorem t_X2_matters_14_60 {o : Om} {D : va_G} {a : Nat → Nat} {cI : ClassId} {Q : Int32 → Sg → Prop} (C : Cx o D [(cI, .int)] (cw a cI) RX2 cX2_matters (some .boolean) 3 3) (hQ : RetI o D (cw a cI) Q) {f : Sg} {x1 : Int32} (h : J_X2_matters_14_60 Q f x1) : Go o D (cw a cI) 60 [(0, .ref (a 14)), (1, .int x1)] [] f := by
  unfold J_X2_matters_14_60 at h
  refine g_aload_n C 0 dX2_matters_60 rfl ?_
  refine gf_RX2_21_X2 C ce_14 rfl dX2_matters_61 ?_
  refine g_iload_n C 1 dX2_matters_64 rfl ?_
  refine g_aload_n C 0 dX2_matters_65 rfl ?_
  refine gf_RX2_34_X2 C ce_14 rfl dX2_matters_66 ?_
  refine g_callVi C (As := []) (st := [.int x1, .ref (a 18)]) (fun l => c_X6_ruleClass_9 l D a cI h) cl_RX2_47_X6 rfl ce_9 (by omega) rfl (Nat.le_of_ble_eq_true rfl) dX2_matters_69 (fun r6 g5 h => ?_)
  obtain ⟨hi7, h⟩ := h
  obtain ⟨g8, eg8⟩ : ∃ g : Sg, g = va_up g5 18 (upd (g5 18) (x1 : Int32).toNatClampNeg r6) := ⟨_, rfl⟩
  have h := h g8 eg8
  refine g_iast C 0 ce_18 rfl (g := g8) (by rw [eg8]; exact cs_18) hi7 dX2_matters_72 ?_
  refine g_iconst C 1 dX2_matters_73 (by decide) ?_
  exact g_zret C hQ rfl dX2_matters_74 h
set_option maxHeartbeats 4000000 in
theorem t_X2_matters_14_43 {o : Om} {D : va_G} {a : Nat → Nat} {cI : ClassId} {Q : Int32 → Sg → Prop} (C : Cx o D [(cI, .int)] (cw a cI) RX2 cX2_matters (some .boolean) 3 3) (hQ : RetI o D (cw a cI) Q) {f : Sg} {x1 : Int32} {s0 : Int32} (h : J_X2_matters_14_43 Q f x1 s0) : Go o D (cw a cI) 43 [(0, .ref (a 14)), (1, .int x1)] [.int s0] f := by
  unfold J_X2_matters_14_43 at h
  refine g_istore_n (lv' := [(2, .int s0), (0, .ref (a 14)), (1, .int x1)]) C dX2_matters_43 (by decide) rfl ?_
  refine g_aload_n C 1 dX2_matters_44 rfl ?_
  refine gf_RX2_24_X2 C ce_14 rfl dX2_matters_45 ?_
  refine g_iload_n C 2 dX2_matters_48 rfl ?_
  refine g_aload_n C 1 dX2_matters_49 rfl ?_
  refine gf_RX2_24_X2 C ce_14 rfl dX2_matters_50 ?_
  refine g_iload_n C 2 dX2_matters_53 rfl ?_
  refine g_iconst C 1 dX2_matters_54 (by decide) ?_
  refine g_isub C dX2_matters_55 ?_
  obtain ⟨hi12, h⟩ := h
  refine g_iald C 0 ce_19 rfl hi12 dX2_matters_56 ?_
  refine g_iload_n C 0 dX2_matters_57 rfl ?_
  refine g_iadd C dX2_matters_58 ?_
  obtain ⟨hi13, h⟩ := h
  obtain ⟨g14, eg14⟩ : ∃ g : Sg, g = va_up f 19 (upd (f 19) (x1 : Int32).toNatClampNeg ((f 19 (x1 - 1 : Int32).toNatClampNeg) + s0)) := ⟨_, rfl⟩
  have h := h g14 eg14
  refine g_iast C 0 ce_19 rfl (g := g14) (by rw [eg14]; exact cs_19) hi13 dX2_matters_59 ?_
  refine g_sub (lv' := [(0, .ref (a 14)), (1, .int x1)]) [1, 2] rfl ?_
  exact t_X2_matters_14_60 C hQ h
set_option maxHeartbeats 4000000 in
theorem c_X2_matters_14 (l : Launch) (D : va_G) (a : Nat → Nat) (cI : ClassId) {f : Sg} {x1 : Int32} {Q : Int32 → Sg → Prop} (h : M_X2_matters_14 f x1 Q) : MI l D [(cI, .int)] (cw a cI) yX2_matters cX2_matters 3 (some .boolean) (3) [.ref (a 14), .int x1] f Q := by
  refine mkI (cw_fix a cI) (by decide +kernel) (Nat.le_of_ble_eq_true rfl) (fun o C hQ => ?_)
  show Go o D (cw a cI) 0 [(0, .ref (a 14)), (1, .int x1)] [] f
  unfold M_X2_matters_14 at h
  refine g_aload_n C 0 dX2_matters_0 rfl ?_
  refine gf_RX2_34_X2 C ce_14 rfl dX2_matters_1 ?_
  refine g_callVi C (As := []) (st := []) (fun l => c_X6_breaks_9 l D a cI h) cl_RX2_38_X6 rfl ce_9 (by omega) rfl (Nat.le_of_ble_eq_true rfl) dX2_matters_4 (fun r2 g1 h => ?_)
  refine g_if_le C 12 dX2_matters_7 (by decide) (fun c3 => ?_) (fun c3 => ?_)
  · have h := h.1 c3
    refine g_iload_n C 1 dX2_matters_12 rfl ?_
    refine g_if_le C 60 dX2_matters_13 (by decide) (fun c4 => ?_) (fun c4 => ?_)
    · have h := h.1 c4
      refine g_sub (lv' := [(0, .ref (a 14)), (1, .int x1)]) [0, 1] rfl ?_
      exact t_X2_matters_14_60 C hQ h
    · have h := h.2 c4
      refine g_aload_n C 0 dX2_matters_16 rfl ?_
      refine gf_RX2_34_X2 C ce_14 rfl dX2_matters_17 ?_
      refine gf_RX2_44_X6 C ce_9 rfl dX2_matters_20 ?_
      refine g_iload_n C 1 dX2_matters_23 rfl ?_
      refine g_iconst C 1 dX2_matters_24 (by decide) ?_
      refine g_isub C dX2_matters_25 ?_
      obtain ⟨hi9, h⟩ := h
      refine g_iald C 0 ce_10 rfl hi9 dX2_matters_26 ?_
      refine g_aload_n C 0 dX2_matters_27 rfl ?_
      refine gf_RX2_21_X2 C ce_14 rfl dX2_matters_28 ?_
      refine g_iload_n C 1 dX2_matters_31 rfl ?_
      refine g_iconst C 1 dX2_matters_32 (by decide) ?_
      refine g_isub C dX2_matters_33 ?_
      obtain ⟨hi10, h⟩ := h
      refine g_iald C 0 ce_18 rfl hi10 dX2_matters_34 ?_
      refine g_icmp_ne C 42 dX2_matters_35 (by decide) (fun c11 => ?_) (fun c11 => ?_)
      · have h := h.2 c11
        refine g_iconst C 1 dX2_matters_42 (by decide) ?_
        refine g_sub (lv' := [(0, .ref (a 14)), (1, .int x1)]) [0, 1] rfl ?_
        exact t_X2_matters_14_43 C hQ h
      · have h := h.1 c11
        refine g_iconst C 0 dX2_matters_38 (by decide) ?_
        refine g_goto C 43 dX2_matters_39 (by decide) ?_
        refine g_sub (lv' := [(0, .ref (a 14)), (1, .int x1)]) [0, 1] rfl ?_
        exact t_X2_matters_14_43 C hQ h
  · have h := h.2 c3
    refine g_iconst C 0 dX2_matters_10 (by decide) ?_
    exact g_zret C hQ rfl dX2_matters_11 h
/-! X6_put_9: rank 2 -/
def J_X6_put_9_16 (Q : Sg → Prop) (f : Sg) : Prop :=
  Q f
def M_X6_put_9 (f : Sg) (x1 : Int32) (Q : Sg → Prop) : Prop :=
  M_X9_isClass f x1 (fun r2 g1 => (r2 = 0 → J_X6_put_9_16 Q g1) ∧ (¬ r2 = 0 → ((g1 9 5) < 9 → M_X6_trailWith_9 g1 x1 (fun r6 g5 => vp_in (g5 9 5) 10 ∧ ∀ z8 : Int32, z8 = g5 12 (g5 9 5 : Int32).toNatClampNeg → vp_in (g5 9 5) 9 ∧ ∀ g10 : Sg, g10 = va_up g5 10 (upd (g5 10) (g5 9 5 : Int32).toNatClampNeg x1) → vp_in x1 5 ∧ vp_in x1 5 ∧ ∀ g13 : Sg, g13 = va_up g10 13 (upd (g10 13) (x1 : Int32).toNatClampNeg ((g10 13 (x1 : Int32).toNatClampNeg) - 1)) → ∀ g14 : Sg, g14 = va_up g13 9 (upd (g13 9) 5 ((g13 9 5) + 1)) → vp_in (g14 9 5) 10 ∧ ∀ g16 : Sg, g16 = va_up g14 11 (upd (g14 11) (g14 9 5 : Int32).toNatClampNeg r6) → M_X5_breaksAtEnd_1 g16 r6 (g16 9 5) (fun r18 g17 => vp_in (g16 9 5) 10 ∧ ∀ g20 : Sg, g20 = va_up g17 12 (upd (g17 12) (g16 9 5 : Int32).toNatClampNeg (z8 + r18)) → Q g20))) ∧ (¬ (g1 9 5) < 9 → J_X6_put_9_16 Q g1)))
set_option maxHeartbeats 4000000 in
theorem t_X6_put_9_16 {o : Om} {D : va_G} {a : Nat → Nat} {cI : ClassId} {Q : Sg → Prop} (C : Cx o D [(cI, .int)] (cw a cI) RX6 cX6_put none 2 4) (hQ : RetV o D (cw a cI) Q) {f : Sg} (h : J_X6_put_9_16 Q f) : Go o D (cw a cI) 16 [] [] f := by
  unfold J_X6_put_9_16 at h
  exact g_vret C hQ dX6_put_16 h
set_option maxHeartbeats 4000000 in
theorem c_X6_put_9 (l : Launch) (D : va_G) (a : Nat → Nat) (cI : ClassId) {f : Sg} {x1 : Int32} {Q : Sg → Prop} (h : M_X6_put_9 f x1 Q) : MV l D [(cI, .int)] (cw a cI) yX6_put cX6_put 4 (2) [.ref (a 9), .int x1] f Q := by
  refine mkV (cw_fix a cI) (by decide +kernel) (Nat.le_of_ble_eq_true rfl) (fun o C hQ => ?_)
  show Go o D (cw a cI) 0 [(0, .ref (a 9)), (1, .int x1)] [] f
  unfold M_X6_put_9 at h
  refine g_iload_n C 1 dX6_put_0 rfl ?_
  refine g_callNi C (As := [.int x1]) (st := []) (fun l => c_X9_isClass l D a cI h) cl_RX6_43 (by omega) rfl (Nat.le_of_ble_eq_true rfl) dX6_put_1 (fun r2 g1 h => ?_)
  refine g_if_eq C 16 dX6_put_4 (by decide) (fun c3 => ?_) (fun c3 => ?_)
  · have h := h.1 c3
    refine g_sub (lv' := []) [] rfl ?_
    exact t_X6_put_9_16 C hQ h
  · have h := h.2 c3
    refine g_aload_n C 0 dX6_put_7 rfl ?_
    refine gf_RX6_24_X6 C ce_9 rfl dX6_put_8 ?_
    refine g_bipush C 9 dX6_put_11 (by decide) ?_
    refine g_icmp_lt C 17 dX6_put_13 (by decide) (fun c4 => ?_) (fun c4 => ?_)
    · have h := h.1 c4
      refine g_aload_n C 0 dX6_put_17 rfl ?_
      refine g_iload_n C 1 dX6_put_18 rfl ?_
      refine g_callVi C (As := [.int x1]) (st := []) (fun l => c_X6_trailWith_9 l D a cI h) cl_RX6_47_X6 rfl ce_9 (by omega) rfl (Nat.le_of_ble_eq_true rfl) dX6_put_19 (fun r6 g5 h => ?_)
      refine g_istore_n (lv' := [(2, .int r6), (0, .ref (a 9)), (1, .int x1)]) C dX6_put_22 (by decide) rfl ?_
      refine g_aload_n C 1 dX6_put_23 rfl ?_
      refine gf_RX6_18_X6 C ce_9 rfl dX6_put_24 ?_
      refine g_aload_n C 1 dX6_put_27 rfl ?_
      refine gf_RX6_24_X6 C ce_9 rfl dX6_put_28 ?_
      obtain ⟨hi7, h⟩ := h
      refine g_iald C 0 ce_12 rfl hi7 dX6_put_31 ?_
      refine g_top (fun z8 ez8 => ?_)
      have h := h z8 ez8
      refine g_istore_n (lv' := [(3, .int z8), (2, .int r6), (0, .ref (a 9)), (1, .int x1)]) C dX6_put_32 (by decide) rfl ?_
      refine g_aload_n C 2 dX6_put_33 rfl ?_
      refine gf_RX6_9_X6 C ce_9 rfl dX6_put_34 ?_
      refine g_aload_n C 2 dX6_put_37 rfl ?_
      refine gf_RX6_24_X6 C ce_9 rfl dX6_put_38 ?_
      refine g_iload_n C 3 dX6_put_41 rfl ?_
      obtain ⟨hi9, h⟩ := h
      obtain ⟨g10, eg10⟩ : ∃ g : Sg, g = va_up g5 10 (upd (g5 10) (g5 9 5 : Int32).toNatClampNeg x1) := ⟨_, rfl⟩
      have h := h g10 eg10
      refine g_iast C 0 ce_10 rfl (g := g10) (by rw [eg10]; exact cs_10) hi9 dX6_put_42 ?_
      refine g_aload_n C 2 dX6_put_43 rfl ?_
      refine gf_RX6_21_X6 C ce_9 rfl dX6_put_44 ?_
      refine g_iload_n C 3 dX6_put_47 rfl ?_
      refine g_dup2 C dX6_put_48 rfl rfl ?_
      obtain ⟨hi11, h⟩ := h
      refine g_iald C 0 ce_13 rfl hi11 dX6_put_49 ?_
      refine g_iconst C 1 dX6_put_50 (by decide) ?_
      refine g_isub C dX6_put_51 ?_
      obtain ⟨hi12, h⟩ := h
      obtain ⟨g13, eg13⟩ : ∃ g : Sg, g = va_up g10 13 (upd (g10 13) (x1 : Int32).toNatClampNeg ((g10 13 (x1 : Int32).toNatClampNeg) - 1)) := ⟨_, rfl⟩
      have h := h g13 eg13
      refine g_iast C 0 ce_13 rfl (g := g13) (by rw [eg13]; exact cs_13) hi12 dX6_put_52 ?_
      refine g_aload_n C 2 dX6_put_53 rfl ?_
      refine g_dup C dX6_put_54 rfl ?_
      refine gf_RX6_24_X6 C ce_9 rfl dX6_put_55 ?_
      refine g_iconst C 1 dX6_put_58 (by decide) ?_
      refine g_iadd C dX6_put_59 ?_
      obtain ⟨g14, eg14⟩ : ∃ g : Sg, g = va_up g13 9 (upd (g13 9) 5 ((g13 9 5) + 1)) := ⟨_, rfl⟩
      have h := h g14 eg14
      refine gp_RX6_24_X6 C rfl rfl ce_9 (Nat.le_of_ble_eq_true rfl) (g := g14) (by rw [eg14]; exact cs_9_5) dX6_put_60 ?_
      refine g_aload_n C 2 dX6_put_63 rfl ?_
      refine gf_RX6_15_X6 C ce_9 rfl dX6_put_64 ?_
      refine g_aload_n C 2 dX6_put_67 rfl ?_
      refine gf_RX6_24_X6 C ce_9 rfl dX6_put_68 ?_
      refine g_iload_n C 1 dX6_put_71 rfl ?_
      obtain ⟨hi15, h⟩ := h
      obtain ⟨g16, eg16⟩ : ∃ g : Sg, g = va_up g14 11 (upd (g14 11) (g14 9 5 : Int32).toNatClampNeg r6) := ⟨_, rfl⟩
      have h := h g16 eg16
      refine g_iast C 0 ce_11 rfl (g := g16) (by rw [eg16]; exact cs_11) hi15 dX6_put_72 ?_
      refine g_aload_n C 2 dX6_put_73 rfl ?_
      refine gf_RX6_18_X6 C ce_9 rfl dX6_put_74 ?_
      refine g_aload_n C 2 dX6_put_77 rfl ?_
      refine gf_RX6_24_X6 C ce_9 rfl dX6_put_78 ?_
      refine g_iload_n C 0 dX6_put_81 rfl ?_
      refine g_aload_n C 2 dX6_put_82 rfl ?_
      refine gf_RX6_28_X6 C ce_9 rfl dX6_put_83 ?_
      refine g_iload_n C 1 dX6_put_86 rfl ?_
      refine g_aload_n C 2 dX6_put_87 rfl ?_
      refine gf_RX6_24_X6 C ce_9 rfl dX6_put_88 ?_
      refine g_callVi C (As := [.int r6, .int (g16 9 5)]) (st := [.int z8, .int (g16 9 5), .ref (a 12)]) (fun l => c_X5_breaksAtEnd_1 l D a cI h) cl_RX6_51_X5 rfl ce_1 (by omega) rfl (Nat.le_of_ble_eq_true rfl) dX6_put_91 (fun r18 g17 h => ?_)
      refine g_iadd C dX6_put_94 ?_
      obtain ⟨hi19, h⟩ := h
      obtain ⟨g20, eg20⟩ : ∃ g : Sg, g = va_up g17 12 (upd (g17 12) (g16 9 5 : Int32).toNatClampNeg (z8 + r18)) := ⟨_, rfl⟩
      have h := h g20 eg20
      refine g_iast C 0 ce_12 rfl (g := g20) (by rw [eg20]; exact cs_12) hi19 dX6_put_95 ?_
      exact g_vret C hQ dX6_put_96 h
    · have h := h.2 c4
      refine g_sub (lv' := []) [] rfl ?_
      exact t_X6_put_9_16 C hQ h
/-! X6_drop_9: rank 0 -/
def J_X6_drop_9_35 (Q : Sg → Prop) (f : Sg) : Prop :=
  Q f
def M_X6_drop_9 (f : Sg) (Q : Sg → Prop) : Prop :=
  ((f 9 5) ≤ 0 → J_X6_drop_9_35 Q f) ∧ (¬ (f 9 5) ≤ 0 → ∀ g2 : Sg, g2 = va_up f 9 (upd (f 9) 5 ((f 9 5) - 1)) → vp_in (g2 9 5) 9 ∧ vp_in (g2 10 (g2 9 5 : Int32).toNatClampNeg) 5 ∧ vp_in (g2 10 (g2 9 5 : Int32).toNatClampNeg) 5 ∧ ∀ g6 : Sg, g6 = va_up g2 13 (upd (g2 13) (g2 10 (g2 9 5 : Int32).toNatClampNeg : Int32).toNatClampNeg ((g2 13 (g2 10 (g2 9 5 : Int32).toNatClampNeg : Int32).toNatClampNeg) + 1)) → J_X6_drop_9_35 Q g6)
set_option maxHeartbeats 4000000 in
theorem t_X6_drop_9_35 {o : Om} {D : va_G} {a : Nat → Nat} {cI : ClassId} {Q : Sg → Prop} (C : Cx o D [(cI, .int)] (cw a cI) RX6 cX6_drop none 0 1) (hQ : RetV o D (cw a cI) Q) {f : Sg} (h : J_X6_drop_9_35 Q f) : Go o D (cw a cI) 35 [] [] f := by
  unfold J_X6_drop_9_35 at h
  exact g_vret C hQ dX6_drop_35 h
set_option maxHeartbeats 4000000 in
theorem c_X6_drop_9 (l : Launch) (D : va_G) (a : Nat → Nat) (cI : ClassId) {f : Sg} {Q : Sg → Prop} (h : M_X6_drop_9 f Q) : MV l D [(cI, .int)] (cw a cI) yX6_drop cX6_drop 1 (0) [.ref (a 9)] f Q := by
  refine mkV (cw_fix a cI) (by decide +kernel) (Nat.le_of_ble_eq_true rfl) (fun o C hQ => ?_)
  show Go o D (cw a cI) 0 [(0, .ref (a 9))] [] f
  unfold M_X6_drop_9 at h
  refine g_aload_n C 0 dX6_drop_0 rfl ?_
  refine gf_RX6_24_X6 C ce_9 rfl dX6_drop_1 ?_
  refine g_if_le C 35 dX6_drop_4 (by decide) (fun c1 => ?_) (fun c1 => ?_)
  · have h := h.1 c1
    refine g_sub (lv' := []) [] rfl ?_
    exact t_X6_drop_9_35 C hQ h
  · have h := h.2 c1
    refine g_aload_n C 0 dX6_drop_7 rfl ?_
    refine g_dup C dX6_drop_8 rfl ?_
    refine gf_RX6_24_X6 C ce_9 rfl dX6_drop_9 ?_
    refine g_iconst C 1 dX6_drop_12 (by decide) ?_
    refine g_isub C dX6_drop_13 ?_
    obtain ⟨g2, eg2⟩ : ∃ g : Sg, g = va_up f 9 (upd (f 9) 5 ((f 9 5) - 1)) := ⟨_, rfl⟩
    have h := h g2 eg2
    refine gp_RX6_24_X6 C rfl rfl ce_9 (Nat.le_of_ble_eq_true rfl) (g := g2) (by rw [eg2]; exact cs_9_5) dX6_drop_14 ?_
    refine g_aload_n C 0 dX6_drop_17 rfl ?_
    refine gf_RX6_21_X6 C ce_9 rfl dX6_drop_18 ?_
    refine g_aload_n C 0 dX6_drop_21 rfl ?_
    refine gf_RX6_9_X6 C ce_9 rfl dX6_drop_22 ?_
    refine g_aload_n C 0 dX6_drop_25 rfl ?_
    refine gf_RX6_24_X6 C ce_9 rfl dX6_drop_26 ?_
    obtain ⟨hi3, h⟩ := h
    refine g_iald C 0 ce_10 rfl hi3 dX6_drop_29 ?_
    refine g_dup2 C dX6_drop_30 rfl rfl ?_
    obtain ⟨hi4, h⟩ := h
    refine g_iald C 0 ce_13 rfl hi4 dX6_drop_31 ?_
    refine g_iconst C 1 dX6_drop_32 (by decide) ?_
    refine g_iadd C dX6_drop_33 ?_
    obtain ⟨hi5, h⟩ := h
    obtain ⟨g6, eg6⟩ : ∃ g : Sg, g = va_up g2 13 (upd (g2 13) (g2 10 (g2 9 5 : Int32).toNatClampNeg : Int32).toNatClampNeg ((g2 13 (g2 10 (g2 9 5 : Int32).toNatClampNeg : Int32).toNatClampNeg) + 1)) := ⟨_, rfl⟩
    have h := h g6 eg6
    refine g_iast C 0 ce_13 rfl (g := g6) (by rw [eg6]; exact cs_13) hi5 dX6_drop_34 ?_
    refine g_sub (lv' := []) [] rfl ?_
    exact t_X6_drop_9_35 C hQ h
/-! X8_keepRow_14_16: rank 1 -/
def M_X8_keepRow_14_16 (f : Sg) (Q : Sg → Prop) : Prop :=
  ∀ g1 : Sg, g1 = va_up f 16 (va_cpy (f 10) (f 16) (0 : Int32).toNatClampNeg (0 : Int32).toNatClampNeg (9 : Int32).toNatClampNeg) → Q g1
set_option maxHeartbeats 4000000 in
theorem c_X8_keepRow_14_16 (l : Launch) (D : va_G) (a : Nat → Nat) (cI : ClassId) {f : Sg} {Q : Sg → Prop} (h : M_X8_keepRow_14_16 f Q) : MV l D [(cI, .int)] (cw a cI) yX8_keepRow cX8_keepRow 2 (1) [.ref (a 14), .ref (a 16)] f Q := by
  refine mkV (cw_fix a cI) (by decide +kernel) (Nat.le_of_ble_eq_true rfl) (fun o C hQ => ?_)
  show Go o D (cw a cI) 0 [(0, .ref (a 14)), (1, .ref (a 16))] [] f
  unfold M_X8_keepRow_14_16 at h
  refine g_aload_n C 0 dX8_keepRow_0 rfl ?_
  refine gf_RX8_23_X2 C ce_14 rfl dX8_keepRow_1 ?_
  refine gf_RX8_61_X6 C ce_9 rfl dX8_keepRow_4 ?_
  refine g_iconst C 0 dX8_keepRow_7 (by decide) ?_
  refine g_aload_n C 1 dX8_keepRow_8 rfl ?_
  refine g_iconst C 0 dX8_keepRow_9 (by decide) ?_
  refine g_bipush C 9 dX8_keepRow_10 (by decide) ?_
  obtain ⟨g1, eg1⟩ : ∃ g : Sg, g = va_up f 16 (va_cpy (f 10) (f 16) (0 : Int32).toNatClampNeg (0 : Int32).toNatClampNeg (9 : Int32).toNatClampNeg) := ⟨_, rfl⟩
  have h := h g1 eg1
  refine g_copy C (by omega) tb_461 tb_371 tb_370 tb_13 0 ce_10 ce_16 rfl (by decide) (by decide) (by decide) (by decide) (by decide) (Nat.le_of_ble_eq_true rfl) (g := g1) (by rw [eg1]; exact cs_16) dX8_keepRow_12 ?_
  exact g_vret C hQ dX8_keepRow_15 h
/-! X8_keepRow_14_15: rank 1 -/
def M_X8_keepRow_14_15 (f : Sg) (Q : Sg → Prop) : Prop :=
  ∀ g1 : Sg, g1 = va_up f 15 (va_cpy (f 10) (f 15) (0 : Int32).toNatClampNeg (0 : Int32).toNatClampNeg (9 : Int32).toNatClampNeg) → Q g1
set_option maxHeartbeats 4000000 in
theorem c_X8_keepRow_14_15 (l : Launch) (D : va_G) (a : Nat → Nat) (cI : ClassId) {f : Sg} {Q : Sg → Prop} (h : M_X8_keepRow_14_15 f Q) : MV l D [(cI, .int)] (cw a cI) yX8_keepRow cX8_keepRow 2 (1) [.ref (a 14), .ref (a 15)] f Q := by
  refine mkV (cw_fix a cI) (by decide +kernel) (Nat.le_of_ble_eq_true rfl) (fun o C hQ => ?_)
  show Go o D (cw a cI) 0 [(0, .ref (a 14)), (1, .ref (a 15))] [] f
  unfold M_X8_keepRow_14_15 at h
  refine g_aload_n C 0 dX8_keepRow_0 rfl ?_
  refine gf_RX8_23_X2 C ce_14 rfl dX8_keepRow_1 ?_
  refine gf_RX8_61_X6 C ce_9 rfl dX8_keepRow_4 ?_
  refine g_iconst C 0 dX8_keepRow_7 (by decide) ?_
  refine g_aload_n C 1 dX8_keepRow_8 rfl ?_
  refine g_iconst C 0 dX8_keepRow_9 (by decide) ?_
  refine g_bipush C 9 dX8_keepRow_10 (by decide) ?_
  obtain ⟨g1, eg1⟩ : ∃ g : Sg, g = va_up f 15 (va_cpy (f 10) (f 15) (0 : Int32).toNatClampNeg (0 : Int32).toNatClampNeg (9 : Int32).toNatClampNeg) := ⟨_, rfl⟩
  have h := h g1 eg1
  refine g_copy C (by omega) tb_461 tb_371 tb_370 tb_13 0 ce_10 ce_15 rfl (by decide) (by decide) (by decide) (by decide) (by decide) (Nat.le_of_ble_eq_true rfl) (g := g1) (by rw [eg1]; exact cs_15) dX8_keepRow_12 ?_
  exact g_vret C hQ dX8_keepRow_15 h
/-! X2_note_14: rank 2 -/
def B_X2_note_14_71 (Q : Sg → Prop) (K71 : Sg → Int32 → Prop) (f : Sg) (x1 : Int32) : Prop :=
  ((f 14 2) ≤ x1 → Q f) ∧ (¬ (f 14 2) ≤ x1 → vp_in x1 9 ∧ vp_in x1 9 ∧ vp_in x1 9 ∧ ∀ g12 : Sg, g12 = va_up f 17 (upd (f 17) (x1 : Int32).toNatClampNeg ((f 17 (x1 : Int32).toNatClampNeg) ||| ((1 : Int32) <<< ((f 10 (x1 : Int32).toNatClampNeg) &&& 31)))) → K71 g12 (x1 + 1))
def J_X2_note_14_59 (Q : Sg → Prop) (f : Sg) : Prop :=
  ∀ g7 : Sg, g7 = va_up f 14 (upd (f 14) 9 ((f 14 9) + 1)) → ∃ n : Nat, itr1 (B_X2_note_14_71 Q) n g7 0
def J_X2_note_14_38 (Q : Sg → Prop) (f : Sg) : Prop :=
  vp_in (f 14 2) 10 ∧ ∀ g4 : Sg, g4 = va_up f 14 (upd (f 14) 10 (f 19 (f 14 2 : Int32).toNatClampNeg)) → M_X8_keepRow_14_16 g4 (fun g5 => J_X2_note_14_59 Q g5)
def J_X2_note_14_15 (Q : Sg → Prop) (f : Sg) : Prop :=
  ((f 14 9) = 0 → J_X2_note_14_38 Q f) ∧ (¬ (f 14 9) = 0 → vp_in (f 14 2) 10 ∧ ((f 14 10) ≤ (f 19 (f 14 2 : Int32).toNatClampNeg) → J_X2_note_14_59 Q f) ∧ (¬ (f 14 10) ≤ (f 19 (f 14 2 : Int32).toNatClampNeg) → J_X2_note_14_38 Q f))
def M_X2_note_14 (f : Sg) (Q : Sg → Prop) : Prop :=
  ((f 14 9) = 0 → M_X8_keepRow_14_15 f (fun g15 => J_X2_note_14_15 Q g15)) ∧ (¬ (f 14 9) = 0 → J_X2_note_14_15 Q f)
set_option maxHeartbeats 4000000 in
theorem t_X2_note_14_71 {o : Om} {D : va_G} {a : Nat → Nat} {cI : ClassId} {Q : Sg → Prop} (C : Cx o D [(cI, .int)] (cw a cI) RX2 cX2_note none 2 2) (hQ : RetV o D (cw a cI) Q) : ∀ (n : Nat) (f : Sg) (x1 : Int32), itr1 (B_X2_note_14_71 Q) n f x1 → Go o D (cw a cI) 71 [(0, .ref (a 14)), (1, .int x1)] [] f := by
  intro n
  induction n with
  | zero => intro f x1 h; exact h.elim
  | succ n ih =>
    intro f x1 h
    have h : B_X2_note_14_71 Q (itr1 (B_X2_note_14_71 Q) n) f x1 := h
    have hK71 := ih
    generalize itr1 (B_X2_note_14_71 Q) n = K71 at h hK71
    clear ih
    unfold B_X2_note_14_71 at h
    refine g_iload_n C 1 dX2_note_71 rfl ?_
    refine g_aload_n C 0 dX2_note_72 rfl ?_
    refine gf_RX2_54_X2 C ce_14 rfl dX2_note_73 ?_
    refine g_icmp_ge C 105 dX2_note_76 (by decide) (fun c8 => ?_) (fun c8 => ?_)
    · have h := h.1 c8
      exact g_vret C hQ dX2_note_105 h
    · have h := h.2 c8
      refine g_aload_n C 0 dX2_note_79 rfl ?_
      refine gf_RX2_18_X2 C ce_14 rfl dX2_note_80 ?_
      refine g_iload_n C 1 dX2_note_83 rfl ?_
      refine g_dup2 C dX2_note_84 rfl rfl ?_
      obtain ⟨hi9, h⟩ := h
      refine g_iald C 0 ce_17 rfl hi9 dX2_note_85 ?_
      refine g_iconst C 1 dX2_note_86 (by decide) ?_
      refine g_aload_n C 0 dX2_note_87 rfl ?_
      refine gf_RX2_34_X2 C ce_14 rfl dX2_note_88 ?_
      refine gf_RX2_44_X6 C ce_9 rfl dX2_note_91 ?_
      refine g_iload_n C 1 dX2_note_94 rfl ?_
      obtain ⟨hi10, h⟩ := h
      refine g_iald C 0 ce_10 rfl hi10 dX2_note_95 ?_
      refine g_ishl C dX2_note_96 ?_
      refine g_ior C dX2_note_97 ?_
      obtain ⟨hi11, h⟩ := h
      obtain ⟨g12, eg12⟩ : ∃ g : Sg, g = va_up f 17 (upd (f 17) (x1 : Int32).toNatClampNeg ((f 17 (x1 : Int32).toNatClampNeg) ||| ((1 : Int32) <<< ((f 10 (x1 : Int32).toNatClampNeg) &&& 31)))) := ⟨_, rfl⟩
      have h := h g12 eg12
      refine g_iast C 0 ce_17 rfl (g := g12) (by rw [eg12]; exact cs_17) hi11 dX2_note_98 ?_
      refine g_iinc (lv' := [(1, .int (x1 + 1)), (0, .ref (a 14))]) C 1 dX2_note_99 rfl rfl (by decide) rfl ?_
      refine g_goto C 71 dX2_note_102 (by decide) ?_
      refine g_sub (lv' := [(0, .ref (a 14)), (1, .int (x1 + 1))]) [1, 0] rfl ?_
      exact hK71 g12 (x1 + 1) h
set_option maxHeartbeats 4000000 in
theorem t_X2_note_14_59 {o : Om} {D : va_G} {a : Nat → Nat} {cI : ClassId} {Q : Sg → Prop} (C : Cx o D [(cI, .int)] (cw a cI) RX2 cX2_note none 2 2) (hQ : RetV o D (cw a cI) Q) {f : Sg} (h : J_X2_note_14_59 Q f) : Go o D (cw a cI) 59 [(0, .ref (a 14))] [] f := by
  unfold J_X2_note_14_59 at h
  refine g_aload_n C 0 dX2_note_59 rfl ?_
  refine g_dup C dX2_note_60 rfl ?_
  refine gf_RX2_27_X2 C ce_14 rfl dX2_note_61 ?_
  refine g_iconst C 1 dX2_note_64 (by decide) ?_
  refine g_iadd C dX2_note_65 ?_
  obtain ⟨g7, eg7⟩ : ∃ g : Sg, g = va_up f 14 (upd (f 14) 9 ((f 14 9) + 1)) := ⟨_, rfl⟩
  have h := h g7 eg7
  refine gp_RX2_27_X2 C rfl rfl ce_14 (Nat.le_of_ble_eq_true rfl) (g := g7) (by rw [eg7]; exact cs_14_9) dX2_note_66 ?_
  refine g_iconst C 0 dX2_note_69 (by decide) ?_
  refine g_istore_n (lv' := [(1, .int 0), (0, .ref (a 14))]) C dX2_note_70 (by decide) rfl ?_
  refine g_sub (lv' := [(0, .ref (a 14)), (1, .int 0)]) [1, 0] rfl ?_
  obtain ⟨n, h⟩ := h
  exact t_X2_note_14_71 C hQ n g7 0 h
set_option maxHeartbeats 4000000 in
theorem t_X2_note_14_38 {o : Om} {D : va_G} {a : Nat → Nat} {cI : ClassId} {Q : Sg → Prop} (C : Cx o D [(cI, .int)] (cw a cI) RX2 cX2_note none 2 2) (hQ : RetV o D (cw a cI) Q) {f : Sg} (h : J_X2_note_14_38 Q f) : Go o D (cw a cI) 38 [(0, .ref (a 14))] [] f := by
  unfold J_X2_note_14_38 at h
  refine g_aload_n C 0 dX2_note_38 rfl ?_
  refine g_aload_n C 0 dX2_note_39 rfl ?_
  refine gf_RX2_24_X2 C ce_14 rfl dX2_note_40 ?_
  refine g_aload_n C 0 dX2_note_43 rfl ?_
  refine gf_RX2_54_X2 C ce_14 rfl dX2_note_44 ?_
  obtain ⟨hi3, h⟩ := h
  refine g_iald C 0 ce_19 rfl hi3 dX2_note_47 ?_
  obtain ⟨g4, eg4⟩ : ∃ g : Sg, g = va_up f 14 (upd (f 14) 10 (f 19 (f 14 2 : Int32).toNatClampNeg)) := ⟨_, rfl⟩
  have h := h g4 eg4
  refine gp_RX2_31_X2 C rfl rfl ce_14 (Nat.le_of_ble_eq_true rfl) (g := g4) (by rw [eg4]; exact cs_14_10) dX2_note_48 ?_
  refine g_aload_n C 0 dX2_note_51 rfl ?_
  refine g_aload_n C 0 dX2_note_52 rfl ?_
  refine gf_RX2_15_X2 C ce_14 rfl dX2_note_53 ?_
  refine g_callUv C (As := [.ref (a 16)]) (st := []) (fun l => c_X8_keepRow_14_16 l D a cI h) cl_RX2_50_X2 rfl ce_14 (by omega) rfl (Nat.le_of_ble_eq_true rfl) dX2_note_56 (fun g5 h => ?_)
  refine g_sub (lv' := [(0, .ref (a 14))]) [0] rfl ?_
  exact t_X2_note_14_59 C hQ h
set_option maxHeartbeats 4000000 in
theorem t_X2_note_14_15 {o : Om} {D : va_G} {a : Nat → Nat} {cI : ClassId} {Q : Sg → Prop} (C : Cx o D [(cI, .int)] (cw a cI) RX2 cX2_note none 2 2) (hQ : RetV o D (cw a cI) Q) {f : Sg} (h : J_X2_note_14_15 Q f) : Go o D (cw a cI) 15 [(0, .ref (a 14))] [] f := by
  unfold J_X2_note_14_15 at h
  refine g_aload_n C 0 dX2_note_15 rfl ?_
  refine gf_RX2_27_X2 C ce_14 rfl dX2_note_16 ?_
  refine g_if_eq C 38 dX2_note_19 (by decide) (fun c2 => ?_) (fun c2 => ?_)
  · have h := h.1 c2
    refine g_sub (lv' := [(0, .ref (a 14))]) [0] rfl ?_
    exact t_X2_note_14_38 C hQ h
  · have h := h.2 c2
    refine g_aload_n C 0 dX2_note_22 rfl ?_
    refine gf_RX2_24_X2 C ce_14 rfl dX2_note_23 ?_
    refine g_aload_n C 0 dX2_note_26 rfl ?_
    refine gf_RX2_54_X2 C ce_14 rfl dX2_note_27 ?_
    obtain ⟨hi13, h⟩ := h
    refine g_iald C 0 ce_19 rfl hi13 dX2_note_30 ?_
    refine g_aload_n C 0 dX2_note_31 rfl ?_
    refine gf_RX2_31_X2 C ce_14 rfl dX2_note_32 ?_
    refine g_icmp_ge C 59 dX2_note_35 (by decide) (fun c14 => ?_) (fun c14 => ?_)
    · have h := h.1 c14
      refine g_sub (lv' := [(0, .ref (a 14))]) [0] rfl ?_
      exact t_X2_note_14_59 C hQ h
    · have h := h.2 c14
      refine g_sub (lv' := [(0, .ref (a 14))]) [0] rfl ?_
      exact t_X2_note_14_38 C hQ h
set_option maxHeartbeats 4000000 in
theorem c_X2_note_14 (l : Launch) (D : va_G) (a : Nat → Nat) (cI : ClassId) {f : Sg} {Q : Sg → Prop} (h : M_X2_note_14 f Q) : MV l D [(cI, .int)] (cw a cI) yX2_note cX2_note 2 (2) [.ref (a 14)] f Q := by
  refine mkV (cw_fix a cI) (by decide +kernel) (Nat.le_of_ble_eq_true rfl) (fun o C hQ => ?_)
  show Go o D (cw a cI) 0 [(0, .ref (a 14))] [] f
  unfold M_X2_note_14 at h
  refine g_aload_n C 0 dX2_note_0 rfl ?_
  refine gf_RX2_27_X2 C ce_14 rfl dX2_note_1 ?_
  refine g_if_ne C 15 dX2_note_4 (by decide) (fun c1 => ?_) (fun c1 => ?_)
  · have h := h.2 c1
    refine g_sub (lv' := [(0, .ref (a 14))]) [0] rfl ?_
    exact t_X2_note_14_15 C hQ h
  · have h := h.1 c1
    refine g_aload_n C 0 dX2_note_7 rfl ?_
    refine g_aload_n C 0 dX2_note_8 rfl ?_
    refine gf_RX2_9_X2 C ce_14 rfl dX2_note_9 ?_
    refine g_callUv C (As := [.ref (a 15)]) (st := []) (fun l => c_X8_keepRow_14_15 l D a cI h) cl_RX2_50_X2 rfl ce_14 (by omega) rfl (Nat.le_of_ble_eq_true rfl) dX2_note_12 (fun g15 h => ?_)
    refine g_sub (lv' := [(0, .ref (a 14))]) [0] rfl ?_
    exact t_X2_note_14_15 C hQ h
/-! X8_goOn_14: rank 3 -/
def J_X8_goOn_14_63 (Rc : Sg → Int32 → (Sg → Prop) → Prop) (Q : Sg → Prop) (K24 : Sg → Int32 → Int32 → Prop) (f : Sg) (x1 : Int32) (x2 : Int32) : Prop :=
  K24 f x1 (x2 + 1)
def B_X8_goOn_14_24 (Rc : Sg → Int32 → (Sg → Prop) → Prop) (Q : Sg → Prop) (K24 : Sg → Int32 → Int32 → Prop) (f : Sg) (x1 : Int32) (x2 : Int32) : Prop :=
  (5 ≤ x2 → Q f) ∧ (¬ 5 ≤ x2 → vp_in x2 5 ∧ ((f 13 (x2 : Int32).toNatClampNeg) ≤ 0 → J_X8_goOn_14_63 Rc Q K24 f x1 x2) ∧ (¬ (f 13 (x2 : Int32).toNatClampNeg) ≤ 0 → M_X6_put_9 f x2 (fun g8 => Rc g8 (x1 + 1) (fun g10 => M_X6_drop_9 g10 (fun g12 => J_X8_goOn_14_63 Rc Q K24 g12 x1 x2)))))
def E_X8_goOn_14 (Rc : Sg → Int32 → (Sg → Prop) → Prop) (f : Sg) (x1 : Int32) (Q : Sg → Prop) : Prop :=
  M_X2_matters_14 f x1 (fun r2 g1 => (r2 = 0 → Q g1) ∧ (¬ r2 = 0 → (x1 < (g1 14 2) → ∃ n : Nat, itr2 (B_X8_goOn_14_24 Rc Q) n g1 x1 0) ∧ (¬ x1 < (g1 14 2) → M_X2_note_14 g1 (fun g14 => Q g14))))
def M_X8_goOn_14 : Nat → Sg → Int32 → (Sg → Prop) → Prop
  | 0 => fun _ _ _ => False
  | d + 1 => E_X8_goOn_14 (M_X8_goOn_14 d)
set_option maxHeartbeats 4000000 in
theorem t_X8_goOn_14_63 {o : Om} {D : va_G} {a : Nat → Nat} {cI : ClassId} {d : Nat} {Rc : Sg → Int32 → (Sg → Prop) → Prop} {Q : Sg → Prop} {K24 : Sg → Int32 → Int32 → Prop} (C : Cx o D [(cI, .int)] (cw a cI) RX8 cX8_goOn none (3 + d + 1) 3) (hQ : RetV o D (cw a cI) Q) (hRc : ∀ (l : Launch) (g : Sg) (y0 : Int32) (Qr : Sg → Prop), Rc g y0 Qr → MV l D [(cI, .int)] (cw a cI) yX8_goOn cX8_goOn 3 (3 + d) [.ref (a 14), .int y0] g Qr) (hK24 : ∀ (g : Sg) (x1 : Int32) (x2 : Int32), K24 g x1 x2 → Go o D (cw a cI) 24 [(0, .ref (a 14)), (1, .int x1), (2, .int x2)] [] g) {f : Sg} {x1 : Int32} {x2 : Int32} (h : J_X8_goOn_14_63 Rc Q K24 f x1 x2) : Go o D (cw a cI) 63 [(0, .ref (a 14)), (1, .int x1), (2, .int x2)] [] f := by
  unfold J_X8_goOn_14_63 at h
  refine g_iinc (lv' := [(2, .int (x2 + 1)), (0, .ref (a 14)), (1, .int x1)]) C 2 dX8_goOn_63 rfl rfl (by decide) rfl ?_
  refine g_goto C 24 dX8_goOn_66 (by decide) ?_
  refine g_sub (lv' := [(0, .ref (a 14)), (1, .int x1), (2, .int (x2 + 1))]) [1, 2, 0] rfl ?_
  exact hK24 f x1 (x2 + 1) h
set_option maxHeartbeats 4000000 in
theorem t_X8_goOn_14_24 {o : Om} {D : va_G} {a : Nat → Nat} {cI : ClassId} {d : Nat} {Rc : Sg → Int32 → (Sg → Prop) → Prop} {Q : Sg → Prop} (C : Cx o D [(cI, .int)] (cw a cI) RX8 cX8_goOn none (3 + d + 1) 3) (hQ : RetV o D (cw a cI) Q) (hRc : ∀ (l : Launch) (g : Sg) (y0 : Int32) (Qr : Sg → Prop), Rc g y0 Qr → MV l D [(cI, .int)] (cw a cI) yX8_goOn cX8_goOn 3 (3 + d) [.ref (a 14), .int y0] g Qr) : ∀ (n : Nat) (f : Sg) (x1 : Int32) (x2 : Int32), itr2 (B_X8_goOn_14_24 Rc Q) n f x1 x2 → Go o D (cw a cI) 24 [(0, .ref (a 14)), (1, .int x1), (2, .int x2)] [] f := by
  intro n
  induction n with
  | zero => intro f x1 x2 h; exact h.elim
  | succ n ih =>
    intro f x1 x2 h
    have h : B_X8_goOn_14_24 Rc Q (itr2 (B_X8_goOn_14_24 Rc Q) n) f x1 x2 := h
    have hK24 := ih
    generalize itr2 (B_X8_goOn_14_24 Rc Q) n = K24 at h hK24
    clear ih
    unfold B_X8_goOn_14_24 at h
    refine g_iload_n C 2 dX8_goOn_24 rfl ?_
    refine g_iconst C 5 dX8_goOn_25 (by decide) ?_
    refine g_icmp_ge C 69 dX8_goOn_26 (by decide) (fun c5 => ?_) (fun c5 => ?_)
    · have h := h.1 c5
      exact g_vret C hQ dX8_goOn_69 h
    · have h := h.2 c5
      refine g_aload_n C 0 dX8_goOn_29 rfl ?_
      refine gf_RX8_23_X2 C ce_14 rfl dX8_goOn_30 ?_
      refine gf_RX8_51_X6 C ce_9 rfl dX8_goOn_33 ?_
      refine g_iload_n C 2 dX8_goOn_36 rfl ?_
      obtain ⟨hi6, h⟩ := h
      refine g_iald C 0 ce_13 rfl hi6 dX8_goOn_37 ?_
      refine g_if_le C 63 dX8_goOn_38 (by decide) (fun c7 => ?_) (fun c7 => ?_)
      · have h := h.1 c7
        refine g_sub (lv' := [(0, .ref (a 14)), (1, .int x1), (2, .int x2)]) [0, 1, 2] rfl ?_
        exact t_X8_goOn_14_63 C hQ hRc hK24 h
      · have h := h.2 c7
        refine g_aload_n C 0 dX8_goOn_41 rfl ?_
        refine gf_RX8_23_X2 C ce_14 rfl dX8_goOn_42 ?_
        refine g_iload_n C 2 dX8_goOn_45 rfl ?_
        refine g_callVv C (As := [.int x2]) (st := []) (fun l => c_X6_put_9 l D a cI h) cl_RX8_55_X6 rfl ce_9 (by omega) rfl (Nat.le_of_ble_eq_true rfl) dX8_goOn_46 (fun g8 h => ?_)
        refine g_aload_n C 0 dX8_goOn_49 rfl ?_
        refine g_iload_n C 1 dX8_goOn_50 rfl ?_
        refine g_iconst C 1 dX8_goOn_51 (by decide) ?_
        refine g_iadd C dX8_goOn_52 ?_
        refine g_callUv C (As := [.int (x1 + 1)]) (st := []) (fun l => hRc l g8 (x1 + 1) _ h) cl_RX8_40_X2 rfl ce_14 (by omega) rfl (Nat.le_of_ble_eq_true rfl) dX8_goOn_53 (fun g10 h => ?_)
        refine g_aload_n C 0 dX8_goOn_56 rfl ?_
        refine gf_RX8_23_X2 C ce_14 rfl dX8_goOn_57 ?_
        refine g_callVv C (As := []) (st := []) (fun l => c_X6_drop_9 l D a cI h) cl_RX8_58_X6 rfl ce_9 (by omega) rfl (Nat.le_of_ble_eq_true rfl) dX8_goOn_60 (fun g12 h => ?_)
        refine g_sub (lv' := [(0, .ref (a 14)), (1, .int x1), (2, .int x2)]) [0, 1, 2] rfl ?_
        exact t_X8_goOn_14_63 C hQ hRc hK24 h
set_option maxHeartbeats 4000000 in
theorem c_X8_goOn_14 (l : Launch) (D : va_G) (a : Nat → Nat) (cI : ClassId) : ∀ (d : Nat) {f : Sg} {x1 : Int32} {Q : Sg → Prop}, M_X8_goOn_14 d f x1 Q → MV l D [(cI, .int)] (cw a cI) yX8_goOn cX8_goOn 3 (3 + d) [.ref (a 14), .int x1] f Q := by
  intro d
  induction d generalizing l with
  | zero => intro f x1 Q h; exact h.elim
  | succ d ih =>
    intro f x1 Q h
    have h : E_X8_goOn_14 (M_X8_goOn_14 d) f x1 Q := h
    have hRc : ∀ (l : Launch) (g : Sg) (y0 : Int32) (Qr : Sg → Prop), M_X8_goOn_14 d g y0 Qr → MV l D [(cI, .int)] (cw a cI) yX8_goOn cX8_goOn 3 (3 + d) [.ref (a 14), .int y0] g Qr := fun l g y0 Qr h => ih l h
    generalize M_X8_goOn_14 d = Rc at h hRc
    clear ih
    refine mkV (cw_fix a cI) (by decide +kernel) (Nat.le_of_ble_eq_true rfl) (fun o C hQ => ?_)
    show Go o D (cw a cI) 0 [(0, .ref (a 14)), (1, .int x1)] [] f
    unfold E_X8_goOn_14 at h
    refine g_aload_n C 0 dX8_goOn_0 rfl ?_
    refine g_iload_n C 1 dX8_goOn_1 rfl ?_
    refine g_callUi C (As := [.int x1]) (st := []) (fun l => c_X2_matters_14 l D a cI h) cl_RX8_44_X2 rfl ce_14 (by omega) rfl (Nat.le_of_ble_eq_true rfl) dX8_goOn_2 (fun r2 g1 h => ?_)
    refine g_if_ne C 9 dX8_goOn_5 (by decide) (fun c3 => ?_) (fun c3 => ?_)
    · have h := h.2 c3
      refine g_iload_n C 1 dX8_goOn_9 rfl ?_
      refine g_aload_n C 0 dX8_goOn_10 rfl ?_
      refine gf_RX8_9_X2 C ce_14 rfl dX8_goOn_11 ?_
      refine g_icmp_lt C 22 dX8_goOn_14 (by decide) (fun c4 => ?_) (fun c4 => ?_)
      · have h := h.1 c4
        refine g_iconst C 0 dX8_goOn_22 (by decide) ?_
        refine g_istore_n (lv' := [(2, .int 0), (0, .ref (a 14)), (1, .int x1)]) C dX8_goOn_23 (by decide) rfl ?_
        refine g_sub (lv' := [(0, .ref (a 14)), (1, .int x1), (2, .int 0)]) [1, 2, 0] rfl ?_
        obtain ⟨n, h⟩ := h
        exact t_X8_goOn_14_24 C hQ hRc n g1 x1 0 h
      · have h := h.2 c4
        refine g_aload_n C 0 dX8_goOn_17 rfl ?_
        refine g_callUv C (As := []) (st := []) (fun l => c_X2_note_14 l D a cI h) cl_RX8_48_X2 rfl ce_14 (by omega) rfl (Nat.le_of_ble_eq_true rfl) dX8_goOn_18 (fun g14 h => ?_)
        exact g_vret C hQ dX8_goOn_21 h
    · have h := h.1 c3
      exact g_vret C hQ dX8_goOn_8 h
/-! X8_refresh_14: rank 16 -/
def M_X8_refresh_14 (f : Sg) (Q : Sg → Prop) : Prop :=
  ((f 14 3) = 0 → M_X5_cars_1 f (fun r3 g2 => ∀ g4 : Sg, g4 = va_up g2 14 (upd (g2 14) 2 r3) → M_X2_begin_14 g4 (fun g5 => M_X6_start_9 g5 (fun g7 => M_X8_goOn_14 12 g7 0 (fun g9 => ∀ g11 : Sg, g11 = va_up g9 14 (upd (g9 14) 3 1) → Q g11))))) ∧ (¬ (f 14 3) = 0 → Q f)
set_option maxHeartbeats 4000000 in
theorem c_X8_refresh_14 (l : Launch) (D : va_G) (a : Nat → Nat) (cI : ClassId) {f : Sg} {Q : Sg → Prop} (h : M_X8_refresh_14 f Q) : MV l D [(cI, .int)] (cw a cI) yX8_refresh cX8_refresh 1 (16) [.ref (a 14)] f Q := by
  refine mkV (cw_fix a cI) (by decide +kernel) (Nat.le_of_ble_eq_true rfl) (fun o C hQ => ?_)
  show Go o D (cw a cI) 0 [(0, .ref (a 14))] [] f
  unfold M_X8_refresh_14 at h
  refine g_aload_n C 0 dX8_refresh_0 rfl ?_
  refine gf_RX8_15_X2 C ce_14 rfl dX8_refresh_1 ?_
  refine g_if_eq C 8 dX8_refresh_4 (by decide) (fun c1 => ?_) (fun c1 => ?_)
  · have h := h.1 c1
    refine g_aload_n C 0 dX8_refresh_8 rfl ?_
    refine g_aload_n C 0 dX8_refresh_9 rfl ?_
    refine gf_RX8_19_X2 C ce_14 rfl dX8_refresh_10 ?_
    refine g_callVi C (As := []) (st := [.ref (a 14)]) (fun l => c_X5_cars_1 l D a cI h) cl_RX8_27_X5 rfl ce_1 (by omega) rfl (Nat.le_of_ble_eq_true rfl) dX8_refresh_13 (fun r3 g2 h => ?_)
    obtain ⟨g4, eg4⟩ : ∃ g : Sg, g = va_up g2 14 (upd (g2 14) 2 r3) := ⟨_, rfl⟩
    have h := h g4 eg4
    refine gp_RX8_9_X2 C rfl rfl ce_14 (Nat.le_of_ble_eq_true rfl) (g := g4) (by rw [eg4]; exact cs_14_2) dX8_refresh_16 ?_
    refine g_aload_n C 0 dX8_refresh_19 rfl ?_
    refine g_callUv C (As := []) (st := []) (fun l => c_X2_begin_14 l D a cI h) cl_RX8_32_X2 rfl ce_14 (by omega) rfl (Nat.le_of_ble_eq_true rfl) dX8_refresh_20 (fun g5 h => ?_)
    refine g_aload_n C 0 dX8_refresh_23 rfl ?_
    refine gf_RX8_23_X2 C ce_14 rfl dX8_refresh_24 ?_
    refine g_callVv C (As := []) (st := []) (fun l => c_X6_start_9 l D a cI h) cl_RX8_35_X6 rfl ce_9 (by omega) rfl (Nat.le_of_ble_eq_true rfl) dX8_refresh_27 (fun g7 h => ?_)
    refine g_aload_n C 0 dX8_refresh_30 rfl ?_
    refine g_iconst C 0 dX8_refresh_31 (by decide) ?_
    refine g_callUv C (As := [.int 0]) (st := []) (fun l => c_X8_goOn_14 l D a cI 12 h) cl_RX8_40_X2 rfl ce_14 (by omega) rfl (Nat.le_of_ble_eq_true rfl) dX8_refresh_32 (fun g9 h => ?_)
    refine g_aload_n C 0 dX8_refresh_35 rfl ?_
    refine g_iconst C 1 dX8_refresh_36 (by decide) ?_
    obtain ⟨g11, eg11⟩ : ∃ g : Sg, g = va_up g9 14 (upd (g9 14) 3 1) := ⟨_, rfl⟩
    have h := h g11 eg11
    refine gp_RX8_15_X2 C rfl rfl ce_14 (Nat.le_of_ble_eq_true rfl) (g := g11) (by rw [eg11]; exact cs_14_3) dX8_refresh_37 ?_
    exact g_vret C hQ dX8_refresh_40 h
  · have h := h.2 c1
    exact g_vret C hQ dX8_refresh_7 h
/-! X9_classAt_0_15: rank 1 -/
def J_X9_classAt_0_15_29 (Q : Int32 → Sg → Prop) (f : Sg) (s0 : Int32) : Prop :=
  Q s0 f
def J_X9_classAt_0_15_27 (Q : Int32 → Sg → Prop) (f : Sg) : Prop :=
  J_X9_classAt_0_15_29 Q f (-6)
def M_X9_classAt_0_15 (f : Sg) (x2 : Int32) (Q : Int32 → Sg → Prop) : Prop :=
  (x2 < 0 → J_X9_classAt_0_15_27 Q f) ∧ (¬ x2 < 0 → M_X5_cars_1 f (fun r3 g2 => (r3 ≤ x2 → J_X9_classAt_0_15_27 Q g2) ∧ (¬ r3 ≤ x2 → (9 ≤ x2 → J_X9_classAt_0_15_27 Q g2) ∧ (¬ 9 ≤ x2 → vp_in x2 9 ∧ J_X9_classAt_0_15_29 Q g2 (g2 15 (x2 : Int32).toNatClampNeg)))))
set_option maxHeartbeats 4000000 in
theorem t_X9_classAt_0_15_29 {o : Om} {D : va_G} {a : Nat → Nat} {cI : ClassId} {Q : Int32 → Sg → Prop} (C : Cx o D [(cI, .int)] (cw a cI) RX9 cX9_classAt (some .int) 1 3) (hQ : RetI o D (cw a cI) Q) {f : Sg} {s0 : Int32} (h : J_X9_classAt_0_15_29 Q f s0) : Go o D (cw a cI) 29 [] [.int s0] f := by
  unfold J_X9_classAt_0_15_29 at h
  exact g_iret C hQ dX9_classAt_29 h
set_option maxHeartbeats 4000000 in
theorem t_X9_classAt_0_15_27 {o : Om} {D : va_G} {a : Nat → Nat} {cI : ClassId} {Q : Int32 → Sg → Prop} (C : Cx o D [(cI, .int)] (cw a cI) RX9 cX9_classAt (some .int) 1 3) (hQ : RetI o D (cw a cI) Q) {f : Sg} (h : J_X9_classAt_0_15_27 Q f) : Go o D (cw a cI) 27 [] [] f := by
  unfold J_X9_classAt_0_15_27 at h
  refine g_bipush C (-6) dX9_classAt_27 (by decide) ?_
  refine g_sub (lv' := []) [] rfl ?_
  exact t_X9_classAt_0_15_29 C hQ h
set_option maxHeartbeats 4000000 in
theorem c_X9_classAt_0_15 (l : Launch) (D : va_G) (a : Nat → Nat) (cI : ClassId) {f : Sg} {x2 : Int32} {Q : Int32 → Sg → Prop} (h : M_X9_classAt_0_15 f x2 Q) : MI l D [(cI, .int)] (cw a cI) yX9_classAt cX9_classAt 3 (some .int) (1) [.ref (a 0), .ref (a 15), .int x2] f Q := by
  refine mkI (cw_fix a cI) (by decide +kernel) (Nat.le_of_ble_eq_true rfl) (fun o C hQ => ?_)
  show Go o D (cw a cI) 0 [(0, .ref (a 0)), (1, .ref (a 15)), (2, .int x2)] [] f
  unfold M_X9_classAt_0_15 at h
  refine g_iload_n C 2 dX9_classAt_0 rfl ?_
  refine g_if_lt C 27 dX9_classAt_1 (by decide) (fun c1 => ?_) (fun c1 => ?_)
  · have h := h.1 c1
    refine g_sub (lv' := []) [] rfl ?_
    exact t_X9_classAt_0_15_27 C hQ h
  · have h := h.2 c1
    refine g_iload_n C 2 dX9_classAt_4 rfl ?_
    refine g_aload_n C 0 dX9_classAt_5 rfl ?_
    refine gf_RX9_10_X9 C ce_0 rfl dX9_classAt_6 ?_
    refine g_callVi C (As := []) (st := [.int x2]) (fun l => c_X5_cars_1 l D a cI h) cl_RX9_107_X5 rfl ce_1 (by omega) rfl (Nat.le_of_ble_eq_true rfl) dX9_classAt_9 (fun r3 g2 h => ?_)
    refine g_icmp_ge C 27 dX9_classAt_12 (by decide) (fun c4 => ?_) (fun c4 => ?_)
    · have h := h.1 c4
      refine g_sub (lv' := []) [] rfl ?_
      exact t_X9_classAt_0_15_27 C hQ h
    · have h := h.2 c4
      refine g_iload_n C 2 dX9_classAt_15 rfl ?_
      refine g_aload_n C 1 dX9_classAt_16 rfl ?_
      refine g_alen C 0 ce_15 rfl (v := 9) rfl dX9_classAt_17 ?_
      refine g_icmp_ge C 27 dX9_classAt_18 (by decide) (fun c5 => ?_) (fun c5 => ?_)
      · have h := h.1 c5
        refine g_sub (lv' := []) [] rfl ?_
        exact t_X9_classAt_0_15_27 C hQ h
      · have h := h.2 c5
        refine g_aload_n C 1 dX9_classAt_21 rfl ?_
        refine g_iload_n C 2 dX9_classAt_22 rfl ?_
        obtain ⟨hi6, h⟩ := h
        refine g_iald C 0 ce_15 rfl hi6 dX9_classAt_23 ?_
        refine g_goto C 29 dX9_classAt_24 (by decide) ?_
        refine g_sub (lv' := []) [] rfl ?_
        exact t_X9_classAt_0_15_29 C hQ h
