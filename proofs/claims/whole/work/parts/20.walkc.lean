/-! X10_clash_0: rank 2 -/
def J_X10_clash_0_30 (Q : Int32 → Sg → Prop) (K4 : Sg → Int32 → Int32 → Prop) (f : Sg) (x2 : Int32) (s0 : Int32) (s1 : Int32) : Prop :=
  ∀ z7 : Int32, z7 = s1 ||| s0 → K4 f z7 (x2 + 1)
def B_X10_clash_0_4 (Q : Int32 → Sg → Prop) (K4 : Sg → Int32 → Int32 → Prop) (f : Sg) (x1 : Int32) (x2 : Int32) : Prop :=
  (4 ≤ x2 → Q x1 f) ∧ (¬ 4 ≤ x2 → M_X10_wanted_0 f x2 (fun r3 g2 => M_X10_room_0 g2 x2 (fun r5 g4 => (r3 ≤ r5 → J_X10_clash_0_30 Q K4 g4 x2 0 x1) ∧ (¬ r3 ≤ r5 → J_X10_clash_0_30 Q K4 g4 x2 ((1 : Int32) <<< (x2 &&& 31)) x1))))
def M_X10_clash_0 (f : Sg) (Q : Int32 → Sg → Prop) : Prop :=
  ∃ n : Nat, itr2 (B_X10_clash_0_4 Q) n f 0 0
set_option maxHeartbeats 4000000 in
theorem t_X10_clash_0_30 {o : Om} {D : va_G} {a : Nat → Nat} {cI cZ : ClassId} {Q : Int32 → Sg → Prop} {K4 : Sg → Int32 → Int32 → Prop} (C : Cx o D [(cI, .int), (cZ, .boolean)] (rw a cI cZ) RX10 cX10_clash (some .int) 2 3) (hQ : RetI o D (rw a cI cZ) Q) (hK4 : ∀ (g : Sg) (x1 : Int32) (x2 : Int32), K4 g x1 x2 → Go o D (rw a cI cZ) 4 [(0, .ref (a 0)), (1, .int x1), (2, .int x2)] [] g) {f : Sg} {x2 : Int32} {s0 : Int32} {s1 : Int32} (h : J_X10_clash_0_30 Q K4 f x2 s0 s1) : Go o D (rw a cI cZ) 30 [(0, .ref (a 0)), (2, .int x2)] [.int s0, .int s1] f := by
  unfold J_X10_clash_0_30 at h
  refine g_ior C dX10_clash_30 ?_
  refine g_top (fun z7 ez7 => ?_)
  have h := h z7 ez7
  refine g_istore_n (lv' := [(1, .int z7), (0, .ref (a 0)), (2, .int x2)]) C dX10_clash_31 (by decide) rfl ?_
  refine g_iinc (lv' := [(2, .int (x2 + 1)), (1, .int z7), (0, .ref (a 0))]) C 2 dX10_clash_32 rfl rfl (by decide) rfl ?_
  refine g_goto C 4 dX10_clash_35 (by decide) ?_
  refine g_sub (lv' := [(0, .ref (a 0)), (1, .int z7), (2, .int (x2 + 1))]) [2, 1, 0] rfl ?_
  exact hK4 f z7 (x2 + 1) h
set_option maxHeartbeats 4000000 in
theorem t_X10_clash_0_4 {o : Om} {D : va_G} {a : Nat → Nat} {cI cZ : ClassId} {Q : Int32 → Sg → Prop} (C : Cx o D [(cI, .int), (cZ, .boolean)] (rw a cI cZ) RX10 cX10_clash (some .int) 2 3) (hQ : RetI o D (rw a cI cZ) Q) : ∀ (n : Nat) (f : Sg) (x1 : Int32) (x2 : Int32), itr2 (B_X10_clash_0_4 Q) n f x1 x2 → Go o D (rw a cI cZ) 4 [(0, .ref (a 0)), (1, .int x1), (2, .int x2)] [] f := by
  intro n
  induction n with
  | zero => intro f x1 x2 h; exact h.elim
  | succ n ih =>
    intro f x1 x2 h
    have h : B_X10_clash_0_4 Q (itr2 (B_X10_clash_0_4 Q) n) f x1 x2 := h
    have hK4 := ih
    generalize itr2 (B_X10_clash_0_4 Q) n = K4 at h hK4
    clear ih
    unfold B_X10_clash_0_4 at h
    refine g_iload_n C 2 dX10_clash_4 rfl ?_
    refine g_iconst C 4 dX10_clash_5 (by decide) ?_
    refine g_icmp_ge C 38 dX10_clash_6 (by decide) (fun c1 => ?_) (fun c1 => ?_)
    · have h := h.1 c1
      refine g_iload_n C 1 dX10_clash_38 rfl ?_
      exact g_iret C hQ dX10_clash_39 h
    · have h := h.2 c1
      refine g_iload_n C 1 dX10_clash_9 rfl ?_
      refine g_aload_n C 0 dX10_clash_10 rfl ?_
      refine g_iload_n C 2 dX10_clash_11 rfl ?_
      refine g_callVi C (As := [.int x2]) (st := [.int x1]) (fun l => c_X10_wanted_0 l D a cI cZ h) cl_RX10_61_X10 rfl re_0 (by omega) rfl (Nat.le_of_ble_eq_true rfl) dX10_clash_12 (fun r3 g2 h => ?_)
      refine g_aload_n C 0 dX10_clash_15 rfl ?_
      refine g_iload_n C 2 dX10_clash_16 rfl ?_
      refine g_callVi C (As := [.int x2]) (st := [.int r3, .int x1]) (fun l => c_X10_room_0 l D a cI cZ h) cl_RX10_65_X10 rfl re_0 (by omega) rfl (Nat.le_of_ble_eq_true rfl) dX10_clash_17 (fun r5 g4 h => ?_)
      refine g_icmp_le C 29 dX10_clash_20 (by decide) (fun c6 => ?_) (fun c6 => ?_)
      · have h := h.1 c6
        refine g_iconst C 0 dX10_clash_29 (by decide) ?_
        refine g_sub (lv' := [(0, .ref (a 0)), (2, .int x2)]) [0, 2] rfl ?_
        exact t_X10_clash_0_30 C hQ hK4 h
      · have h := h.2 c6
        refine g_iconst C 1 dX10_clash_23 (by decide) ?_
        refine g_iload_n C 2 dX10_clash_24 rfl ?_
        refine g_ishl C dX10_clash_25 ?_
        refine g_goto C 30 dX10_clash_26 (by decide) ?_
        refine g_sub (lv' := [(0, .ref (a 0)), (2, .int x2)]) [0, 2] rfl ?_
        exact t_X10_clash_0_30 C hQ hK4 h
set_option maxHeartbeats 4000000 in
theorem c_X10_clash_0 (l : Launch) (D : va_G) (a : Nat → Nat) (cI cZ : ClassId) {f : Sg} {Q : Int32 → Sg → Prop} (h : M_X10_clash_0 f Q) : MI l D [(cI, .int), (cZ, .boolean)] (rw a cI cZ) yX10_clash cX10_clash 3 (some .int) (2) [.ref (a 0)] f Q := by
  refine mkI (rw_fix a cI cZ) (by decide +kernel) (Nat.le_of_ble_eq_true rfl) (fun o C hQ => ?_)
  show Go o D (rw a cI cZ) 0 [(0, .ref (a 0))] [] f
  unfold M_X10_clash_0 at h
  refine g_iconst C 0 dX10_clash_0 (by decide) ?_
  refine g_istore_n (lv' := [(1, .int 0), (0, .ref (a 0))]) C dX10_clash_1 (by decide) rfl ?_
  refine g_iconst C 0 dX10_clash_2 (by decide) ?_
  refine g_istore_n (lv' := [(2, .int 0), (1, .int 0), (0, .ref (a 0))]) C dX10_clash_3 (by decide) rfl ?_
  refine g_sub (lv' := [(0, .ref (a 0)), (1, .int 0), (2, .int 0)]) [2, 1, 0] rfl ?_
  obtain ⟨n, h⟩ := h
  exact t_X10_clash_0_4 C hQ n f 0 0 h
/-! X10_orders_0: rank 5 -/
def J_X10_orders_0_43 (Q : Int32 → Sg → Prop) (f : Sg) (s0 : Int32) : Prop :=
  Q s0 f
def M_X10_orders_0 (f : Sg) (x1 : Int32) (Q : Int32 → Sg → Prop) : Prop :=
  M_X10_in f x1 0 2 (fun r2 g1 => (r2 = 0 → Q (-2) g1) ∧ (¬ r2 = 0 → M_X10_goLeast_0 g1 (fun g4 => (x1 = 0 → J_X10_orders_0_43 Q g4 (g4 0 13)) ∧ (¬ x1 = 0 → (x1 = 1 → J_X10_orders_0_43 Q g4 (g4 0 11)) ∧ (¬ x1 = 1 → J_X10_orders_0_43 Q g4 (g4 0 12))))))
set_option maxHeartbeats 4000000 in
theorem t_X10_orders_0_43 {o : Om} {D : va_G} {a : Nat → Nat} {cI cZ : ClassId} {Q : Int32 → Sg → Prop} (C : Cx o D [(cI, .int), (cZ, .boolean)] (rw a cI cZ) RX10 cX10_orders (some .int) 5 2) (hQ : RetI o D (rw a cI cZ) Q) {f : Sg} {s0 : Int32} (h : J_X10_orders_0_43 Q f s0) : Go o D (rw a cI cZ) 43 [] [.int s0] f := by
  unfold J_X10_orders_0_43 at h
  exact g_iret C hQ dX10_orders_43 h
set_option maxHeartbeats 4000000 in
theorem c_X10_orders_0 (l : Launch) (D : va_G) (a : Nat → Nat) (cI cZ : ClassId) {f : Sg} {x1 : Int32} {Q : Int32 → Sg → Prop} (h : M_X10_orders_0 f x1 Q) : MI l D [(cI, .int), (cZ, .boolean)] (rw a cI cZ) yX10_orders cX10_orders 2 (some .int) (5) [.ref (a 0), .int x1] f Q := by
  refine mkI (rw_fix a cI cZ) (by decide +kernel) (Nat.le_of_ble_eq_true rfl) (fun o C hQ => ?_)
  show Go o D (rw a cI cZ) 0 [(0, .ref (a 0)), (1, .int x1)] [] f
  unfold M_X10_orders_0 at h
  refine g_iload_n C 1 dX10_orders_0 rfl ?_
  refine g_iconst C 0 dX10_orders_1 (by decide) ?_
  refine g_iconst C 2 dX10_orders_2 (by decide) ?_
  refine g_callSi C (As := [.int x1, .int 0, .int 2]) (st := []) (fun l => c_X10_in l D a cI cZ h) cl_RX10_38 (by omega) rfl (Nat.le_of_ble_eq_true rfl) dX10_orders_3 (fun r2 g1 h => ?_)
  refine g_if_ne C 12 dX10_orders_6 (by decide) (fun c3 => ?_) (fun c3 => ?_)
  · have h := h.2 c3
    refine g_aload_n C 0 dX10_orders_12 rfl ?_
    refine g_callVv C (As := []) (st := []) (fun l => c_X10_goLeast_0 l D a cI cZ h) cl_RX10_116_X10 rfl re_0 (by omega) rfl (Nat.le_of_ble_eq_true rfl) dX10_orders_13 (fun g4 h => ?_)
    refine g_iload_n C 1 dX10_orders_16 rfl ?_
    refine g_if_ne C 27 dX10_orders_17 (by decide) (fun c6 => ?_) (fun c6 => ?_)
    · have h := h.2 c6
      refine g_iload_n C 1 dX10_orders_27 rfl ?_
      refine g_iconst C 1 dX10_orders_28 (by decide) ?_
      refine g_icmp_ne C 39 dX10_orders_29 (by decide) (fun c7 => ?_) (fun c7 => ?_)
      · have h := h.2 c7
        refine g_aload_n C 0 dX10_orders_39 rfl ?_
        refine gf_RX10_110_X10 C re_0 rfl dX10_orders_40 ?_
        refine g_sub (lv' := []) [] rfl ?_
        exact t_X10_orders_0_43 C hQ h
      · have h := h.1 c7
        refine g_aload_n C 0 dX10_orders_32 rfl ?_
        refine gf_RX10_107_X10 C re_0 rfl dX10_orders_33 ?_
        refine g_goto C 43 dX10_orders_36 (by decide) ?_
        refine g_sub (lv' := []) [] rfl ?_
        exact t_X10_orders_0_43 C hQ h
    · have h := h.1 c6
      refine g_aload_n C 0 dX10_orders_20 rfl ?_
      refine gf_RX10_113_X10 C re_0 rfl dX10_orders_21 ?_
      refine g_goto C 43 dX10_orders_24 (by decide) ?_
      refine g_sub (lv' := []) [] rfl ?_
      exact t_X10_orders_0_43 C hQ h
  · have h := h.1 c3
    refine g_bipush C (-2) dX10_orders_9 (by decide) ?_
    exact g_iret C hQ dX10_orders_11 h
/-! X10_at_0: rank 5 -/
def J_X10_at_0_36 (Q : Int32 → Sg → Prop) (f : Sg) (s0 : Int32) : Prop :=
  Q s0 f
def J_X10_at_0_34 (Q : Int32 → Sg → Prop) (f : Sg) : Prop :=
  J_X10_at_0_36 Q f (-6)
def M_X10_at_0 (f : Sg) (x1 : Int32) (Q : Int32 → Sg → Prop) : Prop :=
  M_X10_goFits_0 f (fun g1 => ((g1 0 9) ≤ 0 → J_X10_at_0_34 Q g1) ∧ (¬ (g1 0 9) ≤ 0 → M_X10_in g1 x1 0 ((g1 0 6) - 1) (fun r5 g4 => (r5 = 0 → J_X10_at_0_34 Q g4) ∧ (¬ r5 = 0 → vp_in x1 9 ∧ J_X10_at_0_36 Q g4 (g4 7 (x1 : Int32).toNatClampNeg)))))
set_option maxHeartbeats 4000000 in
theorem t_X10_at_0_36 {o : Om} {D : va_G} {a : Nat → Nat} {cI cZ : ClassId} {Q : Int32 → Sg → Prop} (C : Cx o D [(cI, .int), (cZ, .boolean)] (rw a cI cZ) RX10 cX10_at (some .int) 5 2) (hQ : RetI o D (rw a cI cZ) Q) {f : Sg} {s0 : Int32} (h : J_X10_at_0_36 Q f s0) : Go o D (rw a cI cZ) 36 [] [.int s0] f := by
  unfold J_X10_at_0_36 at h
  exact g_iret C hQ dX10_at_36 h
set_option maxHeartbeats 4000000 in
theorem t_X10_at_0_34 {o : Om} {D : va_G} {a : Nat → Nat} {cI cZ : ClassId} {Q : Int32 → Sg → Prop} (C : Cx o D [(cI, .int), (cZ, .boolean)] (rw a cI cZ) RX10 cX10_at (some .int) 5 2) (hQ : RetI o D (rw a cI cZ) Q) {f : Sg} (h : J_X10_at_0_34 Q f) : Go o D (rw a cI cZ) 34 [] [] f := by
  unfold J_X10_at_0_34 at h
  refine g_bipush C (-6) dX10_at_34 (by decide) ?_
  refine g_sub (lv' := []) [] rfl ?_
  exact t_X10_at_0_36 C hQ h
set_option maxHeartbeats 4000000 in
theorem c_X10_at_0 (l : Launch) (D : va_G) (a : Nat → Nat) (cI cZ : ClassId) {f : Sg} {x1 : Int32} {Q : Int32 → Sg → Prop} (h : M_X10_at_0 f x1 Q) : MI l D [(cI, .int), (cZ, .boolean)] (rw a cI cZ) yX10_at cX10_at 2 (some .int) (5) [.ref (a 0), .int x1] f Q := by
  refine mkI (rw_fix a cI cZ) (by decide +kernel) (Nat.le_of_ble_eq_true rfl) (fun o C hQ => ?_)
  show Go o D (rw a cI cZ) 0 [(0, .ref (a 0)), (1, .int x1)] [] f
  unfold M_X10_at_0 at h
  refine g_aload_n C 0 dX10_at_0 rfl ?_
  refine g_callVv C (As := []) (st := []) (fun l => c_X10_goFits_0 l D a cI cZ h) cl_RX10_98_X10 rfl re_0 (by omega) rfl (Nat.le_of_ble_eq_true rfl) dX10_at_1 (fun g1 h => ?_)
  refine g_aload_n C 0 dX10_at_4 rfl ?_
  refine gf_RX10_82_X10 C re_0 rfl dX10_at_5 ?_
  refine g_if_le C 34 dX10_at_8 (by decide) (fun c3 => ?_) (fun c3 => ?_)
  · have h := h.1 c3
    refine g_sub (lv' := []) [] rfl ?_
    exact t_X10_at_0_34 C hQ h
  · have h := h.2 c3
    refine g_iload_n C 1 dX10_at_11 rfl ?_
    refine g_iconst C 0 dX10_at_12 (by decide) ?_
    refine g_aload_n C 0 dX10_at_13 rfl ?_
    refine gf_RX10_71_X10 C re_0 rfl dX10_at_14 ?_
    refine g_iconst C 1 dX10_at_17 (by decide) ?_
    refine g_isub C dX10_at_18 ?_
    refine g_callSi C (As := [.int x1, .int 0, .int ((g1 0 6) - 1)]) (st := []) (fun l => c_X10_in l D a cI cZ h) cl_RX10_38 (by omega) rfl (Nat.le_of_ble_eq_true rfl) dX10_at_19 (fun r5 g4 h => ?_)
    refine g_if_eq C 34 dX10_at_22 (by decide) (fun c6 => ?_) (fun c6 => ?_)
    · have h := h.1 c6
      refine g_sub (lv' := []) [] rfl ?_
      exact t_X10_at_0_34 C hQ h
    · have h := h.2 c6
      refine g_aload_n C 0 dX10_at_25 rfl ?_
      refine gf_RX10_29_X10 C re_0 rfl dX10_at_26 ?_
      refine g_iload_n C 1 dX10_at_29 rfl ?_
      obtain ⟨hi7, h⟩ := h
      refine g_iald C 0 re_7 rfl hi7 dX10_at_30 ?_
      refine g_goto C 36 dX10_at_31 (by decide) ?_
      refine g_sub (lv' := []) [] rfl ?_
      exact t_X10_at_0_36 C hQ h
/-! X10_layLeft_0: rank 0 -/
def B_X10_layLeft_0_30 (Q : Sg → Prop) (K30 : Sg → Int32 → Int32 → Prop) (f : Sg) (x1 : Int32) (x2 : Int32) : Prop :=
  (x1 ≤ x2 → Q f) ∧ (¬ x1 ≤ x2 → vp_in x2 9 ∧ vp_in (f 5 (x2 : Int32).toNatClampNeg) 5 ∧ vp_in (f 5 (x2 : Int32).toNatClampNeg) 5 ∧ ∀ g6 : Sg, g6 = va_up f 8 (upd (f 8) (f 5 (x2 : Int32).toNatClampNeg : Int32).toNatClampNeg ((f 8 (f 5 (x2 : Int32).toNatClampNeg : Int32).toNatClampNeg) - 1)) → K30 g6 x1 (x2 + 1))
def B_X10_layLeft_0_2 (Q : Sg → Prop) (K2 : Sg → Int32 → Int32 → Prop) (f : Sg) (x1 : Int32) (x2 : Int32) : Prop :=
  (5 ≤ x2 → ∃ n : Nat, itr2 (B_X10_layLeft_0_30 Q) n f x1 0) ∧ (¬ 5 ≤ x2 → vp_in ((13 : Int32) + x2) 18 ∧ vp_in x2 5 ∧ ∀ g9 : Sg, g9 = va_up f 8 (upd (f 8) (x2 : Int32).toNatClampNeg (f 1 ((13 : Int32) + x2 : Int32).toNatClampNeg)) → K2 g9 x1 (x2 + 1))
def M_X10_layLeft_0 (f : Sg) (x1 : Int32) (Q : Sg → Prop) : Prop :=
  ∃ n : Nat, itr2 (B_X10_layLeft_0_2 Q) n f x1 0
set_option maxHeartbeats 4000000 in
theorem t_X10_layLeft_0_30 {o : Om} {D : va_G} {a : Nat → Nat} {cI cZ : ClassId} {Q : Sg → Prop} (C : Cx o D [(cI, .int), (cZ, .boolean)] (rw a cI cZ) RX10 cX10_layLeft none 0 3) (hQ : RetV o D (rw a cI cZ) Q) : ∀ (n : Nat) (f : Sg) (x1 : Int32) (x2 : Int32), itr2 (B_X10_layLeft_0_30 Q) n f x1 x2 → Go o D (rw a cI cZ) 30 [(0, .ref (a 0)), (1, .int x1), (2, .int x2)] [] f := by
  intro n
  induction n with
  | zero => intro f x1 x2 h; exact h.elim
  | succ n ih =>
    intro f x1 x2 h
    have h : B_X10_layLeft_0_30 Q (itr2 (B_X10_layLeft_0_30 Q) n) f x1 x2 := h
    have hK30 := ih
    generalize itr2 (B_X10_layLeft_0_30 Q) n = K30 at h hK30
    clear ih
    unfold B_X10_layLeft_0_30 at h
    refine g_iload_n C 2 dX10_layLeft_30 rfl ?_
    refine g_iload_n C 1 dX10_layLeft_31 rfl ?_
    refine g_icmp_ge C 56 dX10_layLeft_32 (by decide) (fun c2 => ?_) (fun c2 => ?_)
    · have h := h.1 c2
      exact g_vret C hQ dX10_layLeft_56 h
    · have h := h.2 c2
      refine g_aload_n C 0 dX10_layLeft_35 rfl ?_
      refine gf_RX10_32_X10 C re_0 rfl dX10_layLeft_36 ?_
      refine g_aload_n C 0 dX10_layLeft_39 rfl ?_
      refine gf_RX10_23_X10 C re_0 rfl dX10_layLeft_40 ?_
      refine g_iload_n C 2 dX10_layLeft_43 rfl ?_
      obtain ⟨hi3, h⟩ := h
      refine g_iald C 0 re_5 rfl hi3 dX10_layLeft_44 ?_
      refine g_dup2 C dX10_layLeft_45 rfl rfl ?_
      obtain ⟨hi4, h⟩ := h
      refine g_iald C 0 re_8 rfl hi4 dX10_layLeft_46 ?_
      refine g_iconst C 1 dX10_layLeft_47 (by decide) ?_
      refine g_isub C dX10_layLeft_48 ?_
      obtain ⟨hi5, h⟩ := h
      obtain ⟨g6, eg6⟩ : ∃ g : Sg, g = va_up f 8 (upd (f 8) (f 5 (x2 : Int32).toNatClampNeg : Int32).toNatClampNeg ((f 8 (f 5 (x2 : Int32).toNatClampNeg : Int32).toNatClampNeg) - 1)) := ⟨_, rfl⟩
      have h := h g6 eg6
      refine g_iast C 0 re_8 rfl (g := g6) (by rw [eg6]; exact rs_8) hi5 dX10_layLeft_49 ?_
      refine g_iinc (lv' := [(2, .int (x2 + 1)), (0, .ref (a 0)), (1, .int x1)]) C 2 dX10_layLeft_50 rfl rfl (by decide) rfl ?_
      refine g_goto C 30 dX10_layLeft_53 (by decide) ?_
      refine g_sub (lv' := [(0, .ref (a 0)), (1, .int x1), (2, .int (x2 + 1))]) [1, 2, 0] rfl ?_
      exact hK30 g6 x1 (x2 + 1) h
set_option maxHeartbeats 4000000 in
theorem t_X10_layLeft_0_2 {o : Om} {D : va_G} {a : Nat → Nat} {cI cZ : ClassId} {Q : Sg → Prop} (C : Cx o D [(cI, .int), (cZ, .boolean)] (rw a cI cZ) RX10 cX10_layLeft none 0 3) (hQ : RetV o D (rw a cI cZ) Q) : ∀ (n : Nat) (f : Sg) (x1 : Int32) (x2 : Int32), itr2 (B_X10_layLeft_0_2 Q) n f x1 x2 → Go o D (rw a cI cZ) 2 [(0, .ref (a 0)), (1, .int x1), (2, .int x2)] [] f := by
  intro n
  induction n with
  | zero => intro f x1 x2 h; exact h.elim
  | succ n ih =>
    intro f x1 x2 h
    have h : B_X10_layLeft_0_2 Q (itr2 (B_X10_layLeft_0_2 Q) n) f x1 x2 := h
    have hK2 := ih
    generalize itr2 (B_X10_layLeft_0_2 Q) n = K2 at h hK2
    clear ih
    unfold B_X10_layLeft_0_2 at h
    refine g_iload_n C 2 dX10_layLeft_2 rfl ?_
    refine g_iconst C 5 dX10_layLeft_3 (by decide) ?_
    refine g_icmp_ge C 28 dX10_layLeft_4 (by decide) (fun c1 => ?_) (fun c1 => ?_)
    · have h := h.1 c1
      refine g_iconst C 0 dX10_layLeft_28 (by decide) ?_
      refine g_istore_n (lv' := [(2, .int 0), (0, .ref (a 0)), (1, .int x1)]) C dX10_layLeft_29 (by decide) rfl ?_
      refine g_sub (lv' := [(0, .ref (a 0)), (1, .int x1), (2, .int 0)]) [1, 2, 0] rfl ?_
      obtain ⟨n, h⟩ := h
      exact t_X10_layLeft_0_30 C hQ n f x1 0 h
    · have h := h.2 c1
      refine g_aload_n C 0 dX10_layLeft_7 rfl ?_
      refine gf_RX10_32_X10 C re_0 rfl dX10_layLeft_8 ?_
      refine g_iload_n C 2 dX10_layLeft_11 rfl ?_
      refine g_aload_n C 0 dX10_layLeft_12 rfl ?_
      refine gf_RX10_7_X10 C re_0 rfl dX10_layLeft_13 ?_
      refine g_bipush C 13 dX10_layLeft_16 (by decide) ?_
      refine g_iload_n C 2 dX10_layLeft_18 rfl ?_
      refine g_iadd C dX10_layLeft_19 ?_
      obtain ⟨hi7, h⟩ := h
      refine g_iald C 0 re_1 rfl hi7 dX10_layLeft_20 ?_
      obtain ⟨hi8, h⟩ := h
      obtain ⟨g9, eg9⟩ : ∃ g : Sg, g = va_up f 8 (upd (f 8) (x2 : Int32).toNatClampNeg (f 1 ((13 : Int32) + x2 : Int32).toNatClampNeg)) := ⟨_, rfl⟩
      have h := h g9 eg9
      refine g_iast C 0 re_8 rfl (g := g9) (by rw [eg9]; exact rs_8) hi8 dX10_layLeft_21 ?_
      refine g_iinc (lv' := [(2, .int (x2 + 1)), (0, .ref (a 0)), (1, .int x1)]) C 2 dX10_layLeft_22 rfl rfl (by decide) rfl ?_
      refine g_goto C 2 dX10_layLeft_25 (by decide) ?_
      refine g_sub (lv' := [(0, .ref (a 0)), (1, .int x1), (2, .int (x2 + 1))]) [1, 2, 0] rfl ?_
      exact hK2 g9 x1 (x2 + 1) h
set_option maxHeartbeats 4000000 in
theorem c_X10_layLeft_0 (l : Launch) (D : va_G) (a : Nat → Nat) (cI cZ : ClassId) {f : Sg} {x1 : Int32} {Q : Sg → Prop} (h : M_X10_layLeft_0 f x1 Q) : MV l D [(cI, .int), (cZ, .boolean)] (rw a cI cZ) yX10_layLeft cX10_layLeft 3 (0) [.ref (a 0), .int x1] f Q := by
  refine mkV (rw_fix a cI cZ) (by decide +kernel) (Nat.le_of_ble_eq_true rfl) (fun o C hQ => ?_)
  show Go o D (rw a cI cZ) 0 [(0, .ref (a 0)), (1, .int x1)] [] f
  unfold M_X10_layLeft_0 at h
  refine g_iconst C 0 dX10_layLeft_0 (by decide) ?_
  refine g_istore_n (lv' := [(2, .int 0), (0, .ref (a 0)), (1, .int x1)]) C dX10_layLeft_1 (by decide) rfl ?_
  refine g_sub (lv' := [(0, .ref (a 0)), (1, .int x1), (2, .int 0)]) [1, 2, 0] rfl ?_
  obtain ⟨n, h⟩ := h
  exact t_X10_layLeft_0_2 C hQ n f x1 0 h
/-! X10_size: rank 0 -/
def M_X10_size (f : Sg) (x0 : Int32) (Q : Int32 → Sg → Prop) : Prop :=
  Q ((((x0 &&& 1) + ((x0 >>> ((1 : Int32) &&& 31)) &&& 1)) + ((x0 >>> ((2 : Int32) &&& 31)) &&& 1)) + ((x0 >>> ((3 : Int32) &&& 31)) &&& 1)) f
set_option maxHeartbeats 4000000 in
theorem c_X10_size (l : Launch) (D : va_G) (a : Nat → Nat) (cI cZ : ClassId) {f : Sg} {x0 : Int32} {Q : Int32 → Sg → Prop} (h : M_X10_size f x0 Q) : MI l D [(cI, .int), (cZ, .boolean)] (rw a cI cZ) yX10_size cX10_size 1 (some .int) (0) [.int x0] f Q := by
  refine mkI (rw_fix a cI cZ) (by decide +kernel) (Nat.le_of_ble_eq_true rfl) (fun o C hQ => ?_)
  show Go o D (rw a cI cZ) 0 [(0, .int x0)] [] f
  unfold M_X10_size at h
  refine g_iload_n C 0 dX10_size_0 rfl ?_
  refine g_iconst C 1 dX10_size_1 (by decide) ?_
  refine g_iand C dX10_size_2 ?_
  refine g_iload_n C 0 dX10_size_3 rfl ?_
  refine g_iconst C 1 dX10_size_4 (by decide) ?_
  refine g_ishr C dX10_size_5 ?_
  refine g_iconst C 1 dX10_size_6 (by decide) ?_
  refine g_iand C dX10_size_7 ?_
  refine g_iadd C dX10_size_8 ?_
  refine g_iload_n C 0 dX10_size_9 rfl ?_
  refine g_iconst C 2 dX10_size_10 (by decide) ?_
  refine g_ishr C dX10_size_11 ?_
  refine g_iconst C 1 dX10_size_12 (by decide) ?_
  refine g_iand C dX10_size_13 ?_
  refine g_iadd C dX10_size_14 ?_
  refine g_iload_n C 0 dX10_size_15 rfl ?_
  refine g_iconst C 3 dX10_size_16 (by decide) ?_
  refine g_ishr C dX10_size_17 ?_
  refine g_iconst C 1 dX10_size_18 (by decide) ?_
  refine g_iand C dX10_size_19 ?_
  refine g_iadd C dX10_size_20 ?_
  exact g_iret C hQ dX10_size_21 h
/-! X10_isBetter_0: rank 1 -/
def J_X10_isBetter_0_85 (Q : Int32 → Sg → Prop) (f : Sg) (s0 : Int32) : Prop :=
  narrow .boolean (.int s0) = .int s0 ∧ Q s0 f
def M_X10_isBetter_0 (f : Sg) (x1 : Int32) (x2 : Int32) (x3 : Int32) (x4 : Int32) (Q : Int32 → Sg → Prop) : Prop :=
  vp_in ((8 : Int32) + x1) 18 ∧ M_X10_size f (f 1 ((8 : Int32) + x1 : Int32).toNatClampNeg) (fun r3 g2 => vp_in ((8 : Int32) + x3) 18 ∧ M_X10_size g2 (g2 1 ((8 : Int32) + x3 : Int32).toNatClampNeg) (fun r6 g5 => ∀ z7 : Int32, z7 = r3 - r6 → (x2 = x4 → (z7 = 0 → vp_in x1 5 ∧ vp_in x3 5 ∧ ((g5 8 (x1 : Int32).toNatClampNeg) ≤ (g5 8 (x3 : Int32).toNatClampNeg) → J_X10_isBetter_0_85 Q g5 0) ∧ (¬ (g5 8 (x1 : Int32).toNatClampNeg) ≤ (g5 8 (x3 : Int32).toNatClampNeg) → J_X10_isBetter_0_85 Q g5 1)) ∧ (¬ z7 = 0 → (z7 ≤ 0 → J_X10_isBetter_0_85 Q g5 0) ∧ (¬ z7 ≤ 0 → J_X10_isBetter_0_85 Q g5 1))) ∧ (¬ x2 = x4 → (x4 ≤ x2 → J_X10_isBetter_0_85 Q g5 0) ∧ (¬ x4 ≤ x2 → J_X10_isBetter_0_85 Q g5 1))))
set_option maxHeartbeats 4000000 in
theorem t_X10_isBetter_0_85 {o : Om} {D : va_G} {a : Nat → Nat} {cI cZ : ClassId} {Q : Int32 → Sg → Prop} (C : Cx o D [(cI, .int), (cZ, .boolean)] (rw a cI cZ) RX10 cX10_isBetter (some .boolean) 1 6) (hQ : RetI o D (rw a cI cZ) Q) {f : Sg} {s0 : Int32} (h : J_X10_isBetter_0_85 Q f s0) : Go o D (rw a cI cZ) 85 [] [.int s0] f := by
  unfold J_X10_isBetter_0_85 at h
  exact g_zret C hQ h.1 dX10_isBetter_85 h.2
set_option maxHeartbeats 4000000 in
theorem c_X10_isBetter_0 (l : Launch) (D : va_G) (a : Nat → Nat) (cI cZ : ClassId) {f : Sg} {x1 : Int32} {x2 : Int32} {x3 : Int32} {x4 : Int32} {Q : Int32 → Sg → Prop} (h : M_X10_isBetter_0 f x1 x2 x3 x4 Q) : MI l D [(cI, .int), (cZ, .boolean)] (rw a cI cZ) yX10_isBetter cX10_isBetter 6 (some .boolean) (1) [.ref (a 0), .int x1, .int x2, .int x3, .int x4] f Q := by
  refine mkI (rw_fix a cI cZ) (by decide +kernel) (Nat.le_of_ble_eq_true rfl) (fun o C hQ => ?_)
  show Go o D (rw a cI cZ) 0 [(0, .ref (a 0)), (1, .int x1), (2, .int x2), (3, .int x3), (4, .int x4)] [] f
  unfold M_X10_isBetter_0 at h
  refine g_aload_n C 0 dX10_isBetter_0 rfl ?_
  refine gf_RX10_7_X10 C re_0 rfl dX10_isBetter_1 ?_
  refine g_bipush C 8 dX10_isBetter_4 (by decide) ?_
  refine g_iload_n C 1 dX10_isBetter_6 rfl ?_
  refine g_iadd C dX10_isBetter_7 ?_
  obtain ⟨hi1, h⟩ := h
  refine g_iald C 0 re_1 rfl hi1 dX10_isBetter_8 ?_
  refine g_callSi C (As := [.int (f 1 ((8 : Int32) + x1 : Int32).toNatClampNeg)]) (st := []) (fun l => c_X10_size l D a cI cZ h) cl_RX10_119 (by omega) rfl (Nat.le_of_ble_eq_true rfl) dX10_isBetter_9 (fun r3 g2 h => ?_)
  refine g_aload_n C 0 dX10_isBetter_12 rfl ?_
  refine gf_RX10_7_X10 C re_0 rfl dX10_isBetter_13 ?_
  refine g_bipush C 8 dX10_isBetter_16 (by decide) ?_
  refine g_iload_n C 3 dX10_isBetter_18 rfl ?_
  refine g_iadd C dX10_isBetter_19 ?_
  obtain ⟨hi4, h⟩ := h
  refine g_iald C 0 re_1 rfl hi4 dX10_isBetter_20 ?_
  refine g_callSi C (As := [.int (g2 1 ((8 : Int32) + x3 : Int32).toNatClampNeg)]) (st := [.int r3]) (fun l => c_X10_size l D a cI cZ h) cl_RX10_119 (by omega) rfl (Nat.le_of_ble_eq_true rfl) dX10_isBetter_21 (fun r6 g5 h => ?_)
  refine g_isub C dX10_isBetter_24 ?_
  refine g_top (fun z7 ez7 => ?_)
  have h := h z7 ez7
  refine g_istore (lv' := [(5, .int z7), (0, .ref (a 0)), (1, .int x1), (2, .int x2), (3, .int x3), (4, .int x4)]) C dX10_isBetter_25 (by decide) rfl ?_
  refine g_iload_n C 3 dX10_isBetter_27 rfl ?_
  refine g_iload C 5 dX10_isBetter_28 rfl ?_
  refine g_icmp_eq C 47 dX10_isBetter_30 (by decide) (fun c8 => ?_) (fun c8 => ?_)
  · have h := h.1 c8
    refine g_iload C 0 dX10_isBetter_47 rfl ?_
    refine g_if_eq C 65 dX10_isBetter_49 (by decide) (fun c9 => ?_) (fun c9 => ?_)
    · have h := h.1 c9
      refine g_aload_n C 1 dX10_isBetter_65 rfl ?_
      refine gf_RX10_32_X10 C re_0 rfl dX10_isBetter_66 ?_
      refine g_iload_n C 2 dX10_isBetter_69 rfl ?_
      obtain ⟨hi10, h⟩ := h
      refine g_iald C 0 re_8 rfl hi10 dX10_isBetter_70 ?_
      refine g_aload_n C 1 dX10_isBetter_71 rfl ?_
      refine gf_RX10_32_X10 C re_0 rfl dX10_isBetter_72 ?_
      refine g_iload_n C 4 dX10_isBetter_75 rfl ?_
      obtain ⟨hi11, h⟩ := h
      refine g_iald C 0 re_8 rfl hi11 dX10_isBetter_76 ?_
      refine g_icmp_le C 84 dX10_isBetter_77 (by decide) (fun c12 => ?_) (fun c12 => ?_)
      · have h := h.1 c12
        refine g_iconst C 0 dX10_isBetter_84 (by decide) ?_
        refine g_sub (lv' := []) [] rfl ?_
        exact t_X10_isBetter_0_85 C hQ h
      · have h := h.2 c12
        refine g_iconst C 1 dX10_isBetter_80 (by decide) ?_
        refine g_goto C 85 dX10_isBetter_81 (by decide) ?_
        refine g_sub (lv' := []) [] rfl ?_
        exact t_X10_isBetter_0_85 C hQ h
    · have h := h.2 c9
      refine g_iload C 0 dX10_isBetter_52 rfl ?_
      refine g_if_le C 61 dX10_isBetter_54 (by decide) (fun c13 => ?_) (fun c13 => ?_)
      · have h := h.1 c13
        refine g_iconst C 0 dX10_isBetter_61 (by decide) ?_
        refine g_goto C 85 dX10_isBetter_62 (by decide) ?_
        refine g_sub (lv' := []) [] rfl ?_
        exact t_X10_isBetter_0_85 C hQ h
      · have h := h.2 c13
        refine g_iconst C 1 dX10_isBetter_57 (by decide) ?_
        refine g_goto C 85 dX10_isBetter_58 (by decide) ?_
        refine g_sub (lv' := []) [] rfl ?_
        exact t_X10_isBetter_0_85 C hQ h
  · have h := h.2 c8
    refine g_iload_n C 3 dX10_isBetter_33 rfl ?_
    refine g_iload C 5 dX10_isBetter_34 rfl ?_
    refine g_icmp_ge C 43 dX10_isBetter_36 (by decide) (fun c14 => ?_) (fun c14 => ?_)
    · have h := h.1 c14
      refine g_iconst C 0 dX10_isBetter_43 (by decide) ?_
      refine g_goto C 85 dX10_isBetter_44 (by decide) ?_
      refine g_sub (lv' := []) [] rfl ?_
      exact t_X10_isBetter_0_85 C hQ h
    · have h := h.2 c14
      refine g_iconst C 1 dX10_isBetter_39 (by decide) ?_
      refine g_goto C 85 dX10_isBetter_40 (by decide) ?_
      refine g_sub (lv' := []) [] rfl ?_
      exact t_X10_isBetter_0_85 C hQ h
/-! X10_taken_0: rank 3 -/
def J_X10_taken_0_77 (Q : Int32 → Sg → Prop) (K21 : Sg → Int32 → Int32 → Int32 → Int32 → Int32 → Prop) (f : Sg) (x1 : Int32) (x2 : Int32) (x3 : Int32) (x4 : Int32) (x5 : Int32) : Prop :=
  K21 f x1 x2 x3 x4 (x5 + 1)
def J_X10_taken_0_70 (Q : Int32 → Sg → Prop) (K21 : Sg → Int32 → Int32 → Int32 → Int32 → Int32 → Prop) (f : Sg) (x1 : Int32) (x2 : Int32) (x5 : Int32) (x6 : Int32) : Prop :=
  J_X10_taken_0_77 Q K21 f x1 x2 x5 x6 x5
def B_X10_taken_0_21 (Q : Int32 → Sg → Prop) (K21 : Sg → Int32 → Int32 → Int32 → Int32 → Int32 → Prop) (f : Sg) (x1 : Int32) (x2 : Int32) (x3 : Int32) (x4 : Int32) (x5 : Int32) : Prop :=
  (5 ≤ x5 → vp_in x1 9 ∧ ∀ g7 : Sg, g7 = va_up f 5 (upd (f 5) (x1 : Int32).toNatClampNeg x2) → Q x3 g7) ∧ (¬ 5 ≤ x5 → vp_in x5 5 ∧ ((f 8 (x5 : Int32).toNatClampNeg) ≤ 0 → J_X10_taken_0_77 Q K21 f x1 x2 x3 x4 x5) ∧ (¬ (f 8 (x5 : Int32).toNatClampNeg) ≤ 0 → vp_in x1 9 ∧ ∀ g11 : Sg, g11 = va_up f 5 (upd (f 5) (x1 : Int32).toNatClampNeg x5) → M_X10_breaksAt_0 g11 x1 (fun r13 g12 => (x3 < 0 → J_X10_taken_0_70 Q K21 g12 x1 x2 x5 r13) ∧ (¬ x3 < 0 → M_X10_isBetter_0 g12 x5 r13 x3 x4 (fun r16 g15 => (r16 = 0 → J_X10_taken_0_77 Q K21 g15 x1 x2 x3 x4 x5) ∧ (¬ r16 = 0 → J_X10_taken_0_70 Q K21 g15 x1 x2 x5 r13))))))
def M_X10_taken_0 (f : Sg) (x1 : Int32) (Q : Int32 → Sg → Prop) : Prop :=
  M_X10_layLeft_0 f x1 (fun g1 => vp_in x1 9 ∧ ∀ z4 : Int32, z4 = g1 5 (x1 : Int32).toNatClampNeg → ∃ n : Nat, itr5 (B_X10_taken_0_21 Q) n g1 x1 z4 (-6) 0 0)
set_option maxHeartbeats 4000000 in
theorem t_X10_taken_0_77 {o : Om} {D : va_G} {a : Nat → Nat} {cI cZ : ClassId} {Q : Int32 → Sg → Prop} {K21 : Sg → Int32 → Int32 → Int32 → Int32 → Int32 → Prop} (C : Cx o D [(cI, .int), (cZ, .boolean)] (rw a cI cZ) RX10 cX10_taken (some .int) 3 7) (hQ : RetI o D (rw a cI cZ) Q) (hK21 : ∀ (g : Sg) (x1 : Int32) (x2 : Int32) (x3 : Int32) (x4 : Int32) (x5 : Int32), K21 g x1 x2 x3 x4 x5 → Go o D (rw a cI cZ) 21 [(0, .ref (a 0)), (1, .int x1), (2, .int x2), (3, .int x3), (4, .int x4), (5, .int x5)] [] g) {f : Sg} {x1 : Int32} {x2 : Int32} {x3 : Int32} {x4 : Int32} {x5 : Int32} (h : J_X10_taken_0_77 Q K21 f x1 x2 x3 x4 x5) : Go o D (rw a cI cZ) 77 [(0, .ref (a 0)), (1, .int x1), (2, .int x2), (3, .int x3), (4, .int x4), (5, .int x5)] [] f := by
  unfold J_X10_taken_0_77 at h
  refine g_iinc (lv' := [(5, .int (x5 + 1)), (0, .ref (a 0)), (1, .int x1), (2, .int x2), (3, .int x3), (4, .int x4)]) C 5 dX10_taken_77 rfl rfl (by decide) rfl ?_
  refine g_goto C 21 dX10_taken_80 (by decide) ?_
  refine g_sub (lv' := [(0, .ref (a 0)), (1, .int x1), (2, .int x2), (3, .int x3), (4, .int x4), (5, .int (x5 + 1))]) [1, 2, 3, 4, 5, 0] rfl ?_
  exact hK21 f x1 x2 x3 x4 (x5 + 1) h
set_option maxHeartbeats 4000000 in
theorem t_X10_taken_0_70 {o : Om} {D : va_G} {a : Nat → Nat} {cI cZ : ClassId} {Q : Int32 → Sg → Prop} {K21 : Sg → Int32 → Int32 → Int32 → Int32 → Int32 → Prop} (C : Cx o D [(cI, .int), (cZ, .boolean)] (rw a cI cZ) RX10 cX10_taken (some .int) 3 7) (hQ : RetI o D (rw a cI cZ) Q) (hK21 : ∀ (g : Sg) (x1 : Int32) (x2 : Int32) (x3 : Int32) (x4 : Int32) (x5 : Int32), K21 g x1 x2 x3 x4 x5 → Go o D (rw a cI cZ) 21 [(0, .ref (a 0)), (1, .int x1), (2, .int x2), (3, .int x3), (4, .int x4), (5, .int x5)] [] g) {f : Sg} {x1 : Int32} {x2 : Int32} {x5 : Int32} {x6 : Int32} (h : J_X10_taken_0_70 Q K21 f x1 x2 x5 x6) : Go o D (rw a cI cZ) 70 [(0, .ref (a 0)), (1, .int x1), (2, .int x2), (5, .int x5), (6, .int x6)] [] f := by
  unfold J_X10_taken_0_70 at h
  refine g_iload C 3 dX10_taken_70 rfl ?_
  refine g_istore_n (lv' := [(3, .int x5), (0, .ref (a 0)), (1, .int x1), (2, .int x2), (5, .int x5), (6, .int x6)]) C dX10_taken_72 (by decide) rfl ?_
  refine g_iload C 5 dX10_taken_73 rfl ?_
  refine g_istore (lv' := [(4, .int x6), (3, .int x5), (0, .ref (a 0)), (1, .int x1), (2, .int x2), (5, .int x5), (6, .int x6)]) C dX10_taken_75 (by decide) rfl ?_
  refine g_sub (lv' := [(0, .ref (a 0)), (1, .int x1), (2, .int x2), (3, .int x5), (4, .int x6), (5, .int x5)]) [2, 3, 4, 1, 0, 5] rfl ?_
  exact t_X10_taken_0_77 C hQ hK21 h
set_option maxHeartbeats 4000000 in
theorem t_X10_taken_0_21 {o : Om} {D : va_G} {a : Nat → Nat} {cI cZ : ClassId} {Q : Int32 → Sg → Prop} (C : Cx o D [(cI, .int), (cZ, .boolean)] (rw a cI cZ) RX10 cX10_taken (some .int) 3 7) (hQ : RetI o D (rw a cI cZ) Q) : ∀ (n : Nat) (f : Sg) (x1 : Int32) (x2 : Int32) (x3 : Int32) (x4 : Int32) (x5 : Int32), itr5 (B_X10_taken_0_21 Q) n f x1 x2 x3 x4 x5 → Go o D (rw a cI cZ) 21 [(0, .ref (a 0)), (1, .int x1), (2, .int x2), (3, .int x3), (4, .int x4), (5, .int x5)] [] f := by
  intro n
  induction n with
  | zero => intro f x1 x2 x3 x4 x5 h; exact h.elim
  | succ n ih =>
    intro f x1 x2 x3 x4 x5 h
    have h : B_X10_taken_0_21 Q (itr5 (B_X10_taken_0_21 Q) n) f x1 x2 x3 x4 x5 := h
    have hK21 := ih
    generalize itr5 (B_X10_taken_0_21 Q) n = K21 at h hK21
    clear ih
    unfold B_X10_taken_0_21 at h
    refine g_iload C 5 dX10_taken_21 rfl ?_
    refine g_iconst C 5 dX10_taken_23 (by decide) ?_
    refine g_icmp_ge C 83 dX10_taken_24 (by decide) (fun c5 => ?_) (fun c5 => ?_)
    · have h := h.1 c5
      refine g_aload_n C 0 dX10_taken_83 rfl ?_
      refine gf_RX10_23_X10 C re_0 rfl dX10_taken_84 ?_
      refine g_iload_n C 1 dX10_taken_87 rfl ?_
      refine g_iload_n C 2 dX10_taken_88 rfl ?_
      obtain ⟨hi6, h⟩ := h
      obtain ⟨g7, eg7⟩ : ∃ g : Sg, g = va_up f 5 (upd (f 5) (x1 : Int32).toNatClampNeg x2) := ⟨_, rfl⟩
      have h := h g7 eg7
      refine g_iast C 0 re_5 rfl (g := g7) (by rw [eg7]; exact rs_5) hi6 dX10_taken_89 ?_
      refine g_iload_n C 3 dX10_taken_90 rfl ?_
      exact g_iret C hQ dX10_taken_91 h
    · have h := h.2 c5
      refine g_aload_n C 0 dX10_taken_27 rfl ?_
      refine gf_RX10_32_X10 C re_0 rfl dX10_taken_28 ?_
      refine g_iload C 5 dX10_taken_31 rfl ?_
      obtain ⟨hi8, h⟩ := h
      refine g_iald C 0 re_8 rfl hi8 dX10_taken_33 ?_
      refine g_if_le C 77 dX10_taken_34 (by decide) (fun c9 => ?_) (fun c9 => ?_)
      · have h := h.1 c9
        refine g_sub (lv' := [(0, .ref (a 0)), (1, .int x1), (2, .int x2), (3, .int x3), (4, .int x4), (5, .int x5)]) [0, 1, 2, 3, 4, 5] rfl ?_
        exact t_X10_taken_0_77 C hQ hK21 h
      · have h := h.2 c9
        refine g_aload_n C 0 dX10_taken_37 rfl ?_
        refine gf_RX10_23_X10 C re_0 rfl dX10_taken_38 ?_
        refine g_iload_n C 1 dX10_taken_41 rfl ?_
        refine g_iload C 5 dX10_taken_42 rfl ?_
        obtain ⟨hi10, h⟩ := h
        obtain ⟨g11, eg11⟩ : ∃ g : Sg, g = va_up f 5 (upd (f 5) (x1 : Int32).toNatClampNeg x5) := ⟨_, rfl⟩
        have h := h g11 eg11
        refine g_iast C 0 re_5 rfl (g := g11) (by rw [eg11]; exact rs_5) hi10 dX10_taken_44 ?_
        refine g_aload_n C 0 dX10_taken_45 rfl ?_
        refine g_iload_n C 1 dX10_taken_46 rfl ?_
        refine g_callVi C (As := [.int x1]) (st := []) (fun l => c_X10_breaksAt_0 l D a cI cZ h) cl_RX10_75_X10 rfl re_0 (by omega) rfl (Nat.le_of_ble_eq_true rfl) dX10_taken_47 (fun r13 g12 h => ?_)
        refine g_istore (lv' := [(6, .int r13), (0, .ref (a 0)), (1, .int x1), (2, .int x2), (3, .int x3), (4, .int x4), (5, .int x5)]) C dX10_taken_50 (by decide) rfl ?_
        refine g_iload_n C 4 dX10_taken_52 rfl ?_
        refine g_if_lt C 70 dX10_taken_53 (by decide) (fun c14 => ?_) (fun c14 => ?_)
        · have h := h.1 c14
          refine g_sub (lv' := [(0, .ref (a 0)), (1, .int x1), (2, .int x2), (5, .int x5), (6, .int r13)]) [1, 2, 3, 6, 0] rfl ?_
          exact t_X10_taken_0_70 C hQ hK21 h
        · have h := h.2 c14
          refine g_aload_n C 1 dX10_taken_56 rfl ?_
          refine g_iload C 6 dX10_taken_57 rfl ?_
          refine g_iload C 0 dX10_taken_59 rfl ?_
          refine g_iload_n C 4 dX10_taken_61 rfl ?_
          refine g_iload C 5 dX10_taken_62 rfl ?_
          refine g_callVi C (As := [.int x5, .int r13, .int x3, .int x4]) (st := []) (fun l => c_X10_isBetter_0 l D a cI cZ h) cl_RX10_126_X10 rfl re_0 (by omega) rfl (Nat.le_of_ble_eq_true rfl) dX10_taken_64 (fun r16 g15 h => ?_)
          refine g_if_eq C 77 dX10_taken_67 (by decide) (fun c17 => ?_) (fun c17 => ?_)
          · have h := h.1 c17
            refine g_sub (lv' := [(0, .ref (a 0)), (1, .int x1), (2, .int x2), (3, .int x3), (4, .int x4), (5, .int x5)]) [1, 2, 3, 4, 5, 6] rfl ?_
            exact t_X10_taken_0_77 C hQ hK21 h
          · have h := h.2 c17
            refine g_sub (lv' := [(0, .ref (a 0)), (1, .int x1), (2, .int x2), (5, .int x5), (6, .int r13)]) [1, 2, 3, 6, 0] rfl ?_
            exact t_X10_taken_0_70 C hQ hK21 h
set_option maxHeartbeats 4000000 in
theorem c_X10_taken_0 (l : Launch) (D : va_G) (a : Nat → Nat) (cI cZ : ClassId) {f : Sg} {x1 : Int32} {Q : Int32 → Sg → Prop} (h : M_X10_taken_0 f x1 Q) : MI l D [(cI, .int), (cZ, .boolean)] (rw a cI cZ) yX10_taken cX10_taken 7 (some .int) (3) [.ref (a 0), .int x1] f Q := by
  refine mkI (rw_fix a cI cZ) (by decide +kernel) (Nat.le_of_ble_eq_true rfl) (fun o C hQ => ?_)
  show Go o D (rw a cI cZ) 0 [(0, .ref (a 0)), (1, .int x1)] [] f
  unfold M_X10_taken_0 at h
  refine g_aload_n C 0 dX10_taken_0 rfl ?_
  refine g_iload_n C 1 dX10_taken_1 rfl ?_
  refine g_callVv C (As := [.int x1]) (st := []) (fun l => c_X10_layLeft_0 l D a cI cZ h) cl_RX10_122_X10 rfl re_0 (by omega) rfl (Nat.le_of_ble_eq_true rfl) dX10_taken_2 (fun g1 h => ?_)
  refine g_aload_n C 0 dX10_taken_5 rfl ?_
  refine gf_RX10_23_X10 C re_0 rfl dX10_taken_6 ?_
  refine g_iload_n C 1 dX10_taken_9 rfl ?_
  obtain ⟨hi3, h⟩ := h
  refine g_iald C 0 re_5 rfl hi3 dX10_taken_10 ?_
  refine g_top (fun z4 ez4 => ?_)
  have h := h z4 ez4
  refine g_istore_n (lv' := [(2, .int z4), (0, .ref (a 0)), (1, .int x1)]) C dX10_taken_11 (by decide) rfl ?_
  refine g_bipush C (-6) dX10_taken_12 (by decide) ?_
  refine g_istore_n (lv' := [(3, .int (-6)), (2, .int z4), (0, .ref (a 0)), (1, .int x1)]) C dX10_taken_14 (by decide) rfl ?_
  refine g_iconst C 0 dX10_taken_15 (by decide) ?_
  refine g_istore (lv' := [(4, .int 0), (3, .int (-6)), (2, .int z4), (0, .ref (a 0)), (1, .int x1)]) C dX10_taken_16 (by decide) rfl ?_
  refine g_iconst C 0 dX10_taken_18 (by decide) ?_
  refine g_istore (lv' := [(5, .int 0), (4, .int 0), (3, .int (-6)), (2, .int z4), (0, .ref (a 0)), (1, .int x1)]) C dX10_taken_19 (by decide) rfl ?_
  refine g_sub (lv' := [(0, .ref (a 0)), (1, .int x1), (2, .int z4), (3, .int (-6)), (4, .int 0), (5, .int 0)]) [4, 5, 3, 2, 1, 0] rfl ?_
  obtain ⟨n, h⟩ := h
  exact t_X10_taken_0_21 C hQ n g1 x1 z4 (-6) 0 0 h
/-! X10_goRule_0: rank 4 -/
def B_X10_goRule_0_6 (Q : Sg → Prop) (K6 : Sg → Int32 → Prop) (f : Sg) (x1 : Int32) : Prop :=
  ((f 0 6) ≤ x1 → Q f) ∧ (¬ (f 0 6) ≤ x1 → M_X10_taken_0 f x1 (fun r5 g4 => vp_in x1 9 ∧ ∀ g7 : Sg, g7 = va_up g4 5 (upd (g4 5) (x1 : Int32).toNatClampNeg r5) → K6 g7 (x1 + 1)))
def M_X10_goRule_0 (f : Sg) (Q : Sg → Prop) : Prop :=
  M_X10_firstOrder_0 f (fun g1 => ∃ n : Nat, itr1 (B_X10_goRule_0_6 Q) n g1 0)
set_option maxHeartbeats 4000000 in
theorem t_X10_goRule_0_6 {o : Om} {D : va_G} {a : Nat → Nat} {cI cZ : ClassId} {Q : Sg → Prop} (C : Cx o D [(cI, .int), (cZ, .boolean)] (rw a cI cZ) RX10 cX10_goRule none 4 2) (hQ : RetV o D (rw a cI cZ) Q) : ∀ (n : Nat) (f : Sg) (x1 : Int32), itr1 (B_X10_goRule_0_6 Q) n f x1 → Go o D (rw a cI cZ) 6 [(0, .ref (a 0)), (1, .int x1)] [] f := by
  intro n
  induction n with
  | zero => intro f x1 h; exact h.elim
  | succ n ih =>
    intro f x1 h
    have h : B_X10_goRule_0_6 Q (itr1 (B_X10_goRule_0_6 Q) n) f x1 := h
    have hK6 := ih
    generalize itr1 (B_X10_goRule_0_6 Q) n = K6 at h hK6
    clear ih
    unfold B_X10_goRule_0_6 at h
    refine g_iload_n C 1 dX10_goRule_6 rfl ?_
    refine g_aload_n C 0 dX10_goRule_7 rfl ?_
    refine gf_RX10_71_X10 C re_0 rfl dX10_goRule_8 ?_
    refine g_icmp_ge C 31 dX10_goRule_11 (by decide) (fun c3 => ?_) (fun c3 => ?_)
    · have h := h.1 c3
      exact g_vret C hQ dX10_goRule_31 h
    · have h := h.2 c3
      refine g_aload_n C 0 dX10_goRule_14 rfl ?_
      refine gf_RX10_23_X10 C re_0 rfl dX10_goRule_15 ?_
      refine g_iload_n C 1 dX10_goRule_18 rfl ?_
      refine g_aload_n C 0 dX10_goRule_19 rfl ?_
      refine g_iload_n C 1 dX10_goRule_20 rfl ?_
      refine g_callVi C (As := [.int x1]) (st := [.int x1, .ref (a 5)]) (fun l => c_X10_taken_0 l D a cI cZ h) cl_RX10_130_X10 rfl re_0 (by omega) rfl (Nat.le_of_ble_eq_true rfl) dX10_goRule_21 (fun r5 g4 h => ?_)
      obtain ⟨hi6, h⟩ := h
      obtain ⟨g7, eg7⟩ : ∃ g : Sg, g = va_up g4 5 (upd (g4 5) (x1 : Int32).toNatClampNeg r5) := ⟨_, rfl⟩
      have h := h g7 eg7
      refine g_iast C 0 re_5 rfl (g := g7) (by rw [eg7]; exact rs_5) hi6 dX10_goRule_24 ?_
      refine g_iinc (lv' := [(1, .int (x1 + 1)), (0, .ref (a 0))]) C 1 dX10_goRule_25 rfl rfl (by decide) rfl ?_
      refine g_goto C 6 dX10_goRule_28 (by decide) ?_
      refine g_sub (lv' := [(0, .ref (a 0)), (1, .int (x1 + 1))]) [1, 0] rfl ?_
      exact hK6 g7 (x1 + 1) h
set_option maxHeartbeats 4000000 in
theorem c_X10_goRule_0 (l : Launch) (D : va_G) (a : Nat → Nat) (cI cZ : ClassId) {f : Sg} {Q : Sg → Prop} (h : M_X10_goRule_0 f Q) : MV l D [(cI, .int), (cZ, .boolean)] (rw a cI cZ) yX10_goRule cX10_goRule 2 (4) [.ref (a 0)] f Q := by
  refine mkV (rw_fix a cI cZ) (by decide +kernel) (Nat.le_of_ble_eq_true rfl) (fun o C hQ => ?_)
  show Go o D (rw a cI cZ) 0 [(0, .ref (a 0))] [] f
  unfold M_X10_goRule_0 at h
  refine g_aload_n C 0 dX10_goRule_0 rfl ?_
  refine g_callVv C (As := []) (st := []) (fun l => c_X10_firstOrder_0 l D a cI cZ h) cl_RX10_85_X10 rfl re_0 (by omega) rfl (Nat.le_of_ble_eq_true rfl) dX10_goRule_1 (fun g1 h => ?_)
  refine g_iconst C 0 dX10_goRule_4 (by decide) ?_
  refine g_istore_n (lv' := [(1, .int 0), (0, .ref (a 0))]) C dX10_goRule_5 (by decide) rfl ?_
  refine g_sub (lv' := [(0, .ref (a 0)), (1, .int 0)]) [1, 0] rfl ?_
  obtain ⟨n, h⟩ := h
  exact t_X10_goRule_0_6 C hQ n g1 0 h
/-! X10_rule_0: rank 5 -/
def J_X10_rule_0_43 (Q : Int32 → Sg → Prop) (f : Sg) (s0 : Int32) : Prop :=
  Q s0 f
def M_X10_rule_0 (f : Sg) (x1 : Int32) (Q : Int32 → Sg → Prop) : Prop :=
  ((-1) ≤ x1 → M_X10_goRule_0 f (fun g2 => (x1 = (-1) → M_X10_breaks_0 g2 (fun r8 g7 => J_X10_rule_0_43 Q g7 r8)) ∧ (¬ x1 = (-1) → ((g2 0 6) ≤ x1 → J_X10_rule_0_43 Q g2 (-6)) ∧ (¬ (g2 0 6) ≤ x1 → vp_in x1 9 ∧ J_X10_rule_0_43 Q g2 (g2 5 (x1 : Int32).toNatClampNeg))))) ∧ (¬ (-1) ≤ x1 → Q (-2) f)
set_option maxHeartbeats 4000000 in
theorem t_X10_rule_0_43 {o : Om} {D : va_G} {a : Nat → Nat} {cI cZ : ClassId} {Q : Int32 → Sg → Prop} (C : Cx o D [(cI, .int), (cZ, .boolean)] (rw a cI cZ) RX10 cX10_rule (some .int) 5 2) (hQ : RetI o D (rw a cI cZ) Q) {f : Sg} {s0 : Int32} (h : J_X10_rule_0_43 Q f s0) : Go o D (rw a cI cZ) 43 [] [.int s0] f := by
  unfold J_X10_rule_0_43 at h
  exact g_iret C hQ dX10_rule_43 h
set_option maxHeartbeats 4000000 in
theorem c_X10_rule_0 (l : Launch) (D : va_G) (a : Nat → Nat) (cI cZ : ClassId) {f : Sg} {x1 : Int32} {Q : Int32 → Sg → Prop} (h : M_X10_rule_0 f x1 Q) : MI l D [(cI, .int), (cZ, .boolean)] (rw a cI cZ) yX10_rule cX10_rule 2 (some .int) (5) [.ref (a 0), .int x1] f Q := by
  refine mkI (rw_fix a cI cZ) (by decide +kernel) (Nat.le_of_ble_eq_true rfl) (fun o C hQ => ?_)
  show Go o D (rw a cI cZ) 0 [(0, .ref (a 0)), (1, .int x1)] [] f
  unfold M_X10_rule_0 at h
  refine g_iload_n C 1 dX10_rule_0 rfl ?_
  refine g_iconst C (-1) dX10_rule_1 (by decide) ?_
  refine g_icmp_ge C 8 dX10_rule_2 (by decide) (fun c1 => ?_) (fun c1 => ?_)
  · have h := h.1 c1
    refine g_aload_n C 0 dX10_rule_8 rfl ?_
    refine g_callVv C (As := []) (st := []) (fun l => c_X10_goRule_0 l D a cI cZ h) cl_RX10_133_X10 rfl re_0 (by omega) rfl (Nat.le_of_ble_eq_true rfl) dX10_rule_9 (fun g2 h => ?_)
    refine g_iload_n C 1 dX10_rule_12 rfl ?_
    refine g_iconst C (-1) dX10_rule_13 (by decide) ?_
    refine g_icmp_ne C 24 dX10_rule_14 (by decide) (fun c4 => ?_) (fun c4 => ?_)
    · have h := h.2 c4
      refine g_iload_n C 1 dX10_rule_24 rfl ?_
      refine g_aload_n C 0 dX10_rule_25 rfl ?_
      refine gf_RX10_71_X10 C re_0 rfl dX10_rule_26 ?_
      refine g_icmp_ge C 41 dX10_rule_29 (by decide) (fun c5 => ?_) (fun c5 => ?_)
      · have h := h.1 c5
        refine g_bipush C (-6) dX10_rule_41 (by decide) ?_
        refine g_sub (lv' := []) [] rfl ?_
        exact t_X10_rule_0_43 C hQ h
      · have h := h.2 c5
        refine g_aload_n C 0 dX10_rule_32 rfl ?_
        refine gf_RX10_23_X10 C re_0 rfl dX10_rule_33 ?_
        refine g_iload_n C 1 dX10_rule_36 rfl ?_
        obtain ⟨hi6, h⟩ := h
        refine g_iald C 0 re_5 rfl hi6 dX10_rule_37 ?_
        refine g_goto C 43 dX10_rule_38 (by decide) ?_
        refine g_sub (lv' := []) [] rfl ?_
        exact t_X10_rule_0_43 C hQ h
    · have h := h.1 c4
      refine g_aload_n C 0 dX10_rule_17 rfl ?_
      refine g_callVi C (As := []) (st := []) (fun l => c_X10_breaks_0 l D a cI cZ h) cl_RX10_88_X10 rfl re_0 (by omega) rfl (Nat.le_of_ble_eq_true rfl) dX10_rule_18 (fun r8 g7 h => ?_)
      refine g_goto C 43 dX10_rule_21 (by decide) ?_
      refine g_sub (lv' := []) [] rfl ?_
      exact t_X10_rule_0_43 C hQ h
  · have h := h.2 c1
    refine g_bipush C (-2) dX10_rule_5 (by decide) ?_
    exact g_iret C hQ dX10_rule_7 h
/-! X10_off_0: rank 4 -/
def J_X10_off_0_32 (Q : Int32 → Sg → Prop) (K4 : Sg → Int32 → Int32 → Prop) (f : Sg) (x2 : Int32) (s0 : Int32) (s1 : Int32) : Prop :=
  ∀ z6 : Int32, z6 = s1 + s0 → K4 f z6 (x2 + 1)
def B_X10_off_0_4 (Q : Int32 → Sg → Prop) (K4 : Sg → Int32 → Int32 → Prop) (f : Sg) (x1 : Int32) (x2 : Int32) : Prop :=
  ((f 0 6) ≤ x2 → Q x1 f) ∧ (¬ (f 0 6) ≤ x2 → M_X10_taken_0 f x2 (fun r3 g2 => vp_in x2 9 ∧ (r3 = (g2 5 (x2 : Int32).toNatClampNeg) → J_X10_off_0_32 Q K4 g2 x2 0 x1) ∧ (¬ r3 = (g2 5 (x2 : Int32).toNatClampNeg) → J_X10_off_0_32 Q K4 g2 x2 1 x1)))
def M_X10_off_0 (f : Sg) (Q : Int32 → Sg → Prop) : Prop :=
  ∃ n : Nat, itr2 (B_X10_off_0_4 Q) n f 0 0
set_option maxHeartbeats 4000000 in
theorem t_X10_off_0_32 {o : Om} {D : va_G} {a : Nat → Nat} {cI cZ : ClassId} {Q : Int32 → Sg → Prop} {K4 : Sg → Int32 → Int32 → Prop} (C : Cx o D [(cI, .int), (cZ, .boolean)] (rw a cI cZ) RX10 cX10_off (some .int) 4 3) (hQ : RetI o D (rw a cI cZ) Q) (hK4 : ∀ (g : Sg) (x1 : Int32) (x2 : Int32), K4 g x1 x2 → Go o D (rw a cI cZ) 4 [(0, .ref (a 0)), (1, .int x1), (2, .int x2)] [] g) {f : Sg} {x2 : Int32} {s0 : Int32} {s1 : Int32} (h : J_X10_off_0_32 Q K4 f x2 s0 s1) : Go o D (rw a cI cZ) 32 [(0, .ref (a 0)), (2, .int x2)] [.int s0, .int s1] f := by
  unfold J_X10_off_0_32 at h
  refine g_iadd C dX10_off_32 ?_
  refine g_top (fun z6 ez6 => ?_)
  have h := h z6 ez6
  refine g_istore_n (lv' := [(1, .int z6), (0, .ref (a 0)), (2, .int x2)]) C dX10_off_33 (by decide) rfl ?_
  refine g_iinc (lv' := [(2, .int (x2 + 1)), (1, .int z6), (0, .ref (a 0))]) C 2 dX10_off_34 rfl rfl (by decide) rfl ?_
  refine g_goto C 4 dX10_off_37 (by decide) ?_
  refine g_sub (lv' := [(0, .ref (a 0)), (1, .int z6), (2, .int (x2 + 1))]) [2, 1, 0] rfl ?_
  exact hK4 f z6 (x2 + 1) h
set_option maxHeartbeats 4000000 in
theorem t_X10_off_0_4 {o : Om} {D : va_G} {a : Nat → Nat} {cI cZ : ClassId} {Q : Int32 → Sg → Prop} (C : Cx o D [(cI, .int), (cZ, .boolean)] (rw a cI cZ) RX10 cX10_off (some .int) 4 3) (hQ : RetI o D (rw a cI cZ) Q) : ∀ (n : Nat) (f : Sg) (x1 : Int32) (x2 : Int32), itr2 (B_X10_off_0_4 Q) n f x1 x2 → Go o D (rw a cI cZ) 4 [(0, .ref (a 0)), (1, .int x1), (2, .int x2)] [] f := by
  intro n
  induction n with
  | zero => intro f x1 x2 h; exact h.elim
  | succ n ih =>
    intro f x1 x2 h
    have h : B_X10_off_0_4 Q (itr2 (B_X10_off_0_4 Q) n) f x1 x2 := h
    have hK4 := ih
    generalize itr2 (B_X10_off_0_4 Q) n = K4 at h hK4
    clear ih
    unfold B_X10_off_0_4 at h
    refine g_iload_n C 2 dX10_off_4 rfl ?_
    refine g_aload_n C 0 dX10_off_5 rfl ?_
    refine gf_RX10_71_X10 C re_0 rfl dX10_off_6 ?_
    refine g_icmp_ge C 40 dX10_off_9 (by decide) (fun c1 => ?_) (fun c1 => ?_)
    · have h := h.1 c1
      refine g_iload_n C 1 dX10_off_40 rfl ?_
      exact g_iret C hQ dX10_off_41 h
    · have h := h.2 c1
      refine g_iload_n C 1 dX10_off_12 rfl ?_
      refine g_aload_n C 0 dX10_off_13 rfl ?_
      refine g_iload_n C 2 dX10_off_14 rfl ?_
      refine g_callVi C (As := [.int x2]) (st := [.int x1]) (fun l => c_X10_taken_0 l D a cI cZ h) cl_RX10_130_X10 rfl re_0 (by omega) rfl (Nat.le_of_ble_eq_true rfl) dX10_off_15 (fun r3 g2 h => ?_)
      refine g_aload_n C 0 dX10_off_18 rfl ?_
      refine gf_RX10_23_X10 C re_0 rfl dX10_off_19 ?_
      refine g_iload_n C 2 dX10_off_22 rfl ?_
      obtain ⟨hi4, h⟩ := h
      refine g_iald C 0 re_5 rfl hi4 dX10_off_23 ?_
      refine g_icmp_ne C 31 dX10_off_24 (by decide) (fun c5 => ?_) (fun c5 => ?_)
      · have h := h.2 c5
        refine g_iconst C 1 dX10_off_31 (by decide) ?_
        refine g_sub (lv' := [(0, .ref (a 0)), (2, .int x2)]) [0, 2] rfl ?_
        exact t_X10_off_0_32 C hQ hK4 h
      · have h := h.1 c5
        refine g_iconst C 0 dX10_off_27 (by decide) ?_
        refine g_goto C 32 dX10_off_28 (by decide) ?_
        refine g_sub (lv' := [(0, .ref (a 0)), (2, .int x2)]) [0, 2] rfl ?_
        exact t_X10_off_0_32 C hQ hK4 h
set_option maxHeartbeats 4000000 in
theorem c_X10_off_0 (l : Launch) (D : va_G) (a : Nat → Nat) (cI cZ : ClassId) {f : Sg} {Q : Int32 → Sg → Prop} (h : M_X10_off_0 f Q) : MI l D [(cI, .int), (cZ, .boolean)] (rw a cI cZ) yX10_off cX10_off 3 (some .int) (4) [.ref (a 0)] f Q := by
  refine mkI (rw_fix a cI cZ) (by decide +kernel) (Nat.le_of_ble_eq_true rfl) (fun o C hQ => ?_)
  show Go o D (rw a cI cZ) 0 [(0, .ref (a 0))] [] f
  unfold M_X10_off_0 at h
  refine g_iconst C 0 dX10_off_0 (by decide) ?_
  refine g_istore_n (lv' := [(1, .int 0), (0, .ref (a 0))]) C dX10_off_1 (by decide) rfl ?_
  refine g_iconst C 0 dX10_off_2 (by decide) ?_
  refine g_istore_n (lv' := [(2, .int 0), (1, .int 0), (0, .ref (a 0))]) C dX10_off_3 (by decide) rfl ?_
  refine g_sub (lv' := [(0, .ref (a 0)), (1, .int 0), (2, .int 0)]) [2, 1, 0] rfl ?_
  obtain ⟨n, h⟩ := h
  exact t_X10_off_0_4 C hQ n f 0 0 h
/-! X10_near_0: rank 5 -/
def J_X10_near_0_86 (Q : Int32 → Sg → Prop) (f : Sg) (s0 : Int32) : Prop :=
  Q s0 f
def J_X10_near_0_64 (Q : Int32 → Sg → Prop) (K22 : Sg → Int32 → Int32 → Int32 → Prop) (f : Sg) (x1 : Int32) (x2 : Int32) : Prop :=
  M_X10_nextOrder_0 f (fun r13 g12 => K22 g12 x1 x2 r13)
def J_X10_near_0_52 (Q : Int32 → Sg → Prop) (K22 : Sg → Int32 → Int32 → Int32 → Prop) (f : Sg) (x1 : Int32) (x4 : Int32) : Prop :=
  ∀ g17 : Sg, g17 = va_up f 0 (upd (f 0) 9 1) → M_X10_keepBest_0 g17 (fun g18 => J_X10_near_0_64 Q K22 g18 x1 x4)
def B_X10_near_0_22 (Q : Int32 → Sg → Prop) (K22 : Sg → Int32 → Int32 → Int32 → Prop) (f : Sg) (x1 : Int32) (x2 : Int32) (x3 : Int32) : Prop :=
  (x3 = 0 → (x1 = (-1) → J_X10_near_0_86 Q f x2) ∧ (¬ x1 = (-1) → M_X10_told__0 f x1 (fun r8 g7 => J_X10_near_0_86 Q g7 r8))) ∧ (¬ x3 = 0 → M_X10_breaks_0 f (fun r10 g9 => (r10 = 0 → M_X10_off_0 g9 (fun r15 g14 => ((g14 0 9) = 0 → J_X10_near_0_52 Q K22 g14 x1 r15) ∧ (¬ (g14 0 9) = 0 → (x2 ≤ r15 → J_X10_near_0_64 Q K22 g14 x1 x2) ∧ (¬ x2 ≤ r15 → J_X10_near_0_52 Q K22 g14 x1 r15)))) ∧ (¬ r10 = 0 → J_X10_near_0_64 Q K22 g9 x1 x2)))
def M_X10_near_0 (f : Sg) (x1 : Int32) (Q : Int32 → Sg → Prop) : Prop :=
  ((-1) ≤ x1 → ∀ g2 : Sg, g2 = va_up f 0 (upd (f 0) 9 0) → M_X10_firstOrder_0 g2 (fun g3 => ∃ n : Nat, itr3 (B_X10_near_0_22 Q) n g3 x1 (-6) 1)) ∧ (¬ (-1) ≤ x1 → Q (-2) f)
set_option maxHeartbeats 4000000 in
theorem t_X10_near_0_86 {o : Om} {D : va_G} {a : Nat → Nat} {cI cZ : ClassId} {Q : Int32 → Sg → Prop} (C : Cx o D [(cI, .int), (cZ, .boolean)] (rw a cI cZ) RX10 cX10_near (some .int) 5 5) (hQ : RetI o D (rw a cI cZ) Q) {f : Sg} {s0 : Int32} (h : J_X10_near_0_86 Q f s0) : Go o D (rw a cI cZ) 86 [] [.int s0] f := by
  unfold J_X10_near_0_86 at h
  exact g_iret C hQ dX10_near_86 h
set_option maxHeartbeats 4000000 in
theorem t_X10_near_0_64 {o : Om} {D : va_G} {a : Nat → Nat} {cI cZ : ClassId} {Q : Int32 → Sg → Prop} {K22 : Sg → Int32 → Int32 → Int32 → Prop} (C : Cx o D [(cI, .int), (cZ, .boolean)] (rw a cI cZ) RX10 cX10_near (some .int) 5 5) (hQ : RetI o D (rw a cI cZ) Q) (hK22 : ∀ (g : Sg) (x1 : Int32) (x2 : Int32) (x3 : Int32), K22 g x1 x2 x3 → Go o D (rw a cI cZ) 22 [(0, .ref (a 0)), (1, .int x1), (2, .int x2), (3, .int x3)] [] g) {f : Sg} {x1 : Int32} {x2 : Int32} (h : J_X10_near_0_64 Q K22 f x1 x2) : Go o D (rw a cI cZ) 64 [(0, .ref (a 0)), (1, .int x1), (2, .int x2)] [] f := by
  unfold J_X10_near_0_64 at h
  refine g_aload_n C 0 dX10_near_64 rfl ?_
  refine g_callVi C (As := []) (st := []) (fun l => c_X10_nextOrder_0 l D a cI cZ h) cl_RX10_94_X10 rfl re_0 (by omega) rfl (Nat.le_of_ble_eq_true rfl) dX10_near_65 (fun r13 g12 h => ?_)
  refine g_istore_n (lv' := [(3, .int r13), (0, .ref (a 0)), (1, .int x1), (2, .int x2)]) C dX10_near_68 (by decide) rfl ?_
  refine g_goto C 22 dX10_near_69 (by decide) ?_
  refine g_sub (lv' := [(0, .ref (a 0)), (1, .int x1), (2, .int x2), (3, .int r13)]) [1, 2, 3, 0] rfl ?_
  exact hK22 g12 x1 x2 r13 h
set_option maxHeartbeats 4000000 in
theorem t_X10_near_0_52 {o : Om} {D : va_G} {a : Nat → Nat} {cI cZ : ClassId} {Q : Int32 → Sg → Prop} {K22 : Sg → Int32 → Int32 → Int32 → Prop} (C : Cx o D [(cI, .int), (cZ, .boolean)] (rw a cI cZ) RX10 cX10_near (some .int) 5 5) (hQ : RetI o D (rw a cI cZ) Q) (hK22 : ∀ (g : Sg) (x1 : Int32) (x2 : Int32) (x3 : Int32), K22 g x1 x2 x3 → Go o D (rw a cI cZ) 22 [(0, .ref (a 0)), (1, .int x1), (2, .int x2), (3, .int x3)] [] g) {f : Sg} {x1 : Int32} {x4 : Int32} (h : J_X10_near_0_52 Q K22 f x1 x4) : Go o D (rw a cI cZ) 52 [(0, .ref (a 0)), (1, .int x1), (4, .int x4)] [] f := by
  unfold J_X10_near_0_52 at h
  refine g_iload C 2 dX10_near_52 rfl ?_
  refine g_istore_n (lv' := [(2, .int x4), (0, .ref (a 0)), (1, .int x1), (4, .int x4)]) C dX10_near_54 (by decide) rfl ?_
  refine g_aload_n C 1 dX10_near_55 rfl ?_
  refine g_iconst C 1 dX10_near_56 (by decide) ?_
  obtain ⟨g17, eg17⟩ : ∃ g : Sg, g = va_up f 0 (upd (f 0) 9 1) := ⟨_, rfl⟩
  have h := h g17 eg17
  refine gp_RX10_82_X10 C rfl rfl re_0 (Nat.le_of_ble_eq_true rfl) (g := g17) (by rw [eg17]; exact rs_0_9) dX10_near_57 ?_
  refine g_aload_n C 1 dX10_near_60 rfl ?_
  refine g_callVv C (As := []) (st := []) (fun l => c_X10_keepBest_0 l D a cI cZ h) cl_RX10_91_X10 rfl re_0 (by omega) rfl (Nat.le_of_ble_eq_true rfl) dX10_near_61 (fun g18 h => ?_)
  refine g_sub (lv' := [(0, .ref (a 0)), (1, .int x1), (2, .int x4)]) [1, 2, 0] rfl ?_
  exact t_X10_near_0_64 C hQ hK22 h
set_option maxHeartbeats 4000000 in
theorem t_X10_near_0_22 {o : Om} {D : va_G} {a : Nat → Nat} {cI cZ : ClassId} {Q : Int32 → Sg → Prop} (C : Cx o D [(cI, .int), (cZ, .boolean)] (rw a cI cZ) RX10 cX10_near (some .int) 5 5) (hQ : RetI o D (rw a cI cZ) Q) : ∀ (n : Nat) (f : Sg) (x1 : Int32) (x2 : Int32) (x3 : Int32), itr3 (B_X10_near_0_22 Q) n f x1 x2 x3 → Go o D (rw a cI cZ) 22 [(0, .ref (a 0)), (1, .int x1), (2, .int x2), (3, .int x3)] [] f := by
  intro n
  induction n with
  | zero => intro f x1 x2 x3 h; exact h.elim
  | succ n ih =>
    intro f x1 x2 x3 h
    have h : B_X10_near_0_22 Q (itr3 (B_X10_near_0_22 Q) n) f x1 x2 x3 := h
    have hK22 := ih
    generalize itr3 (B_X10_near_0_22 Q) n = K22 at h hK22
    clear ih
    unfold B_X10_near_0_22 at h
    refine g_iload_n C 3 dX10_near_22 rfl ?_
    refine g_if_eq C 72 dX10_near_23 (by decide) (fun c5 => ?_) (fun c5 => ?_)
    · have h := h.1 c5
      refine g_iload_n C 1 dX10_near_72 rfl ?_
      refine g_iconst C (-1) dX10_near_73 (by decide) ?_
      refine g_icmp_ne C 81 dX10_near_74 (by decide) (fun c6 => ?_) (fun c6 => ?_)
      · have h := h.2 c6
        refine g_aload_n C 0 dX10_near_81 rfl ?_
        refine g_iload_n C 1 dX10_near_82 rfl ?_
        refine g_callVi C (As := [.int x1]) (st := []) (fun l => c_X10_told__0 l D a cI cZ h) cl_RX10_101_X10 rfl re_0 (by omega) rfl (Nat.le_of_ble_eq_true rfl) dX10_near_83 (fun r8 g7 h => ?_)
        refine g_sub (lv' := []) [] rfl ?_
        exact t_X10_near_0_86 C hQ h
      · have h := h.1 c6
        refine g_iload_n C 2 dX10_near_77 rfl ?_
        refine g_goto C 86 dX10_near_78 (by decide) ?_
        refine g_sub (lv' := []) [] rfl ?_
        exact t_X10_near_0_86 C hQ h
    · have h := h.2 c5
      refine g_aload_n C 0 dX10_near_26 rfl ?_
      refine g_callVi C (As := []) (st := []) (fun l => c_X10_breaks_0 l D a cI cZ h) cl_RX10_88_X10 rfl re_0 (by omega) rfl (Nat.le_of_ble_eq_true rfl) dX10_near_27 (fun r10 g9 h => ?_)
      refine g_if_ne C 64 dX10_near_30 (by decide) (fun c11 => ?_) (fun c11 => ?_)
      · have h := h.2 c11
        refine g_sub (lv' := [(0, .ref (a 0)), (1, .int x1), (2, .int x2)]) [0, 1, 2] rfl ?_
        exact t_X10_near_0_64 C hQ hK22 h
      · have h := h.1 c11
        refine g_aload_n C 0 dX10_near_33 rfl ?_
        refine g_callVi C (As := []) (st := []) (fun l => c_X10_off_0 l D a cI cZ h) cl_RX10_136_X10 rfl re_0 (by omega) rfl (Nat.le_of_ble_eq_true rfl) dX10_near_34 (fun r15 g14 h => ?_)
        refine g_istore (lv' := [(4, .int r15), (0, .ref (a 0)), (1, .int x1), (2, .int x2), (3, .int x3)]) C dX10_near_37 (by decide) rfl ?_
        refine g_aload_n C 1 dX10_near_39 rfl ?_
        refine gf_RX10_82_X10 C re_0 rfl dX10_near_40 ?_
        refine g_if_eq C 52 dX10_near_43 (by decide) (fun c16 => ?_) (fun c16 => ?_)
        · have h := h.1 c16
          refine g_sub (lv' := [(0, .ref (a 0)), (1, .int x1), (4, .int r15)]) [1, 2, 0] rfl ?_
          exact t_X10_near_0_52 C hQ hK22 h
        · have h := h.2 c16
          refine g_iload C 0 dX10_near_46 rfl ?_
          refine g_iload_n C 3 dX10_near_48 rfl ?_
          refine g_icmp_ge C 64 dX10_near_49 (by decide) (fun c20 => ?_) (fun c20 => ?_)
          · have h := h.1 c20
            refine g_sub (lv' := [(0, .ref (a 0)), (1, .int x1), (2, .int x2)]) [1, 2, 3] rfl ?_
            exact t_X10_near_0_64 C hQ hK22 h
          · have h := h.2 c20
            refine g_sub (lv' := [(0, .ref (a 0)), (1, .int x1), (4, .int r15)]) [1, 2, 0] rfl ?_
            exact t_X10_near_0_52 C hQ hK22 h
set_option maxHeartbeats 4000000 in
theorem c_X10_near_0 (l : Launch) (D : va_G) (a : Nat → Nat) (cI cZ : ClassId) {f : Sg} {x1 : Int32} {Q : Int32 → Sg → Prop} (h : M_X10_near_0 f x1 Q) : MI l D [(cI, .int), (cZ, .boolean)] (rw a cI cZ) yX10_near cX10_near 5 (some .int) (5) [.ref (a 0), .int x1] f Q := by
  refine mkI (rw_fix a cI cZ) (by decide +kernel) (Nat.le_of_ble_eq_true rfl) (fun o C hQ => ?_)
  show Go o D (rw a cI cZ) 0 [(0, .ref (a 0)), (1, .int x1)] [] f
  unfold M_X10_near_0 at h
  refine g_iload_n C 1 dX10_near_0 rfl ?_
  refine g_iconst C (-1) dX10_near_1 (by decide) ?_
  refine g_icmp_ge C 8 dX10_near_2 (by decide) (fun c1 => ?_) (fun c1 => ?_)
  · have h := h.1 c1
    refine g_aload_n C 0 dX10_near_8 rfl ?_
    refine g_iconst C 0 dX10_near_9 (by decide) ?_
    obtain ⟨g2, eg2⟩ : ∃ g : Sg, g = va_up f 0 (upd (f 0) 9 0) := ⟨_, rfl⟩
    have h := h g2 eg2
    refine gp_RX10_82_X10 C rfl rfl re_0 (Nat.le_of_ble_eq_true rfl) (g := g2) (by rw [eg2]; exact rs_0_9) dX10_near_10 ?_
    refine g_bipush C (-6) dX10_near_13 (by decide) ?_
    refine g_istore_n (lv' := [(2, .int (-6)), (0, .ref (a 0)), (1, .int x1)]) C dX10_near_15 (by decide) rfl ?_
    refine g_aload_n C 1 dX10_near_16 rfl ?_
    refine g_callVv C (As := []) (st := []) (fun l => c_X10_firstOrder_0 l D a cI cZ h) cl_RX10_85_X10 rfl re_0 (by omega) rfl (Nat.le_of_ble_eq_true rfl) dX10_near_17 (fun g3 h => ?_)
    refine g_iconst C 1 dX10_near_20 (by decide) ?_
    refine g_istore_n (lv' := [(3, .int 1), (2, .int (-6)), (0, .ref (a 0)), (1, .int x1)]) C dX10_near_21 (by decide) rfl ?_
    refine g_sub (lv' := [(0, .ref (a 0)), (1, .int x1), (2, .int (-6)), (3, .int 1)]) [2, 3, 1, 0] rfl ?_
    obtain ⟨n, h⟩ := h
    exact t_X10_near_0_22 C hQ n g3 x1 (-6) 1 h
  · have h := h.2 c1
    refine g_bipush C (-2) dX10_near_5 (by decide) ?_
    exact g_iret C hQ dX10_near_7 h
