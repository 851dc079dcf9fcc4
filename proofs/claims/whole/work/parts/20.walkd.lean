/-! X10_say_0: rank 1 -/
def J_X10_say_0_20 (Q : Int32 → Sg → Prop) (f : Sg) (x1 : Int32) : Prop :=
  ((f 0 4) = 9 → Q (-4) f) ∧ (¬ (f 0 4) = 9 → vp_in (f 0 4) 9 ∧ ∀ g6 : Sg, g6 = va_up f 4 (upd (f 4) (f 0 4 : Int32).toNatClampNeg x1) → ∀ g7 : Sg, g7 = va_up g6 0 (upd (g6 0) 4 ((g6 0 4) + 1)) → Q (g7 0 4) g7)
def M_X10_say_0 (f : Sg) (x1 : Int32) (Q : Int32 → Sg → Prop) : Prop :=
  M_X10_in f x1 48 52 (fun r2 g1 => (r2 = 0 → (x1 = 63 → J_X10_say_0_20 Q g1 x1) ∧ (¬ x1 = 63 → Q (-2) g1)) ∧ (¬ r2 = 0 → J_X10_say_0_20 Q g1 x1))
set_option maxHeartbeats 4000000 in
theorem t_X10_say_0_20 {o : Om} {D : va_G} {a : Nat → Nat} {cI cZ : ClassId} {Q : Int32 → Sg → Prop} (C : Cx o D [(cI, .int), (cZ, .boolean)] (rw a cI cZ) RX10 cX10_say (some .int) 1 2) (hQ : RetI o D (rw a cI cZ) Q) {f : Sg} {x1 : Int32} (h : J_X10_say_0_20 Q f x1) : Go o D (rw a cI cZ) 20 [(0, .ref (a 0)), (1, .int x1)] [] f := by
  unfold J_X10_say_0_20 at h
  refine g_aload_n C 0 dX10_say_20 rfl ?_
  refine gf_RX10_139_X10 C re_0 rfl dX10_say_21 ?_
  refine g_bipush C 9 dX10_say_24 (by decide) ?_
  refine g_icmp_ne C 32 dX10_say_26 (by decide) (fun c4 => ?_) (fun c4 => ?_)
  · have h := h.2 c4
    refine g_aload_n C 0 dX10_say_32 rfl ?_
    refine gf_RX10_20_X10 C re_0 rfl dX10_say_33 ?_
    refine g_aload_n C 0 dX10_say_36 rfl ?_
    refine gf_RX10_139_X10 C re_0 rfl dX10_say_37 ?_
    refine g_iload_n C 1 dX10_say_40 rfl ?_
    obtain ⟨hi5, h⟩ := h
    obtain ⟨g6, eg6⟩ : ∃ g : Sg, g = va_up f 4 (upd (f 4) (f 0 4 : Int32).toNatClampNeg x1) := ⟨_, rfl⟩
    have h := h g6 eg6
    refine g_iast C 0 re_4 rfl (g := g6) (by rw [eg6]; exact rs_4) hi5 dX10_say_41 ?_
    refine g_aload_n C 0 dX10_say_42 rfl ?_
    refine g_dup C dX10_say_43 rfl ?_
    refine gf_RX10_139_X10 C re_0 rfl dX10_say_44 ?_
    refine g_iconst C 1 dX10_say_47 (by decide) ?_
    refine g_iadd C dX10_say_48 ?_
    obtain ⟨g7, eg7⟩ : ∃ g : Sg, g = va_up g6 0 (upd (g6 0) 4 ((g6 0 4) + 1)) := ⟨_, rfl⟩
    have h := h g7 eg7
    refine gp_RX10_139_X10 C rfl rfl re_0 (Nat.le_of_ble_eq_true rfl) (g := g7) (by rw [eg7]; exact rs_0_4) dX10_say_49 ?_
    refine g_aload_n C 0 dX10_say_52 rfl ?_
    refine gf_RX10_139_X10 C re_0 rfl dX10_say_53 ?_
    exact g_iret C hQ dX10_say_56 h
  · have h := h.1 c4
    refine g_bipush C (-4) dX10_say_29 (by decide) ?_
    exact g_iret C hQ dX10_say_31 h
set_option maxHeartbeats 4000000 in
theorem c_X10_say_0 (l : Launch) (D : va_G) (a : Nat → Nat) (cI cZ : ClassId) {f : Sg} {x1 : Int32} {Q : Int32 → Sg → Prop} (h : M_X10_say_0 f x1 Q) : MI l D [(cI, .int), (cZ, .boolean)] (rw a cI cZ) yX10_say cX10_say 2 (some .int) (1) [.ref (a 0), .int x1] f Q := by
  refine mkI (rw_fix a cI cZ) (by decide +kernel) (Nat.le_of_ble_eq_true rfl) (fun o C hQ => ?_)
  show Go o D (rw a cI cZ) 0 [(0, .ref (a 0)), (1, .int x1)] [] f
  unfold M_X10_say_0 at h
  refine g_iload_n C 1 dX10_say_0 rfl ?_
  refine g_bipush C 48 dX10_say_1 (by decide) ?_
  refine g_bipush C 52 dX10_say_3 (by decide) ?_
  refine g_callSi C (As := [.int x1, .int 48, .int 52]) (st := []) (fun l => c_X10_in l D a cI cZ h) cl_RX10_38 (by omega) rfl (Nat.le_of_ble_eq_true rfl) dX10_say_5 (fun r2 g1 h => ?_)
  refine g_if_ne C 20 dX10_say_8 (by decide) (fun c3 => ?_) (fun c3 => ?_)
  · have h := h.2 c3
    refine g_sub (lv' := [(0, .ref (a 0)), (1, .int x1)]) [0, 1] rfl ?_
    exact t_X10_say_0_20 C hQ h
  · have h := h.1 c3
    refine g_iload_n C 1 dX10_say_11 rfl ?_
    refine g_bipush C 63 dX10_say_12 (by decide) ?_
    refine g_icmp_eq C 20 dX10_say_14 (by decide) (fun c8 => ?_) (fun c8 => ?_)
    · have h := h.1 c8
      refine g_sub (lv' := [(0, .ref (a 0)), (1, .int x1)]) [0, 1] rfl ?_
      exact t_X10_say_0_20 C hQ h
    · have h := h.2 c8
      refine g_bipush C (-2) dX10_say_17 (by decide) ?_
      exact g_iret C hQ dX10_say_19 h
/-! X10_wipe_0: rank 0 -/
def M_X10_wipe_0 (f : Sg) (Q : Int32 → Sg → Prop) : Prop :=
  ∀ z1 : Int32, z1 = f 0 4 → ∀ g2 : Sg, g2 = va_up f 0 (upd (f 0) 4 0) → Q z1 g2
set_option maxHeartbeats 4000000 in
theorem c_X10_wipe_0 (l : Launch) (D : va_G) (a : Nat → Nat) (cI cZ : ClassId) {f : Sg} {Q : Int32 → Sg → Prop} (h : M_X10_wipe_0 f Q) : MI l D [(cI, .int), (cZ, .boolean)] (rw a cI cZ) yX10_wipe cX10_wipe 2 (some .int) (0) [.ref (a 0)] f Q := by
  refine mkI (rw_fix a cI cZ) (by decide +kernel) (Nat.le_of_ble_eq_true rfl) (fun o C hQ => ?_)
  show Go o D (rw a cI cZ) 0 [(0, .ref (a 0))] [] f
  unfold M_X10_wipe_0 at h
  refine g_aload_n C 0 dX10_wipe_0 rfl ?_
  refine gf_RX10_139_X10 C re_0 rfl dX10_wipe_1 ?_
  refine g_top (fun z1 ez1 => ?_)
  have h := h z1 ez1
  refine g_istore_n (lv' := [(1, .int z1), (0, .ref (a 0))]) C dX10_wipe_4 (by decide) rfl ?_
  refine g_aload_n C 1 dX10_wipe_5 rfl ?_
  refine g_iconst C 0 dX10_wipe_6 (by decide) ?_
  obtain ⟨g2, eg2⟩ : ∃ g : Sg, g = va_up f 0 (upd (f 0) 4 0) := ⟨_, rfl⟩
  have h := h g2 eg2
  refine gp_RX10_139_X10 C rfl rfl re_0 (Nat.le_of_ble_eq_true rfl) (g := g2) (by rw [eg2]; exact rs_0_4) dX10_wipe_7 ?_
  refine g_iload_n C 0 dX10_wipe_10 rfl ?_
  exact g_iret C hQ dX10_wipe_11 h
/-! X10_isOpen_0: rank 0 -/
def J_X10_isOpen_0_32 (Q : Int32 → Sg → Prop) (K4 : Sg → Int32 → Int32 → Prop) (f : Sg) (x2 : Int32) (s0 : Int32) : Prop :=
  K4 f s0 (x2 + 1)
def J_X10_isOpen_0_27 (Q : Int32 → Sg → Prop) (K4 : Sg → Int32 → Int32 → Prop) (f : Sg) (x2 : Int32) : Prop :=
  J_X10_isOpen_0_32 Q K4 f x2 1
def B_X10_isOpen_0_4 (Q : Int32 → Sg → Prop) (K4 : Sg → Int32 → Int32 → Prop) (f : Sg) (x1 : Int32) (x2 : Int32) : Prop :=
  ((f 0 4) ≤ x2 → narrow .boolean (.int x1) = .int x1 ∧ Q x1 f) ∧ (¬ (f 0 4) ≤ x2 → (x1 = 0 → vp_in x2 9 ∧ ((f 4 (x2 : Int32).toNatClampNeg) = 63 → J_X10_isOpen_0_27 Q K4 f x2) ∧ (¬ (f 4 (x2 : Int32).toNatClampNeg) = 63 → J_X10_isOpen_0_32 Q K4 f x2 0)) ∧ (¬ x1 = 0 → J_X10_isOpen_0_27 Q K4 f x2))
def M_X10_isOpen_0 (f : Sg) (Q : Int32 → Sg → Prop) : Prop :=
  ∃ n : Nat, itr2 (B_X10_isOpen_0_4 Q) n f 0 0
set_option maxHeartbeats 4000000 in
theorem t_X10_isOpen_0_32 {o : Om} {D : va_G} {a : Nat → Nat} {cI cZ : ClassId} {Q : Int32 → Sg → Prop} {K4 : Sg → Int32 → Int32 → Prop} (C : Cx o D [(cI, .int), (cZ, .boolean)] (rw a cI cZ) RX10 cX10_isOpen (some .boolean) 0 3) (hQ : RetI o D (rw a cI cZ) Q) (hK4 : ∀ (g : Sg) (x1 : Int32) (x2 : Int32), K4 g x1 x2 → Go o D (rw a cI cZ) 4 [(0, .ref (a 0)), (1, .int x1), (2, .int x2)] [] g) {f : Sg} {x2 : Int32} {s0 : Int32} (h : J_X10_isOpen_0_32 Q K4 f x2 s0) : Go o D (rw a cI cZ) 32 [(0, .ref (a 0)), (2, .int x2)] [.int s0] f := by
  unfold J_X10_isOpen_0_32 at h
  refine g_istore_n (lv' := [(1, .int s0), (0, .ref (a 0)), (2, .int x2)]) C dX10_isOpen_32 (by decide) rfl ?_
  refine g_iinc (lv' := [(2, .int (x2 + 1)), (1, .int s0), (0, .ref (a 0))]) C 2 dX10_isOpen_33 rfl rfl (by decide) rfl ?_
  refine g_goto C 4 dX10_isOpen_36 (by decide) ?_
  refine g_sub (lv' := [(0, .ref (a 0)), (1, .int s0), (2, .int (x2 + 1))]) [2, 1, 0] rfl ?_
  exact hK4 f s0 (x2 + 1) h
set_option maxHeartbeats 4000000 in
theorem t_X10_isOpen_0_27 {o : Om} {D : va_G} {a : Nat → Nat} {cI cZ : ClassId} {Q : Int32 → Sg → Prop} {K4 : Sg → Int32 → Int32 → Prop} (C : Cx o D [(cI, .int), (cZ, .boolean)] (rw a cI cZ) RX10 cX10_isOpen (some .boolean) 0 3) (hQ : RetI o D (rw a cI cZ) Q) (hK4 : ∀ (g : Sg) (x1 : Int32) (x2 : Int32), K4 g x1 x2 → Go o D (rw a cI cZ) 4 [(0, .ref (a 0)), (1, .int x1), (2, .int x2)] [] g) {f : Sg} {x2 : Int32} (h : J_X10_isOpen_0_27 Q K4 f x2) : Go o D (rw a cI cZ) 27 [(0, .ref (a 0)), (2, .int x2)] [] f := by
  unfold J_X10_isOpen_0_27 at h
  refine g_iconst C 1 dX10_isOpen_27 (by decide) ?_
  refine g_goto C 32 dX10_isOpen_28 (by decide) ?_
  refine g_sub (lv' := [(0, .ref (a 0)), (2, .int x2)]) [0, 1] rfl ?_
  exact t_X10_isOpen_0_32 C hQ hK4 h
set_option maxHeartbeats 4000000 in
theorem t_X10_isOpen_0_4 {o : Om} {D : va_G} {a : Nat → Nat} {cI cZ : ClassId} {Q : Int32 → Sg → Prop} (C : Cx o D [(cI, .int), (cZ, .boolean)] (rw a cI cZ) RX10 cX10_isOpen (some .boolean) 0 3) (hQ : RetI o D (rw a cI cZ) Q) : ∀ (n : Nat) (f : Sg) (x1 : Int32) (x2 : Int32), itr2 (B_X10_isOpen_0_4 Q) n f x1 x2 → Go o D (rw a cI cZ) 4 [(0, .ref (a 0)), (1, .int x1), (2, .int x2)] [] f := by
  intro n
  induction n with
  | zero => intro f x1 x2 h; exact h.elim
  | succ n ih =>
    intro f x1 x2 h
    have h : B_X10_isOpen_0_4 Q (itr2 (B_X10_isOpen_0_4 Q) n) f x1 x2 := h
    have hK4 := ih
    generalize itr2 (B_X10_isOpen_0_4 Q) n = K4 at h hK4
    clear ih
    unfold B_X10_isOpen_0_4 at h
    refine g_iload_n C 2 dX10_isOpen_4 rfl ?_
    refine g_aload_n C 0 dX10_isOpen_5 rfl ?_
    refine gf_RX10_139_X10 C re_0 rfl dX10_isOpen_6 ?_
    refine g_icmp_ge C 39 dX10_isOpen_9 (by decide) (fun c1 => ?_) (fun c1 => ?_)
    · have h := h.1 c1
      refine g_iload_n C 1 dX10_isOpen_39 rfl ?_
      exact g_zret C hQ h.1 dX10_isOpen_40 h.2
    · have h := h.2 c1
      refine g_iload_n C 1 dX10_isOpen_12 rfl ?_
      refine g_if_ne C 27 dX10_isOpen_13 (by decide) (fun c2 => ?_) (fun c2 => ?_)
      · have h := h.2 c2
        refine g_sub (lv' := [(0, .ref (a 0)), (2, .int x2)]) [0, 2] rfl ?_
        exact t_X10_isOpen_0_27 C hQ hK4 h
      · have h := h.1 c2
        refine g_aload_n C 0 dX10_isOpen_16 rfl ?_
        refine gf_RX10_20_X10 C re_0 rfl dX10_isOpen_17 ?_
        refine g_iload_n C 2 dX10_isOpen_20 rfl ?_
        obtain ⟨hi3, h⟩ := h
        refine g_iald C 0 re_4 rfl hi3 dX10_isOpen_21 ?_
        refine g_bipush C 63 dX10_isOpen_22 (by decide) ?_
        refine g_icmp_ne C 31 dX10_isOpen_24 (by decide) (fun c4 => ?_) (fun c4 => ?_)
        · have h := h.2 c4
          refine g_iconst C 0 dX10_isOpen_31 (by decide) ?_
          refine g_sub (lv' := [(0, .ref (a 0)), (2, .int x2)]) [0, 2] rfl ?_
          exact t_X10_isOpen_0_32 C hQ hK4 h
        · have h := h.1 c4
          refine g_sub (lv' := [(0, .ref (a 0)), (2, .int x2)]) [0, 2] rfl ?_
          exact t_X10_isOpen_0_27 C hQ hK4 h
set_option maxHeartbeats 4000000 in
theorem c_X10_isOpen_0 (l : Launch) (D : va_G) (a : Nat → Nat) (cI cZ : ClassId) {f : Sg} {Q : Int32 → Sg → Prop} (h : M_X10_isOpen_0 f Q) : MI l D [(cI, .int), (cZ, .boolean)] (rw a cI cZ) yX10_isOpen cX10_isOpen 3 (some .boolean) (0) [.ref (a 0)] f Q := by
  refine mkI (rw_fix a cI cZ) (by decide +kernel) (Nat.le_of_ble_eq_true rfl) (fun o C hQ => ?_)
  show Go o D (rw a cI cZ) 0 [(0, .ref (a 0))] [] f
  unfold M_X10_isOpen_0 at h
  refine g_iconst C 0 dX10_isOpen_0 (by decide) ?_
  refine g_istore_n (lv' := [(1, .int 0), (0, .ref (a 0))]) C dX10_isOpen_1 (by decide) rfl ?_
  refine g_iconst C 0 dX10_isOpen_2 (by decide) ?_
  refine g_istore_n (lv' := [(2, .int 0), (1, .int 0), (0, .ref (a 0))]) C dX10_isOpen_3 (by decide) rfl ?_
  refine g_sub (lv' := [(0, .ref (a 0)), (1, .int 0), (2, .int 0)]) [2, 1, 0] rfl ?_
  obtain ⟨n, h⟩ := h
  exact t_X10_isOpen_0_4 C hQ n f 0 0 h
/-! X10_layPad_0: rank 0 -/
def B_X10_layPad_0_10 (Q : Sg → Prop) (K10 : Sg → Int32 → Prop) (f : Sg) (x1 : Int32) : Prop :=
  ((f 0 4) ≤ x1 → Q f) ∧ (¬ (f 0 4) ≤ x1 → vp_in x1 9 ∧ vp_in x1 9 ∧ ∀ g5 : Sg, g5 = va_up f 5 (upd (f 5) (x1 : Int32).toNatClampNeg ((f 4 (x1 : Int32).toNatClampNeg) - 48)) → K10 g5 (x1 + 1))
def M_X10_layPad_0 (f : Sg) (Q : Sg → Prop) : Prop :=
  ∀ g1 : Sg, g1 = va_up f 0 (upd (f 0) 6 (f 0 4)) → ∃ n : Nat, itr1 (B_X10_layPad_0_10 Q) n g1 0
set_option maxHeartbeats 4000000 in
theorem t_X10_layPad_0_10 {o : Om} {D : va_G} {a : Nat → Nat} {cI cZ : ClassId} {Q : Sg → Prop} (C : Cx o D [(cI, .int), (cZ, .boolean)] (rw a cI cZ) RX10 cX10_layPad none 0 2) (hQ : RetV o D (rw a cI cZ) Q) : ∀ (n : Nat) (f : Sg) (x1 : Int32), itr1 (B_X10_layPad_0_10 Q) n f x1 → Go o D (rw a cI cZ) 10 [(0, .ref (a 0)), (1, .int x1)] [] f := by
  intro n
  induction n with
  | zero => intro f x1 h; exact h.elim
  | succ n ih =>
    intro f x1 h
    have h : B_X10_layPad_0_10 Q (itr1 (B_X10_layPad_0_10 Q) n) f x1 := h
    have hK10 := ih
    generalize itr1 (B_X10_layPad_0_10 Q) n = K10 at h hK10
    clear ih
    unfold B_X10_layPad_0_10 at h
    refine g_iload_n C 1 dX10_layPad_10 rfl ?_
    refine g_aload_n C 0 dX10_layPad_11 rfl ?_
    refine gf_RX10_139_X10 C re_0 rfl dX10_layPad_12 ?_
    refine g_icmp_ge C 39 dX10_layPad_15 (by decide) (fun c2 => ?_) (fun c2 => ?_)
    · have h := h.1 c2
      exact g_vret C hQ dX10_layPad_39 h
    · have h := h.2 c2
      refine g_aload_n C 0 dX10_layPad_18 rfl ?_
      refine gf_RX10_23_X10 C re_0 rfl dX10_layPad_19 ?_
      refine g_iload_n C 1 dX10_layPad_22 rfl ?_
      refine g_aload_n C 0 dX10_layPad_23 rfl ?_
      refine gf_RX10_20_X10 C re_0 rfl dX10_layPad_24 ?_
      refine g_iload_n C 1 dX10_layPad_27 rfl ?_
      obtain ⟨hi3, h⟩ := h
      refine g_iald C 0 re_4 rfl hi3 dX10_layPad_28 ?_
      refine g_bipush C 48 dX10_layPad_29 (by decide) ?_
      refine g_isub C dX10_layPad_31 ?_
      obtain ⟨hi4, h⟩ := h
      obtain ⟨g5, eg5⟩ : ∃ g : Sg, g = va_up f 5 (upd (f 5) (x1 : Int32).toNatClampNeg ((f 4 (x1 : Int32).toNatClampNeg) - 48)) := ⟨_, rfl⟩
      have h := h g5 eg5
      refine g_iast C 0 re_5 rfl (g := g5) (by rw [eg5]; exact rs_5) hi4 dX10_layPad_32 ?_
      refine g_iinc (lv' := [(1, .int (x1 + 1)), (0, .ref (a 0))]) C 1 dX10_layPad_33 rfl rfl (by decide) rfl ?_
      refine g_goto C 10 dX10_layPad_36 (by decide) ?_
      refine g_sub (lv' := [(0, .ref (a 0)), (1, .int (x1 + 1))]) [1, 0] rfl ?_
      exact hK10 g5 (x1 + 1) h
set_option maxHeartbeats 4000000 in
theorem c_X10_layPad_0 (l : Launch) (D : va_G) (a : Nat → Nat) (cI cZ : ClassId) {f : Sg} {Q : Sg → Prop} (h : M_X10_layPad_0 f Q) : MV l D [(cI, .int), (cZ, .boolean)] (rw a cI cZ) yX10_layPad cX10_layPad 2 (0) [.ref (a 0)] f Q := by
  refine mkV (rw_fix a cI cZ) (by decide +kernel) (Nat.le_of_ble_eq_true rfl) (fun o C hQ => ?_)
  show Go o D (rw a cI cZ) 0 [(0, .ref (a 0))] [] f
  unfold M_X10_layPad_0 at h
  refine g_aload_n C 0 dX10_layPad_0 rfl ?_
  refine g_aload_n C 0 dX10_layPad_1 rfl ?_
  refine gf_RX10_139_X10 C re_0 rfl dX10_layPad_2 ?_
  obtain ⟨g1, eg1⟩ : ∃ g : Sg, g = va_up f 0 (upd (f 0) 6 (f 0 4)) := ⟨_, rfl⟩
  have h := h g1 eg1
  refine gp_RX10_71_X10 C rfl rfl re_0 (Nat.le_of_ble_eq_true rfl) (g := g1) (by rw [eg1]; exact rs_0_6) dX10_layPad_5 ?_
  refine g_iconst C 0 dX10_layPad_8 (by decide) ?_
  refine g_istore_n (lv' := [(1, .int 0), (0, .ref (a 0))]) C dX10_layPad_9 (by decide) rfl ?_
  refine g_sub (lv' := [(0, .ref (a 0)), (1, .int 0)]) [1, 0] rfl ?_
  obtain ⟨n, h⟩ := h
  exact t_X10_layPad_0_10 C hQ n g1 0 h
/-! X10_onPad_0: rank 0 -/
def J_X10_onPad_0_31 (Q : Int32 → Sg → Prop) (K4 : Sg → Int32 → Int32 → Int32 → Prop) (f : Sg) (x1 : Int32) (x3 : Int32) (s0 : Int32) (s1 : Int32) : Prop :=
  ∀ z4 : Int32, z4 = s1 + s0 → K4 f x1 z4 (x3 + 1)
def B_X10_onPad_0_4 (Q : Int32 → Sg → Prop) (K4 : Sg → Int32 → Int32 → Int32 → Prop) (f : Sg) (x1 : Int32) (x2 : Int32) (x3 : Int32) : Prop :=
  ((f 0 4) ≤ x3 → Q x2 f) ∧ (¬ (f 0 4) ≤ x3 → vp_in x3 9 ∧ ((f 4 (x3 : Int32).toNatClampNeg) = ((48 : Int32) + x1) → J_X10_onPad_0_31 Q K4 f x1 x3 1 x2) ∧ (¬ (f 4 (x3 : Int32).toNatClampNeg) = ((48 : Int32) + x1) → J_X10_onPad_0_31 Q K4 f x1 x3 0 x2))
def M_X10_onPad_0 (f : Sg) (x1 : Int32) (Q : Int32 → Sg → Prop) : Prop :=
  ∃ n : Nat, itr3 (B_X10_onPad_0_4 Q) n f x1 0 0
set_option maxHeartbeats 4000000 in
theorem t_X10_onPad_0_31 {o : Om} {D : va_G} {a : Nat → Nat} {cI cZ : ClassId} {Q : Int32 → Sg → Prop} {K4 : Sg → Int32 → Int32 → Int32 → Prop} (C : Cx o D [(cI, .int), (cZ, .boolean)] (rw a cI cZ) RX10 cX10_onPad (some .int) 0 4) (hQ : RetI o D (rw a cI cZ) Q) (hK4 : ∀ (g : Sg) (x1 : Int32) (x2 : Int32) (x3 : Int32), K4 g x1 x2 x3 → Go o D (rw a cI cZ) 4 [(0, .ref (a 0)), (1, .int x1), (2, .int x2), (3, .int x3)] [] g) {f : Sg} {x1 : Int32} {x3 : Int32} {s0 : Int32} {s1 : Int32} (h : J_X10_onPad_0_31 Q K4 f x1 x3 s0 s1) : Go o D (rw a cI cZ) 31 [(0, .ref (a 0)), (1, .int x1), (3, .int x3)] [.int s0, .int s1] f := by
  unfold J_X10_onPad_0_31 at h
  refine g_iadd C dX10_onPad_31 ?_
  refine g_top (fun z4 ez4 => ?_)
  have h := h z4 ez4
  refine g_istore_n (lv' := [(2, .int z4), (0, .ref (a 0)), (1, .int x1), (3, .int x3)]) C dX10_onPad_32 (by decide) rfl ?_
  refine g_iinc (lv' := [(3, .int (x3 + 1)), (2, .int z4), (0, .ref (a 0)), (1, .int x1)]) C 3 dX10_onPad_33 rfl rfl (by decide) rfl ?_
  refine g_goto C 4 dX10_onPad_36 (by decide) ?_
  refine g_sub (lv' := [(0, .ref (a 0)), (1, .int x1), (2, .int z4), (3, .int (x3 + 1))]) [2, 3, 1, 0] rfl ?_
  exact hK4 f x1 z4 (x3 + 1) h
set_option maxHeartbeats 4000000 in
theorem t_X10_onPad_0_4 {o : Om} {D : va_G} {a : Nat → Nat} {cI cZ : ClassId} {Q : Int32 → Sg → Prop} (C : Cx o D [(cI, .int), (cZ, .boolean)] (rw a cI cZ) RX10 cX10_onPad (some .int) 0 4) (hQ : RetI o D (rw a cI cZ) Q) : ∀ (n : Nat) (f : Sg) (x1 : Int32) (x2 : Int32) (x3 : Int32), itr3 (B_X10_onPad_0_4 Q) n f x1 x2 x3 → Go o D (rw a cI cZ) 4 [(0, .ref (a 0)), (1, .int x1), (2, .int x2), (3, .int x3)] [] f := by
  intro n
  induction n with
  | zero => intro f x1 x2 x3 h; exact h.elim
  | succ n ih =>
    intro f x1 x2 x3 h
    have h : B_X10_onPad_0_4 Q (itr3 (B_X10_onPad_0_4 Q) n) f x1 x2 x3 := h
    have hK4 := ih
    generalize itr3 (B_X10_onPad_0_4 Q) n = K4 at h hK4
    clear ih
    unfold B_X10_onPad_0_4 at h
    refine g_iload_n C 3 dX10_onPad_4 rfl ?_
    refine g_aload_n C 0 dX10_onPad_5 rfl ?_
    refine gf_RX10_139_X10 C re_0 rfl dX10_onPad_6 ?_
    refine g_icmp_ge C 39 dX10_onPad_9 (by decide) (fun c1 => ?_) (fun c1 => ?_)
    · have h := h.1 c1
      refine g_iload_n C 2 dX10_onPad_39 rfl ?_
      exact g_iret C hQ dX10_onPad_40 h
    · have h := h.2 c1
      refine g_iload_n C 2 dX10_onPad_12 rfl ?_
      refine g_aload_n C 0 dX10_onPad_13 rfl ?_
      refine gf_RX10_20_X10 C re_0 rfl dX10_onPad_14 ?_
      refine g_iload_n C 3 dX10_onPad_17 rfl ?_
      obtain ⟨hi2, h⟩ := h
      refine g_iald C 0 re_4 rfl hi2 dX10_onPad_18 ?_
      refine g_bipush C 48 dX10_onPad_19 (by decide) ?_
      refine g_iload_n C 1 dX10_onPad_21 rfl ?_
      refine g_iadd C dX10_onPad_22 ?_
      refine g_icmp_ne C 30 dX10_onPad_23 (by decide) (fun c3 => ?_) (fun c3 => ?_)
      · have h := h.2 c3
        refine g_iconst C 0 dX10_onPad_30 (by decide) ?_
        refine g_sub (lv' := [(0, .ref (a 0)), (1, .int x1), (3, .int x3)]) [0, 1, 3] rfl ?_
        exact t_X10_onPad_0_31 C hQ hK4 h
      · have h := h.1 c3
        refine g_iconst C 1 dX10_onPad_26 (by decide) ?_
        refine g_goto C 31 dX10_onPad_27 (by decide) ?_
        refine g_sub (lv' := [(0, .ref (a 0)), (1, .int x1), (3, .int x3)]) [0, 1, 3] rfl ?_
        exact t_X10_onPad_0_31 C hQ hK4 h
set_option maxHeartbeats 4000000 in
theorem c_X10_onPad_0 (l : Launch) (D : va_G) (a : Nat → Nat) (cI cZ : ClassId) {f : Sg} {x1 : Int32} {Q : Int32 → Sg → Prop} (h : M_X10_onPad_0 f x1 Q) : MI l D [(cI, .int), (cZ, .boolean)] (rw a cI cZ) yX10_onPad cX10_onPad 4 (some .int) (0) [.ref (a 0), .int x1] f Q := by
  refine mkI (rw_fix a cI cZ) (by decide +kernel) (Nat.le_of_ble_eq_true rfl) (fun o C hQ => ?_)
  show Go o D (rw a cI cZ) 0 [(0, .ref (a 0)), (1, .int x1)] [] f
  unfold M_X10_onPad_0 at h
  refine g_iconst C 0 dX10_onPad_0 (by decide) ?_
  refine g_istore_n (lv' := [(2, .int 0), (0, .ref (a 0)), (1, .int x1)]) C dX10_onPad_1 (by decide) rfl ?_
  refine g_iconst C 0 dX10_onPad_2 (by decide) ?_
  refine g_istore_n (lv' := [(3, .int 0), (2, .int 0), (0, .ref (a 0)), (1, .int x1)]) C dX10_onPad_3 (by decide) rfl ?_
  refine g_sub (lv' := [(0, .ref (a 0)), (1, .int x1), (2, .int 0), (3, .int 0)]) [2, 3, 1, 0] rfl ?_
  obtain ⟨n, h⟩ := h
  exact t_X10_onPad_0_4 C hQ n f x1 0 0 h
/-! X10_isOrder_0: rank 1 -/
def J_X10_isOrder_0_46 (Q : Int32 → Sg → Prop) (K15 : Sg → Int32 → Int32 → Prop) (f : Sg) (x2 : Int32) (s0 : Int32) : Prop :=
  K15 f s0 (x2 + 1)
def J_X10_isOrder_0_45 (Q : Int32 → Sg → Prop) (K15 : Sg → Int32 → Int32 → Prop) (f : Sg) (x2 : Int32) : Prop :=
  J_X10_isOrder_0_46 Q K15 f x2 0
def B_X10_isOrder_0_15 (Q : Int32 → Sg → Prop) (K15 : Sg → Int32 → Int32 → Prop) (f : Sg) (x1 : Int32) (x2 : Int32) : Prop :=
  (5 ≤ x2 → narrow .boolean (.int x1) = .int x1 ∧ Q x1 f) ∧ (¬ 5 ≤ x2 → (x1 = 0 → J_X10_isOrder_0_45 Q K15 f x2) ∧ (¬ x1 = 0 → M_X10_onPad_0 f x2 (fun r7 g6 => vp_in ((13 : Int32) + x2) 18 ∧ (r7 = (g6 1 ((13 : Int32) + x2 : Int32).toNatClampNeg) → J_X10_isOrder_0_46 Q K15 g6 x2 1) ∧ (¬ r7 = (g6 1 ((13 : Int32) + x2 : Int32).toNatClampNeg) → J_X10_isOrder_0_45 Q K15 g6 x2))))
def J_X10_isOrder_0_12 (Q : Int32 → Sg → Prop) (f : Sg) (s0 : Int32) : Prop :=
  ∃ n : Nat, itr2 (B_X10_isOrder_0_15 Q) n f s0 0
def M_X10_isOrder_0 (f : Sg) (Q : Int32 → Sg → Prop) : Prop :=
  M_X10_isOpen_0 f (fun r2 g1 => (r2 = 0 → J_X10_isOrder_0_12 Q g1 1) ∧ (¬ r2 = 0 → J_X10_isOrder_0_12 Q g1 0))
set_option maxHeartbeats 4000000 in
theorem t_X10_isOrder_0_46 {o : Om} {D : va_G} {a : Nat → Nat} {cI cZ : ClassId} {Q : Int32 → Sg → Prop} {K15 : Sg → Int32 → Int32 → Prop} (C : Cx o D [(cI, .int), (cZ, .boolean)] (rw a cI cZ) RX10 cX10_isOrder (some .boolean) 1 3) (hQ : RetI o D (rw a cI cZ) Q) (hK15 : ∀ (g : Sg) (x1 : Int32) (x2 : Int32), K15 g x1 x2 → Go o D (rw a cI cZ) 15 [(0, .ref (a 0)), (1, .int x1), (2, .int x2)] [] g) {f : Sg} {x2 : Int32} {s0 : Int32} (h : J_X10_isOrder_0_46 Q K15 f x2 s0) : Go o D (rw a cI cZ) 46 [(0, .ref (a 0)), (2, .int x2)] [.int s0] f := by
  unfold J_X10_isOrder_0_46 at h
  refine g_istore_n (lv' := [(1, .int s0), (0, .ref (a 0)), (2, .int x2)]) C dX10_isOrder_46 (by decide) rfl ?_
  refine g_iinc (lv' := [(2, .int (x2 + 1)), (1, .int s0), (0, .ref (a 0))]) C 2 dX10_isOrder_47 rfl rfl (by decide) rfl ?_
  refine g_goto C 15 dX10_isOrder_50 (by decide) ?_
  refine g_sub (lv' := [(0, .ref (a 0)), (1, .int s0), (2, .int (x2 + 1))]) [2, 1, 0] rfl ?_
  exact hK15 f s0 (x2 + 1) h
set_option maxHeartbeats 4000000 in
theorem t_X10_isOrder_0_45 {o : Om} {D : va_G} {a : Nat → Nat} {cI cZ : ClassId} {Q : Int32 → Sg → Prop} {K15 : Sg → Int32 → Int32 → Prop} (C : Cx o D [(cI, .int), (cZ, .boolean)] (rw a cI cZ) RX10 cX10_isOrder (some .boolean) 1 3) (hQ : RetI o D (rw a cI cZ) Q) (hK15 : ∀ (g : Sg) (x1 : Int32) (x2 : Int32), K15 g x1 x2 → Go o D (rw a cI cZ) 15 [(0, .ref (a 0)), (1, .int x1), (2, .int x2)] [] g) {f : Sg} {x2 : Int32} (h : J_X10_isOrder_0_45 Q K15 f x2) : Go o D (rw a cI cZ) 45 [(0, .ref (a 0)), (2, .int x2)] [] f := by
  unfold J_X10_isOrder_0_45 at h
  refine g_iconst C 0 dX10_isOrder_45 (by decide) ?_
  refine g_sub (lv' := [(0, .ref (a 0)), (2, .int x2)]) [0, 1] rfl ?_
  exact t_X10_isOrder_0_46 C hQ hK15 h
set_option maxHeartbeats 4000000 in
theorem t_X10_isOrder_0_15 {o : Om} {D : va_G} {a : Nat → Nat} {cI cZ : ClassId} {Q : Int32 → Sg → Prop} (C : Cx o D [(cI, .int), (cZ, .boolean)] (rw a cI cZ) RX10 cX10_isOrder (some .boolean) 1 3) (hQ : RetI o D (rw a cI cZ) Q) : ∀ (n : Nat) (f : Sg) (x1 : Int32) (x2 : Int32), itr2 (B_X10_isOrder_0_15 Q) n f x1 x2 → Go o D (rw a cI cZ) 15 [(0, .ref (a 0)), (1, .int x1), (2, .int x2)] [] f := by
  intro n
  induction n with
  | zero => intro f x1 x2 h; exact h.elim
  | succ n ih =>
    intro f x1 x2 h
    have h : B_X10_isOrder_0_15 Q (itr2 (B_X10_isOrder_0_15 Q) n) f x1 x2 := h
    have hK15 := ih
    generalize itr2 (B_X10_isOrder_0_15 Q) n = K15 at h hK15
    clear ih
    unfold B_X10_isOrder_0_15 at h
    refine g_iload_n C 2 dX10_isOrder_15 rfl ?_
    refine g_iconst C 5 dX10_isOrder_16 (by decide) ?_
    refine g_icmp_ge C 53 dX10_isOrder_17 (by decide) (fun c4 => ?_) (fun c4 => ?_)
    · have h := h.1 c4
      refine g_iload_n C 1 dX10_isOrder_53 rfl ?_
      exact g_zret C hQ h.1 dX10_isOrder_54 h.2
    · have h := h.2 c4
      refine g_iload_n C 1 dX10_isOrder_20 rfl ?_
      refine g_if_eq C 45 dX10_isOrder_21 (by decide) (fun c5 => ?_) (fun c5 => ?_)
      · have h := h.1 c5
        refine g_sub (lv' := [(0, .ref (a 0)), (2, .int x2)]) [0, 2] rfl ?_
        exact t_X10_isOrder_0_45 C hQ hK15 h
      · have h := h.2 c5
        refine g_aload_n C 0 dX10_isOrder_24 rfl ?_
        refine g_iload_n C 2 dX10_isOrder_25 rfl ?_
        refine g_callVi C (As := [.int x2]) (st := []) (fun l => c_X10_onPad_0 l D a cI cZ h) cl_RX10_145_X10 rfl re_0 (by omega) rfl (Nat.le_of_ble_eq_true rfl) dX10_isOrder_26 (fun r7 g6 h => ?_)
        refine g_aload_n C 0 dX10_isOrder_29 rfl ?_
        refine gf_RX10_7_X10 C re_0 rfl dX10_isOrder_30 ?_
        refine g_bipush C 13 dX10_isOrder_33 (by decide) ?_
        refine g_iload_n C 2 dX10_isOrder_35 rfl ?_
        refine g_iadd C dX10_isOrder_36 ?_
        obtain ⟨hi8, h⟩ := h
        refine g_iald C 0 re_1 rfl hi8 dX10_isOrder_37 ?_
        refine g_icmp_ne C 45 dX10_isOrder_38 (by decide) (fun c9 => ?_) (fun c9 => ?_)
        · have h := h.2 c9
          refine g_sub (lv' := [(0, .ref (a 0)), (2, .int x2)]) [0, 2] rfl ?_
          exact t_X10_isOrder_0_45 C hQ hK15 h
        · have h := h.1 c9
          refine g_iconst C 1 dX10_isOrder_41 (by decide) ?_
          refine g_goto C 46 dX10_isOrder_42 (by decide) ?_
          refine g_sub (lv' := [(0, .ref (a 0)), (2, .int x2)]) [0, 2] rfl ?_
          exact t_X10_isOrder_0_46 C hQ hK15 h
set_option maxHeartbeats 4000000 in
theorem t_X10_isOrder_0_12 {o : Om} {D : va_G} {a : Nat → Nat} {cI cZ : ClassId} {Q : Int32 → Sg → Prop} (C : Cx o D [(cI, .int), (cZ, .boolean)] (rw a cI cZ) RX10 cX10_isOrder (some .boolean) 1 3) (hQ : RetI o D (rw a cI cZ) Q) {f : Sg} {s0 : Int32} (h : J_X10_isOrder_0_12 Q f s0) : Go o D (rw a cI cZ) 12 [(0, .ref (a 0))] [.int s0] f := by
  unfold J_X10_isOrder_0_12 at h
  refine g_istore_n (lv' := [(1, .int s0), (0, .ref (a 0))]) C dX10_isOrder_12 (by decide) rfl ?_
  refine g_iconst C 0 dX10_isOrder_13 (by decide) ?_
  refine g_istore_n (lv' := [(2, .int 0), (1, .int s0), (0, .ref (a 0))]) C dX10_isOrder_14 (by decide) rfl ?_
  refine g_sub (lv' := [(0, .ref (a 0)), (1, .int s0), (2, .int 0)]) [2, 1, 0] rfl ?_
  obtain ⟨n, h⟩ := h
  exact t_X10_isOrder_0_15 C hQ n f s0 0 h
set_option maxHeartbeats 4000000 in
theorem c_X10_isOrder_0 (l : Launch) (D : va_G) (a : Nat → Nat) (cI cZ : ClassId) {f : Sg} {Q : Int32 → Sg → Prop} (h : M_X10_isOrder_0 f Q) : MI l D [(cI, .int), (cZ, .boolean)] (rw a cI cZ) yX10_isOrder cX10_isOrder 3 (some .boolean) (1) [.ref (a 0)] f Q := by
  refine mkI (rw_fix a cI cZ) (by decide +kernel) (Nat.le_of_ble_eq_true rfl) (fun o C hQ => ?_)
  show Go o D (rw a cI cZ) 0 [(0, .ref (a 0))] [] f
  unfold M_X10_isOrder_0 at h
  refine g_aload_n C 0 dX10_isOrder_0 rfl ?_
  refine g_callVi C (As := []) (st := []) (fun l => c_X10_isOpen_0 l D a cI cZ h) cl_RX10_142_X10 rfl re_0 (by omega) rfl (Nat.le_of_ble_eq_true rfl) dX10_isOrder_1 (fun r2 g1 h => ?_)
  refine g_if_ne C 11 dX10_isOrder_4 (by decide) (fun c3 => ?_) (fun c3 => ?_)
  · have h := h.2 c3
    refine g_iconst C 0 dX10_isOrder_11 (by decide) ?_
    refine g_sub (lv' := [(0, .ref (a 0))]) [0] rfl ?_
    exact t_X10_isOrder_0_12 C hQ h
  · have h := h.1 c3
    refine g_iconst C 1 dX10_isOrder_7 (by decide) ?_
    refine g_goto C 12 dX10_isOrder_8 (by decide) ?_
    refine g_sub (lv' := [(0, .ref (a 0))]) [0] rfl ?_
    exact t_X10_isOrder_0_12 C hQ h
/-! X10_firstBreak_0: rank 3 -/
def J_X10_firstBreak_0_38 (Q : Int32 → Sg → Prop) (f : Sg) (s0 : Int32) : Prop :=
  Q s0 f
def J_X10_firstBreak_0_24 (Q : Int32 → Sg → Prop) (f : Sg) (x1 : Int32) : Prop :=
  ((f 0 6) ≤ x1 → J_X10_firstBreak_0_38 Q f (-6)) ∧ (¬ (f 0 6) ≤ x1 → J_X10_firstBreak_0_38 Q f x1)
def B_X10_firstBreak_0_2 (Q : Int32 → Sg → Prop) (K2 : Sg → Int32 → Prop) (f : Sg) (x1 : Int32) : Prop :=
  ((f 0 6) ≤ x1 → J_X10_firstBreak_0_24 Q f x1) ∧ (¬ (f 0 6) ≤ x1 → M_X10_breaksAt_0 f x1 (fun r4 g3 => (r4 = 0 → K2 g3 (x1 + 1)) ∧ (¬ r4 = 0 → J_X10_firstBreak_0_24 Q g3 x1)))
def M_X10_firstBreak_0 (f : Sg) (Q : Int32 → Sg → Prop) : Prop :=
  ∃ n : Nat, itr1 (B_X10_firstBreak_0_2 Q) n f 0
set_option maxHeartbeats 4000000 in
theorem t_X10_firstBreak_0_38 {o : Om} {D : va_G} {a : Nat → Nat} {cI cZ : ClassId} {Q : Int32 → Sg → Prop} (C : Cx o D [(cI, .int), (cZ, .boolean)] (rw a cI cZ) RX10 cX10_firstBreak (some .int) 3 2) (hQ : RetI o D (rw a cI cZ) Q) {f : Sg} {s0 : Int32} (h : J_X10_firstBreak_0_38 Q f s0) : Go o D (rw a cI cZ) 38 [] [.int s0] f := by
  unfold J_X10_firstBreak_0_38 at h
  exact g_iret C hQ dX10_firstBreak_38 h
set_option maxHeartbeats 4000000 in
theorem t_X10_firstBreak_0_24 {o : Om} {D : va_G} {a : Nat → Nat} {cI cZ : ClassId} {Q : Int32 → Sg → Prop} (C : Cx o D [(cI, .int), (cZ, .boolean)] (rw a cI cZ) RX10 cX10_firstBreak (some .int) 3 2) (hQ : RetI o D (rw a cI cZ) Q) {f : Sg} {x1 : Int32} (h : J_X10_firstBreak_0_24 Q f x1) : Go o D (rw a cI cZ) 24 [(0, .ref (a 0)), (1, .int x1)] [] f := by
  unfold J_X10_firstBreak_0_24 at h
  refine g_iload_n C 1 dX10_firstBreak_24 rfl ?_
  refine g_aload_n C 0 dX10_firstBreak_25 rfl ?_
  refine gf_RX10_71_X10 C re_0 rfl dX10_firstBreak_26 ?_
  refine g_icmp_ge C 36 dX10_firstBreak_29 (by decide) (fun c2 => ?_) (fun c2 => ?_)
  · have h := h.1 c2
    refine g_bipush C (-6) dX10_firstBreak_36 (by decide) ?_
    refine g_sub (lv' := []) [] rfl ?_
    exact t_X10_firstBreak_0_38 C hQ h
  · have h := h.2 c2
    refine g_iload_n C 1 dX10_firstBreak_32 rfl ?_
    refine g_goto C 38 dX10_firstBreak_33 (by decide) ?_
    refine g_sub (lv' := []) [] rfl ?_
    exact t_X10_firstBreak_0_38 C hQ h
set_option maxHeartbeats 4000000 in
theorem t_X10_firstBreak_0_2 {o : Om} {D : va_G} {a : Nat → Nat} {cI cZ : ClassId} {Q : Int32 → Sg → Prop} (C : Cx o D [(cI, .int), (cZ, .boolean)] (rw a cI cZ) RX10 cX10_firstBreak (some .int) 3 2) (hQ : RetI o D (rw a cI cZ) Q) : ∀ (n : Nat) (f : Sg) (x1 : Int32), itr1 (B_X10_firstBreak_0_2 Q) n f x1 → Go o D (rw a cI cZ) 2 [(0, .ref (a 0)), (1, .int x1)] [] f := by
  intro n
  induction n with
  | zero => intro f x1 h; exact h.elim
  | succ n ih =>
    intro f x1 h
    have h : B_X10_firstBreak_0_2 Q (itr1 (B_X10_firstBreak_0_2 Q) n) f x1 := h
    have hK2 := ih
    generalize itr1 (B_X10_firstBreak_0_2 Q) n = K2 at h hK2
    clear ih
    unfold B_X10_firstBreak_0_2 at h
    refine g_iload_n C 1 dX10_firstBreak_2 rfl ?_
    refine g_aload_n C 0 dX10_firstBreak_3 rfl ?_
    refine gf_RX10_71_X10 C re_0 rfl dX10_firstBreak_4 ?_
    refine g_icmp_ge C 24 dX10_firstBreak_7 (by decide) (fun c1 => ?_) (fun c1 => ?_)
    · have h := h.1 c1
      refine g_sub (lv' := [(0, .ref (a 0)), (1, .int x1)]) [0, 1] rfl ?_
      exact t_X10_firstBreak_0_24 C hQ h
    · have h := h.2 c1
      refine g_aload_n C 0 dX10_firstBreak_10 rfl ?_
      refine g_iload_n C 1 dX10_firstBreak_11 rfl ?_
      refine g_callVi C (As := [.int x1]) (st := []) (fun l => c_X10_breaksAt_0 l D a cI cZ h) cl_RX10_75_X10 rfl re_0 (by omega) rfl (Nat.le_of_ble_eq_true rfl) dX10_firstBreak_12 (fun r4 g3 h => ?_)
      refine g_if_ne C 24 dX10_firstBreak_15 (by decide) (fun c5 => ?_) (fun c5 => ?_)
      · have h := h.2 c5
        refine g_sub (lv' := [(0, .ref (a 0)), (1, .int x1)]) [0, 1] rfl ?_
        exact t_X10_firstBreak_0_24 C hQ h
      · have h := h.1 c5
        refine g_iinc (lv' := [(1, .int (x1 + 1)), (0, .ref (a 0))]) C 1 dX10_firstBreak_18 rfl rfl (by decide) rfl ?_
        refine g_goto C 2 dX10_firstBreak_21 (by decide) ?_
        refine g_sub (lv' := [(0, .ref (a 0)), (1, .int (x1 + 1))]) [1, 0] rfl ?_
        exact hK2 g3 (x1 + 1) h
set_option maxHeartbeats 4000000 in
theorem c_X10_firstBreak_0 (l : Launch) (D : va_G) (a : Nat → Nat) (cI cZ : ClassId) {f : Sg} {Q : Int32 → Sg → Prop} (h : M_X10_firstBreak_0 f Q) : MI l D [(cI, .int), (cZ, .boolean)] (rw a cI cZ) yX10_firstBreak cX10_firstBreak 2 (some .int) (3) [.ref (a 0)] f Q := by
  refine mkI (rw_fix a cI cZ) (by decide +kernel) (Nat.le_of_ble_eq_true rfl) (fun o C hQ => ?_)
  show Go o D (rw a cI cZ) 0 [(0, .ref (a 0))] [] f
  unfold M_X10_firstBreak_0 at h
  refine g_iconst C 0 dX10_firstBreak_0 (by decide) ?_
  refine g_istore_n (lv' := [(1, .int 0), (0, .ref (a 0))]) C dX10_firstBreak_1 (by decide) rfl ?_
  refine g_sub (lv' := [(0, .ref (a 0)), (1, .int 0)]) [1, 0] rfl ?_
  obtain ⟨n, h⟩ := h
  exact t_X10_firstBreak_0_2 C hQ n f 0 h
/-! X10_row_0: rank 5 -/
def J_X10_row_0_65 (Q : Int32 → Sg → Prop) (f : Sg) (s0 : Int32) : Prop :=
  Q s0 f
def M_X10_row_0 (f : Sg) (x1 : Int32) (Q : Int32 → Sg → Prop) : Prop :=
  M_X10_in f x1 0 2 (fun r2 g1 => (r2 = 0 → Q (-2) g1) ∧ (¬ r2 = 0 → M_X10_isOpen_0 g1 (fun r5 g4 => (r5 = 0 → M_X10_layPad_0 g4 (fun g7 => (x1 = 0 → M_X10_breaks_0 g7 (fun r19 g18 => J_X10_row_0_65 Q g18 r19)) ∧ (¬ x1 = 0 → (x1 = 1 → M_X10_firstBreak_0 g7 (fun r17 g16 => J_X10_row_0_65 Q g16 r17)) ∧ (¬ x1 = 1 → M_X10_isOrder_0 g7 (fun r12 g11 => (r12 = 0 → J_X10_row_0_65 Q g11 (-6)) ∧ (¬ r12 = 0 → M_X10_off_0 g11 (fun r15 g14 => J_X10_row_0_65 Q g14 r15))))))) ∧ (¬ r5 = 0 → Q (-7) g4))))
set_option maxHeartbeats 4000000 in
theorem t_X10_row_0_65 {o : Om} {D : va_G} {a : Nat → Nat} {cI cZ : ClassId} {Q : Int32 → Sg → Prop} (C : Cx o D [(cI, .int), (cZ, .boolean)] (rw a cI cZ) RX10 cX10_row (some .int) 5 2) (hQ : RetI o D (rw a cI cZ) Q) {f : Sg} {s0 : Int32} (h : J_X10_row_0_65 Q f s0) : Go o D (rw a cI cZ) 65 [] [.int s0] f := by
  unfold J_X10_row_0_65 at h
  exact g_iret C hQ dX10_row_65 h
set_option maxHeartbeats 4000000 in
theorem c_X10_row_0 (l : Launch) (D : va_G) (a : Nat → Nat) (cI cZ : ClassId) {f : Sg} {x1 : Int32} {Q : Int32 → Sg → Prop} (h : M_X10_row_0 f x1 Q) : MI l D [(cI, .int), (cZ, .boolean)] (rw a cI cZ) yX10_row cX10_row 2 (some .int) (5) [.ref (a 0), .int x1] f Q := by
  refine mkI (rw_fix a cI cZ) (by decide +kernel) (Nat.le_of_ble_eq_true rfl) (fun o C hQ => ?_)
  show Go o D (rw a cI cZ) 0 [(0, .ref (a 0)), (1, .int x1)] [] f
  unfold M_X10_row_0 at h
  refine g_iload_n C 1 dX10_row_0 rfl ?_
  refine g_iconst C 0 dX10_row_1 (by decide) ?_
  refine g_iconst C 2 dX10_row_2 (by decide) ?_
  refine g_callSi C (As := [.int x1, .int 0, .int 2]) (st := []) (fun l => c_X10_in l D a cI cZ h) cl_RX10_38 (by omega) rfl (Nat.le_of_ble_eq_true rfl) dX10_row_3 (fun r2 g1 h => ?_)
  refine g_if_ne C 12 dX10_row_6 (by decide) (fun c3 => ?_) (fun c3 => ?_)
  · have h := h.2 c3
    refine g_aload_n C 0 dX10_row_12 rfl ?_
    refine g_callVi C (As := []) (st := []) (fun l => c_X10_isOpen_0 l D a cI cZ h) cl_RX10_142_X10 rfl re_0 (by omega) rfl (Nat.le_of_ble_eq_true rfl) dX10_row_13 (fun r5 g4 h => ?_)
    refine g_if_eq C 22 dX10_row_16 (by decide) (fun c6 => ?_) (fun c6 => ?_)
    · have h := h.1 c6
      refine g_aload_n C 0 dX10_row_22 rfl ?_
      refine g_callVv C (As := []) (st := []) (fun l => c_X10_layPad_0 l D a cI cZ h) cl_RX10_148_X10 rfl re_0 (by omega) rfl (Nat.le_of_ble_eq_true rfl) dX10_row_23 (fun g7 h => ?_)
      refine g_iload_n C 1 dX10_row_26 rfl ?_
      refine g_if_ne C 37 dX10_row_27 (by decide) (fun c9 => ?_) (fun c9 => ?_)
      · have h := h.2 c9
        refine g_iload_n C 1 dX10_row_37 rfl ?_
        refine g_iconst C 1 dX10_row_38 (by decide) ?_
        refine g_icmp_ne C 49 dX10_row_39 (by decide) (fun c10 => ?_) (fun c10 => ?_)
        · have h := h.2 c10
          refine g_aload_n C 0 dX10_row_49 rfl ?_
          refine g_callVi C (As := []) (st := []) (fun l => c_X10_isOrder_0 l D a cI cZ h) cl_RX10_154_X10 rfl re_0 (by omega) rfl (Nat.le_of_ble_eq_true rfl) dX10_row_50 (fun r12 g11 h => ?_)
          refine g_if_eq C 63 dX10_row_53 (by decide) (fun c13 => ?_) (fun c13 => ?_)
          · have h := h.1 c13
            refine g_bipush C (-6) dX10_row_63 (by decide) ?_
            refine g_sub (lv' := []) [] rfl ?_
            exact t_X10_row_0_65 C hQ h
          · have h := h.2 c13
            refine g_aload_n C 0 dX10_row_56 rfl ?_
            refine g_callVi C (As := []) (st := []) (fun l => c_X10_off_0 l D a cI cZ h) cl_RX10_136_X10 rfl re_0 (by omega) rfl (Nat.le_of_ble_eq_true rfl) dX10_row_57 (fun r15 g14 h => ?_)
            refine g_goto C 65 dX10_row_60 (by decide) ?_
            refine g_sub (lv' := []) [] rfl ?_
            exact t_X10_row_0_65 C hQ h
        · have h := h.1 c10
          refine g_aload_n C 0 dX10_row_42 rfl ?_
          refine g_callVi C (As := []) (st := []) (fun l => c_X10_firstBreak_0 l D a cI cZ h) cl_RX10_151_X10 rfl re_0 (by omega) rfl (Nat.le_of_ble_eq_true rfl) dX10_row_43 (fun r17 g16 h => ?_)
          refine g_goto C 65 dX10_row_46 (by decide) ?_
          refine g_sub (lv' := []) [] rfl ?_
          exact t_X10_row_0_65 C hQ h
      · have h := h.1 c9
        refine g_aload_n C 0 dX10_row_30 rfl ?_
        refine g_callVi C (As := []) (st := []) (fun l => c_X10_breaks_0 l D a cI cZ h) cl_RX10_88_X10 rfl re_0 (by omega) rfl (Nat.le_of_ble_eq_true rfl) dX10_row_31 (fun r19 g18 h => ?_)
        refine g_goto C 65 dX10_row_34 (by decide) ?_
        refine g_sub (lv' := []) [] rfl ?_
        exact t_X10_row_0_65 C hQ h
    · have h := h.2 c6
      refine g_bipush C (-7) dX10_row_19 (by decide) ?_
      exact g_iret C hQ dX10_row_21 h
  · have h := h.1 c3
    refine g_bipush C (-2) dX10_row_9 (by decide) ?_
    exact g_iret C hQ dX10_row_11 h
/-! X10_isAsTold_0: rank 0 -/
def J_X10_isAsTold_0_72 (Q : Int32 → Sg → Prop) (f : Sg) (x1 : Int32) : Prop :=
  narrow .boolean (.int x1) = .int x1 ∧ Q x1 f
def J_X10_isAsTold_0_65 (Q : Int32 → Sg → Prop) (K19 : Sg → Int32 → Int32 → Prop) (f : Sg) (x2 : Int32) (s0 : Int32) : Prop :=
  K19 f s0 (x2 + 1)
def J_X10_isAsTold_0_60 (Q : Int32 → Sg → Prop) (K19 : Sg → Int32 → Int32 → Prop) (f : Sg) (x2 : Int32) : Prop :=
  J_X10_isAsTold_0_65 Q K19 f x2 1
def B_X10_isAsTold_0_19 (Q : Int32 → Sg → Prop) (K19 : Sg → Int32 → Int32 → Prop) (f : Sg) (x1 : Int32) (x2 : Int32) : Prop :=
  ((f 0 6) ≤ x2 → J_X10_isAsTold_0_72 Q f x1) ∧ (¬ (f 0 6) ≤ x2 → (x1 = 0 → J_X10_isAsTold_0_72 Q f x1) ∧ (¬ x1 = 0 → vp_in x2 9 ∧ ((f 4 (x2 : Int32).toNatClampNeg) = 63 → J_X10_isAsTold_0_60 Q K19 f x2) ∧ (¬ (f 4 (x2 : Int32).toNatClampNeg) = 63 → vp_in x2 9 ∧ vp_in x2 9 ∧ (((f 4 (x2 : Int32).toNatClampNeg) - 48) = (f 5 (x2 : Int32).toNatClampNeg) → J_X10_isAsTold_0_60 Q K19 f x2) ∧ (¬ ((f 4 (x2 : Int32).toNatClampNeg) - 48) = (f 5 (x2 : Int32).toNatClampNeg) → J_X10_isAsTold_0_65 Q K19 f x2 0))))
def J_X10_isAsTold_0_16 (Q : Int32 → Sg → Prop) (f : Sg) (s0 : Int32) : Prop :=
  ∃ n : Nat, itr2 (B_X10_isAsTold_0_19 Q) n f s0 0
def M_X10_isAsTold_0 (f : Sg) (Q : Int32 → Sg → Prop) : Prop :=
  ((f 0 6) = (f 0 4) → J_X10_isAsTold_0_16 Q f 1) ∧ (¬ (f 0 6) = (f 0 4) → J_X10_isAsTold_0_16 Q f 0)
set_option maxHeartbeats 4000000 in
theorem t_X10_isAsTold_0_72 {o : Om} {D : va_G} {a : Nat → Nat} {cI cZ : ClassId} {Q : Int32 → Sg → Prop} (C : Cx o D [(cI, .int), (cZ, .boolean)] (rw a cI cZ) RX10 cX10_isAsTold (some .boolean) 0 3) (hQ : RetI o D (rw a cI cZ) Q) {f : Sg} {x1 : Int32} (h : J_X10_isAsTold_0_72 Q f x1) : Go o D (rw a cI cZ) 72 [(1, .int x1)] [] f := by
  unfold J_X10_isAsTold_0_72 at h
  refine g_iload_n C 0 dX10_isAsTold_72 rfl ?_
  exact g_zret C hQ h.1 dX10_isAsTold_73 h.2
set_option maxHeartbeats 4000000 in
theorem t_X10_isAsTold_0_65 {o : Om} {D : va_G} {a : Nat → Nat} {cI cZ : ClassId} {Q : Int32 → Sg → Prop} {K19 : Sg → Int32 → Int32 → Prop} (C : Cx o D [(cI, .int), (cZ, .boolean)] (rw a cI cZ) RX10 cX10_isAsTold (some .boolean) 0 3) (hQ : RetI o D (rw a cI cZ) Q) (hK19 : ∀ (g : Sg) (x1 : Int32) (x2 : Int32), K19 g x1 x2 → Go o D (rw a cI cZ) 19 [(0, .ref (a 0)), (1, .int x1), (2, .int x2)] [] g) {f : Sg} {x2 : Int32} {s0 : Int32} (h : J_X10_isAsTold_0_65 Q K19 f x2 s0) : Go o D (rw a cI cZ) 65 [(0, .ref (a 0)), (2, .int x2)] [.int s0] f := by
  unfold J_X10_isAsTold_0_65 at h
  refine g_istore_n (lv' := [(1, .int s0), (0, .ref (a 0)), (2, .int x2)]) C dX10_isAsTold_65 (by decide) rfl ?_
  refine g_iinc (lv' := [(2, .int (x2 + 1)), (1, .int s0), (0, .ref (a 0))]) C 2 dX10_isAsTold_66 rfl rfl (by decide) rfl ?_
  refine g_goto C 19 dX10_isAsTold_69 (by decide) ?_
  refine g_sub (lv' := [(0, .ref (a 0)), (1, .int s0), (2, .int (x2 + 1))]) [2, 1, 0] rfl ?_
  exact hK19 f s0 (x2 + 1) h
set_option maxHeartbeats 4000000 in
theorem t_X10_isAsTold_0_60 {o : Om} {D : va_G} {a : Nat → Nat} {cI cZ : ClassId} {Q : Int32 → Sg → Prop} {K19 : Sg → Int32 → Int32 → Prop} (C : Cx o D [(cI, .int), (cZ, .boolean)] (rw a cI cZ) RX10 cX10_isAsTold (some .boolean) 0 3) (hQ : RetI o D (rw a cI cZ) Q) (hK19 : ∀ (g : Sg) (x1 : Int32) (x2 : Int32), K19 g x1 x2 → Go o D (rw a cI cZ) 19 [(0, .ref (a 0)), (1, .int x1), (2, .int x2)] [] g) {f : Sg} {x2 : Int32} (h : J_X10_isAsTold_0_60 Q K19 f x2) : Go o D (rw a cI cZ) 60 [(0, .ref (a 0)), (2, .int x2)] [] f := by
  unfold J_X10_isAsTold_0_60 at h
  refine g_iconst C 1 dX10_isAsTold_60 (by decide) ?_
  refine g_goto C 65 dX10_isAsTold_61 (by decide) ?_
  refine g_sub (lv' := [(0, .ref (a 0)), (2, .int x2)]) [0, 1] rfl ?_
  exact t_X10_isAsTold_0_65 C hQ hK19 h
set_option maxHeartbeats 4000000 in
theorem t_X10_isAsTold_0_19 {o : Om} {D : va_G} {a : Nat → Nat} {cI cZ : ClassId} {Q : Int32 → Sg → Prop} (C : Cx o D [(cI, .int), (cZ, .boolean)] (rw a cI cZ) RX10 cX10_isAsTold (some .boolean) 0 3) (hQ : RetI o D (rw a cI cZ) Q) : ∀ (n : Nat) (f : Sg) (x1 : Int32) (x2 : Int32), itr2 (B_X10_isAsTold_0_19 Q) n f x1 x2 → Go o D (rw a cI cZ) 19 [(0, .ref (a 0)), (1, .int x1), (2, .int x2)] [] f := by
  intro n
  induction n with
  | zero => intro f x1 x2 h; exact h.elim
  | succ n ih =>
    intro f x1 x2 h
    have h : B_X10_isAsTold_0_19 Q (itr2 (B_X10_isAsTold_0_19 Q) n) f x1 x2 := h
    have hK19 := ih
    generalize itr2 (B_X10_isAsTold_0_19 Q) n = K19 at h hK19
    clear ih
    unfold B_X10_isAsTold_0_19 at h
    refine g_iload_n C 2 dX10_isAsTold_19 rfl ?_
    refine g_aload_n C 0 dX10_isAsTold_20 rfl ?_
    refine gf_RX10_71_X10 C re_0 rfl dX10_isAsTold_21 ?_
    refine g_icmp_ge C 72 dX10_isAsTold_24 (by decide) (fun c2 => ?_) (fun c2 => ?_)
    · have h := h.1 c2
      refine g_sub (lv' := [(1, .int x1)]) [1] rfl ?_
      exact t_X10_isAsTold_0_72 C hQ h
    · have h := h.2 c2
      refine g_iload_n C 1 dX10_isAsTold_27 rfl ?_
      refine g_if_eq C 72 dX10_isAsTold_28 (by decide) (fun c3 => ?_) (fun c3 => ?_)
      · have h := h.1 c3
        refine g_sub (lv' := [(1, .int x1)]) [1] rfl ?_
        exact t_X10_isAsTold_0_72 C hQ h
      · have h := h.2 c3
        refine g_aload_n C 0 dX10_isAsTold_31 rfl ?_
        refine gf_RX10_20_X10 C re_0 rfl dX10_isAsTold_32 ?_
        refine g_iload_n C 2 dX10_isAsTold_35 rfl ?_
        obtain ⟨hi4, h⟩ := h
        refine g_iald C 0 re_4 rfl hi4 dX10_isAsTold_36 ?_
        refine g_bipush C 63 dX10_isAsTold_37 (by decide) ?_
        refine g_icmp_eq C 60 dX10_isAsTold_39 (by decide) (fun c5 => ?_) (fun c5 => ?_)
        · have h := h.1 c5
          refine g_sub (lv' := [(0, .ref (a 0)), (2, .int x2)]) [0, 2] rfl ?_
          exact t_X10_isAsTold_0_60 C hQ hK19 h
        · have h := h.2 c5
          refine g_aload_n C 0 dX10_isAsTold_42 rfl ?_
          refine gf_RX10_20_X10 C re_0 rfl dX10_isAsTold_43 ?_
          refine g_iload_n C 2 dX10_isAsTold_46 rfl ?_
          obtain ⟨hi6, h⟩ := h
          refine g_iald C 0 re_4 rfl hi6 dX10_isAsTold_47 ?_
          refine g_bipush C 48 dX10_isAsTold_48 (by decide) ?_
          refine g_isub C dX10_isAsTold_50 ?_
          refine g_aload_n C 0 dX10_isAsTold_51 rfl ?_
          refine gf_RX10_23_X10 C re_0 rfl dX10_isAsTold_52 ?_
          refine g_iload_n C 2 dX10_isAsTold_55 rfl ?_
          obtain ⟨hi7, h⟩ := h
          refine g_iald C 0 re_5 rfl hi7 dX10_isAsTold_56 ?_
          refine g_icmp_ne C 64 dX10_isAsTold_57 (by decide) (fun c8 => ?_) (fun c8 => ?_)
          · have h := h.2 c8
            refine g_iconst C 0 dX10_isAsTold_64 (by decide) ?_
            refine g_sub (lv' := [(0, .ref (a 0)), (2, .int x2)]) [0, 2] rfl ?_
            exact t_X10_isAsTold_0_65 C hQ hK19 h
          · have h := h.1 c8
            refine g_sub (lv' := [(0, .ref (a 0)), (2, .int x2)]) [0, 2] rfl ?_
            exact t_X10_isAsTold_0_60 C hQ hK19 h
set_option maxHeartbeats 4000000 in
theorem t_X10_isAsTold_0_16 {o : Om} {D : va_G} {a : Nat → Nat} {cI cZ : ClassId} {Q : Int32 → Sg → Prop} (C : Cx o D [(cI, .int), (cZ, .boolean)] (rw a cI cZ) RX10 cX10_isAsTold (some .boolean) 0 3) (hQ : RetI o D (rw a cI cZ) Q) {f : Sg} {s0 : Int32} (h : J_X10_isAsTold_0_16 Q f s0) : Go o D (rw a cI cZ) 16 [(0, .ref (a 0))] [.int s0] f := by
  unfold J_X10_isAsTold_0_16 at h
  refine g_istore_n (lv' := [(1, .int s0), (0, .ref (a 0))]) C dX10_isAsTold_16 (by decide) rfl ?_
  refine g_iconst C 0 dX10_isAsTold_17 (by decide) ?_
  refine g_istore_n (lv' := [(2, .int 0), (1, .int s0), (0, .ref (a 0))]) C dX10_isAsTold_18 (by decide) rfl ?_
  refine g_sub (lv' := [(0, .ref (a 0)), (1, .int s0), (2, .int 0)]) [2, 1, 0] rfl ?_
  obtain ⟨n, h⟩ := h
  exact t_X10_isAsTold_0_19 C hQ n f s0 0 h
set_option maxHeartbeats 4000000 in
theorem c_X10_isAsTold_0 (l : Launch) (D : va_G) (a : Nat → Nat) (cI cZ : ClassId) {f : Sg} {Q : Int32 → Sg → Prop} (h : M_X10_isAsTold_0 f Q) : MI l D [(cI, .int), (cZ, .boolean)] (rw a cI cZ) yX10_isAsTold cX10_isAsTold 3 (some .boolean) (0) [.ref (a 0)] f Q := by
  refine mkI (rw_fix a cI cZ) (by decide +kernel) (Nat.le_of_ble_eq_true rfl) (fun o C hQ => ?_)
  show Go o D (rw a cI cZ) 0 [(0, .ref (a 0))] [] f
  unfold M_X10_isAsTold_0 at h
  refine g_aload_n C 0 dX10_isAsTold_0 rfl ?_
  refine gf_RX10_71_X10 C re_0 rfl dX10_isAsTold_1 ?_
  refine g_aload_n C 0 dX10_isAsTold_4 rfl ?_
  refine gf_RX10_139_X10 C re_0 rfl dX10_isAsTold_5 ?_
  refine g_icmp_ne C 15 dX10_isAsTold_8 (by decide) (fun c1 => ?_) (fun c1 => ?_)
  · have h := h.2 c1
    refine g_iconst C 0 dX10_isAsTold_15 (by decide) ?_
    refine g_sub (lv' := [(0, .ref (a 0))]) [0] rfl ?_
    exact t_X10_isAsTold_0_16 C hQ h
  · have h := h.1 c1
    refine g_iconst C 1 dX10_isAsTold_11 (by decide) ?_
    refine g_goto C 16 dX10_isAsTold_12 (by decide) ?_
    refine g_sub (lv' := [(0, .ref (a 0))]) [0] rfl ?_
    exact t_X10_isAsTold_0_16 C hQ h
/-! X10_filled_0: rank 4 -/
def J_X10_filled_0_83 (Q : Int32 → Sg → Prop) (f : Sg) (s0 : Int32) : Prop :=
  Q s0 f
def J_X10_filled_0_58 (Q : Int32 → Sg → Prop) (K19 : Sg → Int32 → Int32 → Prop) (f : Sg) (x1 : Int32) : Prop :=
  M_X10_nextOrder_0 f (fun r13 g12 => K19 g12 x1 r13)
def J_X10_filled_0_48 (Q : Int32 → Sg → Prop) (K19 : Sg → Int32 → Int32 → Prop) (f : Sg) (x1 : Int32) : Prop :=
  ∀ g18 : Sg, g18 = va_up f 0 (upd (f 0) 9 ((f 0 9) + 1)) → J_X10_filled_0_58 Q K19 g18 x1
def B_X10_filled_0_19 (Q : Int32 → Sg → Prop) (K19 : Sg → Int32 → Int32 → Prop) (f : Sg) (x1 : Int32) (x2 : Int32) : Prop :=
  (x2 = 0 → (x1 = (-1) → J_X10_filled_0_83 Q f (f 0 9)) ∧ (¬ x1 = (-1) → M_X10_told__0 f x1 (fun r8 g7 => J_X10_filled_0_83 Q g7 r8))) ∧ (¬ x2 = 0 → M_X10_isAsTold_0 f (fun r10 g9 => (r10 = 0 → J_X10_filled_0_58 Q K19 g9 x1) ∧ (¬ r10 = 0 → M_X10_breaks_0 g9 (fun r15 g14 => (r15 = 0 → ((g14 0 9) = 0 → M_X10_keepBest_0 g14 (fun g19 => J_X10_filled_0_48 Q K19 g19 x1)) ∧ (¬ (g14 0 9) = 0 → J_X10_filled_0_48 Q K19 g14 x1)) ∧ (¬ r15 = 0 → J_X10_filled_0_58 Q K19 g14 x1)))))
def M_X10_filled_0 (f : Sg) (x1 : Int32) (Q : Int32 → Sg → Prop) : Prop :=
  ((-1) ≤ x1 → ∀ g2 : Sg, g2 = va_up f 0 (upd (f 0) 9 0) → M_X10_firstOrder_0 g2 (fun g3 => ∃ n : Nat, itr2 (B_X10_filled_0_19 Q) n g3 x1 1)) ∧ (¬ (-1) ≤ x1 → Q (-2) f)
set_option maxHeartbeats 4000000 in
theorem t_X10_filled_0_83 {o : Om} {D : va_G} {a : Nat → Nat} {cI cZ : ClassId} {Q : Int32 → Sg → Prop} (C : Cx o D [(cI, .int), (cZ, .boolean)] (rw a cI cZ) RX10 cX10_filled (some .int) 4 3) (hQ : RetI o D (rw a cI cZ) Q) {f : Sg} {s0 : Int32} (h : J_X10_filled_0_83 Q f s0) : Go o D (rw a cI cZ) 83 [] [.int s0] f := by
  unfold J_X10_filled_0_83 at h
  exact g_iret C hQ dX10_filled_83 h
set_option maxHeartbeats 4000000 in
theorem t_X10_filled_0_58 {o : Om} {D : va_G} {a : Nat → Nat} {cI cZ : ClassId} {Q : Int32 → Sg → Prop} {K19 : Sg → Int32 → Int32 → Prop} (C : Cx o D [(cI, .int), (cZ, .boolean)] (rw a cI cZ) RX10 cX10_filled (some .int) 4 3) (hQ : RetI o D (rw a cI cZ) Q) (hK19 : ∀ (g : Sg) (x1 : Int32) (x2 : Int32), K19 g x1 x2 → Go o D (rw a cI cZ) 19 [(0, .ref (a 0)), (1, .int x1), (2, .int x2)] [] g) {f : Sg} {x1 : Int32} (h : J_X10_filled_0_58 Q K19 f x1) : Go o D (rw a cI cZ) 58 [(0, .ref (a 0)), (1, .int x1)] [] f := by
  unfold J_X10_filled_0_58 at h
  refine g_aload_n C 0 dX10_filled_58 rfl ?_
  refine g_callVi C (As := []) (st := []) (fun l => c_X10_nextOrder_0 l D a cI cZ h) cl_RX10_94_X10 rfl re_0 (by omega) rfl (Nat.le_of_ble_eq_true rfl) dX10_filled_59 (fun r13 g12 h => ?_)
  refine g_istore_n (lv' := [(2, .int r13), (0, .ref (a 0)), (1, .int x1)]) C dX10_filled_62 (by decide) rfl ?_
  refine g_goto C 19 dX10_filled_63 (by decide) ?_
  refine g_sub (lv' := [(0, .ref (a 0)), (1, .int x1), (2, .int r13)]) [1, 2, 0] rfl ?_
  exact hK19 g12 x1 r13 h
set_option maxHeartbeats 4000000 in
theorem t_X10_filled_0_48 {o : Om} {D : va_G} {a : Nat → Nat} {cI cZ : ClassId} {Q : Int32 → Sg → Prop} {K19 : Sg → Int32 → Int32 → Prop} (C : Cx o D [(cI, .int), (cZ, .boolean)] (rw a cI cZ) RX10 cX10_filled (some .int) 4 3) (hQ : RetI o D (rw a cI cZ) Q) (hK19 : ∀ (g : Sg) (x1 : Int32) (x2 : Int32), K19 g x1 x2 → Go o D (rw a cI cZ) 19 [(0, .ref (a 0)), (1, .int x1), (2, .int x2)] [] g) {f : Sg} {x1 : Int32} (h : J_X10_filled_0_48 Q K19 f x1) : Go o D (rw a cI cZ) 48 [(0, .ref (a 0)), (1, .int x1)] [] f := by
  unfold J_X10_filled_0_48 at h
  refine g_aload_n C 0 dX10_filled_48 rfl ?_
  refine g_dup C dX10_filled_49 rfl ?_
  refine gf_RX10_82_X10 C re_0 rfl dX10_filled_50 ?_
  refine g_iconst C 1 dX10_filled_53 (by decide) ?_
  refine g_iadd C dX10_filled_54 ?_
  obtain ⟨g18, eg18⟩ : ∃ g : Sg, g = va_up f 0 (upd (f 0) 9 ((f 0 9) + 1)) := ⟨_, rfl⟩
  have h := h g18 eg18
  refine gp_RX10_82_X10 C rfl rfl re_0 (Nat.le_of_ble_eq_true rfl) (g := g18) (by rw [eg18]; exact rs_0_9) dX10_filled_55 ?_
  refine g_sub (lv' := [(0, .ref (a 0)), (1, .int x1)]) [0, 1] rfl ?_
  exact t_X10_filled_0_58 C hQ hK19 h
set_option maxHeartbeats 4000000 in
theorem t_X10_filled_0_19 {o : Om} {D : va_G} {a : Nat → Nat} {cI cZ : ClassId} {Q : Int32 → Sg → Prop} (C : Cx o D [(cI, .int), (cZ, .boolean)] (rw a cI cZ) RX10 cX10_filled (some .int) 4 3) (hQ : RetI o D (rw a cI cZ) Q) : ∀ (n : Nat) (f : Sg) (x1 : Int32) (x2 : Int32), itr2 (B_X10_filled_0_19 Q) n f x1 x2 → Go o D (rw a cI cZ) 19 [(0, .ref (a 0)), (1, .int x1), (2, .int x2)] [] f := by
  intro n
  induction n with
  | zero => intro f x1 x2 h; exact h.elim
  | succ n ih =>
    intro f x1 x2 h
    have h : B_X10_filled_0_19 Q (itr2 (B_X10_filled_0_19 Q) n) f x1 x2 := h
    have hK19 := ih
    generalize itr2 (B_X10_filled_0_19 Q) n = K19 at h hK19
    clear ih
    unfold B_X10_filled_0_19 at h
    refine g_iload_n C 2 dX10_filled_19 rfl ?_
    refine g_if_eq C 66 dX10_filled_20 (by decide) (fun c5 => ?_) (fun c5 => ?_)
    · have h := h.1 c5
      refine g_iload_n C 1 dX10_filled_66 rfl ?_
      refine g_iconst C (-1) dX10_filled_67 (by decide) ?_
      refine g_icmp_ne C 78 dX10_filled_68 (by decide) (fun c6 => ?_) (fun c6 => ?_)
      · have h := h.2 c6
        refine g_aload_n C 0 dX10_filled_78 rfl ?_
        refine g_iload_n C 1 dX10_filled_79 rfl ?_
        refine g_callVi C (As := [.int x1]) (st := []) (fun l => c_X10_told__0 l D a cI cZ h) cl_RX10_101_X10 rfl re_0 (by omega) rfl (Nat.le_of_ble_eq_true rfl) dX10_filled_80 (fun r8 g7 h => ?_)
        refine g_sub (lv' := []) [] rfl ?_
        exact t_X10_filled_0_83 C hQ h
      · have h := h.1 c6
        refine g_aload_n C 0 dX10_filled_71 rfl ?_
        refine gf_RX10_82_X10 C re_0 rfl dX10_filled_72 ?_
        refine g_goto C 83 dX10_filled_75 (by decide) ?_
        refine g_sub (lv' := []) [] rfl ?_
        exact t_X10_filled_0_83 C hQ h
    · have h := h.2 c5
      refine g_aload_n C 0 dX10_filled_23 rfl ?_
      refine g_callVi C (As := []) (st := []) (fun l => c_X10_isAsTold_0 l D a cI cZ h) cl_RX10_157_X10 rfl re_0 (by omega) rfl (Nat.le_of_ble_eq_true rfl) dX10_filled_24 (fun r10 g9 h => ?_)
      refine g_if_eq C 58 dX10_filled_27 (by decide) (fun c11 => ?_) (fun c11 => ?_)
      · have h := h.1 c11
        refine g_sub (lv' := [(0, .ref (a 0)), (1, .int x1)]) [0, 1] rfl ?_
        exact t_X10_filled_0_58 C hQ hK19 h
      · have h := h.2 c11
        refine g_aload_n C 0 dX10_filled_30 rfl ?_
        refine g_callVi C (As := []) (st := []) (fun l => c_X10_breaks_0 l D a cI cZ h) cl_RX10_88_X10 rfl re_0 (by omega) rfl (Nat.le_of_ble_eq_true rfl) dX10_filled_31 (fun r15 g14 h => ?_)
        refine g_if_ne C 58 dX10_filled_34 (by decide) (fun c16 => ?_) (fun c16 => ?_)
        · have h := h.2 c16
          refine g_sub (lv' := [(0, .ref (a 0)), (1, .int x1)]) [0, 1] rfl ?_
          exact t_X10_filled_0_58 C hQ hK19 h
        · have h := h.1 c16
          refine g_aload_n C 0 dX10_filled_37 rfl ?_
          refine gf_RX10_82_X10 C re_0 rfl dX10_filled_38 ?_
          refine g_if_ne C 48 dX10_filled_41 (by decide) (fun c17 => ?_) (fun c17 => ?_)
          · have h := h.2 c17
            refine g_sub (lv' := [(0, .ref (a 0)), (1, .int x1)]) [0, 1] rfl ?_
            exact t_X10_filled_0_48 C hQ hK19 h
          · have h := h.1 c17
            refine g_aload_n C 0 dX10_filled_44 rfl ?_
            refine g_callVv C (As := []) (st := []) (fun l => c_X10_keepBest_0 l D a cI cZ h) cl_RX10_91_X10 rfl re_0 (by omega) rfl (Nat.le_of_ble_eq_true rfl) dX10_filled_45 (fun g19 h => ?_)
            refine g_sub (lv' := [(0, .ref (a 0)), (1, .int x1)]) [0, 1] rfl ?_
            exact t_X10_filled_0_48 C hQ hK19 h
set_option maxHeartbeats 4000000 in
theorem c_X10_filled_0 (l : Launch) (D : va_G) (a : Nat → Nat) (cI cZ : ClassId) {f : Sg} {x1 : Int32} {Q : Int32 → Sg → Prop} (h : M_X10_filled_0 f x1 Q) : MI l D [(cI, .int), (cZ, .boolean)] (rw a cI cZ) yX10_filled cX10_filled 3 (some .int) (4) [.ref (a 0), .int x1] f Q := by
  refine mkI (rw_fix a cI cZ) (by decide +kernel) (Nat.le_of_ble_eq_true rfl) (fun o C hQ => ?_)
  show Go o D (rw a cI cZ) 0 [(0, .ref (a 0)), (1, .int x1)] [] f
  unfold M_X10_filled_0 at h
  refine g_iload_n C 1 dX10_filled_0 rfl ?_
  refine g_iconst C (-1) dX10_filled_1 (by decide) ?_
  refine g_icmp_ge C 8 dX10_filled_2 (by decide) (fun c1 => ?_) (fun c1 => ?_)
  · have h := h.1 c1
    refine g_aload_n C 0 dX10_filled_8 rfl ?_
    refine g_iconst C 0 dX10_filled_9 (by decide) ?_
    obtain ⟨g2, eg2⟩ : ∃ g : Sg, g = va_up f 0 (upd (f 0) 9 0) := ⟨_, rfl⟩
    have h := h g2 eg2
    refine gp_RX10_82_X10 C rfl rfl re_0 (Nat.le_of_ble_eq_true rfl) (g := g2) (by rw [eg2]; exact rs_0_9) dX10_filled_10 ?_
    refine g_aload_n C 0 dX10_filled_13 rfl ?_
    refine g_callVv C (As := []) (st := []) (fun l => c_X10_firstOrder_0 l D a cI cZ h) cl_RX10_85_X10 rfl re_0 (by omega) rfl (Nat.le_of_ble_eq_true rfl) dX10_filled_14 (fun g3 h => ?_)
    refine g_iconst C 1 dX10_filled_17 (by decide) ?_
    refine g_istore_n (lv' := [(2, .int 1), (0, .ref (a 0)), (1, .int x1)]) C dX10_filled_18 (by decide) rfl ?_
    refine g_sub (lv' := [(0, .ref (a 0)), (1, .int x1), (2, .int 1)]) [1, 2, 0] rfl ?_
    obtain ⟨n, h⟩ := h
    exact t_X10_filled_0_19 C hQ n g3 x1 1 h
  · have h := h.2 c1
    refine g_bipush C (-2) dX10_filled_5 (by decide) ?_
    exact g_iret C hQ dX10_filled_7 h
