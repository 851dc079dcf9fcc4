/-! X9_isOption: rank 0 -/
def J_X9_isOption_14 (Q : Int32 → Sg → Prop) (f : Sg) (s0 : Int32) : Prop :=
  narrow .boolean (.int s0) = .int s0 ∧ Q s0 f
def J_X9_isOption_13 (Q : Int32 → Sg → Prop) (f : Sg) : Prop :=
  J_X9_isOption_14 Q f 0
def M_X9_isOption (f : Sg) (x0 : Int32) (Q : Int32 → Sg → Prop) : Prop :=
  (x0 < 0 → J_X9_isOption_13 Q f) ∧ (¬ x0 < 0 → (4 ≤ x0 → J_X9_isOption_13 Q f) ∧ (¬ 4 ≤ x0 → J_X9_isOption_14 Q f 1))
set_option maxHeartbeats 4000000 in
theorem t_X9_isOption_14 {o : Om} {D : va_G} {a : Nat → Nat} {cI : ClassId} {Q : Int32 → Sg → Prop} (C : Cx o D [(cI, .int)] (cw a cI) RX9 cX9_isOption (some .boolean) 0 1) (hQ : RetI o D (cw a cI) Q) {f : Sg} {s0 : Int32} (h : J_X9_isOption_14 Q f s0) : Go o D (cw a cI) 14 [] [.int s0] f := by
  unfold J_X9_isOption_14 at h
  exact g_zret C hQ h.1 dX9_isOption_14 h.2
set_option maxHeartbeats 4000000 in
theorem t_X9_isOption_13 {o : Om} {D : va_G} {a : Nat → Nat} {cI : ClassId} {Q : Int32 → Sg → Prop} (C : Cx o D [(cI, .int)] (cw a cI) RX9 cX9_isOption (some .boolean) 0 1) (hQ : RetI o D (cw a cI) Q) {f : Sg} (h : J_X9_isOption_13 Q f) : Go o D (cw a cI) 13 [] [] f := by
  unfold J_X9_isOption_13 at h
  refine g_iconst C 0 dX9_isOption_13 (by decide) ?_
  refine g_sub (lv' := []) [] rfl ?_
  exact t_X9_isOption_14 C hQ h
set_option maxHeartbeats 4000000 in
theorem c_X9_isOption (l : Launch) (D : va_G) (a : Nat → Nat) (cI : ClassId) {f : Sg} {x0 : Int32} {Q : Int32 → Sg → Prop} (h : M_X9_isOption f x0 Q) : MI l D [(cI, .int)] (cw a cI) yX9_isOption cX9_isOption 1 (some .boolean) (0) [.int x0] f Q := by
  refine mkI (cw_fix a cI) (by decide +kernel) (Nat.le_of_ble_eq_true rfl) (fun o C hQ => ?_)
  show Go o D (cw a cI) 0 [(0, .int x0)] [] f
  unfold M_X9_isOption at h
  refine g_iload_n C 0 dX9_isOption_0 rfl ?_
  refine g_if_lt C 13 dX9_isOption_1 (by decide) (fun c1 => ?_) (fun c1 => ?_)
  · have h := h.1 c1
    refine g_sub (lv' := []) [] rfl ?_
    exact t_X9_isOption_13 C hQ h
  · have h := h.2 c1
    refine g_iload_n C 0 dX9_isOption_4 rfl ?_
    refine g_iconst C 4 dX9_isOption_5 (by decide) ?_
    refine g_icmp_ge C 13 dX9_isOption_6 (by decide) (fun c2 => ?_) (fun c2 => ?_)
    · have h := h.1 c2
      refine g_sub (lv' := []) [] rfl ?_
      exact t_X9_isOption_13 C hQ h
    · have h := h.2 c2
      refine g_iconst C 1 dX9_isOption_9 (by decide) ?_
      refine g_goto C 14 dX9_isOption_10 (by decide) ?_
      refine g_sub (lv' := []) [] rfl ?_
      exact t_X9_isOption_14 C hQ h
/-! X5_setOption_1: rank 0 -/
def M_X5_setOption_1 (f : Sg) (x1 : Int32) (x2 : Int32) (x3 : Int32) (Q : Sg → Prop) : Prop :=
  vp_in x1 4 ∧ ∀ g2 : Sg, g2 = va_up f 2 (upd (f 2) (x1 : Int32).toNatClampNeg x2) → vp_in x1 4 ∧ ∀ g4 : Sg, g4 = va_up g2 3 (upd (g2 3) (x1 : Int32).toNatClampNeg x3) → vp_in x1 4 ∧ ∀ g6 : Sg, g6 = va_up g4 4 (upd (g4 4) (x1 : Int32).toNatClampNeg (((69905 : Int32) >>> (((4 : Int32) * ((5 : Int32) - x3)) &&& 31)) <<< (x1 &&& 31))) → Q g6
set_option maxHeartbeats 4000000 in
theorem c_X5_setOption_1 (l : Launch) (D : va_G) (a : Nat → Nat) (cI : ClassId) {f : Sg} {x1 : Int32} {x2 : Int32} {x3 : Int32} {Q : Sg → Prop} (h : M_X5_setOption_1 f x1 x2 x3 Q) : MV l D [(cI, .int)] (cw a cI) yX5_setOption cX5_setOption 4 (0) [.ref (a 1), .int x1, .int x2, .int x3] f Q := by
  refine mkV (cw_fix a cI) (by decide +kernel) (Nat.le_of_ble_eq_true rfl) (fun o C hQ => ?_)
  show Go o D (cw a cI) 0 [(0, .ref (a 1)), (1, .int x1), (2, .int x2), (3, .int x3)] [] f
  unfold M_X5_setOption_1 at h
  refine g_aload_n C 0 dX5_setOption_0 rfl ?_
  refine gf_RX5_9_X5 C ce_1 rfl dX5_setOption_1 ?_
  refine g_iload_n C 1 dX5_setOption_4 rfl ?_
  refine g_iload_n C 2 dX5_setOption_5 rfl ?_
  obtain ⟨hi1, h⟩ := h
  obtain ⟨g2, eg2⟩ : ∃ g : Sg, g = va_up f 2 (upd (f 2) (x1 : Int32).toNatClampNeg x2) := ⟨_, rfl⟩
  have h := h g2 eg2
  refine g_iast C 0 ce_2 rfl (g := g2) (by rw [eg2]; exact cs_2) hi1 dX5_setOption_6 ?_
  refine g_aload_n C 0 dX5_setOption_7 rfl ?_
  refine gf_RX5_15_X5 C ce_1 rfl dX5_setOption_8 ?_
  refine g_iload_n C 1 dX5_setOption_11 rfl ?_
  refine g_iload_n C 3 dX5_setOption_12 rfl ?_
  obtain ⟨hi3, h⟩ := h
  obtain ⟨g4, eg4⟩ : ∃ g : Sg, g = va_up g2 3 (upd (g2 3) (x1 : Int32).toNatClampNeg x3) := ⟨_, rfl⟩
  have h := h g4 eg4
  refine g_iast C 0 ce_3 rfl (g := g4) (by rw [eg4]; exact cs_3) hi3 dX5_setOption_13 ?_
  refine g_aload_n C 0 dX5_setOption_14 rfl ?_
  refine gf_RX5_18_X5 C ce_1 rfl dX5_setOption_15 ?_
  refine g_iload_n C 1 dX5_setOption_18 rfl ?_
  refine g_ldc C tb_33 dX5_setOption_19 ?_
  refine g_iconst C 4 dX5_setOption_21 (by decide) ?_
  refine g_iconst C 5 dX5_setOption_22 (by decide) ?_
  refine g_iload_n C 3 dX5_setOption_23 rfl ?_
  refine g_isub C dX5_setOption_24 ?_
  refine g_imul C dX5_setOption_25 ?_
  refine g_ishr C dX5_setOption_26 ?_
  refine g_iload_n C 1 dX5_setOption_27 rfl ?_
  refine g_ishl C dX5_setOption_28 ?_
  obtain ⟨hi5, h⟩ := h
  obtain ⟨g6, eg6⟩ : ∃ g : Sg, g = va_up g4 4 (upd (g4 4) (x1 : Int32).toNatClampNeg (((69905 : Int32) >>> (((4 : Int32) * ((5 : Int32) - x3)) &&& 31)) <<< (x1 &&& 31))) := ⟨_, rfl⟩
  have h := h g6 eg6
  refine g_iast C 0 ce_4 rfl (g := g6) (by rw [eg6]; exact cs_4) hi5 dX5_setOption_29 ?_
  exact g_vret C hQ dX5_setOption_30 h
/-! X8_forget_14: rank 0 -/
def M_X8_forget_14 (f : Sg) (Q : Sg → Prop) : Prop :=
  ∀ g1 : Sg, g1 = va_up f 14 (upd (f 14) 3 0) → Q g1
set_option maxHeartbeats 4000000 in
theorem c_X8_forget_14 (l : Launch) (D : va_G) (a : Nat → Nat) (cI : ClassId) {f : Sg} {Q : Sg → Prop} (h : M_X8_forget_14 f Q) : MV l D [(cI, .int)] (cw a cI) yX8_forget cX8_forget 1 (0) [.ref (a 14)] f Q := by
  refine mkV (cw_fix a cI) (by decide +kernel) (Nat.le_of_ble_eq_true rfl) (fun o C hQ => ?_)
  show Go o D (cw a cI) 0 [(0, .ref (a 14))] [] f
  unfold M_X8_forget_14 at h
  refine g_aload_n C 0 dX8_forget_0 rfl ?_
  refine g_iconst C 0 dX8_forget_1 (by decide) ?_
  obtain ⟨g1, eg1⟩ : ∃ g : Sg, g = va_up f 14 (upd (f 14) 3 0) := ⟨_, rfl⟩
  have h := h g1 eg1
  refine gp_RX8_15_X2 C rfl rfl ce_14 (Nat.le_of_ble_eq_true rfl) (g := g1) (by rw [eg1]; exact cs_14_3) dX8_forget_2 ?_
  exact g_vret C hQ dX8_forget_5 h
/-! X8_forget_20: rank 0 -/
def M_X8_forget_20 (f : Sg) (Q : Sg → Prop) : Prop :=
  ∀ g1 : Sg, g1 = va_up f 20 (upd (f 20) 3 0) → Q g1
set_option maxHeartbeats 4000000 in
theorem c_X8_forget_20 (l : Launch) (D : va_G) (a : Nat → Nat) (cI : ClassId) {f : Sg} {Q : Sg → Prop} (h : M_X8_forget_20 f Q) : MV l D [(cI, .int)] (cw a cI) yX8_forget cX8_forget 1 (0) [.ref (a 20)] f Q := by
  refine mkV (cw_fix a cI) (by decide +kernel) (Nat.le_of_ble_eq_true rfl) (fun o C hQ => ?_)
  show Go o D (cw a cI) 0 [(0, .ref (a 20))] [] f
  unfold M_X8_forget_20 at h
  refine g_aload_n C 0 dX8_forget_0 rfl ?_
  refine g_iconst C 0 dX8_forget_1 (by decide) ?_
  obtain ⟨g1, eg1⟩ : ∃ g : Sg, g = va_up f 20 (upd (f 20) 3 0) := ⟨_, rfl⟩
  have h := h g1 eg1
  refine gp_RX8_15_X0 C rfl rfl ce_20 (Nat.le_of_ble_eq_true rfl) (g := g1) (by rw [eg1]; exact cs_20_3) dX8_forget_2 ?_
  exact g_vret C hQ dX8_forget_5 h
/-! X8_forget_22: rank 0 -/
def M_X8_forget_22 (f : Sg) (Q : Sg → Prop) : Prop :=
  ∀ g1 : Sg, g1 = va_up f 22 (upd (f 22) 3 0) → Q g1
set_option maxHeartbeats 4000000 in
theorem c_X8_forget_22 (l : Launch) (D : va_G) (a : Nat → Nat) (cI : ClassId) {f : Sg} {Q : Sg → Prop} (h : M_X8_forget_22 f Q) : MV l D [(cI, .int)] (cw a cI) yX8_forget cX8_forget 1 (0) [.ref (a 22)] f Q := by
  refine mkV (cw_fix a cI) (by decide +kernel) (Nat.le_of_ble_eq_true rfl) (fun o C hQ => ?_)
  show Go o D (cw a cI) 0 [(0, .ref (a 22))] [] f
  unfold M_X8_forget_22 at h
  refine g_aload_n C 0 dX8_forget_0 rfl ?_
  refine g_iconst C 0 dX8_forget_1 (by decide) ?_
  obtain ⟨g1, eg1⟩ : ∃ g : Sg, g = va_up f 22 (upd (f 22) 3 0) := ⟨_, rfl⟩
  have h := h g1 eg1
  refine gp_RX8_15_X3 C rfl rfl ce_22 (Nat.le_of_ble_eq_true rfl) (g := g1) (by rw [eg1]; exact cs_22_3) dX8_forget_2 ?_
  exact g_vret C hQ dX8_forget_5 h
/-! X8_forget_24: rank 0 -/
def M_X8_forget_24 (f : Sg) (Q : Sg → Prop) : Prop :=
  ∀ g1 : Sg, g1 = va_up f 24 (upd (f 24) 3 0) → Q g1
set_option maxHeartbeats 4000000 in
theorem c_X8_forget_24 (l : Launch) (D : va_G) (a : Nat → Nat) (cI : ClassId) {f : Sg} {Q : Sg → Prop} (h : M_X8_forget_24 f Q) : MV l D [(cI, .int)] (cw a cI) yX8_forget cX8_forget 1 (0) [.ref (a 24)] f Q := by
  refine mkV (cw_fix a cI) (by decide +kernel) (Nat.le_of_ble_eq_true rfl) (fun o C hQ => ?_)
  show Go o D (cw a cI) 0 [(0, .ref (a 24))] [] f
  unfold M_X8_forget_24 at h
  refine g_aload_n C 0 dX8_forget_0 rfl ?_
  refine g_iconst C 0 dX8_forget_1 (by decide) ?_
  obtain ⟨g1, eg1⟩ : ∃ g : Sg, g = va_up f 24 (upd (f 24) 3 0) := ⟨_, rfl⟩
  have h := h g1 eg1
  refine gp_RX8_15_X1 C rfl rfl ce_24 (Nat.le_of_ble_eq_true rfl) (g := g1) (by rw [eg1]; exact cs_24_3) dX8_forget_2 ?_
  exact g_vret C hQ dX8_forget_5 h
/-! X9_forgetOrders_0: rank 1 -/
def M_X9_forgetOrders_0 (f : Sg) (Q : Sg → Prop) : Prop :=
  M_X8_forget_14 f (fun g1 => M_X8_forget_20 g1 (fun g3 => M_X8_forget_22 g3 (fun g5 => M_X8_forget_24 g5 (fun g7 => Q g7))))
set_option maxHeartbeats 4000000 in
theorem c_X9_forgetOrders_0 (l : Launch) (D : va_G) (a : Nat → Nat) (cI : ClassId) {f : Sg} {Q : Sg → Prop} (h : M_X9_forgetOrders_0 f Q) : MV l D [(cI, .int)] (cw a cI) yX9_forgetOrders cX9_forgetOrders 1 (1) [.ref (a 0)] f Q := by
  refine mkV (cw_fix a cI) (by decide +kernel) (Nat.le_of_ble_eq_true rfl) (fun o C hQ => ?_)
  show Go o D (cw a cI) 0 [(0, .ref (a 0))] [] f
  unfold M_X9_forgetOrders_0 at h
  refine g_aload_n C 0 dX9_forgetOrders_0 rfl ?_
  refine gf_RX9_37_X9 C ce_0 rfl dX9_forgetOrders_1 ?_
  refine g_callUv C (As := []) (st := []) (fun l => c_X8_forget_14 l D a cI h) cl_RX9_207_X2 rfl ce_14 (by omega) rfl (Nat.le_of_ble_eq_true rfl) dX9_forgetOrders_4 (fun g1 h => ?_)
  refine g_aload_n C 0 dX9_forgetOrders_7 rfl ?_
  refine gf_RX9_44_X9 C ce_0 rfl dX9_forgetOrders_8 ?_
  refine g_callUv C (As := []) (st := []) (fun l => c_X8_forget_20 l D a cI h) cl_RX9_208_X0 rfl ce_20 (by omega) rfl (Nat.le_of_ble_eq_true rfl) dX9_forgetOrders_11 (fun g3 h => ?_)
  refine g_aload_n C 0 dX9_forgetOrders_14 rfl ?_
  refine gf_RX9_51_X9 C ce_0 rfl dX9_forgetOrders_15 ?_
  refine g_callUv C (As := []) (st := []) (fun l => c_X8_forget_22 l D a cI h) cl_RX9_209_X3 rfl ce_22 (by omega) rfl (Nat.le_of_ble_eq_true rfl) dX9_forgetOrders_18 (fun g5 h => ?_)
  refine g_aload_n C 0 dX9_forgetOrders_21 rfl ?_
  refine gf_RX9_60_X9 C ce_0 rfl dX9_forgetOrders_22 ?_
  refine g_callUv C (As := []) (st := []) (fun l => c_X8_forget_24 l D a cI h) cl_RX9_169_X1 rfl ce_24 (by omega) rfl (Nat.le_of_ble_eq_true rfl) dX9_forgetOrders_25 (fun g7 h => ?_)
  exact g_vret C hQ dX9_forgetOrders_28 h
/-! X9_option_0: rank 2 -/
def J_X9_option_0_29 (Q : Int32 → Sg → Prop) (f : Sg) : Prop :=
  Q (-2) f
def M_X9_option_0 (f : Sg) (x1 : Int32) (x2 : Int32) (x3 : Int32) (Q : Int32 → Sg → Prop) : Prop :=
  M_X9_isOption f x1 (fun r2 g1 => (r2 = 0 → Q (-1) g1) ∧ (¬ r2 = 0 → (x3 < 1 → J_X9_option_0_29 Q g1) ∧ (¬ x3 < 1 → (5 < x3 → J_X9_option_0_29 Q g1) ∧ (¬ 5 < x3 → (x2 < 1 → J_X9_option_0_29 Q g1) ∧ (¬ x2 < 1 → (x2 ≤ x3 → vp_in x1 4 ∧ vp_in x1 4 ∧ ∀ z10 : Int32, z10 = ((10 : Int32) * (g1 2 (x1 : Int32).toNatClampNeg)) + (g1 3 (x1 : Int32).toNatClampNeg) → M_X5_setOption_1 g1 x1 x2 x3 (fun g11 => M_X9_forgetOrders_0 g11 (fun g13 => Q z10 g13))) ∧ (¬ x2 ≤ x3 → J_X9_option_0_29 Q g1))))))
set_option maxHeartbeats 4000000 in
theorem t_X9_option_0_29 {o : Om} {D : va_G} {a : Nat → Nat} {cI : ClassId} {Q : Int32 → Sg → Prop} (C : Cx o D [(cI, .int)] (cw a cI) RX9 cX9_option (some .int) 2 5) (hQ : RetI o D (cw a cI) Q) {f : Sg} (h : J_X9_option_0_29 Q f) : Go o D (cw a cI) 29 [] [] f := by
  unfold J_X9_option_0_29 at h
  refine g_bipush C (-2) dX9_option_29 (by decide) ?_
  exact g_iret C hQ dX9_option_31 h
set_option maxHeartbeats 4000000 in
theorem c_X9_option_0 (l : Launch) (D : va_G) (a : Nat → Nat) (cI : ClassId) {f : Sg} {x1 : Int32} {x2 : Int32} {x3 : Int32} {Q : Int32 → Sg → Prop} (h : M_X9_option_0 f x1 x2 x3 Q) : MI l D [(cI, .int)] (cw a cI) yX9_option cX9_option 5 (some .int) (2) [.ref (a 0), .int x1, .int x2, .int x3] f Q := by
  refine mkI (cw_fix a cI) (by decide +kernel) (Nat.le_of_ble_eq_true rfl) (fun o C hQ => ?_)
  show Go o D (cw a cI) 0 [(0, .ref (a 0)), (1, .int x1), (2, .int x2), (3, .int x3)] [] f
  unfold M_X9_option_0 at h
  refine g_iload_n C 1 dX9_option_0 rfl ?_
  refine g_callSi C (As := [.int x1]) (st := []) (fun l => c_X9_isOption l D a cI h) cl_RX9_83 (by omega) rfl (Nat.le_of_ble_eq_true rfl) dX9_option_1 (fun r2 g1 h => ?_)
  refine g_if_ne C 9 dX9_option_4 (by decide) (fun c3 => ?_) (fun c3 => ?_)
  · have h := h.2 c3
    refine g_iload_n C 3 dX9_option_9 rfl ?_
    refine g_iconst C 1 dX9_option_10 (by decide) ?_
    refine g_icmp_lt C 29 dX9_option_11 (by decide) (fun c4 => ?_) (fun c4 => ?_)
    · have h := h.1 c4
      refine g_sub (lv' := []) [] rfl ?_
      exact t_X9_option_0_29 C hQ h
    · have h := h.2 c4
      refine g_iload_n C 3 dX9_option_14 rfl ?_
      refine g_iconst C 5 dX9_option_15 (by decide) ?_
      refine g_icmp_gt C 29 dX9_option_16 (by decide) (fun c5 => ?_) (fun c5 => ?_)
      · have h := h.1 c5
        refine g_sub (lv' := []) [] rfl ?_
        exact t_X9_option_0_29 C hQ h
      · have h := h.2 c5
        refine g_iload_n C 2 dX9_option_19 rfl ?_
        refine g_iconst C 1 dX9_option_20 (by decide) ?_
        refine g_icmp_lt C 29 dX9_option_21 (by decide) (fun c6 => ?_) (fun c6 => ?_)
        · have h := h.1 c6
          refine g_sub (lv' := []) [] rfl ?_
          exact t_X9_option_0_29 C hQ h
        · have h := h.2 c6
          refine g_iload_n C 2 dX9_option_24 rfl ?_
          refine g_iload_n C 3 dX9_option_25 rfl ?_
          refine g_icmp_le C 32 dX9_option_26 (by decide) (fun c7 => ?_) (fun c7 => ?_)
          · have h := h.1 c7
            refine g_bipush C 10 dX9_option_32 (by decide) ?_
            refine g_aload_n C 0 dX9_option_34 rfl ?_
            refine gf_RX9_10_X9 C ce_0 rfl dX9_option_35 ?_
            refine gf_RX9_87_X5 C ce_1 rfl dX9_option_38 ?_
            refine g_iload_n C 1 dX9_option_41 rfl ?_
            obtain ⟨hi8, h⟩ := h
            refine g_iald C 0 ce_2 rfl hi8 dX9_option_42 ?_
            refine g_imul C dX9_option_43 ?_
            refine g_aload_n C 0 dX9_option_44 rfl ?_
            refine gf_RX9_10_X9 C ce_0 rfl dX9_option_45 ?_
            refine gf_RX9_91_X5 C ce_1 rfl dX9_option_48 ?_
            refine g_iload_n C 1 dX9_option_51 rfl ?_
            obtain ⟨hi9, h⟩ := h
            refine g_iald C 0 ce_3 rfl hi9 dX9_option_52 ?_
            refine g_iadd C dX9_option_53 ?_
            refine g_top (fun z10 ez10 => ?_)
            have h := h z10 ez10
            refine g_istore (lv' := [(4, .int z10), (0, .ref (a 0)), (1, .int x1), (2, .int x2), (3, .int x3)]) C dX9_option_54 (by decide) rfl ?_
            refine g_aload_n C 1 dX9_option_56 rfl ?_
            refine gf_RX9_10_X9 C ce_0 rfl dX9_option_57 ?_
            refine g_iload_n C 2 dX9_option_60 rfl ?_
            refine g_iload_n C 3 dX9_option_61 rfl ?_
            refine g_iload_n C 4 dX9_option_62 rfl ?_
            refine g_callVv C (As := [.int x1, .int x2, .int x3]) (st := []) (fun l => c_X5_setOption_1 l D a cI h) cl_RX9_94_X5 rfl ce_1 (by omega) rfl (Nat.le_of_ble_eq_true rfl) dX9_option_63 (fun g11 h => ?_)
            refine g_aload_n C 1 dX9_option_66 rfl ?_
            refine g_callVv C (As := []) (st := []) (fun l => c_X9_forgetOrders_0 l D a cI h) cl_RX9_98_X9 rfl ce_0 (by omega) rfl (Nat.le_of_ble_eq_true rfl) dX9_option_67 (fun g13 h => ?_)
            refine g_iload C 0 dX9_option_70 rfl ?_
            exact g_iret C hQ dX9_option_72 h
          · have h := h.2 c7
            refine g_sub (lv' := []) [] rfl ?_
            exact t_X9_option_0_29 C hQ h
  · have h := h.1 c3
    refine g_iconst C (-1) dX9_option_7 (by decide) ?_
    exact g_iret C hQ dX9_option_8 h
/-! X9_isClass: rank 0 -/
def J_X9_isClass_14 (Q : Int32 → Sg → Prop) (f : Sg) (s0 : Int32) : Prop :=
  narrow .boolean (.int s0) = .int s0 ∧ Q s0 f
def J_X9_isClass_13 (Q : Int32 → Sg → Prop) (f : Sg) : Prop :=
  J_X9_isClass_14 Q f 0
def M_X9_isClass (f : Sg) (x0 : Int32) (Q : Int32 → Sg → Prop) : Prop :=
  (x0 < 0 → J_X9_isClass_13 Q f) ∧ (¬ x0 < 0 → (5 ≤ x0 → J_X9_isClass_13 Q f) ∧ (¬ 5 ≤ x0 → J_X9_isClass_14 Q f 1))
set_option maxHeartbeats 4000000 in
theorem t_X9_isClass_14 {o : Om} {D : va_G} {a : Nat → Nat} {cI : ClassId} {Q : Int32 → Sg → Prop} (C : Cx o D [(cI, .int)] (cw a cI) RX9 cX9_isClass (some .boolean) 0 1) (hQ : RetI o D (cw a cI) Q) {f : Sg} {s0 : Int32} (h : J_X9_isClass_14 Q f s0) : Go o D (cw a cI) 14 [] [.int s0] f := by
  unfold J_X9_isClass_14 at h
  exact g_zret C hQ h.1 dX9_isClass_14 h.2
set_option maxHeartbeats 4000000 in
theorem t_X9_isClass_13 {o : Om} {D : va_G} {a : Nat → Nat} {cI : ClassId} {Q : Int32 → Sg → Prop} (C : Cx o D [(cI, .int)] (cw a cI) RX9 cX9_isClass (some .boolean) 0 1) (hQ : RetI o D (cw a cI) Q) {f : Sg} (h : J_X9_isClass_13 Q f) : Go o D (cw a cI) 13 [] [] f := by
  unfold J_X9_isClass_13 at h
  refine g_iconst C 0 dX9_isClass_13 (by decide) ?_
  refine g_sub (lv' := []) [] rfl ?_
  exact t_X9_isClass_14 C hQ h
set_option maxHeartbeats 4000000 in
theorem c_X9_isClass (l : Launch) (D : va_G) (a : Nat → Nat) (cI : ClassId) {f : Sg} {x0 : Int32} {Q : Int32 → Sg → Prop} (h : M_X9_isClass f x0 Q) : MI l D [(cI, .int)] (cw a cI) yX9_isClass cX9_isClass 1 (some .boolean) (0) [.int x0] f Q := by
  refine mkI (cw_fix a cI) (by decide +kernel) (Nat.le_of_ble_eq_true rfl) (fun o C hQ => ?_)
  show Go o D (cw a cI) 0 [(0, .int x0)] [] f
  unfold M_X9_isClass at h
  refine g_iload_n C 0 dX9_isClass_0 rfl ?_
  refine g_if_lt C 13 dX9_isClass_1 (by decide) (fun c1 => ?_) (fun c1 => ?_)
  · have h := h.1 c1
    refine g_sub (lv' := []) [] rfl ?_
    exact t_X9_isClass_13 C hQ h
  · have h := h.2 c1
    refine g_iload_n C 0 dX9_isClass_4 rfl ?_
    refine g_iconst C 5 dX9_isClass_5 (by decide) ?_
    refine g_icmp_ge C 13 dX9_isClass_6 (by decide) (fun c2 => ?_) (fun c2 => ?_)
    · have h := h.1 c2
      refine g_sub (lv' := []) [] rfl ?_
      exact t_X9_isClass_13 C hQ h
    · have h := h.2 c2
      refine g_iconst C 1 dX9_isClass_9 (by decide) ?_
      refine g_goto C 14 dX9_isClass_10 (by decide) ?_
      refine g_sub (lv' := []) [] rfl ?_
      exact t_X9_isClass_14 C hQ h
/-! X9_options_0: rank 2 -/
def J_X9_options_0_19 (Q : Int32 → Sg → Prop) (f : Sg) : Prop :=
  Q (-2) f
def M_X9_options_0 (f : Sg) (x1 : Int32) (x2 : Int32) (Q : Int32 → Sg → Prop) : Prop :=
  M_X9_isClass f x1 (fun r2 g1 => (r2 = 0 → Q (-1) g1) ∧ (¬ r2 = 0 → (x2 < 0 → J_X9_options_0_19 Q g1) ∧ (¬ x2 < 0 → (x2 ≤ 15 → vp_in x1 5 ∧ ∀ z7 : Int32, z7 = g1 5 (x1 : Int32).toNatClampNeg → vp_in x1 5 ∧ ∀ g9 : Sg, g9 = va_up g1 5 (upd (g1 5) (x1 : Int32).toNatClampNeg x2) → M_X9_forgetOrders_0 g9 (fun g10 => Q z7 g10)) ∧ (¬ x2 ≤ 15 → J_X9_options_0_19 Q g1))))
set_option maxHeartbeats 4000000 in
theorem t_X9_options_0_19 {o : Om} {D : va_G} {a : Nat → Nat} {cI : ClassId} {Q : Int32 → Sg → Prop} (C : Cx o D [(cI, .int)] (cw a cI) RX9 cX9_options (some .int) 2 4) (hQ : RetI o D (cw a cI) Q) {f : Sg} (h : J_X9_options_0_19 Q f) : Go o D (cw a cI) 19 [] [] f := by
  unfold J_X9_options_0_19 at h
  refine g_bipush C (-2) dX9_options_19 (by decide) ?_
  exact g_iret C hQ dX9_options_21 h
set_option maxHeartbeats 4000000 in
theorem c_X9_options_0 (l : Launch) (D : va_G) (a : Nat → Nat) (cI : ClassId) {f : Sg} {x1 : Int32} {x2 : Int32} {Q : Int32 → Sg → Prop} (h : M_X9_options_0 f x1 x2 Q) : MI l D [(cI, .int)] (cw a cI) yX9_options cX9_options 4 (some .int) (2) [.ref (a 0), .int x1, .int x2] f Q := by
  refine mkI (cw_fix a cI) (by decide +kernel) (Nat.le_of_ble_eq_true rfl) (fun o C hQ => ?_)
  show Go o D (cw a cI) 0 [(0, .ref (a 0)), (1, .int x1), (2, .int x2)] [] f
  unfold M_X9_options_0 at h
  refine g_iload_n C 1 dX9_options_0 rfl ?_
  refine g_callSi C (As := [.int x1]) (st := []) (fun l => c_X9_isClass l D a cI h) cl_RX9_101 (by omega) rfl (Nat.le_of_ble_eq_true rfl) dX9_options_1 (fun r2 g1 h => ?_)
  refine g_if_ne C 9 dX9_options_4 (by decide) (fun c3 => ?_) (fun c3 => ?_)
  · have h := h.2 c3
    refine g_iload_n C 2 dX9_options_9 rfl ?_
    refine g_if_lt C 19 dX9_options_10 (by decide) (fun c4 => ?_) (fun c4 => ?_)
    · have h := h.1 c4
      refine g_sub (lv' := []) [] rfl ?_
      exact t_X9_options_0_19 C hQ h
    · have h := h.2 c4
      refine g_iload_n C 2 dX9_options_13 rfl ?_
      refine g_bipush C 15 dX9_options_14 (by decide) ?_
      refine g_icmp_le C 22 dX9_options_16 (by decide) (fun c5 => ?_) (fun c5 => ?_)
      · have h := h.1 c5
        refine g_aload_n C 0 dX9_options_22 rfl ?_
        refine gf_RX9_10_X9 C ce_0 rfl dX9_options_23 ?_
        refine gf_RX9_104_X5 C ce_1 rfl dX9_options_26 ?_
        refine g_iload_n C 1 dX9_options_29 rfl ?_
        obtain ⟨hi6, h⟩ := h
        refine g_iald C 0 ce_5 rfl hi6 dX9_options_30 ?_
        refine g_top (fun z7 ez7 => ?_)
        have h := h z7 ez7
        refine g_istore_n (lv' := [(3, .int z7), (0, .ref (a 0)), (1, .int x1), (2, .int x2)]) C dX9_options_31 (by decide) rfl ?_
        refine g_aload_n C 1 dX9_options_32 rfl ?_
        refine gf_RX9_10_X9 C ce_0 rfl dX9_options_33 ?_
        refine gf_RX9_104_X5 C ce_1 rfl dX9_options_36 ?_
        refine g_iload_n C 2 dX9_options_39 rfl ?_
        refine g_iload_n C 3 dX9_options_40 rfl ?_
        obtain ⟨hi8, h⟩ := h
        obtain ⟨g9, eg9⟩ : ∃ g : Sg, g = va_up g1 5 (upd (g1 5) (x1 : Int32).toNatClampNeg x2) := ⟨_, rfl⟩
        have h := h g9 eg9
        refine g_iast C 0 ce_5 rfl (g := g9) (by rw [eg9]; exact cs_5) hi8 dX9_options_41 ?_
        refine g_aload_n C 1 dX9_options_42 rfl ?_
        refine g_callVv C (As := []) (st := []) (fun l => c_X9_forgetOrders_0 l D a cI h) cl_RX9_98_X9 rfl ce_0 (by omega) rfl (Nat.le_of_ble_eq_true rfl) dX9_options_43 (fun g10 h => ?_)
        refine g_iload_n C 0 dX9_options_46 rfl ?_
        exact g_iret C hQ dX9_options_47 h
      · have h := h.2 c5
        refine g_sub (lv' := []) [] rfl ?_
        exact t_X9_options_0_19 C hQ h
  · have h := h.1 c3
    refine g_iconst C (-1) dX9_options_7 (by decide) ?_
    exact g_iret C hQ dX9_options_8 h
/-! X5_cars_1: rank 0 -/
def B_X5_cars_1_4 (Q : Int32 → Sg → Prop) (K4 : Sg → Int32 → Int32 → Prop) (f : Sg) (x1 : Int32) (x2 : Int32) : Prop :=
  (5 ≤ x2 → Q x1 f) ∧ (¬ 5 ≤ x2 → vp_in x2 5 ∧ ∀ z3 : Int32, z3 = x1 + (f 6 (x2 : Int32).toNatClampNeg) → K4 f z3 (x2 + 1))
def M_X5_cars_1 (f : Sg) (Q : Int32 → Sg → Prop) : Prop :=
  ∃ n : Nat, itr2 (B_X5_cars_1_4 Q) n f 0 0
set_option maxHeartbeats 4000000 in
theorem t_X5_cars_1_4 {o : Om} {D : va_G} {a : Nat → Nat} {cI : ClassId} {Q : Int32 → Sg → Prop} (C : Cx o D [(cI, .int)] (cw a cI) RX5 cX5_cars (some .int) 0 3) (hQ : RetI o D (cw a cI) Q) : ∀ (n : Nat) (f : Sg) (x1 : Int32) (x2 : Int32), itr2 (B_X5_cars_1_4 Q) n f x1 x2 → Go o D (cw a cI) 4 [(0, .ref (a 1)), (1, .int x1), (2, .int x2)] [] f := by
  intro n
  induction n with
  | zero => intro f x1 x2 h; exact h.elim
  | succ n ih =>
    intro f x1 x2 h
    have h : B_X5_cars_1_4 Q (itr2 (B_X5_cars_1_4 Q) n) f x1 x2 := h
    have hK4 := ih
    generalize itr2 (B_X5_cars_1_4 Q) n = K4 at h hK4
    clear ih
    unfold B_X5_cars_1_4 at h
    refine g_iload_n C 2 dX5_cars_4 rfl ?_
    refine g_iconst C 5 dX5_cars_5 (by decide) ?_
    refine g_icmp_ge C 24 dX5_cars_6 (by decide) (fun c1 => ?_) (fun c1 => ?_)
    · have h := h.1 c1
      refine g_iload_n C 1 dX5_cars_24 rfl ?_
      exact g_iret C hQ dX5_cars_25 h
    · have h := h.2 c1
      refine g_iload_n C 1 dX5_cars_9 rfl ?_
      refine g_aload_n C 0 dX5_cars_10 rfl ?_
      refine gf_RX5_24_X5 C ce_1 rfl dX5_cars_11 ?_
      refine g_iload_n C 2 dX5_cars_14 rfl ?_
      obtain ⟨hi2, h⟩ := h
      refine g_iald C 0 ce_6 rfl hi2 dX5_cars_15 ?_
      refine g_iadd C dX5_cars_16 ?_
      refine g_top (fun z3 ez3 => ?_)
      have h := h z3 ez3
      refine g_istore_n (lv' := [(1, .int z3), (0, .ref (a 1)), (2, .int x2)]) C dX5_cars_17 (by decide) rfl ?_
      refine g_iinc (lv' := [(2, .int (x2 + 1)), (1, .int z3), (0, .ref (a 1))]) C 2 dX5_cars_18 rfl rfl (by decide) rfl ?_
      refine g_goto C 4 dX5_cars_21 (by decide) ?_
      refine g_sub (lv' := [(0, .ref (a 1)), (1, .int z3), (2, .int (x2 + 1))]) [2, 1, 0] rfl ?_
      exact hK4 f z3 (x2 + 1) h
set_option maxHeartbeats 4000000 in
theorem c_X5_cars_1 (l : Launch) (D : va_G) (a : Nat → Nat) (cI : ClassId) {f : Sg} {Q : Int32 → Sg → Prop} (h : M_X5_cars_1 f Q) : MI l D [(cI, .int)] (cw a cI) yX5_cars cX5_cars 3 (some .int) (0) [.ref (a 1)] f Q := by
  refine mkI (cw_fix a cI) (by decide +kernel) (Nat.le_of_ble_eq_true rfl) (fun o C hQ => ?_)
  show Go o D (cw a cI) 0 [(0, .ref (a 1))] [] f
  unfold M_X5_cars_1 at h
  refine g_iconst C 0 dX5_cars_0 (by decide) ?_
  refine g_istore_n (lv' := [(1, .int 0), (0, .ref (a 1))]) C dX5_cars_1 (by decide) rfl ?_
  refine g_iconst C 0 dX5_cars_2 (by decide) ?_
  refine g_istore_n (lv' := [(2, .int 0), (1, .int 0), (0, .ref (a 1))]) C dX5_cars_3 (by decide) rfl ?_
  refine g_sub (lv' := [(0, .ref (a 1)), (1, .int 0), (2, .int 0)]) [2, 1, 0] rfl ?_
  obtain ⟨n, h⟩ := h
  exact t_X5_cars_1_4 C hQ n f 0 0 h
/-! X9_demand_0: rank 2 -/
def J_X9_demand_0_19 (Q : Int32 → Sg → Prop) (f : Sg) : Prop :=
  Q (-2) f
def M_X9_demand_0 (f : Sg) (x1 : Int32) (x2 : Int32) (Q : Int32 → Sg → Prop) : Prop :=
  M_X9_isClass f x1 (fun r2 g1 => (r2 = 0 → Q (-1) g1) ∧ (¬ r2 = 0 → (x2 < 0 → J_X9_demand_0_19 Q g1) ∧ (¬ x2 < 0 → (x2 ≤ 9 → M_X5_cars_1 g1 (fun r7 g6 => vp_in x1 5 ∧ ∀ z9 : Int32, z9 = (r7 - (g6 6 (x1 : Int32).toNatClampNeg)) + x2 → (z9 ≤ 9 → vp_in x1 5 ∧ ∀ g12 : Sg, g12 = va_up g6 6 (upd (g6 6) (x1 : Int32).toNatClampNeg x2) → M_X9_forgetOrders_0 g12 (fun g13 => Q z9 g13)) ∧ (¬ z9 ≤ 9 → Q (-4) g6))) ∧ (¬ x2 ≤ 9 → J_X9_demand_0_19 Q g1))))
set_option maxHeartbeats 4000000 in
theorem t_X9_demand_0_19 {o : Om} {D : va_G} {a : Nat → Nat} {cI : ClassId} {Q : Int32 → Sg → Prop} (C : Cx o D [(cI, .int)] (cw a cI) RX9 cX9_demand (some .int) 2 4) (hQ : RetI o D (cw a cI) Q) {f : Sg} (h : J_X9_demand_0_19 Q f) : Go o D (cw a cI) 19 [] [] f := by
  unfold J_X9_demand_0_19 at h
  refine g_bipush C (-2) dX9_demand_19 (by decide) ?_
  exact g_iret C hQ dX9_demand_21 h
set_option maxHeartbeats 4000000 in
theorem c_X9_demand_0 (l : Launch) (D : va_G) (a : Nat → Nat) (cI : ClassId) {f : Sg} {x1 : Int32} {x2 : Int32} {Q : Int32 → Sg → Prop} (h : M_X9_demand_0 f x1 x2 Q) : MI l D [(cI, .int)] (cw a cI) yX9_demand cX9_demand 4 (some .int) (2) [.ref (a 0), .int x1, .int x2] f Q := by
  refine mkI (cw_fix a cI) (by decide +kernel) (Nat.le_of_ble_eq_true rfl) (fun o C hQ => ?_)
  show Go o D (cw a cI) 0 [(0, .ref (a 0)), (1, .int x1), (2, .int x2)] [] f
  unfold M_X9_demand_0 at h
  refine g_iload_n C 1 dX9_demand_0 rfl ?_
  refine g_callSi C (As := [.int x1]) (st := []) (fun l => c_X9_isClass l D a cI h) cl_RX9_101 (by omega) rfl (Nat.le_of_ble_eq_true rfl) dX9_demand_1 (fun r2 g1 h => ?_)
  refine g_if_ne C 9 dX9_demand_4 (by decide) (fun c3 => ?_) (fun c3 => ?_)
  · have h := h.2 c3
    refine g_iload_n C 2 dX9_demand_9 rfl ?_
    refine g_if_lt C 19 dX9_demand_10 (by decide) (fun c4 => ?_) (fun c4 => ?_)
    · have h := h.1 c4
      refine g_sub (lv' := []) [] rfl ?_
      exact t_X9_demand_0_19 C hQ h
    · have h := h.2 c4
      refine g_iload_n C 2 dX9_demand_13 rfl ?_
      refine g_bipush C 9 dX9_demand_14 (by decide) ?_
      refine g_icmp_le C 22 dX9_demand_16 (by decide) (fun c5 => ?_) (fun c5 => ?_)
      · have h := h.1 c5
        refine g_aload_n C 0 dX9_demand_22 rfl ?_
        refine gf_RX9_10_X9 C ce_0 rfl dX9_demand_23 ?_
        refine g_callVi C (As := []) (st := []) (fun l => c_X5_cars_1 l D a cI h) cl_RX9_107_X5 rfl ce_1 (by omega) rfl (Nat.le_of_ble_eq_true rfl) dX9_demand_26 (fun r7 g6 h => ?_)
        refine g_aload_n C 0 dX9_demand_29 rfl ?_
        refine gf_RX9_10_X9 C ce_0 rfl dX9_demand_30 ?_
        refine gf_RX9_111_X5 C ce_1 rfl dX9_demand_33 ?_
        refine g_iload_n C 1 dX9_demand_36 rfl ?_
        obtain ⟨hi8, h⟩ := h
        refine g_iald C 0 ce_6 rfl hi8 dX9_demand_37 ?_
        refine g_isub C dX9_demand_38 ?_
        refine g_iload_n C 2 dX9_demand_39 rfl ?_
        refine g_iadd C dX9_demand_40 ?_
        refine g_top (fun z9 ez9 => ?_)
        have h := h z9 ez9
        refine g_istore_n (lv' := [(3, .int z9), (0, .ref (a 0)), (1, .int x1), (2, .int x2)]) C dX9_demand_41 (by decide) rfl ?_
        refine g_iload_n C 0 dX9_demand_42 rfl ?_
        refine g_bipush C 9 dX9_demand_43 (by decide) ?_
        refine g_icmp_le C 51 dX9_demand_45 (by decide) (fun c10 => ?_) (fun c10 => ?_)
        · have h := h.1 c10
          refine g_aload_n C 1 dX9_demand_51 rfl ?_
          refine gf_RX9_10_X9 C ce_0 rfl dX9_demand_52 ?_
          refine gf_RX9_111_X5 C ce_1 rfl dX9_demand_55 ?_
          refine g_iload_n C 2 dX9_demand_58 rfl ?_
          refine g_iload_n C 3 dX9_demand_59 rfl ?_
          obtain ⟨hi11, h⟩ := h
          obtain ⟨g12, eg12⟩ : ∃ g : Sg, g = va_up g6 6 (upd (g6 6) (x1 : Int32).toNatClampNeg x2) := ⟨_, rfl⟩
          have h := h g12 eg12
          refine g_iast C 0 ce_6 rfl (g := g12) (by rw [eg12]; exact cs_6) hi11 dX9_demand_60 ?_
          refine g_aload_n C 1 dX9_demand_61 rfl ?_
          refine g_callVv C (As := []) (st := []) (fun l => c_X9_forgetOrders_0 l D a cI h) cl_RX9_98_X9 rfl ce_0 (by omega) rfl (Nat.le_of_ble_eq_true rfl) dX9_demand_62 (fun g13 h => ?_)
          refine g_iload_n C 0 dX9_demand_65 rfl ?_
          exact g_iret C hQ dX9_demand_66 h
        · have h := h.2 c10
          refine g_bipush C (-4) dX9_demand_48 (by decide) ?_
          exact g_iret C hQ dX9_demand_50 h
      · have h := h.2 c5
        refine g_sub (lv' := []) [] rfl ?_
        exact t_X9_demand_0_19 C hQ h
  · have h := h.1 c3
    refine g_iconst C (-1) dX9_demand_7 (by decide) ?_
    exact g_iret C hQ dX9_demand_8 h
/-! X9_told_0: rank 1 -/
def M_X9_told_0 (f : Sg) (x1 : Int32) (x2 : Int32) (Q : Int32 → Sg → Prop) : Prop :=
  M_X9_isClass f x1 (fun r2 g1 => (r2 = 0 → Q (-1) g1) ∧ (¬ r2 = 0 → (x2 = 0 → vp_in x1 5 ∧ Q (g1 5 (x1 : Int32).toNatClampNeg) g1) ∧ (¬ x2 = 0 → (x2 = 1 → vp_in x1 5 ∧ Q (g1 6 (x1 : Int32).toNatClampNeg) g1) ∧ (¬ x2 = 1 → Q (-2) g1))))
set_option maxHeartbeats 4000000 in
theorem c_X9_told_0 (l : Launch) (D : va_G) (a : Nat → Nat) (cI : ClassId) {f : Sg} {x1 : Int32} {x2 : Int32} {Q : Int32 → Sg → Prop} (h : M_X9_told_0 f x1 x2 Q) : MI l D [(cI, .int)] (cw a cI) yX9_told cX9_told 3 (some .int) (1) [.ref (a 0), .int x1, .int x2] f Q := by
  refine mkI (cw_fix a cI) (by decide +kernel) (Nat.le_of_ble_eq_true rfl) (fun o C hQ => ?_)
  show Go o D (cw a cI) 0 [(0, .ref (a 0)), (1, .int x1), (2, .int x2)] [] f
  unfold M_X9_told_0 at h
  refine g_iload_n C 1 dX9_told_0 rfl ?_
  refine g_callSi C (As := [.int x1]) (st := []) (fun l => c_X9_isClass l D a cI h) cl_RX9_101 (by omega) rfl (Nat.le_of_ble_eq_true rfl) dX9_told_1 (fun r2 g1 h => ?_)
  refine g_if_ne C 9 dX9_told_4 (by decide) (fun c3 => ?_) (fun c3 => ?_)
  · have h := h.2 c3
    refine g_iload_n C 2 dX9_told_9 rfl ?_
    by_cases e4 : x2 = 0
    · have h := h.1 e4
      refine g_look C 36 dX9_told_10 (by decide) (by rw [e4] <;> rfl) (by decide) ?_
      refine g_aload_n C 0 dX9_told_36 rfl ?_
      refine gf_RX9_10_X9 C ce_0 rfl dX9_told_37 ?_
      refine gf_RX9_104_X5 C ce_1 rfl dX9_told_40 ?_
      refine g_iload_n C 1 dX9_told_43 rfl ?_
      obtain ⟨hi5, h⟩ := h
      refine g_iald C 0 ce_5 rfl hi5 dX9_told_44 ?_
      exact g_iret C hQ dX9_told_45 h
    · have h := h.2 e4
      by_cases e6 : x2 = 1
      · have h := h.1 e6
        refine g_look C 46 dX9_told_10 (by decide) (by rw [e6] <;> rfl) (by decide) ?_
        refine g_aload_n C 0 dX9_told_46 rfl ?_
        refine gf_RX9_10_X9 C ce_0 rfl dX9_told_47 ?_
        refine gf_RX9_111_X5 C ce_1 rfl dX9_told_50 ?_
        refine g_iload_n C 1 dX9_told_53 rfl ?_
        obtain ⟨hi7, h⟩ := h
        refine g_iald C 0 ce_6 rfl hi7 dX9_told_54 ?_
        exact g_iret C hQ dX9_told_55 h
      · have h := h.2 e6
        have qe4 : ¬ (x2 : Int32).toInt = 0 := i32_ne_toInt (c := 0) (by decide) e4
        have qe6 : ¬ (x2 : Int32).toInt = 1 := i32_ne_toInt (c := 1) (by decide) e6
        refine g_look C 56 dX9_told_10 (by decide) (off := 46) (by simp [Op.lookupswitch.offset, qe4, qe6, Ne.symm qe4, Ne.symm qe6]) (by decide) ?_
        refine g_bipush C (-2) dX9_told_56 (by decide) ?_
        exact g_iret C hQ dX9_told_58 h
  · have h := h.1 c3
    refine g_iconst C (-1) dX9_told_7 (by decide) ?_
    exact g_iret C hQ dX9_told_8 h
/-! X5_wanted_1: rank 0 -/
def J_X5_wanted_1_31 (Q : Int32 → Sg → Prop) (K4 : Sg → Int32 → Int32 → Int32 → Prop) (f : Sg) (x1 : Int32) (x2 : Int32) (x3 : Int32) : Prop :=
  K4 f x1 x2 (x3 + 1)
def B_X5_wanted_1_4 (Q : Int32 → Sg → Prop) (K4 : Sg → Int32 → Int32 → Int32 → Prop) (f : Sg) (x1 : Int32) (x2 : Int32) (x3 : Int32) : Prop :=
  (5 ≤ x3 → Q x2 f) ∧ (¬ 5 ≤ x3 → vp_in x3 5 ∧ ((((f 5 (x3 : Int32).toNatClampNeg) >>> (x1 &&& 31)) &&& 1) = 0 → J_X5_wanted_1_31 Q K4 f x1 x2 x3) ∧ (¬ (((f 5 (x3 : Int32).toNatClampNeg) >>> (x1 &&& 31)) &&& 1) = 0 → vp_in x3 5 ∧ ∀ z5 : Int32, z5 = x2 + (f 6 (x3 : Int32).toNatClampNeg) → J_X5_wanted_1_31 Q K4 f x1 z5 x3))
def M_X5_wanted_1 (f : Sg) (x1 : Int32) (Q : Int32 → Sg → Prop) : Prop :=
  ∃ n : Nat, itr3 (B_X5_wanted_1_4 Q) n f x1 0 0
set_option maxHeartbeats 4000000 in
theorem t_X5_wanted_1_31 {o : Om} {D : va_G} {a : Nat → Nat} {cI : ClassId} {Q : Int32 → Sg → Prop} {K4 : Sg → Int32 → Int32 → Int32 → Prop} (C : Cx o D [(cI, .int)] (cw a cI) RX5 cX5_wanted (some .int) 0 4) (hQ : RetI o D (cw a cI) Q) (hK4 : ∀ (g : Sg) (x1 : Int32) (x2 : Int32) (x3 : Int32), K4 g x1 x2 x3 → Go o D (cw a cI) 4 [(0, .ref (a 1)), (1, .int x1), (2, .int x2), (3, .int x3)] [] g) {f : Sg} {x1 : Int32} {x2 : Int32} {x3 : Int32} (h : J_X5_wanted_1_31 Q K4 f x1 x2 x3) : Go o D (cw a cI) 31 [(0, .ref (a 1)), (1, .int x1), (2, .int x2), (3, .int x3)] [] f := by
  unfold J_X5_wanted_1_31 at h
  refine g_iinc (lv' := [(3, .int (x3 + 1)), (0, .ref (a 1)), (1, .int x1), (2, .int x2)]) C 3 dX5_wanted_31 rfl rfl (by decide) rfl ?_
  refine g_goto C 4 dX5_wanted_34 (by decide) ?_
  refine g_sub (lv' := [(0, .ref (a 1)), (1, .int x1), (2, .int x2), (3, .int (x3 + 1))]) [1, 2, 3, 0] rfl ?_
  exact hK4 f x1 x2 (x3 + 1) h
set_option maxHeartbeats 4000000 in
theorem t_X5_wanted_1_4 {o : Om} {D : va_G} {a : Nat → Nat} {cI : ClassId} {Q : Int32 → Sg → Prop} (C : Cx o D [(cI, .int)] (cw a cI) RX5 cX5_wanted (some .int) 0 4) (hQ : RetI o D (cw a cI) Q) : ∀ (n : Nat) (f : Sg) (x1 : Int32) (x2 : Int32) (x3 : Int32), itr3 (B_X5_wanted_1_4 Q) n f x1 x2 x3 → Go o D (cw a cI) 4 [(0, .ref (a 1)), (1, .int x1), (2, .int x2), (3, .int x3)] [] f := by
  intro n
  induction n with
  | zero => intro f x1 x2 x3 h; exact h.elim
  | succ n ih =>
    intro f x1 x2 x3 h
    have h : B_X5_wanted_1_4 Q (itr3 (B_X5_wanted_1_4 Q) n) f x1 x2 x3 := h
    have hK4 := ih
    generalize itr3 (B_X5_wanted_1_4 Q) n = K4 at h hK4
    clear ih
    unfold B_X5_wanted_1_4 at h
    refine g_iload_n C 3 dX5_wanted_4 rfl ?_
    refine g_iconst C 5 dX5_wanted_5 (by decide) ?_
    refine g_icmp_ge C 37 dX5_wanted_6 (by decide) (fun c1 => ?_) (fun c1 => ?_)
    · have h := h.1 c1
      refine g_iload_n C 2 dX5_wanted_37 rfl ?_
      exact g_iret C hQ dX5_wanted_38 h
    · have h := h.2 c1
      refine g_aload_n C 0 dX5_wanted_9 rfl ?_
      refine gf_RX5_21_X5 C ce_1 rfl dX5_wanted_10 ?_
      refine g_iload_n C 3 dX5_wanted_13 rfl ?_
      obtain ⟨hi2, h⟩ := h
      refine g_iald C 0 ce_5 rfl hi2 dX5_wanted_14 ?_
      refine g_iload_n C 1 dX5_wanted_15 rfl ?_
      refine g_ishr C dX5_wanted_16 ?_
      refine g_iconst C 1 dX5_wanted_17 (by decide) ?_
      refine g_iand C dX5_wanted_18 ?_
      refine g_if_eq C 31 dX5_wanted_19 (by decide) (fun c3 => ?_) (fun c3 => ?_)
      · have h := h.1 c3
        refine g_sub (lv' := [(0, .ref (a 1)), (1, .int x1), (2, .int x2), (3, .int x3)]) [0, 1, 2, 3] rfl ?_
        exact t_X5_wanted_1_31 C hQ hK4 h
      · have h := h.2 c3
        refine g_iload_n C 2 dX5_wanted_22 rfl ?_
        refine g_aload_n C 0 dX5_wanted_23 rfl ?_
        refine gf_RX5_24_X5 C ce_1 rfl dX5_wanted_24 ?_
        refine g_iload_n C 3 dX5_wanted_27 rfl ?_
        obtain ⟨hi4, h⟩ := h
        refine g_iald C 0 ce_6 rfl hi4 dX5_wanted_28 ?_
        refine g_iadd C dX5_wanted_29 ?_
        refine g_top (fun z5 ez5 => ?_)
        have h := h z5 ez5
        refine g_istore_n (lv' := [(2, .int z5), (0, .ref (a 1)), (1, .int x1), (3, .int x3)]) C dX5_wanted_30 (by decide) rfl ?_
        refine g_sub (lv' := [(0, .ref (a 1)), (1, .int x1), (2, .int z5), (3, .int x3)]) [1, 2, 0, 3] rfl ?_
        exact t_X5_wanted_1_31 C hQ hK4 h
set_option maxHeartbeats 4000000 in
theorem c_X5_wanted_1 (l : Launch) (D : va_G) (a : Nat → Nat) (cI : ClassId) {f : Sg} {x1 : Int32} {Q : Int32 → Sg → Prop} (h : M_X5_wanted_1 f x1 Q) : MI l D [(cI, .int)] (cw a cI) yX5_wanted cX5_wanted 4 (some .int) (0) [.ref (a 1), .int x1] f Q := by
  refine mkI (cw_fix a cI) (by decide +kernel) (Nat.le_of_ble_eq_true rfl) (fun o C hQ => ?_)
  show Go o D (cw a cI) 0 [(0, .ref (a 1)), (1, .int x1)] [] f
  unfold M_X5_wanted_1 at h
  refine g_iconst C 0 dX5_wanted_0 (by decide) ?_
  refine g_istore_n (lv' := [(2, .int 0), (0, .ref (a 1)), (1, .int x1)]) C dX5_wanted_1 (by decide) rfl ?_
  refine g_iconst C 0 dX5_wanted_2 (by decide) ?_
  refine g_istore_n (lv' := [(3, .int 0), (2, .int 0), (0, .ref (a 1)), (1, .int x1)]) C dX5_wanted_3 (by decide) rfl ?_
  refine g_sub (lv' := [(0, .ref (a 1)), (1, .int x1), (2, .int 0), (3, .int 0)]) [2, 3, 1, 0] rfl ?_
  obtain ⟨n, h⟩ := h
  exact t_X5_wanted_1_4 C hQ n f x1 0 0 h
/-! X5_room_1: rank 1 -/
def M_X5_room_1 (f : Sg) (x1 : Int32) (Q : Int32 → Sg → Prop) : Prop :=
  vp_in x1 4 ∧ ∀ z2 : Int32, z2 = f 3 (x1 : Int32).toNatClampNeg → (1 ≤ z2 → M_X5_cars_1 f (fun r5 g4 => vp_in x1 4 ∧ ¬ z2 = 0 ∧ vp_in x1 4 ∧ ¬ z2 = 0 ∧ ∀ z10 : Int32, z10 = (if (r5 - r5 / z2 * z2) < (g4 2 (x1 : Int32).toNatClampNeg) then (r5 - r5 / z2 * z2) else (g4 2 (x1 : Int32).toNatClampNeg)) → Q (((g4 2 (x1 : Int32).toNatClampNeg) * (r5 / z2)) + z10) g4)) ∧ (¬ 1 ≤ z2 → Q 0 f)
set_option maxHeartbeats 4000000 in
theorem c_X5_room_1 (l : Launch) (D : va_G) (a : Nat → Nat) (cI : ClassId) {f : Sg} {x1 : Int32} {Q : Int32 → Sg → Prop} (h : M_X5_room_1 f x1 Q) : MI l D [(cI, .int)] (cw a cI) yX5_room cX5_room 4 (some .int) (1) [.ref (a 1), .int x1] f Q := by
  refine mkI (cw_fix a cI) (by decide +kernel) (Nat.le_of_ble_eq_true rfl) (fun o C hQ => ?_)
  show Go o D (cw a cI) 0 [(0, .ref (a 1)), (1, .int x1)] [] f
  unfold M_X5_room_1 at h
  refine g_aload_n C 0 dX5_room_0 rfl ?_
  refine gf_RX5_15_X5 C ce_1 rfl dX5_room_1 ?_
  refine g_iload_n C 1 dX5_room_4 rfl ?_
  obtain ⟨hi1, h⟩ := h
  refine g_iald C 0 ce_3 rfl hi1 dX5_room_5 ?_
  refine g_top (fun z2 ez2 => ?_)
  have h := h z2 ez2
  refine g_istore_n (lv' := [(2, .int z2), (0, .ref (a 1)), (1, .int x1)]) C dX5_room_6 (by decide) rfl ?_
  refine g_iload_n C 0 dX5_room_7 rfl ?_
  refine g_iconst C 1 dX5_room_8 (by decide) ?_
  refine g_icmp_ge C 14 dX5_room_9 (by decide) (fun c3 => ?_) (fun c3 => ?_)
  · have h := h.1 c3
    refine g_aload_n C 1 dX5_room_14 rfl ?_
    refine g_callVi C (As := []) (st := []) (fun l => c_X5_cars_1 l D a cI h) cl_RX5_38_X5 rfl ce_1 (by omega) rfl (Nat.le_of_ble_eq_true rfl) dX5_room_15 (fun r5 g4 h => ?_)
    refine g_istore_n (lv' := [(3, .int r5), (2, .int z2), (0, .ref (a 1)), (1, .int x1)]) C dX5_room_18 (by decide) rfl ?_
    refine g_aload_n C 2 dX5_room_19 rfl ?_
    refine gf_RX5_9_X5 C ce_1 rfl dX5_room_20 ?_
    refine g_iload_n C 3 dX5_room_23 rfl ?_
    obtain ⟨hi6, h⟩ := h
    refine g_iald C 0 ce_2 rfl hi6 dX5_room_24 ?_
    refine g_iload_n C 0 dX5_room_25 rfl ?_
    refine g_iload_n C 1 dX5_room_26 rfl ?_
    obtain ⟨hn7, h⟩ := h
    refine g_idiv C dX5_room_27 hn7 ?_
    refine g_imul C dX5_room_28 ?_
    refine g_aload_n C 2 dX5_room_29 rfl ?_
    refine gf_RX5_9_X5 C ce_1 rfl dX5_room_30 ?_
    refine g_iload_n C 3 dX5_room_33 rfl ?_
    obtain ⟨hi8, h⟩ := h
    refine g_iald C 0 ce_2 rfl hi8 dX5_room_34 ?_
    refine g_iload_n C 0 dX5_room_35 rfl ?_
    refine g_iload_n C 1 dX5_room_36 rfl ?_
    obtain ⟨hn9, h⟩ := h
    refine g_irem C dX5_room_37 hn9 ?_
    refine g_min C (by omega) tb_341 tb_342 tb_12 tb_343 (Nat.le_of_ble_eq_true rfl) dX5_room_38 ?_
    refine g_top (fun z10 ez10 => ?_)
    have h := h z10 ez10
    refine g_iadd C dX5_room_41 ?_
    exact g_iret C hQ dX5_room_42 h
  · have h := h.2 c3
    refine g_iconst C 0 dX5_room_12 (by decide) ?_
    exact g_iret C hQ dX5_room_13 h
/-! X9_of_0: rank 2 -/
def M_X9_of_0 (f : Sg) (x1 : Int32) (x2 : Int32) (Q : Int32 → Sg → Prop) : Prop :=
  M_X9_isOption f x1 (fun r2 g1 => (r2 = 0 → Q (-1) g1) ∧ (¬ r2 = 0 → (x2 = 0 → vp_in x1 4 ∧ Q (g1 2 (x1 : Int32).toNatClampNeg) g1) ∧ (¬ x2 = 0 → (x2 = 1 → vp_in x1 4 ∧ Q (g1 3 (x1 : Int32).toNatClampNeg) g1) ∧ (¬ x2 = 1 → (x2 = 2 → M_X5_wanted_1 g1 x1 (fun r10 g9 => Q r10 g9)) ∧ (¬ x2 = 2 → (x2 = 3 → M_X5_room_1 g1 x1 (fun r13 g12 => Q r13 g12)) ∧ (¬ x2 = 3 → Q (-2) g1))))))
set_option maxHeartbeats 4000000 in
theorem c_X9_of_0 (l : Launch) (D : va_G) (a : Nat → Nat) (cI : ClassId) {f : Sg} {x1 : Int32} {x2 : Int32} {Q : Int32 → Sg → Prop} (h : M_X9_of_0 f x1 x2 Q) : MI l D [(cI, .int)] (cw a cI) yX9_of cX9_of 3 (some .int) (2) [.ref (a 0), .int x1, .int x2] f Q := by
  refine mkI (cw_fix a cI) (by decide +kernel) (Nat.le_of_ble_eq_true rfl) (fun o C hQ => ?_)
  show Go o D (cw a cI) 0 [(0, .ref (a 0)), (1, .int x1), (2, .int x2)] [] f
  unfold M_X9_of_0 at h
  refine g_iload_n C 1 dX9_of_0 rfl ?_
  refine g_callSi C (As := [.int x1]) (st := []) (fun l => c_X9_isOption l D a cI h) cl_RX9_83 (by omega) rfl (Nat.le_of_ble_eq_true rfl) dX9_of_1 (fun r2 g1 h => ?_)
  refine g_if_ne C 9 dX9_of_4 (by decide) (fun c3 => ?_) (fun c3 => ?_)
  · have h := h.2 c3
    refine g_iload_n C 2 dX9_of_9 rfl ?_
    by_cases e4 : x2 = 0
    · have h := h.1 e4
      refine g_tsIn C 40 dX9_of_10 (by rw [e4] <;> decide) (by rw [e4] <;> decide) (by rw [e4] <;> rfl) (by decide) ?_
      refine g_aload_n C 0 dX9_of_40 rfl ?_
      refine gf_RX9_10_X9 C ce_0 rfl dX9_of_41 ?_
      refine gf_RX9_87_X5 C ce_1 rfl dX9_of_44 ?_
      refine g_iload_n C 1 dX9_of_47 rfl ?_
      obtain ⟨hi5, h⟩ := h
      refine g_iald C 0 ce_2 rfl hi5 dX9_of_48 ?_
      exact g_iret C hQ dX9_of_49 h
    · have h := h.2 e4
      by_cases e6 : x2 = 1
      · have h := h.1 e6
        refine g_tsIn C 50 dX9_of_10 (by rw [e6] <;> decide) (by rw [e6] <;> decide) (by rw [e6] <;> rfl) (by decide) ?_
        refine g_aload_n C 0 dX9_of_50 rfl ?_
        refine gf_RX9_10_X9 C ce_0 rfl dX9_of_51 ?_
        refine gf_RX9_91_X5 C ce_1 rfl dX9_of_54 ?_
        refine g_iload_n C 1 dX9_of_57 rfl ?_
        obtain ⟨hi7, h⟩ := h
        refine g_iald C 0 ce_3 rfl hi7 dX9_of_58 ?_
        exact g_iret C hQ dX9_of_59 h
      · have h := h.2 e6
        by_cases e8 : x2 = 2
        · have h := h.1 e8
          refine g_tsIn C 60 dX9_of_10 (by rw [e8] <;> decide) (by rw [e8] <;> decide) (by rw [e8] <;> rfl) (by decide) ?_
          refine g_aload_n C 0 dX9_of_60 rfl ?_
          refine gf_RX9_10_X9 C ce_0 rfl dX9_of_61 ?_
          refine g_iload_n C 1 dX9_of_64 rfl ?_
          refine g_callVi C (As := [.int x1]) (st := []) (fun l => c_X5_wanted_1 l D a cI h) cl_RX9_114_X5 rfl ce_1 (by omega) rfl (Nat.le_of_ble_eq_true rfl) dX9_of_65 (fun r10 g9 h => ?_)
          exact g_iret C hQ dX9_of_68 h
        · have h := h.2 e8
          by_cases e11 : x2 = 3
          · have h := h.1 e11
            refine g_tsIn C 69 dX9_of_10 (by rw [e11] <;> decide) (by rw [e11] <;> decide) (by rw [e11] <;> rfl) (by decide) ?_
            refine g_aload_n C 0 dX9_of_69 rfl ?_
            refine gf_RX9_10_X9 C ce_0 rfl dX9_of_70 ?_
            refine g_iload_n C 1 dX9_of_73 rfl ?_
            refine g_callVi C (As := [.int x1]) (st := []) (fun l => c_X5_room_1 l D a cI h) cl_RX9_118_X5 rfl ce_1 (by omega) rfl (Nat.le_of_ble_eq_true rfl) dX9_of_74 (fun r13 g12 h => ?_)
            exact g_iret C hQ dX9_of_77 h
          · have h := h.2 e11
            have qe4 : ¬ (x2 : Int32).toInt = 0 := i32_ne_toInt (c := 0) (by decide) e4
            have qe6 : ¬ (x2 : Int32).toInt = 1 := i32_ne_toInt (c := 1) (by decide) e6
            have qe8 : ¬ (x2 : Int32).toInt = 2 := i32_ne_toInt (c := 2) (by decide) e8
            have qe11 : ¬ (x2 : Int32).toInt = 3 := i32_ne_toInt (c := 3) (by decide) e11
            refine g_tsOut C 78 dX9_of_10 (by omega) (by decide) ?_
            refine g_bipush C (-2) dX9_of_78 (by decide) ?_
            exact g_iret C hQ dX9_of_80 h
  · have h := h.1 c3
    refine g_iconst C (-1) dX9_of_7 (by decide) ?_
    exact g_iret C hQ dX9_of_8 h
/-! X2_begin_14: rank 0 -/
def B_X2_begin_14_7 (Q : Sg → Prop) (K7 : Sg → Int32 → Prop) (f : Sg) (x1 : Int32) : Prop :=
  (9 ≤ x1 → Q f) ∧ (¬ 9 ≤ x1 → vp_in x1 9 ∧ ∀ g4 : Sg, g4 = va_up f 17 (upd (f 17) (x1 : Int32).toNatClampNeg 0) → K7 g4 (x1 + 1))
def M_X2_begin_14 (f : Sg) (Q : Sg → Prop) : Prop :=
  ∀ g1 : Sg, g1 = va_up f 14 (upd (f 14) 9 0) → ∃ n : Nat, itr1 (B_X2_begin_14_7 Q) n g1 0
set_option maxHeartbeats 4000000 in
theorem t_X2_begin_14_7 {o : Om} {D : va_G} {a : Nat → Nat} {cI : ClassId} {Q : Sg → Prop} (C : Cx o D [(cI, .int)] (cw a cI) RX2 cX2_begin none 0 2) (hQ : RetV o D (cw a cI) Q) : ∀ (n : Nat) (f : Sg) (x1 : Int32), itr1 (B_X2_begin_14_7 Q) n f x1 → Go o D (cw a cI) 7 [(0, .ref (a 14)), (1, .int x1)] [] f := by
  intro n
  induction n with
  | zero => intro f x1 h; exact h.elim
  | succ n ih =>
    intro f x1 h
    have h : B_X2_begin_14_7 Q (itr1 (B_X2_begin_14_7 Q) n) f x1 := h
    have hK7 := ih
    generalize itr1 (B_X2_begin_14_7 Q) n = K7 at h hK7
    clear ih
    unfold B_X2_begin_14_7 at h
    refine g_iload_n C 1 dX2_begin_7 rfl ?_
    refine g_bipush C 9 dX2_begin_8 (by decide) ?_
    refine g_icmp_ge C 26 dX2_begin_10 (by decide) (fun c2 => ?_) (fun c2 => ?_)
    · have h := h.1 c2
      exact g_vret C hQ dX2_begin_26 h
    · have h := h.2 c2
      refine g_aload_n C 0 dX2_begin_13 rfl ?_
      refine gf_RX2_18_X2 C ce_14 rfl dX2_begin_14 ?_
      refine g_iload_n C 1 dX2_begin_17 rfl ?_
      refine g_iconst C 0 dX2_begin_18 (by decide) ?_
      obtain ⟨hi3, h⟩ := h
      obtain ⟨g4, eg4⟩ : ∃ g : Sg, g = va_up f 17 (upd (f 17) (x1 : Int32).toNatClampNeg 0) := ⟨_, rfl⟩
      have h := h g4 eg4
      refine g_iast C 0 ce_17 rfl (g := g4) (by rw [eg4]; exact cs_17) hi3 dX2_begin_19 ?_
      refine g_iinc (lv' := [(1, .int (x1 + 1)), (0, .ref (a 14))]) C 1 dX2_begin_20 rfl rfl (by decide) rfl ?_
      refine g_goto C 7 dX2_begin_23 (by decide) ?_
      refine g_sub (lv' := [(0, .ref (a 14)), (1, .int (x1 + 1))]) [1, 0] rfl ?_
      exact hK7 g4 (x1 + 1) h
set_option maxHeartbeats 4000000 in
theorem c_X2_begin_14 (l : Launch) (D : va_G) (a : Nat → Nat) (cI : ClassId) {f : Sg} {Q : Sg → Prop} (h : M_X2_begin_14 f Q) : MV l D [(cI, .int)] (cw a cI) yX2_begin cX2_begin 2 (0) [.ref (a 14)] f Q := by
  refine mkV (cw_fix a cI) (by decide +kernel) (Nat.le_of_ble_eq_true rfl) (fun o C hQ => ?_)
  show Go o D (cw a cI) 0 [(0, .ref (a 14))] [] f
  unfold M_X2_begin_14 at h
  refine g_aload_n C 0 dX2_begin_0 rfl ?_
  refine g_iconst C 0 dX2_begin_1 (by decide) ?_
  obtain ⟨g1, eg1⟩ : ∃ g : Sg, g = va_up f 14 (upd (f 14) 9 0) := ⟨_, rfl⟩
  have h := h g1 eg1
  refine gp_RX2_27_X2 C rfl rfl ce_14 (Nat.le_of_ble_eq_true rfl) (g := g1) (by rw [eg1]; exact cs_14_9) dX2_begin_2 ?_
  refine g_iconst C 0 dX2_begin_5 (by decide) ?_
  refine g_istore_n (lv' := [(1, .int 0), (0, .ref (a 14))]) C dX2_begin_6 (by decide) rfl ?_
  refine g_sub (lv' := [(0, .ref (a 14)), (1, .int 0)]) [1, 0] rfl ?_
  obtain ⟨n, h⟩ := h
  exact t_X2_begin_14_7 C hQ n g1 0 h
/-! X6_start_9: rank 1 -/
def M_X6_start_9 (f : Sg) (Q : Sg → Prop) : Prop :=
  ∀ g1 : Sg, g1 = va_up f 9 (upd (f 9) 5 0) → ∀ g2 : Sg, g2 = va_up g1 13 (va_cpy (g1 6) (g1 13) (0 : Int32).toNatClampNeg (0 : Int32).toNatClampNeg (5 : Int32).toNatClampNeg) → Q g2
set_option maxHeartbeats 4000000 in
theorem c_X6_start_9 (l : Launch) (D : va_G) (a : Nat → Nat) (cI : ClassId) {f : Sg} {Q : Sg → Prop} (h : M_X6_start_9 f Q) : MV l D [(cI, .int)] (cw a cI) yX6_start cX6_start 1 (1) [.ref (a 9)] f Q := by
  refine mkV (cw_fix a cI) (by decide +kernel) (Nat.le_of_ble_eq_true rfl) (fun o C hQ => ?_)
  show Go o D (cw a cI) 0 [(0, .ref (a 9))] [] f
  unfold M_X6_start_9 at h
  refine g_aload_n C 0 dX6_start_0 rfl ?_
  refine g_iconst C 0 dX6_start_1 (by decide) ?_
  obtain ⟨g1, eg1⟩ : ∃ g : Sg, g = va_up f 9 (upd (f 9) 5 0) := ⟨_, rfl⟩
  have h := h g1 eg1
  refine gp_RX6_24_X6 C rfl rfl ce_9 (Nat.le_of_ble_eq_true rfl) (g := g1) (by rw [eg1]; exact cs_9_5) dX6_start_2 ?_
  refine g_aload_n C 0 dX6_start_5 rfl ?_
  refine gf_RX6_28_X6 C ce_9 rfl dX6_start_6 ?_
  refine gf_RX6_32_X5 C ce_1 rfl dX6_start_9 ?_
  refine g_iconst C 0 dX6_start_12 (by decide) ?_
  refine g_aload_n C 0 dX6_start_13 rfl ?_
  refine gf_RX6_21_X6 C ce_9 rfl dX6_start_14 ?_
  refine g_iconst C 0 dX6_start_17 (by decide) ?_
  refine g_iconst C 5 dX6_start_18 (by decide) ?_
  obtain ⟨g2, eg2⟩ : ∃ g : Sg, g = va_up g1 13 (va_cpy (g1 6) (g1 13) (0 : Int32).toNatClampNeg (0 : Int32).toNatClampNeg (5 : Int32).toNatClampNeg) := ⟨_, rfl⟩
  have h := h g2 eg2
  refine g_copy C (by omega) tb_369 tb_371 tb_370 tb_13 0 ce_6 ce_13 rfl (by decide) (by decide) (by decide) (by decide) (by decide) (Nat.le_of_ble_eq_true rfl) (g := g2) (by rw [eg2]; exact cs_13) dX6_start_19 ?_
  exact g_vret C hQ dX6_start_22 h
/-! X6_breaks_9: rank 0 -/
def M_X6_breaks_9 (f : Sg) (Q : Int32 → Sg → Prop) : Prop :=
  vp_in (f 9 5) 10 ∧ Q (f 12 (f 9 5 : Int32).toNatClampNeg) f
set_option maxHeartbeats 4000000 in
theorem c_X6_breaks_9 (l : Launch) (D : va_G) (a : Nat → Nat) (cI : ClassId) {f : Sg} {Q : Int32 → Sg → Prop} (h : M_X6_breaks_9 f Q) : MI l D [(cI, .int)] (cw a cI) yX6_breaks cX6_breaks 1 (some .int) (0) [.ref (a 9)] f Q := by
  refine mkI (cw_fix a cI) (by decide +kernel) (Nat.le_of_ble_eq_true rfl) (fun o C hQ => ?_)
  show Go o D (cw a cI) 0 [(0, .ref (a 9))] [] f
  unfold M_X6_breaks_9 at h
  refine g_aload_n C 0 dX6_breaks_0 rfl ?_
  refine gf_RX6_18_X6 C ce_9 rfl dX6_breaks_1 ?_
  refine g_aload_n C 0 dX6_breaks_4 rfl ?_
  refine gf_RX6_24_X6 C ce_9 rfl dX6_breaks_5 ?_
  obtain ⟨hi1, h⟩ := h
  refine g_iald C 0 ce_12 rfl hi1 dX6_breaks_8 ?_
  exact g_iret C hQ dX6_breaks_9 h
/-! X6_trailWith_9: rank 0 -/
def M_X6_trailWith_9 (f : Sg) (x1 : Int32) (Q : Int32 → Sg → Prop) : Prop :=
  vp_in (f 9 5) 10 ∧ vp_in x1 5 ∧ Q (((f 11 (f 9 5 : Int32).toNatClampNeg) <<< ((4 : Int32) &&& 31)) ||| (f 5 (x1 : Int32).toNatClampNeg)) f
set_option maxHeartbeats 4000000 in
theorem c_X6_trailWith_9 (l : Launch) (D : va_G) (a : Nat → Nat) (cI : ClassId) {f : Sg} {x1 : Int32} {Q : Int32 → Sg → Prop} (h : M_X6_trailWith_9 f x1 Q) : MI l D [(cI, .int)] (cw a cI) yX6_trailWith cX6_trailWith 2 (some .int) (0) [.ref (a 9), .int x1] f Q := by
  refine mkI (cw_fix a cI) (by decide +kernel) (Nat.le_of_ble_eq_true rfl) (fun o C hQ => ?_)
  show Go o D (cw a cI) 0 [(0, .ref (a 9)), (1, .int x1)] [] f
  unfold M_X6_trailWith_9 at h
  refine g_aload_n C 0 dX6_trailWith_0 rfl ?_
  refine gf_RX6_15_X6 C ce_9 rfl dX6_trailWith_1 ?_
  refine g_aload_n C 0 dX6_trailWith_4 rfl ?_
  refine gf_RX6_24_X6 C ce_9 rfl dX6_trailWith_5 ?_
  obtain ⟨hi1, h⟩ := h
  refine g_iald C 0 ce_11 rfl hi1 dX6_trailWith_8 ?_
  refine g_iconst C 4 dX6_trailWith_9 (by decide) ?_
  refine g_ishl C dX6_trailWith_10 ?_
  refine g_aload_n C 0 dX6_trailWith_11 rfl ?_
  refine gf_RX6_28_X6 C ce_9 rfl dX6_trailWith_12 ?_
  refine gf_RX6_66_X5 C ce_1 rfl dX6_trailWith_15 ?_
  refine g_iload_n C 1 dX6_trailWith_18 rfl ?_
  obtain ⟨hi2, h⟩ := h
  refine g_iald C 0 ce_5 rfl hi2 dX6_trailWith_19 ?_
  refine g_ior C dX6_trailWith_20 ?_
  exact g_iret C hQ dX6_trailWith_21 h
/-! J6_bitCount_0f7a4: rank 0 -/
def M_J6_bitCount_0f7a4 (f : Sg) (x0 : Int32) (Q : Int32 → Sg → Prop) : Prop :=
  ∀ z1 : Int32, z1 = x0 - (((x0.toUInt32 >>> ((1 : Int32).toUInt32 &&& Int32.toUInt32 31)).toInt32) &&& 1431655765) → ∀ z2 : Int32, z2 = (z1 &&& 858993459) + (((z1.toUInt32 >>> ((2 : Int32).toUInt32 &&& Int32.toUInt32 31)).toInt32) &&& 858993459) → ∀ z3 : Int32, z3 = (z2 + ((z2.toUInt32 >>> ((4 : Int32).toUInt32 &&& Int32.toUInt32 31)).toInt32)) &&& 252645135 → ∀ z4 : Int32, z4 = z3 + ((z3.toUInt32 >>> ((8 : Int32).toUInt32 &&& Int32.toUInt32 31)).toInt32) → ∀ z5 : Int32, z5 = z4 + ((z4.toUInt32 >>> ((16 : Int32).toUInt32 &&& Int32.toUInt32 31)).toInt32) → Q (z5 &&& 63) f
set_option maxHeartbeats 4000000 in
theorem c_J6_bitCount_0f7a4 (l : Launch) (D : va_G) (a : Nat → Nat) (cI : ClassId) {f : Sg} {x0 : Int32} {Q : Int32 → Sg → Prop} (h : M_J6_bitCount_0f7a4 f x0 Q) : MI l D [(cI, .int)] (cw a cI) yJ6_bitCount_0f7a4 cJ6_bitCount_0f7a4 1 (some .int) (0) [.int x0] f Q := by
  refine mkI (cw_fix a cI) (by decide +kernel) (Nat.le_of_ble_eq_true rfl) (fun o C hQ => ?_)
  show Go o D (cw a cI) 0 [(0, .int x0)] [] f
  unfold M_J6_bitCount_0f7a4 at h
  refine g_iload_n C 0 dJ6_bitCount_0f7a4_0 rfl ?_
  refine g_iload_n C 0 dJ6_bitCount_0f7a4_1 rfl ?_
  refine g_iconst C 1 dJ6_bitCount_0f7a4_2 (by decide) ?_
  refine g_iushr C dJ6_bitCount_0f7a4_3 ?_
  refine g_ldcw C tb_387 dJ6_bitCount_0f7a4_4 ?_
  refine g_iand C dJ6_bitCount_0f7a4_7 ?_
  refine g_isub C dJ6_bitCount_0f7a4_8 ?_
  refine g_top (fun z1 ez1 => ?_)
  have h := h z1 ez1
  refine g_istore_n (lv' := [(0, .int z1)]) C dJ6_bitCount_0f7a4_9 (by decide) rfl ?_
  refine g_iload_n C 0 dJ6_bitCount_0f7a4_10 rfl ?_
  refine g_ldcw C tb_388 dJ6_bitCount_0f7a4_11 ?_
  refine g_iand C dJ6_bitCount_0f7a4_14 ?_
  refine g_iload_n C 0 dJ6_bitCount_0f7a4_15 rfl ?_
  refine g_iconst C 2 dJ6_bitCount_0f7a4_16 (by decide) ?_
  refine g_iushr C dJ6_bitCount_0f7a4_17 ?_
  refine g_ldcw C tb_388 dJ6_bitCount_0f7a4_18 ?_
  refine g_iand C dJ6_bitCount_0f7a4_21 ?_
  refine g_iadd C dJ6_bitCount_0f7a4_22 ?_
  refine g_top (fun z2 ez2 => ?_)
  have h := h z2 ez2
  refine g_istore_n (lv' := [(0, .int z2)]) C dJ6_bitCount_0f7a4_23 (by decide) rfl ?_
  refine g_iload_n C 0 dJ6_bitCount_0f7a4_24 rfl ?_
  refine g_iload_n C 0 dJ6_bitCount_0f7a4_25 rfl ?_
  refine g_iconst C 4 dJ6_bitCount_0f7a4_26 (by decide) ?_
  refine g_iushr C dJ6_bitCount_0f7a4_27 ?_
  refine g_iadd C dJ6_bitCount_0f7a4_28 ?_
  refine g_ldcw C tb_389 dJ6_bitCount_0f7a4_29 ?_
  refine g_iand C dJ6_bitCount_0f7a4_32 ?_
  refine g_top (fun z3 ez3 => ?_)
  have h := h z3 ez3
  refine g_istore_n (lv' := [(0, .int z3)]) C dJ6_bitCount_0f7a4_33 (by decide) rfl ?_
  refine g_iload_n C 0 dJ6_bitCount_0f7a4_34 rfl ?_
  refine g_iload_n C 0 dJ6_bitCount_0f7a4_35 rfl ?_
  refine g_bipush C 8 dJ6_bitCount_0f7a4_36 (by decide) ?_
  refine g_iushr C dJ6_bitCount_0f7a4_38 ?_
  refine g_iadd C dJ6_bitCount_0f7a4_39 ?_
  refine g_top (fun z4 ez4 => ?_)
  have h := h z4 ez4
  refine g_istore_n (lv' := [(0, .int z4)]) C dJ6_bitCount_0f7a4_40 (by decide) rfl ?_
  refine g_iload_n C 0 dJ6_bitCount_0f7a4_41 rfl ?_
  refine g_iload_n C 0 dJ6_bitCount_0f7a4_42 rfl ?_
  refine g_bipush C 16 dJ6_bitCount_0f7a4_43 (by decide) ?_
  refine g_iushr C dJ6_bitCount_0f7a4_45 ?_
  refine g_iadd C dJ6_bitCount_0f7a4_46 ?_
  refine g_top (fun z5 ez5 => ?_)
  have h := h z5 ez5
  refine g_istore_n (lv' := [(0, .int z5)]) C dJ6_bitCount_0f7a4_47 (by decide) rfl ?_
  refine g_iload_n C 0 dJ6_bitCount_0f7a4_48 rfl ?_
  refine g_bipush C 63 dJ6_bitCount_0f7a4_49 (by decide) ?_
  refine g_iand C dJ6_bitCount_0f7a4_51 ?_
  exact g_iret C hQ dJ6_bitCount_0f7a4_52 h
