/-! X8_goOn_22: rank 2 -/
def J_X8_goOn_22_63 (Rc : Sg → Int32 → (Sg → Prop) → Prop) (Q : Sg → Prop) (K24 : Sg → Int32 → Int32 → Prop) (f : Sg) (x1 : Int32) (x2 : Int32) : Prop :=
  K24 f x1 (x2 + 1)
def B_X8_goOn_22_24 (Rc : Sg → Int32 → (Sg → Prop) → Prop) (Q : Sg → Prop) (K24 : Sg → Int32 → Int32 → Prop) (f : Sg) (x1 : Int32) (x2 : Int32) : Prop :=
  (5 ≤ x2 → Q f) ∧ (¬ 5 ≤ x2 → vp_in x2 5 ∧ ((f 13 (x2 : Int32).toNatClampNeg) ≤ 0 → J_X8_goOn_22_63 Rc Q K24 f x1 x2) ∧ (¬ (f 13 (x2 : Int32).toNatClampNeg) ≤ 0 → M_X6_put_9 f x2 (fun g8 => Rc g8 (x1 + 1) (fun g10 => M_X6_drop_9 g10 (fun g12 => J_X8_goOn_22_63 Rc Q K24 g12 x1 x2)))))
def E_X8_goOn_22 (Rc : Sg → Int32 → (Sg → Prop) → Prop) (f : Sg) (x1 : Int32) (Q : Sg → Prop) : Prop :=
  M_X3_matters_22 f x1 (fun r2 g1 => (r2 = 0 → Q g1) ∧ (¬ r2 = 0 → (x1 < (g1 22 2) → ∃ n : Nat, itr2 (B_X8_goOn_22_24 Rc Q) n g1 x1 0) ∧ (¬ x1 < (g1 22 2) → M_X3_note_22 g1 (fun g14 => Q g14))))
def M_X8_goOn_22 : Nat → Sg → Int32 → (Sg → Prop) → Prop
  | 0 => fun _ _ _ => False
  | d + 1 => E_X8_goOn_22 (M_X8_goOn_22 d)
set_option maxHeartbeats 4000000 in
theorem t_X8_goOn_22_63 {o : Om} {D : va_G} {a : Nat → Nat} {cI : ClassId} {d : Nat} {Rc : Sg → Int32 → (Sg → Prop) → Prop} {Q : Sg → Prop} {K24 : Sg → Int32 → Int32 → Prop} (C : Cx o D [(cI, .int)] (cw a cI) RX8 cX8_goOn none (2 + d + 1) 3) (hQ : RetV o D (cw a cI) Q) (hRc : ∀ (l : Launch) (g : Sg) (y0 : Int32) (Qr : Sg → Prop), Rc g y0 Qr → MV l D [(cI, .int)] (cw a cI) yX8_goOn cX8_goOn 3 (2 + d) [.ref (a 22), .int y0] g Qr) (hK24 : ∀ (g : Sg) (x1 : Int32) (x2 : Int32), K24 g x1 x2 → Go o D (cw a cI) 24 [(0, .ref (a 22)), (1, .int x1), (2, .int x2)] [] g) {f : Sg} {x1 : Int32} {x2 : Int32} (h : J_X8_goOn_22_63 Rc Q K24 f x1 x2) : Go o D (cw a cI) 63 [(0, .ref (a 22)), (1, .int x1), (2, .int x2)] [] f := by
  unfold J_X8_goOn_22_63 at h
  refine g_iinc (lv' := [(2, .int (x2 + 1)), (0, .ref (a 22)), (1, .int x1)]) C 2 dX8_goOn_63 rfl rfl (by decide) rfl ?_
  refine g_goto C 24 dX8_goOn_66 (by decide) ?_
  refine g_sub (lv' := [(0, .ref (a 22)), (1, .int x1), (2, .int (x2 + 1))]) [1, 2, 0] rfl ?_
  exact hK24 f x1 (x2 + 1) h
set_option maxHeartbeats 4000000 in
theorem t_X8_goOn_22_24 {o : Om} {D : va_G} {a : Nat → Nat} {cI : ClassId} {d : Nat} {Rc : Sg → Int32 → (Sg → Prop) → Prop} {Q : Sg → Prop} (C : Cx o D [(cI, .int)] (cw a cI) RX8 cX8_goOn none (2 + d + 1) 3) (hQ : RetV o D (cw a cI) Q) (hRc : ∀ (l : Launch) (g : Sg) (y0 : Int32) (Qr : Sg → Prop), Rc g y0 Qr → MV l D [(cI, .int)] (cw a cI) yX8_goOn cX8_goOn 3 (2 + d) [.ref (a 22), .int y0] g Qr) : ∀ (n : Nat) (f : Sg) (x1 : Int32) (x2 : Int32), itr2 (B_X8_goOn_22_24 Rc Q) n f x1 x2 → Go o D (cw a cI) 24 [(0, .ref (a 22)), (1, .int x1), (2, .int x2)] [] f := by
  intro n
  induction n with
  | zero => intro f x1 x2 h; exact h.elim
  | succ n ih =>
    intro f x1 x2 h
    have h : B_X8_goOn_22_24 Rc Q (itr2 (B_X8_goOn_22_24 Rc Q) n) f x1 x2 := h
    have hK24 := ih
    generalize itr2 (B_X8_goOn_22_24 Rc Q) n = K24 at h hK24
    clear ih
    unfold B_X8_goOn_22_24 at h
    refine g_iload_n C 2 dX8_goOn_24 rfl ?_
    refine g_iconst C 5 dX8_goOn_25 (by decide) ?_
    refine g_icmp_ge C 69 dX8_goOn_26 (by decide) (fun c5 => ?_) (fun c5 => ?_)
    · have h := h.1 c5
      exact g_vret C hQ dX8_goOn_69 h
    · have h := h.2 c5
      refine g_aload_n C 0 dX8_goOn_29 rfl ?_
      refine gf_RX8_23_X3 C ce_22 rfl dX8_goOn_30 ?_
      refine gf_RX8_51_X6 C ce_9 rfl dX8_goOn_33 ?_
      refine g_iload_n C 2 dX8_goOn_36 rfl ?_
      obtain ⟨hi6, h⟩ := h
      refine g_iald C 0 ce_13 rfl hi6 dX8_goOn_37 ?_
      refine g_if_le C 63 dX8_goOn_38 (by decide) (fun c7 => ?_) (fun c7 => ?_)
      · have h := h.1 c7
        refine g_sub (lv' := [(0, .ref (a 22)), (1, .int x1), (2, .int x2)]) [0, 1, 2] rfl ?_
        exact t_X8_goOn_22_63 C hQ hRc hK24 h
      · have h := h.2 c7
        refine g_aload_n C 0 dX8_goOn_41 rfl ?_
        refine gf_RX8_23_X3 C ce_22 rfl dX8_goOn_42 ?_
        refine g_iload_n C 2 dX8_goOn_45 rfl ?_
        refine g_callVv C (As := [.int x2]) (st := []) (fun l => c_X6_put_9 l D a cI h) cl_RX8_55_X6 rfl ce_9 (by omega) rfl (Nat.le_of_ble_eq_true rfl) dX8_goOn_46 (fun g8 h => ?_)
        refine g_aload_n C 0 dX8_goOn_49 rfl ?_
        refine g_iload_n C 1 dX8_goOn_50 rfl ?_
        refine g_iconst C 1 dX8_goOn_51 (by decide) ?_
        refine g_iadd C dX8_goOn_52 ?_
        refine g_callUv C (As := [.int (x1 + 1)]) (st := []) (fun l => hRc l g8 (x1 + 1) _ h) cl_RX8_40_X3 rfl ce_22 (by omega) rfl (Nat.le_of_ble_eq_true rfl) dX8_goOn_53 (fun g10 h => ?_)
        refine g_aload_n C 0 dX8_goOn_56 rfl ?_
        refine gf_RX8_23_X3 C ce_22 rfl dX8_goOn_57 ?_
        refine g_callVv C (As := []) (st := []) (fun l => c_X6_drop_9 l D a cI h) cl_RX8_58_X6 rfl ce_9 (by omega) rfl (Nat.le_of_ble_eq_true rfl) dX8_goOn_60 (fun g12 h => ?_)
        refine g_sub (lv' := [(0, .ref (a 22)), (1, .int x1), (2, .int x2)]) [0, 1, 2] rfl ?_
        exact t_X8_goOn_22_63 C hQ hRc hK24 h
set_option maxHeartbeats 4000000 in
theorem c_X8_goOn_22 (l : Launch) (D : va_G) (a : Nat → Nat) (cI : ClassId) : ∀ (d : Nat) {f : Sg} {x1 : Int32} {Q : Sg → Prop}, M_X8_goOn_22 d f x1 Q → MV l D [(cI, .int)] (cw a cI) yX8_goOn cX8_goOn 3 (2 + d) [.ref (a 22), .int x1] f Q := by
  intro d
  induction d generalizing l with
  | zero => intro f x1 Q h; exact h.elim
  | succ d ih =>
    intro f x1 Q h
    have h : E_X8_goOn_22 (M_X8_goOn_22 d) f x1 Q := h
    have hRc : ∀ (l : Launch) (g : Sg) (y0 : Int32) (Qr : Sg → Prop), M_X8_goOn_22 d g y0 Qr → MV l D [(cI, .int)] (cw a cI) yX8_goOn cX8_goOn 3 (2 + d) [.ref (a 22), .int y0] g Qr := fun l g y0 Qr h => ih l h
    generalize M_X8_goOn_22 d = Rc at h hRc
    clear ih
    refine mkV (cw_fix a cI) (by decide +kernel) (Nat.le_of_ble_eq_true rfl) (fun o C hQ => ?_)
    show Go o D (cw a cI) 0 [(0, .ref (a 22)), (1, .int x1)] [] f
    unfold E_X8_goOn_22 at h
    refine g_aload_n C 0 dX8_goOn_0 rfl ?_
    refine g_iload_n C 1 dX8_goOn_1 rfl ?_
    refine g_callUi C (As := [.int x1]) (st := []) (fun l => c_X3_matters_22 l D a cI h) cl_RX8_44_X3 rfl ce_22 (by omega) rfl (Nat.le_of_ble_eq_true rfl) dX8_goOn_2 (fun r2 g1 h => ?_)
    refine g_if_ne C 9 dX8_goOn_5 (by decide) (fun c3 => ?_) (fun c3 => ?_)
    · have h := h.2 c3
      refine g_iload_n C 1 dX8_goOn_9 rfl ?_
      refine g_aload_n C 0 dX8_goOn_10 rfl ?_
      refine gf_RX8_9_X3 C ce_22 rfl dX8_goOn_11 ?_
      refine g_icmp_lt C 22 dX8_goOn_14 (by decide) (fun c4 => ?_) (fun c4 => ?_)
      · have h := h.1 c4
        refine g_iconst C 0 dX8_goOn_22 (by decide) ?_
        refine g_istore_n (lv' := [(2, .int 0), (0, .ref (a 22)), (1, .int x1)]) C dX8_goOn_23 (by decide) rfl ?_
        refine g_sub (lv' := [(0, .ref (a 22)), (1, .int x1), (2, .int 0)]) [1, 2, 0] rfl ?_
        obtain ⟨n, h⟩ := h
        exact t_X8_goOn_22_24 C hQ hRc n g1 x1 0 h
      · have h := h.2 c4
        refine g_aload_n C 0 dX8_goOn_17 rfl ?_
        refine g_callUv C (As := []) (st := []) (fun l => c_X3_note_22 l D a cI h) cl_RX8_48_X3 rfl ce_22 (by omega) rfl (Nat.le_of_ble_eq_true rfl) dX8_goOn_18 (fun g14 h => ?_)
        exact g_vret C hQ dX8_goOn_21 h
    · have h := h.1 c3
      exact g_vret C hQ dX8_goOn_8 h
/-! X8_refresh_22: rank 15 -/
def M_X8_refresh_22 (f : Sg) (Q : Sg → Prop) : Prop :=
  ((f 22 3) = 0 → M_X5_cars_1 f (fun r3 g2 => ∀ g4 : Sg, g4 = va_up g2 22 (upd (g2 22) 2 r3) → M_X3_begin_22 g4 (fun g5 => M_X6_start_9 g5 (fun g7 => M_X8_goOn_22 12 g7 0 (fun g9 => ∀ g11 : Sg, g11 = va_up g9 22 (upd (g9 22) 3 1) → Q g11))))) ∧ (¬ (f 22 3) = 0 → Q f)
set_option maxHeartbeats 4000000 in
theorem c_X8_refresh_22 (l : Launch) (D : va_G) (a : Nat → Nat) (cI : ClassId) {f : Sg} {Q : Sg → Prop} (h : M_X8_refresh_22 f Q) : MV l D [(cI, .int)] (cw a cI) yX8_refresh cX8_refresh 1 (15) [.ref (a 22)] f Q := by
  refine mkV (cw_fix a cI) (by decide +kernel) (Nat.le_of_ble_eq_true rfl) (fun o C hQ => ?_)
  show Go o D (cw a cI) 0 [(0, .ref (a 22))] [] f
  unfold M_X8_refresh_22 at h
  refine g_aload_n C 0 dX8_refresh_0 rfl ?_
  refine gf_RX8_15_X3 C ce_22 rfl dX8_refresh_1 ?_
  refine g_if_eq C 8 dX8_refresh_4 (by decide) (fun c1 => ?_) (fun c1 => ?_)
  · have h := h.1 c1
    refine g_aload_n C 0 dX8_refresh_8 rfl ?_
    refine g_aload_n C 0 dX8_refresh_9 rfl ?_
    refine gf_RX8_19_X3 C ce_22 rfl dX8_refresh_10 ?_
    refine g_callVi C (As := []) (st := [.ref (a 22)]) (fun l => c_X5_cars_1 l D a cI h) cl_RX8_27_X5 rfl ce_1 (by omega) rfl (Nat.le_of_ble_eq_true rfl) dX8_refresh_13 (fun r3 g2 h => ?_)
    obtain ⟨g4, eg4⟩ : ∃ g : Sg, g = va_up g2 22 (upd (g2 22) 2 r3) := ⟨_, rfl⟩
    have h := h g4 eg4
    refine gp_RX8_9_X3 C rfl rfl ce_22 (Nat.le_of_ble_eq_true rfl) (g := g4) (by rw [eg4]; exact cs_22_2) dX8_refresh_16 ?_
    refine g_aload_n C 0 dX8_refresh_19 rfl ?_
    refine g_callUv C (As := []) (st := []) (fun l => c_X3_begin_22 l D a cI h) cl_RX8_32_X3 rfl ce_22 (by omega) rfl (Nat.le_of_ble_eq_true rfl) dX8_refresh_20 (fun g5 h => ?_)
    refine g_aload_n C 0 dX8_refresh_23 rfl ?_
    refine gf_RX8_23_X3 C ce_22 rfl dX8_refresh_24 ?_
    refine g_callVv C (As := []) (st := []) (fun l => c_X6_start_9 l D a cI h) cl_RX8_35_X6 rfl ce_9 (by omega) rfl (Nat.le_of_ble_eq_true rfl) dX8_refresh_27 (fun g7 h => ?_)
    refine g_aload_n C 0 dX8_refresh_30 rfl ?_
    refine g_iconst C 0 dX8_refresh_31 (by decide) ?_
    refine g_callUv C (As := [.int 0]) (st := []) (fun l => c_X8_goOn_22 l D a cI 12 h) cl_RX8_40_X3 rfl ce_22 (by omega) rfl (Nat.le_of_ble_eq_true rfl) dX8_refresh_32 (fun g9 h => ?_)
    refine g_aload_n C 0 dX8_refresh_35 rfl ?_
    refine g_iconst C 1 dX8_refresh_36 (by decide) ?_
    obtain ⟨g11, eg11⟩ : ∃ g : Sg, g = va_up g9 22 (upd (g9 22) 3 1) := ⟨_, rfl⟩
    have h := h g11 eg11
    refine gp_RX8_15_X3 C rfl rfl ce_22 (Nat.le_of_ble_eq_true rfl) (g := g11) (by rw [eg11]; exact cs_22_3) dX8_refresh_37 ?_
    exact g_vret C hQ dX8_refresh_40 h
  · have h := h.2 c1
    exact g_vret C hQ dX8_refresh_7 h
/-! X9_orders_0: rank 16 -/
def M_X9_orders_0 (f : Sg) (x1 : Int32) (Q : Int32 → Sg → Prop) : Prop :=
  (x1 = 0 → M_X5_orderCount_1 f (fun r3 g2 => Q r3 g2)) ∧ (¬ x1 = 0 → (x1 = 1 → M_X8_refresh_22 f (fun g5 => Q (g5 22 4) g5)) ∧ (¬ x1 = 1 → (x1 = 2 → M_X8_refresh_20 f (fun g8 => Q (g8 20 6) g8)) ∧ (¬ x1 = 2 → Q (-2) f)))
set_option maxHeartbeats 4000000 in
theorem c_X9_orders_0 (l : Launch) (D : va_G) (a : Nat → Nat) (cI : ClassId) {f : Sg} {x1 : Int32} {Q : Int32 → Sg → Prop} (h : M_X9_orders_0 f x1 Q) : MI l D [(cI, .int)] (cw a cI) yX9_orders cX9_orders 2 (some .int) (16) [.ref (a 0), .int x1] f Q := by
  refine mkI (cw_fix a cI) (by decide +kernel) (Nat.le_of_ble_eq_true rfl) (fun o C hQ => ?_)
  show Go o D (cw a cI) 0 [(0, .ref (a 0)), (1, .int x1)] [] f
  unfold M_X9_orders_0 at h
  refine g_iload_n C 1 dX9_orders_0 rfl ?_
  by_cases e1 : x1 = 0
  · have h := h.1 e1
    refine g_tsIn C 28 dX9_orders_1 (by rw [e1] <;> decide) (by rw [e1] <;> decide) (by rw [e1] <;> rfl) (by decide) ?_
    refine g_aload_n C 0 dX9_orders_28 rfl ?_
    refine gf_RX9_10_X9 C ce_0 rfl dX9_orders_29 ?_
    refine g_callVi C (As := []) (st := []) (fun l => c_X5_orderCount_1 l D a cI h) cl_RX9_139_X5 rfl ce_1 (by omega) rfl (Nat.le_of_ble_eq_true rfl) dX9_orders_32 (fun r3 g2 h => ?_)
    exact g_iret C hQ dX9_orders_35 h
  · have h := h.2 e1
    by_cases e4 : x1 = 1
    · have h := h.1 e4
      refine g_tsIn C 36 dX9_orders_1 (by rw [e4] <;> decide) (by rw [e4] <;> decide) (by rw [e4] <;> rfl) (by decide) ?_
      refine g_aload_n C 0 dX9_orders_36 rfl ?_
      refine gf_RX9_51_X9 C ce_0 rfl dX9_orders_37 ?_
      refine g_callUv C (As := []) (st := []) (fun l => c_X8_refresh_22 l D a cI h) cl_RX9_142_X3 rfl ce_22 (by omega) rfl (Nat.le_of_ble_eq_true rfl) dX9_orders_40 (fun g5 h => ?_)
      refine g_aload_n C 0 dX9_orders_43 rfl ?_
      refine gf_RX9_51_X9 C ce_0 rfl dX9_orders_44 ?_
      refine gf_RX9_143_X3 C ce_22 rfl dX9_orders_47 ?_
      exact g_iret C hQ dX9_orders_50 h
    · have h := h.2 e4
      by_cases e7 : x1 = 2
      · have h := h.1 e7
        refine g_tsIn C 51 dX9_orders_1 (by rw [e7] <;> decide) (by rw [e7] <;> decide) (by rw [e7] <;> rfl) (by decide) ?_
        refine g_aload_n C 0 dX9_orders_51 rfl ?_
        refine gf_RX9_44_X9 C ce_0 rfl dX9_orders_52 ?_
        refine g_callUv C (As := []) (st := []) (fun l => c_X8_refresh_20 l D a cI h) cl_RX9_134_X0 rfl ce_20 (by omega) rfl (Nat.le_of_ble_eq_true rfl) dX9_orders_55 (fun g8 h => ?_)
        refine g_aload_n C 0 dX9_orders_58 rfl ?_
        refine gf_RX9_44_X9 C ce_0 rfl dX9_orders_59 ?_
        refine gf_RX9_145_X0 C ce_20 rfl dX9_orders_62 ?_
        exact g_iret C hQ dX9_orders_65 h
      · have h := h.2 e7
        have qe1 : ¬ (x1 : Int32).toInt = 0 := i32_ne_toInt (c := 0) (by decide) e1
        have qe4 : ¬ (x1 : Int32).toInt = 1 := i32_ne_toInt (c := 1) (by decide) e4
        have qe7 : ¬ (x1 : Int32).toInt = 2 := i32_ne_toInt (c := 2) (by decide) e7
        refine g_tsOut C 66 dX9_orders_1 (by omega) (by decide) ?_
        refine g_bipush C (-2) dX9_orders_66 (by decide) ?_
        exact g_iret C hQ dX9_orders_68 h
/-! X9_classAt_0_17: rank 1 -/
def J_X9_classAt_0_17_29 (Q : Int32 → Sg → Prop) (f : Sg) (s0 : Int32) : Prop :=
  Q s0 f
def J_X9_classAt_0_17_27 (Q : Int32 → Sg → Prop) (f : Sg) : Prop :=
  J_X9_classAt_0_17_29 Q f (-6)
def M_X9_classAt_0_17 (f : Sg) (x2 : Int32) (Q : Int32 → Sg → Prop) : Prop :=
  (x2 < 0 → J_X9_classAt_0_17_27 Q f) ∧ (¬ x2 < 0 → M_X5_cars_1 f (fun r3 g2 => (r3 ≤ x2 → J_X9_classAt_0_17_27 Q g2) ∧ (¬ r3 ≤ x2 → (9 ≤ x2 → J_X9_classAt_0_17_27 Q g2) ∧ (¬ 9 ≤ x2 → vp_in x2 9 ∧ J_X9_classAt_0_17_29 Q g2 (g2 17 (x2 : Int32).toNatClampNeg)))))
set_option maxHeartbeats 4000000 in
theorem t_X9_classAt_0_17_29 {o : Om} {D : va_G} {a : Nat → Nat} {cI : ClassId} {Q : Int32 → Sg → Prop} (C : Cx o D [(cI, .int)] (cw a cI) RX9 cX9_classAt (some .int) 1 3) (hQ : RetI o D (cw a cI) Q) {f : Sg} {s0 : Int32} (h : J_X9_classAt_0_17_29 Q f s0) : Go o D (cw a cI) 29 [] [.int s0] f := by
  unfold J_X9_classAt_0_17_29 at h
  exact g_iret C hQ dX9_classAt_29 h
set_option maxHeartbeats 4000000 in
theorem t_X9_classAt_0_17_27 {o : Om} {D : va_G} {a : Nat → Nat} {cI : ClassId} {Q : Int32 → Sg → Prop} (C : Cx o D [(cI, .int)] (cw a cI) RX9 cX9_classAt (some .int) 1 3) (hQ : RetI o D (cw a cI) Q) {f : Sg} (h : J_X9_classAt_0_17_27 Q f) : Go o D (cw a cI) 27 [] [] f := by
  unfold J_X9_classAt_0_17_27 at h
  refine g_bipush C (-6) dX9_classAt_27 (by decide) ?_
  refine g_sub (lv' := []) [] rfl ?_
  exact t_X9_classAt_0_17_29 C hQ h
set_option maxHeartbeats 4000000 in
theorem c_X9_classAt_0_17 (l : Launch) (D : va_G) (a : Nat → Nat) (cI : ClassId) {f : Sg} {x2 : Int32} {Q : Int32 → Sg → Prop} (h : M_X9_classAt_0_17 f x2 Q) : MI l D [(cI, .int)] (cw a cI) yX9_classAt cX9_classAt 3 (some .int) (1) [.ref (a 0), .ref (a 17), .int x2] f Q := by
  refine mkI (cw_fix a cI) (by decide +kernel) (Nat.le_of_ble_eq_true rfl) (fun o C hQ => ?_)
  show Go o D (cw a cI) 0 [(0, .ref (a 0)), (1, .ref (a 17)), (2, .int x2)] [] f
  unfold M_X9_classAt_0_17 at h
  refine g_iload_n C 2 dX9_classAt_0 rfl ?_
  refine g_if_lt C 27 dX9_classAt_1 (by decide) (fun c1 => ?_) (fun c1 => ?_)
  · have h := h.1 c1
    refine g_sub (lv' := []) [] rfl ?_
    exact t_X9_classAt_0_17_27 C hQ h
  · have h := h.2 c1
    refine g_iload_n C 2 dX9_classAt_4 rfl ?_
    refine g_aload_n C 0 dX9_classAt_5 rfl ?_
    refine gf_RX9_10_X9 C ce_0 rfl dX9_classAt_6 ?_
    refine g_callVi C (As := []) (st := [.int x2]) (fun l => c_X5_cars_1 l D a cI h) cl_RX9_107_X5 rfl ce_1 (by omega) rfl (Nat.le_of_ble_eq_true rfl) dX9_classAt_9 (fun r3 g2 h => ?_)
    refine g_icmp_ge C 27 dX9_classAt_12 (by decide) (fun c4 => ?_) (fun c4 => ?_)
    · have h := h.1 c4
      refine g_sub (lv' := []) [] rfl ?_
      exact t_X9_classAt_0_17_27 C hQ h
    · have h := h.2 c4
      refine g_iload_n C 2 dX9_classAt_15 rfl ?_
      refine g_aload_n C 1 dX9_classAt_16 rfl ?_
      refine g_alen C 0 ce_17 rfl (v := 9) rfl dX9_classAt_17 ?_
      refine g_icmp_ge C 27 dX9_classAt_18 (by decide) (fun c5 => ?_) (fun c5 => ?_)
      · have h := h.1 c5
        refine g_sub (lv' := []) [] rfl ?_
        exact t_X9_classAt_0_17_27 C hQ h
      · have h := h.2 c5
        refine g_aload_n C 1 dX9_classAt_21 rfl ?_
        refine g_iload_n C 2 dX9_classAt_22 rfl ?_
        obtain ⟨hi6, h⟩ := h
        refine g_iald C 0 ce_17 rfl hi6 dX9_classAt_23 ?_
        refine g_goto C 29 dX9_classAt_24 (by decide) ?_
        refine g_sub (lv' := []) [] rfl ?_
        exact t_X9_classAt_0_17_29 C hQ h
/-! X9_at_0: rank 17 -/
def J_X9_at_0_34 (Q : Int32 → Sg → Prop) (f : Sg) (s0 : Int32) : Prop :=
  Q s0 f
def M_X9_at_0 (f : Sg) (x1 : Int32) (Q : Int32 → Sg → Prop) : Prop :=
  M_X8_refresh_14 f (fun g1 => ((g1 14 9) = 0 → J_X9_at_0_34 Q g1 (-6)) ∧ (¬ (g1 14 9) = 0 → M_X9_classAt_0_17 g1 x1 (fun r5 g4 => J_X9_at_0_34 Q g4 r5)))
set_option maxHeartbeats 4000000 in
theorem t_X9_at_0_34 {o : Om} {D : va_G} {a : Nat → Nat} {cI : ClassId} {Q : Int32 → Sg → Prop} (C : Cx o D [(cI, .int)] (cw a cI) RX9 cX9_at (some .int) 17 2) (hQ : RetI o D (cw a cI) Q) {f : Sg} {s0 : Int32} (h : J_X9_at_0_34 Q f s0) : Go o D (cw a cI) 34 [] [.int s0] f := by
  unfold J_X9_at_0_34 at h
  exact g_iret C hQ dX9_at_34 h
set_option maxHeartbeats 4000000 in
theorem c_X9_at_0 (l : Launch) (D : va_G) (a : Nat → Nat) (cI : ClassId) {f : Sg} {x1 : Int32} {Q : Int32 → Sg → Prop} (h : M_X9_at_0 f x1 Q) : MI l D [(cI, .int)] (cw a cI) yX9_at cX9_at 2 (some .int) (17) [.ref (a 0), .int x1] f Q := by
  refine mkI (cw_fix a cI) (by decide +kernel) (Nat.le_of_ble_eq_true rfl) (fun o C hQ => ?_)
  show Go o D (cw a cI) 0 [(0, .ref (a 0)), (1, .int x1)] [] f
  unfold M_X9_at_0 at h
  refine g_aload_n C 0 dX9_at_0 rfl ?_
  refine gf_RX9_37_X9 C ce_0 rfl dX9_at_1 ?_
  refine g_callUv C (As := []) (st := []) (fun l => c_X8_refresh_14 l D a cI h) cl_RX9_121_X2 rfl ce_14 (by omega) rfl (Nat.le_of_ble_eq_true rfl) dX9_at_4 (fun g1 h => ?_)
  refine g_aload_n C 0 dX9_at_7 rfl ?_
  refine gf_RX9_37_X9 C ce_0 rfl dX9_at_8 ?_
  refine gf_RX9_124_X2 C ce_14 rfl dX9_at_11 ?_
  refine g_if_ne C 22 dX9_at_14 (by decide) (fun c3 => ?_) (fun c3 => ?_)
  · have h := h.2 c3
    refine g_aload_n C 0 dX9_at_22 rfl ?_
    refine g_aload_n C 0 dX9_at_23 rfl ?_
    refine gf_RX9_37_X9 C ce_0 rfl dX9_at_24 ?_
    refine gf_RX9_146_X2 C ce_14 rfl dX9_at_27 ?_
    refine g_iload_n C 1 dX9_at_30 rfl ?_
    refine g_callVi C (As := [.ref (a 17), .int x1]) (st := []) (fun l => c_X9_classAt_0_17 l D a cI h) cl_RX9_130_X9 rfl ce_0 (by omega) rfl (Nat.le_of_ble_eq_true rfl) dX9_at_31 (fun r5 g4 h => ?_)
    refine g_sub (lv' := []) [] rfl ?_
    exact t_X9_at_0_34 C hQ h
  · have h := h.1 c3
    refine g_bipush C (-6) dX9_at_17 (by decide) ?_
    refine g_goto C 34 dX9_at_19 (by decide) ?_
    refine g_sub (lv' := []) [] rfl ?_
    exact t_X9_at_0_34 C hQ h
/-! X9_classAt_0_10: rank 1 -/
def J_X9_classAt_0_10_29 (Q : Int32 → Sg → Prop) (f : Sg) (s0 : Int32) : Prop :=
  Q s0 f
def J_X9_classAt_0_10_27 (Q : Int32 → Sg → Prop) (f : Sg) : Prop :=
  J_X9_classAt_0_10_29 Q f (-6)
def M_X9_classAt_0_10 (f : Sg) (x2 : Int32) (Q : Int32 → Sg → Prop) : Prop :=
  (x2 < 0 → J_X9_classAt_0_10_27 Q f) ∧ (¬ x2 < 0 → M_X5_cars_1 f (fun r3 g2 => (r3 ≤ x2 → J_X9_classAt_0_10_27 Q g2) ∧ (¬ r3 ≤ x2 → (9 ≤ x2 → J_X9_classAt_0_10_27 Q g2) ∧ (¬ 9 ≤ x2 → vp_in x2 9 ∧ J_X9_classAt_0_10_29 Q g2 (g2 10 (x2 : Int32).toNatClampNeg)))))
set_option maxHeartbeats 4000000 in
theorem t_X9_classAt_0_10_29 {o : Om} {D : va_G} {a : Nat → Nat} {cI : ClassId} {Q : Int32 → Sg → Prop} (C : Cx o D [(cI, .int)] (cw a cI) RX9 cX9_classAt (some .int) 1 3) (hQ : RetI o D (cw a cI) Q) {f : Sg} {s0 : Int32} (h : J_X9_classAt_0_10_29 Q f s0) : Go o D (cw a cI) 29 [] [.int s0] f := by
  unfold J_X9_classAt_0_10_29 at h
  exact g_iret C hQ dX9_classAt_29 h
set_option maxHeartbeats 4000000 in
theorem t_X9_classAt_0_10_27 {o : Om} {D : va_G} {a : Nat → Nat} {cI : ClassId} {Q : Int32 → Sg → Prop} (C : Cx o D [(cI, .int)] (cw a cI) RX9 cX9_classAt (some .int) 1 3) (hQ : RetI o D (cw a cI) Q) {f : Sg} (h : J_X9_classAt_0_10_27 Q f) : Go o D (cw a cI) 27 [] [] f := by
  unfold J_X9_classAt_0_10_27 at h
  refine g_bipush C (-6) dX9_classAt_27 (by decide) ?_
  refine g_sub (lv' := []) [] rfl ?_
  exact t_X9_classAt_0_10_29 C hQ h
set_option maxHeartbeats 4000000 in
theorem c_X9_classAt_0_10 (l : Launch) (D : va_G) (a : Nat → Nat) (cI : ClassId) {f : Sg} {x2 : Int32} {Q : Int32 → Sg → Prop} (h : M_X9_classAt_0_10 f x2 Q) : MI l D [(cI, .int)] (cw a cI) yX9_classAt cX9_classAt 3 (some .int) (1) [.ref (a 0), .ref (a 10), .int x2] f Q := by
  refine mkI (cw_fix a cI) (by decide +kernel) (Nat.le_of_ble_eq_true rfl) (fun o C hQ => ?_)
  show Go o D (cw a cI) 0 [(0, .ref (a 0)), (1, .ref (a 10)), (2, .int x2)] [] f
  unfold M_X9_classAt_0_10 at h
  refine g_iload_n C 2 dX9_classAt_0 rfl ?_
  refine g_if_lt C 27 dX9_classAt_1 (by decide) (fun c1 => ?_) (fun c1 => ?_)
  · have h := h.1 c1
    refine g_sub (lv' := []) [] rfl ?_
    exact t_X9_classAt_0_10_27 C hQ h
  · have h := h.2 c1
    refine g_iload_n C 2 dX9_classAt_4 rfl ?_
    refine g_aload_n C 0 dX9_classAt_5 rfl ?_
    refine gf_RX9_10_X9 C ce_0 rfl dX9_classAt_6 ?_
    refine g_callVi C (As := []) (st := [.int x2]) (fun l => c_X5_cars_1 l D a cI h) cl_RX9_107_X5 rfl ce_1 (by omega) rfl (Nat.le_of_ble_eq_true rfl) dX9_classAt_9 (fun r3 g2 h => ?_)
    refine g_icmp_ge C 27 dX9_classAt_12 (by decide) (fun c4 => ?_) (fun c4 => ?_)
    · have h := h.1 c4
      refine g_sub (lv' := []) [] rfl ?_
      exact t_X9_classAt_0_10_27 C hQ h
    · have h := h.2 c4
      refine g_iload_n C 2 dX9_classAt_15 rfl ?_
      refine g_aload_n C 1 dX9_classAt_16 rfl ?_
      refine g_alen C 0 ce_10 rfl (v := 9) rfl dX9_classAt_17 ?_
      refine g_icmp_ge C 27 dX9_classAt_18 (by decide) (fun c5 => ?_) (fun c5 => ?_)
      · have h := h.1 c5
        refine g_sub (lv' := []) [] rfl ?_
        exact t_X9_classAt_0_10_27 C hQ h
      · have h := h.2 c5
        refine g_aload_n C 1 dX9_classAt_21 rfl ?_
        refine g_iload_n C 2 dX9_classAt_22 rfl ?_
        obtain ⟨hi6, h⟩ := h
        refine g_iald C 0 ce_10 rfl hi6 dX9_classAt_23 ?_
        refine g_goto C 29 dX9_classAt_24 (by decide) ?_
        refine g_sub (lv' := []) [] rfl ?_
        exact t_X9_classAt_0_10_29 C hQ h
/-! X9_rule_0: rank 4 -/
def J_X9_rule_0_49 (Q : Int32 → Sg → Prop) (f : Sg) (s0 : Int32) : Prop :=
  Q s0 f
def M_X9_rule_0 (f : Sg) (x1 : Int32) (Q : Int32 → Sg → Prop) : Prop :=
  ((-1) ≤ x1 → M_X5_cars_1 f (fun r3 g2 => M_X6_takeRule_9 g2 r3 (fun g4 => (x1 = (-1) → M_X6_breaks_9 g4 (fun r10 g9 => J_X9_rule_0_49 Q g9 r10)) ∧ (¬ x1 = (-1) → M_X9_classAt_0_10 g4 x1 (fun r8 g7 => J_X9_rule_0_49 Q g7 r8))))) ∧ (¬ (-1) ≤ x1 → Q (-2) f)
set_option maxHeartbeats 4000000 in
theorem t_X9_rule_0_49 {o : Om} {D : va_G} {a : Nat → Nat} {cI : ClassId} {Q : Int32 → Sg → Prop} (C : Cx o D [(cI, .int)] (cw a cI) RX9 cX9_rule (some .int) 4 2) (hQ : RetI o D (cw a cI) Q) {f : Sg} {s0 : Int32} (h : J_X9_rule_0_49 Q f s0) : Go o D (cw a cI) 49 [] [.int s0] f := by
  unfold J_X9_rule_0_49 at h
  exact g_iret C hQ dX9_rule_49 h
set_option maxHeartbeats 4000000 in
theorem c_X9_rule_0 (l : Launch) (D : va_G) (a : Nat → Nat) (cI : ClassId) {f : Sg} {x1 : Int32} {Q : Int32 → Sg → Prop} (h : M_X9_rule_0 f x1 Q) : MI l D [(cI, .int)] (cw a cI) yX9_rule cX9_rule 2 (some .int) (4) [.ref (a 0), .int x1] f Q := by
  refine mkI (cw_fix a cI) (by decide +kernel) (Nat.le_of_ble_eq_true rfl) (fun o C hQ => ?_)
  show Go o D (cw a cI) 0 [(0, .ref (a 0)), (1, .int x1)] [] f
  unfold M_X9_rule_0 at h
  refine g_iload_n C 1 dX9_rule_0 rfl ?_
  refine g_iconst C (-1) dX9_rule_1 (by decide) ?_
  refine g_icmp_ge C 8 dX9_rule_2 (by decide) (fun c1 => ?_) (fun c1 => ?_)
  · have h := h.1 c1
    refine g_aload_n C 0 dX9_rule_8 rfl ?_
    refine gf_RX9_28_X9 C ce_0 rfl dX9_rule_9 ?_
    refine g_aload_n C 0 dX9_rule_12 rfl ?_
    refine gf_RX9_10_X9 C ce_0 rfl dX9_rule_13 ?_
    refine g_callVi C (As := []) (st := [.ref (a 9)]) (fun l => c_X5_cars_1 l D a cI h) cl_RX9_107_X5 rfl ce_1 (by omega) rfl (Nat.le_of_ble_eq_true rfl) dX9_rule_16 (fun r3 g2 h => ?_)
    refine g_callVv C (As := [.int r3]) (st := []) (fun l => c_X6_takeRule_9 l D a cI h) cl_RX9_147_X6 rfl ce_9 (by omega) rfl (Nat.le_of_ble_eq_true rfl) dX9_rule_19 (fun g4 h => ?_)
    refine g_iload_n C 1 dX9_rule_22 rfl ?_
    refine g_iconst C (-1) dX9_rule_23 (by decide) ?_
    refine g_icmp_ne C 37 dX9_rule_24 (by decide) (fun c6 => ?_) (fun c6 => ?_)
    · have h := h.2 c6
      refine g_aload_n C 0 dX9_rule_37 rfl ?_
      refine g_aload_n C 0 dX9_rule_38 rfl ?_
      refine gf_RX9_28_X9 C ce_0 rfl dX9_rule_39 ?_
      refine gf_RX9_154_X6 C ce_9 rfl dX9_rule_42 ?_
      refine g_iload_n C 1 dX9_rule_45 rfl ?_
      refine g_callVi C (As := [.ref (a 10), .int x1]) (st := []) (fun l => c_X9_classAt_0_10 l D a cI h) cl_RX9_130_X9 rfl ce_0 (by omega) rfl (Nat.le_of_ble_eq_true rfl) dX9_rule_46 (fun r8 g7 h => ?_)
      refine g_sub (lv' := []) [] rfl ?_
      exact t_X9_rule_0_49 C hQ h
    · have h := h.1 c6
      refine g_aload_n C 0 dX9_rule_27 rfl ?_
      refine gf_RX9_28_X9 C ce_0 rfl dX9_rule_28 ?_
      refine g_callVi C (As := []) (st := []) (fun l => c_X6_breaks_9 l D a cI h) cl_RX9_151_X6 rfl ce_9 (by omega) rfl (Nat.le_of_ble_eq_true rfl) dX9_rule_31 (fun r10 g9 h => ?_)
      refine g_goto C 49 dX9_rule_34 (by decide) ?_
      refine g_sub (lv' := []) [] rfl ?_
      exact t_X9_rule_0_49 C hQ h
  · have h := h.2 c1
    refine g_bipush C (-2) dX9_rule_5 (by decide) ?_
    exact g_iret C hQ dX9_rule_7 h
/-! X9_classAt_0_16: rank 1 -/
def J_X9_classAt_0_16_29 (Q : Int32 → Sg → Prop) (f : Sg) (s0 : Int32) : Prop :=
  Q s0 f
def J_X9_classAt_0_16_27 (Q : Int32 → Sg → Prop) (f : Sg) : Prop :=
  J_X9_classAt_0_16_29 Q f (-6)
def M_X9_classAt_0_16 (f : Sg) (x2 : Int32) (Q : Int32 → Sg → Prop) : Prop :=
  (x2 < 0 → J_X9_classAt_0_16_27 Q f) ∧ (¬ x2 < 0 → M_X5_cars_1 f (fun r3 g2 => (r3 ≤ x2 → J_X9_classAt_0_16_27 Q g2) ∧ (¬ r3 ≤ x2 → (9 ≤ x2 → J_X9_classAt_0_16_27 Q g2) ∧ (¬ 9 ≤ x2 → vp_in x2 9 ∧ J_X9_classAt_0_16_29 Q g2 (g2 16 (x2 : Int32).toNatClampNeg)))))
set_option maxHeartbeats 4000000 in
theorem t_X9_classAt_0_16_29 {o : Om} {D : va_G} {a : Nat → Nat} {cI : ClassId} {Q : Int32 → Sg → Prop} (C : Cx o D [(cI, .int)] (cw a cI) RX9 cX9_classAt (some .int) 1 3) (hQ : RetI o D (cw a cI) Q) {f : Sg} {s0 : Int32} (h : J_X9_classAt_0_16_29 Q f s0) : Go o D (cw a cI) 29 [] [.int s0] f := by
  unfold J_X9_classAt_0_16_29 at h
  exact g_iret C hQ dX9_classAt_29 h
set_option maxHeartbeats 4000000 in
theorem t_X9_classAt_0_16_27 {o : Om} {D : va_G} {a : Nat → Nat} {cI : ClassId} {Q : Int32 → Sg → Prop} (C : Cx o D [(cI, .int)] (cw a cI) RX9 cX9_classAt (some .int) 1 3) (hQ : RetI o D (cw a cI) Q) {f : Sg} (h : J_X9_classAt_0_16_27 Q f) : Go o D (cw a cI) 27 [] [] f := by
  unfold J_X9_classAt_0_16_27 at h
  refine g_bipush C (-6) dX9_classAt_27 (by decide) ?_
  refine g_sub (lv' := []) [] rfl ?_
  exact t_X9_classAt_0_16_29 C hQ h
set_option maxHeartbeats 4000000 in
theorem c_X9_classAt_0_16 (l : Launch) (D : va_G) (a : Nat → Nat) (cI : ClassId) {f : Sg} {x2 : Int32} {Q : Int32 → Sg → Prop} (h : M_X9_classAt_0_16 f x2 Q) : MI l D [(cI, .int)] (cw a cI) yX9_classAt cX9_classAt 3 (some .int) (1) [.ref (a 0), .ref (a 16), .int x2] f Q := by
  refine mkI (cw_fix a cI) (by decide +kernel) (Nat.le_of_ble_eq_true rfl) (fun o C hQ => ?_)
  show Go o D (cw a cI) 0 [(0, .ref (a 0)), (1, .ref (a 16)), (2, .int x2)] [] f
  unfold M_X9_classAt_0_16 at h
  refine g_iload_n C 2 dX9_classAt_0 rfl ?_
  refine g_if_lt C 27 dX9_classAt_1 (by decide) (fun c1 => ?_) (fun c1 => ?_)
  · have h := h.1 c1
    refine g_sub (lv' := []) [] rfl ?_
    exact t_X9_classAt_0_16_27 C hQ h
  · have h := h.2 c1
    refine g_iload_n C 2 dX9_classAt_4 rfl ?_
    refine g_aload_n C 0 dX9_classAt_5 rfl ?_
    refine gf_RX9_10_X9 C ce_0 rfl dX9_classAt_6 ?_
    refine g_callVi C (As := []) (st := [.int x2]) (fun l => c_X5_cars_1 l D a cI h) cl_RX9_107_X5 rfl ce_1 (by omega) rfl (Nat.le_of_ble_eq_true rfl) dX9_classAt_9 (fun r3 g2 h => ?_)
    refine g_icmp_ge C 27 dX9_classAt_12 (by decide) (fun c4 => ?_) (fun c4 => ?_)
    · have h := h.1 c4
      refine g_sub (lv' := []) [] rfl ?_
      exact t_X9_classAt_0_16_27 C hQ h
    · have h := h.2 c4
      refine g_iload_n C 2 dX9_classAt_15 rfl ?_
      refine g_aload_n C 1 dX9_classAt_16 rfl ?_
      refine g_alen C 0 ce_16 rfl (v := 9) rfl dX9_classAt_17 ?_
      refine g_icmp_ge C 27 dX9_classAt_18 (by decide) (fun c5 => ?_) (fun c5 => ?_)
      · have h := h.1 c5
        refine g_sub (lv' := []) [] rfl ?_
        exact t_X9_classAt_0_16_27 C hQ h
      · have h := h.2 c5
        refine g_aload_n C 1 dX9_classAt_21 rfl ?_
        refine g_iload_n C 2 dX9_classAt_22 rfl ?_
        obtain ⟨hi6, h⟩ := h
        refine g_iald C 0 ce_16 rfl hi6 dX9_classAt_23 ?_
        refine g_goto C 29 dX9_classAt_24 (by decide) ?_
        refine g_sub (lv' := []) [] rfl ?_
        exact t_X9_classAt_0_16_29 C hQ h
/-! X9_near_0: rank 17 -/
def J_X9_near_0_55 (Q : Int32 → Sg → Prop) (f : Sg) (s0 : Int32) : Prop :=
  Q s0 f
def M_X9_near_0 (f : Sg) (x1 : Int32) (Q : Int32 → Sg → Prop) : Prop :=
  ((-1) ≤ x1 → M_X8_refresh_14 f (fun g2 => ((g2 14 9) = 0 → Q (-6) g2) ∧ (¬ (g2 14 9) = 0 → (x1 = (-1) → J_X9_near_0_55 Q g2 (g2 14 10)) ∧ (¬ x1 = (-1) → M_X9_classAt_0_16 g2 x1 (fun r7 g6 => J_X9_near_0_55 Q g6 r7))))) ∧ (¬ (-1) ≤ x1 → Q (-2) f)
set_option maxHeartbeats 4000000 in
theorem t_X9_near_0_55 {o : Om} {D : va_G} {a : Nat → Nat} {cI : ClassId} {Q : Int32 → Sg → Prop} (C : Cx o D [(cI, .int)] (cw a cI) RX9 cX9_near (some .int) 17 2) (hQ : RetI o D (cw a cI) Q) {f : Sg} {s0 : Int32} (h : J_X9_near_0_55 Q f s0) : Go o D (cw a cI) 55 [] [.int s0] f := by
  unfold J_X9_near_0_55 at h
  exact g_iret C hQ dX9_near_55 h
set_option maxHeartbeats 4000000 in
theorem c_X9_near_0 (l : Launch) (D : va_G) (a : Nat → Nat) (cI : ClassId) {f : Sg} {x1 : Int32} {Q : Int32 → Sg → Prop} (h : M_X9_near_0 f x1 Q) : MI l D [(cI, .int)] (cw a cI) yX9_near cX9_near 2 (some .int) (17) [.ref (a 0), .int x1] f Q := by
  refine mkI (cw_fix a cI) (by decide +kernel) (Nat.le_of_ble_eq_true rfl) (fun o C hQ => ?_)
  show Go o D (cw a cI) 0 [(0, .ref (a 0)), (1, .int x1)] [] f
  unfold M_X9_near_0 at h
  refine g_iload_n C 1 dX9_near_0 rfl ?_
  refine g_iconst C (-1) dX9_near_1 (by decide) ?_
  refine g_icmp_ge C 8 dX9_near_2 (by decide) (fun c1 => ?_) (fun c1 => ?_)
  · have h := h.1 c1
    refine g_aload_n C 0 dX9_near_8 rfl ?_
    refine gf_RX9_37_X9 C ce_0 rfl dX9_near_9 ?_
    refine g_callUv C (As := []) (st := []) (fun l => c_X8_refresh_14 l D a cI h) cl_RX9_121_X2 rfl ce_14 (by omega) rfl (Nat.le_of_ble_eq_true rfl) dX9_near_12 (fun g2 h => ?_)
    refine g_aload_n C 0 dX9_near_15 rfl ?_
    refine gf_RX9_37_X9 C ce_0 rfl dX9_near_16 ?_
    refine gf_RX9_124_X2 C ce_14 rfl dX9_near_19 ?_
    refine g_if_ne C 28 dX9_near_22 (by decide) (fun c4 => ?_) (fun c4 => ?_)
    · have h := h.2 c4
      refine g_iload_n C 1 dX9_near_28 rfl ?_
      refine g_iconst C (-1) dX9_near_29 (by decide) ?_
      refine g_icmp_ne C 43 dX9_near_30 (by decide) (fun c5 => ?_) (fun c5 => ?_)
      · have h := h.2 c5
        refine g_aload_n C 0 dX9_near_43 rfl ?_
        refine g_aload_n C 0 dX9_near_44 rfl ?_
        refine gf_RX9_37_X9 C ce_0 rfl dX9_near_45 ?_
        refine gf_RX9_160_X2 C ce_14 rfl dX9_near_48 ?_
        refine g_iload_n C 1 dX9_near_51 rfl ?_
        refine g_callVi C (As := [.ref (a 16), .int x1]) (st := []) (fun l => c_X9_classAt_0_16 l D a cI h) cl_RX9_130_X9 rfl ce_0 (by omega) rfl (Nat.le_of_ble_eq_true rfl) dX9_near_52 (fun r7 g6 h => ?_)
        refine g_sub (lv' := []) [] rfl ?_
        exact t_X9_near_0_55 C hQ h
      · have h := h.1 c5
        refine g_aload_n C 0 dX9_near_33 rfl ?_
        refine gf_RX9_37_X9 C ce_0 rfl dX9_near_34 ?_
        refine gf_RX9_157_X2 C ce_14 rfl dX9_near_37 ?_
        refine g_goto C 55 dX9_near_40 (by decide) ?_
        refine g_sub (lv' := []) [] rfl ?_
        exact t_X9_near_0_55 C hQ h
    · have h := h.1 c4
      refine g_bipush C (-6) dX9_near_25 (by decide) ?_
      exact g_iret C hQ dX9_near_27 h
  · have h := h.2 c1
    refine g_bipush C (-2) dX9_near_5 (by decide) ?_
    exact g_iret C hQ dX9_near_7 h
/-! X4_add_7: rank 0 -/
def J_X4_add_7_29 (Q : Sg → Prop) (f : Sg) : Prop :=
  Q f
def M_X4_add_7 (f : Sg) (x1 : Int32) (Q : Sg → Prop) : Prop :=
  (9 ≤ (f 7 1) → J_X4_add_7_29 Q f) ∧ (¬ 9 ≤ (f 7 1) → vp_in (f 7 1) 9 ∧ ∀ g3 : Sg, g3 = va_up f 8 (upd (f 8) (f 7 1 : Int32).toNatClampNeg x1) → ∀ g4 : Sg, g4 = va_up g3 7 (upd (g3 7) 1 ((g3 7 1) + 1)) → J_X4_add_7_29 Q g4)
set_option maxHeartbeats 4000000 in
theorem t_X4_add_7_29 {o : Om} {D : va_G} {a : Nat → Nat} {cI : ClassId} {Q : Sg → Prop} (C : Cx o D [(cI, .int)] (cw a cI) RX4 cX4_add none 0 2) (hQ : RetV o D (cw a cI) Q) {f : Sg} (h : J_X4_add_7_29 Q f) : Go o D (cw a cI) 29 [] [] f := by
  unfold J_X4_add_7_29 at h
  exact g_vret C hQ dX4_add_29 h
set_option maxHeartbeats 4000000 in
theorem c_X4_add_7 (l : Launch) (D : va_G) (a : Nat → Nat) (cI : ClassId) {f : Sg} {x1 : Int32} {Q : Sg → Prop} (h : M_X4_add_7 f x1 Q) : MV l D [(cI, .int)] (cw a cI) yX4_add cX4_add 2 (0) [.ref (a 7), .int x1] f Q := by
  refine mkV (cw_fix a cI) (by decide +kernel) (Nat.le_of_ble_eq_true rfl) (fun o C hQ => ?_)
  show Go o D (cw a cI) 0 [(0, .ref (a 7)), (1, .int x1)] [] f
  unfold M_X4_add_7 at h
  refine g_aload_n C 0 dX4_add_0 rfl ?_
  refine gf_RX4_15_X4 C ce_7 rfl dX4_add_1 ?_
  refine g_bipush C 9 dX4_add_4 (by decide) ?_
  refine g_icmp_ge C 29 dX4_add_6 (by decide) (fun c1 => ?_) (fun c1 => ?_)
  · have h := h.1 c1
    refine g_sub (lv' := []) [] rfl ?_
    exact t_X4_add_7_29 C hQ h
  · have h := h.2 c1
    refine g_aload_n C 0 dX4_add_9 rfl ?_
    refine gf_RX4_9_X4 C ce_7 rfl dX4_add_10 ?_
    refine g_aload_n C 0 dX4_add_13 rfl ?_
    refine gf_RX4_15_X4 C ce_7 rfl dX4_add_14 ?_
    refine g_iload_n C 1 dX4_add_17 rfl ?_
    obtain ⟨hi2, h⟩ := h
    obtain ⟨g3, eg3⟩ : ∃ g : Sg, g = va_up f 8 (upd (f 8) (f 7 1 : Int32).toNatClampNeg x1) := ⟨_, rfl⟩
    have h := h g3 eg3
    refine g_iast C 0 ce_8 rfl (g := g3) (by rw [eg3]; exact cs_8) hi2 dX4_add_18 ?_
    refine g_aload_n C 0 dX4_add_19 rfl ?_
    refine g_dup C dX4_add_20 rfl ?_
    refine gf_RX4_15_X4 C ce_7 rfl dX4_add_21 ?_
    refine g_iconst C 1 dX4_add_24 (by decide) ?_
    refine g_iadd C dX4_add_25 ?_
    obtain ⟨g4, eg4⟩ : ∃ g : Sg, g = va_up g3 7 (upd (g3 7) 1 ((g3 7 1) + 1)) := ⟨_, rfl⟩
    have h := h g4 eg4
    refine gp_RX4_15_X4 C rfl rfl ce_7 (Nat.le_of_ble_eq_true rfl) (g := g4) (by rw [eg4]; exact cs_7_1) dX4_add_26 ?_
    refine g_sub (lv' := []) [] rfl ?_
    exact t_X4_add_7_29 C hQ h
/-! X9_say_0: rank 1 -/
def J_X9_say_0_54 (Q : Int32 → Sg → Prop) (f : Sg) (s0 : Int32) : Prop :=
  M_X4_add_7 f s0 (fun g5 => M_X8_forget_24 g5 (fun g7 => Q (g7 7 1) g7))
def J_X9_say_0_21 (Q : Int32 → Sg → Prop) (f : Sg) (x1 : Int32) : Prop :=
  ((f 7 1) < 9 → (x1 = 63 → J_X9_say_0_54 Q f (-1)) ∧ (¬ x1 = 63 → J_X9_say_0_54 Q f (x1 - 48))) ∧ (¬ (f 7 1) < 9 → Q (-4) f)
def J_X9_say_0_12 (Q : Int32 → Sg → Prop) (f : Sg) (x1 : Int32) : Prop :=
  (x1 = 63 → J_X9_say_0_21 Q f x1) ∧ (¬ x1 = 63 → Q (-2) f)
def M_X9_say_0 (f : Sg) (x1 : Int32) (Q : Int32 → Sg → Prop) : Prop :=
  (x1 < 48 → J_X9_say_0_12 Q f x1) ∧ (¬ x1 < 48 → (x1 < 53 → J_X9_say_0_21 Q f x1) ∧ (¬ x1 < 53 → J_X9_say_0_12 Q f x1))
set_option maxHeartbeats 4000000 in
theorem t_X9_say_0_54 {o : Om} {D : va_G} {a : Nat → Nat} {cI : ClassId} {Q : Int32 → Sg → Prop} (C : Cx o D [(cI, .int)] (cw a cI) RX9 cX9_say (some .int) 1 2) (hQ : RetI o D (cw a cI) Q) {f : Sg} {s0 : Int32} (h : J_X9_say_0_54 Q f s0) : Go o D (cw a cI) 54 [(0, .ref (a 0))] [.int s0, .ref (a 7)] f := by
  unfold J_X9_say_0_54 at h
  refine g_callVv C (As := [.int s0]) (st := []) (fun l => c_X4_add_7 l D a cI h) cl_RX9_166_X4 rfl ce_7 (by omega) rfl (Nat.le_of_ble_eq_true rfl) dX9_say_54 (fun g5 h => ?_)
  refine g_aload_n C 0 dX9_say_57 rfl ?_
  refine gf_RX9_60_X9 C ce_0 rfl dX9_say_58 ?_
  refine g_callUv C (As := []) (st := []) (fun l => c_X8_forget_24 l D a cI h) cl_RX9_169_X1 rfl ce_24 (by omega) rfl (Nat.le_of_ble_eq_true rfl) dX9_say_61 (fun g7 h => ?_)
  refine g_aload_n C 0 dX9_say_64 rfl ?_
  refine gf_RX9_19_X9 C ce_0 rfl dX9_say_65 ?_
  refine gf_RX9_163_X4 C ce_7 rfl dX9_say_68 ?_
  exact g_iret C hQ dX9_say_71 h
set_option maxHeartbeats 4000000 in
theorem t_X9_say_0_21 {o : Om} {D : va_G} {a : Nat → Nat} {cI : ClassId} {Q : Int32 → Sg → Prop} (C : Cx o D [(cI, .int)] (cw a cI) RX9 cX9_say (some .int) 1 2) (hQ : RetI o D (cw a cI) Q) {f : Sg} {x1 : Int32} (h : J_X9_say_0_21 Q f x1) : Go o D (cw a cI) 21 [(0, .ref (a 0)), (1, .int x1)] [] f := by
  unfold J_X9_say_0_21 at h
  refine g_aload_n C 0 dX9_say_21 rfl ?_
  refine gf_RX9_19_X9 C ce_0 rfl dX9_say_22 ?_
  refine gf_RX9_163_X4 C ce_7 rfl dX9_say_25 ?_
  refine g_bipush C 9 dX9_say_28 (by decide) ?_
  refine g_icmp_lt C 36 dX9_say_30 (by decide) (fun c3 => ?_) (fun c3 => ?_)
  · have h := h.1 c3
    refine g_aload_n C 0 dX9_say_36 rfl ?_
    refine gf_RX9_19_X9 C ce_0 rfl dX9_say_37 ?_
    refine g_iload_n C 1 dX9_say_40 rfl ?_
    refine g_bipush C 63 dX9_say_41 (by decide) ?_
    refine g_icmp_ne C 50 dX9_say_43 (by decide) (fun c4 => ?_) (fun c4 => ?_)
    · have h := h.2 c4
      refine g_iload_n C 1 dX9_say_50 rfl ?_
      refine g_bipush C 48 dX9_say_51 (by decide) ?_
      refine g_isub C dX9_say_53 ?_
      refine g_sub (lv' := [(0, .ref (a 0))]) [0] rfl ?_
      exact t_X9_say_0_54 C hQ h
    · have h := h.1 c4
      refine g_iconst C (-1) dX9_say_46 (by decide) ?_
      refine g_goto C 54 dX9_say_47 (by decide) ?_
      refine g_sub (lv' := [(0, .ref (a 0))]) [0] rfl ?_
      exact t_X9_say_0_54 C hQ h
  · have h := h.2 c3
    refine g_bipush C (-4) dX9_say_33 (by decide) ?_
    exact g_iret C hQ dX9_say_35 h
set_option maxHeartbeats 4000000 in
theorem t_X9_say_0_12 {o : Om} {D : va_G} {a : Nat → Nat} {cI : ClassId} {Q : Int32 → Sg → Prop} (C : Cx o D [(cI, .int)] (cw a cI) RX9 cX9_say (some .int) 1 2) (hQ : RetI o D (cw a cI) Q) {f : Sg} {x1 : Int32} (h : J_X9_say_0_12 Q f x1) : Go o D (cw a cI) 12 [(0, .ref (a 0)), (1, .int x1)] [] f := by
  unfold J_X9_say_0_12 at h
  refine g_iload_n C 1 dX9_say_12 rfl ?_
  refine g_bipush C 63 dX9_say_13 (by decide) ?_
  refine g_icmp_eq C 21 dX9_say_15 (by decide) (fun c2 => ?_) (fun c2 => ?_)
  · have h := h.1 c2
    refine g_sub (lv' := [(0, .ref (a 0)), (1, .int x1)]) [0, 1] rfl ?_
    exact t_X9_say_0_21 C hQ h
  · have h := h.2 c2
    refine g_bipush C (-2) dX9_say_18 (by decide) ?_
    exact g_iret C hQ dX9_say_20 h
set_option maxHeartbeats 4000000 in
theorem c_X9_say_0 (l : Launch) (D : va_G) (a : Nat → Nat) (cI : ClassId) {f : Sg} {x1 : Int32} {Q : Int32 → Sg → Prop} (h : M_X9_say_0 f x1 Q) : MI l D [(cI, .int)] (cw a cI) yX9_say cX9_say 2 (some .int) (1) [.ref (a 0), .int x1] f Q := by
  refine mkI (cw_fix a cI) (by decide +kernel) (Nat.le_of_ble_eq_true rfl) (fun o C hQ => ?_)
  show Go o D (cw a cI) 0 [(0, .ref (a 0)), (1, .int x1)] [] f
  unfold M_X9_say_0 at h
  refine g_iload_n C 1 dX9_say_0 rfl ?_
  refine g_bipush C 48 dX9_say_1 (by decide) ?_
  refine g_icmp_lt C 12 dX9_say_3 (by decide) (fun c1 => ?_) (fun c1 => ?_)
  · have h := h.1 c1
    refine g_sub (lv' := [(0, .ref (a 0)), (1, .int x1)]) [0, 1] rfl ?_
    exact t_X9_say_0_12 C hQ h
  · have h := h.2 c1
    refine g_iload_n C 1 dX9_say_6 rfl ?_
    refine g_bipush C 53 dX9_say_7 (by decide) ?_
    refine g_icmp_lt C 21 dX9_say_9 (by decide) (fun c9 => ?_) (fun c9 => ?_)
    · have h := h.1 c9
      refine g_sub (lv' := [(0, .ref (a 0)), (1, .int x1)]) [0, 1] rfl ?_
      exact t_X9_say_0_21 C hQ h
    · have h := h.2 c9
      refine g_sub (lv' := [(0, .ref (a 0)), (1, .int x1)]) [0, 1] rfl ?_
      exact t_X9_say_0_12 C hQ h
/-! X9_wipe_0: rank 1 -/
def M_X9_wipe_0 (f : Sg) (Q : Int32 → Sg → Prop) : Prop :=
  ∀ z1 : Int32, z1 = f 7 1 → ∀ g2 : Sg, g2 = va_up f 7 (upd (f 7) 1 0) → M_X8_forget_24 g2 (fun g3 => Q z1 g3)
set_option maxHeartbeats 4000000 in
theorem c_X9_wipe_0 (l : Launch) (D : va_G) (a : Nat → Nat) (cI : ClassId) {f : Sg} {Q : Int32 → Sg → Prop} (h : M_X9_wipe_0 f Q) : MI l D [(cI, .int)] (cw a cI) yX9_wipe cX9_wipe 2 (some .int) (1) [.ref (a 0)] f Q := by
  refine mkI (cw_fix a cI) (by decide +kernel) (Nat.le_of_ble_eq_true rfl) (fun o C hQ => ?_)
  show Go o D (cw a cI) 0 [(0, .ref (a 0))] [] f
  unfold M_X9_wipe_0 at h
  refine g_aload_n C 0 dX9_wipe_0 rfl ?_
  refine gf_RX9_19_X9 C ce_0 rfl dX9_wipe_1 ?_
  refine gf_RX9_163_X4 C ce_7 rfl dX9_wipe_4 ?_
  refine g_top (fun z1 ez1 => ?_)
  have h := h z1 ez1
  refine g_istore_n (lv' := [(1, .int z1), (0, .ref (a 0))]) C dX9_wipe_7 (by decide) rfl ?_
  refine g_aload_n C 1 dX9_wipe_8 rfl ?_
  refine gf_RX9_19_X9 C ce_0 rfl dX9_wipe_9 ?_
  refine g_iconst C 0 dX9_wipe_12 (by decide) ?_
  obtain ⟨g2, eg2⟩ : ∃ g : Sg, g = va_up f 7 (upd (f 7) 1 0) := ⟨_, rfl⟩
  have h := h g2 eg2
  refine gp_RX9_163_X4 C rfl rfl ce_7 (Nat.le_of_ble_eq_true rfl) (g := g2) (by rw [eg2]; exact cs_7_1) dX9_wipe_13 ?_
  refine g_aload_n C 1 dX9_wipe_16 rfl ?_
  refine gf_RX9_60_X9 C ce_0 rfl dX9_wipe_17 ?_
  refine g_callUv C (As := []) (st := []) (fun l => c_X8_forget_24 l D a cI h) cl_RX9_169_X1 rfl ce_24 (by omega) rfl (Nat.le_of_ble_eq_true rfl) dX9_wipe_20 (fun g3 h => ?_)
  refine g_iload_n C 0 dX9_wipe_23 rfl ?_
  exact g_iret C hQ dX9_wipe_24 h
/-! X4_hasAny_7: rank 0 -/
def B_X4_hasAny_7_2 (Q : Int32 → Sg → Prop) (K2 : Sg → Int32 → Prop) (f : Sg) (x1 : Int32) : Prop :=
  ((f 7 1) ≤ x1 → Q 0 f) ∧ (¬ (f 7 1) ≤ x1 → vp_in x1 9 ∧ ((f 8 (x1 : Int32).toNatClampNeg) = (-1) → Q 1 f) ∧ (¬ (f 8 (x1 : Int32).toNatClampNeg) = (-1) → K2 f (x1 + 1)))
def M_X4_hasAny_7 (f : Sg) (Q : Int32 → Sg → Prop) : Prop :=
  ∃ n : Nat, itr1 (B_X4_hasAny_7_2 Q) n f 0
set_option maxHeartbeats 4000000 in
theorem t_X4_hasAny_7_2 {o : Om} {D : va_G} {a : Nat → Nat} {cI : ClassId} {Q : Int32 → Sg → Prop} (C : Cx o D [(cI, .int)] (cw a cI) RX4 cX4_hasAny (some .boolean) 0 2) (hQ : RetI o D (cw a cI) Q) : ∀ (n : Nat) (f : Sg) (x1 : Int32), itr1 (B_X4_hasAny_7_2 Q) n f x1 → Go o D (cw a cI) 2 [(0, .ref (a 7)), (1, .int x1)] [] f := by
  intro n
  induction n with
  | zero => intro f x1 h; exact h.elim
  | succ n ih =>
    intro f x1 h
    have h : B_X4_hasAny_7_2 Q (itr1 (B_X4_hasAny_7_2 Q) n) f x1 := h
    have hK2 := ih
    generalize itr1 (B_X4_hasAny_7_2 Q) n = K2 at h hK2
    clear ih
    unfold B_X4_hasAny_7_2 at h
    refine g_iload_n C 1 dX4_hasAny_2 rfl ?_
    refine g_aload_n C 0 dX4_hasAny_3 rfl ?_
    refine gf_RX4_15_X4 C ce_7 rfl dX4_hasAny_4 ?_
    refine g_icmp_ge C 28 dX4_hasAny_7 (by decide) (fun c1 => ?_) (fun c1 => ?_)
    · have h := h.1 c1
      refine g_iconst C 0 dX4_hasAny_28 (by decide) ?_
      exact g_zret C hQ rfl dX4_hasAny_29 h
    · have h := h.2 c1
      refine g_aload_n C 0 dX4_hasAny_10 rfl ?_
      refine gf_RX4_9_X4 C ce_7 rfl dX4_hasAny_11 ?_
      refine g_iload_n C 1 dX4_hasAny_14 rfl ?_
      obtain ⟨hi2, h⟩ := h
      refine g_iald C 0 ce_8 rfl hi2 dX4_hasAny_15 ?_
      refine g_iconst C (-1) dX4_hasAny_16 (by decide) ?_
      refine g_icmp_ne C 22 dX4_hasAny_17 (by decide) (fun c3 => ?_) (fun c3 => ?_)
      · have h := h.2 c3
        refine g_iinc (lv' := [(1, .int (x1 + 1)), (0, .ref (a 7))]) C 1 dX4_hasAny_22 rfl rfl (by decide) rfl ?_
        refine g_goto C 2 dX4_hasAny_25 (by decide) ?_
        refine g_sub (lv' := [(0, .ref (a 7)), (1, .int (x1 + 1))]) [1, 0] rfl ?_
        exact hK2 f (x1 + 1) h
      · have h := h.1 c3
        refine g_iconst C 1 dX4_hasAny_20 (by decide) ?_
        exact g_zret C hQ rfl dX4_hasAny_21 h
set_option maxHeartbeats 4000000 in
theorem c_X4_hasAny_7 (l : Launch) (D : va_G) (a : Nat → Nat) (cI : ClassId) {f : Sg} {Q : Int32 → Sg → Prop} (h : M_X4_hasAny_7 f Q) : MI l D [(cI, .int)] (cw a cI) yX4_hasAny cX4_hasAny 2 (some .boolean) (0) [.ref (a 7)] f Q := by
  refine mkI (cw_fix a cI) (by decide +kernel) (Nat.le_of_ble_eq_true rfl) (fun o C hQ => ?_)
  show Go o D (cw a cI) 0 [(0, .ref (a 7))] [] f
  unfold M_X4_hasAny_7 at h
  refine g_iconst C 0 dX4_hasAny_0 (by decide) ?_
  refine g_istore_n (lv' := [(1, .int 0), (0, .ref (a 7))]) C dX4_hasAny_1 (by decide) rfl ?_
  refine g_sub (lv' := [(0, .ref (a 7)), (1, .int 0)]) [1, 0] rfl ?_
  obtain ⟨n, h⟩ := h
  exact t_X4_hasAny_7_2 C hQ n f 0 h
/-! X4_signAt_7: rank 0 -/
def J_X4_signAt_7_22 (Q : Int32 → Sg → Prop) (f : Sg) (s0 : Int32) : Prop :=
  Q s0 f
def J_X4_signAt_7_21 (Q : Int32 → Sg → Prop) (f : Sg) : Prop :=
  J_X4_signAt_7_22 Q f (-1)
def M_X4_signAt_7 (f : Sg) (x1 : Int32) (Q : Int32 → Sg → Prop) : Prop :=
  (x1 < 0 → J_X4_signAt_7_21 Q f) ∧ (¬ x1 < 0 → ((f 7 1) ≤ x1 → J_X4_signAt_7_21 Q f) ∧ (¬ (f 7 1) ≤ x1 → vp_in x1 9 ∧ J_X4_signAt_7_22 Q f (f 8 (x1 : Int32).toNatClampNeg)))
set_option maxHeartbeats 4000000 in
theorem t_X4_signAt_7_22 {o : Om} {D : va_G} {a : Nat → Nat} {cI : ClassId} {Q : Int32 → Sg → Prop} (C : Cx o D [(cI, .int)] (cw a cI) RX4 cX4_signAt (some .int) 0 2) (hQ : RetI o D (cw a cI) Q) {f : Sg} {s0 : Int32} (h : J_X4_signAt_7_22 Q f s0) : Go o D (cw a cI) 22 [] [.int s0] f := by
  unfold J_X4_signAt_7_22 at h
  exact g_iret C hQ dX4_signAt_22 h
set_option maxHeartbeats 4000000 in
theorem t_X4_signAt_7_21 {o : Om} {D : va_G} {a : Nat → Nat} {cI : ClassId} {Q : Int32 → Sg → Prop} (C : Cx o D [(cI, .int)] (cw a cI) RX4 cX4_signAt (some .int) 0 2) (hQ : RetI o D (cw a cI) Q) {f : Sg} (h : J_X4_signAt_7_21 Q f) : Go o D (cw a cI) 21 [] [] f := by
  unfold J_X4_signAt_7_21 at h
  refine g_iconst C (-1) dX4_signAt_21 (by decide) ?_
  refine g_sub (lv' := []) [] rfl ?_
  exact t_X4_signAt_7_22 C hQ h
set_option maxHeartbeats 4000000 in
theorem c_X4_signAt_7 (l : Launch) (D : va_G) (a : Nat → Nat) (cI : ClassId) {f : Sg} {x1 : Int32} {Q : Int32 → Sg → Prop} (h : M_X4_signAt_7 f x1 Q) : MI l D [(cI, .int)] (cw a cI) yX4_signAt cX4_signAt 2 (some .int) (0) [.ref (a 7), .int x1] f Q := by
  refine mkI (cw_fix a cI) (by decide +kernel) (Nat.le_of_ble_eq_true rfl) (fun o C hQ => ?_)
  show Go o D (cw a cI) 0 [(0, .ref (a 7)), (1, .int x1)] [] f
  unfold M_X4_signAt_7 at h
  refine g_iload_n C 1 dX4_signAt_0 rfl ?_
  refine g_if_lt C 21 dX4_signAt_1 (by decide) (fun c1 => ?_) (fun c1 => ?_)
  · have h := h.1 c1
    refine g_sub (lv' := []) [] rfl ?_
    exact t_X4_signAt_7_21 C hQ h
  · have h := h.2 c1
    refine g_iload_n C 1 dX4_signAt_4 rfl ?_
    refine g_aload_n C 0 dX4_signAt_5 rfl ?_
    refine gf_RX4_15_X4 C ce_7 rfl dX4_signAt_6 ?_
    refine g_icmp_ge C 21 dX4_signAt_9 (by decide) (fun c2 => ?_) (fun c2 => ?_)
    · have h := h.1 c2
      refine g_sub (lv' := []) [] rfl ?_
      exact t_X4_signAt_7_21 C hQ h
    · have h := h.2 c2
      refine g_aload_n C 0 dX4_signAt_12 rfl ?_
      refine gf_RX4_9_X4 C ce_7 rfl dX4_signAt_13 ?_
      refine g_iload_n C 1 dX4_signAt_16 rfl ?_
      obtain ⟨hi3, h⟩ := h
      refine g_iald C 0 ce_8 rfl hi3 dX4_signAt_17 ?_
      refine g_goto C 22 dX4_signAt_18 (by decide) ?_
      refine g_sub (lv' := []) [] rfl ?_
      exact t_X4_signAt_7_22 C hQ h
/-! X9_walkPad_0: rank 3 -/
def J_X9_walkPad_0_45 (Q : Int32 → Sg → Prop) (K11 : Sg → Int32 → Int32 → Prop) (f : Sg) (x1 : Int32) (x2 : Int32) (x3 : Int32) : Prop :=
  M_X6_put_9 f x3 (fun g9 => K11 g9 x1 (x2 + 1))
def B_X9_walkPad_0_11 (Q : Int32 → Sg → Prop) (K11 : Sg → Int32 → Int32 → Prop) (f : Sg) (x1 : Int32) (x2 : Int32) : Prop :=
  ((f 7 1) ≤ x2 → Q x1 f) ∧ (¬ (f 7 1) ≤ x2 → M_X4_signAt_7 f x2 (fun r5 g4 => M_X6_ruleClass_9 g4 (fun r7 g6 => (r7 = r5 → J_X9_walkPad_0_45 Q K11 g6 x1 x2 r5) ∧ (¬ r7 = r5 → J_X9_walkPad_0_45 Q K11 g6 (x1 + 1) x2 r5))))
def M_X9_walkPad_0 (f : Sg) (Q : Int32 → Sg → Prop) : Prop :=
  M_X6_start_9 f (fun g1 => ∃ n : Nat, itr2 (B_X9_walkPad_0_11 Q) n g1 0 0)
set_option maxHeartbeats 4000000 in
theorem t_X9_walkPad_0_45 {o : Om} {D : va_G} {a : Nat → Nat} {cI : ClassId} {Q : Int32 → Sg → Prop} {K11 : Sg → Int32 → Int32 → Prop} (C : Cx o D [(cI, .int)] (cw a cI) RX9 cX9_walkPad (some .int) 3 4) (hQ : RetI o D (cw a cI) Q) (hK11 : ∀ (g : Sg) (x1 : Int32) (x2 : Int32), K11 g x1 x2 → Go o D (cw a cI) 11 [(0, .ref (a 0)), (1, .int x1), (2, .int x2)] [] g) {f : Sg} {x1 : Int32} {x2 : Int32} {x3 : Int32} (h : J_X9_walkPad_0_45 Q K11 f x1 x2 x3) : Go o D (cw a cI) 45 [(0, .ref (a 0)), (1, .int x1), (2, .int x2), (3, .int x3)] [] f := by
  unfold J_X9_walkPad_0_45 at h
  refine g_aload_n C 0 dX9_walkPad_45 rfl ?_
  refine gf_RX9_28_X9 C ce_0 rfl dX9_walkPad_46 ?_
  refine g_iload_n C 3 dX9_walkPad_49 rfl ?_
  refine g_callVv C (As := [.int x3]) (st := []) (fun l => c_X6_put_9 l D a cI h) cl_RX9_219_X6 rfl ce_9 (by omega) rfl (Nat.le_of_ble_eq_true rfl) dX9_walkPad_50 (fun g9 h => ?_)
  refine g_iinc (lv' := [(2, .int (x2 + 1)), (0, .ref (a 0)), (1, .int x1), (3, .int x3)]) C 2 dX9_walkPad_53 rfl rfl (by decide) rfl ?_
  refine g_goto C 11 dX9_walkPad_56 (by decide) ?_
  refine g_sub (lv' := [(0, .ref (a 0)), (1, .int x1), (2, .int (x2 + 1))]) [1, 2, 0] rfl ?_
  exact hK11 g9 x1 (x2 + 1) h
set_option maxHeartbeats 4000000 in
theorem t_X9_walkPad_0_11 {o : Om} {D : va_G} {a : Nat → Nat} {cI : ClassId} {Q : Int32 → Sg → Prop} (C : Cx o D [(cI, .int)] (cw a cI) RX9 cX9_walkPad (some .int) 3 4) (hQ : RetI o D (cw a cI) Q) : ∀ (n : Nat) (f : Sg) (x1 : Int32) (x2 : Int32), itr2 (B_X9_walkPad_0_11 Q) n f x1 x2 → Go o D (cw a cI) 11 [(0, .ref (a 0)), (1, .int x1), (2, .int x2)] [] f := by
  intro n
  induction n with
  | zero => intro f x1 x2 h; exact h.elim
  | succ n ih =>
    intro f x1 x2 h
    have h : B_X9_walkPad_0_11 Q (itr2 (B_X9_walkPad_0_11 Q) n) f x1 x2 := h
    have hK11 := ih
    generalize itr2 (B_X9_walkPad_0_11 Q) n = K11 at h hK11
    clear ih
    unfold B_X9_walkPad_0_11 at h
    refine g_iload_n C 2 dX9_walkPad_11 rfl ?_
    refine g_aload_n C 0 dX9_walkPad_12 rfl ?_
    refine gf_RX9_19_X9 C ce_0 rfl dX9_walkPad_13 ?_
    refine gf_RX9_163_X4 C ce_7 rfl dX9_walkPad_16 ?_
    refine g_icmp_ge C 59 dX9_walkPad_19 (by decide) (fun c3 => ?_) (fun c3 => ?_)
    · have h := h.1 c3
      refine g_iload_n C 1 dX9_walkPad_59 rfl ?_
      exact g_iret C hQ dX9_walkPad_60 h
    · have h := h.2 c3
      refine g_aload_n C 0 dX9_walkPad_22 rfl ?_
      refine gf_RX9_19_X9 C ce_0 rfl dX9_walkPad_23 ?_
      refine g_iload_n C 2 dX9_walkPad_26 rfl ?_
      refine g_callVi C (As := [.int x2]) (st := []) (fun l => c_X4_signAt_7 l D a cI h) cl_RX9_213_X4 rfl ce_7 (by omega) rfl (Nat.le_of_ble_eq_true rfl) dX9_walkPad_27 (fun r5 g4 h => ?_)
      refine g_istore_n (lv' := [(3, .int r5), (0, .ref (a 0)), (1, .int x1), (2, .int x2)]) C dX9_walkPad_30 (by decide) rfl ?_
      refine g_aload_n C 1 dX9_walkPad_31 rfl ?_
      refine gf_RX9_28_X9 C ce_0 rfl dX9_walkPad_32 ?_
      refine g_callVi C (As := []) (st := []) (fun l => c_X6_ruleClass_9 l D a cI h) cl_RX9_216_X6 rfl ce_9 (by omega) rfl (Nat.le_of_ble_eq_true rfl) dX9_walkPad_35 (fun r7 g6 h => ?_)
      refine g_iload_n C 0 dX9_walkPad_38 rfl ?_
      refine g_icmp_eq C 45 dX9_walkPad_39 (by decide) (fun c8 => ?_) (fun c8 => ?_)
      · have h := h.1 c8
        refine g_sub (lv' := [(0, .ref (a 0)), (1, .int x1), (2, .int x2), (3, .int r5)]) [1, 2, 3, 0] rfl ?_
        exact t_X9_walkPad_0_45 C hQ hK11 h
      · have h := h.2 c8
        refine g_iinc (lv' := [(1, .int (x1 + 1)), (3, .int r5), (0, .ref (a 0)), (2, .int x2)]) C 2 dX9_walkPad_42 rfl rfl (by decide) rfl ?_
        refine g_sub (lv' := [(0, .ref (a 0)), (1, .int (x1 + 1)), (2, .int x2), (3, .int r5)]) [2, 0, 3, 1] rfl ?_
        exact t_X9_walkPad_0_45 C hQ hK11 h
set_option maxHeartbeats 4000000 in
theorem c_X9_walkPad_0 (l : Launch) (D : va_G) (a : Nat → Nat) (cI : ClassId) {f : Sg} {Q : Int32 → Sg → Prop} (h : M_X9_walkPad_0 f Q) : MI l D [(cI, .int)] (cw a cI) yX9_walkPad cX9_walkPad 4 (some .int) (3) [.ref (a 0)] f Q := by
  refine mkI (cw_fix a cI) (by decide +kernel) (Nat.le_of_ble_eq_true rfl) (fun o C hQ => ?_)
  show Go o D (cw a cI) 0 [(0, .ref (a 0))] [] f
  unfold M_X9_walkPad_0 at h
  refine g_iconst C 0 dX9_walkPad_0 (by decide) ?_
  refine g_istore_n (lv' := [(1, .int 0), (0, .ref (a 0))]) C dX9_walkPad_1 (by decide) rfl ?_
  refine g_aload_n C 1 dX9_walkPad_2 rfl ?_
  refine gf_RX9_28_X9 C ce_0 rfl dX9_walkPad_3 ?_
  refine g_callVv C (As := []) (st := []) (fun l => c_X6_start_9 l D a cI h) cl_RX9_210_X6 rfl ce_9 (by omega) rfl (Nat.le_of_ble_eq_true rfl) dX9_walkPad_6 (fun g1 h => ?_)
  refine g_iconst C 0 dX9_walkPad_9 (by decide) ?_
  refine g_istore_n (lv' := [(2, .int 0), (1, .int 0), (0, .ref (a 0))]) C dX9_walkPad_10 (by decide) rfl ?_
  refine g_sub (lv' := [(0, .ref (a 0)), (1, .int 0), (2, .int 0)]) [2, 1, 0] rfl ?_
  obtain ⟨n, h⟩ := h
  exact t_X9_walkPad_0_11 C hQ n g1 0 0 h
/-! X6_firstBreak_9: rank 0 -/
def B_X6_firstBreak_9_2 (Q : Int32 → Sg → Prop) (K2 : Sg → Int32 → Prop) (f : Sg) (x1 : Int32) : Prop :=
  ((f 9 5) ≤ x1 → Q (-6) f) ∧ (¬ (f 9 5) ≤ x1 → vp_in (x1 + 1) 10 ∧ ((f 12 (x1 + 1 : Int32).toNatClampNeg) ≤ 0 → K2 f (x1 + 1)) ∧ (¬ (f 12 (x1 + 1 : Int32).toNatClampNeg) ≤ 0 → Q x1 f))
def M_X6_firstBreak_9 (f : Sg) (Q : Int32 → Sg → Prop) : Prop :=
  ∃ n : Nat, itr1 (B_X6_firstBreak_9_2 Q) n f 0
set_option maxHeartbeats 4000000 in
theorem t_X6_firstBreak_9_2 {o : Om} {D : va_G} {a : Nat → Nat} {cI : ClassId} {Q : Int32 → Sg → Prop} (C : Cx o D [(cI, .int)] (cw a cI) RX6 cX6_firstBreak (some .int) 0 2) (hQ : RetI o D (cw a cI) Q) : ∀ (n : Nat) (f : Sg) (x1 : Int32), itr1 (B_X6_firstBreak_9_2 Q) n f x1 → Go o D (cw a cI) 2 [(0, .ref (a 9)), (1, .int x1)] [] f := by
  intro n
  induction n with
  | zero => intro f x1 h; exact h.elim
  | succ n ih =>
    intro f x1 h
    have h : B_X6_firstBreak_9_2 Q (itr1 (B_X6_firstBreak_9_2 Q) n) f x1 := h
    have hK2 := ih
    generalize itr1 (B_X6_firstBreak_9_2 Q) n = K2 at h hK2
    clear ih
    unfold B_X6_firstBreak_9_2 at h
    refine g_iload_n C 1 dX6_firstBreak_2 rfl ?_
    refine g_aload_n C 0 dX6_firstBreak_3 rfl ?_
    refine gf_RX6_24_X6 C ce_9 rfl dX6_firstBreak_4 ?_
    refine g_icmp_ge C 29 dX6_firstBreak_7 (by decide) (fun c1 => ?_) (fun c1 => ?_)
    · have h := h.1 c1
      refine g_bipush C (-6) dX6_firstBreak_29 (by decide) ?_
      exact g_iret C hQ dX6_firstBreak_31 h
    · have h := h.2 c1
      refine g_aload_n C 0 dX6_firstBreak_10 rfl ?_
      refine gf_RX6_18_X6 C ce_9 rfl dX6_firstBreak_11 ?_
      refine g_iload_n C 1 dX6_firstBreak_14 rfl ?_
      refine g_iconst C 1 dX6_firstBreak_15 (by decide) ?_
      refine g_iadd C dX6_firstBreak_16 ?_
      obtain ⟨hi2, h⟩ := h
      refine g_iald C 0 ce_12 rfl hi2 dX6_firstBreak_17 ?_
      refine g_if_le C 23 dX6_firstBreak_18 (by decide) (fun c3 => ?_) (fun c3 => ?_)
      · have h := h.1 c3
        refine g_iinc (lv' := [(1, .int (x1 + 1)), (0, .ref (a 9))]) C 1 dX6_firstBreak_23 rfl rfl (by decide) rfl ?_
        refine g_goto C 2 dX6_firstBreak_26 (by decide) ?_
        refine g_sub (lv' := [(0, .ref (a 9)), (1, .int (x1 + 1))]) [1, 0] rfl ?_
        exact hK2 f (x1 + 1) h
      · have h := h.2 c3
        refine g_iload_n C 1 dX6_firstBreak_21 rfl ?_
        exact g_iret C hQ dX6_firstBreak_22 h
set_option maxHeartbeats 4000000 in
theorem c_X6_firstBreak_9 (l : Launch) (D : va_G) (a : Nat → Nat) (cI : ClassId) {f : Sg} {Q : Int32 → Sg → Prop} (h : M_X6_firstBreak_9 f Q) : MI l D [(cI, .int)] (cw a cI) yX6_firstBreak cX6_firstBreak 2 (some .int) (0) [.ref (a 9)] f Q := by
  refine mkI (cw_fix a cI) (by decide +kernel) (Nat.le_of_ble_eq_true rfl) (fun o C hQ => ?_)
  show Go o D (cw a cI) 0 [(0, .ref (a 9))] [] f
  unfold M_X6_firstBreak_9 at h
  refine g_iconst C 0 dX6_firstBreak_0 (by decide) ?_
  refine g_istore_n (lv' := [(1, .int 0), (0, .ref (a 9))]) C dX6_firstBreak_1 (by decide) rfl ?_
  refine g_sub (lv' := [(0, .ref (a 9)), (1, .int 0)]) [1, 0] rfl ?_
  obtain ⟨n, h⟩ := h
  exact t_X6_firstBreak_9_2 C hQ n f 0 h
/-! X6_isOrder_9: rank 0 -/
def B_X6_isOrder_9_2 (Q : Int32 → Sg → Prop) (K2 : Sg → Int32 → Prop) (f : Sg) (x1 : Int32) : Prop :=
  (5 ≤ x1 → Q 1 f) ∧ (¬ 5 ≤ x1 → vp_in x1 5 ∧ ((f 13 (x1 : Int32).toNatClampNeg) = 0 → K2 f (x1 + 1)) ∧ (¬ (f 13 (x1 : Int32).toNatClampNeg) = 0 → Q 0 f))
def M_X6_isOrder_9 (f : Sg) (Q : Int32 → Sg → Prop) : Prop :=
  ∃ n : Nat, itr1 (B_X6_isOrder_9_2 Q) n f 0
set_option maxHeartbeats 4000000 in
theorem t_X6_isOrder_9_2 {o : Om} {D : va_G} {a : Nat → Nat} {cI : ClassId} {Q : Int32 → Sg → Prop} (C : Cx o D [(cI, .int)] (cw a cI) RX6 cX6_isOrder (some .boolean) 0 2) (hQ : RetI o D (cw a cI) Q) : ∀ (n : Nat) (f : Sg) (x1 : Int32), itr1 (B_X6_isOrder_9_2 Q) n f x1 → Go o D (cw a cI) 2 [(0, .ref (a 9)), (1, .int x1)] [] f := by
  intro n
  induction n with
  | zero => intro f x1 h; exact h.elim
  | succ n ih =>
    intro f x1 h
    have h : B_X6_isOrder_9_2 Q (itr1 (B_X6_isOrder_9_2 Q) n) f x1 := h
    have hK2 := ih
    generalize itr1 (B_X6_isOrder_9_2 Q) n = K2 at h hK2
    clear ih
    unfold B_X6_isOrder_9_2 at h
    refine g_iload_n C 1 dX6_isOrder_2 rfl ?_
    refine g_iconst C 5 dX6_isOrder_3 (by decide) ?_
    refine g_icmp_ge C 24 dX6_isOrder_4 (by decide) (fun c1 => ?_) (fun c1 => ?_)
    · have h := h.1 c1
      refine g_iconst C 1 dX6_isOrder_24 (by decide) ?_
      exact g_zret C hQ rfl dX6_isOrder_25 h
    · have h := h.2 c1
      refine g_aload_n C 0 dX6_isOrder_7 rfl ?_
      refine gf_RX6_21_X6 C ce_9 rfl dX6_isOrder_8 ?_
      refine g_iload_n C 1 dX6_isOrder_11 rfl ?_
      obtain ⟨hi2, h⟩ := h
      refine g_iald C 0 ce_13 rfl hi2 dX6_isOrder_12 ?_
      refine g_if_eq C 18 dX6_isOrder_13 (by decide) (fun c3 => ?_) (fun c3 => ?_)
      · have h := h.1 c3
        refine g_iinc (lv' := [(1, .int (x1 + 1)), (0, .ref (a 9))]) C 1 dX6_isOrder_18 rfl rfl (by decide) rfl ?_
        refine g_goto C 2 dX6_isOrder_21 (by decide) ?_
        refine g_sub (lv' := [(0, .ref (a 9)), (1, .int (x1 + 1))]) [1, 0] rfl ?_
        exact hK2 f (x1 + 1) h
      · have h := h.2 c3
        refine g_iconst C 0 dX6_isOrder_16 (by decide) ?_
        exact g_zret C hQ rfl dX6_isOrder_17 h
set_option maxHeartbeats 4000000 in
theorem c_X6_isOrder_9 (l : Launch) (D : va_G) (a : Nat → Nat) (cI : ClassId) {f : Sg} {Q : Int32 → Sg → Prop} (h : M_X6_isOrder_9 f Q) : MI l D [(cI, .int)] (cw a cI) yX6_isOrder cX6_isOrder 2 (some .boolean) (0) [.ref (a 9)] f Q := by
  refine mkI (cw_fix a cI) (by decide +kernel) (Nat.le_of_ble_eq_true rfl) (fun o C hQ => ?_)
  show Go o D (cw a cI) 0 [(0, .ref (a 9))] [] f
  unfold M_X6_isOrder_9 at h
  refine g_iconst C 0 dX6_isOrder_0 (by decide) ?_
  refine g_istore_n (lv' := [(1, .int 0), (0, .ref (a 9))]) C dX6_isOrder_1 (by decide) rfl ?_
  refine g_sub (lv' := [(0, .ref (a 9)), (1, .int 0)]) [1, 0] rfl ?_
  obtain ⟨n, h⟩ := h
  exact t_X6_isOrder_9_2 C hQ n f 0 h
