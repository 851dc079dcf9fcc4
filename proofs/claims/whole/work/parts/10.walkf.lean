/-! X5_copyFrom_27_1: rank 1 -/
def M_X5_copyFrom_27_1 (f : Sg) (Q : Sg → Prop) : Prop :=
  ∀ g1 : Sg, g1 = va_up f 28 (va_cpy (f 2) (f 28) (0 : Int32).toNatClampNeg (0 : Int32).toNatClampNeg (4 : Int32).toNatClampNeg) → ∀ g2 : Sg, g2 = va_up g1 29 (va_cpy (g1 3) (g1 29) (0 : Int32).toNatClampNeg (0 : Int32).toNatClampNeg (4 : Int32).toNatClampNeg) → ∀ g3 : Sg, g3 = va_up g2 30 (va_cpy (g2 4) (g2 30) (0 : Int32).toNatClampNeg (0 : Int32).toNatClampNeg (4 : Int32).toNatClampNeg) → ∀ g4 : Sg, g4 = va_up g3 31 (va_cpy (g3 5) (g3 31) (0 : Int32).toNatClampNeg (0 : Int32).toNatClampNeg (5 : Int32).toNatClampNeg) → ∀ g5 : Sg, g5 = va_up g4 32 (va_cpy (g4 6) (g4 32) (0 : Int32).toNatClampNeg (0 : Int32).toNatClampNeg (5 : Int32).toNatClampNeg) → Q g5
set_option maxHeartbeats 4000000 in
theorem c_X5_copyFrom_27_1 (l : Launch) (D : va_G) (a : Nat → Nat) (cI : ClassId) {f : Sg} {Q : Sg → Prop} (h : M_X5_copyFrom_27_1 f Q) : MV l D [(cI, .int)] (cw a cI) yX5_copyFrom cX5_copyFrom 2 (1) [.ref (a 27), .ref (a 1)] f Q := by
  refine mkV (cw_fix a cI) (by decide +kernel) (Nat.le_of_ble_eq_true rfl) (fun o C hQ => ?_)
  show Go o D (cw a cI) 0 [(0, .ref (a 27)), (1, .ref (a 1))] [] f
  unfold M_X5_copyFrom_27_1 at h
  refine g_aload_n C 1 dX5_copyFrom_0 rfl ?_
  refine gf_RX5_9_X5 C ce_1 rfl dX5_copyFrom_1 ?_
  refine g_iconst C 0 dX5_copyFrom_4 (by decide) ?_
  refine g_aload_n C 0 dX5_copyFrom_5 rfl ?_
  refine gf_RX5_9_X5 C ce_27 rfl dX5_copyFrom_6 ?_
  refine g_iconst C 0 dX5_copyFrom_9 (by decide) ?_
  refine g_iconst C 4 dX5_copyFrom_10 (by decide) ?_
  obtain ⟨g1, eg1⟩ : ∃ g : Sg, g = va_up f 28 (va_cpy (f 2) (f 28) (0 : Int32).toNatClampNeg (0 : Int32).toNatClampNeg (4 : Int32).toNatClampNeg) := ⟨_, rfl⟩
  have h := h g1 eg1
  refine g_copy C (by omega) tb_597 tb_371 tb_370 tb_13 0 ce_2 ce_28 rfl (by decide) (by decide) (by decide) (by decide) (by decide) (Nat.le_of_ble_eq_true rfl) (g := g1) (by rw [eg1]; exact cs_28) dX5_copyFrom_11 ?_
  refine g_aload_n C 1 dX5_copyFrom_14 rfl ?_
  refine gf_RX5_15_X5 C ce_1 rfl dX5_copyFrom_15 ?_
  refine g_iconst C 0 dX5_copyFrom_18 (by decide) ?_
  refine g_aload_n C 0 dX5_copyFrom_19 rfl ?_
  refine gf_RX5_15_X5 C ce_27 rfl dX5_copyFrom_20 ?_
  refine g_iconst C 0 dX5_copyFrom_23 (by decide) ?_
  refine g_iconst C 4 dX5_copyFrom_24 (by decide) ?_
  obtain ⟨g2, eg2⟩ : ∃ g : Sg, g = va_up g1 29 (va_cpy (g1 3) (g1 29) (0 : Int32).toNatClampNeg (0 : Int32).toNatClampNeg (4 : Int32).toNatClampNeg) := ⟨_, rfl⟩
  have h := h g2 eg2
  refine g_copy C (by omega) tb_597 tb_371 tb_370 tb_13 0 ce_3 ce_29 rfl (by decide) (by decide) (by decide) (by decide) (by decide) (Nat.le_of_ble_eq_true rfl) (g := g2) (by rw [eg2]; exact cs_29) dX5_copyFrom_25 ?_
  refine g_aload_n C 1 dX5_copyFrom_28 rfl ?_
  refine gf_RX5_18_X5 C ce_1 rfl dX5_copyFrom_29 ?_
  refine g_iconst C 0 dX5_copyFrom_32 (by decide) ?_
  refine g_aload_n C 0 dX5_copyFrom_33 rfl ?_
  refine gf_RX5_18_X5 C ce_27 rfl dX5_copyFrom_34 ?_
  refine g_iconst C 0 dX5_copyFrom_37 (by decide) ?_
  refine g_iconst C 4 dX5_copyFrom_38 (by decide) ?_
  obtain ⟨g3, eg3⟩ : ∃ g : Sg, g = va_up g2 30 (va_cpy (g2 4) (g2 30) (0 : Int32).toNatClampNeg (0 : Int32).toNatClampNeg (4 : Int32).toNatClampNeg) := ⟨_, rfl⟩
  have h := h g3 eg3
  refine g_copy C (by omega) tb_597 tb_371 tb_370 tb_13 0 ce_4 ce_30 rfl (by decide) (by decide) (by decide) (by decide) (by decide) (Nat.le_of_ble_eq_true rfl) (g := g3) (by rw [eg3]; exact cs_30) dX5_copyFrom_39 ?_
  refine g_aload_n C 1 dX5_copyFrom_42 rfl ?_
  refine gf_RX5_21_X5 C ce_1 rfl dX5_copyFrom_43 ?_
  refine g_iconst C 0 dX5_copyFrom_46 (by decide) ?_
  refine g_aload_n C 0 dX5_copyFrom_47 rfl ?_
  refine gf_RX5_21_X5 C ce_27 rfl dX5_copyFrom_48 ?_
  refine g_iconst C 0 dX5_copyFrom_51 (by decide) ?_
  refine g_iconst C 5 dX5_copyFrom_52 (by decide) ?_
  obtain ⟨g4, eg4⟩ : ∃ g : Sg, g = va_up g3 31 (va_cpy (g3 5) (g3 31) (0 : Int32).toNatClampNeg (0 : Int32).toNatClampNeg (5 : Int32).toNatClampNeg) := ⟨_, rfl⟩
  have h := h g4 eg4
  refine g_copy C (by omega) tb_597 tb_371 tb_370 tb_13 0 ce_5 ce_31 rfl (by decide) (by decide) (by decide) (by decide) (by decide) (Nat.le_of_ble_eq_true rfl) (g := g4) (by rw [eg4]; exact cs_31) dX5_copyFrom_53 ?_
  refine g_aload_n C 1 dX5_copyFrom_56 rfl ?_
  refine gf_RX5_24_X5 C ce_1 rfl dX5_copyFrom_57 ?_
  refine g_iconst C 0 dX5_copyFrom_60 (by decide) ?_
  refine g_aload_n C 0 dX5_copyFrom_61 rfl ?_
  refine gf_RX5_24_X5 C ce_27 rfl dX5_copyFrom_62 ?_
  refine g_iconst C 0 dX5_copyFrom_65 (by decide) ?_
  refine g_iconst C 5 dX5_copyFrom_66 (by decide) ?_
  obtain ⟨g5, eg5⟩ : ∃ g : Sg, g = va_up g4 32 (va_cpy (g4 6) (g4 32) (0 : Int32).toNatClampNeg (0 : Int32).toNatClampNeg (5 : Int32).toNatClampNeg) := ⟨_, rfl⟩
  have h := h g5 eg5
  refine g_copy C (by omega) tb_597 tb_371 tb_370 tb_13 0 ce_6 ce_32 rfl (by decide) (by decide) (by decide) (by decide) (by decide) (Nat.le_of_ble_eq_true rfl) (g := g5) (by rw [eg5]; exact cs_32) dX5_copyFrom_67 ?_
  exact g_vret C hQ dX5_copyFrom_70 h
/-! X5_copyFrom_33_1: rank 1 -/
def M_X5_copyFrom_33_1 (f : Sg) (Q : Sg → Prop) : Prop :=
  ∀ g1 : Sg, g1 = va_up f 34 (va_cpy (f 2) (f 34) (0 : Int32).toNatClampNeg (0 : Int32).toNatClampNeg (4 : Int32).toNatClampNeg) → ∀ g2 : Sg, g2 = va_up g1 35 (va_cpy (g1 3) (g1 35) (0 : Int32).toNatClampNeg (0 : Int32).toNatClampNeg (4 : Int32).toNatClampNeg) → ∀ g3 : Sg, g3 = va_up g2 36 (va_cpy (g2 4) (g2 36) (0 : Int32).toNatClampNeg (0 : Int32).toNatClampNeg (4 : Int32).toNatClampNeg) → ∀ g4 : Sg, g4 = va_up g3 37 (va_cpy (g3 5) (g3 37) (0 : Int32).toNatClampNeg (0 : Int32).toNatClampNeg (5 : Int32).toNatClampNeg) → ∀ g5 : Sg, g5 = va_up g4 38 (va_cpy (g4 6) (g4 38) (0 : Int32).toNatClampNeg (0 : Int32).toNatClampNeg (5 : Int32).toNatClampNeg) → Q g5
set_option maxHeartbeats 4000000 in
theorem c_X5_copyFrom_33_1 (l : Launch) (D : va_G) (a : Nat → Nat) (cI : ClassId) {f : Sg} {Q : Sg → Prop} (h : M_X5_copyFrom_33_1 f Q) : MV l D [(cI, .int)] (cw a cI) yX5_copyFrom cX5_copyFrom 2 (1) [.ref (a 33), .ref (a 1)] f Q := by
  refine mkV (cw_fix a cI) (by decide +kernel) (Nat.le_of_ble_eq_true rfl) (fun o C hQ => ?_)
  show Go o D (cw a cI) 0 [(0, .ref (a 33)), (1, .ref (a 1))] [] f
  unfold M_X5_copyFrom_33_1 at h
  refine g_aload_n C 1 dX5_copyFrom_0 rfl ?_
  refine gf_RX5_9_X5 C ce_1 rfl dX5_copyFrom_1 ?_
  refine g_iconst C 0 dX5_copyFrom_4 (by decide) ?_
  refine g_aload_n C 0 dX5_copyFrom_5 rfl ?_
  refine gf_RX5_9_X5 C ce_33 rfl dX5_copyFrom_6 ?_
  refine g_iconst C 0 dX5_copyFrom_9 (by decide) ?_
  refine g_iconst C 4 dX5_copyFrom_10 (by decide) ?_
  obtain ⟨g1, eg1⟩ : ∃ g : Sg, g = va_up f 34 (va_cpy (f 2) (f 34) (0 : Int32).toNatClampNeg (0 : Int32).toNatClampNeg (4 : Int32).toNatClampNeg) := ⟨_, rfl⟩
  have h := h g1 eg1
  refine g_copy C (by omega) tb_597 tb_371 tb_370 tb_13 0 ce_2 ce_34 rfl (by decide) (by decide) (by decide) (by decide) (by decide) (Nat.le_of_ble_eq_true rfl) (g := g1) (by rw [eg1]; exact cs_34) dX5_copyFrom_11 ?_
  refine g_aload_n C 1 dX5_copyFrom_14 rfl ?_
  refine gf_RX5_15_X5 C ce_1 rfl dX5_copyFrom_15 ?_
  refine g_iconst C 0 dX5_copyFrom_18 (by decide) ?_
  refine g_aload_n C 0 dX5_copyFrom_19 rfl ?_
  refine gf_RX5_15_X5 C ce_33 rfl dX5_copyFrom_20 ?_
  refine g_iconst C 0 dX5_copyFrom_23 (by decide) ?_
  refine g_iconst C 4 dX5_copyFrom_24 (by decide) ?_
  obtain ⟨g2, eg2⟩ : ∃ g : Sg, g = va_up g1 35 (va_cpy (g1 3) (g1 35) (0 : Int32).toNatClampNeg (0 : Int32).toNatClampNeg (4 : Int32).toNatClampNeg) := ⟨_, rfl⟩
  have h := h g2 eg2
  refine g_copy C (by omega) tb_597 tb_371 tb_370 tb_13 0 ce_3 ce_35 rfl (by decide) (by decide) (by decide) (by decide) (by decide) (Nat.le_of_ble_eq_true rfl) (g := g2) (by rw [eg2]; exact cs_35) dX5_copyFrom_25 ?_
  refine g_aload_n C 1 dX5_copyFrom_28 rfl ?_
  refine gf_RX5_18_X5 C ce_1 rfl dX5_copyFrom_29 ?_
  refine g_iconst C 0 dX5_copyFrom_32 (by decide) ?_
  refine g_aload_n C 0 dX5_copyFrom_33 rfl ?_
  refine gf_RX5_18_X5 C ce_33 rfl dX5_copyFrom_34 ?_
  refine g_iconst C 0 dX5_copyFrom_37 (by decide) ?_
  refine g_iconst C 4 dX5_copyFrom_38 (by decide) ?_
  obtain ⟨g3, eg3⟩ : ∃ g : Sg, g = va_up g2 36 (va_cpy (g2 4) (g2 36) (0 : Int32).toNatClampNeg (0 : Int32).toNatClampNeg (4 : Int32).toNatClampNeg) := ⟨_, rfl⟩
  have h := h g3 eg3
  refine g_copy C (by omega) tb_597 tb_371 tb_370 tb_13 0 ce_4 ce_36 rfl (by decide) (by decide) (by decide) (by decide) (by decide) (Nat.le_of_ble_eq_true rfl) (g := g3) (by rw [eg3]; exact cs_36) dX5_copyFrom_39 ?_
  refine g_aload_n C 1 dX5_copyFrom_42 rfl ?_
  refine gf_RX5_21_X5 C ce_1 rfl dX5_copyFrom_43 ?_
  refine g_iconst C 0 dX5_copyFrom_46 (by decide) ?_
  refine g_aload_n C 0 dX5_copyFrom_47 rfl ?_
  refine gf_RX5_21_X5 C ce_33 rfl dX5_copyFrom_48 ?_
  refine g_iconst C 0 dX5_copyFrom_51 (by decide) ?_
  refine g_iconst C 5 dX5_copyFrom_52 (by decide) ?_
  obtain ⟨g4, eg4⟩ : ∃ g : Sg, g = va_up g3 37 (va_cpy (g3 5) (g3 37) (0 : Int32).toNatClampNeg (0 : Int32).toNatClampNeg (5 : Int32).toNatClampNeg) := ⟨_, rfl⟩
  have h := h g4 eg4
  refine g_copy C (by omega) tb_597 tb_371 tb_370 tb_13 0 ce_5 ce_37 rfl (by decide) (by decide) (by decide) (by decide) (by decide) (Nat.le_of_ble_eq_true rfl) (g := g4) (by rw [eg4]; exact cs_37) dX5_copyFrom_53 ?_
  refine g_aload_n C 1 dX5_copyFrom_56 rfl ?_
  refine gf_RX5_24_X5 C ce_1 rfl dX5_copyFrom_57 ?_
  refine g_iconst C 0 dX5_copyFrom_60 (by decide) ?_
  refine g_aload_n C 0 dX5_copyFrom_61 rfl ?_
  refine gf_RX5_24_X5 C ce_33 rfl dX5_copyFrom_62 ?_
  refine g_iconst C 0 dX5_copyFrom_65 (by decide) ?_
  refine g_iconst C 5 dX5_copyFrom_66 (by decide) ?_
  obtain ⟨g5, eg5⟩ : ∃ g : Sg, g = va_up g4 38 (va_cpy (g4 6) (g4 38) (0 : Int32).toNatClampNeg (0 : Int32).toNatClampNeg (5 : Int32).toNatClampNeg) := ⟨_, rfl⟩
  have h := h g5 eg5
  refine g_copy C (by omega) tb_597 tb_371 tb_370 tb_13 0 ce_6 ce_38 rfl (by decide) (by decide) (by decide) (by decide) (by decide) (Nat.le_of_ble_eq_true rfl) (g := g5) (by rw [eg5]; exact cs_38) dX5_copyFrom_67 ?_
  exact g_vret C hQ dX5_copyFrom_70 h
/-! X9_image_0: rank 2 -/
def M_X9_image_0 (f : Sg) (x1 : Int32) (Q : Int32 → Sg → Prop) : Prop :=
  M_X9_isImage f x1 (fun r2 g1 => (r2 = 0 → Q (-2) g1) ∧ (¬ r2 = 0 → (x1 = 0 → M_X5_copyFrom_27_1 g1 (fun g5 => ∀ g7 : Sg, g7 = va_up g5 0 (upd (g5 0) 10 ((g5 0 10) ||| ((1 : Int32) <<< (x1 &&& 31)))) → Q 1 g7)) ∧ (¬ x1 = 0 → M_X5_copyFrom_33_1 g1 (fun g8 => ∀ g10 : Sg, g10 = va_up g8 0 (upd (g8 0) 10 ((g8 0 10) ||| ((1 : Int32) <<< (x1 &&& 31)))) → Q 1 g10))))
set_option maxHeartbeats 4000000 in
theorem c_X9_image_0 (l : Launch) (D : va_G) (a : Nat → Nat) (cI : ClassId) {f : Sg} {x1 : Int32} {Q : Int32 → Sg → Prop} (h : M_X9_image_0 f x1 Q) : MI l D [(cI, .int)] (cw a cI) yX9_image cX9_image 2 (some .int) (2) [.ref (a 0), .int x1] f Q := by
  refine mkI (cw_fix a cI) (by decide +kernel) (Nat.le_of_ble_eq_true rfl) (fun o C hQ => ?_)
  show Go o D (cw a cI) 0 [(0, .ref (a 0)), (1, .int x1)] [] f
  unfold M_X9_image_0 at h
  refine g_iload_n C 1 dX9_image_0 rfl ?_
  refine g_callSi C (As := [.int x1]) (st := []) (fun l => c_X9_isImage l D a cI h) cl_RX9_191 (by omega) rfl (Nat.le_of_ble_eq_true rfl) dX9_image_1 (fun r2 g1 h => ?_)
  refine g_if_ne C 10 dX9_image_4 (by decide) (fun c3 => ?_) (fun c3 => ?_)
  · have h := h.2 c3
    refine g_aload_n C 0 dX9_image_10 rfl ?_
    refine g_iload_n C 1 dX9_image_11 rfl ?_
    refine g_imageOf C (st := []) (by omega) rfl (Nat.le_of_ble_eq_true rfl) dX9_image_12 (fun c4 => ?_) (fun c4 => ?_)
    · have h := h.1 c4
      refine g_aload_n C 0 dX9_image_15 rfl ?_
      refine gf_RX9_10_X9 C ce_0 rfl dX9_image_16 ?_
      refine g_callVv C (As := [.ref (a 1)]) (st := []) (fun l => c_X5_copyFrom_27_1 l D a cI h) cl_RX9_198_X5 rfl ce_27 (by omega) rfl (Nat.le_of_ble_eq_true rfl) dX9_image_19 (fun g5 h => ?_)
      refine g_aload_n C 0 dX9_image_22 rfl ?_
      refine g_dup C dX9_image_23 rfl ?_
      refine gf_RX9_79_X9 C ce_0 rfl dX9_image_24 ?_
      refine g_iconst C 1 dX9_image_27 (by decide) ?_
      refine g_iload_n C 1 dX9_image_28 rfl ?_
      refine g_ishl C dX9_image_29 ?_
      refine g_ior C dX9_image_30 ?_
      obtain ⟨g7, eg7⟩ : ∃ g : Sg, g = va_up g5 0 (upd (g5 0) 10 ((g5 0 10) ||| ((1 : Int32) <<< (x1 &&& 31)))) := ⟨_, rfl⟩
      have h := h g7 eg7
      refine gp_RX9_79_X9 C rfl rfl ce_0 (Nat.le_of_ble_eq_true rfl) (g := g7) (by rw [eg7]; exact cs_0_10) dX9_image_31 ?_
      refine g_iconst C 1 dX9_image_34 (by decide) ?_
      exact g_iret C hQ dX9_image_35 h
    · have h := h.2 c4
      refine g_aload_n C 0 dX9_image_15 rfl ?_
      refine gf_RX9_10_X9 C ce_0 rfl dX9_image_16 ?_
      refine g_callVv C (As := [.ref (a 1)]) (st := []) (fun l => c_X5_copyFrom_33_1 l D a cI h) cl_RX9_198_X5 rfl ce_33 (by omega) rfl (Nat.le_of_ble_eq_true rfl) dX9_image_19 (fun g8 h => ?_)
      refine g_aload_n C 0 dX9_image_22 rfl ?_
      refine g_dup C dX9_image_23 rfl ?_
      refine gf_RX9_79_X9 C ce_0 rfl dX9_image_24 ?_
      refine g_iconst C 1 dX9_image_27 (by decide) ?_
      refine g_iload_n C 1 dX9_image_28 rfl ?_
      refine g_ishl C dX9_image_29 ?_
      refine g_ior C dX9_image_30 ?_
      obtain ⟨g10, eg10⟩ : ∃ g : Sg, g = va_up g8 0 (upd (g8 0) 10 ((g8 0 10) ||| ((1 : Int32) <<< (x1 &&& 31)))) := ⟨_, rfl⟩
      have h := h g10 eg10
      refine gp_RX9_79_X9 C rfl rfl ce_0 (Nat.le_of_ble_eq_true rfl) (g := g10) (by rw [eg10]; exact cs_0_10) dX9_image_31 ?_
      refine g_iconst C 1 dX9_image_34 (by decide) ?_
      exact g_iret C hQ dX9_image_35 h
  · have h := h.1 c3
    refine g_bipush C (-2) dX9_image_7 (by decide) ?_
    exact g_iret C hQ dX9_image_9 h
/-! X5_copyFrom_1_27: rank 1 -/
def M_X5_copyFrom_1_27 (f : Sg) (Q : Sg → Prop) : Prop :=
  ∀ g1 : Sg, g1 = va_up f 2 (va_cpy (f 28) (f 2) (0 : Int32).toNatClampNeg (0 : Int32).toNatClampNeg (4 : Int32).toNatClampNeg) → ∀ g2 : Sg, g2 = va_up g1 3 (va_cpy (g1 29) (g1 3) (0 : Int32).toNatClampNeg (0 : Int32).toNatClampNeg (4 : Int32).toNatClampNeg) → ∀ g3 : Sg, g3 = va_up g2 4 (va_cpy (g2 30) (g2 4) (0 : Int32).toNatClampNeg (0 : Int32).toNatClampNeg (4 : Int32).toNatClampNeg) → ∀ g4 : Sg, g4 = va_up g3 5 (va_cpy (g3 31) (g3 5) (0 : Int32).toNatClampNeg (0 : Int32).toNatClampNeg (5 : Int32).toNatClampNeg) → ∀ g5 : Sg, g5 = va_up g4 6 (va_cpy (g4 32) (g4 6) (0 : Int32).toNatClampNeg (0 : Int32).toNatClampNeg (5 : Int32).toNatClampNeg) → Q g5
set_option maxHeartbeats 4000000 in
theorem c_X5_copyFrom_1_27 (l : Launch) (D : va_G) (a : Nat → Nat) (cI : ClassId) {f : Sg} {Q : Sg → Prop} (h : M_X5_copyFrom_1_27 f Q) : MV l D [(cI, .int)] (cw a cI) yX5_copyFrom cX5_copyFrom 2 (1) [.ref (a 1), .ref (a 27)] f Q := by
  refine mkV (cw_fix a cI) (by decide +kernel) (Nat.le_of_ble_eq_true rfl) (fun o C hQ => ?_)
  show Go o D (cw a cI) 0 [(0, .ref (a 1)), (1, .ref (a 27))] [] f
  unfold M_X5_copyFrom_1_27 at h
  refine g_aload_n C 1 dX5_copyFrom_0 rfl ?_
  refine gf_RX5_9_X5 C ce_27 rfl dX5_copyFrom_1 ?_
  refine g_iconst C 0 dX5_copyFrom_4 (by decide) ?_
  refine g_aload_n C 0 dX5_copyFrom_5 rfl ?_
  refine gf_RX5_9_X5 C ce_1 rfl dX5_copyFrom_6 ?_
  refine g_iconst C 0 dX5_copyFrom_9 (by decide) ?_
  refine g_iconst C 4 dX5_copyFrom_10 (by decide) ?_
  obtain ⟨g1, eg1⟩ : ∃ g : Sg, g = va_up f 2 (va_cpy (f 28) (f 2) (0 : Int32).toNatClampNeg (0 : Int32).toNatClampNeg (4 : Int32).toNatClampNeg) := ⟨_, rfl⟩
  have h := h g1 eg1
  refine g_copy C (by omega) tb_597 tb_371 tb_370 tb_13 0 ce_28 ce_2 rfl (by decide) (by decide) (by decide) (by decide) (by decide) (Nat.le_of_ble_eq_true rfl) (g := g1) (by rw [eg1]; exact cs_2) dX5_copyFrom_11 ?_
  refine g_aload_n C 1 dX5_copyFrom_14 rfl ?_
  refine gf_RX5_15_X5 C ce_27 rfl dX5_copyFrom_15 ?_
  refine g_iconst C 0 dX5_copyFrom_18 (by decide) ?_
  refine g_aload_n C 0 dX5_copyFrom_19 rfl ?_
  refine gf_RX5_15_X5 C ce_1 rfl dX5_copyFrom_20 ?_
  refine g_iconst C 0 dX5_copyFrom_23 (by decide) ?_
  refine g_iconst C 4 dX5_copyFrom_24 (by decide) ?_
  obtain ⟨g2, eg2⟩ : ∃ g : Sg, g = va_up g1 3 (va_cpy (g1 29) (g1 3) (0 : Int32).toNatClampNeg (0 : Int32).toNatClampNeg (4 : Int32).toNatClampNeg) := ⟨_, rfl⟩
  have h := h g2 eg2
  refine g_copy C (by omega) tb_597 tb_371 tb_370 tb_13 0 ce_29 ce_3 rfl (by decide) (by decide) (by decide) (by decide) (by decide) (Nat.le_of_ble_eq_true rfl) (g := g2) (by rw [eg2]; exact cs_3) dX5_copyFrom_25 ?_
  refine g_aload_n C 1 dX5_copyFrom_28 rfl ?_
  refine gf_RX5_18_X5 C ce_27 rfl dX5_copyFrom_29 ?_
  refine g_iconst C 0 dX5_copyFrom_32 (by decide) ?_
  refine g_aload_n C 0 dX5_copyFrom_33 rfl ?_
  refine gf_RX5_18_X5 C ce_1 rfl dX5_copyFrom_34 ?_
  refine g_iconst C 0 dX5_copyFrom_37 (by decide) ?_
  refine g_iconst C 4 dX5_copyFrom_38 (by decide) ?_
  obtain ⟨g3, eg3⟩ : ∃ g : Sg, g = va_up g2 4 (va_cpy (g2 30) (g2 4) (0 : Int32).toNatClampNeg (0 : Int32).toNatClampNeg (4 : Int32).toNatClampNeg) := ⟨_, rfl⟩
  have h := h g3 eg3
  refine g_copy C (by omega) tb_597 tb_371 tb_370 tb_13 0 ce_30 ce_4 rfl (by decide) (by decide) (by decide) (by decide) (by decide) (Nat.le_of_ble_eq_true rfl) (g := g3) (by rw [eg3]; exact cs_4) dX5_copyFrom_39 ?_
  refine g_aload_n C 1 dX5_copyFrom_42 rfl ?_
  refine gf_RX5_21_X5 C ce_27 rfl dX5_copyFrom_43 ?_
  refine g_iconst C 0 dX5_copyFrom_46 (by decide) ?_
  refine g_aload_n C 0 dX5_copyFrom_47 rfl ?_
  refine gf_RX5_21_X5 C ce_1 rfl dX5_copyFrom_48 ?_
  refine g_iconst C 0 dX5_copyFrom_51 (by decide) ?_
  refine g_iconst C 5 dX5_copyFrom_52 (by decide) ?_
  obtain ⟨g4, eg4⟩ : ∃ g : Sg, g = va_up g3 5 (va_cpy (g3 31) (g3 5) (0 : Int32).toNatClampNeg (0 : Int32).toNatClampNeg (5 : Int32).toNatClampNeg) := ⟨_, rfl⟩
  have h := h g4 eg4
  refine g_copy C (by omega) tb_597 tb_371 tb_370 tb_13 0 ce_31 ce_5 rfl (by decide) (by decide) (by decide) (by decide) (by decide) (Nat.le_of_ble_eq_true rfl) (g := g4) (by rw [eg4]; exact cs_5) dX5_copyFrom_53 ?_
  refine g_aload_n C 1 dX5_copyFrom_56 rfl ?_
  refine gf_RX5_24_X5 C ce_27 rfl dX5_copyFrom_57 ?_
  refine g_iconst C 0 dX5_copyFrom_60 (by decide) ?_
  refine g_aload_n C 0 dX5_copyFrom_61 rfl ?_
  refine gf_RX5_24_X5 C ce_1 rfl dX5_copyFrom_62 ?_
  refine g_iconst C 0 dX5_copyFrom_65 (by decide) ?_
  refine g_iconst C 5 dX5_copyFrom_66 (by decide) ?_
  obtain ⟨g5, eg5⟩ : ∃ g : Sg, g = va_up g4 6 (va_cpy (g4 32) (g4 6) (0 : Int32).toNatClampNeg (0 : Int32).toNatClampNeg (5 : Int32).toNatClampNeg) := ⟨_, rfl⟩
  have h := h g5 eg5
  refine g_copy C (by omega) tb_597 tb_371 tb_370 tb_13 0 ce_32 ce_6 rfl (by decide) (by decide) (by decide) (by decide) (by decide) (Nat.le_of_ble_eq_true rfl) (g := g5) (by rw [eg5]; exact cs_6) dX5_copyFrom_67 ?_
  exact g_vret C hQ dX5_copyFrom_70 h
/-! X5_copyFrom_1_33: rank 1 -/
def M_X5_copyFrom_1_33 (f : Sg) (Q : Sg → Prop) : Prop :=
  ∀ g1 : Sg, g1 = va_up f 2 (va_cpy (f 34) (f 2) (0 : Int32).toNatClampNeg (0 : Int32).toNatClampNeg (4 : Int32).toNatClampNeg) → ∀ g2 : Sg, g2 = va_up g1 3 (va_cpy (g1 35) (g1 3) (0 : Int32).toNatClampNeg (0 : Int32).toNatClampNeg (4 : Int32).toNatClampNeg) → ∀ g3 : Sg, g3 = va_up g2 4 (va_cpy (g2 36) (g2 4) (0 : Int32).toNatClampNeg (0 : Int32).toNatClampNeg (4 : Int32).toNatClampNeg) → ∀ g4 : Sg, g4 = va_up g3 5 (va_cpy (g3 37) (g3 5) (0 : Int32).toNatClampNeg (0 : Int32).toNatClampNeg (5 : Int32).toNatClampNeg) → ∀ g5 : Sg, g5 = va_up g4 6 (va_cpy (g4 38) (g4 6) (0 : Int32).toNatClampNeg (0 : Int32).toNatClampNeg (5 : Int32).toNatClampNeg) → Q g5
set_option maxHeartbeats 4000000 in
theorem c_X5_copyFrom_1_33 (l : Launch) (D : va_G) (a : Nat → Nat) (cI : ClassId) {f : Sg} {Q : Sg → Prop} (h : M_X5_copyFrom_1_33 f Q) : MV l D [(cI, .int)] (cw a cI) yX5_copyFrom cX5_copyFrom 2 (1) [.ref (a 1), .ref (a 33)] f Q := by
  refine mkV (cw_fix a cI) (by decide +kernel) (Nat.le_of_ble_eq_true rfl) (fun o C hQ => ?_)
  show Go o D (cw a cI) 0 [(0, .ref (a 1)), (1, .ref (a 33))] [] f
  unfold M_X5_copyFrom_1_33 at h
  refine g_aload_n C 1 dX5_copyFrom_0 rfl ?_
  refine gf_RX5_9_X5 C ce_33 rfl dX5_copyFrom_1 ?_
  refine g_iconst C 0 dX5_copyFrom_4 (by decide) ?_
  refine g_aload_n C 0 dX5_copyFrom_5 rfl ?_
  refine gf_RX5_9_X5 C ce_1 rfl dX5_copyFrom_6 ?_
  refine g_iconst C 0 dX5_copyFrom_9 (by decide) ?_
  refine g_iconst C 4 dX5_copyFrom_10 (by decide) ?_
  obtain ⟨g1, eg1⟩ : ∃ g : Sg, g = va_up f 2 (va_cpy (f 34) (f 2) (0 : Int32).toNatClampNeg (0 : Int32).toNatClampNeg (4 : Int32).toNatClampNeg) := ⟨_, rfl⟩
  have h := h g1 eg1
  refine g_copy C (by omega) tb_597 tb_371 tb_370 tb_13 0 ce_34 ce_2 rfl (by decide) (by decide) (by decide) (by decide) (by decide) (Nat.le_of_ble_eq_true rfl) (g := g1) (by rw [eg1]; exact cs_2) dX5_copyFrom_11 ?_
  refine g_aload_n C 1 dX5_copyFrom_14 rfl ?_
  refine gf_RX5_15_X5 C ce_33 rfl dX5_copyFrom_15 ?_
  refine g_iconst C 0 dX5_copyFrom_18 (by decide) ?_
  refine g_aload_n C 0 dX5_copyFrom_19 rfl ?_
  refine gf_RX5_15_X5 C ce_1 rfl dX5_copyFrom_20 ?_
  refine g_iconst C 0 dX5_copyFrom_23 (by decide) ?_
  refine g_iconst C 4 dX5_copyFrom_24 (by decide) ?_
  obtain ⟨g2, eg2⟩ : ∃ g : Sg, g = va_up g1 3 (va_cpy (g1 35) (g1 3) (0 : Int32).toNatClampNeg (0 : Int32).toNatClampNeg (4 : Int32).toNatClampNeg) := ⟨_, rfl⟩
  have h := h g2 eg2
  refine g_copy C (by omega) tb_597 tb_371 tb_370 tb_13 0 ce_35 ce_3 rfl (by decide) (by decide) (by decide) (by decide) (by decide) (Nat.le_of_ble_eq_true rfl) (g := g2) (by rw [eg2]; exact cs_3) dX5_copyFrom_25 ?_
  refine g_aload_n C 1 dX5_copyFrom_28 rfl ?_
  refine gf_RX5_18_X5 C ce_33 rfl dX5_copyFrom_29 ?_
  refine g_iconst C 0 dX5_copyFrom_32 (by decide) ?_
  refine g_aload_n C 0 dX5_copyFrom_33 rfl ?_
  refine gf_RX5_18_X5 C ce_1 rfl dX5_copyFrom_34 ?_
  refine g_iconst C 0 dX5_copyFrom_37 (by decide) ?_
  refine g_iconst C 4 dX5_copyFrom_38 (by decide) ?_
  obtain ⟨g3, eg3⟩ : ∃ g : Sg, g = va_up g2 4 (va_cpy (g2 36) (g2 4) (0 : Int32).toNatClampNeg (0 : Int32).toNatClampNeg (4 : Int32).toNatClampNeg) := ⟨_, rfl⟩
  have h := h g3 eg3
  refine g_copy C (by omega) tb_597 tb_371 tb_370 tb_13 0 ce_36 ce_4 rfl (by decide) (by decide) (by decide) (by decide) (by decide) (Nat.le_of_ble_eq_true rfl) (g := g3) (by rw [eg3]; exact cs_4) dX5_copyFrom_39 ?_
  refine g_aload_n C 1 dX5_copyFrom_42 rfl ?_
  refine gf_RX5_21_X5 C ce_33 rfl dX5_copyFrom_43 ?_
  refine g_iconst C 0 dX5_copyFrom_46 (by decide) ?_
  refine g_aload_n C 0 dX5_copyFrom_47 rfl ?_
  refine gf_RX5_21_X5 C ce_1 rfl dX5_copyFrom_48 ?_
  refine g_iconst C 0 dX5_copyFrom_51 (by decide) ?_
  refine g_iconst C 5 dX5_copyFrom_52 (by decide) ?_
  obtain ⟨g4, eg4⟩ : ∃ g : Sg, g = va_up g3 5 (va_cpy (g3 37) (g3 5) (0 : Int32).toNatClampNeg (0 : Int32).toNatClampNeg (5 : Int32).toNatClampNeg) := ⟨_, rfl⟩
  have h := h g4 eg4
  refine g_copy C (by omega) tb_597 tb_371 tb_370 tb_13 0 ce_37 ce_5 rfl (by decide) (by decide) (by decide) (by decide) (by decide) (Nat.le_of_ble_eq_true rfl) (g := g4) (by rw [eg4]; exact cs_5) dX5_copyFrom_53 ?_
  refine g_aload_n C 1 dX5_copyFrom_56 rfl ?_
  refine gf_RX5_24_X5 C ce_33 rfl dX5_copyFrom_57 ?_
  refine g_iconst C 0 dX5_copyFrom_60 (by decide) ?_
  refine g_aload_n C 0 dX5_copyFrom_61 rfl ?_
  refine gf_RX5_24_X5 C ce_1 rfl dX5_copyFrom_62 ?_
  refine g_iconst C 0 dX5_copyFrom_65 (by decide) ?_
  refine g_iconst C 5 dX5_copyFrom_66 (by decide) ?_
  obtain ⟨g5, eg5⟩ : ∃ g : Sg, g = va_up g4 6 (va_cpy (g4 38) (g4 6) (0 : Int32).toNatClampNeg (0 : Int32).toNatClampNeg (5 : Int32).toNatClampNeg) := ⟨_, rfl⟩
  have h := h g5 eg5
  refine g_copy C (by omega) tb_597 tb_371 tb_370 tb_13 0 ce_38 ce_6 rfl (by decide) (by decide) (by decide) (by decide) (by decide) (Nat.le_of_ble_eq_true rfl) (g := g5) (by rw [eg5]; exact cs_6) dX5_copyFrom_67 ?_
  exact g_vret C hQ dX5_copyFrom_70 h
/-! X9_restore_0: rank 2 -/
def M_X9_restore_0 (f : Sg) (x1 : Int32) (Q : Int32 → Sg → Prop) : Prop :=
  M_X9_isImage f x1 (fun r2 g1 => (r2 = 0 → Q (-2) g1) ∧ (¬ r2 = 0 → ((((g1 0 10) >>> (x1 &&& 31)) &&& 1) = 0 → Q (-3) g1) ∧ (¬ (((g1 0 10) >>> (x1 &&& 31)) &&& 1) = 0 → (x1 = 0 → M_X5_copyFrom_1_27 g1 (fun g6 => M_X9_forgetOrders_0 g6 (fun g8 => Q 1 g8))) ∧ (¬ x1 = 0 → M_X5_copyFrom_1_33 g1 (fun g10 => M_X9_forgetOrders_0 g10 (fun g12 => Q 1 g12))))))
set_option maxHeartbeats 4000000 in
theorem c_X9_restore_0 (l : Launch) (D : va_G) (a : Nat → Nat) (cI : ClassId) {f : Sg} {x1 : Int32} {Q : Int32 → Sg → Prop} (h : M_X9_restore_0 f x1 Q) : MI l D [(cI, .int)] (cw a cI) yX9_restore cX9_restore 2 (some .int) (2) [.ref (a 0), .int x1] f Q := by
  refine mkI (cw_fix a cI) (by decide +kernel) (Nat.le_of_ble_eq_true rfl) (fun o C hQ => ?_)
  show Go o D (cw a cI) 0 [(0, .ref (a 0)), (1, .int x1)] [] f
  unfold M_X9_restore_0 at h
  refine g_iload_n C 1 dX9_restore_0 rfl ?_
  refine g_callSi C (As := [.int x1]) (st := []) (fun l => c_X9_isImage l D a cI h) cl_RX9_191 (by omega) rfl (Nat.le_of_ble_eq_true rfl) dX9_restore_1 (fun r2 g1 h => ?_)
  refine g_if_ne C 10 dX9_restore_4 (by decide) (fun c3 => ?_) (fun c3 => ?_)
  · have h := h.2 c3
    refine g_aload_n C 0 dX9_restore_10 rfl ?_
    refine gf_RX9_79_X9 C ce_0 rfl dX9_restore_11 ?_
    refine g_iload_n C 1 dX9_restore_14 rfl ?_
    refine g_ishr C dX9_restore_15 ?_
    refine g_iconst C 1 dX9_restore_16 (by decide) ?_
    refine g_iand C dX9_restore_17 ?_
    refine g_if_ne C 24 dX9_restore_18 (by decide) (fun c4 => ?_) (fun c4 => ?_)
    · have h := h.2 c4
      refine g_aload_n C 0 dX9_restore_24 rfl ?_
      refine gf_RX9_10_X9 C ce_0 rfl dX9_restore_25 ?_
      refine g_aload_n C 0 dX9_restore_28 rfl ?_
      refine g_iload_n C 1 dX9_restore_29 rfl ?_
      refine g_imageOf C (st := [.ref (a 1)]) (by omega) rfl (Nat.le_of_ble_eq_true rfl) dX9_restore_30 (fun c5 => ?_) (fun c5 => ?_)
      · have h := h.1 c5
        refine g_callVv C (As := [.ref (a 27)]) (st := []) (fun l => c_X5_copyFrom_1_27 l D a cI h) cl_RX9_198_X5 rfl ce_1 (by omega) rfl (Nat.le_of_ble_eq_true rfl) dX9_restore_33 (fun g6 h => ?_)
        refine g_aload_n C 0 dX9_restore_36 rfl ?_
        refine g_callVv C (As := []) (st := []) (fun l => c_X9_forgetOrders_0 l D a cI h) cl_RX9_98_X9 rfl ce_0 (by omega) rfl (Nat.le_of_ble_eq_true rfl) dX9_restore_37 (fun g8 h => ?_)
        refine g_iconst C 1 dX9_restore_40 (by decide) ?_
        exact g_iret C hQ dX9_restore_41 h
      · have h := h.2 c5
        refine g_callVv C (As := [.ref (a 33)]) (st := []) (fun l => c_X5_copyFrom_1_33 l D a cI h) cl_RX9_198_X5 rfl ce_1 (by omega) rfl (Nat.le_of_ble_eq_true rfl) dX9_restore_33 (fun g10 h => ?_)
        refine g_aload_n C 0 dX9_restore_36 rfl ?_
        refine g_callVv C (As := []) (st := []) (fun l => c_X9_forgetOrders_0 l D a cI h) cl_RX9_98_X9 rfl ce_0 (by omega) rfl (Nat.le_of_ble_eq_true rfl) dX9_restore_37 (fun g12 h => ?_)
        refine g_iconst C 1 dX9_restore_40 (by decide) ?_
        exact g_iret C hQ dX9_restore_41 h
    · have h := h.1 c4
      refine g_bipush C (-3) dX9_restore_21 (by decide) ?_
      exact g_iret C hQ dX9_restore_23 h
  · have h := h.1 c3
    refine g_bipush C (-2) dX9_restore_7 (by decide) ?_
    exact g_iret C hQ dX9_restore_9 h
/-! X5_classesWithDemand_1: rank 0 -/
def J_X5_classesWithDemand_1_21 (Q : Int32 → Sg → Prop) (K4 : Sg → Int32 → Int32 → Prop) (f : Sg) (x1 : Int32) (x2 : Int32) : Prop :=
  K4 f x1 (x2 + 1)
def B_X5_classesWithDemand_1_4 (Q : Int32 → Sg → Prop) (K4 : Sg → Int32 → Int32 → Prop) (f : Sg) (x1 : Int32) (x2 : Int32) : Prop :=
  (5 ≤ x2 → Q x1 f) ∧ (¬ 5 ≤ x2 → vp_in x2 5 ∧ ((f 6 (x2 : Int32).toNatClampNeg) ≤ 0 → J_X5_classesWithDemand_1_21 Q K4 f x1 x2) ∧ (¬ (f 6 (x2 : Int32).toNatClampNeg) ≤ 0 → J_X5_classesWithDemand_1_21 Q K4 f (x1 + 1) x2))
def M_X5_classesWithDemand_1 (f : Sg) (Q : Int32 → Sg → Prop) : Prop :=
  ∃ n : Nat, itr2 (B_X5_classesWithDemand_1_4 Q) n f 0 0
set_option maxHeartbeats 4000000 in
theorem t_X5_classesWithDemand_1_21 {o : Om} {D : va_G} {a : Nat → Nat} {cI : ClassId} {Q : Int32 → Sg → Prop} {K4 : Sg → Int32 → Int32 → Prop} (C : Cx o D [(cI, .int)] (cw a cI) RX5 cX5_classesWithDemand (some .int) 0 3) (hQ : RetI o D (cw a cI) Q) (hK4 : ∀ (g : Sg) (x1 : Int32) (x2 : Int32), K4 g x1 x2 → Go o D (cw a cI) 4 [(0, .ref (a 1)), (1, .int x1), (2, .int x2)] [] g) {f : Sg} {x1 : Int32} {x2 : Int32} (h : J_X5_classesWithDemand_1_21 Q K4 f x1 x2) : Go o D (cw a cI) 21 [(0, .ref (a 1)), (1, .int x1), (2, .int x2)] [] f := by
  unfold J_X5_classesWithDemand_1_21 at h
  refine g_iinc (lv' := [(2, .int (x2 + 1)), (0, .ref (a 1)), (1, .int x1)]) C 2 dX5_classesWithDemand_21 rfl rfl (by decide) rfl ?_
  refine g_goto C 4 dX5_classesWithDemand_24 (by decide) ?_
  refine g_sub (lv' := [(0, .ref (a 1)), (1, .int x1), (2, .int (x2 + 1))]) [1, 2, 0] rfl ?_
  exact hK4 f x1 (x2 + 1) h
set_option maxHeartbeats 4000000 in
theorem t_X5_classesWithDemand_1_4 {o : Om} {D : va_G} {a : Nat → Nat} {cI : ClassId} {Q : Int32 → Sg → Prop} (C : Cx o D [(cI, .int)] (cw a cI) RX5 cX5_classesWithDemand (some .int) 0 3) (hQ : RetI o D (cw a cI) Q) : ∀ (n : Nat) (f : Sg) (x1 : Int32) (x2 : Int32), itr2 (B_X5_classesWithDemand_1_4 Q) n f x1 x2 → Go o D (cw a cI) 4 [(0, .ref (a 1)), (1, .int x1), (2, .int x2)] [] f := by
  intro n
  induction n with
  | zero => intro f x1 x2 h; exact h.elim
  | succ n ih =>
    intro f x1 x2 h
    have h : B_X5_classesWithDemand_1_4 Q (itr2 (B_X5_classesWithDemand_1_4 Q) n) f x1 x2 := h
    have hK4 := ih
    generalize itr2 (B_X5_classesWithDemand_1_4 Q) n = K4 at h hK4
    clear ih
    unfold B_X5_classesWithDemand_1_4 at h
    refine g_iload_n C 2 dX5_classesWithDemand_4 rfl ?_
    refine g_iconst C 5 dX5_classesWithDemand_5 (by decide) ?_
    refine g_icmp_ge C 27 dX5_classesWithDemand_6 (by decide) (fun c1 => ?_) (fun c1 => ?_)
    · have h := h.1 c1
      refine g_iload_n C 1 dX5_classesWithDemand_27 rfl ?_
      exact g_iret C hQ dX5_classesWithDemand_28 h
    · have h := h.2 c1
      refine g_aload_n C 0 dX5_classesWithDemand_9 rfl ?_
      refine gf_RX5_24_X5 C ce_1 rfl dX5_classesWithDemand_10 ?_
      refine g_iload_n C 2 dX5_classesWithDemand_13 rfl ?_
      obtain ⟨hi2, h⟩ := h
      refine g_iald C 0 ce_6 rfl hi2 dX5_classesWithDemand_14 ?_
      refine g_if_le C 21 dX5_classesWithDemand_15 (by decide) (fun c3 => ?_) (fun c3 => ?_)
      · have h := h.1 c3
        refine g_sub (lv' := [(0, .ref (a 1)), (1, .int x1), (2, .int x2)]) [0, 1, 2] rfl ?_
        exact t_X5_classesWithDemand_1_21 C hQ hK4 h
      · have h := h.2 c3
        refine g_iinc (lv' := [(1, .int (x1 + 1)), (0, .ref (a 1)), (2, .int x2)]) C 1 dX5_classesWithDemand_18 rfl rfl (by decide) rfl ?_
        refine g_sub (lv' := [(0, .ref (a 1)), (1, .int (x1 + 1)), (2, .int x2)]) [1, 0, 2] rfl ?_
        exact t_X5_classesWithDemand_1_21 C hQ hK4 h
set_option maxHeartbeats 4000000 in
theorem c_X5_classesWithDemand_1 (l : Launch) (D : va_G) (a : Nat → Nat) (cI : ClassId) {f : Sg} {Q : Int32 → Sg → Prop} (h : M_X5_classesWithDemand_1 f Q) : MI l D [(cI, .int)] (cw a cI) yX5_classesWithDemand cX5_classesWithDemand 3 (some .int) (0) [.ref (a 1)] f Q := by
  refine mkI (cw_fix a cI) (by decide +kernel) (Nat.le_of_ble_eq_true rfl) (fun o C hQ => ?_)
  show Go o D (cw a cI) 0 [(0, .ref (a 1))] [] f
  unfold M_X5_classesWithDemand_1 at h
  refine g_iconst C 0 dX5_classesWithDemand_0 (by decide) ?_
  refine g_istore_n (lv' := [(1, .int 0), (0, .ref (a 1))]) C dX5_classesWithDemand_1 (by decide) rfl ?_
  refine g_iconst C 0 dX5_classesWithDemand_2 (by decide) ?_
  refine g_istore_n (lv' := [(2, .int 0), (1, .int 0), (0, .ref (a 1))]) C dX5_classesWithDemand_3 (by decide) rfl ?_
  refine g_sub (lv' := [(0, .ref (a 1)), (1, .int 0), (2, .int 0)]) [2, 1, 0] rfl ?_
  obtain ⟨n, h⟩ := h
  exact t_X5_classesWithDemand_1_4 C hQ n f 0 0 h
/-! X9_padIsOrder_0: rank 4 -/
def M_X9_padIsOrder_0 (f : Sg) (Q : Int32 → Sg → Prop) : Prop :=
  M_X4_hasAny_7 f (fun r2 g1 => (r2 = 0 → M_X9_walkPad_0 g1 (fun r5 g4 => M_X6_isOrder_9 g4 (fun r7 g6 => narrow .boolean (.int r7) = .int r7 ∧ Q r7 g6))) ∧ (¬ r2 = 0 → Q 0 g1))
set_option maxHeartbeats 4000000 in
theorem c_X9_padIsOrder_0 (l : Launch) (D : va_G) (a : Nat → Nat) (cI : ClassId) {f : Sg} {Q : Int32 → Sg → Prop} (h : M_X9_padIsOrder_0 f Q) : MI l D [(cI, .int)] (cw a cI) yX9_padIsOrder cX9_padIsOrder 1 (some .boolean) (4) [.ref (a 0)] f Q := by
  refine mkI (cw_fix a cI) (by decide +kernel) (Nat.le_of_ble_eq_true rfl) (fun o C hQ => ?_)
  show Go o D (cw a cI) 0 [(0, .ref (a 0))] [] f
  unfold M_X9_padIsOrder_0 at h
  refine g_aload_n C 0 dX9_padIsOrder_0 rfl ?_
  refine gf_RX9_19_X9 C ce_0 rfl dX9_padIsOrder_1 ?_
  refine g_callVi C (As := []) (st := []) (fun l => c_X4_hasAny_7 l D a cI h) cl_RX9_172_X4 rfl ce_7 (by omega) rfl (Nat.le_of_ble_eq_true rfl) dX9_padIsOrder_4 (fun r2 g1 h => ?_)
  refine g_if_eq C 12 dX9_padIsOrder_7 (by decide) (fun c3 => ?_) (fun c3 => ?_)
  · have h := h.1 c3
    refine g_aload_n C 0 dX9_padIsOrder_12 rfl ?_
    refine g_callVi C (As := []) (st := []) (fun l => c_X9_walkPad_0 l D a cI h) cl_RX9_176_X9 rfl ce_0 (by omega) rfl (Nat.le_of_ble_eq_true rfl) dX9_padIsOrder_13 (fun r5 g4 h => ?_)
    refine g_pop C dX9_padIsOrder_16 rfl ?_
    refine g_aload_n C 0 dX9_padIsOrder_17 rfl ?_
    refine gf_RX9_28_X9 C ce_0 rfl dX9_padIsOrder_18 ?_
    refine g_callVi C (As := []) (st := []) (fun l => c_X6_isOrder_9 l D a cI h) cl_RX9_182_X6 rfl ce_9 (by omega) rfl (Nat.le_of_ble_eq_true rfl) dX9_padIsOrder_21 (fun r7 g6 h => ?_)
    exact g_zret C hQ h.1 dX9_padIsOrder_24 h.2
  · have h := h.2 c3
    refine g_iconst C 0 dX9_padIsOrder_10 (by decide) ?_
    exact g_zret C hQ rfl dX9_padIsOrder_11 h
/-! X9_count_0: rank 5 -/
def J_X9_count_0_72 (Q : Int32 → Sg → Prop) (f : Sg) (s0 : Int32) : Prop :=
  Q s0 f
def M_X9_count_0 (f : Sg) (x1 : Int32) (Q : Int32 → Sg → Prop) : Prop :=
  (x1 = 0 → M_X5_cars_1 f (fun r3 g2 => Q r3 g2)) ∧ (¬ x1 = 0 → (x1 = 1 → M_X5_classesWithDemand_1 f (fun r6 g5 => Q r6 g5)) ∧ (¬ x1 = 1 → (x1 = 2 → Q (f 7 1) f) ∧ (¬ x1 = 2 → (x1 = 3 → M_X9_padIsOrder_0 f (fun r10 g9 => (r10 = 0 → J_X9_count_0_72 Q g9 0) ∧ (¬ r10 = 0 → J_X9_count_0_72 Q g9 1))) ∧ (¬ x1 = 3 → (x1 = 4 → Q (f 0 10) f) ∧ (¬ x1 = 4 → Q (-2) f)))))
set_option maxHeartbeats 4000000 in
theorem t_X9_count_0_72 {o : Om} {D : va_G} {a : Nat → Nat} {cI : ClassId} {Q : Int32 → Sg → Prop} (C : Cx o D [(cI, .int)] (cw a cI) RX9 cX9_count (some .int) 5 2) (hQ : RetI o D (cw a cI) Q) {f : Sg} {s0 : Int32} (h : J_X9_count_0_72 Q f s0) : Go o D (cw a cI) 72 [] [.int s0] f := by
  unfold J_X9_count_0_72 at h
  exact g_iret C hQ dX9_count_72 h
set_option maxHeartbeats 4000000 in
theorem c_X9_count_0 (l : Launch) (D : va_G) (a : Nat → Nat) (cI : ClassId) {f : Sg} {x1 : Int32} {Q : Int32 → Sg → Prop} (h : M_X9_count_0 f x1 Q) : MI l D [(cI, .int)] (cw a cI) yX9_count cX9_count 2 (some .int) (5) [.ref (a 0), .int x1] f Q := by
  refine mkI (cw_fix a cI) (by decide +kernel) (Nat.le_of_ble_eq_true rfl) (fun o C hQ => ?_)
  show Go o D (cw a cI) 0 [(0, .ref (a 0)), (1, .int x1)] [] f
  unfold M_X9_count_0 at h
  refine g_iload_n C 1 dX9_count_0 rfl ?_
  by_cases e1 : x1 = 0
  · have h := h.1 e1
    refine g_tsIn C 36 dX9_count_1 (by rw [e1] <;> decide) (by rw [e1] <;> decide) (by rw [e1] <;> rfl) (by decide) ?_
    refine g_aload_n C 0 dX9_count_36 rfl ?_
    refine gf_RX9_10_X9 C ce_0 rfl dX9_count_37 ?_
    refine g_callVi C (As := []) (st := []) (fun l => c_X5_cars_1 l D a cI h) cl_RX9_107_X5 rfl ce_1 (by omega) rfl (Nat.le_of_ble_eq_true rfl) dX9_count_40 (fun r3 g2 h => ?_)
    exact g_iret C hQ dX9_count_43 h
  · have h := h.2 e1
    by_cases e4 : x1 = 1
    · have h := h.1 e4
      refine g_tsIn C 44 dX9_count_1 (by rw [e4] <;> decide) (by rw [e4] <;> decide) (by rw [e4] <;> rfl) (by decide) ?_
      refine g_aload_n C 0 dX9_count_44 rfl ?_
      refine gf_RX9_10_X9 C ce_0 rfl dX9_count_45 ?_
      refine g_callVi C (As := []) (st := []) (fun l => c_X5_classesWithDemand_1 l D a cI h) cl_RX9_201_X5 rfl ce_1 (by omega) rfl (Nat.le_of_ble_eq_true rfl) dX9_count_48 (fun r6 g5 h => ?_)
      exact g_iret C hQ dX9_count_51 h
    · have h := h.2 e4
      by_cases e7 : x1 = 2
      · have h := h.1 e7
        refine g_tsIn C 52 dX9_count_1 (by rw [e7] <;> decide) (by rw [e7] <;> decide) (by rw [e7] <;> rfl) (by decide) ?_
        refine g_aload_n C 0 dX9_count_52 rfl ?_
        refine gf_RX9_19_X9 C ce_0 rfl dX9_count_53 ?_
        refine gf_RX9_163_X4 C ce_7 rfl dX9_count_56 ?_
        exact g_iret C hQ dX9_count_59 h
      · have h := h.2 e7
        by_cases e8 : x1 = 3
        · have h := h.1 e8
          refine g_tsIn C 60 dX9_count_1 (by rw [e8] <;> decide) (by rw [e8] <;> decide) (by rw [e8] <;> rfl) (by decide) ?_
          refine g_aload_n C 0 dX9_count_60 rfl ?_
          refine g_callVi C (As := []) (st := []) (fun l => c_X9_padIsOrder_0 l D a cI h) cl_RX9_204_X9 rfl ce_0 (by omega) rfl (Nat.le_of_ble_eq_true rfl) dX9_count_61 (fun r10 g9 h => ?_)
          refine g_if_eq C 71 dX9_count_64 (by decide) (fun c11 => ?_) (fun c11 => ?_)
          · have h := h.1 c11
            refine g_iconst C 0 dX9_count_71 (by decide) ?_
            refine g_sub (lv' := []) [] rfl ?_
            exact t_X9_count_0_72 C hQ h
          · have h := h.2 c11
            refine g_iconst C 1 dX9_count_67 (by decide) ?_
            refine g_goto C 72 dX9_count_68 (by decide) ?_
            refine g_sub (lv' := []) [] rfl ?_
            exact t_X9_count_0_72 C hQ h
        · have h := h.2 e8
          by_cases e12 : x1 = 4
          · have h := h.1 e12
            refine g_tsIn C 73 dX9_count_1 (by rw [e12] <;> decide) (by rw [e12] <;> decide) (by rw [e12] <;> rfl) (by decide) ?_
            refine g_aload_n C 0 dX9_count_73 rfl ?_
            refine gf_RX9_79_X9 C ce_0 rfl dX9_count_74 ?_
            exact g_iret C hQ dX9_count_77 h
          · have h := h.2 e12
            have qe1 : ¬ (x1 : Int32).toInt = 0 := i32_ne_toInt (c := 0) (by decide) e1
            have qe4 : ¬ (x1 : Int32).toInt = 1 := i32_ne_toInt (c := 1) (by decide) e4
            have qe7 : ¬ (x1 : Int32).toInt = 2 := i32_ne_toInt (c := 2) (by decide) e7
            have qe8 : ¬ (x1 : Int32).toInt = 3 := i32_ne_toInt (c := 3) (by decide) e8
            have qe12 : ¬ (x1 : Int32).toInt = 4 := i32_ne_toInt (c := 4) (by decide) e12
            refine g_tsOut C 78 dX9_count_1 (by omega) (by decide) ?_
            refine g_bipush C (-2) dX9_count_78 (by decide) ?_
            exact g_iret C hQ dX9_count_80 h
