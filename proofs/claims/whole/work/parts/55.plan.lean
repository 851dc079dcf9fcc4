/-! a plan: its world, its constructor -/
def pw (a : Nat → Nat) (cI : ClassId) (f : Sg) : va_W := [(a 1, .inr (5, [.ref (a 2), .ref (a 3), .ref (a 4), .ref (a 5), .ref (a 6)])), (a 2, .inl (cI, 4, .inl (f 2))), (a 3, .inl (cI, 4, .inl (f 3))), (a 4, .inl (cI, 4, .inl (f 4))), (a 5, .inl (cI, 5, .inl (f 5))), (a 6, .inl (cI, 5, .inl (f 6)))]
theorem pw_fix (a : Nat → Nat) (cI : ClassId) : Fix (pw a cI) := fun _ _ => rfl
theorem qe_1 {a : Nat → Nat} {cI : ClassId} {f : Sg} : (pw a cI f)[0]? = some (a 1, .inr (5, [.ref (a 2), .ref (a 3), .ref (a 4), .ref (a 5), .ref (a 6)])) := rfl
theorem qe_2 {a : Nat → Nat} {cI : ClassId} {f : Sg} : (pw a cI f)[1]? = some (a 2, .inl (cI, 4, .inl (f 2))) := rfl
theorem qs_2 {a : Nat → Nat} {cI : ClassId} {f : Sg} {h : Nat → Int32} : (pw a cI f).set 1 (a 2, .inl (cI, 4, .inl h)) = pw a cI (va_up f 2 h) := rfl
theorem qe_3 {a : Nat → Nat} {cI : ClassId} {f : Sg} : (pw a cI f)[2]? = some (a 3, .inl (cI, 4, .inl (f 3))) := rfl
theorem qs_3 {a : Nat → Nat} {cI : ClassId} {f : Sg} {h : Nat → Int32} : (pw a cI f).set 2 (a 3, .inl (cI, 4, .inl h)) = pw a cI (va_up f 3 h) := rfl
theorem qe_4 {a : Nat → Nat} {cI : ClassId} {f : Sg} : (pw a cI f)[3]? = some (a 4, .inl (cI, 4, .inl (f 4))) := rfl
theorem qs_4 {a : Nat → Nat} {cI : ClassId} {f : Sg} {h : Nat → Int32} : (pw a cI f).set 3 (a 4, .inl (cI, 4, .inl h)) = pw a cI (va_up f 4 h) := rfl
set_option maxHeartbeats 4000000 in
theorem cp_setOption (l : Launch) (D : va_G) (a : Nat → Nat) (cI : ClassId) {f : Sg} {x1 : Int32} {x2 : Int32} {x3 : Int32} {Q : Sg → Prop} (h : M_X5_setOption_1 f x1 x2 x3 Q) : MV l D [(cI, .int)] (pw a cI) yX5_setOption cX5_setOption 4 (0) [.ref (a 1), .int x1, .int x2, .int x3] f Q := by
  refine mkV (pw_fix a cI) (by decide +kernel) (Nat.le_of_ble_eq_true rfl) (fun o C hQ => ?_)
  show Go o D (pw a cI) 0 [(0, .ref (a 1)), (1, .int x1), (2, .int x2), (3, .int x3)] [] f
  unfold M_X5_setOption_1 at h
  refine g_aload_n C 0 dX5_setOption_0 rfl ?_
  refine gf_RX5_9_X5 C qe_1 rfl dX5_setOption_1 ?_
  refine g_iload_n C 1 dX5_setOption_4 rfl ?_
  refine g_iload_n C 2 dX5_setOption_5 rfl ?_
  obtain ⟨hi1, h⟩ := h
  obtain ⟨g2, eg2⟩ : ∃ g : Sg, g = va_up f 2 (upd (f 2) (x1 : Int32).toNatClampNeg x2) := ⟨_, rfl⟩
  have h := h g2 eg2
  refine g_iast C 0 qe_2 rfl (g := g2) (by rw [eg2]; exact qs_2) hi1 dX5_setOption_6 ?_
  refine g_aload_n C 0 dX5_setOption_7 rfl ?_
  refine gf_RX5_15_X5 C qe_1 rfl dX5_setOption_8 ?_
  refine g_iload_n C 1 dX5_setOption_11 rfl ?_
  refine g_iload_n C 3 dX5_setOption_12 rfl ?_
  obtain ⟨hi3, h⟩ := h
  obtain ⟨g4, eg4⟩ : ∃ g : Sg, g = va_up g2 3 (upd (g2 3) (x1 : Int32).toNatClampNeg x3) := ⟨_, rfl⟩
  have h := h g4 eg4
  refine g_iast C 0 qe_3 rfl (g := g4) (by rw [eg4]; exact qs_3) hi3 dX5_setOption_13 ?_
  refine g_aload_n C 0 dX5_setOption_14 rfl ?_
  refine gf_RX5_18_X5 C qe_1 rfl dX5_setOption_15 ?_
  refine g_iload_n C 1 dX5_setOption_18 rfl ?_
  refine g_ldc C tb_33 dX5_setOption_19 ?_
  refine g_iconst C 4 dX5_setOption_21 (by decide) ?_
  refine g_iconst C 5 dX5_setOption_22 (by decide) ?_
  refine g_iload_n C 3 dX5_setOption_23 rfl ?_
  refine g_isub C dX5_setOption_24 ?_
  refine g_imul C dX5_setOption_25 ?_
  refine g_ishr C dX5_setOption_26 ?_
  refine g_iload_n C 1 dX5_setOption_27 rfl ?_
  refine g_ishl C dX5_setOption_28 ?_
  obtain ⟨hi5, h⟩ := h
  obtain ⟨g6, eg6⟩ : ∃ g : Sg, g = va_up g4 4 (upd (g4 4) (x1 : Int32).toNatClampNeg (((69905 : Int32) >>> (((4 : Int32) * ((5 : Int32) - x3)) &&& 31)) <<< (x1 &&& 31))) := ⟨_, rfl⟩
  have h := h g6 eg6
  refine g_iast C 0 qe_4 rfl (g := g6) (by rw [eg6]; exact qs_4) hi5 dX5_setOption_29 ?_
  exact g_vret C hQ dX5_setOption_30 h
theorem cv_setOption : CwV RX5 27 yX5_setOption cX5_setOption 4 none 3 RX5 := ⟨⟨tb_29, tb_32, tb_2, by decide +kernel, by decide⟩, tb_30, tb_31⟩
/-- the plan after i steps -/
def pI : Nat → Pl
  | 0 => (fun _ => 0, fun _ => 0, fun _ => 0, fun _ => 0)
  | i + 1 => setO (pI i) i 1 2
def p0 : Pl := pI 4
theorem p1_zero : P1 (fun _ _ => 0) (pI 0) := by
  refine ⟨fun i hi => ⟨rfl, rfl, ?_⟩, fun c hc => ⟨rfl, rfl⟩⟩
  rcases (show i = 0 ∨ i = 1 ∨ i = 2 ∨ i = 3 by omega) with rfl | rfl | rfl | rfl <;> decide
theorem plan_loop {o : Om} {D : va_G} {cI : ClassId} (a : Nat → Nat) (C : Cn o D [(cI, .int)] RX5 cX5_init 1 2 5 22) (I : Ci o) (hQ : RetC o D 5 22 (S := (Nat → Nat) × Sg) (fun u => P1 u.2 p0) (fun u => [(a 1, .inr (5, [.ref (u.1 2), .ref (u.1 3), .ref (u.1 4), .ref (u.1 5), .ref (u.1 6)])), (u.1 2, .inl (cI, 4, .inl (u.2 2))), (u.1 3, .inl (cI, 4, .inl (u.2 3))), (u.1 4, .inl (cI, 4, .inl (u.2 4))), (u.1 5, .inl (cI, 5, .inl (u.2 5))), (u.1 6, .inl (cI, 5, .inl (u.2 6)))])) :
    ∀ (n i : Nat) (f : Sg), i ≤ 4 → 5 ≤ i + n → P1 f (pI i) → Gn o D 5 22 (pw a cI f) 41 [(0, .ref (a 1)), (1, .int (nI i))] [] := by
  intro n
  induction n with
  | zero => intro i f h1 h2; exact absurd h2 (by omega)
  | succ n ih =>
    intro i f hi hin hp
    refine n_iload_n C 1 dX5_init_41 rfl ?_
    refine n_iconst C 4 dX5_init_42 (by decide) ?_
    refine n_icmp_ge C 59 dX5_init_43 (by decide) (fun c => ?_) (fun c => ?_)
    · have h4 : i = 4 := by
        rcases Nat.lt_or_ge i 4 with q | q
        · exact absurd c (Int32.not_le.mpr (nI_lt (b := 4) q (by decide)))
        · omega
      subst h4
      exact n_cret C I hQ (a, f) rfl (Nat.le_refl _) (Nat.le_refl _) dX5_init_59 hp
    · have h4 : i < 4 := by
        rcases Nat.lt_or_ge i 4 with q | q
        · exact q
        · exact absurd (nI_le (a := 4) q (by omega)) c
      refine n_aload_n C 0 dX5_init_46 rfl ?_
      refine n_iload_n C 1 dX5_init_47 rfl ?_
      refine n_iconst C 1 dX5_init_48 (by decide) ?_
      refine n_iconst C 2 dX5_init_49 (by decide) ?_
      refine n_callVv C (pw_fix a cI) (As := [.int (nI i), .int 1, .int 2]) (st := []) (wr := []) (Qf := fun g => P1 g (pI (i + 1))) (fun l => cp_setOption l D a cI (w_setOption (u := 1) (v := 2) hp h4 (by decide) (by decide) (fun g _ q => q))) cv_setOption rfl qe_1 [0, 1, 2, 3, 4, 5] [] rfl rfl (by decide) rfl (by decide) (by decide) (by decide) (Nat.le_refl _) (Nat.le_refl _) rfl (Nat.le_of_ble_eq_true rfl) dX5_init_50 (fun g hg => ?_)
      show Gn o D 5 22 (pw a cI g) 53 [(0, .ref (a 1)), (1, .int (nI i))] []
      refine n_iinc (v := nI (i + 1)) (lv' := [(1, .int (nI (i + 1))), (0, .ref (a 1))]) C 1 dX5_init_53 rfl (by rw [← nI_1 i]; rfl) (by decide) rfl ?_
      refine n_goto C 41 dX5_init_56 (by decide) ?_
      exact n_sub [1, 0] rfl (ih (i + 1) g h4 (by omega) hg)
set_option maxHeartbeats 4000000 in
set_option maxRecDepth 100000 in
theorem i_X5 (l : Launch) (D : va_G) (cI : ClassId) (h : Nat) : MC l D [(cI, .int)] yX5_init cX5_init 2 1 5 22 [.ref h] [(h, .inr (5, [.null, .null, .null, .null, .null]))] (S := (Nat → Nat) × Sg) (fun u => P1 u.2 p0) (fun u => [(h, .inr (5, [.ref (u.1 2), .ref (u.1 3), .ref (u.1 4), .ref (u.1 5), .ref (u.1 6)])), (u.1 2, .inl (cI, 4, .inl (u.2 2))), (u.1 3, .inl (cI, 4, .inl (u.2 3))), (u.1 4, .inl (cI, 4, .inl (u.2 4))), (u.1 5, .inl (cI, 5, .inl (u.2 5))), (u.1 6, .inl (cI, 5, .inl (u.2 6)))]) := by
  refine mkC (by decide +kernel) rfl (Nat.le_of_ble_eq_true rfl) (fun o C I hQ => ?_)
  show Gn o D 0 0 [(h, .inr (5, [.null, .null, .null, .null, .null]))] 0 [(0, .ref h)] []
  refine n_aload_n C 0 dX5_init_0 rfl ?_
  refine n_objInit C (by decide) tb_28 (Nat.le_of_ble_eq_true rfl) dX5_init_1 ?_
  refine n_aload_n C 0 dX5_init_4 rfl ?_
  refine n_iconst C 4 dX5_init_5 (by decide) ?_
  refine n_newi (nc := 0) (ns := 0) (w := [(h, .inr (5, [.null, .null, .null, .null, .null]))]) C 0 rfl 4 (by decide) (by decide) (by decide) (by decide) (by decide) dX5_init_6 (fun q1 => ?_)
  show Gn o D 1 4 [(h, .inr (5, [.null, .null, .null, .null, .null])), (q1, .inl (cI, 4, .inl (fun _ => 0)))] 8 _ _
  refine n_putF (w := [(h, .inr (5, [.null, .null, .null, .null, .null])), (q1, .inl (cI, 4, .inl (fun _ => 0)))]) (w' := [(h, .inr (5, [.ref q1, .null, .null, .null, .null])), (q1, .inl (cI, 4, .inl (fun _ => 0)))]) C I in_X5 tyX5 tyX5_ok nmX5 rfl 0 (by decide) tb_34 rfl rfl rfl (tyX5_ok 0 (by decide)) rfl rfl (q := 0) rfl (Nat.le_of_ble_eq_true rfl) rfl dX5_init_8 ?_
  refine n_aload_n C 0 dX5_init_11 rfl ?_
  refine n_iconst C 4 dX5_init_12 (by decide) ?_
  refine n_newi (nc := 1) (ns := 4) (w := [(h, .inr (5, [.ref q1, .null, .null, .null, .null])), (q1, .inl (cI, 4, .inl (fun _ => 0)))]) C 0 rfl 4 (by decide) (by decide) (by decide) (by decide) (by decide) dX5_init_13 (fun q2 => ?_)
  show Gn o D 2 8 [(h, .inr (5, [.ref q1, .null, .null, .null, .null])), (q1, .inl (cI, 4, .inl (fun _ => 0))), (q2, .inl (cI, 4, .inl (fun _ => 0)))] 15 _ _
  refine n_putF (w := [(h, .inr (5, [.ref q1, .null, .null, .null, .null])), (q1, .inl (cI, 4, .inl (fun _ => 0))), (q2, .inl (cI, 4, .inl (fun _ => 0)))]) (w' := [(h, .inr (5, [.ref q1, .ref q2, .null, .null, .null])), (q1, .inl (cI, 4, .inl (fun _ => 0))), (q2, .inl (cI, 4, .inl (fun _ => 0)))]) C I in_X5 tyX5 tyX5_ok nmX5 rfl 1 (by decide) tb_36 rfl rfl rfl (tyX5_ok 1 (by decide)) rfl rfl (q := 0) rfl (Nat.le_of_ble_eq_true rfl) rfl dX5_init_15 ?_
  refine n_aload_n C 0 dX5_init_18 rfl ?_
  refine n_iconst C 4 dX5_init_19 (by decide) ?_
  refine n_newi (nc := 2) (ns := 8) (w := [(h, .inr (5, [.ref q1, .ref q2, .null, .null, .null])), (q1, .inl (cI, 4, .inl (fun _ => 0))), (q2, .inl (cI, 4, .inl (fun _ => 0)))]) C 0 rfl 4 (by decide) (by decide) (by decide) (by decide) (by decide) dX5_init_20 (fun q3 => ?_)
  show Gn o D 3 12 [(h, .inr (5, [.ref q1, .ref q2, .null, .null, .null])), (q1, .inl (cI, 4, .inl (fun _ => 0))), (q2, .inl (cI, 4, .inl (fun _ => 0))), (q3, .inl (cI, 4, .inl (fun _ => 0)))] 22 _ _
  refine n_putF (w := [(h, .inr (5, [.ref q1, .ref q2, .null, .null, .null])), (q1, .inl (cI, 4, .inl (fun _ => 0))), (q2, .inl (cI, 4, .inl (fun _ => 0))), (q3, .inl (cI, 4, .inl (fun _ => 0)))]) (w' := [(h, .inr (5, [.ref q1, .ref q2, .ref q3, .null, .null])), (q1, .inl (cI, 4, .inl (fun _ => 0))), (q2, .inl (cI, 4, .inl (fun _ => 0))), (q3, .inl (cI, 4, .inl (fun _ => 0)))]) C I in_X5 tyX5 tyX5_ok nmX5 rfl 2 (by decide) tb_38 rfl rfl rfl (tyX5_ok 2 (by decide)) rfl rfl (q := 0) rfl (Nat.le_of_ble_eq_true rfl) rfl dX5_init_22 ?_
  refine n_aload_n C 0 dX5_init_25 rfl ?_
  refine n_iconst C 5 dX5_init_26 (by decide) ?_
  refine n_newi (nc := 3) (ns := 12) (w := [(h, .inr (5, [.ref q1, .ref q2, .ref q3, .null, .null])), (q1, .inl (cI, 4, .inl (fun _ => 0))), (q2, .inl (cI, 4, .inl (fun _ => 0))), (q3, .inl (cI, 4, .inl (fun _ => 0)))]) C 0 rfl 5 (by decide) (by decide) (by decide) (by decide) (by decide) dX5_init_27 (fun q4 => ?_)
  show Gn o D 4 17 [(h, .inr (5, [.ref q1, .ref q2, .ref q3, .null, .null])), (q1, .inl (cI, 4, .inl (fun _ => 0))), (q2, .inl (cI, 4, .inl (fun _ => 0))), (q3, .inl (cI, 4, .inl (fun _ => 0))), (q4, .inl (cI, 5, .inl (fun _ => 0)))] 29 _ _
  refine n_putF (w := [(h, .inr (5, [.ref q1, .ref q2, .ref q3, .null, .null])), (q1, .inl (cI, 4, .inl (fun _ => 0))), (q2, .inl (cI, 4, .inl (fun _ => 0))), (q3, .inl (cI, 4, .inl (fun _ => 0))), (q4, .inl (cI, 5, .inl (fun _ => 0)))]) (w' := [(h, .inr (5, [.ref q1, .ref q2, .ref q3, .ref q4, .null])), (q1, .inl (cI, 4, .inl (fun _ => 0))), (q2, .inl (cI, 4, .inl (fun _ => 0))), (q3, .inl (cI, 4, .inl (fun _ => 0))), (q4, .inl (cI, 5, .inl (fun _ => 0)))]) C I in_X5 tyX5 tyX5_ok nmX5 rfl 3 (by decide) tb_39 rfl rfl rfl (tyX5_ok 3 (by decide)) rfl rfl (q := 0) rfl (Nat.le_of_ble_eq_true rfl) rfl dX5_init_29 ?_
  refine n_aload_n C 0 dX5_init_32 rfl ?_
  refine n_iconst C 5 dX5_init_33 (by decide) ?_
  refine n_newi (nc := 4) (ns := 17) (w := [(h, .inr (5, [.ref q1, .ref q2, .ref q3, .ref q4, .null])), (q1, .inl (cI, 4, .inl (fun _ => 0))), (q2, .inl (cI, 4, .inl (fun _ => 0))), (q3, .inl (cI, 4, .inl (fun _ => 0))), (q4, .inl (cI, 5, .inl (fun _ => 0)))]) C 0 rfl 5 (by decide) (by decide) (by decide) (by decide) (by decide) dX5_init_34 (fun q5 => ?_)
  show Gn o D 5 22 [(h, .inr (5, [.ref q1, .ref q2, .ref q3, .ref q4, .null])), (q1, .inl (cI, 4, .inl (fun _ => 0))), (q2, .inl (cI, 4, .inl (fun _ => 0))), (q3, .inl (cI, 4, .inl (fun _ => 0))), (q4, .inl (cI, 5, .inl (fun _ => 0))), (q5, .inl (cI, 5, .inl (fun _ => 0)))] 36 _ _
  refine n_putF (w := [(h, .inr (5, [.ref q1, .ref q2, .ref q3, .ref q4, .null])), (q1, .inl (cI, 4, .inl (fun _ => 0))), (q2, .inl (cI, 4, .inl (fun _ => 0))), (q3, .inl (cI, 4, .inl (fun _ => 0))), (q4, .inl (cI, 5, .inl (fun _ => 0))), (q5, .inl (cI, 5, .inl (fun _ => 0)))]) (w' := [(h, .inr (5, [.ref q1, .ref q2, .ref q3, .ref q4, .ref q5])), (q1, .inl (cI, 4, .inl (fun _ => 0))), (q2, .inl (cI, 4, .inl (fun _ => 0))), (q3, .inl (cI, 4, .inl (fun _ => 0))), (q4, .inl (cI, 5, .inl (fun _ => 0))), (q5, .inl (cI, 5, .inl (fun _ => 0)))]) C I in_X5 tyX5 tyX5_ok nmX5 rfl 4 (by decide) tb_42 rfl rfl rfl (tyX5_ok 4 (by decide)) rfl rfl (q := 0) rfl (Nat.le_of_ble_eq_true rfl) rfl dX5_init_36 ?_
  refine n_iconst C 0 dX5_init_39 (by decide) ?_
  refine n_istore_n (lv' := [(1, .int 0), (0, .ref h)]) C dX5_init_40 (by decide) rfl ?_
  refine n_sub (lv' := [(0, .ref h), (1, .int 0)]) [1, 0] rfl ?_
  exact plan_loop (fun k => ([0, h, q1, q2, q3, q4, q5] : List Nat).getD k 0) C I hQ 5 0 (fun _ _ => 0) (by decide) (by decide) p1_zero
