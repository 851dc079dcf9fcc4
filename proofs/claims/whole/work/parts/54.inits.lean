/-! the constructors, by program (wip/whole/gen/inits.py) -/
theorem nwX0 : ∀ j, j < 7 → defaultValue (tyX0 j) = vp_V [.null, .null, .int 0, .int 0, .null, .int 0, .int 0] j := by
  intro j hj
  rcases (show j = 0 ∨ j = 1 ∨ j = 2 ∨ j = 3 ∨ j = 4 ∨ j = 5 ∨ j = 6 by omega) with rfl | rfl | rfl | rfl | rfl | rfl | rfl <;> rfl
theorem nwX1 : ∀ j, j < 7 → defaultValue (tyX1 j) = vp_V [.null, .null, .int 0, .int 0, .null, .null, .int 0] j := by
  intro j hj
  rcases (show j = 0 ∨ j = 1 ∨ j = 2 ∨ j = 3 ∨ j = 4 ∨ j = 5 ∨ j = 6 by omega) with rfl | rfl | rfl | rfl | rfl | rfl | rfl <;> rfl
theorem nwX2 : ∀ j, j < 11 → defaultValue (tyX2 j) = vp_V [.null, .null, .int 0, .int 0, .null, .null, .null, .null, .null, .int 0, .int 0] j := by
  intro j hj
  rcases (show j = 0 ∨ j = 1 ∨ j = 2 ∨ j = 3 ∨ j = 4 ∨ j = 5 ∨ j = 6 ∨ j = 7 ∨ j = 8 ∨ j = 9 ∨ j = 10 by omega) with rfl | rfl | rfl | rfl | rfl | rfl | rfl | rfl | rfl | rfl | rfl <;> rfl
theorem nwX3 : ∀ j, j < 6 → defaultValue (tyX3 j) = vp_V [.null, .null, .int 0, .int 0, .int 0, .null] j := by
  intro j hj
  rcases (show j = 0 ∨ j = 1 ∨ j = 2 ∨ j = 3 ∨ j = 4 ∨ j = 5 by omega) with rfl | rfl | rfl | rfl | rfl | rfl <;> rfl
theorem nwX4 : ∀ j, j < 2 → defaultValue (tyX4 j) = vp_V [.null, .int 0] j := by
  intro j hj
  rcases (show j = 0 ∨ j = 1 by omega) with rfl | rfl <;> rfl
theorem nwX5 : ∀ j, j < 5 → defaultValue (tyX5 j) = vp_V [.null, .null, .null, .null, .null] j := by
  intro j hj
  rcases (show j = 0 ∨ j = 1 ∨ j = 2 ∨ j = 3 ∨ j = 4 by omega) with rfl | rfl | rfl | rfl | rfl <;> rfl
theorem nwX6 : ∀ j, j < 6 → defaultValue (tyX6 j) = vp_V [.null, .null, .null, .null, .null, .int 0] j := by
  intro j hj
  rcases (show j = 0 ∨ j = 1 ∨ j = 2 ∨ j = 3 ∨ j = 4 ∨ j = 5 by omega) with rfl | rfl | rfl | rfl | rfl | rfl <;> rfl
theorem nwX7 : ∀ j, j < 3 → defaultValue (tyX7 j) = vp_V [.null, .null, .int 0] j := by
  intro j hj
  rcases (show j = 0 ∨ j = 1 ∨ j = 2 by omega) with rfl | rfl | rfl <;> rfl
theorem nwX9 : ∀ j, j < 11 → defaultValue (tyX9 j) = vp_V [.null, .null, .null, .null, .null, .null, .null, .null, .null, .null, .int 0] j := by
  intro j hj
  rcases (show j = 0 ∨ j = 1 ∨ j = 2 ∨ j = 3 ∨ j = 4 ∨ j = 5 ∨ j = 6 ∨ j = 7 ∨ j = 8 ∨ j = 9 ∨ j = 10 by omega) with rfl | rfl | rfl | rfl | rfl | rfl | rfl | rfl | rfl | rfl | rfl <;> rfl
theorem nwX10 : ∀ j, j < 16 → defaultValue (tyX10 j) = vp_V [.null, .null, .null, .null, .int 0, .null, .int 0, .null, .null, .int 0, .int 0, .int 0, .int 0, .int 0, .null, .null] j := by
  intro j hj
  rcases (show j = 0 ∨ j = 1 ∨ j = 2 ∨ j = 3 ∨ j = 4 ∨ j = 5 ∨ j = 6 ∨ j = 7 ∨ j = 8 ∨ j = 9 ∨ j = 10 ∨ j = 11 ∨ j = 12 ∨ j = 13 ∨ j = 14 ∨ j = 15 by omega) with rfl | rfl | rfl | rfl | rfl | rfl | rfl | rfl | rfl | rfl | rfl | rfl | rfl | rfl | rfl | rfl <;> rfl
set_option maxHeartbeats 4000000 in
set_option maxRecDepth 100000 in
theorem i_X4 (l : Launch) (D : va_G) (cI : ClassId) (h : Nat) : MC l D [(cI, .int)] yX4_init cX4_init 1 1 1 9 [.ref h] [(h, .inr (4, [.null, .int 0]))] (S := Nat → Nat) (fun _ => True) (fun u => [(h, .inr (4, [.ref (u 0), .int 0])), (u 0, .inl (cI, 9, .inl (fun _ => 0)))]) := by
  refine mkC (by decide +kernel) rfl (Nat.le_of_ble_eq_true rfl) (fun o C I hQ => ?_)
  show Gn o D 0 0 [(h, .inr (4, [.null, .int 0]))] 0 [(0, .ref h)] []
  refine n_aload_n C 0 dX4_init_0 rfl ?_
  refine n_objInit C (by decide) tb_62 (Nat.le_of_ble_eq_true rfl) dX4_init_1 ?_
  refine n_aload_n C 0 dX4_init_4 rfl ?_
  refine n_bipush C 9 dX4_init_5 (by decide) ?_
  refine n_newi (nc := 0) (ns := 0) (w := [(h, .inr (4, [.null, .int 0]))]) C 0 rfl 9 (by decide) (by decide) (by decide) (by decide) (by decide) dX4_init_7 (fun q1 => ?_)
  show Gn o D 1 9 [(h, .inr (4, [.null, .int 0])), (q1, .inl (cI, 9, .inl (fun _ => 0)))] 9 _ _
  refine n_putF (w := [(h, .inr (4, [.null, .int 0])), (q1, .inl (cI, 9, .inl (fun _ => 0)))]) (w' := [(h, .inr (4, [.ref q1, .int 0])), (q1, .inl (cI, 9, .inl (fun _ => 0)))]) C I in_X4 tyX4 tyX4_ok nmX4 rfl 0 (by decide) tb_63 rfl rfl rfl (tyX4_ok 0 (by decide)) rfl rfl (q := 0) rfl (Nat.le_of_ble_eq_true rfl) rfl dX4_init_9 ?_
  refine n_aload_n C 0 dX4_init_12 rfl ?_
  refine n_iconst C 0 dX4_init_13 (by decide) ?_
  refine n_put (w := [(h, .inr (4, [.ref q1, .int 0])), (q1, .inl (cI, 9, .inl (fun _ => 0)))]) (w' := [(h, .inr (4, [.ref q1, .int 0])), (q1, .inl (cI, 9, .inl (fun _ => 0)))]) C in_X4 tyX4 tyX4_ok nmX4 rfl 1 (by decide) tb_64 rfl rfl (tyX4_ok 1 (by decide)) rfl rfl (q := 0) rfl (Nat.le_of_ble_eq_true rfl) rfl dX4_init_14 ?_
  exact n_cret (w := [(h, .inr (4, [.ref q1, .int 0])), (q1, .inl (cI, 9, .inl (fun _ => 0)))]) C I hQ (fun k => ([q1] : List Nat).getD k 0) rfl (by decide) (by decide) dX4_init_17 trivial
set_option maxHeartbeats 4000000 in
set_option maxRecDepth 100000 in
theorem i_X6 (l : Launch) (D : va_G) (cI : ClassId) (h : Nat) (pl : Nat) : MC l D [(cI, .int)] yX6_init cX6_init 2 1 4 34 [.ref h, .ref pl] [(h, .inr (6, [.null, .null, .null, .null, .null, .int 0]))] (S := Nat → Nat) (fun _ => True) (fun u => [(h, .inr (6, [.ref pl, .ref (u 0), .ref (u 1), .ref (u 2), .ref (u 3), .int 0])), (u 0, .inl (cI, 9, .inl (fun _ => 0))), (u 1, .inl (cI, 10, .inl (fun _ => 0))), (u 2, .inl (cI, 10, .inl (fun _ => 0))), (u 3, .inl (cI, 5, .inl (fun _ => 0)))]) := by
  refine mkC (by decide +kernel) rfl (Nat.le_of_ble_eq_true rfl) (fun o C I hQ => ?_)
  show Gn o D 0 0 [(h, .inr (6, [.null, .null, .null, .null, .null, .int 0]))] 0 [(0, .ref h), (1, .ref pl)] []
  refine n_aload_n C 0 dX6_init_0 rfl ?_
  refine n_objInit C (by decide) tb_78 (Nat.le_of_ble_eq_true rfl) dX6_init_1 ?_
  refine n_aload_n C 0 dX6_init_4 rfl ?_
  refine n_bipush C 9 dX6_init_5 (by decide) ?_
  refine n_newi (nc := 0) (ns := 0) (w := [(h, .inr (6, [.null, .null, .null, .null, .null, .int 0]))]) C 0 rfl 9 (by decide) (by decide) (by decide) (by decide) (by decide) dX6_init_7 (fun q1 => ?_)
  show Gn o D 1 9 [(h, .inr (6, [.null, .null, .null, .null, .null, .int 0])), (q1, .inl (cI, 9, .inl (fun _ => 0)))] 9 _ _
  refine n_putF (w := [(h, .inr (6, [.null, .null, .null, .null, .null, .int 0])), (q1, .inl (cI, 9, .inl (fun _ => 0)))]) (w' := [(h, .inr (6, [.null, .ref q1, .null, .null, .null, .int 0])), (q1, .inl (cI, 9, .inl (fun _ => 0)))]) C I in_X6 tyX6 tyX6_ok nmX6 rfl 1 (by decide) tb_80 rfl rfl rfl (tyX6_ok 1 (by decide)) rfl rfl (q := 0) rfl (Nat.le_of_ble_eq_true rfl) rfl dX6_init_9 ?_
  refine n_aload_n C 0 dX6_init_12 rfl ?_
  refine n_bipush C 10 dX6_init_13 (by decide) ?_
  refine n_newi (nc := 1) (ns := 9) (w := [(h, .inr (6, [.null, .ref q1, .null, .null, .null, .int 0])), (q1, .inl (cI, 9, .inl (fun _ => 0)))]) C 0 rfl 10 (by decide) (by decide) (by decide) (by decide) (by decide) dX6_init_15 (fun q2 => ?_)
  show Gn o D 2 19 [(h, .inr (6, [.null, .ref q1, .null, .null, .null, .int 0])), (q1, .inl (cI, 9, .inl (fun _ => 0))), (q2, .inl (cI, 10, .inl (fun _ => 0)))] 17 _ _
  refine n_putF (w := [(h, .inr (6, [.null, .ref q1, .null, .null, .null, .int 0])), (q1, .inl (cI, 9, .inl (fun _ => 0))), (q2, .inl (cI, 10, .inl (fun _ => 0)))]) (w' := [(h, .inr (6, [.null, .ref q1, .ref q2, .null, .null, .int 0])), (q1, .inl (cI, 9, .inl (fun _ => 0))), (q2, .inl (cI, 10, .inl (fun _ => 0)))]) C I in_X6 tyX6 tyX6_ok nmX6 rfl 2 (by decide) tb_85 rfl rfl rfl (tyX6_ok 2 (by decide)) rfl rfl (q := 0) rfl (Nat.le_of_ble_eq_true rfl) rfl dX6_init_17 ?_
  refine n_aload_n C 0 dX6_init_20 rfl ?_
  refine n_bipush C 10 dX6_init_21 (by decide) ?_
  refine n_newi (nc := 2) (ns := 19) (w := [(h, .inr (6, [.null, .ref q1, .ref q2, .null, .null, .int 0])), (q1, .inl (cI, 9, .inl (fun _ => 0))), (q2, .inl (cI, 10, .inl (fun _ => 0)))]) C 0 rfl 10 (by decide) (by decide) (by decide) (by decide) (by decide) dX6_init_23 (fun q3 => ?_)
  show Gn o D 3 29 [(h, .inr (6, [.null, .ref q1, .ref q2, .null, .null, .int 0])), (q1, .inl (cI, 9, .inl (fun _ => 0))), (q2, .inl (cI, 10, .inl (fun _ => 0))), (q3, .inl (cI, 10, .inl (fun _ => 0)))] 25 _ _
  refine n_putF (w := [(h, .inr (6, [.null, .ref q1, .ref q2, .null, .null, .int 0])), (q1, .inl (cI, 9, .inl (fun _ => 0))), (q2, .inl (cI, 10, .inl (fun _ => 0))), (q3, .inl (cI, 10, .inl (fun _ => 0)))]) (w' := [(h, .inr (6, [.null, .ref q1, .ref q2, .ref q3, .null, .int 0])), (q1, .inl (cI, 9, .inl (fun _ => 0))), (q2, .inl (cI, 10, .inl (fun _ => 0))), (q3, .inl (cI, 10, .inl (fun _ => 0)))]) C I in_X6 tyX6 tyX6_ok nmX6 rfl 3 (by decide) tb_86 rfl rfl rfl (tyX6_ok 3 (by decide)) rfl rfl (q := 0) rfl (Nat.le_of_ble_eq_true rfl) rfl dX6_init_25 ?_
  refine n_aload_n C 0 dX6_init_28 rfl ?_
  refine n_iconst C 5 dX6_init_29 (by decide) ?_
  refine n_newi (nc := 3) (ns := 29) (w := [(h, .inr (6, [.null, .ref q1, .ref q2, .ref q3, .null, .int 0])), (q1, .inl (cI, 9, .inl (fun _ => 0))), (q2, .inl (cI, 10, .inl (fun _ => 0))), (q3, .inl (cI, 10, .inl (fun _ => 0)))]) C 0 rfl 5 (by decide) (by decide) (by decide) (by decide) (by decide) dX6_init_30 (fun q4 => ?_)
  show Gn o D 4 34 [(h, .inr (6, [.null, .ref q1, .ref q2, .ref q3, .null, .int 0])), (q1, .inl (cI, 9, .inl (fun _ => 0))), (q2, .inl (cI, 10, .inl (fun _ => 0))), (q3, .inl (cI, 10, .inl (fun _ => 0))), (q4, .inl (cI, 5, .inl (fun _ => 0)))] 32 _ _
  refine n_putF (w := [(h, .inr (6, [.null, .ref q1, .ref q2, .ref q3, .null, .int 0])), (q1, .inl (cI, 9, .inl (fun _ => 0))), (q2, .inl (cI, 10, .inl (fun _ => 0))), (q3, .inl (cI, 10, .inl (fun _ => 0))), (q4, .inl (cI, 5, .inl (fun _ => 0)))]) (w' := [(h, .inr (6, [.null, .ref q1, .ref q2, .ref q3, .ref q4, .int 0])), (q1, .inl (cI, 9, .inl (fun _ => 0))), (q2, .inl (cI, 10, .inl (fun _ => 0))), (q3, .inl (cI, 10, .inl (fun _ => 0))), (q4, .inl (cI, 5, .inl (fun _ => 0)))]) C I in_X6 tyX6 tyX6_ok nmX6 rfl 4 (by decide) tb_87 rfl rfl rfl (tyX6_ok 4 (by decide)) rfl rfl (q := 0) rfl (Nat.le_of_ble_eq_true rfl) rfl dX6_init_32 ?_
  refine n_aload_n C 0 dX6_init_35 rfl ?_
  refine n_iconst C 0 dX6_init_36 (by decide) ?_
  refine n_put (w := [(h, .inr (6, [.null, .ref q1, .ref q2, .ref q3, .ref q4, .int 0])), (q1, .inl (cI, 9, .inl (fun _ => 0))), (q2, .inl (cI, 10, .inl (fun _ => 0))), (q3, .inl (cI, 10, .inl (fun _ => 0))), (q4, .inl (cI, 5, .inl (fun _ => 0)))]) (w' := [(h, .inr (6, [.null, .ref q1, .ref q2, .ref q3, .ref q4, .int 0])), (q1, .inl (cI, 9, .inl (fun _ => 0))), (q2, .inl (cI, 10, .inl (fun _ => 0))), (q3, .inl (cI, 10, .inl (fun _ => 0))), (q4, .inl (cI, 5, .inl (fun _ => 0)))]) C in_X6 tyX6 tyX6_ok nmX6 rfl 5 (by decide) tb_89 rfl rfl (tyX6_ok 5 (by decide)) rfl rfl (q := 0) rfl (Nat.le_of_ble_eq_true rfl) rfl dX6_init_37 ?_
  refine n_aload_n C 0 dX6_init_40 rfl ?_
  refine n_aload_n C 1 dX6_init_41 rfl ?_
  refine n_putF (w := [(h, .inr (6, [.null, .ref q1, .ref q2, .ref q3, .ref q4, .int 0])), (q1, .inl (cI, 9, .inl (fun _ => 0))), (q2, .inl (cI, 10, .inl (fun _ => 0))), (q3, .inl (cI, 10, .inl (fun _ => 0))), (q4, .inl (cI, 5, .inl (fun _ => 0)))]) (w' := [(h, .inr (6, [.ref pl, .ref q1, .ref q2, .ref q3, .ref q4, .int 0])), (q1, .inl (cI, 9, .inl (fun _ => 0))), (q2, .inl (cI, 10, .inl (fun _ => 0))), (q3, .inl (cI, 10, .inl (fun _ => 0))), (q4, .inl (cI, 5, .inl (fun _ => 0)))]) C I in_X6 tyX6 tyX6_ok nmX6 rfl 0 (by decide) tb_79 rfl rfl rfl (tyX6_ok 0 (by decide)) rfl rfl (q := 0) rfl (Nat.le_of_ble_eq_true rfl) rfl dX6_init_42 ?_
  exact n_cret (w := [(h, .inr (6, [.ref pl, .ref q1, .ref q2, .ref q3, .ref q4, .int 0])), (q1, .inl (cI, 9, .inl (fun _ => 0))), (q2, .inl (cI, 10, .inl (fun _ => 0))), (q3, .inl (cI, 10, .inl (fun _ => 0))), (q4, .inl (cI, 5, .inl (fun _ => 0)))]) C I hQ (fun k => ([q1, q2, q3, q4] : List Nat).getD k 0) rfl (by decide) (by decide) dX6_init_45 trivial
set_option maxHeartbeats 4000000 in
set_option maxRecDepth 100000 in
theorem i_X8_2 (l : Launch) (D : va_G) (cI : ClassId) (h : Nat) (pl ro : Nat) : MC l D [(cI, .int)] yX8_init cX8_init 3 1 0 0 [.ref h, .ref pl, .ref ro] [(h, .inr (2, [.null, .null, .int 0, .int 0, .null, .null, .null, .null, .null, .int 0, .int 0]))] (S := Nat → Nat) (fun _ => True) (fun u => [(h, .inr (2, [.ref pl, .ref ro, .int 0, .int 0, .null, .null, .null, .null, .null, .int 0, .int 0]))]) := by
  refine mkC (by decide +kernel) rfl (Nat.le_of_ble_eq_true rfl) (fun o C I hQ => ?_)
  show Gn o D 0 0 [(h, .inr (2, [.null, .null, .int 0, .int 0, .null, .null, .null, .null, .null, .int 0, .int 0]))] 0 [(0, .ref h), (1, .ref pl), (2, .ref ro)] []
  refine n_aload_n C 0 dX8_init_0 rfl ?_
  refine n_objInit C (by decide) tb_111 (Nat.le_of_ble_eq_true rfl) dX8_init_1 ?_
  refine n_aload_n C 0 dX8_init_4 rfl ?_
  refine n_iconst C 0 dX8_init_5 (by decide) ?_
  refine n_put (w := [(h, .inr (2, [.null, .null, .int 0, .int 0, .null, .null, .null, .null, .null, .int 0, .int 0]))]) (w' := [(h, .inr (2, [.null, .null, .int 0, .int 0, .null, .null, .null, .null, .null, .int 0, .int 0]))]) C in_X2 tyX2 tyX2_ok nmX2 rfl 2 (by decide) tb_136 rfl rfl (tyX2_ok 2 (by decide)) rfl rfl (q := 0) rfl (Nat.le_of_ble_eq_true rfl) rfl dX8_init_6 ?_
  refine n_aload_n C 0 dX8_init_9 rfl ?_
  refine n_iconst C 0 dX8_init_10 (by decide) ?_
  refine n_put (w := [(h, .inr (2, [.null, .null, .int 0, .int 0, .null, .null, .null, .null, .null, .int 0, .int 0]))]) (w' := [(h, .inr (2, [.null, .null, .int 0, .int 0, .null, .null, .null, .null, .null, .int 0, .int 0]))]) C in_X2 tyX2 tyX2_ok nmX2 rfl 3 (by decide) tb_145 rfl rfl (tyX2_ok 3 (by decide)) rfl rfl (q := 0) rfl (Nat.le_of_ble_eq_true rfl) rfl dX8_init_11 ?_
  refine n_aload_n C 0 dX8_init_14 rfl ?_
  refine n_aload_n C 1 dX8_init_15 rfl ?_
  refine n_putF (w := [(h, .inr (2, [.null, .null, .int 0, .int 0, .null, .null, .null, .null, .null, .int 0, .int 0]))]) (w' := [(h, .inr (2, [.ref pl, .null, .int 0, .int 0, .null, .null, .null, .null, .null, .int 0, .int 0]))]) C I in_X2 tyX2 tyX2_ok nmX2 rfl 0 (by decide) tb_124 rfl rfl rfl (tyX2_ok 0 (by decide)) rfl rfl (q := 0) rfl (Nat.le_of_ble_eq_true rfl) rfl dX8_init_16 ?_
  refine n_aload_n C 0 dX8_init_19 rfl ?_
  refine n_aload_n C 2 dX8_init_20 rfl ?_
  refine n_putF (w := [(h, .inr (2, [.ref pl, .null, .int 0, .int 0, .null, .null, .null, .null, .null, .int 0, .int 0]))]) (w' := [(h, .inr (2, [.ref pl, .ref ro, .int 0, .int 0, .null, .null, .null, .null, .null, .int 0, .int 0]))]) C I in_X2 tyX2 tyX2_ok nmX2 rfl 1 (by decide) tb_127 rfl rfl rfl (tyX2_ok 1 (by decide)) rfl rfl (q := 0) rfl (Nat.le_of_ble_eq_true rfl) rfl dX8_init_21 ?_
  exact n_cret (w := [(h, .inr (2, [.ref pl, .ref ro, .int 0, .int 0, .null, .null, .null, .null, .null, .int 0, .int 0]))]) C I hQ (fun k => ([] : List Nat).getD k 0) rfl (by decide) (by decide) dX8_init_24 trivial
set_option maxHeartbeats 4000000 in
set_option maxRecDepth 100000 in
theorem i_X8_0 (l : Launch) (D : va_G) (cI : ClassId) (h : Nat) (pl ro : Nat) : MC l D [(cI, .int)] yX8_init cX8_init 3 1 0 0 [.ref h, .ref pl, .ref ro] [(h, .inr (0, [.null, .null, .int 0, .int 0, .null, .int 0, .int 0]))] (S := Nat → Nat) (fun _ => True) (fun u => [(h, .inr (0, [.ref pl, .ref ro, .int 0, .int 0, .null, .int 0, .int 0]))]) := by
  refine mkC (by decide +kernel) rfl (Nat.le_of_ble_eq_true rfl) (fun o C I hQ => ?_)
  show Gn o D 0 0 [(h, .inr (0, [.null, .null, .int 0, .int 0, .null, .int 0, .int 0]))] 0 [(0, .ref h), (1, .ref pl), (2, .ref ro)] []
  refine n_aload_n C 0 dX8_init_0 rfl ?_
  refine n_objInit C (by decide) tb_111 (Nat.le_of_ble_eq_true rfl) dX8_init_1 ?_
  refine n_aload_n C 0 dX8_init_4 rfl ?_
  refine n_iconst C 0 dX8_init_5 (by decide) ?_
  refine n_put (w := [(h, .inr (0, [.null, .null, .int 0, .int 0, .null, .int 0, .int 0]))]) (w' := [(h, .inr (0, [.null, .null, .int 0, .int 0, .null, .int 0, .int 0]))]) C in_X0 tyX0 tyX0_ok nmX0 rfl 2 (by decide) tb_136 rfl rfl (tyX0_ok 2 (by decide)) rfl rfl (q := 0) rfl (Nat.le_of_ble_eq_true rfl) rfl dX8_init_6 ?_
  refine n_aload_n C 0 dX8_init_9 rfl ?_
  refine n_iconst C 0 dX8_init_10 (by decide) ?_
  refine n_put (w := [(h, .inr (0, [.null, .null, .int 0, .int 0, .null, .int 0, .int 0]))]) (w' := [(h, .inr (0, [.null, .null, .int 0, .int 0, .null, .int 0, .int 0]))]) C in_X0 tyX0 tyX0_ok nmX0 rfl 3 (by decide) tb_145 rfl rfl (tyX0_ok 3 (by decide)) rfl rfl (q := 0) rfl (Nat.le_of_ble_eq_true rfl) rfl dX8_init_11 ?_
  refine n_aload_n C 0 dX8_init_14 rfl ?_
  refine n_aload_n C 1 dX8_init_15 rfl ?_
  refine n_putF (w := [(h, .inr (0, [.null, .null, .int 0, .int 0, .null, .int 0, .int 0]))]) (w' := [(h, .inr (0, [.ref pl, .null, .int 0, .int 0, .null, .int 0, .int 0]))]) C I in_X0 tyX0 tyX0_ok nmX0 rfl 0 (by decide) tb_124 rfl rfl rfl (tyX0_ok 0 (by decide)) rfl rfl (q := 0) rfl (Nat.le_of_ble_eq_true rfl) rfl dX8_init_16 ?_
  refine n_aload_n C 0 dX8_init_19 rfl ?_
  refine n_aload_n C 2 dX8_init_20 rfl ?_
  refine n_putF (w := [(h, .inr (0, [.ref pl, .null, .int 0, .int 0, .null, .int 0, .int 0]))]) (w' := [(h, .inr (0, [.ref pl, .ref ro, .int 0, .int 0, .null, .int 0, .int 0]))]) C I in_X0 tyX0 tyX0_ok nmX0 rfl 1 (by decide) tb_127 rfl rfl rfl (tyX0_ok 1 (by decide)) rfl rfl (q := 0) rfl (Nat.le_of_ble_eq_true rfl) rfl dX8_init_21 ?_
  exact n_cret (w := [(h, .inr (0, [.ref pl, .ref ro, .int 0, .int 0, .null, .int 0, .int 0]))]) C I hQ (fun k => ([] : List Nat).getD k 0) rfl (by decide) (by decide) dX8_init_24 trivial
set_option maxHeartbeats 4000000 in
set_option maxRecDepth 100000 in
theorem i_X8_3 (l : Launch) (D : va_G) (cI : ClassId) (h : Nat) (pl ro : Nat) : MC l D [(cI, .int)] yX8_init cX8_init 3 1 0 0 [.ref h, .ref pl, .ref ro] [(h, .inr (3, [.null, .null, .int 0, .int 0, .int 0, .null]))] (S := Nat → Nat) (fun _ => True) (fun u => [(h, .inr (3, [.ref pl, .ref ro, .int 0, .int 0, .int 0, .null]))]) := by
  refine mkC (by decide +kernel) rfl (Nat.le_of_ble_eq_true rfl) (fun o C I hQ => ?_)
  show Gn o D 0 0 [(h, .inr (3, [.null, .null, .int 0, .int 0, .int 0, .null]))] 0 [(0, .ref h), (1, .ref pl), (2, .ref ro)] []
  refine n_aload_n C 0 dX8_init_0 rfl ?_
  refine n_objInit C (by decide) tb_111 (Nat.le_of_ble_eq_true rfl) dX8_init_1 ?_
  refine n_aload_n C 0 dX8_init_4 rfl ?_
  refine n_iconst C 0 dX8_init_5 (by decide) ?_
  refine n_put (w := [(h, .inr (3, [.null, .null, .int 0, .int 0, .int 0, .null]))]) (w' := [(h, .inr (3, [.null, .null, .int 0, .int 0, .int 0, .null]))]) C in_X3 tyX3 tyX3_ok nmX3 rfl 2 (by decide) tb_136 rfl rfl (tyX3_ok 2 (by decide)) rfl rfl (q := 0) rfl (Nat.le_of_ble_eq_true rfl) rfl dX8_init_6 ?_
  refine n_aload_n C 0 dX8_init_9 rfl ?_
  refine n_iconst C 0 dX8_init_10 (by decide) ?_
  refine n_put (w := [(h, .inr (3, [.null, .null, .int 0, .int 0, .int 0, .null]))]) (w' := [(h, .inr (3, [.null, .null, .int 0, .int 0, .int 0, .null]))]) C in_X3 tyX3 tyX3_ok nmX3 rfl 3 (by decide) tb_145 rfl rfl (tyX3_ok 3 (by decide)) rfl rfl (q := 0) rfl (Nat.le_of_ble_eq_true rfl) rfl dX8_init_11 ?_
  refine n_aload_n C 0 dX8_init_14 rfl ?_
  refine n_aload_n C 1 dX8_init_15 rfl ?_
  refine n_putF (w := [(h, .inr (3, [.null, .null, .int 0, .int 0, .int 0, .null]))]) (w' := [(h, .inr (3, [.ref pl, .null, .int 0, .int 0, .int 0, .null]))]) C I in_X3 tyX3 tyX3_ok nmX3 rfl 0 (by decide) tb_124 rfl rfl rfl (tyX3_ok 0 (by decide)) rfl rfl (q := 0) rfl (Nat.le_of_ble_eq_true rfl) rfl dX8_init_16 ?_
  refine n_aload_n C 0 dX8_init_19 rfl ?_
  refine n_aload_n C 2 dX8_init_20 rfl ?_
  refine n_putF (w := [(h, .inr (3, [.ref pl, .null, .int 0, .int 0, .int 0, .null]))]) (w' := [(h, .inr (3, [.ref pl, .ref ro, .int 0, .int 0, .int 0, .null]))]) C I in_X3 tyX3 tyX3_ok nmX3 rfl 1 (by decide) tb_127 rfl rfl rfl (tyX3_ok 1 (by decide)) rfl rfl (q := 0) rfl (Nat.le_of_ble_eq_true rfl) rfl dX8_init_21 ?_
  exact n_cret (w := [(h, .inr (3, [.ref pl, .ref ro, .int 0, .int 0, .int 0, .null]))]) C I hQ (fun k => ([] : List Nat).getD k 0) rfl (by decide) (by decide) dX8_init_24 trivial
set_option maxHeartbeats 4000000 in
set_option maxRecDepth 100000 in
theorem i_X8_1 (l : Launch) (D : va_G) (cI : ClassId) (h : Nat) (pl ro : Nat) : MC l D [(cI, .int)] yX8_init cX8_init 3 1 0 0 [.ref h, .ref pl, .ref ro] [(h, .inr (1, [.null, .null, .int 0, .int 0, .null, .null, .int 0]))] (S := Nat → Nat) (fun _ => True) (fun u => [(h, .inr (1, [.ref pl, .ref ro, .int 0, .int 0, .null, .null, .int 0]))]) := by
  refine mkC (by decide +kernel) rfl (Nat.le_of_ble_eq_true rfl) (fun o C I hQ => ?_)
  show Gn o D 0 0 [(h, .inr (1, [.null, .null, .int 0, .int 0, .null, .null, .int 0]))] 0 [(0, .ref h), (1, .ref pl), (2, .ref ro)] []
  refine n_aload_n C 0 dX8_init_0 rfl ?_
  refine n_objInit C (by decide) tb_111 (Nat.le_of_ble_eq_true rfl) dX8_init_1 ?_
  refine n_aload_n C 0 dX8_init_4 rfl ?_
  refine n_iconst C 0 dX8_init_5 (by decide) ?_
  refine n_put (w := [(h, .inr (1, [.null, .null, .int 0, .int 0, .null, .null, .int 0]))]) (w' := [(h, .inr (1, [.null, .null, .int 0, .int 0, .null, .null, .int 0]))]) C in_X1 tyX1 tyX1_ok nmX1 rfl 2 (by decide) tb_136 rfl rfl (tyX1_ok 2 (by decide)) rfl rfl (q := 0) rfl (Nat.le_of_ble_eq_true rfl) rfl dX8_init_6 ?_
  refine n_aload_n C 0 dX8_init_9 rfl ?_
  refine n_iconst C 0 dX8_init_10 (by decide) ?_
  refine n_put (w := [(h, .inr (1, [.null, .null, .int 0, .int 0, .null, .null, .int 0]))]) (w' := [(h, .inr (1, [.null, .null, .int 0, .int 0, .null, .null, .int 0]))]) C in_X1 tyX1 tyX1_ok nmX1 rfl 3 (by decide) tb_145 rfl rfl (tyX1_ok 3 (by decide)) rfl rfl (q := 0) rfl (Nat.le_of_ble_eq_true rfl) rfl dX8_init_11 ?_
  refine n_aload_n C 0 dX8_init_14 rfl ?_
  refine n_aload_n C 1 dX8_init_15 rfl ?_
  refine n_putF (w := [(h, .inr (1, [.null, .null, .int 0, .int 0, .null, .null, .int 0]))]) (w' := [(h, .inr (1, [.ref pl, .null, .int 0, .int 0, .null, .null, .int 0]))]) C I in_X1 tyX1 tyX1_ok nmX1 rfl 0 (by decide) tb_124 rfl rfl rfl (tyX1_ok 0 (by decide)) rfl rfl (q := 0) rfl (Nat.le_of_ble_eq_true rfl) rfl dX8_init_16 ?_
  refine n_aload_n C 0 dX8_init_19 rfl ?_
  refine n_aload_n C 2 dX8_init_20 rfl ?_
  refine n_putF (w := [(h, .inr (1, [.ref pl, .null, .int 0, .int 0, .null, .null, .int 0]))]) (w' := [(h, .inr (1, [.ref pl, .ref ro, .int 0, .int 0, .null, .null, .int 0]))]) C I in_X1 tyX1 tyX1_ok nmX1 rfl 1 (by decide) tb_127 rfl rfl rfl (tyX1_ok 1 (by decide)) rfl rfl (q := 0) rfl (Nat.le_of_ble_eq_true rfl) rfl dX8_init_21 ?_
  exact n_cret (w := [(h, .inr (1, [.ref pl, .ref ro, .int 0, .int 0, .null, .null, .int 0]))]) C I hQ (fun k => ([] : List Nat).getD k 0) rfl (by decide) (by decide) dX8_init_24 trivial
theorem ci_RX2_3 : CwI RX2 3 yX8_init cX8_init 3 2 := ⟨⟨tb_108, tb_110, tb_5, by decide +kernel, by decide⟩, rfl, tb_109⟩
set_option maxHeartbeats 4000000 in
set_option maxRecDepth 100000 in
theorem i_X2 (l : Launch) (D : va_G) (cI : ClassId) (h : Nat) (pl ro : Nat) : MC l D [(cI, .int)] yX2_init cX2_init 3 2 5 47 [.ref h, .ref pl, .ref ro] [(h, .inr (2, [.null, .null, .int 0, .int 0, .null, .null, .null, .null, .null, .int 0, .int 0]))] (S := Nat → Nat) (fun _ => True) (fun u => [(h, .inr (2, [.ref pl, .ref ro, .int 0, .int 0, .ref (u 0), .ref (u 1), .ref (u 2), .ref (u 3), .ref (u 4), .int 0, .int 0])), (u 0, .inl (cI, 9, .inl (fun _ => 0))), (u 1, .inl (cI, 9, .inl (fun _ => 0))), (u 2, .inl (cI, 9, .inl (fun _ => 0))), (u 3, .inl (cI, 10, .inl (fun _ => 0))), (u 4, .inl (cI, 10, .inl (fun _ => 0)))]) := by
  refine mkC (by decide +kernel) rfl (Nat.le_of_ble_eq_true rfl) (fun o C I hQ => ?_)
  show Gn o D 0 0 [(h, .inr (2, [.null, .null, .int 0, .int 0, .null, .null, .null, .null, .null, .int 0, .int 0]))] 0 [(0, .ref h), (1, .ref pl), (2, .ref ro)] []
  refine n_aload_n C 0 dX2_init_0 rfl ?_
  refine n_aload_n C 1 dX2_init_1 rfl ?_
  refine n_aload_n C 2 dX2_init_2 rfl ?_
  refine n_callI (nc := 0) (ns := 0) (w := [(h, .inr (2, [.null, .null, .int 0, .int 0, .null, .null, .null, .null, .null, .int 0, .int 0]))]) C (As := [.ref pl, .ref ro]) (st := []) (wr := []) (fun l => i_X8_2 l D cI h pl ro) ci_RX2_3 [0] [] rfl rfl (by decide) rfl (by decide) (by decide) (by decide) (by decide) (by decide) rfl (Nat.le_of_ble_eq_true rfl) dX2_init_3 (fun u1 hu1 => ?_)
  show Gn o D 0 0 [(h, .inr (2, [.ref pl, .ref ro, .int 0, .int 0, .null, .null, .null, .null, .null, .int 0, .int 0]))] 6 _ _
  refine n_aload_n C 0 dX2_init_6 rfl ?_
  refine n_bipush C 9 dX2_init_7 (by decide) ?_
  refine n_newi (nc := 0) (ns := 0) (w := [(h, .inr (2, [.ref pl, .ref ro, .int 0, .int 0, .null, .null, .null, .null, .null, .int 0, .int 0]))]) C 0 rfl 9 (by decide) (by decide) (by decide) (by decide) (by decide) dX2_init_9 (fun q2 => ?_)
  show Gn o D 1 9 [(h, .inr (2, [.ref pl, .ref ro, .int 0, .int 0, .null, .null, .null, .null, .null, .int 0, .int 0])), (q2, .inl (cI, 9, .inl (fun _ => 0)))] 11 _ _
  refine n_putF (w := [(h, .inr (2, [.ref pl, .ref ro, .int 0, .int 0, .null, .null, .null, .null, .null, .int 0, .int 0])), (q2, .inl (cI, 9, .inl (fun _ => 0)))]) (w' := [(h, .inr (2, [.ref pl, .ref ro, .int 0, .int 0, .ref q2, .null, .null, .null, .null, .int 0, .int 0])), (q2, .inl (cI, 9, .inl (fun _ => 0)))]) C I in_X2 tyX2 tyX2_ok nmX2 rfl 4 (by decide) tb_112 rfl rfl rfl (tyX2_ok 4 (by decide)) rfl rfl (q := 0) rfl (Nat.le_of_ble_eq_true rfl) rfl dX2_init_11 ?_
  refine n_aload_n C 0 dX2_init_14 rfl ?_
  refine n_bipush C 9 dX2_init_15 (by decide) ?_
  refine n_newi (nc := 1) (ns := 9) (w := [(h, .inr (2, [.ref pl, .ref ro, .int 0, .int 0, .ref q2, .null, .null, .null, .null, .int 0, .int 0])), (q2, .inl (cI, 9, .inl (fun _ => 0)))]) C 0 rfl 9 (by decide) (by decide) (by decide) (by decide) (by decide) dX2_init_17 (fun q3 => ?_)
  show Gn o D 2 18 [(h, .inr (2, [.ref pl, .ref ro, .int 0, .int 0, .ref q2, .null, .null, .null, .null, .int 0, .int 0])), (q2, .inl (cI, 9, .inl (fun _ => 0))), (q3, .inl (cI, 9, .inl (fun _ => 0)))] 19 _ _
  refine n_putF (w := [(h, .inr (2, [.ref pl, .ref ro, .int 0, .int 0, .ref q2, .null, .null, .null, .null, .int 0, .int 0])), (q2, .inl (cI, 9, .inl (fun _ => 0))), (q3, .inl (cI, 9, .inl (fun _ => 0)))]) (w' := [(h, .inr (2, [.ref pl, .ref ro, .int 0, .int 0, .ref q2, .ref q3, .null, .null, .null, .int 0, .int 0])), (q2, .inl (cI, 9, .inl (fun _ => 0))), (q3, .inl (cI, 9, .inl (fun _ => 0)))]) C I in_X2 tyX2 tyX2_ok nmX2 rfl 5 (by decide) tb_114 rfl rfl rfl (tyX2_ok 5 (by decide)) rfl rfl (q := 0) rfl (Nat.le_of_ble_eq_true rfl) rfl dX2_init_19 ?_
  refine n_aload_n C 0 dX2_init_22 rfl ?_
  refine n_bipush C 9 dX2_init_23 (by decide) ?_
  refine n_newi (nc := 2) (ns := 18) (w := [(h, .inr (2, [.ref pl, .ref ro, .int 0, .int 0, .ref q2, .ref q3, .null, .null, .null, .int 0, .int 0])), (q2, .inl (cI, 9, .inl (fun _ => 0))), (q3, .inl (cI, 9, .inl (fun _ => 0)))]) C 0 rfl 9 (by decide) (by decide) (by decide) (by decide) (by decide) dX2_init_25 (fun q4 => ?_)
  show Gn o D 3 27 [(h, .inr (2, [.ref pl, .ref ro, .int 0, .int 0, .ref q2, .ref q3, .null, .null, .null, .int 0, .int 0])), (q2, .inl (cI, 9, .inl (fun _ => 0))), (q3, .inl (cI, 9, .inl (fun _ => 0))), (q4, .inl (cI, 9, .inl (fun _ => 0)))] 27 _ _
  refine n_putF (w := [(h, .inr (2, [.ref pl, .ref ro, .int 0, .int 0, .ref q2, .ref q3, .null, .null, .null, .int 0, .int 0])), (q2, .inl (cI, 9, .inl (fun _ => 0))), (q3, .inl (cI, 9, .inl (fun _ => 0))), (q4, .inl (cI, 9, .inl (fun _ => 0)))]) (w' := [(h, .inr (2, [.ref pl, .ref ro, .int 0, .int 0, .ref q2, .ref q3, .ref q4, .null, .null, .int 0, .int 0])), (q2, .inl (cI, 9, .inl (fun _ => 0))), (q3, .inl (cI, 9, .inl (fun _ => 0))), (q4, .inl (cI, 9, .inl (fun _ => 0)))]) C I in_X2 tyX2 tyX2_ok nmX2 rfl 6 (by decide) tb_116 rfl rfl rfl (tyX2_ok 6 (by decide)) rfl rfl (q := 0) rfl (Nat.le_of_ble_eq_true rfl) rfl dX2_init_27 ?_
  refine n_aload_n C 0 dX2_init_30 rfl ?_
  refine n_bipush C 10 dX2_init_31 (by decide) ?_
  refine n_newi (nc := 3) (ns := 27) (w := [(h, .inr (2, [.ref pl, .ref ro, .int 0, .int 0, .ref q2, .ref q3, .ref q4, .null, .null, .int 0, .int 0])), (q2, .inl (cI, 9, .inl (fun _ => 0))), (q3, .inl (cI, 9, .inl (fun _ => 0))), (q4, .inl (cI, 9, .inl (fun _ => 0)))]) C 0 rfl 10 (by decide) (by decide) (by decide) (by decide) (by decide) dX2_init_33 (fun q5 => ?_)
  show Gn o D 4 37 [(h, .inr (2, [.ref pl, .ref ro, .int 0, .int 0, .ref q2, .ref q3, .ref q4, .null, .null, .int 0, .int 0])), (q2, .inl (cI, 9, .inl (fun _ => 0))), (q3, .inl (cI, 9, .inl (fun _ => 0))), (q4, .inl (cI, 9, .inl (fun _ => 0))), (q5, .inl (cI, 10, .inl (fun _ => 0)))] 35 _ _
  refine n_putF (w := [(h, .inr (2, [.ref pl, .ref ro, .int 0, .int 0, .ref q2, .ref q3, .ref q4, .null, .null, .int 0, .int 0])), (q2, .inl (cI, 9, .inl (fun _ => 0))), (q3, .inl (cI, 9, .inl (fun _ => 0))), (q4, .inl (cI, 9, .inl (fun _ => 0))), (q5, .inl (cI, 10, .inl (fun _ => 0)))]) (w' := [(h, .inr (2, [.ref pl, .ref ro, .int 0, .int 0, .ref q2, .ref q3, .ref q4, .ref q5, .null, .int 0, .int 0])), (q2, .inl (cI, 9, .inl (fun _ => 0))), (q3, .inl (cI, 9, .inl (fun _ => 0))), (q4, .inl (cI, 9, .inl (fun _ => 0))), (q5, .inl (cI, 10, .inl (fun _ => 0)))]) C I in_X2 tyX2 tyX2_ok nmX2 rfl 7 (by decide) tb_118 rfl rfl rfl (tyX2_ok 7 (by decide)) rfl rfl (q := 0) rfl (Nat.le_of_ble_eq_true rfl) rfl dX2_init_35 ?_
  refine n_aload_n C 0 dX2_init_38 rfl ?_
  refine n_bipush C 10 dX2_init_39 (by decide) ?_
  refine n_newi (nc := 4) (ns := 37) (w := [(h, .inr (2, [.ref pl, .ref ro, .int 0, .int 0, .ref q2, .ref q3, .ref q4, .ref q5, .null, .int 0, .int 0])), (q2, .inl (cI, 9, .inl (fun _ => 0))), (q3, .inl (cI, 9, .inl (fun _ => 0))), (q4, .inl (cI, 9, .inl (fun _ => 0))), (q5, .inl (cI, 10, .inl (fun _ => 0)))]) C 0 rfl 10 (by decide) (by decide) (by decide) (by decide) (by decide) dX2_init_41 (fun q6 => ?_)
  show Gn o D 5 47 [(h, .inr (2, [.ref pl, .ref ro, .int 0, .int 0, .ref q2, .ref q3, .ref q4, .ref q5, .null, .int 0, .int 0])), (q2, .inl (cI, 9, .inl (fun _ => 0))), (q3, .inl (cI, 9, .inl (fun _ => 0))), (q4, .inl (cI, 9, .inl (fun _ => 0))), (q5, .inl (cI, 10, .inl (fun _ => 0))), (q6, .inl (cI, 10, .inl (fun _ => 0)))] 43 _ _
  refine n_putF (w := [(h, .inr (2, [.ref pl, .ref ro, .int 0, .int 0, .ref q2, .ref q3, .ref q4, .ref q5, .null, .int 0, .int 0])), (q2, .inl (cI, 9, .inl (fun _ => 0))), (q3, .inl (cI, 9, .inl (fun _ => 0))), (q4, .inl (cI, 9, .inl (fun _ => 0))), (q5, .inl (cI, 10, .inl (fun _ => 0))), (q6, .inl (cI, 10, .inl (fun _ => 0)))]) (w' := [(h, .inr (2, [.ref pl, .ref ro, .int 0, .int 0, .ref q2, .ref q3, .ref q4, .ref q5, .ref q6, .int 0, .int 0])), (q2, .inl (cI, 9, .inl (fun _ => 0))), (q3, .inl (cI, 9, .inl (fun _ => 0))), (q4, .inl (cI, 9, .inl (fun _ => 0))), (q5, .inl (cI, 10, .inl (fun _ => 0))), (q6, .inl (cI, 10, .inl (fun _ => 0)))]) C I in_X2 tyX2 tyX2_ok nmX2 rfl 8 (by decide) tb_119 rfl rfl rfl (tyX2_ok 8 (by decide)) rfl rfl (q := 0) rfl (Nat.le_of_ble_eq_true rfl) rfl dX2_init_43 ?_
  refine n_aload_n C 0 dX2_init_46 rfl ?_
  refine n_iconst C 0 dX2_init_47 (by decide) ?_
  refine n_put (w := [(h, .inr (2, [.ref pl, .ref ro, .int 0, .int 0, .ref q2, .ref q3, .ref q4, .ref q5, .ref q6, .int 0, .int 0])), (q2, .inl (cI, 9, .inl (fun _ => 0))), (q3, .inl (cI, 9, .inl (fun _ => 0))), (q4, .inl (cI, 9, .inl (fun _ => 0))), (q5, .inl (cI, 10, .inl (fun _ => 0))), (q6, .inl (cI, 10, .inl (fun _ => 0)))]) (w' := [(h, .inr (2, [.ref pl, .ref ro, .int 0, .int 0, .ref q2, .ref q3, .ref q4, .ref q5, .ref q6, .int 0, .int 0])), (q2, .inl (cI, 9, .inl (fun _ => 0))), (q3, .inl (cI, 9, .inl (fun _ => 0))), (q4, .inl (cI, 9, .inl (fun _ => 0))), (q5, .inl (cI, 10, .inl (fun _ => 0))), (q6, .inl (cI, 10, .inl (fun _ => 0)))]) C in_X2 tyX2 tyX2_ok nmX2 rfl 9 (by decide) tb_120 rfl rfl (tyX2_ok 9 (by decide)) rfl rfl (q := 0) rfl (Nat.le_of_ble_eq_true rfl) rfl dX2_init_48 ?_
  refine n_aload_n C 0 dX2_init_51 rfl ?_
  refine n_iconst C 0 dX2_init_52 (by decide) ?_
  refine n_put (w := [(h, .inr (2, [.ref pl, .ref ro, .int 0, .int 0, .ref q2, .ref q3, .ref q4, .ref q5, .ref q6, .int 0, .int 0])), (q2, .inl (cI, 9, .inl (fun _ => 0))), (q3, .inl (cI, 9, .inl (fun _ => 0))), (q4, .inl (cI, 9, .inl (fun _ => 0))), (q5, .inl (cI, 10, .inl (fun _ => 0))), (q6, .inl (cI, 10, .inl (fun _ => 0)))]) (w' := [(h, .inr (2, [.ref pl, .ref ro, .int 0, .int 0, .ref q2, .ref q3, .ref q4, .ref q5, .ref q6, .int 0, .int 0])), (q2, .inl (cI, 9, .inl (fun _ => 0))), (q3, .inl (cI, 9, .inl (fun _ => 0))), (q4, .inl (cI, 9, .inl (fun _ => 0))), (q5, .inl (cI, 10, .inl (fun _ => 0))), (q6, .inl (cI, 10, .inl (fun _ => 0)))]) C in_X2 tyX2 tyX2_ok nmX2 rfl 10 (by decide) tb_122 rfl rfl (tyX2_ok 10 (by decide)) rfl rfl (q := 0) rfl (Nat.le_of_ble_eq_true rfl) rfl dX2_init_53 ?_
  exact n_cret (w := [(h, .inr (2, [.ref pl, .ref ro, .int 0, .int 0, .ref q2, .ref q3, .ref q4, .ref q5, .ref q6, .int 0, .int 0])), (q2, .inl (cI, 9, .inl (fun _ => 0))), (q3, .inl (cI, 9, .inl (fun _ => 0))), (q4, .inl (cI, 9, .inl (fun _ => 0))), (q5, .inl (cI, 10, .inl (fun _ => 0))), (q6, .inl (cI, 10, .inl (fun _ => 0)))]) C I hQ (fun k => ([q2, q3, q4, q5, q6] : List Nat).getD k 0) rfl (by decide) (by decide) dX2_init_56 trivial
theorem ci_RX0_3 : CwI RX0 3 yX8_init cX8_init 3 2 := ⟨⟨tb_174, tb_110, tb_5, by decide +kernel, by decide⟩, rfl, tb_109⟩
set_option maxHeartbeats 4000000 in
set_option maxRecDepth 100000 in
theorem i_X0 (l : Launch) (D : va_G) (cI : ClassId) (h : Nat) (pl ro : Nat) : MC l D [(cI, .int)] yX0_init cX0_init 3 2 1 9 [.ref h, .ref pl, .ref ro] [(h, .inr (0, [.null, .null, .int 0, .int 0, .null, .int 0, .int 0]))] (S := Nat → Nat) (fun _ => True) (fun u => [(h, .inr (0, [.ref pl, .ref ro, .int 0, .int 0, .ref (u 0), .int 0, .int 0])), (u 0, .inl (cI, 9, .inl (fun _ => 0)))]) := by
  refine mkC (by decide +kernel) rfl (Nat.le_of_ble_eq_true rfl) (fun o C I hQ => ?_)
  show Gn o D 0 0 [(h, .inr (0, [.null, .null, .int 0, .int 0, .null, .int 0, .int 0]))] 0 [(0, .ref h), (1, .ref pl), (2, .ref ro)] []
  refine n_aload_n C 0 dX0_init_0 rfl ?_
  refine n_aload_n C 1 dX0_init_1 rfl ?_
  refine n_aload_n C 2 dX0_init_2 rfl ?_
  refine n_callI (nc := 0) (ns := 0) (w := [(h, .inr (0, [.null, .null, .int 0, .int 0, .null, .int 0, .int 0]))]) C (As := [.ref pl, .ref ro]) (st := []) (wr := []) (fun l => i_X8_0 l D cI h pl ro) ci_RX0_3 [0] [] rfl rfl (by decide) rfl (by decide) (by decide) (by decide) (by decide) (by decide) rfl (Nat.le_of_ble_eq_true rfl) dX0_init_3 (fun u1 hu1 => ?_)
  show Gn o D 0 0 [(h, .inr (0, [.ref pl, .ref ro, .int 0, .int 0, .null, .int 0, .int 0]))] 6 _ _
  refine n_aload_n C 0 dX0_init_6 rfl ?_
  refine n_bipush C 9 dX0_init_7 (by decide) ?_
  refine n_newi (nc := 0) (ns := 0) (w := [(h, .inr (0, [.ref pl, .ref ro, .int 0, .int 0, .null, .int 0, .int 0]))]) C 0 rfl 9 (by decide) (by decide) (by decide) (by decide) (by decide) dX0_init_9 (fun q2 => ?_)
  show Gn o D 1 9 [(h, .inr (0, [.ref pl, .ref ro, .int 0, .int 0, .null, .int 0, .int 0])), (q2, .inl (cI, 9, .inl (fun _ => 0)))] 11 _ _
  refine n_putF (w := [(h, .inr (0, [.ref pl, .ref ro, .int 0, .int 0, .null, .int 0, .int 0])), (q2, .inl (cI, 9, .inl (fun _ => 0)))]) (w' := [(h, .inr (0, [.ref pl, .ref ro, .int 0, .int 0, .ref q2, .int 0, .int 0])), (q2, .inl (cI, 9, .inl (fun _ => 0)))]) C I in_X0 tyX0 tyX0_ok nmX0 rfl 4 (by decide) tb_175 rfl rfl rfl (tyX0_ok 4 (by decide)) rfl rfl (q := 0) rfl (Nat.le_of_ble_eq_true rfl) rfl dX0_init_11 ?_
  refine n_aload_n C 0 dX0_init_14 rfl ?_
  refine n_iconst C 0 dX0_init_15 (by decide) ?_
  refine n_put (w := [(h, .inr (0, [.ref pl, .ref ro, .int 0, .int 0, .ref q2, .int 0, .int 0])), (q2, .inl (cI, 9, .inl (fun _ => 0)))]) (w' := [(h, .inr (0, [.ref pl, .ref ro, .int 0, .int 0, .ref q2, .int 0, .int 0])), (q2, .inl (cI, 9, .inl (fun _ => 0)))]) C in_X0 tyX0 tyX0_ok nmX0 rfl 5 (by decide) tb_177 rfl rfl (tyX0_ok 5 (by decide)) rfl rfl (q := 0) rfl (Nat.le_of_ble_eq_true rfl) rfl dX0_init_16 ?_
  refine n_aload_n C 0 dX0_init_19 rfl ?_
  refine n_iconst C 0 dX0_init_20 (by decide) ?_
  refine n_put (w := [(h, .inr (0, [.ref pl, .ref ro, .int 0, .int 0, .ref q2, .int 0, .int 0])), (q2, .inl (cI, 9, .inl (fun _ => 0)))]) (w' := [(h, .inr (0, [.ref pl, .ref ro, .int 0, .int 0, .ref q2, .int 0, .int 0])), (q2, .inl (cI, 9, .inl (fun _ => 0)))]) C in_X0 tyX0 tyX0_ok nmX0 rfl 6 (by decide) tb_179 rfl rfl (tyX0_ok 6 (by decide)) rfl rfl (q := 0) rfl (Nat.le_of_ble_eq_true rfl) rfl dX0_init_21 ?_
  exact n_cret (w := [(h, .inr (0, [.ref pl, .ref ro, .int 0, .int 0, .ref q2, .int 0, .int 0])), (q2, .inl (cI, 9, .inl (fun _ => 0)))]) C I hQ (fun k => ([q2] : List Nat).getD k 0) rfl (by decide) (by decide) dX0_init_24 trivial
theorem ci_RX3_3 : CwI RX3 3 yX8_init cX8_init 3 2 := ⟨⟨tb_197, tb_110, tb_5, by decide +kernel, by decide⟩, rfl, tb_109⟩
set_option maxHeartbeats 4000000 in
set_option maxRecDepth 100000 in
theorem i_X3 (l : Launch) (D : va_G) (cI : ClassId) (h : Nat) (pl ro : Nat) : MC l D [(cI, .int)] yX3_init cX3_init 3 2 1 10 [.ref h, .ref pl, .ref ro] [(h, .inr (3, [.null, .null, .int 0, .int 0, .int 0, .null]))] (S := Nat → Nat) (fun _ => True) (fun u => [(h, .inr (3, [.ref pl, .ref ro, .int 0, .int 0, .int 0, .ref (u 0)])), (u 0, .inl (cI, 10, .inl (fun _ => 0)))]) := by
  refine mkC (by decide +kernel) rfl (Nat.le_of_ble_eq_true rfl) (fun o C I hQ => ?_)
  show Gn o D 0 0 [(h, .inr (3, [.null, .null, .int 0, .int 0, .int 0, .null]))] 0 [(0, .ref h), (1, .ref pl), (2, .ref ro)] []
  refine n_aload_n C 0 dX3_init_0 rfl ?_
  refine n_aload_n C 1 dX3_init_1 rfl ?_
  refine n_aload_n C 2 dX3_init_2 rfl ?_
  refine n_callI (nc := 0) (ns := 0) (w := [(h, .inr (3, [.null, .null, .int 0, .int 0, .int 0, .null]))]) C (As := [.ref pl, .ref ro]) (st := []) (wr := []) (fun l => i_X8_3 l D cI h pl ro) ci_RX3_3 [0] [] rfl rfl (by decide) rfl (by decide) (by decide) (by decide) (by decide) (by decide) rfl (Nat.le_of_ble_eq_true rfl) dX3_init_3 (fun u1 hu1 => ?_)
  show Gn o D 0 0 [(h, .inr (3, [.ref pl, .ref ro, .int 0, .int 0, .int 0, .null]))] 6 _ _
  refine n_aload_n C 0 dX3_init_6 rfl ?_
  refine n_iconst C 0 dX3_init_7 (by decide) ?_
  refine n_put (w := [(h, .inr (3, [.ref pl, .ref ro, .int 0, .int 0, .int 0, .null]))]) (w' := [(h, .inr (3, [.ref pl, .ref ro, .int 0, .int 0, .int 0, .null]))]) C in_X3 tyX3 tyX3_ok nmX3 rfl 4 (by decide) tb_198 rfl rfl (tyX3_ok 4 (by decide)) rfl rfl (q := 0) rfl (Nat.le_of_ble_eq_true rfl) rfl dX3_init_8 ?_
  refine n_aload_n C 0 dX3_init_11 rfl ?_
  refine n_bipush C 10 dX3_init_12 (by decide) ?_
  refine n_newi (nc := 0) (ns := 0) (w := [(h, .inr (3, [.ref pl, .ref ro, .int 0, .int 0, .int 0, .null]))]) C 0 rfl 10 (by decide) (by decide) (by decide) (by decide) (by decide) dX3_init_14 (fun q2 => ?_)
  show Gn o D 1 10 [(h, .inr (3, [.ref pl, .ref ro, .int 0, .int 0, .int 0, .null])), (q2, .inl (cI, 10, .inl (fun _ => 0)))] 16 _ _
  refine n_putF (w := [(h, .inr (3, [.ref pl, .ref ro, .int 0, .int 0, .int 0, .null])), (q2, .inl (cI, 10, .inl (fun _ => 0)))]) (w' := [(h, .inr (3, [.ref pl, .ref ro, .int 0, .int 0, .int 0, .ref q2])), (q2, .inl (cI, 10, .inl (fun _ => 0)))]) C I in_X3 tyX3 tyX3_ok nmX3 rfl 5 (by decide) tb_200 rfl rfl rfl (tyX3_ok 5 (by decide)) rfl rfl (q := 0) rfl (Nat.le_of_ble_eq_true rfl) rfl dX3_init_16 ?_
  exact n_cret (w := [(h, .inr (3, [.ref pl, .ref ro, .int 0, .int 0, .int 0, .ref q2])), (q2, .inl (cI, 10, .inl (fun _ => 0)))]) C I hQ (fun k => ([q2] : List Nat).getD k 0) rfl (by decide) (by decide) dX3_init_19 trivial
theorem ci_RX1_3 : CwI RX1 3 yX8_init cX8_init 3 2 := ⟨⟨tb_215, tb_110, tb_5, by decide +kernel, by decide⟩, rfl, tb_109⟩
set_option maxHeartbeats 4000000 in
set_option maxRecDepth 100000 in
theorem i_X1 (l : Launch) (D : va_G) (cI : ClassId) (h : Nat) (pl ro pd : Nat) : MC l D [(cI, .int)] yX1_init cX1_init 4 2 1 9 [.ref h, .ref pl, .ref ro, .ref pd] [(h, .inr (1, [.null, .null, .int 0, .int 0, .null, .null, .int 0]))] (S := Nat → Nat) (fun _ => True) (fun u => [(h, .inr (1, [.ref pl, .ref ro, .int 0, .int 0, .ref pd, .ref (u 0), .int 0])), (u 0, .inl (cI, 9, .inl (fun _ => 0)))]) := by
  refine mkC (by decide +kernel) rfl (Nat.le_of_ble_eq_true rfl) (fun o C I hQ => ?_)
  show Gn o D 0 0 [(h, .inr (1, [.null, .null, .int 0, .int 0, .null, .null, .int 0]))] 0 [(0, .ref h), (1, .ref pl), (2, .ref ro), (3, .ref pd)] []
  refine n_aload_n C 0 dX1_init_0 rfl ?_
  refine n_aload_n C 1 dX1_init_1 rfl ?_
  refine n_aload_n C 2 dX1_init_2 rfl ?_
  refine n_callI (nc := 0) (ns := 0) (w := [(h, .inr (1, [.null, .null, .int 0, .int 0, .null, .null, .int 0]))]) C (As := [.ref pl, .ref ro]) (st := []) (wr := []) (fun l => i_X8_1 l D cI h pl ro) ci_RX1_3 [0] [] rfl rfl (by decide) rfl (by decide) (by decide) (by decide) (by decide) (by decide) rfl (Nat.le_of_ble_eq_true rfl) dX1_init_3 (fun u1 hu1 => ?_)
  show Gn o D 0 0 [(h, .inr (1, [.ref pl, .ref ro, .int 0, .int 0, .null, .null, .int 0]))] 6 _ _
  refine n_aload_n C 0 dX1_init_6 rfl ?_
  refine n_bipush C 9 dX1_init_7 (by decide) ?_
  refine n_newi (nc := 0) (ns := 0) (w := [(h, .inr (1, [.ref pl, .ref ro, .int 0, .int 0, .null, .null, .int 0]))]) C 0 rfl 9 (by decide) (by decide) (by decide) (by decide) (by decide) dX1_init_9 (fun q2 => ?_)
  show Gn o D 1 9 [(h, .inr (1, [.ref pl, .ref ro, .int 0, .int 0, .null, .null, .int 0])), (q2, .inl (cI, 9, .inl (fun _ => 0)))] 11 _ _
  refine n_putF (w := [(h, .inr (1, [.ref pl, .ref ro, .int 0, .int 0, .null, .null, .int 0])), (q2, .inl (cI, 9, .inl (fun _ => 0)))]) (w' := [(h, .inr (1, [.ref pl, .ref ro, .int 0, .int 0, .null, .ref q2, .int 0])), (q2, .inl (cI, 9, .inl (fun _ => 0)))]) C I in_X1 tyX1 tyX1_ok nmX1 rfl 5 (by decide) tb_217 rfl rfl rfl (tyX1_ok 5 (by decide)) rfl rfl (q := 0) rfl (Nat.le_of_ble_eq_true rfl) rfl dX1_init_11 ?_
  refine n_aload_n C 0 dX1_init_14 rfl ?_
  refine n_iconst C 0 dX1_init_15 (by decide) ?_
  refine n_put (w := [(h, .inr (1, [.ref pl, .ref ro, .int 0, .int 0, .null, .ref q2, .int 0])), (q2, .inl (cI, 9, .inl (fun _ => 0)))]) (w' := [(h, .inr (1, [.ref pl, .ref ro, .int 0, .int 0, .null, .ref q2, .int 0])), (q2, .inl (cI, 9, .inl (fun _ => 0)))]) C in_X1 tyX1 tyX1_ok nmX1 rfl 6 (by decide) tb_219 rfl rfl (tyX1_ok 6 (by decide)) rfl rfl (q := 0) rfl (Nat.le_of_ble_eq_true rfl) rfl dX1_init_16 ?_
  refine n_aload_n C 0 dX1_init_19 rfl ?_
  refine n_aload_n C 3 dX1_init_20 rfl ?_
  refine n_putF (w := [(h, .inr (1, [.ref pl, .ref ro, .int 0, .int 0, .null, .ref q2, .int 0])), (q2, .inl (cI, 9, .inl (fun _ => 0)))]) (w' := [(h, .inr (1, [.ref pl, .ref ro, .int 0, .int 0, .ref pd, .ref q2, .int 0])), (q2, .inl (cI, 9, .inl (fun _ => 0)))]) C I in_X1 tyX1 tyX1_ok nmX1 rfl 4 (by decide) tb_216 rfl rfl rfl (tyX1_ok 4 (by decide)) rfl rfl (q := 0) rfl (Nat.le_of_ble_eq_true rfl) rfl dX1_init_21 ?_
  exact n_cret (w := [(h, .inr (1, [.ref pl, .ref ro, .int 0, .int 0, .ref pd, .ref q2, .int 0])), (q2, .inl (cI, 9, .inl (fun _ => 0)))]) C I hQ (fun k => ([q2] : List Nat).getD k 0) rfl (by decide) (by decide) dX1_init_24 trivial
set_option maxHeartbeats 4000000 in
set_option maxRecDepth 100000 in
theorem i_X7 (l : Launch) (D : va_G) (cI : ClassId) (h : Nat) (pd ro : Nat) : MC l D [(cI, .int)] yX7_init cX7_init 3 1 0 0 [.ref h, .ref pd, .ref ro] [(h, .inr (7, [.null, .null, .int 0]))] (S := Nat → Nat) (fun _ => True) (fun u => [(h, .inr (7, [.ref pd, .ref ro, .int 0]))]) := by
  refine mkC (by decide +kernel) rfl (Nat.le_of_ble_eq_true rfl) (fun o C I hQ => ?_)
  show Gn o D 0 0 [(h, .inr (7, [.null, .null, .int 0]))] 0 [(0, .ref h), (1, .ref pd), (2, .ref ro)] []
  refine n_aload_n C 0 dX7_init_0 rfl ?_
  refine n_objInit C (by decide) tb_237 (Nat.le_of_ble_eq_true rfl) dX7_init_1 ?_
  refine n_aload_n C 0 dX7_init_4 rfl ?_
  refine n_iconst C 0 dX7_init_5 (by decide) ?_
  refine n_put (w := [(h, .inr (7, [.null, .null, .int 0]))]) (w' := [(h, .inr (7, [.null, .null, .int 0]))]) C in_X7 tyX7 tyX7_ok nmX7 rfl 2 (by decide) tb_240 rfl rfl (tyX7_ok 2 (by decide)) rfl rfl (q := 0) rfl (Nat.le_of_ble_eq_true rfl) rfl dX7_init_6 ?_
  refine n_aload_n C 0 dX7_init_9 rfl ?_
  refine n_aload_n C 1 dX7_init_10 rfl ?_
  refine n_putF (w := [(h, .inr (7, [.null, .null, .int 0]))]) (w' := [(h, .inr (7, [.ref pd, .null, .int 0]))]) C I in_X7 tyX7 tyX7_ok nmX7 rfl 0 (by decide) tb_238 rfl rfl rfl (tyX7_ok 0 (by decide)) rfl rfl (q := 0) rfl (Nat.le_of_ble_eq_true rfl) rfl dX7_init_11 ?_
  refine n_aload_n C 0 dX7_init_14 rfl ?_
  refine n_aload_n C 2 dX7_init_15 rfl ?_
  refine n_putF (w := [(h, .inr (7, [.ref pd, .null, .int 0]))]) (w' := [(h, .inr (7, [.ref pd, .ref ro, .int 0]))]) C I in_X7 tyX7 tyX7_ok nmX7 rfl 1 (by decide) tb_239 rfl rfl rfl (tyX7_ok 1 (by decide)) rfl rfl (q := 0) rfl (Nat.le_of_ble_eq_true rfl) rfl dX7_init_16 ?_
  exact n_cret (w := [(h, .inr (7, [.ref pd, .ref ro, .int 0]))]) C I hQ (fun k => ([] : List Nat).getD k 0) rfl (by decide) (by decide) dX7_init_19 trivial
