theorem c2_n : (2 : Int32).toNatClampNeg = 2 := by decide
theorem c3_n : (3 : Int32).toNatClampNeg = 3 := by decide
theorem S0_75 : S0.1 75 = upd (upd (fun _ => 0) 2 20) 3 1 := by
  funext j
  have h3 : kd 75 ≠ 3 := by decide
  have h6 : kd 75 ≠ 6 := by decide
  simp only [S0, h3, h6, if_false, upd]
  by_cases e3 : j = 3
  · subst e3; rfl
  · by_cases e2 : j = 2
    · subst e2; rfl
    · simp [e2, e3]
set_option maxHeartbeats 8000000 in
theorem g_X8_init (l : Launch) (ρ : zR) (f : Nat → va_E) (h0 : f 74 = .inr (8, [.null, .null, .null, .null, .int 0, .null, .null, .null, .int 0, .int 0, .int 0, .null, .int 0, .null, .null, .int 0])) (hz : Pz ρ f 0 74) : GT l yX8_init M_X8_init 10 851 ρ 74 75 f 85 (fun f' => Pz ρ f' 0 85) := by
  refine gt_of (by decide) rfl (Nat.le_of_ble_eq_true rfl) ?_
  refine v_aload_n 0 dX8_init_0 rfl ?_
  refine v_objInit (M := M_X8_init) (pc := 1) dX8_init_1 (oi_8 _ rfl) (by decide) (by decide) _ ?_
  refine v_aload_n 0 dX8_init_4 rfl ?_
  refine v_sipush (v := 132) dX8_init_5 rfl ?_
  refine v_newi (N' := 132) dX8_init_8 wi_int (by decide) (by decide) (Nat.le_of_ble_eq_true rfl) (Nat.le_of_ble_eq_true rfl) (Nat.le_of_ble_eq_true rfl) ?_
  refine v_put (ci := 8) (k := 74) (fs := [.null, .null, .null, .null, .int 0, .null, .null, .null, .int 0, .int 0, .int 0, .null, .int 0, .null, .null, .int 0]) (fk := 0) (v := .ref (ρ.2.1 75)) (ty := (.array .int)) dX8_init_10 RX8 TX8 16 tyX8 rfl wsu_8 tyX8_ok nmX8 (by decide) rfl rfl cl_8_9 (by decide +kernel) rfl rfl (by decide) (by rw [va_ne (show (74 : Nat) ≠ (75) by decide), h0]) (Nat.le_of_ble_eq_true rfl) ?_
  refine v_aload_n 0 dX8_init_13 rfl ?_
  refine v_sipush (v := 132) dX8_init_14 rfl ?_
  refine v_newi (N' := 132) dX8_init_17 wi_int (by decide) (by decide) (Nat.le_of_ble_eq_true rfl) (Nat.le_of_ble_eq_true rfl) (Nat.le_of_ble_eq_true rfl) ?_
  refine v_put (ci := 8) (k := 74) (fs := [.ref (ρ.2.1 75), .null, .null, .null, .int 0, .null, .null, .null, .int 0, .int 0, .int 0, .null, .int 0, .null, .null, .int 0]) (fk := 1) (v := .ref (ρ.2.1 76)) (ty := (.array .int)) dX8_init_19 RX8 TX8 16 tyX8 rfl wsu_8 tyX8_ok nmX8 (by decide) rfl rfl cl_8_13 (by decide +kernel) rfl rfl (by decide) (by rw [va_ne (show (74 : Nat) ≠ (76) by decide), va_eq]; rfl) (Nat.le_of_ble_eq_true rfl) ?_
  refine v_aload_n 0 dX8_init_22 rfl ?_
  refine v_sipush (v := 132) dX8_init_23 rfl ?_
  refine v_newi (N' := 132) dX8_init_26 wi_int (by decide) (by decide) (Nat.le_of_ble_eq_true rfl) (Nat.le_of_ble_eq_true rfl) (Nat.le_of_ble_eq_true rfl) ?_
  refine v_put (ci := 8) (k := 74) (fs := [.ref (ρ.2.1 75), .ref (ρ.2.1 76), .null, .null, .int 0, .null, .null, .null, .int 0, .int 0, .int 0, .null, .int 0, .null, .null, .int 0]) (fk := 2) (v := .ref (ρ.2.1 77)) (ty := (.array .int)) dX8_init_28 RX8 TX8 16 tyX8 rfl wsu_8 tyX8_ok nmX8 (by decide) rfl rfl cl_8_16 (by decide +kernel) rfl rfl (by decide) (by rw [va_ne (show (74 : Nat) ≠ (77) by decide), va_eq]; rfl) (Nat.le_of_ble_eq_true rfl) ?_
  refine v_aload_n 0 dX8_init_31 rfl ?_
  refine v_sipush (v := 132) dX8_init_32 rfl ?_
  refine v_newi (N' := 132) dX8_init_35 wi_int (by decide) (by decide) (Nat.le_of_ble_eq_true rfl) (Nat.le_of_ble_eq_true rfl) (Nat.le_of_ble_eq_true rfl) ?_
  refine v_put (ci := 8) (k := 74) (fs := [.ref (ρ.2.1 75), .ref (ρ.2.1 76), .ref (ρ.2.1 77), .null, .int 0, .null, .null, .null, .int 0, .int 0, .int 0, .null, .int 0, .null, .null, .int 0]) (fk := 3) (v := .ref (ρ.2.1 78)) (ty := (.array .int)) dX8_init_37 RX8 TX8 16 tyX8 rfl wsu_8 tyX8_ok nmX8 (by decide) rfl rfl cl_8_19 (by decide +kernel) rfl rfl (by decide) (by rw [va_ne (show (74 : Nat) ≠ (78) by decide), va_eq]; rfl) (Nat.le_of_ble_eq_true rfl) ?_
  refine v_aload_n 0 dX8_init_40 rfl ?_
  refine v_bipush (v := 96) dX8_init_41 rfl ?_
  refine v_newi (N' := 96) dX8_init_43 wi_int (by decide) (by decide) (Nat.le_of_ble_eq_true rfl) (Nat.le_of_ble_eq_true rfl) (Nat.le_of_ble_eq_true rfl) ?_
  refine v_put (ci := 8) (k := 74) (fs := [.ref (ρ.2.1 75), .ref (ρ.2.1 76), .ref (ρ.2.1 77), .ref (ρ.2.1 78), .int 0, .null, .null, .null, .int 0, .int 0, .int 0, .null, .int 0, .null, .null, .int 0]) (fk := 5) (v := .ref (ρ.2.1 79)) (ty := (.array .int)) dX8_init_45 RX8 TX8 16 tyX8 rfl wsu_8 tyX8_ok nmX8 (by decide) rfl rfl cl_8_22 (by decide +kernel) rfl rfl (by decide) (by rw [va_ne (show (74 : Nat) ≠ (79) by decide), va_eq]; rfl) (Nat.le_of_ble_eq_true rfl) ?_
  refine v_aload_n 0 dX8_init_48 rfl ?_
  refine v_bipush (v := 16) dX8_init_49 rfl ?_
  refine v_newi (N' := 16) dX8_init_51 wi_int (by decide) (by decide) (Nat.le_of_ble_eq_true rfl) (Nat.le_of_ble_eq_true rfl) (Nat.le_of_ble_eq_true rfl) ?_
  refine v_put (ci := 8) (k := 74) (fs := [.ref (ρ.2.1 75), .ref (ρ.2.1 76), .ref (ρ.2.1 77), .ref (ρ.2.1 78), .int 0, .ref (ρ.2.1 79), .null, .null, .int 0, .int 0, .int 0, .null, .int 0, .null, .null, .int 0]) (fk := 6) (v := .ref (ρ.2.1 80)) (ty := (.array .int)) dX8_init_53 RX8 TX8 16 tyX8 rfl wsu_8 tyX8_ok nmX8 (by decide) rfl rfl cl_8_25 (by decide +kernel) rfl rfl (by decide) (by rw [va_ne (show (74 : Nat) ≠ (80) by decide), va_eq]; rfl) (Nat.le_of_ble_eq_true rfl) ?_
  refine v_aload_n 0 dX8_init_56 rfl ?_
  refine v_bipush (v := 7) dX8_init_57 rfl ?_
  refine v_newi (N' := 7) dX8_init_59 wi_int (by decide) (by decide) (Nat.le_of_ble_eq_true rfl) (Nat.le_of_ble_eq_true rfl) (Nat.le_of_ble_eq_true rfl) ?_
  refine v_put (ci := 8) (k := 74) (fs := [.ref (ρ.2.1 75), .ref (ρ.2.1 76), .ref (ρ.2.1 77), .ref (ρ.2.1 78), .int 0, .ref (ρ.2.1 79), .ref (ρ.2.1 80), .null, .int 0, .int 0, .int 0, .null, .int 0, .null, .null, .int 0]) (fk := 7) (v := .ref (ρ.2.1 81)) (ty := (.array .int)) dX8_init_61 RX8 TX8 16 tyX8 rfl wsu_8 tyX8_ok nmX8 (by decide) rfl rfl cl_8_28 (by decide +kernel) rfl rfl (by decide) (by rw [va_ne (show (74 : Nat) ≠ (81) by decide), va_eq]; rfl) (Nat.le_of_ble_eq_true rfl) ?_
  refine v_aload_n 0 dX8_init_64 rfl ?_
  refine v_iconst (v := 4) dX8_init_65 rfl ?_
  refine v_newi (N' := 4) dX8_init_66 wi_int (by decide) (by decide) (Nat.le_of_ble_eq_true rfl) (Nat.le_of_ble_eq_true rfl) (Nat.le_of_ble_eq_true rfl) ?_
  refine v_put (ci := 8) (k := 74) (fs := [.ref (ρ.2.1 75), .ref (ρ.2.1 76), .ref (ρ.2.1 77), .ref (ρ.2.1 78), .int 0, .ref (ρ.2.1 79), .ref (ρ.2.1 80), .ref (ρ.2.1 81), .int 0, .int 0, .int 0, .null, .int 0, .null, .null, .int 0]) (fk := 11) (v := .ref (ρ.2.1 82)) (ty := (.array .int)) dX8_init_68 RX8 TX8 16 tyX8 rfl wsu_8 tyX8_ok nmX8 (by decide) rfl rfl cl_8_31 (by decide +kernel) rfl rfl (by decide) (by rw [va_ne (show (74 : Nat) ≠ (82) by decide), va_eq]; rfl) (Nat.le_of_ble_eq_true rfl) ?_
  refine v_aload_n 0 dX8_init_71 rfl ?_
  refine v_bipush (v := 100) dX8_init_72 rfl ?_
  refine v_newi (N' := 100) dX8_init_74 wi_int (by decide) (by decide) (Nat.le_of_ble_eq_true rfl) (Nat.le_of_ble_eq_true rfl) (Nat.le_of_ble_eq_true rfl) ?_
  refine v_put (ci := 8) (k := 74) (fs := [.ref (ρ.2.1 75), .ref (ρ.2.1 76), .ref (ρ.2.1 77), .ref (ρ.2.1 78), .int 0, .ref (ρ.2.1 79), .ref (ρ.2.1 80), .ref (ρ.2.1 81), .int 0, .int 0, .int 0, .ref (ρ.2.1 82), .int 0, .null, .null, .int 0]) (fk := 13) (v := .ref (ρ.2.1 83)) (ty := (.array .int)) dX8_init_76 RX8 TX8 16 tyX8 rfl wsu_8 tyX8_ok nmX8 (by decide) rfl rfl cl_8_34 (by decide +kernel) rfl rfl (by decide) (by rw [va_ne (show (74 : Nat) ≠ (83) by decide), va_eq]; rfl) (Nat.le_of_ble_eq_true rfl) ?_
  refine v_aload_n 0 dX8_init_79 rfl ?_
  refine v_bipush (v := 100) dX8_init_80 rfl ?_
  refine v_newi (N' := 100) dX8_init_82 wi_int (by decide) (by decide) (Nat.le_of_ble_eq_true rfl) (Nat.le_of_ble_eq_true rfl) (Nat.le_of_ble_eq_true rfl) ?_
  refine v_put (ci := 8) (k := 74) (fs := [.ref (ρ.2.1 75), .ref (ρ.2.1 76), .ref (ρ.2.1 77), .ref (ρ.2.1 78), .int 0, .ref (ρ.2.1 79), .ref (ρ.2.1 80), .ref (ρ.2.1 81), .int 0, .int 0, .int 0, .ref (ρ.2.1 82), .int 0, .ref (ρ.2.1 83), .null, .int 0]) (fk := 14) (v := .ref (ρ.2.1 84)) (ty := (.array .int)) dX8_init_84 RX8 TX8 16 tyX8 rfl wsu_8 tyX8_ok nmX8 (by decide) rfl rfl cl_8_37 (by decide +kernel) rfl rfl (by decide) (by rw [va_ne (show (74 : Nat) ≠ (84) by decide), va_eq]; rfl) (Nat.le_of_ble_eq_true rfl) ?_
  refine v_aload_n 0 dX8_init_87 rfl ?_
  refine v_get (ci := 8) (k := 74) (fs := [.ref (ρ.2.1 75), .ref (ρ.2.1 76), .ref (ρ.2.1 77), .ref (ρ.2.1 78), .int 0, .ref (ρ.2.1 79), .ref (ρ.2.1 80), .ref (ρ.2.1 81), .int 0, .int 0, .int 0, .ref (ρ.2.1 82), .int 0, .ref (ρ.2.1 83), .ref (ρ.2.1 84), .int 0]) (fk := 0) (v := .ref (ρ.2.1 75)) dX8_init_88 RX8 TX8 16 rfl wsu_8 (by decide) rfl rfl cl_8_9 (by decide) (va_eq) rfl ?_
  refine v_iconst (v := 2) dX8_init_91 rfl ?_
  refine v_bipush (v := 20) dX8_init_92 rfl ?_
  refine v_iast (k0 := 75) (N := 132) (g := (fun _ => 0)) dX8_init_94 (by decide) (by simp [va_up]) (vp_in_nI (n := 2) (by decide) (by decide)) ?_
  refine v_aload_n 0 dX8_init_95 rfl ?_
  refine v_get (ci := 8) (k := 74) (fs := [.ref (ρ.2.1 75), .ref (ρ.2.1 76), .ref (ρ.2.1 77), .ref (ρ.2.1 78), .int 0, .ref (ρ.2.1 79), .ref (ρ.2.1 80), .ref (ρ.2.1 81), .int 0, .int 0, .int 0, .ref (ρ.2.1 82), .int 0, .ref (ρ.2.1 83), .ref (ρ.2.1 84), .int 0]) (fk := 0) (v := .ref (ρ.2.1 75)) dX8_init_96 RX8 TX8 16 rfl wsu_8 (by decide) rfl rfl cl_8_9 (by decide) (by rw [va_ne (show (74 : Nat) ≠ 75 by decide), va_eq]; rfl) rfl ?_
  refine v_iconst (v := 3) dX8_init_99 rfl ?_
  refine v_iconst (v := 1) dX8_init_100 rfl ?_
  refine v_iast (k0 := 75) (N := 132) (g := (upd (fun _ => 0) (2 : Int32).toNatClampNeg 20)) dX8_init_101 (by decide) (va_eq) (vp_in_nI (n := 3) (by decide) (by decide)) ?_
  refine v_ret dX8_init_102 rfl rfl (fun i g1 g2 => ?_) (Nat.le_refl _) (Nat.le_refl _)
  rcases Nat.lt_or_ge i 74 with q | q
  · have e : ∀ j, 74 ≤ j → i ≠ j := fun j hj => by omega
    simp only [va_up, e 74 (by decide), e 75 (by decide), e 76 (by decide), e 77 (by decide), e 78 (by decide), e 79 (by decide), e 80 (by decide), e 81 (by decide), e 82 (by decide), e 83 (by decide), e 84 (by decide), if_false, Nat.reduceAdd]
    exact hz i g1 q
  · rcases (show i = 74 ∨ i = 75 ∨ i = 76 ∨ i = 77 ∨ i = 78 ∨ i = 79 ∨ i = 80 ∨ i = 81 ∨ i = 82 ∨ i = 83 ∨ i = 84 by omega) with rfl | rfl | rfl | rfl | rfl | rfl | rfl | rfl | rfl | rfl | rfl
    · refine sim_eq ?_
      rw [zc_obj kdl_74 (by decide)]
      simp [va_up, zf, rv, S0, kdl_74]
    · refine sim_eq ?_
      rw [zc_ints kdl_75 (by decide) (by decide), S0_75]
      simp [va_up, il, c2_n, c3_n]
    · refine sim_eq ?_
      rw [zc_ints kdl_76 (by decide) (by decide), S0_zero (by rw [kdl_76]; decide) (by rw [kdl_76]; decide) (by decide)]
      simp [va_up, il]
    · refine sim_eq ?_
      rw [zc_ints kdl_77 (by decide) (by decide), S0_zero (by rw [kdl_77]; decide) (by rw [kdl_77]; decide) (by decide)]
      simp [va_up, il]
    · refine sim_eq ?_
      rw [zc_ints kdl_78 (by decide) (by decide), S0_zero (by rw [kdl_78]; decide) (by rw [kdl_78]; decide) (by decide)]
      simp [va_up, il]
    · refine sim_eq ?_
      rw [zc_ints kdl_79 (by decide) (by decide), S0_zero (by rw [kdl_79]; decide) (by rw [kdl_79]; decide) (by decide)]
      simp [va_up, il]
    · refine sim_eq ?_
      rw [zc_ints kdl_80 (by decide) (by decide), S0_zero (by rw [kdl_80]; decide) (by rw [kdl_80]; decide) (by decide)]
      simp [va_up, il]
    · refine sim_eq ?_
      rw [zc_ints kdl_81 (by decide) (by decide), S0_zero (by rw [kdl_81]; decide) (by rw [kdl_81]; decide) (by decide)]
      simp [va_up, il]
    · refine sim_eq ?_
      rw [zc_ints kdl_82 (by decide) (by decide), S0_zero (by rw [kdl_82]; decide) (by rw [kdl_82]; decide) (by decide)]
      simp [va_up, il]
    · refine sim_eq ?_
      rw [zc_ints kdl_83 (by decide) (by decide), S0_zero (by rw [kdl_83]; decide) (by rw [kdl_83]; decide) (by decide)]
      simp [va_up, il]
    · refine sim_eq ?_
      rw [zc_ints kdl_84 (by decide) (by decide), S0_zero (by rw [kdl_84]; decide) (by rw [kdl_84]; decide) (by decide)]
      simp [va_up, il]
