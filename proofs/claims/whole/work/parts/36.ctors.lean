set_option maxHeartbeats 2000000 in
theorem g_X6_init (l : Launch) (ρ : zR) (k : Nat) (f : Nat → va_E) (hk : f k = .inr (6, [.int 0, .int 0, .int 0, .null])) (h0 : kd k = 6) (h1 : kd (k + 1) = 11) : GT l yX6_init M_X6_init 1 12 ρ k (k + 1) f (k + 1 + 1) (fun f' => (∀ i, i < k → f' i = f i) ∧ Pz ρ f' k (k + 2) ∧ f' k = zc ρ S0 k) := by
  refine gt_of (by decide) rfl (Nat.le_of_ble_eq_true rfl) ?_
  refine v_aload_n 0 dX6_init_0 rfl ?_
  refine v_objInit dX6_init_1 (oi_6 _ rfl) (by decide) (by decide) _ ?_
  refine v_aload_n 0 dX6_init_4 rfl ?_
  refine v_bipush (v := (-9)) dX6_init_5 rfl ?_
  refine v_put (ci := 6) (k := k) (fs := [.int 0, .int 0, .int 0, .null]) (fk := 2) (v := .int (-9)) (ty := .int) dX6_init_7 RX6 TX6 4 tyX6 rfl wsu_6 tyX6_ok nmX6 (by decide) rfl rfl cl_6_9 (by decide +kernel) rfl rfl (by omega) hk (Nat.le_of_ble_eq_true rfl) ?_
  refine v_aload_n 0 dX6_init_10 rfl ?_
  refine v_bipush (v := 12) dX6_init_11 rfl ?_
  refine v_newi (N' := 12) dX6_init_13 wi_int (by decide) (by decide) (Nat.le_of_ble_eq_true rfl) (Nat.le_of_ble_eq_true rfl) (Nat.le_of_ble_eq_true rfl) ?_
  refine v_put (ci := 6) (k := k) (fs := [.int 0, .int 0, .int (-9), .null]) (fk := 3) (v := .ref (ρ.2.1 (k + 1))) (ty := (.array .int)) dX6_init_15 RX6 TX6 4 tyX6 rfl wsu_6 tyX6_ok nmX6 (by decide) rfl rfl cl_6_15 (by decide +kernel) rfl rfl (by omega) (by rw [va_ne (show k ≠ (k + 1) by omega), va_eq]; rfl) (Nat.le_of_ble_eq_true rfl) ?_
  refine v_ret dX6_init_18 rfl rfl ⟨fun i hi => ?_, fun i g1 g2 => ?_, ?_⟩ (Nat.le_refl _) (Nat.le_refl _)
  · have e0 : i ≠ k := by omega
    have e1 : i ≠ k + 1 := by omega
    simp only [va_up, e0, e1, if_false]
  · rcases (show i = k ∨ i = k + 1 by omega) with q | q
    · rw [q]
      refine sim_eq ?_
      rw [zc_obj h0 (by decide), va_eq]
      have e75 : k ≠ 75 := by intro q; rw [q] at h0; revert h0; decide
      simp [zf, rv, S0, h0, e75, Nat.add_assoc]
    · rw [q]
      refine sim_eq ?_
      rw [zc_ints h1 (by decide) (by decide), S0_zero (by rw [h1]; decide) (by rw [h1]; decide) (by intro q; rw [q] at h1; revert h1; decide)]
      rw [va_ne (show k + 1 ≠ k by omega)]
      exact va_eq
  · have e75 : k ≠ 75 := by intro q; rw [q] at h0; revert h0; decide
    rw [zc_obj h0 (by decide), va_eq]
    simp [zf, rv, S0, h0, e75, Nat.add_assoc]
set_option maxHeartbeats 2000000 in
theorem g_X5_init (l : Launch) (ρ : zR) (k : Nat) (f : Nat → va_E) (hk : f k = .inr (5, [.null, .int 0])) (h0 : kd k = 5) (h1 : kd (k + 1) = 12) : GT l yX5_init M_X5_init 1 96 ρ k (k + 1) f (k + 1 + 1) (fun f' => (∀ i, i < k → f' i = f i) ∧ Pz ρ f' k (k + 2) ∧ f' k = zc ρ S0 k) := by
  refine gt_of (by decide) rfl (Nat.le_of_ble_eq_true rfl) ?_
  refine v_aload_n 0 dX5_init_0 rfl ?_
  refine v_objInit dX5_init_1 (oi_5 _ rfl) (by decide) (by decide) _ ?_
  refine v_aload_n 0 dX5_init_4 rfl ?_
  refine v_bipush (v := 96) dX5_init_5 rfl ?_
  refine v_newi (N' := 96) dX5_init_7 wi_int (by decide) (by decide) (Nat.le_of_ble_eq_true rfl) (Nat.le_of_ble_eq_true rfl) (Nat.le_of_ble_eq_true rfl) ?_
  refine v_put (ci := 5) (k := k) (fs := [.null, .int 0]) (fk := 0) (v := .ref (ρ.2.1 (k + 1))) (ty := (.array .int)) dX5_init_9 RX5 TX5 2 tyX5 rfl wsu_5 tyX5_ok nmX5 (by decide) rfl rfl cl_5_9 (by decide +kernel) rfl rfl (by omega) (by rw [va_ne (show k ≠ (k + 1) by omega), hk]) (Nat.le_of_ble_eq_true rfl) ?_
  refine v_ret dX5_init_12 rfl rfl ⟨fun i hi => ?_, fun i g1 g2 => ?_, ?_⟩ (Nat.le_refl _) (Nat.le_refl _)
  · have e0 : i ≠ k := by omega
    have e1 : i ≠ k + 1 := by omega
    simp only [va_up, e0, e1, if_false]
  · rcases (show i = k ∨ i = k + 1 by omega) with q | q
    · rw [q]
      refine sim_eq ?_
      rw [zc_obj h0 (by decide), va_eq]
      have e75 : k ≠ 75 := by intro q; rw [q] at h0; revert h0; decide
      simp [zf, rv, S0, h0, e75, Nat.add_assoc]
    · rw [q]
      refine sim_eq ?_
      rw [zc_ints h1 (by decide) (by decide), S0_zero (by rw [h1]; decide) (by rw [h1]; decide) (by intro q; rw [q] at h1; revert h1; decide)]
      rw [va_ne (show k + 1 ≠ k by omega)]
      exact va_eq
  · have e75 : k ≠ 75 := by intro q; rw [q] at h0; revert h0; decide
    rw [zc_obj h0 (by decide), va_eq]
    simp [zf, rv, S0, h0, e75, Nat.add_assoc]
set_option maxHeartbeats 2000000 in
theorem g_X2_init (l : Launch) (ρ : zR) (k : Nat) (f : Nat → va_E) (hk : f k = .inr (2, [.null, .int 0])) (h0 : kd k = 2) (h1 : kd (k + 1) = 13) : GT l yX2_init M_X2_init 1 16 ρ k (k + 1) f (k + 1 + 1) (fun f' => (∀ i, i < k → f' i = f i) ∧ Pz ρ f' k (k + 2) ∧ f' k = zc ρ S0 k) := by
  refine gt_of (by decide) rfl (Nat.le_of_ble_eq_true rfl) ?_
  refine v_aload_n 0 dX2_init_0 rfl ?_
  refine v_objInit dX2_init_1 (oi_2 _ rfl) (by decide) (by decide) _ ?_
  refine v_aload_n 0 dX2_init_4 rfl ?_
  refine v_bipush (v := 16) dX2_init_5 rfl ?_
  refine v_newi (N' := 16) dX2_init_7 wi_int (by decide) (by decide) (Nat.le_of_ble_eq_true rfl) (Nat.le_of_ble_eq_true rfl) (Nat.le_of_ble_eq_true rfl) ?_
  refine v_put (ci := 2) (k := k) (fs := [.null, .int 0]) (fk := 0) (v := .ref (ρ.2.1 (k + 1))) (ty := (.array .int)) dX2_init_9 RX2 TX2 2 tyX2 rfl wsu_2 tyX2_ok nmX2 (by decide) rfl rfl cl_2_9 (by decide +kernel) rfl rfl (by omega) (by rw [va_ne (show k ≠ (k + 1) by omega), hk]) (Nat.le_of_ble_eq_true rfl) ?_
  refine v_ret dX2_init_12 rfl rfl ⟨fun i hi => ?_, fun i g1 g2 => ?_, ?_⟩ (Nat.le_refl _) (Nat.le_refl _)
  · have e0 : i ≠ k := by omega
    have e1 : i ≠ k + 1 := by omega
    simp only [va_up, e0, e1, if_false]
  · rcases (show i = k ∨ i = k + 1 by omega) with q | q
    · rw [q]
      refine sim_eq ?_
      rw [zc_obj h0 (by decide), va_eq]
      have e75 : k ≠ 75 := by intro q; rw [q] at h0; revert h0; decide
      simp [zf, rv, S0, h0, e75, Nat.add_assoc]
    · rw [q]
      refine sim_eq ?_
      rw [zc_ints h1 (by decide) (by decide), S0_zero (by rw [h1]; decide) (by rw [h1]; decide) (by intro q; rw [q] at h1; revert h1; decide)]
      rw [va_ne (show k + 1 ≠ k by omega)]
      exact va_eq
  · have e75 : k ≠ 75 := by intro q; rw [q] at h0; revert h0; decide
    rw [zc_obj h0 (by decide), va_eq]
    simp [zf, rv, S0, h0, e75, Nat.add_assoc]
set_option maxHeartbeats 2000000 in
theorem g_X1_init (l : Launch) (ρ : zR) (k : Nat) (f : Nat → va_E) (hk : f k = .inr (1, [.null, .null, .int 0, .int 0, .int 0])) (h0 : kd k = 1) (h1 : kd (k + 1) = 10) (h2 : kd (k + 2) = 10) : GT l yX1_init M_X1_init 2 16 ρ k (k + 1) f (k + 1 + 1 + 1) (fun f' => (∀ i, i < k → f' i = f i) ∧ Pz ρ f' k (k + 3) ∧ f' k = zc ρ S0 k) := by
  refine gt_of (by decide) rfl (Nat.le_of_ble_eq_true rfl) ?_
  refine v_aload_n 0 dX1_init_0 rfl ?_
  refine v_objInit dX1_init_1 (oi_1 _ rfl) (by decide) (by decide) _ ?_
  refine v_aload_n 0 dX1_init_4 rfl ?_
  refine v_bipush (v := 8) dX1_init_5 rfl ?_
  refine v_newi (N' := 8) dX1_init_7 wi_int (by decide) (by decide) (Nat.le_of_ble_eq_true rfl) (Nat.le_of_ble_eq_true rfl) (Nat.le_of_ble_eq_true rfl) ?_
  refine v_put (ci := 1) (k := k) (fs := [.null, .null, .int 0, .int 0, .int 0]) (fk := 0) (v := .ref (ρ.2.1 (k + 1))) (ty := (.array .int)) dX1_init_9 RX1 TX1 5 tyX1 rfl wsu_1 tyX1_ok nmX1 (by decide) rfl rfl cl_1_9 (by decide +kernel) rfl rfl (by omega) (by rw [va_ne (show k ≠ (k + 1) by omega), hk]) (Nat.le_of_ble_eq_true rfl) ?_
  refine v_aload_n 0 dX1_init_12 rfl ?_
  refine v_bipush (v := 8) dX1_init_13 rfl ?_
  refine v_newi (N' := 8) dX1_init_15 wi_int (by decide) (by decide) (Nat.le_of_ble_eq_true rfl) (Nat.le_of_ble_eq_true rfl) (Nat.le_of_ble_eq_true rfl) ?_
  refine v_put (ci := 1) (k := k) (fs := [.ref (ρ.2.1 (k + 1)), .null, .int 0, .int 0, .int 0]) (fk := 1) (v := .ref (ρ.2.1 (k + 1 + 1))) (ty := (.array .int)) dX1_init_17 RX1 TX1 5 tyX1 rfl wsu_1 tyX1_ok nmX1 (by decide) rfl rfl cl_1_15 (by decide +kernel) rfl rfl (by omega) (by rw [va_ne (show k ≠ (k + 1 + 1) by omega), va_eq]; rfl) (Nat.le_of_ble_eq_true rfl) ?_
  refine v_ret dX1_init_20 rfl rfl ⟨fun i hi => ?_, fun i g1 g2 => ?_, ?_⟩ (Nat.le_refl _) (Nat.le_refl _)
  · have e0 : i ≠ k := by omega
    have e1 : i ≠ k + 1 := by omega
    have e2 : i ≠ k + 1 + 1 := by omega
    simp only [va_up, e0, e1, e2, if_false]
  · rcases (show i = k ∨ i = k + 1 ∨ i = k + 2 by omega) with q | q | q
    · rw [q]
      refine sim_eq ?_
      rw [zc_obj h0 (by decide), va_eq]
      have e75 : k ≠ 75 := by intro q; rw [q] at h0; revert h0; decide
      simp [zf, rv, S0, h0, e75, Nat.add_assoc]
    · rw [q]
      refine sim_eq ?_
      rw [zc_ints h1 (by decide) (by decide), S0_zero (by rw [h1]; decide) (by rw [h1]; decide) (by intro q; rw [q] at h1; revert h1; decide)]
      rw [va_ne (show k + 1 ≠ k by omega), va_ne (show k + 1 ≠ k + 1 + 1 by omega), va_ne (show k + 1 ≠ k by omega)]
      exact va_eq
    · rw [q]
      refine sim_eq ?_
      rw [zc_ints h2 (by decide) (by decide), S0_zero (by rw [h2]; decide) (by rw [h2]; decide) (by intro q; rw [q] at h2; revert h2; decide)]
      rw [va_ne (show k + 2 ≠ k by omega)]
      exact va_eq
  · have e75 : k ≠ 75 := by intro q; rw [q] at h0; revert h0; decide
    rw [zc_obj h0 (by decide), va_eq]
    simp [zf, rv, S0, h0, e75, Nat.add_assoc]
set_option maxHeartbeats 2000000 in
theorem g_X0_init (l : Launch) (ρ : zR) (k : Nat) (f : Nat → va_E) (hk : f k = .inr (0, [.null, .null, .int 0])) (h0 : kd k = 0) (h1 : kd (k + 1) = 10) (h2 : kd (k + 2) = 14) : GT l yX0_init M_X0_init 2 12 ρ k (k + 1) f (k + 1 + 1 + 1) (fun f' => (∀ i, i < k → f' i = f i) ∧ Pz ρ f' k (k + 3) ∧ f' k = zc ρ S0 k) := by
  refine gt_of (by decide) rfl (Nat.le_of_ble_eq_true rfl) ?_
  refine v_aload_n 0 dX0_init_0 rfl ?_
  refine v_objInit dX0_init_1 (oi_0 _ rfl) (by decide) (by decide) _ ?_
  refine v_aload_n 0 dX0_init_4 rfl ?_
  refine v_bipush (v := 8) dX0_init_5 rfl ?_
  refine v_newi (N' := 8) dX0_init_7 wi_int (by decide) (by decide) (Nat.le_of_ble_eq_true rfl) (Nat.le_of_ble_eq_true rfl) (Nat.le_of_ble_eq_true rfl) ?_
  refine v_put (ci := 0) (k := k) (fs := [.null, .null, .int 0]) (fk := 0) (v := .ref (ρ.2.1 (k + 1))) (ty := (.array .int)) dX0_init_9 RX0 TX0 3 tyX0 rfl wsu_0 tyX0_ok nmX0 (by decide) rfl rfl cl_0_9 (by decide +kernel) rfl rfl (by omega) (by rw [va_ne (show k ≠ (k + 1) by omega), hk]) (Nat.le_of_ble_eq_true rfl) ?_
  refine v_aload_n 0 dX0_init_12 rfl ?_
  refine v_iconst (v := 4) dX0_init_13 rfl ?_
  refine v_newi (N' := 4) dX0_init_14 wi_int (by decide) (by decide) (Nat.le_of_ble_eq_true rfl) (Nat.le_of_ble_eq_true rfl) (Nat.le_of_ble_eq_true rfl) ?_
  refine v_put (ci := 0) (k := k) (fs := [.ref (ρ.2.1 (k + 1)), .null, .int 0]) (fk := 1) (v := .ref (ρ.2.1 (k + 1 + 1))) (ty := (.array .int)) dX0_init_16 RX0 TX0 3 tyX0 rfl wsu_0 tyX0_ok nmX0 (by decide) rfl rfl cl_0_15 (by decide +kernel) rfl rfl (by omega) (by rw [va_ne (show k ≠ (k + 1 + 1) by omega), va_eq]; rfl) (Nat.le_of_ble_eq_true rfl) ?_
  refine v_ret dX0_init_19 rfl rfl ⟨fun i hi => ?_, fun i g1 g2 => ?_, ?_⟩ (Nat.le_refl _) (Nat.le_refl _)
  · have e0 : i ≠ k := by omega
    have e1 : i ≠ k + 1 := by omega
    have e2 : i ≠ k + 1 + 1 := by omega
    simp only [va_up, e0, e1, e2, if_false]
  · rcases (show i = k ∨ i = k + 1 ∨ i = k + 2 by omega) with q | q | q
    · rw [q]
      refine sim_eq ?_
      rw [zc_obj h0 (by decide), va_eq]
      have e75 : k ≠ 75 := by intro q; rw [q] at h0; revert h0; decide
      simp [zf, rv, S0, h0, e75, Nat.add_assoc]
    · rw [q]
      refine sim_eq ?_
      rw [zc_ints h1 (by decide) (by decide), S0_zero (by rw [h1]; decide) (by rw [h1]; decide) (by intro q; rw [q] at h1; revert h1; decide)]
      rw [va_ne (show k + 1 ≠ k by omega), va_ne (show k + 1 ≠ k + 1 + 1 by omega), va_ne (show k + 1 ≠ k by omega)]
      exact va_eq
    · rw [q]
      refine sim_eq ?_
      rw [zc_ints h2 (by decide) (by decide), S0_zero (by rw [h2]; decide) (by rw [h2]; decide) (by intro q; rw [q] at h2; revert h2; decide)]
      rw [va_ne (show k + 2 ≠ k by omega)]
      exact va_eq
  · have e75 : k ≠ 75 := by intro q; rw [q] at h0; revert h0; decide
    rw [zc_obj h0 (by decide), va_eq]
    simp [zf, rv, S0, h0, e75, Nat.add_assoc]
set_option maxHeartbeats 2000000 in
theorem g_X4_init (l : Launch) (ρ : zR) (k : Nat) (f : Nat → va_E) (hk : f k = .inr (4, [.null])) (h0 : kd k = 4) (h1 : kd (k + 1) = 21) : GT l yX4_init M_X4_init 1 9 ρ k (k + 1) f (k + 1 + 1) (fun f' => (∀ i, i < k → f' i = f i) ∧ Pz ρ f' k (k + 2) ∧ f' k = zc ρ S0 k) := by
  refine gt_of (by decide) rfl (Nat.le_of_ble_eq_true rfl) ?_
  refine v_aload_n 0 dX4_init_0 rfl ?_
  refine v_objInit dX4_init_1 (oi_4 _ rfl) (by decide) (by decide) _ ?_
  refine v_aload_n 0 dX4_init_4 rfl ?_
  refine v_bipush (v := 9) dX4_init_5 rfl ?_
  refine v_newl (N' := 9) dX4_init_7 wi_long (by decide) (by decide) (Nat.le_of_ble_eq_true rfl) (Nat.le_of_ble_eq_true rfl) (Nat.le_of_ble_eq_true rfl) ?_
  refine v_put (ci := 4) (k := k) (fs := [.null]) (fk := 0) (v := .ref (ρ.2.1 (k + 1))) (ty := (.array .long)) dX4_init_9 RX4 TX4 1 tyX4 rfl wsu_4 tyX4_ok nmX4 (by decide) rfl rfl cl_4_9 (by decide +kernel) rfl rfl (by omega) (by rw [va_ne (show k ≠ (k + 1) by omega), hk]) (Nat.le_of_ble_eq_true rfl) ?_
  refine v_ret dX4_init_12 rfl rfl ⟨fun i hi => ?_, fun i g1 g2 => ?_, ?_⟩ (Nat.le_refl _) (Nat.le_refl _)
  · have e0 : i ≠ k := by omega
    have e1 : i ≠ k + 1 := by omega
    simp only [va_up, e0, e1, if_false]
  · rcases (show i = k ∨ i = k + 1 by omega) with q | q
    · rw [q]
      refine sim_eq ?_
      rw [zc_obj h0 (by decide), va_eq]
      have e75 : k ≠ 75 := by intro q; rw [q] at h0; revert h0; decide
      simp [zf, rv, S0, h0, e75, Nat.add_assoc]
    · rw [q]
      refine sim_eq ?_
      rw [zc_longs h1]
      rw [va_ne (show k + 1 ≠ k by omega)]
      exact va_eq
  · have e75 : k ≠ 75 := by intro q; rw [q] at h0; revert h0; decide
    rw [zc_obj h0 (by decide), va_eq]
    simp [zf, rv, S0, h0, e75, Nat.add_assoc]
theorem arrV_congr {c : ClassId} {N : Nat} {f g : Nat → Value} (h : ∀ j, j < N → f j = g j) : arrV c N f = arrV c N g := by
  unfold arrV
  congr 2
  funext j
  exact h j.val j.isLt
theorem sim_q {ρ : zR} {c : ClassId} {N : Nat} {g g2 : Nat → Option Nat} (h : ∀ j, j < N → g j = g2 j) : sim ρ (.inl (c, (N, .inr (.inr (.inr (.inr g)))))) (.inl (c, (N, .inr (.inr (.inr (.inr g2)))))) := by
  intro a H hq
  show H[a]? = some (vp_cell _ _)
  have h1 : H[a]? = some (vp_cell c (N, .inr (.inr (.inr (.inr g))))) := hq
  rw [h1, vp_cell_q, vp_cell_q]
  exact congrArg some (arrV_congr (fun j hj => by rw [h j hj]))
set_option maxHeartbeats 4000000 in
theorem sh_loop (l : Launch) (ρ : zR) (k : Nat) (f0 : Nat → va_E) (hk3 : kd k = 3) : ∀ (m j : Nat) (x : Int32) (cells slots : Nat) (f : Nat → va_E) (g : Nat → Option Nat), j + m = 8 → x = nI j → cells = 2 + 2 * j → slots = 16 + 16 * j → f k = .inr (3, [.int 0, .int 0, .int 20, .int 1, .ref (ρ.2.1 (k + 1)), .ref (ρ.2.1 (k + 1 + 1))]) → f (k + 1) = .inl (ρ.2.2.1.2.2, (8, .inr (.inr (.inr (.inr g))))) → (∀ i, i < j → g i = some (ρ.2.1 (k + 1 + 2 + 2 * i))) → Pz ρ f (k + 2) (k + 3 + 2 * j) → (∀ i, i < k → f i = f0 i) → V l yX3_init M_X3_init 18 144 ρ (k + 19) (fun f' => (∀ i, i < k → f' i = f0 i) ∧ Pz ρ f' k (k + 19) ∧ f' k = zc ρ S0 k) cells slots 34 [(1, .int x), (0, .ref (ρ.2.1 k))] [] (k + 3 + 2 * j) f := by
  intro m
  induction m with
  | zero =>
    intro j x cells slots f g hj hx hc hs h0 h1 hg hz hf
    have hj8 : j = 8 := by omega
    subst hj8
    subst hx
    refine v_iload_n 0 dX3_init_34 rfl ?_
    refine v_bipush (v := 8) dX3_init_35 rfl ?_
    refine v_icmp_ge (tgt := 59) dX3_init_37 (by decide) (fun c => ?_) (fun c => absurd (by decide) c)
    have hzk : f k = zc ρ S0 k := by
      rw [h0, zc_obj hk3 (by decide)]
      simp [zf, rv, S0, hk3, Nat.add_assoc]
    refine v_ret dX3_init_59 rfl rfl ⟨hf, fun i g1 g2 => ?_, hzk⟩ (by omega) (by omega)
    rcases (show i = k ∨ i = k + 1 ∨ k + 2 ≤ i by omega) with rfl | rfl | q
    · exact sim_eq hzk
    · rw [h1, zc_things (kd_sh1 hk3)]
      exact sim_q hg
    · exact hz i q (by omega)
  | succ m ih =>
    intro j x cells slots f g hj hx hc hs h0 h1 hg hz hf
    subst hx
    subst hc
    subst hs
    have hk6 : kd (k + 3 + 2 * j) = 6 := by
      have := kd_sht (j := j) hk3 (by omega)
      rwa [show k + 1 + 2 + 2 * j = k + 3 + 2 * j by omega] at this
    refine v_iload_n 0 dX3_init_34 rfl ?_
    refine v_bipush (v := 8) dX3_init_35 rfl ?_
    refine v_icmp_ge (tgt := 59) dX3_init_37 (by decide) (fun c => absurd c ?_) (fun c => ?_)
    · exact nI_ge (a := j) (b := 8) (by omega) (by omega)
    refine v_aload_n 1 dX3_init_40 rfl ?_
    refine v_get (ci := 3) (k := k) (fk := 4) (v := .ref (ρ.2.1 (k + 1))) dX3_init_41 RX3 TX3 6 rfl wsu_3 (by decide) rfl rfl cl_3_20 (by omega) h0 rfl ?_
    refine v_iload_n 0 dX3_init_44 rfl ?_
    refine v_new (ci := 6) (fs := [.int 0, .int 0, .int 0, .null]) dX3_init_45 RX6 TX6 4 tyX6 rfl wsu_6 tyX6_ok nw_3_18 in_6.1 in_6.2 dfs_6 (by omega) (by omega) ?_
    refine v_dup dX3_init_48 ?_
    refine v_ctor dX3_init_49 "GluedInLifetime" ct_3_28 cc_6.1 cc_6.2.1 cc_6.2.2.1 rfl cc_6.2.2.2 rfl (g_X6_init l ρ (k + 3 + 2 * j) _ (by simp [va_up]) hk6 (kd_th hk6)) (Nat.le_of_ble_eq_true rfl) ⟨Nat.le_of_ble_eq_true rfl, Nat.le_of_ble_eq_true rfl⟩ (by omega) (by omega) (fun f2 hp => ?_)
    obtain ⟨ha, hb, he⟩ := hp
    have hlt : ∀ i, i < k + 3 + 2 * j → f2 i = f i := fun i hi => (ha i hi).trans (by simp [va_up, Nat.ne_of_lt hi])
    refine v_astq (k0 := k + 1) (k1 := k + 3 + 2 * j) (N := 8) (vs := (zf 6 (k + 3 + 2 * j) (S0.1 (k + 3 + 2 * j))).map (rv ρ.2.1)) dX3_init_52 (by omega) ((hlt (k + 1) (by omega)).trans h1) (by omega) (he.trans (zc_obj hk6 (by decide))) (vp_in_nI (by omega) (by omega)) ?_
    refine v_iinc (v := nI (j + 1)) (lv' := [(1, .int (nI (j + 1))), (0, .ref (ρ.2.1 k))]) 0 dX3_init_53 rfl (nI_1 j) (by decide) rfl ?_
    refine v_goto (tgt := 34) dX3_init_56 (by decide) ?_
    have hn : k + 3 + 2 * j + 1 + 1 = k + 3 + 2 * (j + 1) := by omega
    rw [hn]
    have hcl : (nI j).toNatClampNeg = j := nI_clamp (by omega)
    refine ih (j + 1) _ _ _ _ (va_up g (nI j).toNatClampNeg (some (ρ.2.1 (k + 3 + 2 * j)))) (by omega) rfl (by omega) (by omega) ?_ ?_ ?_ ?_ ?_
    · simp only [va_up, show ¬ k = k + 1 by omega, if_false]
      exact (hlt k (by omega)).trans h0
    · simp [va_up]
    · intro i hi
      rw [hcl]
      by_cases hij : i = j
      · subst hij
        simp [va_up, Nat.add_assoc]
      · simp only [va_up, hij, if_false]
        exact hg i (by omega)
    · intro i g1 g2
      have e1 : i ≠ k + 1 := by omega
      simp only [va_up, e1, if_false]
      rcases Nat.lt_or_ge i (k + 3 + 2 * j) with q | q
      · rw [hlt i q]
        exact hz i g1 q
      · exact hb i q (by omega)
    · intro i hi
      have e1 : i ≠ k + 1 := by omega
      simp only [va_up, e1, if_false]
      exact (hlt i (by omega)).trans (hf i hi)
set_option maxHeartbeats 4000000 in
theorem g_X3_init (l : Launch) (ρ : zR) (k : Nat) (f : Nat → va_E) (hk : f k = .inr (3, [.int 0, .int 0, .int 0, .int 0, .null, .null])) (hk3 : kd k = 3) : GT l yX3_init M_X3_init 18 144 ρ k (k + 1) f (k + 19) (fun f' => (∀ i, i < k → f' i = f i) ∧ Pz ρ f' k (k + 19) ∧ f' k = zc ρ S0 k) := by
  refine gt_of (by decide) rfl (Nat.le_of_ble_eq_true rfl) ?_
  refine v_aload_n 0 dX3_init_0 rfl ?_
  refine v_objInit dX3_init_1 (oi_3 _ rfl) (by decide) (by decide) _ ?_
  refine v_aload_n 0 dX3_init_4 rfl ?_
  refine v_bipush (v := 20) dX3_init_5 rfl ?_
  refine v_put (ci := 3) (k := k) (fs := [.int 0, .int 0, .int 0, .int 0, .null, .null]) (fk := 2) (v := .int 20) (ty := .int) dX3_init_7 RX3 TX3 6 tyX3 rfl wsu_3 tyX3_ok nmX3 (by decide) rfl rfl cl_3_9 (by decide +kernel) rfl rfl (by omega) hk (Nat.le_of_ble_eq_true rfl) ?_
  refine v_aload_n 0 dX3_init_10 rfl ?_
  refine v_iconst (v := 1) dX3_init_11 rfl ?_
  refine v_put (ci := 3) (k := k) (fs := [.int 0, .int 0, .int 20, .int 0, .null, .null]) (fk := 3) (v := .int 1) (ty := .int) dX3_init_12 RX3 TX3 6 tyX3 rfl wsu_3 tyX3_ok nmX3 (by decide) rfl rfl cl_3_15 (by decide +kernel) rfl rfl (by omega) (va_eq) (Nat.le_of_ble_eq_true rfl) ?_
  refine v_aload_n 0 dX3_init_15 rfl ?_
  refine v_bipush (v := 8) dX3_init_16 rfl ?_
  refine v_newq (N' := 8) dX3_init_18 nw_3_18 (by decide) (by decide) (Nat.le_of_ble_eq_true rfl) (Nat.le_of_ble_eq_true rfl) (Nat.le_of_ble_eq_true rfl) ?_
  refine v_put (ci := 3) (k := k) (fs := [.int 0, .int 0, .int 20, .int 1, .null, .null]) (fk := 4) (v := .ref (ρ.2.1 (k + 1))) (ty := (.array (.object "GluedInLifetime$Thing"))) dX3_init_21 RX3 TX3 6 tyX3 rfl wsu_3 tyX3_ok nmX3 (by decide) rfl rfl cl_3_20 (by decide +kernel) rfl rfl (by omega) (by rw [va_ne (show k ≠ (k + 1) by omega), va_eq]; rfl) (Nat.le_of_ble_eq_true rfl) ?_
  refine v_aload_n 0 dX3_init_24 rfl ?_
  refine v_bipush (v := 8) dX3_init_25 rfl ?_
  refine v_newi (N' := 8) dX3_init_27 wi_int (by decide) (by decide) (Nat.le_of_ble_eq_true rfl) (Nat.le_of_ble_eq_true rfl) (Nat.le_of_ble_eq_true rfl) ?_
  refine v_put (ci := 3) (k := k) (fs := [.int 0, .int 0, .int 20, .int 1, .ref (ρ.2.1 (k + 1)), .null]) (fk := 5) (v := .ref (ρ.2.1 (k + 1 + 1))) (ty := (.array .int)) dX3_init_29 RX3 TX3 6 tyX3 rfl wsu_3 tyX3_ok nmX3 (by decide) rfl rfl cl_3_24 (by decide +kernel) rfl rfl (by omega) (by rw [va_ne (show k ≠ (k + 1 + 1) by omega), va_eq]; rfl) (Nat.le_of_ble_eq_true rfl) ?_
  refine v_iconst (v := 0) dX3_init_32 rfl ?_
  refine v_istore (lv' := [(1, .int 0), (0, .ref (ρ.2.1 k))]) dX3_init_33 (by decide) rfl ?_
  refine sh_loop l ρ k f hk3 8 0 0 _ _ _ (fun _ => none) rfl nI_0.symm rfl rfl ?_ ?_ (fun i hi => absurd hi (Nat.not_lt_zero i)) ?_ ?_
  · exact va_eq
  · rw [va_ne (show k + 1 ≠ k by omega), va_ne (show k + 1 ≠ k + 1 + 1 by omega), va_ne (show k + 1 ≠ k by omega), va_eq]
  · intro i g1 g2
    have e0 : i = k + 2 := by omega
    subst e0
    refine sim_eq ?_
    have h2 := kd_sh2 hk3
    rw [zc_ints h2 (by decide) (by decide), S0_zero (by rw [h2]; decide) (by rw [h2]; decide) (by intro q; rw [q] at h2; revert h2; decide), va_ne (show k + 2 ≠ k by omega)]
    exact va_eq
  · intro i hi
    have e0 : i ≠ k := by omega
    have e1 : i ≠ k + 1 := by omega
    have e2 : i ≠ k + 1 + 1 := by omega
    rw [va_ne e0, va_ne e2, va_ne e0, va_ne e1, va_ne e0, va_ne e0]
