set_option maxHeartbeats 2000000 in
theorem g_X6_init (l : Launch) (ρ : zR) (k : Nat) (f : Nat → va_E) (hk : f k = .inr (6, [.int 0, .int 0, .int 0, .null])) (h0 : kd k = 6) (h1 : kd (k + 1) = 11) : GT l yX6_init M_X6_init 1 12 ρ k (k + 1) f (k + 1 + 1) (fun f' => (∀ i, i < k → f' i = f i) ∧ Pz ρ f' k (k + 2) ∧ f' k = zc ρ S0 k) := by
  refine gt_of (by decide) rfl (Nat.le_of_ble_eq_true rfl) ?_
  refine v_aload_n 0 dX6_init_0 rfl ?_
  refine v_objInit dX6_init_1 (oi_6 _ rfl) (Nat.le_of_ble_eq_true rfl) (Nat.le_of_ble_eq_true rfl) _ ?_
  refine v_aload_n 0 dX6_init_4 rfl ?_
  refine v_bipush (v := (-9)) dX6_init_5 rfl ?_
  refine v_put (ci := 6) (k := k) (fs := [.int 0, .int 0, .int 0, .null]) (fk := 2) (v := .int (-9)) (ty := .int) dX6_init_7 RX6 TX6 4 tyX6 rfl wsu_6 tyX6_ok nmX6 (by decide) rfl rfl cl_6_9 (by decide +kernel) rfl rfl (by omega) (by simp [va_up, hk]) (by decide) ?_
  refine v_aload_n 0 dX6_init_10 rfl ?_
  refine v_bipush (v := 12) dX6_init_11 rfl ?_
  refine v_newi (N' := 12) dX6_init_13 wi_int (by decide) (by decide) (Nat.le_of_ble_eq_true rfl) (Nat.le_of_ble_eq_true rfl) (Nat.le_of_ble_eq_true rfl) ?_
  refine v_put (ci := 6) (k := k) (fs := [.int 0, .int 0, .int (-9), .null]) (fk := 3) (v := .ref (ρ.2.1 (k + 1))) (ty := (.array .int)) dX6_init_15 RX6 TX6 4 tyX6 rfl wsu_6 tyX6_ok nmX6 (by decide) rfl rfl cl_6_15 (by decide +kernel) rfl rfl (by omega) (by simp [va_up, hk]) (by decide) ?_
  refine v_ret dX6_init_18 rfl rfl ⟨fun i hi => ?_, fun i g1 g2 => ?_, ?_⟩ (Nat.le_refl _) (Nat.le_refl _)
  · have e0 : i ≠ k := by omega
    have e1 : i ≠ k + 1 := by omega
    simp [va_up, e0, e1]
  · rcases (show i = k ∨ i = k + 1 by omega) with rfl | rfl
    · refine sim_eq ?_
      rw [zc_obj h0 (by decide)]
      simp [va_up, zf, rv, S0, h0, Nat.add_assoc]
    · refine sim_eq ?_
      rw [zc_ints h1 (by decide) (by decide), S0_zero (by rw [h1]; decide) (by rw [h1]; decide) (by intro q; rw [q] at h1; revert h1; decide)]
      simp [va_up, il]
  · rw [zc_obj h0 (by decide)]
    simp [va_up, zf, rv, S0, h0, Nat.add_assoc]
set_option maxHeartbeats 2000000 in
theorem g_X5_init (l : Launch) (ρ : zR) (k : Nat) (f : Nat → va_E) (hk : f k = .inr (5, [.null, .int 0])) (h0 : kd k = 5) (h1 : kd (k + 1) = 12) : GT l yX5_init M_X5_init 1 96 ρ k (k + 1) f (k + 1 + 1) (fun f' => (∀ i, i < k → f' i = f i) ∧ Pz ρ f' k (k + 2) ∧ f' k = zc ρ S0 k) := by
  refine gt_of (by decide) rfl (Nat.le_of_ble_eq_true rfl) ?_
  refine v_aload_n 0 dX5_init_0 rfl ?_
  refine v_objInit dX5_init_1 (oi_5 _ rfl) (Nat.le_of_ble_eq_true rfl) (Nat.le_of_ble_eq_true rfl) _ ?_
  refine v_aload_n 0 dX5_init_4 rfl ?_
  refine v_bipush (v := 96) dX5_init_5 rfl ?_
  refine v_newi (N' := 96) dX5_init_7 wi_int (by decide) (by decide) (Nat.le_of_ble_eq_true rfl) (Nat.le_of_ble_eq_true rfl) (Nat.le_of_ble_eq_true rfl) ?_
  refine v_put (ci := 5) (k := k) (fs := [.null, .int 0]) (fk := 0) (v := .ref (ρ.2.1 (k + 1))) (ty := (.array .int)) dX5_init_9 RX5 TX5 2 tyX5 rfl wsu_5 tyX5_ok nmX5 (by decide) rfl rfl cl_5_9 (by decide +kernel) rfl rfl (by omega) (by simp [va_up, hk]) (by decide) ?_
  refine v_ret dX5_init_12 rfl rfl ⟨fun i hi => ?_, fun i g1 g2 => ?_, ?_⟩ (Nat.le_refl _) (Nat.le_refl _)
  · have e0 : i ≠ k := by omega
    have e1 : i ≠ k + 1 := by omega
    simp [va_up, e0, e1]
  · rcases (show i = k ∨ i = k + 1 by omega) with rfl | rfl
    · refine sim_eq ?_
      rw [zc_obj h0 (by decide)]
      simp [va_up, zf, rv, S0, h0, Nat.add_assoc]
    · refine sim_eq ?_
      rw [zc_ints h1 (by decide) (by decide), S0_zero (by rw [h1]; decide) (by rw [h1]; decide) (by intro q; rw [q] at h1; revert h1; decide)]
      simp [va_up, il]
  · rw [zc_obj h0 (by decide)]
    simp [va_up, zf, rv, S0, h0, Nat.add_assoc]
set_option maxHeartbeats 2000000 in
theorem g_X2_init (l : Launch) (ρ : zR) (k : Nat) (f : Nat → va_E) (hk : f k = .inr (2, [.null, .int 0])) (h0 : kd k = 2) (h1 : kd (k + 1) = 13) : GT l yX2_init M_X2_init 1 16 ρ k (k + 1) f (k + 1 + 1) (fun f' => (∀ i, i < k → f' i = f i) ∧ Pz ρ f' k (k + 2) ∧ f' k = zc ρ S0 k) := by
  refine gt_of (by decide) rfl (Nat.le_of_ble_eq_true rfl) ?_
  refine v_aload_n 0 dX2_init_0 rfl ?_
  refine v_objInit dX2_init_1 (oi_2 _ rfl) (Nat.le_of_ble_eq_true rfl) (Nat.le_of_ble_eq_true rfl) _ ?_
  refine v_aload_n 0 dX2_init_4 rfl ?_
  refine v_bipush (v := 16) dX2_init_5 rfl ?_
  refine v_newi (N' := 16) dX2_init_7 wi_int (by decide) (by decide) (Nat.le_of_ble_eq_true rfl) (Nat.le_of_ble_eq_true rfl) (Nat.le_of_ble_eq_true rfl) ?_
  refine v_put (ci := 2) (k := k) (fs := [.null, .int 0]) (fk := 0) (v := .ref (ρ.2.1 (k + 1))) (ty := (.array .int)) dX2_init_9 RX2 TX2 2 tyX2 rfl wsu_2 tyX2_ok nmX2 (by decide) rfl rfl cl_2_9 (by decide +kernel) rfl rfl (by omega) (by simp [va_up, hk]) (by decide) ?_
  refine v_ret dX2_init_12 rfl rfl ⟨fun i hi => ?_, fun i g1 g2 => ?_, ?_⟩ (Nat.le_refl _) (Nat.le_refl _)
  · have e0 : i ≠ k := by omega
    have e1 : i ≠ k + 1 := by omega
    simp [va_up, e0, e1]
  · rcases (show i = k ∨ i = k + 1 by omega) with rfl | rfl
    · refine sim_eq ?_
      rw [zc_obj h0 (by decide)]
      simp [va_up, zf, rv, S0, h0, Nat.add_assoc]
    · refine sim_eq ?_
      rw [zc_ints h1 (by decide) (by decide), S0_zero (by rw [h1]; decide) (by rw [h1]; decide) (by intro q; rw [q] at h1; revert h1; decide)]
      simp [va_up, il]
  · rw [zc_obj h0 (by decide)]
    simp [va_up, zf, rv, S0, h0, Nat.add_assoc]
set_option maxHeartbeats 2000000 in
theorem g_X1_init (l : Launch) (ρ : zR) (k : Nat) (f : Nat → va_E) (hk : f k = .inr (1, [.null, .null, .int 0, .int 0, .int 0])) (h0 : kd k = 1) (h1 : kd (k + 1) = 10) (h2 : kd (k + 2) = 10) : GT l yX1_init M_X1_init 2 16 ρ k (k + 1) f (k + 1 + 1 + 1) (fun f' => (∀ i, i < k → f' i = f i) ∧ Pz ρ f' k (k + 3) ∧ f' k = zc ρ S0 k) := by
  refine gt_of (by decide) rfl (Nat.le_of_ble_eq_true rfl) ?_
  refine v_aload_n 0 dX1_init_0 rfl ?_
  refine v_objInit dX1_init_1 (oi_1 _ rfl) (Nat.le_of_ble_eq_true rfl) (Nat.le_of_ble_eq_true rfl) _ ?_
  refine v_aload_n 0 dX1_init_4 rfl ?_
  refine v_bipush (v := 8) dX1_init_5 rfl ?_
  refine v_newi (N' := 8) dX1_init_7 wi_int (by decide) (by decide) (Nat.le_of_ble_eq_true rfl) (Nat.le_of_ble_eq_true rfl) (Nat.le_of_ble_eq_true rfl) ?_
  refine v_put (ci := 1) (k := k) (fs := [.null, .null, .int 0, .int 0, .int 0]) (fk := 0) (v := .ref (ρ.2.1 (k + 1))) (ty := (.array .int)) dX1_init_9 RX1 TX1 5 tyX1 rfl wsu_1 tyX1_ok nmX1 (by decide) rfl rfl cl_1_9 (by decide +kernel) rfl rfl (by omega) (by simp [va_up, hk]) (by decide) ?_
  refine v_aload_n 0 dX1_init_12 rfl ?_
  refine v_bipush (v := 8) dX1_init_13 rfl ?_
  refine v_newi (N' := 8) dX1_init_15 wi_int (by decide) (by decide) (Nat.le_of_ble_eq_true rfl) (Nat.le_of_ble_eq_true rfl) (Nat.le_of_ble_eq_true rfl) ?_
  refine v_put (ci := 1) (k := k) (fs := [.ref (ρ.2.1 (k + 1)), .null, .int 0, .int 0, .int 0]) (fk := 1) (v := .ref (ρ.2.1 (k + 1 + 1))) (ty := (.array .int)) dX1_init_17 RX1 TX1 5 tyX1 rfl wsu_1 tyX1_ok nmX1 (by decide) rfl rfl cl_1_15 (by decide +kernel) rfl rfl (by omega) (by simp [va_up, hk]) (by decide) ?_
  refine v_ret dX1_init_20 rfl rfl ⟨fun i hi => ?_, fun i g1 g2 => ?_, ?_⟩ (Nat.le_refl _) (Nat.le_refl _)
  · have e0 : i ≠ k := by omega
    have e1 : i ≠ k + 1 := by omega
    have e2 : i ≠ k + 1 + 1 := by omega
    simp [va_up, e0, e1, e2]
  · rcases (show i = k ∨ i = k + 1 ∨ i = k + 2 by omega) with rfl | rfl | rfl
    · refine sim_eq ?_
      rw [zc_obj h0 (by decide)]
      simp [va_up, zf, rv, S0, h0, Nat.add_assoc]
    · refine sim_eq ?_
      rw [zc_ints h1 (by decide) (by decide), S0_zero (by rw [h1]; decide) (by rw [h1]; decide) (by intro q; rw [q] at h1; revert h1; decide)]
      simp [va_up, il]
    · refine sim_eq ?_
      rw [zc_ints h2 (by decide) (by decide), S0_zero (by rw [h2]; decide) (by rw [h2]; decide) (by intro q; rw [q] at h2; revert h2; decide)]
      simp [va_up, il]
  · rw [zc_obj h0 (by decide)]
    simp [va_up, zf, rv, S0, h0, Nat.add_assoc]
set_option maxHeartbeats 2000000 in
theorem g_X0_init (l : Launch) (ρ : zR) (k : Nat) (f : Nat → va_E) (hk : f k = .inr (0, [.null, .null, .int 0])) (h0 : kd k = 0) (h1 : kd (k + 1) = 10) (h2 : kd (k + 2) = 14) : GT l yX0_init M_X0_init 2 12 ρ k (k + 1) f (k + 1 + 1 + 1) (fun f' => (∀ i, i < k → f' i = f i) ∧ Pz ρ f' k (k + 3) ∧ f' k = zc ρ S0 k) := by
  refine gt_of (by decide) rfl (Nat.le_of_ble_eq_true rfl) ?_
  refine v_aload_n 0 dX0_init_0 rfl ?_
  refine v_objInit dX0_init_1 (oi_0 _ rfl) (Nat.le_of_ble_eq_true rfl) (Nat.le_of_ble_eq_true rfl) _ ?_
  refine v_aload_n 0 dX0_init_4 rfl ?_
  refine v_bipush (v := 8) dX0_init_5 rfl ?_
  refine v_newi (N' := 8) dX0_init_7 wi_int (by decide) (by decide) (Nat.le_of_ble_eq_true rfl) (Nat.le_of_ble_eq_true rfl) (Nat.le_of_ble_eq_true rfl) ?_
  refine v_put (ci := 0) (k := k) (fs := [.null, .null, .int 0]) (fk := 0) (v := .ref (ρ.2.1 (k + 1))) (ty := (.array .int)) dX0_init_9 RX0 TX0 3 tyX0 rfl wsu_0 tyX0_ok nmX0 (by decide) rfl rfl cl_0_9 (by decide +kernel) rfl rfl (by omega) (by simp [va_up, hk]) (by decide) ?_
  refine v_aload_n 0 dX0_init_12 rfl ?_
  refine v_iconst (v := 4) dX0_init_13 rfl ?_
  refine v_newi (N' := 4) dX0_init_14 wi_int (by decide) (by decide) (Nat.le_of_ble_eq_true rfl) (Nat.le_of_ble_eq_true rfl) (Nat.le_of_ble_eq_true rfl) ?_
  refine v_put (ci := 0) (k := k) (fs := [.ref (ρ.2.1 (k + 1)), .null, .int 0]) (fk := 1) (v := .ref (ρ.2.1 (k + 1 + 1))) (ty := (.array .int)) dX0_init_16 RX0 TX0 3 tyX0 rfl wsu_0 tyX0_ok nmX0 (by decide) rfl rfl cl_0_15 (by decide +kernel) rfl rfl (by omega) (by simp [va_up, hk]) (by decide) ?_
  refine v_ret dX0_init_19 rfl rfl ⟨fun i hi => ?_, fun i g1 g2 => ?_, ?_⟩ (Nat.le_refl _) (Nat.le_refl _)
  · have e0 : i ≠ k := by omega
    have e1 : i ≠ k + 1 := by omega
    have e2 : i ≠ k + 1 + 1 := by omega
    simp [va_up, e0, e1, e2]
  · rcases (show i = k ∨ i = k + 1 ∨ i = k + 2 by omega) with rfl | rfl | rfl
    · refine sim_eq ?_
      rw [zc_obj h0 (by decide)]
      simp [va_up, zf, rv, S0, h0, Nat.add_assoc]
    · refine sim_eq ?_
      rw [zc_ints h1 (by decide) (by decide), S0_zero (by rw [h1]; decide) (by rw [h1]; decide) (by intro q; rw [q] at h1; revert h1; decide)]
      simp [va_up, il]
    · refine sim_eq ?_
      rw [zc_ints h2 (by decide) (by decide), S0_zero (by rw [h2]; decide) (by rw [h2]; decide) (by intro q; rw [q] at h2; revert h2; decide)]
      simp [va_up, il]
  · rw [zc_obj h0 (by decide)]
    simp [va_up, zf, rv, S0, h0, Nat.add_assoc]
set_option maxHeartbeats 2000000 in
theorem g_X4_init (l : Launch) (ρ : zR) (k : Nat) (f : Nat → va_E) (hk : f k = .inr (4, [.null])) (h0 : kd k = 4) (h1 : kd (k + 1) = 21) : GT l yX4_init M_X4_init 1 9 ρ k (k + 1) f (k + 1 + 1) (fun f' => (∀ i, i < k → f' i = f i) ∧ Pz ρ f' k (k + 2) ∧ f' k = zc ρ S0 k) := by
  refine gt_of (by decide) rfl (Nat.le_of_ble_eq_true rfl) ?_
  refine v_aload_n 0 dX4_init_0 rfl ?_
  refine v_objInit dX4_init_1 (oi_4 _ rfl) (Nat.le_of_ble_eq_true rfl) (Nat.le_of_ble_eq_true rfl) _ ?_
  refine v_aload_n 0 dX4_init_4 rfl ?_
  refine v_bipush (v := 9) dX4_init_5 rfl ?_
  refine v_newl (N' := 9) dX4_init_7 wi_long (by decide) (by decide) (Nat.le_of_ble_eq_true rfl) (Nat.le_of_ble_eq_true rfl) (Nat.le_of_ble_eq_true rfl) ?_
  refine v_put (ci := 4) (k := k) (fs := [.null]) (fk := 0) (v := .ref (ρ.2.1 (k + 1))) (ty := (.array .long)) dX4_init_9 RX4 TX4 1 tyX4 rfl wsu_4 tyX4_ok nmX4 (by decide) rfl rfl cl_4_9 (by decide +kernel) rfl rfl (by omega) (by simp [va_up, hk]) (by decide) ?_
  refine v_ret dX4_init_12 rfl rfl ⟨fun i hi => ?_, fun i g1 g2 => ?_, ?_⟩ (Nat.le_refl _) (Nat.le_refl _)
  · have e0 : i ≠ k := by omega
    have e1 : i ≠ k + 1 := by omega
    simp [va_up, e0, e1]
  · rcases (show i = k ∨ i = k + 1 by omega) with rfl | rfl
    · refine sim_eq ?_
      rw [zc_obj h0 (by decide)]
      simp [va_up, zf, rv, S0, h0, Nat.add_assoc]
    · refine sim_eq ?_
      rw [zc_longs h1]
      simp [va_up, S0]
  · rw [zc_obj h0 (by decide)]
    simp [va_up, zf, rv, S0, h0, Nat.add_assoc]
theorem arrV_congr {c : ClassId} {N : Nat} {f g : Nat → Value} (h : ∀ j, j < N → f j = g j) : arrV c N f = arrV c N g := by
  unfold arrV
  congr 2
  funext j
  exact h j.val j.isLt
theorem sim_q {ρ : zR} {c : ClassId} {N : Nat} {g g2 : Nat → Option Nat} (h : ∀ j, j < N → g j = g2 j) : sim ρ (.inl (c, (N, .inr (.inr (.inr (.inr g)))))) (.inl (c, (N, .inr (.inr (.inr (.inr g2)))))) := by
  intro a H hq
  show H[a]? = some (vp_cell _ _)
  have h1 : H[a]? = some (vp_cell c (N, .inr (.inr (.inr (.inr g))))) := hq
  rw [h1, vp_cell_q, vp_cell_q]
  exact congrArg some (arrV_congr (fun j hj => by rw [h j hj]))
set_option maxHeartbeats 4000000 in
theorem sh_loop (l : Launch) (ρ : zR) (k : Nat) (f0 : Nat → va_E) (hk3 : kd k = 3) : ∀ (m j : Nat) (x : Int32) (cells slots : Nat) (f : Nat → va_E) (g : Nat → Option Nat), j + m = 8 → x = nI j → cells = 2 + 2 * j → slots = 16 + 16 * j → f k = .inr (3, [.int 0, .int 0, .int 20, .int 1, .ref (ρ.2.1 (k + 1)), .ref (ρ.2.1 (k + 1 + 1))]) → f (k + 1) = .inl (ρ.2.2.1.2.2, (8, .inr (.inr (.inr (.inr g))))) → (∀ i, i < j → g i = some (ρ.2.1 (k + 1 + 2 + 2 * i))) → Pz ρ f (k + 2) (k + 3 + 2 * j) → (∀ i, i < k → f i = f0 i) → V l yX3_init M_X3_init 18 144 ρ (k + 19) (fun f' => (∀ i, i < k → f' i = f0 i) ∧ Pz ρ f' k (k + 19) ∧ f' k = zc ρ S0 k) cells slots 34 [(1, .int x), (0, .ref (ρ.2.1 k))] [] (k + 3 + 2 * j) f := by
  intro m
  induction m with
  | zero =>
    intro j x cells slots f g hj hx hc hs h0 h1 hg hz hf
    have hj8 : j = 8 := by omega
    subst hj8
    subst hx
    refine v_iload_n 0 dX3_init_34 rfl ?_
    refine v_bipush (v := 8) dX3_init_35 rfl ?_
    refine v_icmp_ge (tgt := 59) dX3_init_37 (by decide) (fun c => ?_) (fun c => absurd (by decide) c)
    have hzk : f k = zc ρ S0 k := by
      rw [h0, zc_obj hk3 (by decide)]
      simp [zf, rv, S0, hk3, Nat.add_assoc]
    refine v_ret dX3_init_59 rfl rfl ⟨hf, fun i g1 g2 => ?_, hzk⟩ (by omega) (by omega)
    rcases (show i = k ∨ i = k + 1 ∨ k + 2 ≤ i by omega) with rfl | rfl | q
    · exact sim_eq hzk
    · rw [h1, zc_things (kd_sh1 hk3)]
      exact sim_q hg
    · exact hz i q (by omega)
  | succ m ih =>
    intro j x cells slots f g hj hx hc hs h0 h1 hg hz hf
    subst hx
    subst hc
    subst hs
    have hk6 : kd (k + 3 + 2 * j) = 6 := by
      have := kd_sht (j := j) hk3 (by omega)
      rwa [show k + 1 + 2 + 2 * j = k + 3 + 2 * j by omega] at this
    refine v_iload_n 0 dX3_init_34 rfl ?_
    refine v_bipush (v := 8) dX3_init_35 rfl ?_
    refine v_icmp_ge (tgt := 59) dX3_init_37 (by decide) (fun c => absurd c ?_) (fun c => ?_)
    · exact nI_ge (a := j) (b := 8) (by omega) (by omega)
    refine v_aload_n 1 dX3_init_40 rfl ?_
    refine v_get (ci := 3) (k := k) (fk := 4) (v := .ref (ρ.2.1 (k + 1))) dX3_init_41 RX3 TX3 6 rfl wsu_3 (by decide) rfl rfl cl_3_20 (by omega) h0 rfl ?_
    refine v_iload_n 0 dX3_init_44 rfl ?_
    refine v_new (ci := 6) (fs := [.int 0, .int 0, .int 0, .null]) dX3_init_45 RX6 TX6 4 tyX6 rfl wsu_6 tyX6_ok nw_3_18 in_6.1 in_6.2 dfs_6 (by omega) (by omega) ?_
    refine v_dup dX3_init_48 ?_
    refine v_ctor dX3_init_49 "GluedInLifetime" ct_3_28 cc_6.1 cc_6.2.1 cc_6.2.2.1 rfl cc_6.2.2.2 rfl (g_X6_init l ρ (k + 3 + 2 * j) _ (by simp [va_up]) hk6 (kd_th hk6)) (Nat.le_of_ble_eq_true rfl) ⟨Nat.le_of_ble_eq_true rfl, Nat.le_of_ble_eq_true rfl⟩ (by omega) (by omega) (fun f2 hp => ?_)
    obtain ⟨ha, hb, he⟩ := hp
    have hlt : ∀ i, i < k + 3 + 2 * j → f2 i = f i := fun i hi => (ha i hi).trans (by simp [va_up, Nat.ne_of_lt hi])
    refine v_astq (k0 := k + 1) (k1 := k + 3 + 2 * j) (N := 8) (vs := (zf 6 (k + 3 + 2 * j) (S0.1 (k + 3 + 2 * j))).map (rv ρ.2.1)) dX3_init_52 (by omega) ((hlt (k + 1) (by omega)).trans h1) (by omega) (he.trans (zc_obj hk6 (by decide))) (vp_in_nI (by omega) (by omega)) ?_
    refine v_iinc (v := nI (j + 1)) (lv' := [(1, .int (nI (j + 1))), (0, .ref (ρ.2.1 k))]) 0 dX3_init_53 rfl (nI_1 j) (by decide) rfl ?_
    refine v_goto (tgt := 34) dX3_init_56 (by decide) ?_
    have hn : k + 3 + 2 * j + 1 + 1 = k + 3 + 2 * (j + 1) := by omega
    rw [hn]
    have hcl : (nI j).toNatClampNeg = j := nI_clamp (by omega)
    refine ih (j + 1) _ _ _ _ (va_up g (nI j).toNatClampNeg (some (ρ.2.1 (k + 3 + 2 * j)))) (by omega) rfl (by omega) (by omega) ?_ ?_ ?_ ?_ ?_
    · simp only [va_up, show ¬ k = k + 1 by omega, if_false]
      exact (hlt k (by omega)).trans h0
    · simp [va_up]
    · intro i hi
      rw [hcl]
      by_cases hij : i = j
      · subst hij
        simp [va_up, Nat.add_assoc]
      · simp only [va_up, hij, if_false]
        exact hg i (by omega)
    · intro i g1 g2
      have e1 : i ≠ k + 1 := by omega
      simp only [va_up, e1, if_false]
      rcases Nat.lt_or_ge i (k + 3 + 2 * j) with q | q
      · rw [hlt i q]
        exact hz i g1 q
      · exact hb i q (by omega)
    · intro i hi
      have e1 : i ≠ k + 1 := by omega
      simp only [va_up, e1, if_false]
      exact (hlt i (by omega)).trans (hf i hi)
set_option maxHeartbeats 4000000 in
theorem g_X3_init (l : Launch) (ρ : zR) (k : Nat) (f : Nat → va_E) (hk : f k = .inr (3, [.int 0, .int 0, .int 0, .int 0, .null, .null])) (hk3 : kd k = 3) : GT l yX3_init M_X3_init 18 144 ρ k (k + 1) f (k + 19) (fun f' => (∀ i, i < k → f' i = f i) ∧ Pz ρ f' k (k + 19) ∧ f' k = zc ρ S0 k) := by
  refine gt_of (by decide) rfl (Nat.le_of_ble_eq_true rfl) ?_
  refine v_aload_n 0 dX3_init_0 rfl ?_
  refine v_objInit dX3_init_1 (oi_3 _ rfl) (Nat.le_of_ble_eq_true rfl) (Nat.le_of_ble_eq_true rfl) _ ?_
  refine v_aload_n 0 dX3_init_4 rfl ?_
  refine v_bipush (v := 20) dX3_init_5 rfl ?_
  refine v_put (ci := 3) (k := k) (fs := [.int 0, .int 0, .int 0, .int 0, .null, .null]) (fk := 2) (v := .int 20) (ty := .int) dX3_init_7 RX3 TX3 6 tyX3 rfl wsu_3 tyX3_ok nmX3 (by decide) rfl rfl cl_3_9 (by decide +kernel) rfl rfl (by omega) hk (by decide) ?_
  refine v_aload_n 0 dX3_init_10 rfl ?_
  refine v_iconst (v := 1) dX3_init_11 rfl ?_
  refine v_put (ci := 3) (k := k) (fs := [.int 0, .int 0, .int 20, .int 0, .null, .null]) (fk := 3) (v := .int 1) (ty := .int) dX3_init_12 RX3 TX3 6 tyX3 rfl wsu_3 tyX3_ok nmX3 (by decide) rfl rfl cl_3_15 (by decide +kernel) rfl rfl (by omega) (by simp [va_up, hk]) (by decide) ?_
  refine v_aload_n 0 dX3_init_15 rfl ?_
  refine v_bipush (v := 8) dX3_init_16 rfl ?_
  refine v_newq (N' := 8) dX3_init_18 nw_3_18 (by decide) (by decide) (Nat.le_of_ble_eq_true rfl) (Nat.le_of_ble_eq_true rfl) (Nat.le_of_ble_eq_true rfl) ?_
  refine v_put (ci := 3) (k := k) (fs := [.int 0, .int 0, .int 20, .int 1, .null, .null]) (fk := 4) (v := .ref (ρ.2.1 (k + 1))) (ty := (.array (.object "GluedInLifetime$Thing"))) dX3_init_21 RX3 TX3 6 tyX3 rfl wsu_3 tyX3_ok nmX3 (by decide) rfl rfl cl_3_20 (by decide +kernel) rfl rfl (by omega) (by simp [va_up, hk]) (by decide) ?_
  refine v_aload_n 0 dX3_init_24 rfl ?_
  refine v_bipush (v := 8) dX3_init_25 rfl ?_
  refine v_newi (N' := 8) dX3_init_27 wi_int (by decide) (by decide) (Nat.le_of_ble_eq_true rfl) (Nat.le_of_ble_eq_true rfl) (Nat.le_of_ble_eq_true rfl) ?_
  refine v_put (ci := 3) (k := k) (fs := [.int 0, .int 0, .int 20, .int 1, .ref (ρ.2.1 (k + 1)), .null]) (fk := 5) (v := .ref (ρ.2.1 (k + 1 + 1))) (ty := (.array .int)) dX3_init_29 RX3 TX3 6 tyX3 rfl wsu_3 tyX3_ok nmX3 (by decide) rfl rfl cl_3_24 (by decide +kernel) rfl rfl (by omega) (by simp [va_up, hk]) (by decide) ?_
  refine v_iconst (v := 0) dX3_init_32 rfl ?_
  refine v_istore (lv' := [(1, .int 0), (0, .ref (ρ.2.1 k))]) dX3_init_33 (by decide) rfl ?_
  refine sh_loop l ρ k f hk3 8 0 0 _ _ _ (fun _ => none) rfl nI_0.symm rfl rfl ?_ ?_ (fun i hi => absurd hi (Nat.not_lt_zero i)) ?_ ?_
  · simp [va_up]
  · simp [va_up]
  · intro i g1 g2
    have e0 : i = k + 2 := by omega
    subst e0
    refine sim_eq ?_
    have h2 := kd_sh2 hk3
    rw [zc_ints h2 (by decide) (by decide), S0_zero (by rw [h2]; decide) (by rw [h2]; decide) (by intro q; rw [q] at h2; revert h2; decide)]
    simp [va_up, il]
  · intro i hi
    have e0 : i ≠ k := by omega
    have e1 : i ≠ k + 1 := by omega
    have e2 : i ≠ k + 1 + 1 := by omega
    simp [va_up, e0, e1, e2]
theorem pz_join {ρ : zR} {f f' : Nat → va_E} {b : va_E} {n n' : Nat} (hz : Pz ρ f 1 n) (ha : ∀ i, i < n → f' i = va_up f n b i) (hb : Pz ρ f' n n') : Pz ρ f' 1 n' := by
  intro i h1 h2
  rcases Nat.lt_or_ge i n with q | q
  · rw [ha i q]
    simp only [va_up, Nat.ne_of_lt q, if_false]
    exact hz i h1 q
  · exact hb i q h2
theorem pz_put {ρ : zR} {f : Nat → va_E} {e : va_E} {n : Nat} (hz : Pz ρ f 1 n) : Pz ρ (va_up f 0 e) 1 n := by
  intro i h1 h2
  have h0 : i ≠ 0 := by omega
  simp only [va_up, h0, if_false]
  exact hz i h1 h2
theorem pz_push {ρ : zR} {f : Nat → va_E} {e : va_E} {n : Nat} (hz : Pz ρ f 1 n) (he : e = zc ρ S0 n) : Pz ρ (va_up f n e) 1 (n + 1) := by
  intro i h1 h2
  by_cases h : i = n
  · subst h
    simp only [va_up, if_pos]
    exact sim_eq he
  · simp only [va_up, h, if_false]
    exact hz i h1 (by omega)
theorem h0_join {f f' : Nat → va_E} {b e : va_E} {n : Nat} (hn : 0 < n) (h0 : f 0 = e) (ha : ∀ i, i < n → f' i = va_up f n b i) : f' 0 = e := by
  rw [ha 0 hn]
  simp only [va_up, Nat.ne_of_lt hn, if_false]
  exact h0
set_option maxHeartbeats 8000000 in
theorem g_X7_init (l : Launch) (ρ : zR) (f : Nat → va_E) (h0 : f 0 = .inr (7, [.null, .null, .null, .null, .null, .null, .null, .null, .null, .null, .null, .int 0, .int 0])) : GT l yX7_init M_X7_init 73 655 ρ 0 1 f 74 (fun f' => Pz ρ f' 0 74) := by
  refine gt_of (by decide) rfl (Nat.le_of_ble_eq_true rfl) ?_
  refine v_aload_n 0 dX7_init_0 rfl ?_
  refine v_objInit dX7_init_1 (oi_7 _ rfl) (Nat.le_of_ble_eq_true rfl) (Nat.le_of_ble_eq_true rfl) _ ?_
  have hz : Pz ρ f 1 1 := fun i h1 h2 => absurd h1 (by omega)
  refine v_aload_n 0 dX7_init_4 rfl ?_
  refine v_new (ci := 3) (fs := [.int 0, .int 0, .int 0, .int 0, .null, .null]) dX7_init_5 RX3 TX3 6 tyX3 rfl wsu_3 tyX3_ok nw_7_9 in_3.1 in_3.2 dfs_3 (Nat.le_of_ble_eq_true rfl) (Nat.le_of_ble_eq_true rfl) ?_
  refine v_dup dX7_init_8 ?_
  refine v_ctor dX7_init_9 "GluedInLifetime" ct_7_11 cc_3.1 cc_3.2.1 cc_3.2.2.1 rfl cc_3.2.2.2 rfl (g_X3_init l ρ 1 _ (by simp [va_up]) kdl_1) (Nat.le_of_ble_eq_true rfl) ⟨Nat.le_of_ble_eq_true rfl, Nat.le_of_ble_eq_true rfl⟩ (Nat.le_of_ble_eq_true rfl) (Nat.le_of_ble_eq_true rfl) (fun f1 hp => ?_)
  replace hz := pz_join hz hp.1 hp.2.1
  replace h0 := h0_join (by decide) h0 hp.1
  refine v_put (ci := 7) (k := 0) (fs := [.null, .null, .null, .null, .null, .null, .null, .null, .null, .null, .null, .int 0, .int 0]) (fk := 0) (v := .ref (ρ.2.1 1)) (ty := (.object "GluedInLifetime$Shop")) dX7_init_12 RX7 TX7 13 tyX7 rfl wsu_7 tyX7_ok nmX7 (by decide) rfl rfl cl_7_12 (by decide +kernel) rfl rfl (by decide) h0 (by decide) ?_
  replace hz := pz_put (e := .inr (7, [.ref (ρ.2.1 1), .null, .null, .null, .null, .null, .null, .null, .null, .null, .null, .int 0, .int 0])) hz
  replace h0 := (show va_up _ 0 (Sum.inr (7, [.ref (ρ.2.1 1), .null, .null, .null, .null, .null, .null, .null, .null, .null, .null, .int 0, .int 0]) : va_E) 0 = .inr (7, [.ref (ρ.2.1 1), .null, .null, .null, .null, .null, .null, .null, .null, .null, .null, .int 0, .int 0]) from rfl)
  refine v_aload_n 0 dX7_init_15 rfl ?_
  refine v_new (ci := 3) (fs := [.int 0, .int 0, .int 0, .int 0, .null, .null]) dX7_init_16 RX3 TX3 6 tyX3 rfl wsu_3 tyX3_ok nw_7_9 in_3.1 in_3.2 dfs_3 (Nat.le_of_ble_eq_true rfl) (Nat.le_of_ble_eq_true rfl) ?_
  refine v_dup dX7_init_19 ?_
  refine v_ctor dX7_init_20 "GluedInLifetime" ct_7_11 cc_3.1 cc_3.2.1 cc_3.2.2.1 rfl cc_3.2.2.2 rfl (g_X3_init l ρ 20 _ (by simp [va_up]) kdl_20) (Nat.le_of_ble_eq_true rfl) ⟨Nat.le_of_ble_eq_true rfl, Nat.le_of_ble_eq_true rfl⟩ (Nat.le_of_ble_eq_true rfl) (Nat.le_of_ble_eq_true rfl) (fun f20 hp => ?_)
  replace hz := pz_join hz hp.1 hp.2.1
  replace h0 := h0_join (by decide) h0 hp.1
  refine v_put (ci := 7) (k := 0) (fs := [.ref (ρ.2.1 1), .null, .null, .null, .null, .null, .null, .null, .null, .null, .null, .int 0, .int 0]) (fk := 1) (v := .ref (ρ.2.1 20)) (ty := (.object "GluedInLifetime$Shop")) dX7_init_23 RX7 TX7 13 tyX7 rfl wsu_7 tyX7_ok nmX7 (by decide) rfl rfl cl_7_16 (by decide +kernel) rfl rfl (by decide) h0 (by decide) ?_
  replace hz := pz_put (e := .inr (7, [.ref (ρ.2.1 1), .ref (ρ.2.1 20), .null, .null, .null, .null, .null, .null, .null, .null, .null, .int 0, .int 0])) hz
  replace h0 := (show va_up _ 0 (Sum.inr (7, [.ref (ρ.2.1 1), .ref (ρ.2.1 20), .null, .null, .null, .null, .null, .null, .null, .null, .null, .int 0, .int 0]) : va_E) 0 = .inr (7, [.ref (ρ.2.1 1), .ref (ρ.2.1 20), .null, .null, .null, .null, .null, .null, .null, .null, .null, .int 0, .int 0]) from rfl)
  refine v_aload_n 0 dX7_init_26 rfl ?_
  refine v_new (ci := 3) (fs := [.int 0, .int 0, .int 0, .int 0, .null, .null]) dX7_init_27 RX3 TX3 6 tyX3 rfl wsu_3 tyX3_ok nw_7_9 in_3.1 in_3.2 dfs_3 (Nat.le_of_ble_eq_true rfl) (Nat.le_of_ble_eq_true rfl) ?_
  refine v_dup dX7_init_30 ?_
  refine v_ctor dX7_init_31 "GluedInLifetime" ct_7_11 cc_3.1 cc_3.2.1 cc_3.2.2.1 rfl cc_3.2.2.2 rfl (g_X3_init l ρ 39 _ (by simp [va_up]) kdl_39) (Nat.le_of_ble_eq_true rfl) ⟨Nat.le_of_ble_eq_true rfl, Nat.le_of_ble_eq_true rfl⟩ (Nat.le_of_ble_eq_true rfl) (Nat.le_of_ble_eq_true rfl) (fun f39 hp => ?_)
  replace hz := pz_join hz hp.1 hp.2.1
  replace h0 := h0_join (by decide) h0 hp.1
  refine v_put (ci := 7) (k := 0) (fs := [.ref (ρ.2.1 1), .ref (ρ.2.1 20), .null, .null, .null, .null, .null, .null, .null, .null, .null, .int 0, .int 0]) (fk := 2) (v := .ref (ρ.2.1 39)) (ty := (.object "GluedInLifetime$Shop")) dX7_init_34 RX7 TX7 13 tyX7 rfl wsu_7 tyX7_ok nmX7 (by decide) rfl rfl cl_7_19 (by decide +kernel) rfl rfl (by decide) h0 (by decide) ?_
  replace hz := pz_put (e := .inr (7, [.ref (ρ.2.1 1), .ref (ρ.2.1 20), .ref (ρ.2.1 39), .null, .null, .null, .null, .null, .null, .null, .null, .int 0, .int 0])) hz
  replace h0 := (show va_up _ 0 (Sum.inr (7, [.ref (ρ.2.1 1), .ref (ρ.2.1 20), .ref (ρ.2.1 39), .null, .null, .null, .null, .null, .null, .null, .null, .int 0, .int 0]) : va_E) 0 = .inr (7, [.ref (ρ.2.1 1), .ref (ρ.2.1 20), .ref (ρ.2.1 39), .null, .null, .null, .null, .null, .null, .null, .null, .int 0, .int 0]) from rfl)
  refine v_aload_n 0 dX7_init_37 rfl ?_
  refine v_new (ci := 6) (fs := [.int 0, .int 0, .int 0, .null]) dX7_init_38 RX6 TX6 4 tyX6 rfl wsu_6 tyX6_ok nw_7_22 in_6.1 in_6.2 dfs_6 (Nat.le_of_ble_eq_true rfl) (Nat.le_of_ble_eq_true rfl) ?_
  refine v_dup dX7_init_41 ?_
  refine v_ctor dX7_init_42 "GluedInLifetime" ct_7_24 cc_6.1 cc_6.2.1 cc_6.2.2.1 rfl cc_6.2.2.2 rfl (g_X6_init l ρ 58 _ (by simp [va_up]) kdl_58 kdl_59) (Nat.le_of_ble_eq_true rfl) ⟨Nat.le_of_ble_eq_true rfl, Nat.le_of_ble_eq_true rfl⟩ (Nat.le_of_ble_eq_true rfl) (Nat.le_of_ble_eq_true rfl) (fun f58 hp => ?_)
  replace hz := pz_join hz hp.1 hp.2.1
  replace h0 := h0_join (by decide) h0 hp.1
  refine v_put (ci := 7) (k := 0) (fs := [.ref (ρ.2.1 1), .ref (ρ.2.1 20), .ref (ρ.2.1 39), .null, .null, .null, .null, .null, .null, .null, .null, .int 0, .int 0]) (fk := 3) (v := .ref (ρ.2.1 58)) (ty := (.object "GluedInLifetime$Thing")) dX7_init_45 RX7 TX7 13 tyX7 rfl wsu_7 tyX7_ok nmX7 (by decide) rfl rfl cl_7_25 (by decide +kernel) rfl rfl (by decide) h0 (by decide) ?_
  replace hz := pz_put (e := .inr (7, [.ref (ρ.2.1 1), .ref (ρ.2.1 20), .ref (ρ.2.1 39), .ref (ρ.2.1 58), .null, .null, .null, .null, .null, .null, .null, .int 0, .int 0])) hz
  replace h0 := (show va_up _ 0 (Sum.inr (7, [.ref (ρ.2.1 1), .ref (ρ.2.1 20), .ref (ρ.2.1 39), .ref (ρ.2.1 58), .null, .null, .null, .null, .null, .null, .null, .int 0, .int 0]) : va_E) 0 = .inr (7, [.ref (ρ.2.1 1), .ref (ρ.2.1 20), .ref (ρ.2.1 39), .ref (ρ.2.1 58), .null, .null, .null, .null, .null, .null, .null, .int 0, .int 0]) from rfl)
  refine v_aload_n 0 dX7_init_48 rfl ?_
  refine v_new (ci := 5) (fs := [.null, .int 0]) dX7_init_49 RX5 TX5 2 tyX5 rfl wsu_5 tyX5_ok nw_7_29 in_5.1 in_5.2 dfs_5 (Nat.le_of_ble_eq_true rfl) (Nat.le_of_ble_eq_true rfl) ?_
  refine v_dup dX7_init_52 ?_
  refine v_ctor dX7_init_53 "GluedInLifetime" ct_7_31 cc_5.1 cc_5.2.1 cc_5.2.2.1 rfl cc_5.2.2.2 rfl (g_X5_init l ρ 60 _ (by simp [va_up]) kdl_60 kdl_61) (Nat.le_of_ble_eq_true rfl) ⟨Nat.le_of_ble_eq_true rfl, Nat.le_of_ble_eq_true rfl⟩ (Nat.le_of_ble_eq_true rfl) (Nat.le_of_ble_eq_true rfl) (fun f60 hp => ?_)
  replace hz := pz_join hz hp.1 hp.2.1
  replace h0 := h0_join (by decide) h0 hp.1
  refine v_put (ci := 7) (k := 0) (fs := [.ref (ρ.2.1 1), .ref (ρ.2.1 20), .ref (ρ.2.1 39), .ref (ρ.2.1 58), .null, .null, .null, .null, .null, .null, .null, .int 0, .int 0]) (fk := 4) (v := .ref (ρ.2.1 60)) (ty := (.object "GluedInLifetime$Text")) dX7_init_56 RX7 TX7 13 tyX7 rfl wsu_7 tyX7_ok nmX7 (by decide) rfl rfl cl_7_32 (by decide +kernel) rfl rfl (by decide) h0 (by decide) ?_
  replace hz := pz_put (e := .inr (7, [.ref (ρ.2.1 1), .ref (ρ.2.1 20), .ref (ρ.2.1 39), .ref (ρ.2.1 58), .ref (ρ.2.1 60), .null, .null, .null, .null, .null, .null, .int 0, .int 0])) hz
  replace h0 := (show va_up _ 0 (Sum.inr (7, [.ref (ρ.2.1 1), .ref (ρ.2.1 20), .ref (ρ.2.1 39), .ref (ρ.2.1 58), .ref (ρ.2.1 60), .null, .null, .null, .null, .null, .null, .int 0, .int 0]) : va_E) 0 = .inr (7, [.ref (ρ.2.1 1), .ref (ρ.2.1 20), .ref (ρ.2.1 39), .ref (ρ.2.1 58), .ref (ρ.2.1 60), .null, .null, .null, .null, .null, .null, .int 0, .int 0]) from rfl)
  refine v_aload_n 0 dX7_init_59 rfl ?_
  refine v_new (ci := 2) (fs := [.null, .int 0]) dX7_init_60 RX2 TX2 2 tyX2 rfl wsu_2 tyX2_ok nw_7_36 in_2.1 in_2.2 dfs_2 (Nat.le_of_ble_eq_true rfl) (Nat.le_of_ble_eq_true rfl) ?_
  refine v_dup dX7_init_63 ?_
  refine v_ctor dX7_init_64 "GluedInLifetime" ct_7_38 cc_2.1 cc_2.2.1 cc_2.2.2.1 rfl cc_2.2.2.2 rfl (g_X2_init l ρ 62 _ (by simp [va_up]) kdl_62 kdl_63) (Nat.le_of_ble_eq_true rfl) ⟨Nat.le_of_ble_eq_true rfl, Nat.le_of_ble_eq_true rfl⟩ (Nat.le_of_ble_eq_true rfl) (Nat.le_of_ble_eq_true rfl) (fun f62 hp => ?_)
  replace hz := pz_join hz hp.1 hp.2.1
  replace h0 := h0_join (by decide) h0 hp.1
  refine v_put (ci := 7) (k := 0) (fs := [.ref (ρ.2.1 1), .ref (ρ.2.1 20), .ref (ρ.2.1 39), .ref (ρ.2.1 58), .ref (ρ.2.1 60), .null, .null, .null, .null, .null, .null, .int 0, .int 0]) (fk := 5) (v := .ref (ρ.2.1 62)) (ty := (.object "GluedInLifetime$Row")) dX7_init_67 RX7 TX7 13 tyX7 rfl wsu_7 tyX7_ok nmX7 (by decide) rfl rfl cl_7_39 (by decide +kernel) rfl rfl (by decide) h0 (by decide) ?_
  replace hz := pz_put (e := .inr (7, [.ref (ρ.2.1 1), .ref (ρ.2.1 20), .ref (ρ.2.1 39), .ref (ρ.2.1 58), .ref (ρ.2.1 60), .ref (ρ.2.1 62), .null, .null, .null, .null, .null, .int 0, .int 0])) hz
  replace h0 := (show va_up _ 0 (Sum.inr (7, [.ref (ρ.2.1 1), .ref (ρ.2.1 20), .ref (ρ.2.1 39), .ref (ρ.2.1 58), .ref (ρ.2.1 60), .ref (ρ.2.1 62), .null, .null, .null, .null, .null, .int 0, .int 0]) : va_E) 0 = .inr (7, [.ref (ρ.2.1 1), .ref (ρ.2.1 20), .ref (ρ.2.1 39), .ref (ρ.2.1 58), .ref (ρ.2.1 60), .ref (ρ.2.1 62), .null, .null, .null, .null, .null, .int 0, .int 0]) from rfl)
  refine v_aload_n 0 dX7_init_70 rfl ?_
  refine v_new (ci := 1) (fs := [.null, .null, .int 0, .int 0, .int 0]) dX7_init_71 RX1 TX1 5 tyX1 rfl wsu_1 tyX1_ok nw_7_43 in_1.1 in_1.2 dfs_1 (Nat.le_of_ble_eq_true rfl) (Nat.le_of_ble_eq_true rfl) ?_
  refine v_dup dX7_init_74 ?_
  refine v_ctor dX7_init_75 "GluedInLifetime" ct_7_45 cc_1.1 cc_1.2.1 cc_1.2.2.1 rfl cc_1.2.2.2 rfl (g_X1_init l ρ 64 _ (by simp [va_up]) kdl_64 kdl_65 kdl_66) (Nat.le_of_ble_eq_true rfl) ⟨Nat.le_of_ble_eq_true rfl, Nat.le_of_ble_eq_true rfl⟩ (Nat.le_of_ble_eq_true rfl) (Nat.le_of_ble_eq_true rfl) (fun f64 hp => ?_)
  replace hz := pz_join hz hp.1 hp.2.1
  replace h0 := h0_join (by decide) h0 hp.1
  refine v_put (ci := 7) (k := 0) (fs := [.ref (ρ.2.1 1), .ref (ρ.2.1 20), .ref (ρ.2.1 39), .ref (ρ.2.1 58), .ref (ρ.2.1 60), .ref (ρ.2.1 62), .null, .null, .null, .null, .null, .int 0, .int 0]) (fk := 6) (v := .ref (ρ.2.1 64)) (ty := (.object "GluedInLifetime$Pot")) dX7_init_78 RX7 TX7 13 tyX7 rfl wsu_7 tyX7_ok nmX7 (by decide) rfl rfl cl_7_46 (by decide +kernel) rfl rfl (by decide) h0 (by decide) ?_
  replace hz := pz_put (e := .inr (7, [.ref (ρ.2.1 1), .ref (ρ.2.1 20), .ref (ρ.2.1 39), .ref (ρ.2.1 58), .ref (ρ.2.1 60), .ref (ρ.2.1 62), .ref (ρ.2.1 64), .null, .null, .null, .null, .int 0, .int 0])) hz
  replace h0 := (show va_up _ 0 (Sum.inr (7, [.ref (ρ.2.1 1), .ref (ρ.2.1 20), .ref (ρ.2.1 39), .ref (ρ.2.1 58), .ref (ρ.2.1 60), .ref (ρ.2.1 62), .ref (ρ.2.1 64), .null, .null, .null, .null, .int 0, .int 0]) : va_E) 0 = .inr (7, [.ref (ρ.2.1 1), .ref (ρ.2.1 20), .ref (ρ.2.1 39), .ref (ρ.2.1 58), .ref (ρ.2.1 60), .ref (ρ.2.1 62), .ref (ρ.2.1 64), .null, .null, .null, .null, .int 0, .int 0]) from rfl)
  refine v_aload_n 0 dX7_init_81 rfl ?_
  refine v_new (ci := 0) (fs := [.null, .null, .int 0]) dX7_init_82 RX0 TX0 3 tyX0 rfl wsu_0 tyX0_ok nw_7_50 in_0.1 in_0.2 dfs_0 (Nat.le_of_ble_eq_true rfl) (Nat.le_of_ble_eq_true rfl) ?_
  refine v_dup dX7_init_85 ?_
  refine v_ctor dX7_init_86 "GluedInLifetime" ct_7_52 cc_0.1 cc_0.2.1 cc_0.2.2.1 rfl cc_0.2.2.2 rfl (g_X0_init l ρ 67 _ (by simp [va_up]) kdl_67 kdl_68 kdl_69) (Nat.le_of_ble_eq_true rfl) ⟨Nat.le_of_ble_eq_true rfl, Nat.le_of_ble_eq_true rfl⟩ (Nat.le_of_ble_eq_true rfl) (Nat.le_of_ble_eq_true rfl) (fun f67 hp => ?_)
  replace hz := pz_join hz hp.1 hp.2.1
  replace h0 := h0_join (by decide) h0 hp.1
  refine v_put (ci := 7) (k := 0) (fs := [.ref (ρ.2.1 1), .ref (ρ.2.1 20), .ref (ρ.2.1 39), .ref (ρ.2.1 58), .ref (ρ.2.1 60), .ref (ρ.2.1 62), .ref (ρ.2.1 64), .null, .null, .null, .null, .int 0, .int 0]) (fk := 7) (v := .ref (ρ.2.1 67)) (ty := (.object "GluedInLifetime$Line")) dX7_init_89 RX7 TX7 13 tyX7 rfl wsu_7 tyX7_ok nmX7 (by decide) rfl rfl cl_7_53 (by decide +kernel) rfl rfl (by decide) h0 (by decide) ?_
  replace hz := pz_put (e := .inr (7, [.ref (ρ.2.1 1), .ref (ρ.2.1 20), .ref (ρ.2.1 39), .ref (ρ.2.1 58), .ref (ρ.2.1 60), .ref (ρ.2.1 62), .ref (ρ.2.1 64), .ref (ρ.2.1 67), .null, .null, .null, .int 0, .int 0])) hz
  replace h0 := (show va_up _ 0 (Sum.inr (7, [.ref (ρ.2.1 1), .ref (ρ.2.1 20), .ref (ρ.2.1 39), .ref (ρ.2.1 58), .ref (ρ.2.1 60), .ref (ρ.2.1 62), .ref (ρ.2.1 64), .ref (ρ.2.1 67), .null, .null, .null, .int 0, .int 0]) : va_E) 0 = .inr (7, [.ref (ρ.2.1 1), .ref (ρ.2.1 20), .ref (ρ.2.1 39), .ref (ρ.2.1 58), .ref (ρ.2.1 60), .ref (ρ.2.1 62), .ref (ρ.2.1 64), .ref (ρ.2.1 67), .null, .null, .null, .int 0, .int 0]) from rfl)
  refine v_aload_n 0 dX7_init_92 rfl ?_
  refine v_new (ci := 4) (fs := [.null]) dX7_init_93 RX4 TX4 1 tyX4 rfl wsu_4 tyX4_ok nw_7_57 in_4.1 in_4.2 dfs_4 (Nat.le_of_ble_eq_true rfl) (Nat.le_of_ble_eq_true rfl) ?_
  refine v_dup dX7_init_96 ?_
  refine v_ctor dX7_init_97 "GluedInLifetime" ct_7_59 cc_4.1 cc_4.2.1 cc_4.2.2.1 rfl cc_4.2.2.2 rfl (g_X4_init l ρ 70 _ (by simp [va_up]) kdl_70 kdl_71) (Nat.le_of_ble_eq_true rfl) ⟨Nat.le_of_ble_eq_true rfl, Nat.le_of_ble_eq_true rfl⟩ (Nat.le_of_ble_eq_true rfl) (Nat.le_of_ble_eq_true rfl) (fun f70 hp => ?_)
  replace hz := pz_join hz hp.1 hp.2.1
  replace h0 := h0_join (by decide) h0 hp.1
  refine v_put (ci := 7) (k := 0) (fs := [.ref (ρ.2.1 1), .ref (ρ.2.1 20), .ref (ρ.2.1 39), .ref (ρ.2.1 58), .ref (ρ.2.1 60), .ref (ρ.2.1 62), .ref (ρ.2.1 64), .ref (ρ.2.1 67), .null, .null, .null, .int 0, .int 0]) (fk := 8) (v := .ref (ρ.2.1 70)) (ty := (.object "GluedInLifetime$Slips")) dX7_init_100 RX7 TX7 13 tyX7 rfl wsu_7 tyX7_ok nmX7 (by decide) rfl rfl cl_7_60 (by decide +kernel) rfl rfl (by decide) h0 (by decide) ?_
  replace hz := pz_put (e := .inr (7, [.ref (ρ.2.1 1), .ref (ρ.2.1 20), .ref (ρ.2.1 39), .ref (ρ.2.1 58), .ref (ρ.2.1 60), .ref (ρ.2.1 62), .ref (ρ.2.1 64), .ref (ρ.2.1 67), .ref (ρ.2.1 70), .null, .null, .int 0, .int 0])) hz
  replace h0 := (show va_up _ 0 (Sum.inr (7, [.ref (ρ.2.1 1), .ref (ρ.2.1 20), .ref (ρ.2.1 39), .ref (ρ.2.1 58), .ref (ρ.2.1 60), .ref (ρ.2.1 62), .ref (ρ.2.1 64), .ref (ρ.2.1 67), .ref (ρ.2.1 70), .null, .null, .int 0, .int 0]) : va_E) 0 = .inr (7, [.ref (ρ.2.1 1), .ref (ρ.2.1 20), .ref (ρ.2.1 39), .ref (ρ.2.1 58), .ref (ρ.2.1 60), .ref (ρ.2.1 62), .ref (ρ.2.1 64), .ref (ρ.2.1 67), .ref (ρ.2.1 70), .null, .null, .int 0, .int 0]) from rfl)
  refine v_aload_n 0 dX7_init_103 rfl ?_
  refine v_bipush (v := 20) dX7_init_104 rfl ?_
  refine v_newi (N' := 20) dX7_init_106 wi_int (by decide) (by decide) (Nat.le_of_ble_eq_true rfl) (Nat.le_of_ble_eq_true rfl) (Nat.le_of_ble_eq_true rfl) ?_
  replace hz := pz_push (n := 72) hz (e := .inl (ρ.2.2.1.1, (20, .inl (fun _ => 0)))) (by rw [zc_ints kdl_72 (by decide) (by decide), S0_zero (by rw [kdl_72]; decide) (by rw [kdl_72]; decide) (by decide)]; rfl)
  replace h0 := (show va_up _ 72 _ 0 = _ from h0)
  refine v_put (ci := 7) (k := 0) (fs := [.ref (ρ.2.1 1), .ref (ρ.2.1 20), .ref (ρ.2.1 39), .ref (ρ.2.1 58), .ref (ρ.2.1 60), .ref (ρ.2.1 62), .ref (ρ.2.1 64), .ref (ρ.2.1 67), .ref (ρ.2.1 70), .null, .null, .int 0, .int 0]) (fk := 9) (v := .ref (ρ.2.1 72)) (ty := (.array .int)) dX7_init_108 RX7 TX7 13 tyX7 rfl wsu_7 tyX7_ok nmX7 (by decide) rfl rfl cl_7_64 (by decide +kernel) rfl rfl (by decide) h0 (by decide) ?_
  replace hz := pz_put (e := .inr (7, [.ref (ρ.2.1 1), .ref (ρ.2.1 20), .ref (ρ.2.1 39), .ref (ρ.2.1 58), .ref (ρ.2.1 60), .ref (ρ.2.1 62), .ref (ρ.2.1 64), .ref (ρ.2.1 67), .ref (ρ.2.1 70), .ref (ρ.2.1 72), .null, .int 0, .int 0])) hz
  replace h0 := (show va_up _ 0 (Sum.inr (7, [.ref (ρ.2.1 1), .ref (ρ.2.1 20), .ref (ρ.2.1 39), .ref (ρ.2.1 58), .ref (ρ.2.1 60), .ref (ρ.2.1 62), .ref (ρ.2.1 64), .ref (ρ.2.1 67), .ref (ρ.2.1 70), .ref (ρ.2.1 72), .null, .int 0, .int 0]) : va_E) 0 = .inr (7, [.ref (ρ.2.1 1), .ref (ρ.2.1 20), .ref (ρ.2.1 39), .ref (ρ.2.1 58), .ref (ρ.2.1 60), .ref (ρ.2.1 62), .ref (ρ.2.1 64), .ref (ρ.2.1 67), .ref (ρ.2.1 70), .ref (ρ.2.1 72), .null, .int 0, .int 0]) from rfl)
  refine v_aload_n 0 dX7_init_111 rfl ?_
  refine v_bipush (v := 7) dX7_init_112 rfl ?_
  refine v_newi (N' := 7) dX7_init_114 wi_int (by decide) (by decide) (Nat.le_of_ble_eq_true rfl) (Nat.le_of_ble_eq_true rfl) (Nat.le_of_ble_eq_true rfl) ?_
  replace hz := pz_push (n := 73) hz (e := .inl (ρ.2.2.1.1, (7, .inl (fun _ => 0)))) (by rw [zc_ints kdl_73 (by decide) (by decide), S0_zero (by rw [kdl_73]; decide) (by rw [kdl_73]; decide) (by decide)]; rfl)
  replace h0 := (show va_up _ 73 _ 0 = _ from h0)
  refine v_put (ci := 7) (k := 0) (fs := [.ref (ρ.2.1 1), .ref (ρ.2.1 20), .ref (ρ.2.1 39), .ref (ρ.2.1 58), .ref (ρ.2.1 60), .ref (ρ.2.1 62), .ref (ρ.2.1 64), .ref (ρ.2.1 67), .ref (ρ.2.1 70), .ref (ρ.2.1 72), .null, .int 0, .int 0]) (fk := 10) (v := .ref (ρ.2.1 73)) (ty := (.array .int)) dX7_init_116 RX7 TX7 13 tyX7 rfl wsu_7 tyX7_ok nmX7 (by decide) rfl rfl cl_7_68 (by decide +kernel) rfl rfl (by decide) h0 (by decide) ?_
  replace hz := pz_put (e := .inr (7, [.ref (ρ.2.1 1), .ref (ρ.2.1 20), .ref (ρ.2.1 39), .ref (ρ.2.1 58), .ref (ρ.2.1 60), .ref (ρ.2.1 62), .ref (ρ.2.1 64), .ref (ρ.2.1 67), .ref (ρ.2.1 70), .ref (ρ.2.1 72), .ref (ρ.2.1 73), .int 0, .int 0])) hz
  replace h0 := (show va_up _ 0 (Sum.inr (7, [.ref (ρ.2.1 1), .ref (ρ.2.1 20), .ref (ρ.2.1 39), .ref (ρ.2.1 58), .ref (ρ.2.1 60), .ref (ρ.2.1 62), .ref (ρ.2.1 64), .ref (ρ.2.1 67), .ref (ρ.2.1 70), .ref (ρ.2.1 72), .ref (ρ.2.1 73), .int 0, .int 0]) : va_E) 0 = .inr (7, [.ref (ρ.2.1 1), .ref (ρ.2.1 20), .ref (ρ.2.1 39), .ref (ρ.2.1 58), .ref (ρ.2.1 60), .ref (ρ.2.1 62), .ref (ρ.2.1 64), .ref (ρ.2.1 67), .ref (ρ.2.1 70), .ref (ρ.2.1 72), .ref (ρ.2.1 73), .int 0, .int 0]) from rfl)
  have hzk : ∀ g : Nat → va_E, g 0 = .inr (7, [.ref (ρ.2.1 1), .ref (ρ.2.1 20), .ref (ρ.2.1 39), .ref (ρ.2.1 58), .ref (ρ.2.1 60), .ref (ρ.2.1 62), .ref (ρ.2.1 64), .ref (ρ.2.1 67), .ref (ρ.2.1 70), .ref (ρ.2.1 72), .ref (ρ.2.1 73), .int 0, .int 0]) → g 0 = zc ρ S0 0 := by
    intro g hg
    rw [hg, zc_obj kdl_0 (by decide)]
    simp [zf, rv, S0, kdl_0]
  refine v_ret dX7_init_119 rfl rfl (fun i g1 g2 => ?_) (Nat.le_refl _) (Nat.le_refl _)
  rcases Nat.eq_zero_or_pos i with rfl | q
  · exact sim_eq (hzk _ h0)
  · exact hz i q g2
theorem c2_n : (2 : Int32).toNatClampNeg = 2 := by decide
theorem c3_n : (3 : Int32).toNatClampNeg = 3 := by decide
theorem S0_75 : S0.1 75 = upd (upd (fun _ => 0) 2 20) 3 1 := by
  funext j
  have h3 : kd 75 ≠ 3 := by decide
  have h6 : kd 75 ≠ 6 := by decide
  simp only [S0, h3, h6, if_false, upd]
  by_cases e3 : j = 3
  · subst e3; rfl
  · by_cases e2 : j = 2
    · subst e2; rfl
    · simp [e2, e3]
set_option maxHeartbeats 8000000 in
theorem g_X8_init (l : Launch) (ρ : zR) (f : Nat → va_E) (h0 : f 74 = .inr (8, [.null, .null, .null, .null, .int 0, .null, .null, .null, .int 0, .int 0, .int 0, .null, .int 0, .null, .null, .int 0])) (hz : Pz ρ f 0 74) : GT l yX8_init M_X8_init 10 851 ρ 74 75 f 85 (fun f' => Pz ρ f' 0 85) := by
  refine gt_of (by decide) rfl (Nat.le_of_ble_eq_true rfl) ?_
  refine v_aload_n 0 dX8_init_0 rfl ?_
  refine v_objInit dX8_init_1 (oi_8 _ rfl) (Nat.le_of_ble_eq_true rfl) (Nat.le_of_ble_eq_true rfl) _ ?_
  refine v_aload_n 0 dX8_init_4 rfl ?_
  refine v_sipush (v := 132) dX8_init_5 rfl ?_
  refine v_newi (N' := 132) dX8_init_8 wi_int (by decide) (by decide) (Nat.le_of_ble_eq_true rfl) (Nat.le_of_ble_eq_true rfl) (Nat.le_of_ble_eq_true rfl) ?_
  refine v_put (ci := 8) (k := 74) (fs := [.null, .null, .null, .null, .int 0, .null, .null, .null, .int 0, .int 0, .int 0, .null, .int 0, .null, .null, .int 0]) (fk := 0) (v := .ref (ρ.2.1 75)) (ty := (.array .int)) dX8_init_10 RX8 TX8 16 tyX8 rfl wsu_8 tyX8_ok nmX8 (by decide) rfl rfl cl_8_9 (by decide +kernel) rfl rfl (by decide) (by simp [va_up, h0]) (by decide) ?_
  refine v_aload_n 0 dX8_init_13 rfl ?_
  refine v_sipush (v := 132) dX8_init_14 rfl ?_
  refine v_newi (N' := 132) dX8_init_17 wi_int (by decide) (by decide) (Nat.le_of_ble_eq_true rfl) (Nat.le_of_ble_eq_true rfl) (Nat.le_of_ble_eq_true rfl) ?_
  refine v_put (ci := 8) (k := 74) (fs := [.ref (ρ.2.1 75), .null, .null, .null, .int 0, .null, .null, .null, .int 0, .int 0, .int 0, .null, .int 0, .null, .null, .int 0]) (fk := 1) (v := .ref (ρ.2.1 76)) (ty := (.array .int)) dX8_init_19 RX8 TX8 16 tyX8 rfl wsu_8 tyX8_ok nmX8 (by decide) rfl rfl cl_8_13 (by decide +kernel) rfl rfl (by decide) (by simp [va_up, h0]) (by decide) ?_
  refine v_aload_n 0 dX8_init_22 rfl ?_
  refine v_sipush (v := 132) dX8_init_23 rfl ?_
  refine v_newi (N' := 132) dX8_init_26 wi_int (by decide) (by decide) (Nat.le_of_ble_eq_true rfl) (Nat.le_of_ble_eq_true rfl) (Nat.le_of_ble_eq_true rfl) ?_
  refine v_put (ci := 8) (k := 74) (fs := [.ref (ρ.2.1 75), .ref (ρ.2.1 76), .null, .null, .int 0, .null, .null, .null, .int 0, .int 0, .int 0, .null, .int 0, .null, .null, .int 0]) (fk := 2) (v := .ref (ρ.2.1 77)) (ty := (.array .int)) dX8_init_28 RX8 TX8 16 tyX8 rfl wsu_8 tyX8_ok nmX8 (by decide) rfl rfl cl_8_16 (by decide +kernel) rfl rfl (by decide) (by simp [va_up, h0]) (by decide) ?_
  refine v_aload_n 0 dX8_init_31 rfl ?_
  refine v_sipush (v := 132) dX8_init_32 rfl ?_
  refine v_newi (N' := 132) dX8_init_35 wi_int (by decide) (by decide) (Nat.le_of_ble_eq_true rfl) (Nat.le_of_ble_eq_true rfl) (Nat.le_of_ble_eq_true rfl) ?_
  refine v_put (ci := 8) (k := 74) (fs := [.ref (ρ.2.1 75), .ref (ρ.2.1 76), .ref (ρ.2.1 77), .null, .int 0, .null, .null, .null, .int 0, .int 0, .int 0, .null, .int 0, .null, .null, .int 0]) (fk := 3) (v := .ref (ρ.2.1 78)) (ty := (.array .int)) dX8_init_37 RX8 TX8 16 tyX8 rfl wsu_8 tyX8_ok nmX8 (by decide) rfl rfl cl_8_19 (by decide +kernel) rfl rfl (by decide) (by simp [va_up, h0]) (by decide) ?_
  refine v_aload_n 0 dX8_init_40 rfl ?_
  refine v_bipush (v := 96) dX8_init_41 rfl ?_
  refine v_newi (N' := 96) dX8_init_43 wi_int (by decide) (by decide) (Nat.le_of_ble_eq_true rfl) (Nat.le_of_ble_eq_true rfl) (Nat.le_of_ble_eq_true rfl) ?_
  refine v_put (ci := 8) (k := 74) (fs := [.ref (ρ.2.1 75), .ref (ρ.2.1 76), .ref (ρ.2.1 77), .ref (ρ.2.1 78), .int 0, .null, .null, .null, .int 0, .int 0, .int 0, .null, .int 0, .null, .null, .int 0]) (fk := 5) (v := .ref (ρ.2.1 79)) (ty := (.array .int)) dX8_init_45 RX8 TX8 16 tyX8 rfl wsu_8 tyX8_ok nmX8 (by decide) rfl rfl cl_8_22 (by decide +kernel) rfl rfl (by decide) (by simp [va_up, h0]) (by decide) ?_
  refine v_aload_n 0 dX8_init_48 rfl ?_
  refine v_bipush (v := 16) dX8_init_49 rfl ?_
  refine v_newi (N' := 16) dX8_init_51 wi_int (by decide) (by decide) (Nat.le_of_ble_eq_true rfl) (Nat.le_of_ble_eq_true rfl) (Nat.le_of_ble_eq_true rfl) ?_
  refine v_put (ci := 8) (k := 74) (fs := [.ref (ρ.2.1 75), .ref (ρ.2.1 76), .ref (ρ.2.1 77), .ref (ρ.2.1 78), .int 0, .ref (ρ.2.1 79), .null, .null, .int 0, .int 0, .int 0, .null, .int 0, .null, .null, .int 0]) (fk := 6) (v := .ref (ρ.2.1 80)) (ty := (.array .int)) dX8_init_53 RX8 TX8 16 tyX8 rfl wsu_8 tyX8_ok nmX8 (by decide) rfl rfl cl_8_25 (by decide +kernel) rfl rfl (by decide) (by simp [va_up, h0]) (by decide) ?_
  refine v_aload_n 0 dX8_init_56 rfl ?_
  refine v_bipush (v := 7) dX8_init_57 rfl ?_
  refine v_newi (N' := 7) dX8_init_59 wi_int (by decide) (by decide) (Nat.le_of_ble_eq_true rfl) (Nat.le_of_ble_eq_true rfl) (Nat.le_of_ble_eq_true rfl) ?_
  refine v_put (ci := 8) (k := 74) (fs := [.ref (ρ.2.1 75), .ref (ρ.2.1 76), .ref (ρ.2.1 77), .ref (ρ.2.1 78), .int 0, .ref (ρ.2.1 79), .ref (ρ.2.1 80), .null, .int 0, .int 0, .int 0, .null, .int 0, .null, .null, .int 0]) (fk := 7) (v := .ref (ρ.2.1 81)) (ty := (.array .int)) dX8_init_61 RX8 TX8 16 tyX8 rfl wsu_8 tyX8_ok nmX8 (by decide) rfl rfl cl_8_28 (by decide +kernel) rfl rfl (by decide) (by simp [va_up, h0]) (by decide) ?_
  refine v_aload_n 0 dX8_init_64 rfl ?_
  refine v_iconst (v := 4) dX8_init_65 rfl ?_
  refine v_newi (N' := 4) dX8_init_66 wi_int (by decide) (by decide) (Nat.le_of_ble_eq_true rfl) (Nat.le_of_ble_eq_true rfl) (Nat.le_of_ble_eq_true rfl) ?_
  refine v_put (ci := 8) (k := 74) (fs := [.ref (ρ.2.1 75), .ref (ρ.2.1 76), .ref (ρ.2.1 77), .ref (ρ.2.1 78), .int 0, .ref (ρ.2.1 79), .ref (ρ.2.1 80), .ref (ρ.2.1 81), .int 0, .int 0, .int 0, .null, .int 0, .null, .null, .int 0]) (fk := 11) (v := .ref (ρ.2.1 82)) (ty := (.array .int)) dX8_init_68 RX8 TX8 16 tyX8 rfl wsu_8 tyX8_ok nmX8 (by decide) rfl rfl cl_8_31 (by decide +kernel) rfl rfl (by decide) (by simp [va_up, h0]) (by decide) ?_
  refine v_aload_n 0 dX8_init_71 rfl ?_
  refine v_bipush (v := 100) dX8_init_72 rfl ?_
  refine v_newi (N' := 100) dX8_init_74 wi_int (by decide) (by decide) (Nat.le_of_ble_eq_true rfl) (Nat.le_of_ble_eq_true rfl) (Nat.le_of_ble_eq_true rfl) ?_
  refine v_put (ci := 8) (k := 74) (fs := [.ref (ρ.2.1 75), .ref (ρ.2.1 76), .ref (ρ.2.1 77), .ref (ρ.2.1 78), .int 0, .ref (ρ.2.1 79), .ref (ρ.2.1 80), .ref (ρ.2.1 81), .int 0, .int 0, .int 0, .ref (ρ.2.1 82), .int 0, .null, .null, .int 0]) (fk := 13) (v := .ref (ρ.2.1 83)) (ty := (.array .int)) dX8_init_76 RX8 TX8 16 tyX8 rfl wsu_8 tyX8_ok nmX8 (by decide) rfl rfl cl_8_34 (by decide +kernel) rfl rfl (by decide) (by simp [va_up, h0]) (by decide) ?_
  refine v_aload_n 0 dX8_init_79 rfl ?_
  refine v_bipush (v := 100) dX8_init_80 rfl ?_
  refine v_newi (N' := 100) dX8_init_82 wi_int (by decide) (by decide) (Nat.le_of_ble_eq_true rfl) (Nat.le_of_ble_eq_true rfl) (Nat.le_of_ble_eq_true rfl) ?_
  refine v_put (ci := 8) (k := 74) (fs := [.ref (ρ.2.1 75), .ref (ρ.2.1 76), .ref (ρ.2.1 77), .ref (ρ.2.1 78), .int 0, .ref (ρ.2.1 79), .ref (ρ.2.1 80), .ref (ρ.2.1 81), .int 0, .int 0, .int 0, .ref (ρ.2.1 82), .int 0, .ref (ρ.2.1 83), .null, .int 0]) (fk := 14) (v := .ref (ρ.2.1 84)) (ty := (.array .int)) dX8_init_84 RX8 TX8 16 tyX8 rfl wsu_8 tyX8_ok nmX8 (by decide) rfl rfl cl_8_37 (by decide +kernel) rfl rfl (by decide) (by simp [va_up, h0]) (by decide) ?_
  refine v_aload_n 0 dX8_init_87 rfl ?_
  refine v_get (ci := 8) (k := 74) (fs := [.ref (ρ.2.1 75), .ref (ρ.2.1 76), .ref (ρ.2.1 77), .ref (ρ.2.1 78), .int 0, .ref (ρ.2.1 79), .ref (ρ.2.1 80), .ref (ρ.2.1 81), .int 0, .int 0, .int 0, .ref (ρ.2.1 82), .int 0, .ref (ρ.2.1 83), .ref (ρ.2.1 84), .int 0]) (fk := 0) (v := .ref (ρ.2.1 75)) dX8_init_88 RX8 TX8 16 rfl wsu_8 (by decide) rfl rfl cl_8_9 (by decide) (by simp [va_up]) rfl ?_
  refine v_iconst (v := 2) dX8_init_91 rfl ?_
  refine v_bipush (v := 20) dX8_init_92 rfl ?_
  refine v_iast (k0 := 75) (N := 132) (g := (fun _ => 0)) dX8_init_94 (by decide) (by simp [va_up]) (by decide +kernel) ?_
  refine v_aload_n 0 dX8_init_95 rfl ?_
  refine v_get (ci := 8) (k := 74) (fs := [.ref (ρ.2.1 75), .ref (ρ.2.1 76), .ref (ρ.2.1 77), .ref (ρ.2.1 78), .int 0, .ref (ρ.2.1 79), .ref (ρ.2.1 80), .ref (ρ.2.1 81), .int 0, .int 0, .int 0, .ref (ρ.2.1 82), .int 0, .ref (ρ.2.1 83), .ref (ρ.2.1 84), .int 0]) (fk := 0) (v := .ref (ρ.2.1 75)) dX8_init_96 RX8 TX8 16 rfl wsu_8 (by decide) rfl rfl cl_8_9 (by decide) (by simp [va_up]) rfl ?_
  refine v_iconst (v := 3) dX8_init_99 rfl ?_
  refine v_iconst (v := 1) dX8_init_100 rfl ?_
  refine v_iast (k0 := 75) (N := 132) (g := (upd (fun _ => 0) (2 : Int32).toNatClampNeg 20)) dX8_init_101 (by decide) (by simp [va_up]) (by decide +kernel) ?_
  refine v_ret dX8_init_102 rfl rfl (fun i g1 g2 => ?_) (Nat.le_refl _) (Nat.le_refl _)
  rcases Nat.lt_or_ge i 74 with q | q
  · have e : ∀ j, 74 ≤ j → i ≠ j := fun j hj => by omega
    simp only [va_up, e 74 (by decide), e 75 (by decide), e 76 (by decide), e 77 (by decide), e 78 (by decide), e 79 (by decide), e 80 (by decide), e 81 (by decide), e 82 (by decide), e 83 (by decide), e 84 (by decide), if_false, Nat.reduceAdd]
    exact hz i g1 q
  · rcases (show i = 74 ∨ i = 75 ∨ i = 76 ∨ i = 77 ∨ i = 78 ∨ i = 79 ∨ i = 80 ∨ i = 81 ∨ i = 82 ∨ i = 83 ∨ i = 84 by omega) with rfl | rfl | rfl | rfl | rfl | rfl | rfl | rfl | rfl | rfl | rfl
    · refine sim_eq ?_
      rw [zc_obj kdl_74 (by decide)]
      simp [va_up, zf, rv, S0, kdl_74]
    · refine sim_eq ?_
      rw [zc_ints kdl_75 (by decide) (by decide), S0_75]
      simp [va_up, il, c2_n, c3_n]
    · refine sim_eq ?_
      rw [zc_ints kdl_76 (by decide) (by decide), S0_zero (by rw [kdl_76]; decide) (by rw [kdl_76]; decide) (by decide)]
      simp [va_up, il]
    · refine sim_eq ?_
      rw [zc_ints kdl_77 (by decide) (by decide), S0_zero (by rw [kdl_77]; decide) (by rw [kdl_77]; decide) (by decide)]
      simp [va_up, il]
    · refine sim_eq ?_
      rw [zc_ints kdl_78 (by decide) (by decide), S0_zero (by rw [kdl_78]; decide) (by rw [kdl_78]; decide) (by decide)]
      simp [va_up, il]
    · refine sim_eq ?_
      rw [zc_ints kdl_79 (by decide) (by decide), S0_zero (by rw [kdl_79]; decide) (by rw [kdl_79]; decide) (by decide)]
      simp [va_up, il]
    · refine sim_eq ?_
      rw [zc_ints kdl_80 (by decide) (by decide), S0_zero (by rw [kdl_80]; decide) (by rw [kdl_80]; decide) (by decide)]
      simp [va_up, il]
    · refine sim_eq ?_
      rw [zc_ints kdl_81 (by decide) (by decide), S0_zero (by rw [kdl_81]; decide) (by rw [kdl_81]; decide) (by decide)]
      simp [va_up, il]
    · refine sim_eq ?_
      rw [zc_ints kdl_82 (by decide) (by decide), S0_zero (by rw [kdl_82]; decide) (by rw [kdl_82]; decide) (by decide)]
      simp [va_up, il]
    · refine sim_eq ?_
      rw [zc_ints kdl_83 (by decide) (by decide), S0_zero (by rw [kdl_83]; decide) (by rw [kdl_83]; decide) (by decide)]
      simp [va_up, il]
    · refine sim_eq ?_
      rw [zc_ints kdl_84 (by decide) (by decide), S0_zero (by rw [kdl_84]; decide) (by rw [kdl_84]; decide) (by decide)]
      simp [va_up, il]
