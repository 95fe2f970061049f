theorem pz_join {ρ : zR} {f f' : Nat → va_E} {b : va_E} {n n' : Nat} (hz : Pz ρ f 1 n) (ha : ∀ i, i < n → f' i = va_up f n b i) (hb : Pz ρ f' n n') : Pz ρ f' 1 n' := by
  intro i h1 h2
  rcases Nat.lt_or_ge i n with q | q
  · rw [ha i q]
    simp only [va_up, Nat.ne_of_lt q, if_false]
    exact hz i h1 q
  · exact hb i q h2
theorem pz_put {ρ : zR} {f : Nat → va_E} {e : va_E} {n : Nat} (hz : Pz ρ f 1 n) : Pz ρ (va_up f 0 e) 1 n := by
  intro i h1 h2
  have h0 : i ≠ 0 := by omega
  simp only [va_up, h0, if_false]
  exact hz i h1 h2
theorem pz_push {ρ : zR} {f : Nat → va_E} {e : va_E} {n : Nat} (hz : Pz ρ f 1 n) (he : e = zc ρ S0 n) : Pz ρ (va_up f n e) 1 (n + 1) := by
  intro i h1 h2
  by_cases h : i = n
  · subst h
    simp only [va_up, if_pos]
    exact sim_eq he
  · simp only [va_up, h, if_false]
    exact hz i h1 (by omega)
theorem h0_join {f f' : Nat → va_E} {b e : va_E} {n : Nat} (hn : 0 < n) (h0 : f 0 = e) (ha : ∀ i, i < n → f' i = va_up f n b i) : f' 0 = e := by
  rw [ha 0 hn]
  simp only [va_up, Nat.ne_of_lt hn, if_false]
  exact h0
set_option maxHeartbeats 8000000 in
theorem g_X7_init (l : Launch) (ρ : zR) (f : Nat → va_E) (h0 : f 0 = .inr (7, [.null, .null, .null, .null, .null, .null, .null, .null, .null, .null, .null, .int 0, .int 0])) : GT l yX7_init M_X7_init 73 655 ρ 0 1 f 74 (fun f' => Pz ρ f' 0 74) := by
  refine gt_of (by decide) rfl (Nat.le_of_ble_eq_true rfl) ?_
  refine v_aload_n 0 dX7_init_0 rfl ?_
  refine v_objInit (M := M_X7_init) (pc := 1) dX7_init_1 (oi_7 _ rfl) (Nat.le_of_ble_eq_true rfl) (by show 0 + 12 ≤ 80; omega) _ ?_
  have hz : Pz ρ f 1 1 := fun i h1 h2 => absurd h1 (by omega)
  refine v_aload_n 0 dX7_init_4 rfl ?_
  refine v_new (ci := 3) (fs := [.int 0, .int 0, .int 0, .int 0, .null, .null]) dX7_init_5 RX3 TX3 6 tyX3 rfl wsu_3 tyX3_ok nw_7_9 in_3.1 in_3.2 dfs_3 (Nat.le_of_ble_eq_true rfl) (Nat.le_of_ble_eq_true rfl) ?_
  refine v_dup dX7_init_8 ?_
  refine v_ctor dX7_init_9 "GluedInLifetime" ct_7_11 cc_3.1 cc_3.2.1 cc_3.2.2.1 rfl cc_3.2.2.2 rfl (g_X3_init l ρ 1 _ (by simp [va_up]) kdl_1) (Nat.le_of_ble_eq_true rfl) ⟨Nat.le_of_ble_eq_true rfl, Nat.le_of_ble_eq_true rfl⟩ (Nat.le_of_ble_eq_true rfl) (Nat.le_of_ble_eq_true rfl) (fun f1 hp => ?_)
  replace hz := pz_join hz hp.1 hp.2.1
  replace h0 := h0_join (by decide) h0 hp.1
  refine v_put (ci := 7) (k := 0) (fs := [.null, .null, .null, .null, .null, .null, .null, .null, .null, .null, .null, .int 0, .int 0]) (fk := 0) (v := .ref (ρ.2.1 1)) (ty := (.object "GluedInLifetime$Shop")) dX7_init_12 RX7 TX7 13 tyX7 rfl wsu_7 tyX7_ok nmX7 (by decide) rfl rfl cl_7_12 (by decide +kernel) rfl rfl (by decide) h0 (Nat.le_of_ble_eq_true rfl) ?_
  replace hz := pz_put (e := .inr (7, [.ref (ρ.2.1 1), .null, .null, .null, .null, .null, .null, .null, .null, .null, .null, .int 0, .int 0])) hz
  replace h0 := va_eq (f := f1) (k := 0) (v := (Sum.inr (7, [.ref (ρ.2.1 1), .null, .null, .null, .null, .null, .null, .null, .null, .null, .null, .int 0, .int 0]) : va_E))
  refine v_aload_n 0 dX7_init_15 rfl ?_
  refine v_new (ci := 3) (fs := [.int 0, .int 0, .int 0, .int 0, .null, .null]) dX7_init_16 RX3 TX3 6 tyX3 rfl wsu_3 tyX3_ok nw_7_9 in_3.1 in_3.2 dfs_3 (Nat.le_of_ble_eq_true rfl) (Nat.le_of_ble_eq_true rfl) ?_
  refine v_dup dX7_init_19 ?_
  refine v_ctor dX7_init_20 "GluedInLifetime" ct_7_11 cc_3.1 cc_3.2.1 cc_3.2.2.1 rfl cc_3.2.2.2 rfl (g_X3_init l ρ 20 _ (by simp [va_up]) kdl_20) (Nat.le_of_ble_eq_true rfl) ⟨Nat.le_of_ble_eq_true rfl, Nat.le_of_ble_eq_true rfl⟩ (Nat.le_of_ble_eq_true rfl) (Nat.le_of_ble_eq_true rfl) (fun f20 hp => ?_)
  replace hz := pz_join hz hp.1 hp.2.1
  replace h0 := h0_join (by decide) h0 hp.1
  refine v_put (ci := 7) (k := 0) (fs := [.ref (ρ.2.1 1), .null, .null, .null, .null, .null, .null, .null, .null, .null, .null, .int 0, .int 0]) (fk := 1) (v := .ref (ρ.2.1 20)) (ty := (.object "GluedInLifetime$Shop")) dX7_init_23 RX7 TX7 13 tyX7 rfl wsu_7 tyX7_ok nmX7 (by decide) rfl rfl cl_7_16 (by decide +kernel) rfl rfl (by decide) h0 (Nat.le_of_ble_eq_true rfl) ?_
  replace hz := pz_put (e := .inr (7, [.ref (ρ.2.1 1), .ref (ρ.2.1 20), .null, .null, .null, .null, .null, .null, .null, .null, .null, .int 0, .int 0])) hz
  replace h0 := va_eq (f := f20) (k := 0) (v := (Sum.inr (7, [.ref (ρ.2.1 1), .ref (ρ.2.1 20), .null, .null, .null, .null, .null, .null, .null, .null, .null, .int 0, .int 0]) : va_E))
  refine v_aload_n 0 dX7_init_26 rfl ?_
  refine v_new (ci := 3) (fs := [.int 0, .int 0, .int 0, .int 0, .null, .null]) dX7_init_27 RX3 TX3 6 tyX3 rfl wsu_3 tyX3_ok nw_7_9 in_3.1 in_3.2 dfs_3 (Nat.le_of_ble_eq_true rfl) (Nat.le_of_ble_eq_true rfl) ?_
  refine v_dup dX7_init_30 ?_
  refine v_ctor dX7_init_31 "GluedInLifetime" ct_7_11 cc_3.1 cc_3.2.1 cc_3.2.2.1 rfl cc_3.2.2.2 rfl (g_X3_init l ρ 39 _ (by simp [va_up]) kdl_39) (Nat.le_of_ble_eq_true rfl) ⟨Nat.le_of_ble_eq_true rfl, Nat.le_of_ble_eq_true rfl⟩ (Nat.le_of_ble_eq_true rfl) (Nat.le_of_ble_eq_true rfl) (fun f39 hp => ?_)
  replace hz := pz_join hz hp.1 hp.2.1
  replace h0 := h0_join (by decide) h0 hp.1
  refine v_put (ci := 7) (k := 0) (fs := [.ref (ρ.2.1 1), .ref (ρ.2.1 20), .null, .null, .null, .null, .null, .null, .null, .null, .null, .int 0, .int 0]) (fk := 2) (v := .ref (ρ.2.1 39)) (ty := (.object "GluedInLifetime$Shop")) dX7_init_34 RX7 TX7 13 tyX7 rfl wsu_7 tyX7_ok nmX7 (by decide) rfl rfl cl_7_19 (by decide +kernel) rfl rfl (by decide) h0 (Nat.le_of_ble_eq_true rfl) ?_
  replace hz := pz_put (e := .inr (7, [.ref (ρ.2.1 1), .ref (ρ.2.1 20), .ref (ρ.2.1 39), .null, .null, .null, .null, .null, .null, .null, .null, .int 0, .int 0])) hz
  replace h0 := va_eq (f := f39) (k := 0) (v := (Sum.inr (7, [.ref (ρ.2.1 1), .ref (ρ.2.1 20), .ref (ρ.2.1 39), .null, .null, .null, .null, .null, .null, .null, .null, .int 0, .int 0]) : va_E))
  refine v_aload_n 0 dX7_init_37 rfl ?_
  refine v_new (ci := 6) (fs := [.int 0, .int 0, .int 0, .null]) dX7_init_38 RX6 TX6 4 tyX6 rfl wsu_6 tyX6_ok nw_7_22 in_6.1 in_6.2 dfs_6 (Nat.le_of_ble_eq_true rfl) (Nat.le_of_ble_eq_true rfl) ?_
  refine v_dup dX7_init_41 ?_
  refine v_ctor dX7_init_42 "GluedInLifetime" ct_7_24 cc_6.1 cc_6.2.1 cc_6.2.2.1 rfl cc_6.2.2.2 rfl (g_X6_init l ρ 58 _ (by simp [va_up]) kdl_58 kdl_59) (Nat.le_of_ble_eq_true rfl) ⟨Nat.le_of_ble_eq_true rfl, Nat.le_of_ble_eq_true rfl⟩ (Nat.le_of_ble_eq_true rfl) (Nat.le_of_ble_eq_true rfl) (fun f58 hp => ?_)
  replace hz := pz_join hz hp.1 hp.2.1
  replace h0 := h0_join (by decide) h0 hp.1
  refine v_put (ci := 7) (k := 0) (fs := [.ref (ρ.2.1 1), .ref (ρ.2.1 20), .ref (ρ.2.1 39), .null, .null, .null, .null, .null, .null, .null, .null, .int 0, .int 0]) (fk := 3) (v := .ref (ρ.2.1 58)) (ty := (.object "GluedInLifetime$Thing")) dX7_init_45 RX7 TX7 13 tyX7 rfl wsu_7 tyX7_ok nmX7 (by decide) rfl rfl cl_7_25 (by decide +kernel) rfl rfl (by decide) h0 (Nat.le_of_ble_eq_true rfl) ?_
  replace hz := pz_put (e := .inr (7, [.ref (ρ.2.1 1), .ref (ρ.2.1 20), .ref (ρ.2.1 39), .ref (ρ.2.1 58), .null, .null, .null, .null, .null, .null, .null, .int 0, .int 0])) hz
  replace h0 := va_eq (f := f58) (k := 0) (v := (Sum.inr (7, [.ref (ρ.2.1 1), .ref (ρ.2.1 20), .ref (ρ.2.1 39), .ref (ρ.2.1 58), .null, .null, .null, .null, .null, .null, .null, .int 0, .int 0]) : va_E))
  refine v_aload_n 0 dX7_init_48 rfl ?_
  refine v_new (ci := 5) (fs := [.null, .int 0]) dX7_init_49 RX5 TX5 2 tyX5 rfl wsu_5 tyX5_ok nw_7_29 in_5.1 in_5.2 dfs_5 (Nat.le_of_ble_eq_true rfl) (Nat.le_of_ble_eq_true rfl) ?_
  refine v_dup dX7_init_52 ?_
  refine v_ctor dX7_init_53 "GluedInLifetime" ct_7_31 cc_5.1 cc_5.2.1 cc_5.2.2.1 rfl cc_5.2.2.2 rfl (g_X5_init l ρ 60 _ (by simp [va_up]) kdl_60 kdl_61) (Nat.le_of_ble_eq_true rfl) ⟨Nat.le_of_ble_eq_true rfl, Nat.le_of_ble_eq_true rfl⟩ (Nat.le_of_ble_eq_true rfl) (Nat.le_of_ble_eq_true rfl) (fun f60 hp => ?_)
  replace hz := pz_join hz hp.1 hp.2.1
  replace h0 := h0_join (by decide) h0 hp.1
  refine v_put (ci := 7) (k := 0) (fs := [.ref (ρ.2.1 1), .ref (ρ.2.1 20), .ref (ρ.2.1 39), .ref (ρ.2.1 58), .null, .null, .null, .null, .null, .null, .null, .int 0, .int 0]) (fk := 4) (v := .ref (ρ.2.1 60)) (ty := (.object "GluedInLifetime$Text")) dX7_init_56 RX7 TX7 13 tyX7 rfl wsu_7 tyX7_ok nmX7 (by decide) rfl rfl cl_7_32 (by decide +kernel) rfl rfl (by decide) h0 (Nat.le_of_ble_eq_true rfl) ?_
  replace hz := pz_put (e := .inr (7, [.ref (ρ.2.1 1), .ref (ρ.2.1 20), .ref (ρ.2.1 39), .ref (ρ.2.1 58), .ref (ρ.2.1 60), .null, .null, .null, .null, .null, .null, .int 0, .int 0])) hz
  replace h0 := va_eq (f := f60) (k := 0) (v := (Sum.inr (7, [.ref (ρ.2.1 1), .ref (ρ.2.1 20), .ref (ρ.2.1 39), .ref (ρ.2.1 58), .ref (ρ.2.1 60), .null, .null, .null, .null, .null, .null, .int 0, .int 0]) : va_E))
  refine v_aload_n 0 dX7_init_59 rfl ?_
  refine v_new (ci := 2) (fs := [.null, .int 0]) dX7_init_60 RX2 TX2 2 tyX2 rfl wsu_2 tyX2_ok nw_7_36 in_2.1 in_2.2 dfs_2 (Nat.le_of_ble_eq_true rfl) (Nat.le_of_ble_eq_true rfl) ?_
  refine v_dup dX7_init_63 ?_
  refine v_ctor dX7_init_64 "GluedInLifetime" ct_7_38 cc_2.1 cc_2.2.1 cc_2.2.2.1 rfl cc_2.2.2.2 rfl (g_X2_init l ρ 62 _ (by simp [va_up]) kdl_62 kdl_63) (Nat.le_of_ble_eq_true rfl) ⟨Nat.le_of_ble_eq_true rfl, Nat.le_of_ble_eq_true rfl⟩ (Nat.le_of_ble_eq_true rfl) (Nat.le_of_ble_eq_true rfl) (fun f62 hp => ?_)
  replace hz := pz_join hz hp.1 hp.2.1
  replace h0 := h0_join (by decide) h0 hp.1
  refine v_put (ci := 7) (k := 0) (fs := [.ref (ρ.2.1 1), .ref (ρ.2.1 20), .ref (ρ.2.1 39), .ref (ρ.2.1 58), .ref (ρ.2.1 60), .null, .null, .null, .null, .null, .null, .int 0, .int 0]) (fk := 5) (v := .ref (ρ.2.1 62)) (ty := (.object "GluedInLifetime$Row")) dX7_init_67 RX7 TX7 13 tyX7 rfl wsu_7 tyX7_ok nmX7 (by decide) rfl rfl cl_7_39 (by decide +kernel) rfl rfl (by decide) h0 (Nat.le_of_ble_eq_true rfl) ?_
  replace hz := pz_put (e := .inr (7, [.ref (ρ.2.1 1), .ref (ρ.2.1 20), .ref (ρ.2.1 39), .ref (ρ.2.1 58), .ref (ρ.2.1 60), .ref (ρ.2.1 62), .null, .null, .null, .null, .null, .int 0, .int 0])) hz
  replace h0 := va_eq (f := f62) (k := 0) (v := (Sum.inr (7, [.ref (ρ.2.1 1), .ref (ρ.2.1 20), .ref (ρ.2.1 39), .ref (ρ.2.1 58), .ref (ρ.2.1 60), .ref (ρ.2.1 62), .null, .null, .null, .null, .null, .int 0, .int 0]) : va_E))
  refine v_aload_n 0 dX7_init_70 rfl ?_
  refine v_new (ci := 1) (fs := [.null, .null, .int 0, .int 0, .int 0]) dX7_init_71 RX1 TX1 5 tyX1 rfl wsu_1 tyX1_ok nw_7_43 in_1.1 in_1.2 dfs_1 (Nat.le_of_ble_eq_true rfl) (Nat.le_of_ble_eq_true rfl) ?_
  refine v_dup dX7_init_74 ?_
  refine v_ctor dX7_init_75 "GluedInLifetime" ct_7_45 cc_1.1 cc_1.2.1 cc_1.2.2.1 rfl cc_1.2.2.2 rfl (g_X1_init l ρ 64 _ (by simp [va_up]) kdl_64 kdl_65 kdl_66) (Nat.le_of_ble_eq_true rfl) ⟨Nat.le_of_ble_eq_true rfl, Nat.le_of_ble_eq_true rfl⟩ (Nat.le_of_ble_eq_true rfl) (Nat.le_of_ble_eq_true rfl) (fun f64 hp => ?_)
  replace hz := pz_join hz hp.1 hp.2.1
  replace h0 := h0_join (by decide) h0 hp.1
  refine v_put (ci := 7) (k := 0) (fs := [.ref (ρ.2.1 1), .ref (ρ.2.1 20), .ref (ρ.2.1 39), .ref (ρ.2.1 58), .ref (ρ.2.1 60), .ref (ρ.2.1 62), .null, .null, .null, .null, .null, .int 0, .int 0]) (fk := 6) (v := .ref (ρ.2.1 64)) (ty := (.object "GluedInLifetime$Pot")) dX7_init_78 RX7 TX7 13 tyX7 rfl wsu_7 tyX7_ok nmX7 (by decide) rfl rfl cl_7_46 (by decide +kernel) rfl rfl (by decide) h0 (Nat.le_of_ble_eq_true rfl) ?_
  replace hz := pz_put (e := .inr (7, [.ref (ρ.2.1 1), .ref (ρ.2.1 20), .ref (ρ.2.1 39), .ref (ρ.2.1 58), .ref (ρ.2.1 60), .ref (ρ.2.1 62), .ref (ρ.2.1 64), .null, .null, .null, .null, .int 0, .int 0])) hz
  replace h0 := va_eq (f := f64) (k := 0) (v := (Sum.inr (7, [.ref (ρ.2.1 1), .ref (ρ.2.1 20), .ref (ρ.2.1 39), .ref (ρ.2.1 58), .ref (ρ.2.1 60), .ref (ρ.2.1 62), .ref (ρ.2.1 64), .null, .null, .null, .null, .int 0, .int 0]) : va_E))
  refine v_aload_n 0 dX7_init_81 rfl ?_
  refine v_new (ci := 0) (fs := [.null, .null, .int 0]) dX7_init_82 RX0 TX0 3 tyX0 rfl wsu_0 tyX0_ok nw_7_50 in_0.1 in_0.2 dfs_0 (Nat.le_of_ble_eq_true rfl) (Nat.le_of_ble_eq_true rfl) ?_
  refine v_dup dX7_init_85 ?_
  refine v_ctor dX7_init_86 "GluedInLifetime" ct_7_52 cc_0.1 cc_0.2.1 cc_0.2.2.1 rfl cc_0.2.2.2 rfl (g_X0_init l ρ 67 _ (by simp [va_up]) kdl_67 kdl_68 kdl_69) (Nat.le_of_ble_eq_true rfl) ⟨Nat.le_of_ble_eq_true rfl, Nat.le_of_ble_eq_true rfl⟩ (Nat.le_of_ble_eq_true rfl) (Nat.le_of_ble_eq_true rfl) (fun f67 hp => ?_)
  replace hz := pz_join hz hp.1 hp.2.1
  replace h0 := h0_join (by decide) h0 hp.1
  refine v_put (ci := 7) (k := 0) (fs := [.ref (ρ.2.1 1), .ref (ρ.2.1 20), .ref (ρ.2.1 39), .ref (ρ.2.1 58), .ref (ρ.2.1 60), .ref (ρ.2.1 62), .ref (ρ.2.1 64), .null, .null, .null, .null, .int 0, .int 0]) (fk := 7) (v := .ref (ρ.2.1 67)) (ty := (.object "GluedInLifetime$Line")) dX7_init_89 RX7 TX7 13 tyX7 rfl wsu_7 tyX7_ok nmX7 (by decide) rfl rfl cl_7_53 (by decide +kernel) rfl rfl (by decide) h0 (Nat.le_of_ble_eq_true rfl) ?_
  replace hz := pz_put (e := .inr (7, [.ref (ρ.2.1 1), .ref (ρ.2.1 20), .ref (ρ.2.1 39), .ref (ρ.2.1 58), .ref (ρ.2.1 60), .ref (ρ.2.1 62), .ref (ρ.2.1 64), .ref (ρ.2.1 67), .null, .null, .null, .int 0, .int 0])) hz
  replace h0 := va_eq (f := f67) (k := 0) (v := (Sum.inr (7, [.ref (ρ.2.1 1), .ref (ρ.2.1 20), .ref (ρ.2.1 39), .ref (ρ.2.1 58), .ref (ρ.2.1 60), .ref (ρ.2.1 62), .ref (ρ.2.1 64), .ref (ρ.2.1 67), .null, .null, .null, .int 0, .int 0]) : va_E))
  refine v_aload_n 0 dX7_init_92 rfl ?_
  refine v_new (ci := 4) (fs := [.null]) dX7_init_93 RX4 TX4 1 tyX4 rfl wsu_4 tyX4_ok nw_7_57 in_4.1 in_4.2 dfs_4 (Nat.le_of_ble_eq_true rfl) (Nat.le_of_ble_eq_true rfl) ?_
  refine v_dup dX7_init_96 ?_
  refine v_ctor dX7_init_97 "GluedInLifetime" ct_7_59 cc_4.1 cc_4.2.1 cc_4.2.2.1 rfl cc_4.2.2.2 rfl (g_X4_init l ρ 70 _ (by simp [va_up]) kdl_70 kdl_71) (Nat.le_of_ble_eq_true rfl) ⟨Nat.le_of_ble_eq_true rfl, Nat.le_of_ble_eq_true rfl⟩ (Nat.le_of_ble_eq_true rfl) (Nat.le_of_ble_eq_true rfl) (fun f70 hp => ?_)
  replace hz := pz_join hz hp.1 hp.2.1
  replace h0 := h0_join (by decide) h0 hp.1
  refine v_put (ci := 7) (k := 0) (fs := [.ref (ρ.2.1 1), .ref (ρ.2.1 20), .ref (ρ.2.1 39), .ref (ρ.2.1 58), .ref (ρ.2.1 60), .ref (ρ.2.1 62), .ref (ρ.2.1 64), .ref (ρ.2.1 67), .null, .null, .null, .int 0, .int 0]) (fk := 8) (v := .ref (ρ.2.1 70)) (ty := (.object "GluedInLifetime$Slips")) dX7_init_100 RX7 TX7 13 tyX7 rfl wsu_7 tyX7_ok nmX7 (by decide) rfl rfl cl_7_60 (by decide +kernel) rfl rfl (by decide) h0 (Nat.le_of_ble_eq_true rfl) ?_
  replace hz := pz_put (e := .inr (7, [.ref (ρ.2.1 1), .ref (ρ.2.1 20), .ref (ρ.2.1 39), .ref (ρ.2.1 58), .ref (ρ.2.1 60), .ref (ρ.2.1 62), .ref (ρ.2.1 64), .ref (ρ.2.1 67), .ref (ρ.2.1 70), .null, .null, .int 0, .int 0])) hz
  replace h0 := va_eq (f := f70) (k := 0) (v := (Sum.inr (7, [.ref (ρ.2.1 1), .ref (ρ.2.1 20), .ref (ρ.2.1 39), .ref (ρ.2.1 58), .ref (ρ.2.1 60), .ref (ρ.2.1 62), .ref (ρ.2.1 64), .ref (ρ.2.1 67), .ref (ρ.2.1 70), .null, .null, .int 0, .int 0]) : va_E))
  refine v_aload_n 0 dX7_init_103 rfl ?_
  refine v_bipush (v := 20) dX7_init_104 rfl ?_
  refine v_newi (N' := 20) dX7_init_106 wi_int (by decide) (by decide) (Nat.le_of_ble_eq_true rfl) (Nat.le_of_ble_eq_true rfl) (Nat.le_of_ble_eq_true rfl) ?_
  replace hz := pz_push (n := 72) hz (e := .inl (ρ.2.2.1.1, (20, .inl (fun _ => 0)))) (by rw [zc_ints kdl_72 (by decide) (by decide), S0_zero (by rw [kdl_72]; decide) (by rw [kdl_72]; decide) (by decide)]; rfl)
  replace h0 := (va_ne (f := (va_up f70 0 (Sum.inr (7, [.ref (ρ.2.1 1), .ref (ρ.2.1 20), .ref (ρ.2.1 39), .ref (ρ.2.1 58), .ref (ρ.2.1 60), .ref (ρ.2.1 62), .ref (ρ.2.1 64), .ref (ρ.2.1 67), .ref (ρ.2.1 70), .null, .null, .int 0, .int 0]) : va_E))) (v := (Sum.inl (ρ.2.2.1.1, (20, Sum.inl (fun _ => 0))) : va_E)) (show (0 : Nat) ≠ 72 by decide)).trans h0
  refine v_put (ci := 7) (k := 0) (fs := [.ref (ρ.2.1 1), .ref (ρ.2.1 20), .ref (ρ.2.1 39), .ref (ρ.2.1 58), .ref (ρ.2.1 60), .ref (ρ.2.1 62), .ref (ρ.2.1 64), .ref (ρ.2.1 67), .ref (ρ.2.1 70), .null, .null, .int 0, .int 0]) (fk := 9) (v := .ref (ρ.2.1 72)) (ty := (.array .int)) dX7_init_108 RX7 TX7 13 tyX7 rfl wsu_7 tyX7_ok nmX7 (by decide) rfl rfl cl_7_64 (by decide +kernel) rfl rfl (by decide) h0 (Nat.le_of_ble_eq_true rfl) ?_
  replace hz := pz_put (e := .inr (7, [.ref (ρ.2.1 1), .ref (ρ.2.1 20), .ref (ρ.2.1 39), .ref (ρ.2.1 58), .ref (ρ.2.1 60), .ref (ρ.2.1 62), .ref (ρ.2.1 64), .ref (ρ.2.1 67), .ref (ρ.2.1 70), .ref (ρ.2.1 72), .null, .int 0, .int 0])) hz
  replace h0 := va_eq (f := (va_up (va_up f70 0 (Sum.inr (7, [.ref (ρ.2.1 1), .ref (ρ.2.1 20), .ref (ρ.2.1 39), .ref (ρ.2.1 58), .ref (ρ.2.1 60), .ref (ρ.2.1 62), .ref (ρ.2.1 64), .ref (ρ.2.1 67), .ref (ρ.2.1 70), .null, .null, .int 0, .int 0]) : va_E)) 72 (Sum.inl (ρ.2.2.1.1, (20, Sum.inl (fun _ => 0))) : va_E))) (k := 0) (v := (Sum.inr (7, [.ref (ρ.2.1 1), .ref (ρ.2.1 20), .ref (ρ.2.1 39), .ref (ρ.2.1 58), .ref (ρ.2.1 60), .ref (ρ.2.1 62), .ref (ρ.2.1 64), .ref (ρ.2.1 67), .ref (ρ.2.1 70), .ref (ρ.2.1 72), .null, .int 0, .int 0]) : va_E))
  refine v_aload_n 0 dX7_init_111 rfl ?_
  refine v_bipush (v := 7) dX7_init_112 rfl ?_
  refine v_newi (N' := 7) dX7_init_114 wi_int (by decide) (by decide) (Nat.le_of_ble_eq_true rfl) (Nat.le_of_ble_eq_true rfl) (Nat.le_of_ble_eq_true rfl) ?_
  replace hz := pz_push (n := 73) hz (e := .inl (ρ.2.2.1.1, (7, .inl (fun _ => 0)))) (by rw [zc_ints kdl_73 (by decide) (by decide), S0_zero (by rw [kdl_73]; decide) (by rw [kdl_73]; decide) (by decide)]; rfl)
  replace h0 := (va_ne (f := (va_up (va_up (va_up f70 0 (Sum.inr (7, [.ref (ρ.2.1 1), .ref (ρ.2.1 20), .ref (ρ.2.1 39), .ref (ρ.2.1 58), .ref (ρ.2.1 60), .ref (ρ.2.1 62), .ref (ρ.2.1 64), .ref (ρ.2.1 67), .ref (ρ.2.1 70), .null, .null, .int 0, .int 0]) : va_E)) 72 (Sum.inl (ρ.2.2.1.1, (20, Sum.inl (fun _ => 0))) : va_E)) 0 (Sum.inr (7, [.ref (ρ.2.1 1), .ref (ρ.2.1 20), .ref (ρ.2.1 39), .ref (ρ.2.1 58), .ref (ρ.2.1 60), .ref (ρ.2.1 62), .ref (ρ.2.1 64), .ref (ρ.2.1 67), .ref (ρ.2.1 70), .ref (ρ.2.1 72), .null, .int 0, .int 0]) : va_E))) (v := (Sum.inl (ρ.2.2.1.1, (7, Sum.inl (fun _ => 0))) : va_E)) (show (0 : Nat) ≠ 73 by decide)).trans h0
  refine v_put (ci := 7) (k := 0) (fs := [.ref (ρ.2.1 1), .ref (ρ.2.1 20), .ref (ρ.2.1 39), .ref (ρ.2.1 58), .ref (ρ.2.1 60), .ref (ρ.2.1 62), .ref (ρ.2.1 64), .ref (ρ.2.1 67), .ref (ρ.2.1 70), .ref (ρ.2.1 72), .null, .int 0, .int 0]) (fk := 10) (v := .ref (ρ.2.1 73)) (ty := (.array .int)) dX7_init_116 RX7 TX7 13 tyX7 rfl wsu_7 tyX7_ok nmX7 (by decide) rfl rfl cl_7_68 (by decide +kernel) rfl rfl (by decide) h0 (Nat.le_of_ble_eq_true rfl) ?_
  replace hz := pz_put (e := .inr (7, [.ref (ρ.2.1 1), .ref (ρ.2.1 20), .ref (ρ.2.1 39), .ref (ρ.2.1 58), .ref (ρ.2.1 60), .ref (ρ.2.1 62), .ref (ρ.2.1 64), .ref (ρ.2.1 67), .ref (ρ.2.1 70), .ref (ρ.2.1 72), .ref (ρ.2.1 73), .int 0, .int 0])) hz
  replace h0 := va_eq (f := (va_up (va_up (va_up (va_up f70 0 (Sum.inr (7, [.ref (ρ.2.1 1), .ref (ρ.2.1 20), .ref (ρ.2.1 39), .ref (ρ.2.1 58), .ref (ρ.2.1 60), .ref (ρ.2.1 62), .ref (ρ.2.1 64), .ref (ρ.2.1 67), .ref (ρ.2.1 70), .null, .null, .int 0, .int 0]) : va_E)) 72 (Sum.inl (ρ.2.2.1.1, (20, Sum.inl (fun _ => 0))) : va_E)) 0 (Sum.inr (7, [.ref (ρ.2.1 1), .ref (ρ.2.1 20), .ref (ρ.2.1 39), .ref (ρ.2.1 58), .ref (ρ.2.1 60), .ref (ρ.2.1 62), .ref (ρ.2.1 64), .ref (ρ.2.1 67), .ref (ρ.2.1 70), .ref (ρ.2.1 72), .null, .int 0, .int 0]) : va_E)) 73 (Sum.inl (ρ.2.2.1.1, (7, Sum.inl (fun _ => 0))) : va_E))) (k := 0) (v := (Sum.inr (7, [.ref (ρ.2.1 1), .ref (ρ.2.1 20), .ref (ρ.2.1 39), .ref (ρ.2.1 58), .ref (ρ.2.1 60), .ref (ρ.2.1 62), .ref (ρ.2.1 64), .ref (ρ.2.1 67), .ref (ρ.2.1 70), .ref (ρ.2.1 72), .ref (ρ.2.1 73), .int 0, .int 0]) : va_E))
  have hzk : ∀ g : Nat → va_E, g 0 = .inr (7, [.ref (ρ.2.1 1), .ref (ρ.2.1 20), .ref (ρ.2.1 39), .ref (ρ.2.1 58), .ref (ρ.2.1 60), .ref (ρ.2.1 62), .ref (ρ.2.1 64), .ref (ρ.2.1 67), .ref (ρ.2.1 70), .ref (ρ.2.1 72), .ref (ρ.2.1 73), .int 0, .int 0]) → g 0 = zc ρ S0 0 := by
    intro g hg
    rw [hg, zc_obj kdl_0 (by decide)]
    simp [zf, rv, S0, kdl_0]
  refine v_ret dX7_init_119 rfl rfl (fun i g1 g2 => ?_) (Nat.le_refl _) (Nat.le_refl _)
  rcases Nat.eq_zero_or_pos i with rfl | q
  · exact sim_eq (hzk _ h0)
  · exact hz i q g2
