set_option maxHeartbeats 2000000 in
set_option maxRecDepth 20000 in
theorem t_X7_slipRefusal (l : Launch) (S : St)  {a0 : Int32} {a1 : Int32} {a2 : Int32} {r : Int32} (h : f_X7_slipRefusal a0 a1 a2 = some r) : CT l yX7_slipRefusal M_X7_slipRefusal [.int a0, .int a1, .int a2] S (some (.int r)) S := by
  rw [f_X7_slipRefusal] at h
  refine ct_of (lv := [(0, .int a0), (1, .int a1), (2, .int a2)]) (by decide) rfl (Nat.le_of_ble_eq_true rfl) ?_
  refine z_iload_n 0 dX7_slipRefusal_0 rfl ?_
  refine z_if_lt (tgt := 9) dX7_slipRefusal_1 (by decide) (fun c1 => ?_) (fun c1 => ?_)
  · replace h := ip c1 h
    refine z_bipush (v := (-4)) dX7_slipRefusal_9 rfl ?_
    obtain rfl := Option.some.inj h
    exact z_iret dX7_slipRefusal_11 rfl rfl
  · replace h := ig c1 h
    refine z_iload_n 1 dX7_slipRefusal_4 rfl ?_
    refine z_iconst (v := 2) dX7_slipRefusal_5 rfl ?_
    refine z_icmp_ge (tgt := 12) dX7_slipRefusal_6 (by decide) (fun c2 => ?_) (fun c2 => ?_)
    · replace h := ip c2 h
      refine z_iload_n 0 dX7_slipRefusal_12 rfl ?_
      refine z_bipush (v := 8) dX7_slipRefusal_13 rfl ?_
      refine z_icmp_gt (tgt := 24) dX7_slipRefusal_15 (by decide) (fun c3 => ?_) (fun c3 => ?_)
      · replace h := ip c3 h
        refine z_bipush (v := (-6)) dX7_slipRefusal_24 rfl ?_
        obtain rfl := Option.some.inj h
        exact z_iret dX7_slipRefusal_26 rfl rfl
      · replace h := ig c3 h
        refine z_iload_n 1 dX7_slipRefusal_18 rfl ?_
        refine z_bipush (v := 20) dX7_slipRefusal_19 rfl ?_
        refine z_icmp_le (tgt := 27) dX7_slipRefusal_21 (by decide) (fun c4 => ?_) (fun c4 => ?_)
        · replace h := ip c4 h
          refine z_iload_n 2 dX7_slipRefusal_27 rfl ?_
          obtain ⟨v5, hv5, h⟩ := ob h
          refine z_callS (as := [.int a2]) dX7_slipRefusal_28 ml_7_177 ms_X7_notOneOfTwo (t_X7_notOneOfTwo l _ hv5) rfl rfl (Nat.le_of_ble_eq_true rfl) ⟨Nat.le_of_ble_eq_true rfl, Nat.le_of_ble_eq_true rfl⟩ rfl ?_
          refine z_if_eq (tgt := 39) dX7_slipRefusal_31 (by decide) (fun c6 => ?_) (fun c6 => ?_)
          · replace h := ip c6 h
            refine z_iconst (v := 0) dX7_slipRefusal_39 rfl ?_
            obtain rfl := Option.some.inj h
            exact z_iret dX7_slipRefusal_40 rfl rfl
          · replace h := ig c6 h
            refine z_bipush (v := (-2)) dX7_slipRefusal_34 rfl ?_
            refine z_goto (tgt := 40) dX7_slipRefusal_36 (by decide) ?_
            obtain rfl := Option.some.inj h
            exact z_iret dX7_slipRefusal_40 rfl rfl
        · replace h := ig c4 h
          refine z_bipush (v := (-6)) dX7_slipRefusal_24 rfl ?_
          obtain rfl := Option.some.inj h
          exact z_iret dX7_slipRefusal_26 rfl rfl
    · replace h := ig c2 h
      refine z_bipush (v := (-4)) dX7_slipRefusal_9 rfl ?_
      obtain rfl := Option.some.inj h
      exact z_iret dX7_slipRefusal_11 rfl rfl
set_option maxHeartbeats 2000000 in
set_option maxRecDepth 20000 in
theorem t_X7_commonDivisor_L9 (l : Launch)   (S : St) : ∀ (n : Nat) (x4 : Int64) (x6 : Int64) (x8 : Int32) (k45 : Int64 → Option Int64) (r : Int64), f_X7_commonDivisor_L9 n x4 x6 x8 k45 = some r → (∀ (e4 : Int64), k45 e4 = some r → Z l yX7_commonDivisor M_X7_commonDivisor 45 [(4, .long e4)] [] S (some (.long r)) S) → Z l yX7_commonDivisor M_X7_commonDivisor 9 [(4, .long x4), (6, .long x6), (8, .int x8)] [] S (some (.long r)) S := by
  intro n
  induction n with
  | zero =>
    intro x4 x6 x8 k45 r h hk45
    exact absurd h (by rw [f_X7_commonDivisor_L9]; exact fun q => by cases q)
  | succ n ih =>
    intro x4 x6 x8 k45 r h hk45
    rw [f_X7_commonDivisor_L9] at h
    refine z_iload 2 dX7_commonDivisor_9 rfl ?_
    refine z_sipush (v := 1000) dX7_commonDivisor_11 rfl ?_
    refine z_icmp_ge (tgt := 45) dX7_commonDivisor_14 (by decide) (fun c1 => ?_) (fun c1 => ?_)
    · replace h := ip c1 h
      refine z_sub (lv' := [(4, .long x4)]) [0] rfl ?_
      exact hk45 _ h
    · replace h := ig c1 h
      refine z_lload 1 dX7_commonDivisor_17 rfl ?_
      refine z_lconst (v := 0) dX7_commonDivisor_19 rfl ?_
      refine z_lcmp dX7_commonDivisor_20 ?_
      refine z_if_eq (tgt := 45) dX7_commonDivisor_21 (by decide) (fun c2 => ?_) (fun c2 => ?_)
      · replace h := ip c2 h
        refine z_sub (lv' := [(4, .long x4)]) [0] rfl ?_
        exact hk45 _ h
      · replace h := ig c2 h
        refine z_lload 0 dX7_commonDivisor_24 rfl ?_
        refine z_lload 1 dX7_commonDivisor_26 rfl ?_
        obtain ⟨c3, h⟩ := oi h
        refine z_lrem dX7_commonDivisor_28 c3 ?_
        refine z_lstore (lv' := [(4, .long x4), (6, .long x6), (8, .int x8), (9, .long (x4 - x4 / x6 * x6))]) [1, 2, 3, 0] dX7_commonDivisor_29 (Nat.le_of_ble_eq_true rfl) rfl ?_
        refine z_lload 1 dX7_commonDivisor_31 rfl ?_
        refine z_lstore (lv' := [(4, .long x6), (6, .long x6), (8, .int x8), (9, .long (x4 - x4 / x6 * x6))]) [0, 1, 2, 3] dX7_commonDivisor_33 (Nat.le_of_ble_eq_true rfl) rfl ?_
        refine z_lload 3 dX7_commonDivisor_35 rfl ?_
        refine z_lstore (lv' := [(4, .long x6), (6, .long (x4 - x4 / x6 * x6)), (8, .int x8), (9, .long (x4 - x4 / x6 * x6))]) [1, 0, 2, 3] dX7_commonDivisor_37 (Nat.le_of_ble_eq_true rfl) rfl ?_
        refine z_iinc (lv' := [(4, .long x6), (6, .long (x4 - x4 / x6 * x6)), (8, .int (x8 + 1)), (9, .long (x4 - x4 / x6 * x6))]) (v := x8 + 1) 2 [1, 2, 0, 3] dX7_commonDivisor_39 rfl rfl (Nat.le_of_ble_eq_true rfl) rfl ?_
        refine z_goto (tgt := 9) dX7_commonDivisor_42 (by decide) ?_
        refine z_sub (lv' := [(4, .long x6), (6, .long (x4 - x4 / x6 * x6)), (8, .int (x8 + 1))]) [0, 1, 2] rfl ?_
        exact ih _ _ _ _ _ h hk45
set_option maxHeartbeats 2000000 in
set_option maxRecDepth 20000 in
theorem t_X7_commonDivisor (l : Launch) (S : St)  {a0 : Int64} {a2 : Int64} {r : Int64} (h : f_X7_commonDivisor a0 a2 = some r) : CT l yX7_commonDivisor M_X7_commonDivisor [.long a0, .long a2] S (some (.long r)) S := by
  rw [f_X7_commonDivisor] at h
  refine ct_of (lv := [(0, .long a0), (2, .long a2)]) (by decide) rfl (Nat.le_of_ble_eq_true rfl) ?_
  refine z_lload_n 0 dX7_commonDivisor_0 rfl ?_
  refine z_lstore (lv' := [(0, .long a0), (2, .long a2), (4, .long a0)]) [1, 2, 0] dX7_commonDivisor_1 (Nat.le_of_ble_eq_true rfl) rfl ?_
  refine z_lload_n 1 dX7_commonDivisor_3 rfl ?_
  refine z_lstore (lv' := [(0, .long a0), (2, .long a2), (4, .long a0), (6, .long a2)]) [1, 2, 3, 0] dX7_commonDivisor_4 (Nat.le_of_ble_eq_true rfl) rfl ?_
  refine z_iconst (v := 0) dX7_commonDivisor_6 rfl ?_
  refine z_istore (lv' := [(0, .long a0), (2, .long a2), (4, .long a0), (6, .long a2), (8, .int 0)]) [1, 2, 3, 4, 0] dX7_commonDivisor_7 (Nat.le_of_ble_eq_true rfl) rfl ?_
  refine z_sub (lv' := [(4, .long a0), (6, .long a2), (8, .int 0)]) [2, 3, 4] rfl ?_
  refine t_X7_commonDivisor_L9 l _ _ _ _ _ _ _ h ?_
  · intro y4 h
    refine z_lload 0 dX7_commonDivisor_45 rfl ?_
    obtain rfl := Option.some.inj h
    exact z_lret dX7_commonDivisor_47 rfl
set_option maxHeartbeats 2000000 in
set_option maxRecDepth 20000 in
theorem t_X7_partOf (l : Launch) (S : St)  {a0 : Int64} {a2 : Int64} {a4 : Int32} {r : Int64} (h : f_X7_partOf a0 a2 a4 = some r) : CT l yX7_partOf M_X7_partOf [.long a0, .long a2, .int a4] S (some (.long r)) S := by
  rw [f_X7_partOf] at h
  refine ct_of (lv := [(0, .long a0), (2, .long a2), (4, .int a4)]) (by decide) rfl (Nat.le_of_ble_eq_true rfl) ?_
  refine z_lload_n 0 dX7_partOf_0 rfl ?_
  refine z_lload_n 1 dX7_partOf_1 rfl ?_
  obtain ⟨v1, hv1, h⟩ := ob h
  refine z_callS (as := [.long a0, .long a2]) dX7_partOf_2 ml_7_322 ms_X7_commonDivisor (t_X7_commonDivisor l _ hv1) rfl rfl (Nat.le_of_ble_eq_true rfl) ⟨Nat.le_of_ble_eq_true rfl, Nat.le_of_ble_eq_true rfl⟩ rfl ?_
  refine z_lstore (lv' := [(0, .long a0), (2, .long a2), (4, .int a4), (5, .long v1)]) [1, 2, 3, 0] dX7_partOf_5 (Nat.le_of_ble_eq_true rfl) rfl ?_
  refine z_lload 3 dX7_partOf_7 rfl ?_
  refine z_lconst (v := 1) dX7_partOf_9 rfl ?_
  refine z_lcmp dX7_partOf_10 ?_
  refine z_if_ge (tgt := 16) dX7_partOf_11 (by decide) (fun c2 => ?_) (fun c2 => ?_)
  · replace h := ip c2 h
    refine z_iload 2 dX7_partOf_16 rfl ?_
    refine z_if_ne (tgt := 28) dX7_partOf_18 (by decide) (fun c3 => ?_) (fun c3 => ?_)
    · replace h := ig c3 h
      refine z_lload_n 1 dX7_partOf_28 rfl ?_
      refine z_lload 3 dX7_partOf_29 rfl ?_
      obtain ⟨c4, h⟩ := oi h
      refine z_ldiv dX7_partOf_31 c4 ?_
      obtain rfl := Option.some.inj h
      exact z_lret dX7_partOf_32 rfl
    · replace h := ip c3 h
      refine z_lload_n 0 dX7_partOf_21 rfl ?_
      refine z_lload 3 dX7_partOf_22 rfl ?_
      obtain ⟨c5, h⟩ := oi h
      refine z_ldiv dX7_partOf_24 c5 ?_
      refine z_goto (tgt := 32) dX7_partOf_25 (by decide) ?_
      obtain rfl := Option.some.inj h
      exact z_lret dX7_partOf_32 rfl
  · replace h := ig c2 h
    refine z_lconst (v := 0) dX7_partOf_14 rfl ?_
    obtain rfl := Option.some.inj h
    exact z_lret dX7_partOf_15 rfl
set_option maxHeartbeats 2000000 in
set_option maxRecDepth 20000 in
theorem t_X7_slip (l : Launch) {S : St}  {a1 : Int32} {a2 : Int32} {a3 : Int32} {a4 : Int32} {a5 : Int32} {r : (Int64 × St)} (h : f_X7_slip a1 a2 a3 a4 a5 S = some r) : CT l yX7_slip M_X7_slip [.ref 0, .int a1, .int a2, .int a3, .int a4, .int a5] S (some (.long r.1)) r.2 := by
  rw [f_X7_slip] at h
  refine ct_of (lv := [(0, .ref 0), (1, .int a1), (2, .int a2), (3, .int a3), (4, .int a4), (5, .int a5)]) (by decide) rfl (Nat.le_of_ble_eq_true rfl) ?_
  refine z_aload_n 0 dX7_slip_0 rfl ?_
  refine z_get (v := .ref 1) dX7_slip_1 fl_7_12 kdl_0 rfl ?_
  refine z_iload_n 1 dX7_slip_4 rfl ?_
  obtain ⟨v1, hv1, h⟩ := ob h
  refine z_callV (as := [.int a1]) dX7_slip_5 ml_7_98 mv_X3_lacks (t_X3_lacks l kdl_1 hv1) kdl_1 ⟨by decide, rfl⟩ rfl rfl (Nat.le_of_ble_eq_true rfl) ⟨Nat.le_of_ble_eq_true rfl, Nat.le_of_ble_eq_true rfl⟩ rfl ?_
  refine z_if_ne (tgt := 19) dX7_slip_8 (by decide) (fun c2 => ?_) (fun c2 => ?_)
  · replace h := ig c2 h
    refine z_ldc2 cst_7_240 dX7_slip_19 ?_
    refine z_aload_n 0 dX7_slip_22 rfl ?_
    refine z_iconst (v := (-1)) dX7_slip_23 rfl ?_
    obtain ⟨z3, hz3, h⟩ := ob h
    refine z_callV (as := [.int (-1)]) dX7_slip_24 ml_7_71 mv_X7_refuse (t_X7_refuse l hz3) kdl_0 ⟨by decide, rfl⟩ rfl rfl (Nat.le_of_ble_eq_true rfl) ⟨Nat.le_of_ble_eq_true rfl, Nat.le_of_ble_eq_true rfl⟩ rfl ?_
    refine z_i2l dX7_slip_27 ?_
    refine z_lsub dX7_slip_28 ?_
    obtain rfl := Option.some.inj h
    exact z_lret dX7_slip_29 rfl
  · replace h := ip c2 h
    refine z_iload 4 dX7_slip_11 rfl ?_
    obtain ⟨v4, hv4, h⟩ := ob h
    refine z_callS (as := [.int a4]) dX7_slip_13 ml_7_124 ms_X7_noYear (t_X7_noYear l _ hv4) rfl rfl (Nat.le_of_ble_eq_true rfl) ⟨Nat.le_of_ble_eq_true rfl, Nat.le_of_ble_eq_true rfl⟩ rfl ?_
    refine z_if_eq (tgt := 30) dX7_slip_16 (by decide) (fun c5 => ?_) (fun c5 => ?_)
    · replace h := ip c5 h
      refine z_iload_n 2 dX7_slip_30 rfl ?_
      refine z_iload_n 3 dX7_slip_31 rfl ?_
      refine z_iload 5 dX7_slip_32 rfl ?_
      obtain ⟨v6, hv6, h⟩ := ob h
      refine z_callS (as := [.int a2, .int a3, .int a5]) dX7_slip_34 ml_7_242 ms_X7_slipRefusal (t_X7_slipRefusal l _ hv6) rfl rfl (Nat.le_of_ble_eq_true rfl) ⟨Nat.le_of_ble_eq_true rfl, Nat.le_of_ble_eq_true rfl⟩ rfl ?_
      refine z_istore (lv' := [(0, .ref 0), (1, .int a1), (2, .int a2), (3, .int a3), (4, .int a4), (5, .int a5), (6, .int v6)]) [1, 2, 3, 4, 5, 6, 0] dX7_slip_37 (Nat.le_of_ble_eq_true rfl) rfl ?_
      refine z_iload 6 dX7_slip_39 rfl ?_
      refine z_if_eq (tgt := 56) dX7_slip_41 (by decide) (fun c7 => ?_) (fun c7 => ?_)
      · replace h := ip c7 h
        refine z_aload_n 0 dX7_slip_56 rfl ?_
        refine z_get (v := .ref 70) dX7_slip_57 fl_7_60 kdl_0 rfl ?_
        refine z_iload_n 2 dX7_slip_60 rfl ?_
        refine z_iload_n 3 dX7_slip_61 rfl ?_
        obtain ⟨S8, hS8, h⟩ := ob h
        refine z_callV (as := [.int a2, .int a3]) dX7_slip_62 ml_7_245 mv_X4_weigh (t_X4_weigh l hS8) kdl_70 ⟨by decide, rfl⟩ rfl rfl (Nat.le_of_ble_eq_true rfl) ⟨Nat.le_of_ble_eq_true rfl, Nat.le_of_ble_eq_true rfl⟩ rfl ?_
        refine z_aload_n 0 dX7_slip_65 rfl ?_
        refine z_get (v := .ref 70) dX7_slip_66 fl_7_60 kdl_0 rfl ?_
        refine z_aload_n 0 dX7_slip_69 rfl ?_
        refine z_get (v := .ref 1) dX7_slip_70 fl_7_12 kdl_0 rfl ?_
        refine z_iload_n 1 dX7_slip_73 rfl ?_
        obtain ⟨v9, hv9, h⟩ := ob h
        refine z_callV (as := [.int a1]) dX7_slip_74 ml_7_102 mv_X3_at (t_X3_at l kdl_1 hv9) kdl_1 ⟨by decide, rfl⟩ rfl rfl (Nat.le_of_ble_eq_true rfl) ⟨Nat.le_of_ble_eq_true rfl, Nat.le_of_ble_eq_true rfl⟩ rfl ?_
        refine z_iload 4 dX7_slip_77 rfl ?_
        refine z_aload_n 0 dX7_slip_79 rfl ?_
        refine z_get (v := .ref 1) dX7_slip_80 fl_7_12 kdl_0 rfl ?_
        refine z_get (v := .int (S8.1 1 1)) dX7_slip_83 fl_7_115 kdl_1 rfl ?_
        obtain ⟨v10, hv10, h⟩ := ob h
        refine z_callV (as := [.ref v9, .int a4, .int (S8.1 1 1)]) dX7_slip_86 ml_7_247 mv_X4_waysInto (t_X4_waysInto l (kd_at kdl_1 hv9) hv10) kdl_70 ⟨by decide, rfl⟩ rfl rfl (Nat.le_of_ble_eq_true rfl) ⟨Nat.le_of_ble_eq_true rfl, Nat.le_of_ble_eq_true rfl⟩ rfl ?_
        refine z_aload_n 0 dX7_slip_89 rfl ?_
        refine z_get (v := .ref 70) dX7_slip_90 fl_7_60 kdl_0 rfl ?_
        obtain ⟨v11, hv11, h⟩ := ob h
        refine z_callV (as := []) dX7_slip_93 ml_7_251 mv_X4_allWays (t_X4_allWays l hv11) kdl_70 ⟨by decide, rfl⟩ rfl rfl (Nat.le_of_ble_eq_true rfl) ⟨Nat.le_of_ble_eq_true rfl, Nat.le_of_ble_eq_true rfl⟩ rfl ?_
        refine z_iload 5 dX7_slip_96 rfl ?_
        obtain ⟨v12, hv12, h⟩ := ob h
        refine z_callS (as := [.long v10, .long v11, .int a5]) dX7_slip_98 ml_7_255 ms_X7_partOf (t_X7_partOf l _ hv12) rfl rfl (Nat.le_of_ble_eq_true rfl) ⟨Nat.le_of_ble_eq_true rfl, Nat.le_of_ble_eq_true rfl⟩ rfl ?_
        obtain rfl := Option.some.inj h
        exact z_lret dX7_slip_101 rfl
      · replace h := ig c7 h
        refine z_ldc2 cst_7_240 dX7_slip_44 ?_
        refine z_aload_n 0 dX7_slip_47 rfl ?_
        refine z_iload 6 dX7_slip_48 rfl ?_
        obtain ⟨z13, hz13, h⟩ := ob h
        refine z_callV (as := [.int v6]) dX7_slip_50 ml_7_71 mv_X7_refuse (t_X7_refuse l hz13) kdl_0 ⟨by decide, rfl⟩ rfl rfl (Nat.le_of_ble_eq_true rfl) ⟨Nat.le_of_ble_eq_true rfl, Nat.le_of_ble_eq_true rfl⟩ rfl ?_
        refine z_i2l dX7_slip_53 ?_
        refine z_lsub dX7_slip_54 ?_
        obtain rfl := Option.some.inj h
        exact z_lret dX7_slip_55 rfl
    · replace h := ig c5 h
      refine z_ldc2 cst_7_240 dX7_slip_19 ?_
      refine z_aload_n 0 dX7_slip_22 rfl ?_
      refine z_iconst (v := (-1)) dX7_slip_23 rfl ?_
      obtain ⟨z14, hz14, h⟩ := ob h
      refine z_callV (as := [.int (-1)]) dX7_slip_24 ml_7_71 mv_X7_refuse (t_X7_refuse l hz14) kdl_0 ⟨by decide, rfl⟩ rfl rfl (Nat.le_of_ble_eq_true rfl) ⟨Nat.le_of_ble_eq_true rfl, Nat.le_of_ble_eq_true rfl⟩ rfl ?_
      refine z_i2l dX7_slip_27 ?_
      refine z_lsub dX7_slip_28 ?_
      obtain rfl := Option.some.inj h
      exact z_lret dX7_slip_29 rfl
set_option maxHeartbeats 2000000 in
set_option maxRecDepth 20000 in
theorem t_X7_mean (l : Launch) {S : St}  {a1 : Int32} {a2 : Int32} {a3 : Int32} {a4 : Int32} {r : (Int64 × St)} (h : f_X7_mean a1 a2 a3 a4 S = some r) : CT l yX7_mean M_X7_mean [.ref 0, .int a1, .int a2, .int a3, .int a4] S (some (.long r.1)) r.2 := by
  rw [f_X7_mean] at h
  refine ct_of (lv := [(0, .ref 0), (1, .int a1), (2, .int a2), (3, .int a3), (4, .int a4)]) (by decide) rfl (Nat.le_of_ble_eq_true rfl) ?_
  refine z_aload_n 0 dX7_mean_0 rfl ?_
  refine z_get (v := .ref 1) dX7_mean_1 fl_7_12 kdl_0 rfl ?_
  refine z_iload_n 1 dX7_mean_4 rfl ?_
  obtain ⟨v1, hv1, h⟩ := ob h
  refine z_callV (as := [.int a1]) dX7_mean_5 ml_7_98 mv_X3_lacks (t_X3_lacks l kdl_1 hv1) kdl_1 ⟨by decide, rfl⟩ rfl rfl (Nat.le_of_ble_eq_true rfl) ⟨Nat.le_of_ble_eq_true rfl, Nat.le_of_ble_eq_true rfl⟩ rfl ?_
  refine z_if_eq (tgt := 22) dX7_mean_8 (by decide) (fun c2 => ?_) (fun c2 => ?_)
  · replace h := ip c2 h
    refine z_iload_n 2 dX7_mean_22 rfl ?_
    refine z_iload_n 3 dX7_mean_23 rfl ?_
    refine z_iload 4 dX7_mean_24 rfl ?_
    obtain ⟨v3, hv3, h⟩ := ob h
    refine z_callS (as := [.int a2, .int a3, .int a4]) dX7_mean_26 ml_7_242 ms_X7_slipRefusal (t_X7_slipRefusal l _ hv3) rfl rfl (Nat.le_of_ble_eq_true rfl) ⟨Nat.le_of_ble_eq_true rfl, Nat.le_of_ble_eq_true rfl⟩ rfl ?_
    refine z_istore (lv' := [(0, .ref 0), (1, .int a1), (2, .int a2), (3, .int a3), (4, .int a4), (5, .int v3)]) [1, 2, 3, 4, 5, 0] dX7_mean_29 (Nat.le_of_ble_eq_true rfl) rfl ?_
    refine z_iload 5 dX7_mean_31 rfl ?_
    refine z_if_eq (tgt := 48) dX7_mean_33 (by decide) (fun c4 => ?_) (fun c4 => ?_)
    · replace h := ip c4 h
      refine z_aload_n 0 dX7_mean_48 rfl ?_
      refine z_get (v := .ref 70) dX7_mean_49 fl_7_60 kdl_0 rfl ?_
      refine z_iload_n 2 dX7_mean_52 rfl ?_
      refine z_iload_n 3 dX7_mean_53 rfl ?_
      obtain ⟨S5, hS5, h⟩ := ob h
      refine z_callV (as := [.int a2, .int a3]) dX7_mean_54 ml_7_245 mv_X4_weigh (t_X4_weigh l hS5) kdl_70 ⟨by decide, rfl⟩ rfl rfl (Nat.le_of_ble_eq_true rfl) ⟨Nat.le_of_ble_eq_true rfl, Nat.le_of_ble_eq_true rfl⟩ rfl ?_
      refine z_aload_n 0 dX7_mean_57 rfl ?_
      refine z_get (v := .ref 70) dX7_mean_58 fl_7_60 kdl_0 rfl ?_
      refine z_aload_n 0 dX7_mean_61 rfl ?_
      refine z_get (v := .ref 1) dX7_mean_62 fl_7_12 kdl_0 rfl ?_
      refine z_iload_n 1 dX7_mean_65 rfl ?_
      obtain ⟨v6, hv6, h⟩ := ob h
      refine z_callV (as := [.int a1]) dX7_mean_66 ml_7_102 mv_X3_at (t_X3_at l kdl_1 hv6) kdl_1 ⟨by decide, rfl⟩ rfl rfl (Nat.le_of_ble_eq_true rfl) ⟨Nat.le_of_ble_eq_true rfl, Nat.le_of_ble_eq_true rfl⟩ rfl ?_
      refine z_aload_n 0 dX7_mean_69 rfl ?_
      refine z_get (v := .ref 1) dX7_mean_70 fl_7_12 kdl_0 rfl ?_
      refine z_get (v := .int (S5.1 1 1)) dX7_mean_73 fl_7_115 kdl_1 rfl ?_
      obtain ⟨v7, hv7, h⟩ := ob h
      refine z_callV (as := [.ref v6, .int (S5.1 1 1)]) dX7_mean_76 ml_7_259 mv_X4_gladOfAll (t_X4_gladOfAll l (kd_at kdl_1 hv6) hv7) kdl_70 ⟨by decide, rfl⟩ rfl rfl (Nat.le_of_ble_eq_true rfl) ⟨Nat.le_of_ble_eq_true rfl, Nat.le_of_ble_eq_true rfl⟩ rfl ?_
      refine z_aload_n 0 dX7_mean_79 rfl ?_
      refine z_get (v := .ref 70) dX7_mean_80 fl_7_60 kdl_0 rfl ?_
      obtain ⟨v8, hv8, h⟩ := ob h
      refine z_callV (as := []) dX7_mean_83 ml_7_251 mv_X4_allWays (t_X4_allWays l hv8) kdl_70 ⟨by decide, rfl⟩ rfl rfl (Nat.le_of_ble_eq_true rfl) ⟨Nat.le_of_ble_eq_true rfl, Nat.le_of_ble_eq_true rfl⟩ rfl ?_
      refine z_iload 4 dX7_mean_86 rfl ?_
      obtain ⟨v9, hv9, h⟩ := ob h
      refine z_callS (as := [.long v7, .long v8, .int a4]) dX7_mean_88 ml_7_255 ms_X7_partOf (t_X7_partOf l _ hv9) rfl rfl (Nat.le_of_ble_eq_true rfl) ⟨Nat.le_of_ble_eq_true rfl, Nat.le_of_ble_eq_true rfl⟩ rfl ?_
      obtain rfl := Option.some.inj h
      exact z_lret dX7_mean_91 rfl
    · replace h := ig c4 h
      refine z_ldc2 cst_7_240 dX7_mean_36 ?_
      refine z_aload_n 0 dX7_mean_39 rfl ?_
      refine z_iload 5 dX7_mean_40 rfl ?_
      obtain ⟨z10, hz10, h⟩ := ob h
      refine z_callV (as := [.int v3]) dX7_mean_42 ml_7_71 mv_X7_refuse (t_X7_refuse l hz10) kdl_0 ⟨by decide, rfl⟩ rfl rfl (Nat.le_of_ble_eq_true rfl) ⟨Nat.le_of_ble_eq_true rfl, Nat.le_of_ble_eq_true rfl⟩ rfl ?_
      refine z_i2l dX7_mean_45 ?_
      refine z_lsub dX7_mean_46 ?_
      obtain rfl := Option.some.inj h
      exact z_lret dX7_mean_47 rfl
  · replace h := ig c2 h
    refine z_ldc2 cst_7_240 dX7_mean_11 ?_
    refine z_aload_n 0 dX7_mean_14 rfl ?_
    refine z_iconst (v := (-1)) dX7_mean_15 rfl ?_
    obtain ⟨z11, hz11, h⟩ := ob h
    refine z_callV (as := [.int (-1)]) dX7_mean_16 ml_7_71 mv_X7_refuse (t_X7_refuse l hz11) kdl_0 ⟨by decide, rfl⟩ rfl rfl (Nat.le_of_ble_eq_true rfl) ⟨Nat.le_of_ble_eq_true rfl, Nat.le_of_ble_eq_true rfl⟩ rfl ?_
    refine z_i2l dX7_mean_19 ?_
    refine z_lsub dX7_mean_20 ?_
    obtain rfl := Option.some.inj h
    exact z_lret dX7_mean_21 rfl
set_option maxHeartbeats 2000000 in
set_option maxRecDepth 20000 in
theorem t_X7_whatWas_L63 (l : Launch)   : ∀ (n : Nat) (x2 : Int32) (x3 : Int32) (x4 : Int32) (x5 : Int32) (S : St) (k130 : Int32 → St → Option (Int32 × St)) (r : (Int32 × St)), f_X7_whatWas_L63 n x2 x3 x4 x5 S k130 = some r → (∀ (e4 : Int32) (T : St), k130 e4 T = some r → Z l yX7_whatWas M_X7_whatWas 130 [(4, .int e4)] [] T (some (.int r.1)) r.2) → Z l yX7_whatWas M_X7_whatWas 63 [(0, .ref 0), (2, .int x2), (3, .int x3), (4, .int x4), (5, .int x5)] [] S (some (.int r.1)) r.2 := by
  intro n
  induction n with
  | zero =>
    intro x2 x3 x4 x5 S k130 r h hk130
    exact absurd h (by rw [f_X7_whatWas_L63]; exact fun q => by cases q)
  | succ n ih =>
    intro x2 x3 x4 x5 S k130 r h hk130
    rw [f_X7_whatWas_L63] at h
    refine z_iload 4 dX7_whatWas_63 rfl ?_
    refine z_iload_n 2 dX7_whatWas_65 rfl ?_
    refine z_icmp_gt (tgt := 130) dX7_whatWas_66 (by decide) (fun c8 => ?_) (fun c8 => ?_)
    · replace h := ip c8 h
      refine z_sub (lv' := [(4, .int x4)]) [3] rfl ?_
      exact hk130 _ _ h
    · replace h := ig c8 h
      refine z_iload_n 1 dX7_whatWas_69 rfl ?_
      refine z_if_ne (tgt := 85) dX7_whatWas_70 (by decide) (fun c9 => ?_) (fun c9 => ?_)
      · replace h := ig c9 h
        refine z_aload_n 0 dX7_whatWas_85 rfl ?_
        refine z_get (v := .ref 58) dX7_whatWas_86 fl_7_25 kdl_0 rfl ?_
        refine z_iload 4 dX7_whatWas_89 rfl ?_
        refine z_put (fk := 1) dX7_whatWas_91 fl_7_109 fp_6_1 kdl_58 rfl rfl rfl (Nat.le_of_ble_eq_true rfl) ?_
        refine z_aload_n 0 dX7_whatWas_94 rfl ?_
        refine z_get (v := .ref 62) dX7_whatWas_95 fl_7_39 kdl_0 rfl ?_
        refine z_aload_n 0 dX7_whatWas_98 rfl ?_
        refine z_get (v := .ref 58) dX7_whatWas_99 fl_7_25 kdl_0 rfl ?_
        refine z_aload_n 0 dX7_whatWas_102 rfl ?_
        refine z_get (v := .ref 1) dX7_whatWas_103 fl_7_12 kdl_0 rfl ?_
        refine z_get (v := .int ((up S 58 1 x5).1 1 1)) dX7_whatWas_106 fl_7_115 kdl_1 rfl ?_
        obtain ⟨v10, hv10, h⟩ := ob h
        refine z_callV (as := [.ref 58, .int ((up S 58 1 x5).1 1 1)]) dX7_whatWas_109 ml_7_265 mv_X2_tellsYearsOf (t_X2_tellsYearsOf l kdl_58 hv10) kdl_62 ⟨by decide, rfl⟩ rfl rfl (Nat.le_of_ble_eq_true rfl) ⟨Nat.le_of_ble_eq_true rfl, Nat.le_of_ble_eq_true rfl⟩ rfl ?_
        refine z_if_eq (tgt := 124) dX7_whatWas_112 (by decide) (fun c11 => ?_) (fun c11 => ?_)
        · replace h := ip c11 h
          refine z_iinc (lv' := [(0, .ref 0), (2, .int x2), (3, .int x3), (4, .int x4), (5, .int (x5 + 1))]) (v := x5 + 1) 4 [1, 2, 3, 4, 0] dX7_whatWas_124 rfl rfl (Nat.le_of_ble_eq_true rfl) rfl ?_
          refine z_goto (tgt := 63) dX7_whatWas_127 (by decide) ?_
          refine z_sub (lv' := [(0, .ref 0), (2, .int x2), (3, .int x3), (4, .int x4), (5, .int (x5 + 1))]) [0, 1, 2, 3, 4] rfl ?_
          exact ih _ _ _ _ _ _ _ h hk130
        · replace h := ig c11 h
          refine z_iload 3 dX7_whatWas_115 rfl ?_
          refine z_iconst (v := 1) dX7_whatWas_117 rfl ?_
          refine z_iload 4 dX7_whatWas_118 rfl ?_
          refine z_ishl dX7_whatWas_120 ?_
          refine z_ior dX7_whatWas_121 ?_
          refine z_istore (lv' := [(0, .ref 0), (2, .int x2), (3, .int x3), (4, .int (x4 ||| (1 <<< (x5 &&& 31)))), (5, .int x5)]) [1, 2, 3, 0, 4] dX7_whatWas_122 (Nat.le_of_ble_eq_true rfl) rfl ?_
          refine z_iinc (lv' := [(0, .ref 0), (2, .int x2), (3, .int x3), (4, .int (x4 ||| (1 <<< (x5 &&& 31)))), (5, .int (x5 + 1))]) (v := x5 + 1) 4 [1, 2, 3, 4, 0] dX7_whatWas_124 rfl rfl (Nat.le_of_ble_eq_true rfl) rfl ?_
          refine z_goto (tgt := 63) dX7_whatWas_127 (by decide) ?_
          refine z_sub (lv' := [(0, .ref 0), (2, .int x2), (3, .int x3), (4, .int (x4 ||| (1 <<< (x5 &&& 31)))), (5, .int (x5 + 1))]) [0, 1, 2, 3, 4] rfl ?_
          exact ih _ _ _ _ _ _ _ h hk130
      · replace h := ip c9 h
        refine z_aload_n 0 dX7_whatWas_73 rfl ?_
        refine z_get (v := .ref 58) dX7_whatWas_74 fl_7_25 kdl_0 rfl ?_
        refine z_iload 4 dX7_whatWas_77 rfl ?_
        refine z_put (fk := 0) dX7_whatWas_79 fl_7_106 fp_6_0 kdl_58 rfl rfl rfl (Nat.le_of_ble_eq_true rfl) ?_
        refine z_goto (tgt := 94) dX7_whatWas_82 (by decide) ?_
        refine z_aload_n 0 dX7_whatWas_94 rfl ?_
        refine z_get (v := .ref 62) dX7_whatWas_95 fl_7_39 kdl_0 rfl ?_
        refine z_aload_n 0 dX7_whatWas_98 rfl ?_
        refine z_get (v := .ref 58) dX7_whatWas_99 fl_7_25 kdl_0 rfl ?_
        refine z_aload_n 0 dX7_whatWas_102 rfl ?_
        refine z_get (v := .ref 1) dX7_whatWas_103 fl_7_12 kdl_0 rfl ?_
        refine z_get (v := .int ((up S 58 0 x5).1 1 1)) dX7_whatWas_106 fl_7_115 kdl_1 rfl ?_
        obtain ⟨v12, hv12, h⟩ := ob h
        refine z_callV (as := [.ref 58, .int ((up S 58 0 x5).1 1 1)]) dX7_whatWas_109 ml_7_265 mv_X2_tellsYearsOf (t_X2_tellsYearsOf l kdl_58 hv12) kdl_62 ⟨by decide, rfl⟩ rfl rfl (Nat.le_of_ble_eq_true rfl) ⟨Nat.le_of_ble_eq_true rfl, Nat.le_of_ble_eq_true rfl⟩ rfl ?_
        refine z_if_eq (tgt := 124) dX7_whatWas_112 (by decide) (fun c13 => ?_) (fun c13 => ?_)
        · replace h := ip c13 h
          refine z_iinc (lv' := [(0, .ref 0), (2, .int x2), (3, .int x3), (4, .int x4), (5, .int (x5 + 1))]) (v := x5 + 1) 4 [1, 2, 3, 4, 0] dX7_whatWas_124 rfl rfl (Nat.le_of_ble_eq_true rfl) rfl ?_
          refine z_goto (tgt := 63) dX7_whatWas_127 (by decide) ?_
          refine z_sub (lv' := [(0, .ref 0), (2, .int x2), (3, .int x3), (4, .int x4), (5, .int (x5 + 1))]) [0, 1, 2, 3, 4] rfl ?_
          exact ih _ _ _ _ _ _ _ h hk130
        · replace h := ig c13 h
          refine z_iload 3 dX7_whatWas_115 rfl ?_
          refine z_iconst (v := 1) dX7_whatWas_117 rfl ?_
          refine z_iload 4 dX7_whatWas_118 rfl ?_
          refine z_ishl dX7_whatWas_120 ?_
          refine z_ior dX7_whatWas_121 ?_
          refine z_istore (lv' := [(0, .ref 0), (2, .int x2), (3, .int x3), (4, .int (x4 ||| (1 <<< (x5 &&& 31)))), (5, .int x5)]) [1, 2, 3, 0, 4] dX7_whatWas_122 (Nat.le_of_ble_eq_true rfl) rfl ?_
          refine z_iinc (lv' := [(0, .ref 0), (2, .int x2), (3, .int x3), (4, .int (x4 ||| (1 <<< (x5 &&& 31)))), (5, .int (x5 + 1))]) (v := x5 + 1) 4 [1, 2, 3, 4, 0] dX7_whatWas_124 rfl rfl (Nat.le_of_ble_eq_true rfl) rfl ?_
          refine z_goto (tgt := 63) dX7_whatWas_127 (by decide) ?_
          refine z_sub (lv' := [(0, .ref 0), (2, .int x2), (3, .int x3), (4, .int (x4 ||| (1 <<< (x5 &&& 31)))), (5, .int (x5 + 1))]) [0, 1, 2, 3, 4] rfl ?_
          exact ih _ _ _ _ _ _ _ h hk130
set_option maxHeartbeats 2000000 in
set_option maxRecDepth 20000 in
theorem t_X7_whatWas (l : Launch) {S : St}  {a1 : Int32} {a2 : Int32} {r : (Int32 × St)} (h : f_X7_whatWas a1 a2 S = some r) : CT l yX7_whatWas M_X7_whatWas [.ref 0, .int a1, .int a2] S (some (.int r.1)) r.2 := by
  rw [f_X7_whatWas] at h
  refine ct_of (lv := [(0, .ref 0), (1, .int a1), (2, .int a2)]) (by decide) rfl (Nat.le_of_ble_eq_true rfl) ?_
  refine z_aload_n 0 dX7_whatWas_0 rfl ?_
  refine z_get (v := .ref 1) dX7_whatWas_1 fl_7_12 kdl_0 rfl ?_
  refine z_iload_n 1 dX7_whatWas_4 rfl ?_
  obtain ⟨v1, hv1, h⟩ := ob h
  refine z_callV (as := [.int a1]) dX7_whatWas_5 ml_7_98 mv_X3_lacks (t_X3_lacks l kdl_1 hv1) kdl_1 ⟨by decide, rfl⟩ rfl rfl (Nat.le_of_ble_eq_true rfl) ⟨Nat.le_of_ble_eq_true rfl, Nat.le_of_ble_eq_true rfl⟩ rfl ?_
  refine z_if_eq (tgt := 17) dX7_whatWas_8 (by decide) (fun c2 => ?_) (fun c2 => ?_)
  · replace h := ip c2 h
    refine z_iload_n 2 dX7_whatWas_17 rfl ?_
    obtain ⟨v3, hv3, h⟩ := ob h
    refine z_callS (as := [.int a2]) dX7_whatWas_18 ml_7_177 ms_X7_notOneOfTwo (t_X7_notOneOfTwo l _ hv3) rfl rfl (Nat.le_of_ble_eq_true rfl) ⟨Nat.le_of_ble_eq_true rfl, Nat.le_of_ble_eq_true rfl⟩ rfl ?_
    refine z_if_eq (tgt := 31) dX7_whatWas_21 (by decide) (fun c4 => ?_) (fun c4 => ?_)
    · replace h := ip c4 h
      refine z_aload_n 0 dX7_whatWas_31 rfl ?_
      refine z_get (v := .ref 58) dX7_whatWas_32 fl_7_25 kdl_0 rfl ?_
      refine z_aload_n 0 dX7_whatWas_35 rfl ?_
      refine z_get (v := .ref 1) dX7_whatWas_36 fl_7_12 kdl_0 rfl ?_
      refine z_iload_n 1 dX7_whatWas_39 rfl ?_
      obtain ⟨v5, hv5, h⟩ := ob h
      refine z_callV (as := [.int a1]) dX7_whatWas_40 ml_7_102 mv_X3_at (t_X3_at l kdl_1 hv5) kdl_1 ⟨by decide, rfl⟩ rfl rfl (Nat.le_of_ble_eq_true rfl) ⟨Nat.le_of_ble_eq_true rfl, Nat.le_of_ble_eq_true rfl⟩ rfl ?_
      obtain ⟨S6, hS6, h⟩ := ob h
      refine z_callV (as := [.ref v5]) dX7_whatWas_43 ml_7_263 mv_X6_copyFrom (t_X6_copyFrom l kdl_58 (kd_at kdl_1 hv5) hS6) kdl_58 ⟨by decide, rfl⟩ rfl rfl (Nat.le_of_ble_eq_true rfl) ⟨Nat.le_of_ble_eq_true rfl, Nat.le_of_ble_eq_true rfl⟩ rfl ?_
      refine z_iload_n 2 dX7_whatWas_46 rfl ?_
      refine z_if_ne (tgt := 54) dX7_whatWas_47 (by decide) (fun c7 => ?_) (fun c7 => ?_)
      · replace h := ig c7 h
        refine z_bipush (v := 9) dX7_whatWas_54 rfl ?_
        refine z_istore_n (lv' := [(0, .ref 0), (1, .int a1), (2, .int a2), (3, .int 9)]) [1, 2, 3, 0] dX7_whatWas_56 (Nat.le_of_ble_eq_true rfl) rfl ?_
        refine z_iconst (v := 0) dX7_whatWas_57 rfl ?_
        refine z_istore (lv' := [(0, .ref 0), (1, .int a1), (2, .int a2), (3, .int 9), (4, .int 0)]) [1, 2, 3, 4, 0] dX7_whatWas_58 (Nat.le_of_ble_eq_true rfl) rfl ?_
        refine z_iconst (v := 0) dX7_whatWas_60 rfl ?_
        refine z_istore (lv' := [(0, .ref 0), (1, .int a1), (2, .int a2), (3, .int 9), (4, .int 0), (5, .int 0)]) [1, 2, 3, 4, 5, 0] dX7_whatWas_61 (Nat.le_of_ble_eq_true rfl) rfl ?_
        refine z_sub (lv' := [(0, .ref 0), (2, .int a2), (3, .int 9), (4, .int 0), (5, .int 0)]) [0, 2, 3, 4, 5] rfl ?_
        refine t_X7_whatWas_L63 l _ _ _ _ _ _ _ _ h ?_
        · intro y14 S15 h
          refine z_iload 0 dX7_whatWas_130 rfl ?_
          obtain rfl := Option.some.inj h
          exact z_iret dX7_whatWas_132 rfl rfl
      · replace h := ip c7 h
        refine z_iconst (v := 5) dX7_whatWas_50 rfl ?_
        refine z_goto (tgt := 56) dX7_whatWas_51 (by decide) ?_
        refine z_istore_n (lv' := [(0, .ref 0), (1, .int a1), (2, .int a2), (3, .int 5)]) [1, 2, 3, 0] dX7_whatWas_56 (Nat.le_of_ble_eq_true rfl) rfl ?_
        refine z_iconst (v := 0) dX7_whatWas_57 rfl ?_
        refine z_istore (lv' := [(0, .ref 0), (1, .int a1), (2, .int a2), (3, .int 5), (4, .int 0)]) [1, 2, 3, 4, 0] dX7_whatWas_58 (Nat.le_of_ble_eq_true rfl) rfl ?_
        refine z_iconst (v := 0) dX7_whatWas_60 rfl ?_
        refine z_istore (lv' := [(0, .ref 0), (1, .int a1), (2, .int a2), (3, .int 5), (4, .int 0), (5, .int 0)]) [1, 2, 3, 4, 5, 0] dX7_whatWas_61 (Nat.le_of_ble_eq_true rfl) rfl ?_
        refine z_sub (lv' := [(0, .ref 0), (2, .int a2), (3, .int 5), (4, .int 0), (5, .int 0)]) [0, 2, 3, 4, 5] rfl ?_
        refine t_X7_whatWas_L63 l _ _ _ _ _ _ _ _ h ?_
        · intro y16 S17 h
          refine z_iload 0 dX7_whatWas_130 rfl ?_
          obtain rfl := Option.some.inj h
          exact z_iret dX7_whatWas_132 rfl rfl
    · replace h := ig c4 h
      refine z_aload_n 0 dX7_whatWas_24 rfl ?_
      refine z_bipush (v := (-2)) dX7_whatWas_25 rfl ?_
      obtain ⟨z18, hz18, h⟩ := ob h
      refine z_callV (as := [.int (-2)]) dX7_whatWas_27 ml_7_71 mv_X7_refuse (t_X7_refuse l hz18) kdl_0 ⟨by decide, rfl⟩ rfl rfl (Nat.le_of_ble_eq_true rfl) ⟨Nat.le_of_ble_eq_true rfl, Nat.le_of_ble_eq_true rfl⟩ rfl ?_
      obtain rfl := Option.some.inj h
      exact z_iret dX7_whatWas_30 rfl rfl
  · replace h := ig c2 h
    refine z_aload_n 0 dX7_whatWas_11 rfl ?_
    refine z_iconst (v := (-1)) dX7_whatWas_12 rfl ?_
    obtain ⟨z19, hz19, h⟩ := ob h
    refine z_callV (as := [.int (-1)]) dX7_whatWas_13 ml_7_71 mv_X7_refuse (t_X7_refuse l hz19) kdl_0 ⟨by decide, rfl⟩ rfl rfl (Nat.le_of_ble_eq_true rfl) ⟨Nat.le_of_ble_eq_true rfl, Nat.le_of_ble_eq_true rfl⟩ rfl ?_
    obtain rfl := Option.some.inj h
    exact z_iret dX7_whatWas_16 rfl rfl
set_option maxHeartbeats 2000000 in
set_option maxRecDepth 20000 in
theorem t_X7_mended_L63 (l : Launch)   : ∀ (n : Nat) (x2 : Int32) (x3 : Int32) (x5 : Int32) (S : St) (k100 : Int32 → St → Option (Int32 × St)) (k109 : St → Option (Int32 × St)) (r : (Int32 × St)), f_X7_mended_L63 n x2 x3 x5 S k100 k109 = some r → (∀ (e5 : Int32) (T : St), k100 e5 T = some r → Z l yX7_mended M_X7_mended 100 [(5, .int e5)] [] T (some (.int r.1)) r.2) → (∀ (T : St), k109 T = some r → Z l yX7_mended M_X7_mended 109 [] [] T (some (.int r.1)) r.2) → Z l yX7_mended M_X7_mended 63 [(0, .ref 0), (2, .int x2), (3, .int x3), (5, .int x5)] [] S (some (.int r.1)) r.2 := by
  intro n
  induction n with
  | zero =>
    intro x2 x3 x5 S k100 k109 r h hk100 hk109
    exact absurd h (by rw [f_X7_mended_L63]; exact fun q => by cases q)
  | succ n ih =>
    intro x2 x3 x5 S k100 k109 r h hk100 hk109
    rw [f_X7_mended_L63] at h
    refine z_iload 3 dX7_mended_63 rfl ?_
    refine z_bipush (v := 99) dX7_mended_65 rfl ?_
    refine z_icmp_gt (tgt := 109) dX7_mended_67 (by decide) (fun c10 => ?_) (fun c10 => ?_)
    · replace h := ip c10 h
      refine z_sub (lv' := []) [] rfl ?_
      exact hk109 _ h
    · replace h := ig c10 h
      refine z_aload_n 0 dX7_mended_70 rfl ?_
      refine z_get (v := .ref 58) dX7_mended_71 fl_7_25 kdl_0 rfl ?_
      refine z_iload_n 1 dX7_mended_74 rfl ?_
      refine z_iload 3 dX7_mended_75 rfl ?_
      obtain ⟨S11, hS11, h⟩ := ob h
      refine z_callV (as := [.int x2, .int x5]) dX7_mended_77 ml_7_141 mv_X6_makeGlad (t_X6_makeGlad l kdl_58 hS11) kdl_58 ⟨by decide, rfl⟩ rfl rfl (Nat.le_of_ble_eq_true rfl) ⟨Nat.le_of_ble_eq_true rfl, Nat.le_of_ble_eq_true rfl⟩ rfl ?_
      refine z_aload_n 0 dX7_mended_80 rfl ?_
      refine z_get (v := .ref 58) dX7_mended_81 fl_7_25 kdl_0 rfl ?_
      refine z_iload_n 2 dX7_mended_84 rfl ?_
      refine z_iconst (v := 0) dX7_mended_85 rfl ?_
      refine z_aload_n 0 dX7_mended_86 rfl ?_
      refine z_get (v := .ref 1) dX7_mended_87 fl_7_12 kdl_0 rfl ?_
      refine z_get (v := .int (S11.1 1 1)) dX7_mended_90 fl_7_115 kdl_1 rfl ?_
      obtain ⟨v12, hv12, h⟩ := ob h
      refine z_callV (as := [.int x3, .int 0, .int (S11.1 1 1)]) dX7_mended_93 ml_7_168 mv_X6_yearBy (t_X6_yearBy l kdl_58 hv12) kdl_58 ⟨by decide, rfl⟩ rfl rfl (Nat.le_of_ble_eq_true rfl) ⟨Nat.le_of_ble_eq_true rfl, Nat.le_of_ble_eq_true rfl⟩ rfl ?_
      refine z_iload_n 1 dX7_mended_96 rfl ?_
      refine z_icmp_ne (tgt := 103) dX7_mended_97 (by decide) (fun c13 => ?_) (fun c13 => ?_)
      · replace h := ig c13 h
        refine z_iinc (lv' := [(0, .ref 0), (2, .int x2), (3, .int x3), (5, .int (x5 + 1))]) (v := x5 + 1) 3 [1, 2, 3, 0] dX7_mended_103 rfl rfl (Nat.le_of_ble_eq_true rfl) rfl ?_
        refine z_goto (tgt := 63) dX7_mended_106 (by decide) ?_
        refine z_sub (lv' := [(0, .ref 0), (2, .int x2), (3, .int x3), (5, .int (x5 + 1))]) [0, 1, 2, 3] rfl ?_
        exact ih _ _ _ _ _ _ _ h hk100 hk109
      · replace h := ip c13 h
        refine z_sub (lv' := [(5, .int x5)]) [3] rfl ?_
        exact hk100 _ _ h
set_option maxHeartbeats 2000000 in
set_option maxRecDepth 20000 in
theorem t_X7_mended (l : Launch) {S : St}  {a1 : Int32} {a2 : Int32} {a3 : Int32} {r : (Int32 × St)} (h : f_X7_mended a1 a2 a3 S = some r) : CT l yX7_mended M_X7_mended [.ref 0, .int a1, .int a2, .int a3] S (some (.int r.1)) r.2 := by
  rw [f_X7_mended] at h
  refine ct_of (lv := [(0, .ref 0), (1, .int a1), (2, .int a2), (3, .int a3)]) (by decide) rfl (Nat.le_of_ble_eq_true rfl) ?_
  refine z_aload_n 0 dX7_mended_0 rfl ?_
  refine z_get (v := .ref 1) dX7_mended_1 fl_7_12 kdl_0 rfl ?_
  refine z_iload_n 1 dX7_mended_4 rfl ?_
  obtain ⟨v1, hv1, h⟩ := ob h
  refine z_callV (as := [.int a1]) dX7_mended_5 ml_7_98 mv_X3_lacks (t_X3_lacks l kdl_1 hv1) kdl_1 ⟨by decide, rfl⟩ rfl rfl (Nat.le_of_ble_eq_true rfl) ⟨Nat.le_of_ble_eq_true rfl, Nat.le_of_ble_eq_true rfl⟩ rfl ?_
  refine z_if_ne (tgt := 18) dX7_mended_8 (by decide) (fun c2 => ?_) (fun c2 => ?_)
  · replace h := ig c2 h
    refine z_aload_n 0 dX7_mended_18 rfl ?_
    refine z_iconst (v := (-1)) dX7_mended_19 rfl ?_
    obtain ⟨z3, hz3, h⟩ := ob h
    refine z_callV (as := [.int (-1)]) dX7_mended_20 ml_7_71 mv_X7_refuse (t_X7_refuse l hz3) kdl_0 ⟨by decide, rfl⟩ rfl rfl (Nat.le_of_ble_eq_true rfl) ⟨Nat.le_of_ble_eq_true rfl, Nat.le_of_ble_eq_true rfl⟩ rfl ?_
    obtain rfl := Option.some.inj h
    exact z_iret dX7_mended_23 rfl rfl
  · replace h := ip c2 h
    refine z_iload_n 2 dX7_mended_11 rfl ?_
    obtain ⟨v4, hv4, h⟩ := ob h
    refine z_callS (as := [.int a2]) dX7_mended_12 ml_7_124 ms_X7_noYear (t_X7_noYear l _ hv4) rfl rfl (Nat.le_of_ble_eq_true rfl) ⟨Nat.le_of_ble_eq_true rfl, Nat.le_of_ble_eq_true rfl⟩ rfl ?_
    refine z_if_eq (tgt := 24) dX7_mended_15 (by decide) (fun c5 => ?_) (fun c5 => ?_)
    · replace h := ip c5 h
      refine z_iload_n 3 dX7_mended_24 rfl ?_
      refine z_iconst (v := 0) dX7_mended_25 rfl ?_
      refine z_bipush (v := 99) dX7_mended_26 rfl ?_
      obtain ⟨v6, hv6, h⟩ := ob h
      refine z_callS (as := [.int a3, .int 0, .int 99]) dX7_mended_28 ml_7_137 ms_X7_outside (t_X7_outside l _ hv6) rfl rfl (Nat.le_of_ble_eq_true rfl) ⟨Nat.le_of_ble_eq_true rfl, Nat.le_of_ble_eq_true rfl⟩ rfl ?_
      refine z_istore (lv' := [(0, .ref 0), (1, .int a1), (2, .int a2), (3, .int a3), (4, .int v6)]) [1, 2, 3, 4, 0] dX7_mended_31 (Nat.le_of_ble_eq_true rfl) rfl ?_
      refine z_iload 4 dX7_mended_33 rfl ?_
      refine z_if_eq (tgt := 45) dX7_mended_35 (by decide) (fun c7 => ?_) (fun c7 => ?_)
      · replace h := ip c7 h
        refine z_aload_n 0 dX7_mended_45 rfl ?_
        refine z_get (v := .ref 58) dX7_mended_46 fl_7_25 kdl_0 rfl ?_
        refine z_aload_n 0 dX7_mended_49 rfl ?_
        refine z_get (v := .ref 1) dX7_mended_50 fl_7_12 kdl_0 rfl ?_
        refine z_iload_n 1 dX7_mended_53 rfl ?_
        obtain ⟨v8, hv8, h⟩ := ob h
        refine z_callV (as := [.int a1]) dX7_mended_54 ml_7_102 mv_X3_at (t_X3_at l kdl_1 hv8) kdl_1 ⟨by decide, rfl⟩ rfl rfl (Nat.le_of_ble_eq_true rfl) ⟨Nat.le_of_ble_eq_true rfl, Nat.le_of_ble_eq_true rfl⟩ rfl ?_
        obtain ⟨S9, hS9, h⟩ := ob h
        refine z_callV (as := [.ref v8]) dX7_mended_57 ml_7_263 mv_X6_copyFrom (t_X6_copyFrom l kdl_58 (kd_at kdl_1 hv8) hS9) kdl_58 ⟨by decide, rfl⟩ rfl rfl (Nat.le_of_ble_eq_true rfl) ⟨Nat.le_of_ble_eq_true rfl, Nat.le_of_ble_eq_true rfl⟩ rfl ?_
        refine z_iconst (v := 0) dX7_mended_60 rfl ?_
        refine z_istore (lv' := [(0, .ref 0), (1, .int a1), (2, .int a2), (3, .int a3), (4, .int v6), (5, .int 0)]) [1, 2, 3, 4, 5, 0] dX7_mended_61 (Nat.le_of_ble_eq_true rfl) rfl ?_
        refine z_sub (lv' := [(0, .ref 0), (2, .int a2), (3, .int a3), (5, .int 0)]) [0, 2, 3, 5] rfl ?_
        refine t_X7_mended_L63 l _ _ _ _ _ _ _ _ h ?_ ?_
        · intro y14 S15 h
          refine z_iload 0 dX7_mended_100 rfl ?_
          obtain rfl := Option.some.inj h
          exact z_iret dX7_mended_102 rfl rfl
        · intro S16 h
          refine z_bipush (v := (-9)) dX7_mended_109 rfl ?_
          obtain rfl := Option.some.inj h
          exact z_iret dX7_mended_111 rfl rfl
      · replace h := ig c7 h
        refine z_aload_n 0 dX7_mended_38 rfl ?_
        refine z_iload 4 dX7_mended_39 rfl ?_
        obtain ⟨z17, hz17, h⟩ := ob h
        refine z_callV (as := [.int v6]) dX7_mended_41 ml_7_71 mv_X7_refuse (t_X7_refuse l hz17) kdl_0 ⟨by decide, rfl⟩ rfl rfl (Nat.le_of_ble_eq_true rfl) ⟨Nat.le_of_ble_eq_true rfl, Nat.le_of_ble_eq_true rfl⟩ rfl ?_
        obtain rfl := Option.some.inj h
        exact z_iret dX7_mended_44 rfl rfl
    · replace h := ig c5 h
      refine z_aload_n 0 dX7_mended_18 rfl ?_
      refine z_iconst (v := (-1)) dX7_mended_19 rfl ?_
      obtain ⟨z18, hz18, h⟩ := ob h
      refine z_callV (as := [.int (-1)]) dX7_mended_20 ml_7_71 mv_X7_refuse (t_X7_refuse l hz18) kdl_0 ⟨by decide, rfl⟩ rfl rfl (Nat.le_of_ble_eq_true rfl) ⟨Nat.le_of_ble_eq_true rfl, Nat.le_of_ble_eq_true rfl⟩ rfl ?_
      obtain rfl := Option.some.inj h
      exact z_iret dX7_mended_23 rfl rfl
set_option maxHeartbeats 2000000 in
set_option maxRecDepth 20000 in
theorem t_X7_row (l : Launch) {S : St}  {a1 : Int32} {r : (Int32 × St)} (h : f_X7_row a1 S = some r) : CT l yX7_row M_X7_row [.ref 0, .int a1] S (some (.int r.1)) r.2 := by
  rw [f_X7_row] at h
  refine ct_of (lv := [(0, .ref 0), (1, .int a1)]) (by decide) rfl (Nat.le_of_ble_eq_true rfl) ?_
  refine z_iload_n 1 dX7_row_0 rfl ?_
  refine z_if_ge (tgt := 11) dX7_row_1 (by decide) (fun c1 => ?_) (fun c1 => ?_)
  · replace h := ip c1 h
    refine z_iload_n 1 dX7_row_11 rfl ?_
    refine z_bipush (v := 99) dX7_row_12 rfl ?_
    refine z_icmp_gt (tgt := 27) dX7_row_14 (by decide) (fun c2 => ?_) (fun c2 => ?_)
    · replace h := ip c2 h
      refine z_aload_n 0 dX7_row_27 rfl ?_
      refine z_bipush (v := (-6)) dX7_row_28 rfl ?_
      obtain ⟨z3, hz3, h⟩ := ob h
      refine z_callV (as := [.int (-6)]) dX7_row_30 ml_7_71 mv_X7_refuse (t_X7_refuse l hz3) kdl_0 ⟨by decide, rfl⟩ rfl rfl (Nat.le_of_ble_eq_true rfl) ⟨Nat.le_of_ble_eq_true rfl, Nat.le_of_ble_eq_true rfl⟩ rfl ?_
      obtain rfl := Option.some.inj h
      exact z_iret dX7_row_33 rfl rfl
    · replace h := ig c2 h
      refine z_aload_n 0 dX7_row_17 rfl ?_
      refine z_get (v := .ref 62) dX7_row_18 fl_7_39 kdl_0 rfl ?_
      obtain ⟨v4, hv4, h⟩ := ob h
      refine z_callV (as := []) dX7_row_21 ml_7_269 mv_X2_isFull (t_X2_isFull l hv4) kdl_62 ⟨by decide, rfl⟩ rfl rfl (Nat.le_of_ble_eq_true rfl) ⟨Nat.le_of_ble_eq_true rfl, Nat.le_of_ble_eq_true rfl⟩ rfl ?_
      refine z_if_eq (tgt := 34) dX7_row_24 (by decide) (fun c5 => ?_) (fun c5 => ?_)
      · replace h := ip c5 h
        refine z_aload_n 0 dX7_row_34 rfl ?_
        refine z_get (v := .ref 62) dX7_row_35 fl_7_39 kdl_0 rfl ?_
        refine z_iload_n 1 dX7_row_38 rfl ?_
        obtain ⟨S6, hS6, h⟩ := ob h
        refine z_callV (as := [.int a1]) dX7_row_39 ml_7_270 mv_X2_put (t_X2_put l hS6) kdl_62 ⟨by decide, rfl⟩ rfl rfl (Nat.le_of_ble_eq_true rfl) ⟨Nat.le_of_ble_eq_true rfl, Nat.le_of_ble_eq_true rfl⟩ rfl ?_
        refine z_aload_n 0 dX7_row_42 rfl ?_
        refine z_get (v := .ref 62) dX7_row_43 fl_7_39 kdl_0 rfl ?_
        refine z_get (v := .int (S6.1 62 1)) dX7_row_46 fl_7_271 kdl_62 rfl ?_
        obtain rfl := Option.some.inj h
        exact z_iret dX7_row_49 rfl rfl
      · replace h := ig c5 h
        refine z_aload_n 0 dX7_row_27 rfl ?_
        refine z_bipush (v := (-6)) dX7_row_28 rfl ?_
        obtain ⟨z7, hz7, h⟩ := ob h
        refine z_callV (as := [.int (-6)]) dX7_row_30 ml_7_71 mv_X7_refuse (t_X7_refuse l hz7) kdl_0 ⟨by decide, rfl⟩ rfl rfl (Nat.le_of_ble_eq_true rfl) ⟨Nat.le_of_ble_eq_true rfl, Nat.le_of_ble_eq_true rfl⟩ rfl ?_
        obtain rfl := Option.some.inj h
        exact z_iret dX7_row_33 rfl rfl
  · replace h := ig c1 h
    refine z_aload_n 0 dX7_row_4 rfl ?_
    refine z_bipush (v := (-4)) dX7_row_5 rfl ?_
    obtain ⟨z8, hz8, h⟩ := ob h
    refine z_callV (as := [.int (-4)]) dX7_row_7 ml_7_71 mv_X7_refuse (t_X7_refuse l hz8) kdl_0 ⟨by decide, rfl⟩ rfl rfl (Nat.le_of_ble_eq_true rfl) ⟨Nat.le_of_ble_eq_true rfl, Nat.le_of_ble_eq_true rfl⟩ rfl ?_
    obtain rfl := Option.some.inj h
    exact z_iret dX7_row_10 rfl rfl
set_option maxHeartbeats 2000000 in
set_option maxRecDepth 20000 in
theorem t_X7_judge (l : Launch) {S : St}  {a1 : Int32} {r : (Int32 × St)} (h : f_X7_judge a1 S = some r) : CT l yX7_judge M_X7_judge [.ref 0, .int a1] S (some (.int r.1)) r.2 := by
  rw [f_X7_judge] at h
  refine ct_of (lv := [(0, .ref 0), (1, .int a1)]) (by decide) rfl (Nat.le_of_ble_eq_true rfl) ?_
  refine z_aload_n 0 dX7_judge_0 rfl ?_
  refine z_get (v := .ref 1) dX7_judge_1 fl_7_12 kdl_0 rfl ?_
  refine z_iload_n 1 dX7_judge_4 rfl ?_
  obtain ⟨v1, hv1, h⟩ := ob h
  refine z_callV (as := [.int a1]) dX7_judge_5 ml_7_98 mv_X3_lacks (t_X3_lacks l kdl_1 hv1) kdl_1 ⟨by decide, rfl⟩ rfl rfl (Nat.le_of_ble_eq_true rfl) ⟨Nat.le_of_ble_eq_true rfl, Nat.le_of_ble_eq_true rfl⟩ rfl ?_
  refine z_if_eq (tgt := 17) dX7_judge_8 (by decide) (fun c2 => ?_) (fun c2 => ?_)
  · replace h := ip c2 h
    refine z_aload_n 0 dX7_judge_17 rfl ?_
    refine z_get (v := .ref 62) dX7_judge_18 fl_7_39 kdl_0 rfl ?_
    refine z_aload_n 0 dX7_judge_21 rfl ?_
    refine z_get (v := .ref 1) dX7_judge_22 fl_7_12 kdl_0 rfl ?_
    refine z_iload_n 1 dX7_judge_25 rfl ?_
    obtain ⟨v3, hv3, h⟩ := ob h
    refine z_callV (as := [.int a1]) dX7_judge_26 ml_7_102 mv_X3_at (t_X3_at l kdl_1 hv3) kdl_1 ⟨by decide, rfl⟩ rfl rfl (Nat.le_of_ble_eq_true rfl) ⟨Nat.le_of_ble_eq_true rfl, Nat.le_of_ble_eq_true rfl⟩ rfl ?_
    obtain ⟨v4, hv4, h⟩ := ob h
    refine z_callV (as := [.ref v3]) dX7_judge_29 ml_7_272 mv_X2_firstNotGladOf (t_X2_firstNotGladOf l (kd_at kdl_1 hv3) hv4) kdl_62 ⟨by decide, rfl⟩ rfl rfl (Nat.le_of_ble_eq_true rfl) ⟨Nat.le_of_ble_eq_true rfl, Nat.le_of_ble_eq_true rfl⟩ rfl ?_
    refine z_istore_n (lv' := [(0, .ref 0), (1, .int a1), (2, .int v4)]) [1, 2, 0] dX7_judge_32 (Nat.le_of_ble_eq_true rfl) rfl ?_
    refine z_aload_n 0 dX7_judge_33 rfl ?_
    refine z_get (v := .ref 62) dX7_judge_34 fl_7_39 kdl_0 rfl ?_
    refine z_iconst (v := 0) dX7_judge_37 rfl ?_
    refine z_put (fk := 1) dX7_judge_38 fl_7_271 fp_2_1 kdl_62 rfl rfl rfl (Nat.le_of_ble_eq_true rfl) ?_
    refine z_iload_n 2 dX7_judge_41 rfl ?_
    obtain rfl := Option.some.inj h
    exact z_iret dX7_judge_42 rfl rfl
  · replace h := ig c2 h
    refine z_aload_n 0 dX7_judge_11 rfl ?_
    refine z_iconst (v := (-1)) dX7_judge_12 rfl ?_
    obtain ⟨z5, hz5, h⟩ := ob h
    refine z_callV (as := [.int (-1)]) dX7_judge_13 ml_7_71 mv_X7_refuse (t_X7_refuse l hz5) kdl_0 ⟨by decide, rfl⟩ rfl rfl (Nat.le_of_ble_eq_true rfl) ⟨Nat.le_of_ble_eq_true rfl, Nat.le_of_ble_eq_true rfl⟩ rfl ?_
    obtain rfl := Option.some.inj h
    exact z_iret dX7_judge_16 rfl rfl
set_option maxHeartbeats 2000000 in
set_option maxRecDepth 20000 in
theorem t_X7_clear (l : Launch) {S : St}   {r : (Int32 × St)} (h : f_X7_clear S = some r) : CT l yX7_clear M_X7_clear [.ref 0] S (some (.int r.1)) r.2 := by
  rw [f_X7_clear] at h
  refine ct_of (lv := [(0, .ref 0)]) (by decide) rfl (Nat.le_of_ble_eq_true rfl) ?_
  refine z_aload_n 0 dX7_clear_0 rfl ?_
  refine z_get (v := .ref 62) dX7_clear_1 fl_7_39 kdl_0 rfl ?_
  refine z_get (v := .int (S.1 62 1)) dX7_clear_4 fl_7_271 kdl_62 rfl ?_
  refine z_istore_n (lv' := [(0, .ref 0), (1, .int (S.1 62 1))]) [1, 0] dX7_clear_7 (Nat.le_of_ble_eq_true rfl) rfl ?_
  refine z_aload_n 0 dX7_clear_8 rfl ?_
  refine z_get (v := .ref 62) dX7_clear_9 fl_7_39 kdl_0 rfl ?_
  refine z_iconst (v := 0) dX7_clear_12 rfl ?_
  refine z_put (fk := 1) dX7_clear_13 fl_7_271 fp_2_1 kdl_62 rfl rfl rfl (Nat.le_of_ble_eq_true rfl) ?_
  refine z_iload_n 1 dX7_clear_16 rfl ?_
  obtain rfl := Option.some.inj h
  exact z_iret dX7_clear_17 rfl rfl
set_option maxHeartbeats 2000000 in
set_option maxRecDepth 20000 in
theorem t_X7_draw (l : Launch) {S : St}  {a1 : Int32} {r : (Int32 × St)} (h : f_X7_draw a1 S = some r) : CT l yX7_draw M_X7_draw [.ref 0, .int a1] S (some (.int r.1)) r.2 := by
  rw [f_X7_draw] at h
  refine ct_of (lv := [(0, .ref 0), (1, .int a1)]) (by decide) rfl (Nat.le_of_ble_eq_true rfl) ?_
  refine z_aload_n 0 dX7_draw_0 rfl ?_
  refine z_aload_n 0 dX7_draw_1 rfl ?_
  refine z_get (v := .int (S.1 0 12)) dX7_draw_2 fl_7_276 kdl_0 rfl ?_
  refine z_ldcw cst_7_319 dX7_draw_5 ?_
  refine z_imul dX7_draw_8 ?_
  refine z_ldcw cst_7_320 dX7_draw_9 ?_
  refine z_iadd dX7_draw_12 ?_
  refine z_put (fk := 12) dX7_draw_13 fl_7_276 fp_7_12 kdl_0 rfl rfl rfl (Nat.le_of_ble_eq_true rfl) ?_
  refine z_iload_n 1 dX7_draw_16 rfl ?_
  refine z_iconst (v := 1) dX7_draw_17 rfl ?_
  refine z_icmp_ge (tgt := 25) dX7_draw_18 (by decide) (fun c1 => ?_) (fun c1 => ?_)
  · replace h := ip c1 h
    refine z_aload_n 0 dX7_draw_25 rfl ?_
    refine z_get (v := .int ((up S 0 12 (((S.1 0 12) * 1664525) + 1013904223)).1 0 12)) dX7_draw_26 fl_7_276 kdl_0 rfl ?_
    refine z_ldcw cst_7_321 dX7_draw_29 ?_
    refine z_iand dX7_draw_32 ?_
    refine z_sipush (v := 256) dX7_draw_33 rfl ?_
    refine z_idiv dX7_draw_36 (by decide) ?_
    refine z_iload_n 1 dX7_draw_37 rfl ?_
    obtain ⟨c2, h⟩ := oi h
    refine z_irem dX7_draw_38 c2 ?_
    obtain rfl := Option.some.inj h
    exact z_iret dX7_draw_39 rfl rfl
  · replace h := ig c1 h
    refine z_iconst (v := 0) dX7_draw_21 rfl ?_
    refine z_goto (tgt := 39) dX7_draw_22 (by decide) ?_
    obtain rfl := Option.some.inj h
    exact z_iret dX7_draw_39 rfl rfl
set_option maxHeartbeats 2000000 in
set_option maxRecDepth 20000 in
theorem t_X7_glueByLot_L13 (l : Launch)   : ∀ (n : Nat) (x1 : Int32) (S : St) (k78 : St → Option St) (r : St), f_X7_glueByLot_L13 n x1 S k78 = some r → (∀ (T : St), k78 T = some r → Z l yX7_glueByLot M_X7_glueByLot 78 [] [] T none r) → Z l yX7_glueByLot M_X7_glueByLot 13 [(0, .ref 0), (1, .int x1)] [] S none r := by
  intro n
  induction n with
  | zero =>
    intro x1 S k78 r h hk78
    exact absurd h (by rw [f_X7_glueByLot_L13]; exact fun q => by cases q)
  | succ n ih =>
    intro x1 S k78 r h hk78
    rw [f_X7_glueByLot_L13] at h
    refine z_iload_n 1 dX7_glueByLot_13 rfl ?_
    refine z_aload_n 0 dX7_glueByLot_14 rfl ?_
    refine z_get (v := .ref 39) dX7_glueByLot_15 fl_7_19 kdl_0 rfl ?_
    refine z_get (v := .int (S.1 39 0)) dX7_glueByLot_18 fl_7_199 kdl_39 rfl ?_
    refine z_icmp_ge (tgt := 78) dX7_glueByLot_21 (by decide) (fun c2 => ?_) (fun c2 => ?_)
    · replace h := ip c2 h
      refine z_sub (lv' := []) [] rfl ?_
      exact hk78 _ h
    · replace h := ig c2 h
      refine z_aload_n 0 dX7_glueByLot_24 rfl ?_
      refine z_get (v := .ref 39) dX7_glueByLot_25 fl_7_19 kdl_0 rfl ?_
      refine z_iload_n 1 dX7_glueByLot_28 rfl ?_
      obtain ⟨v3, hv3, h⟩ := ob h
      refine z_callV (as := [.int x1]) dX7_glueByLot_29 ml_7_102 mv_X3_at (t_X3_at l kdl_39 hv3) kdl_39 ⟨by decide, rfl⟩ rfl rfl (Nat.le_of_ble_eq_true rfl) ⟨Nat.le_of_ble_eq_true rfl, Nat.le_of_ble_eq_true rfl⟩ rfl ?_
      refine z_astore_n (lv' := [(0, .ref 0), (1, .int x1), (2, .ref v3)]) [1, 2, 0] dX7_glueByLot_32 (Nat.le_of_ble_eq_true rfl) rfl ?_
      refine z_aload_n 2 dX7_glueByLot_33 rfl ?_
      obtain ⟨v4, hv4, h⟩ := ob h
      refine z_callV (as := []) dX7_glueByLot_34 ml_7_161 mv_X6_isSet (t_X6_isSet l (kd_at kdl_39 hv3) hv4) (kd_at kdl_39 hv3) ⟨by decide, rfl⟩ rfl rfl (Nat.le_of_ble_eq_true rfl) ⟨Nat.le_of_ble_eq_true rfl, Nat.le_of_ble_eq_true rfl⟩ rfl ?_
      refine z_if_ne (tgt := 72) dX7_glueByLot_37 (by decide) (fun c5 => ?_) (fun c5 => ?_)
      · replace h := ig c5 h
        refine z_iinc (lv' := [(0, .ref 0), (1, .int (x1 + 1)), (2, .ref v3)]) (v := x1 + 1) 1 [1, 0, 2] dX7_glueByLot_72 rfl rfl (Nat.le_of_ble_eq_true rfl) rfl ?_
        refine z_goto (tgt := 13) dX7_glueByLot_75 (by decide) ?_
        refine z_sub (lv' := [(0, .ref 0), (1, .int (x1 + 1))]) [0, 1] rfl ?_
        exact ih _ _ _ _ h hk78
      · replace h := ip c5 h
        refine z_aload_n 0 dX7_glueByLot_40 rfl ?_
        refine z_bipush (v := 60) dX7_glueByLot_41 rfl ?_
        obtain ⟨z6, hz6, h⟩ := ob h
        refine z_callV (as := [.int 60]) dX7_glueByLot_43 ml_7_316 mv_X7_draw (t_X7_draw l hz6) kdl_0 ⟨by decide, rfl⟩ rfl rfl (Nat.le_of_ble_eq_true rfl) ⟨Nat.le_of_ble_eq_true rfl, Nat.le_of_ble_eq_true rfl⟩ rfl ?_
        refine z_istore_n (lv' := [(0, .ref 0), (1, .int x1), (2, .ref v3), (3, .int z6.1)]) [1, 2, 3, 0] dX7_glueByLot_46 (Nat.le_of_ble_eq_true rfl) rfl ?_
        refine z_aload_n 0 dX7_glueByLot_47 rfl ?_
        refine z_iconst (v := 4) dX7_glueByLot_48 rfl ?_
        obtain ⟨z7, hz7, h⟩ := ob h
        refine z_callV (as := [.int 4]) dX7_glueByLot_49 ml_7_316 mv_X7_draw (t_X7_draw l hz7) kdl_0 ⟨by decide, rfl⟩ rfl rfl (Nat.le_of_ble_eq_true rfl) ⟨Nat.le_of_ble_eq_true rfl, Nat.le_of_ble_eq_true rfl⟩ rfl ?_
        refine z_istore (lv' := [(0, .ref 0), (1, .int x1), (2, .ref v3), (3, .int z6.1), (4, .int z7.1)]) [1, 2, 3, 4, 0] dX7_glueByLot_52 (Nat.le_of_ble_eq_true rfl) rfl ?_
        refine z_aload_n 2 dX7_glueByLot_54 rfl ?_
        refine z_aload_n 2 dX7_glueByLot_55 rfl ?_
        refine z_iload_n 3 dX7_glueByLot_56 rfl ?_
        refine z_iload 4 dX7_glueByLot_57 rfl ?_
        refine z_aload_n 0 dX7_glueByLot_59 rfl ?_
        refine z_get (v := .ref 39) dX7_glueByLot_60 fl_7_19 kdl_0 rfl ?_
        refine z_get (v := .int (z7.2.1 39 1)) dX7_glueByLot_63 fl_7_115 kdl_39 rfl ?_
        obtain ⟨v8, hv8, h⟩ := ob h
        refine z_callV (as := [.int z6.1, .int z7.1, .int (z7.2.1 39 1)]) dX7_glueByLot_66 ml_7_168 mv_X6_yearBy (t_X6_yearBy l (kd_at kdl_39 hv3) hv8) (kd_at kdl_39 hv3) ⟨by decide, rfl⟩ rfl rfl (Nat.le_of_ble_eq_true rfl) ⟨Nat.le_of_ble_eq_true rfl, Nat.le_of_ble_eq_true rfl⟩ rfl ?_
        refine z_put (fk := 2) dX7_glueByLot_69 fl_7_112 fp_6_2 (kd_at kdl_39 hv3) rfl rfl rfl (Nat.le_of_ble_eq_true rfl) ?_
        refine z_iinc (lv' := [(0, .ref 0), (1, .int (x1 + 1)), (2, .ref v3), (3, .int z6.1), (4, .int z7.1)]) (v := x1 + 1) 1 [1, 0, 2, 3, 4] dX7_glueByLot_72 rfl rfl (Nat.le_of_ble_eq_true rfl) rfl ?_
        refine z_goto (tgt := 13) dX7_glueByLot_75 (by decide) ?_
        refine z_sub (lv' := [(0, .ref 0), (1, .int (x1 + 1))]) [0, 1] rfl ?_
        exact ih _ _ _ _ h hk78
set_option maxHeartbeats 2000000 in
set_option maxRecDepth 20000 in
theorem t_X7_glueByLot (l : Launch) {S : St}   {r : St} (h : f_X7_glueByLot S = some r) : CT l yX7_glueByLot M_X7_glueByLot [.ref 0] S none r := by
  rw [f_X7_glueByLot] at h
  refine ct_of (lv := [(0, .ref 0)]) (by decide) rfl (Nat.le_of_ble_eq_true rfl) ?_
  refine z_aload_n 0 dX7_glueByLot_0 rfl ?_
  refine z_get (v := .ref 39) dX7_glueByLot_1 fl_7_19 kdl_0 rfl ?_
  refine z_aload_n 0 dX7_glueByLot_4 rfl ?_
  refine z_get (v := .ref 1) dX7_glueByLot_5 fl_7_12 kdl_0 rfl ?_
  obtain ⟨S1, hS1, h⟩ := ob h
  refine z_callV (as := [.ref 1]) dX7_glueByLot_8 ml_7_94 mv_X3_copyFrom (t_X3_copyFrom l kdl_39 kdl_1 hS1) kdl_39 ⟨by decide, rfl⟩ rfl rfl (Nat.le_of_ble_eq_true rfl) ⟨Nat.le_of_ble_eq_true rfl, Nat.le_of_ble_eq_true rfl⟩ rfl ?_
  refine z_iconst (v := 0) dX7_glueByLot_11 rfl ?_
  refine z_istore_n (lv' := [(0, .ref 0), (1, .int 0)]) [1, 0] dX7_glueByLot_12 (Nat.le_of_ble_eq_true rfl) rfl ?_
  refine z_sub (lv' := [(0, .ref 0), (1, .int 0)]) [0, 1] rfl ?_
  refine t_X7_glueByLot_L13 l _ _ _ _ _ h ?_
  · intro S9 h
    obtain rfl := Option.some.inj h
    exact z_vret dX7_glueByLot_78 rfl
set_option maxHeartbeats 2000000 in
set_option maxRecDepth 20000 in
theorem t_X7_lots_L46 (l : Launch)   : ∀ (n : Nat) (x1 : Int32) (x3 : Int32) (x5 : Int32) (x6 : Int32) (S : St) (k95 : Int32 → St → Option (Int32 × St)) (r : (Int32 × St)), f_X7_lots_L46 n x1 x3 x5 x6 S k95 = some r → (∀ (e5 : Int32) (T : St), k95 e5 T = some r → Z l yX7_lots M_X7_lots 95 [(5, .int e5)] [] T (some (.int r.1)) r.2) → Z l yX7_lots M_X7_lots 46 [(0, .ref 0), (1, .int x1), (3, .int x3), (5, .int x5), (6, .int x6)] [] S (some (.int r.1)) r.2 := by
  intro n
  induction n with
  | zero =>
    intro x1 x3 x5 x6 S k95 r h hk95
    exact absurd h (by rw [f_X7_lots_L46]; exact fun q => by cases q)
  | succ n ih =>
    intro x1 x3 x5 x6 S k95 r h hk95
    rw [f_X7_lots_L46] at h
    refine z_iload 4 dX7_lots_46 rfl ?_
    refine z_iload_n 1 dX7_lots_48 rfl ?_
    refine z_icmp_ge (tgt := 95) dX7_lots_49 (by decide) (fun c5 => ?_) (fun c5 => ?_)
    · replace h := ip c5 h
      refine z_sub (lv' := [(5, .int x5)]) [3] rfl ?_
      exact hk95 _ _ h
    · replace h := ig c5 h
      refine z_aload_n 0 dX7_lots_52 rfl ?_
      obtain ⟨S6, hS6, h⟩ := ob h
      refine z_callV (as := []) dX7_lots_53 ml_7_279 mv_X7_glueByLot (t_X7_glueByLot l hS6) kdl_0 ⟨by decide, rfl⟩ rfl rfl (Nat.le_of_ble_eq_true rfl) ⟨Nat.le_of_ble_eq_true rfl, Nat.le_of_ble_eq_true rfl⟩ rfl ?_
      refine z_iload 3 dX7_lots_56 rfl ?_
      refine z_iload_n 2 dX7_lots_58 rfl ?_
      refine z_if_ne (tgt := 79) dX7_lots_59 (by decide) (fun c7 => ?_) (fun c7 => ?_)
      · replace h := ig c7 h
        refine z_aload_n 0 dX7_lots_79 rfl ?_
        refine z_get (v := .ref 39) dX7_lots_80 fl_7_19 kdl_0 rfl ?_
        obtain ⟨v8, hv8, h⟩ := ob h
        refine z_callV (as := []) dX7_lots_83 ml_7_180 mv_X3_countAgreeing (t_X3_countAgreeing l kdl_39 hv8) kdl_39 ⟨by decide, rfl⟩ rfl rfl (Nat.le_of_ble_eq_true rfl) ⟨Nat.le_of_ble_eq_true rfl, Nat.le_of_ble_eq_true rfl⟩ rfl ?_
        refine z_iadd dX7_lots_86 ?_
        refine z_istore (lv' := [(0, .ref 0), (1, .int x1), (3, .int x3), (5, .int (x5 + v8)), (6, .int x6)]) [1, 2, 3, 0, 4] dX7_lots_87 (Nat.le_of_ble_eq_true rfl) rfl ?_
        refine z_iinc (lv' := [(0, .ref 0), (1, .int x1), (3, .int x3), (5, .int (x5 + v8)), (6, .int (x6 + 1))]) (v := x6 + 1) 4 [1, 2, 3, 4, 0] dX7_lots_89 rfl rfl (Nat.le_of_ble_eq_true rfl) rfl ?_
        refine z_goto (tgt := 46) dX7_lots_92 (by decide) ?_
        refine z_sub (lv' := [(0, .ref 0), (1, .int x1), (3, .int x3), (5, .int (x5 + v8)), (6, .int (x6 + 1))]) [0, 1, 2, 3, 4] rfl ?_
        exact ih _ _ _ _ _ _ _ h hk95
      · replace h := ip c7 h
        refine z_aload_n 0 dX7_lots_62 rfl ?_
        refine z_get (v := .ref 39) dX7_lots_63 fl_7_19 kdl_0 rfl ?_
        refine z_aload_n 0 dX7_lots_66 rfl ?_
        refine z_get (v := .ref 39) dX7_lots_67 fl_7_19 kdl_0 rfl ?_
        refine z_get (v := .int (S6.1 39 1)) dX7_lots_70 fl_7_115 kdl_39 rfl ?_
        obtain ⟨v9, hv9, h⟩ := ob h
        refine z_callV (as := [.int (S6.1 39 1)]) dX7_lots_73 ml_7_174 mv_X3_gladTogether (t_X3_gladTogether l kdl_39 hv9) kdl_39 ⟨by decide, rfl⟩ rfl rfl (Nat.le_of_ble_eq_true rfl) ⟨Nat.le_of_ble_eq_true rfl, Nat.le_of_ble_eq_true rfl⟩ rfl ?_
        refine z_goto (tgt := 86) dX7_lots_76 (by decide) ?_
        refine z_iadd dX7_lots_86 ?_
        refine z_istore (lv' := [(0, .ref 0), (1, .int x1), (3, .int x3), (5, .int (x5 + v9)), (6, .int x6)]) [1, 2, 3, 0, 4] dX7_lots_87 (Nat.le_of_ble_eq_true rfl) rfl ?_
        refine z_iinc (lv' := [(0, .ref 0), (1, .int x1), (3, .int x3), (5, .int (x5 + v9)), (6, .int (x6 + 1))]) (v := x6 + 1) 4 [1, 2, 3, 4, 0] dX7_lots_89 rfl rfl (Nat.le_of_ble_eq_true rfl) rfl ?_
        refine z_goto (tgt := 46) dX7_lots_92 (by decide) ?_
        refine z_sub (lv' := [(0, .ref 0), (1, .int x1), (3, .int x3), (5, .int (x5 + v9)), (6, .int (x6 + 1))]) [0, 1, 2, 3, 4] rfl ?_
        exact ih _ _ _ _ _ _ _ h hk95
set_option maxHeartbeats 2000000 in
set_option maxRecDepth 20000 in
theorem t_X7_lots (l : Launch) {S : St}  {a1 : Int32} {a2 : Int32} {a3 : Int32} {r : (Int32 × St)} (h : f_X7_lots a1 a2 a3 S = some r) : CT l yX7_lots M_X7_lots [.ref 0, .int a1, .int a2, .int a3] S (some (.int r.1)) r.2 := by
  rw [f_X7_lots] at h
  refine ct_of (lv := [(0, .ref 0), (1, .int a1), (2, .int a2), (3, .int a3)]) (by decide) rfl (Nat.le_of_ble_eq_true rfl) ?_
  refine z_iload_n 1 dX7_lots_0 rfl ?_
  refine z_iconst (v := 1) dX7_lots_1 rfl ?_
  refine z_bipush (v := 20) dX7_lots_2 rfl ?_
  obtain ⟨v1, hv1, h⟩ := ob h
  refine z_callS (as := [.int a1, .int 1, .int 20]) dX7_lots_4 ml_7_137 ms_X7_outside (t_X7_outside l _ hv1) rfl rfl (Nat.le_of_ble_eq_true rfl) ⟨Nat.le_of_ble_eq_true rfl, Nat.le_of_ble_eq_true rfl⟩ rfl ?_
  refine z_istore (lv' := [(0, .ref 0), (1, .int a1), (2, .int a2), (3, .int a3), (4, .int v1)]) [1, 2, 3, 4, 0] dX7_lots_7 (Nat.le_of_ble_eq_true rfl) rfl ?_
  refine z_iload 4 dX7_lots_9 rfl ?_
  refine z_if_eq (tgt := 21) dX7_lots_11 (by decide) (fun c2 => ?_) (fun c2 => ?_)
  · replace h := ip c2 h
    refine z_iload_n 3 dX7_lots_21 rfl ?_
    obtain ⟨v3, hv3, h⟩ := ob h
    refine z_callS (as := [.int a3]) dX7_lots_22 ml_7_177 ms_X7_notOneOfTwo (t_X7_notOneOfTwo l _ hv3) rfl rfl (Nat.le_of_ble_eq_true rfl) ⟨Nat.le_of_ble_eq_true rfl, Nat.le_of_ble_eq_true rfl⟩ rfl ?_
    refine z_if_eq (tgt := 35) dX7_lots_25 (by decide) (fun c4 => ?_) (fun c4 => ?_)
    · replace h := ip c4 h
      refine z_aload_n 0 dX7_lots_35 rfl ?_
      refine z_iload_n 2 dX7_lots_36 rfl ?_
      refine z_put (fk := 12) dX7_lots_37 fl_7_276 fp_7_12 kdl_0 rfl rfl rfl (Nat.le_of_ble_eq_true rfl) ?_
      refine z_iconst (v := 0) dX7_lots_40 rfl ?_
      refine z_istore (lv' := [(0, .ref 0), (1, .int a1), (2, .int a2), (3, .int a3), (4, .int v1), (5, .int 0)]) [1, 2, 3, 4, 5, 0] dX7_lots_41 (Nat.le_of_ble_eq_true rfl) rfl ?_
      refine z_iconst (v := 0) dX7_lots_43 rfl ?_
      refine z_istore (lv' := [(0, .ref 0), (1, .int a1), (2, .int a2), (3, .int a3), (4, .int v1), (5, .int 0), (6, .int 0)]) [1, 2, 3, 4, 5, 6, 0] dX7_lots_44 (Nat.le_of_ble_eq_true rfl) rfl ?_
      refine z_sub (lv' := [(0, .ref 0), (1, .int a1), (3, .int a3), (5, .int 0), (6, .int 0)]) [0, 1, 3, 5, 6] rfl ?_
      refine t_X7_lots_L46 l _ _ _ _ _ _ _ _ h ?_
      · intro y10 S11 h
        refine z_iload 0 dX7_lots_95 rfl ?_
        obtain rfl := Option.some.inj h
        exact z_iret dX7_lots_97 rfl rfl
    · replace h := ig c4 h
      refine z_aload_n 0 dX7_lots_28 rfl ?_
      refine z_bipush (v := (-2)) dX7_lots_29 rfl ?_
      obtain ⟨z12, hz12, h⟩ := ob h
      refine z_callV (as := [.int (-2)]) dX7_lots_31 ml_7_71 mv_X7_refuse (t_X7_refuse l hz12) kdl_0 ⟨by decide, rfl⟩ rfl rfl (Nat.le_of_ble_eq_true rfl) ⟨Nat.le_of_ble_eq_true rfl, Nat.le_of_ble_eq_true rfl⟩ rfl ?_
      obtain rfl := Option.some.inj h
      exact z_iret dX7_lots_34 rfl rfl
  · replace h := ig c2 h
    refine z_aload_n 0 dX7_lots_14 rfl ?_
    refine z_iload 4 dX7_lots_15 rfl ?_
    obtain ⟨z13, hz13, h⟩ := ob h
    refine z_callV (as := [.int v1]) dX7_lots_17 ml_7_71 mv_X7_refuse (t_X7_refuse l hz13) kdl_0 ⟨by decide, rfl⟩ rfl rfl (Nat.le_of_ble_eq_true rfl) ⟨Nat.le_of_ble_eq_true rfl, Nat.le_of_ble_eq_true rfl⟩ rfl ?_
    obtain rfl := Option.some.inj h
    exact z_iret dX7_lots_20 rfl rfl
set_option maxHeartbeats 2000000 in
set_option maxRecDepth 20000 in
theorem t_X7_image (l : Launch) {S : St}   {r : (Int32 × St)} (h : f_X7_image S = some r) : CT l yX7_image M_X7_image [.ref 0] S (some (.int r.1)) r.2 := by
  rw [f_X7_image] at h
  refine ct_of (lv := [(0, .ref 0)]) (by decide) rfl (Nat.le_of_ble_eq_true rfl) ?_
  refine z_aload_n 0 dX7_image_0 rfl ?_
  refine z_get (v := .ref 20) dX7_image_1 fl_7_16 kdl_0 rfl ?_
  refine z_aload_n 0 dX7_image_4 rfl ?_
  refine z_get (v := .ref 1) dX7_image_5 fl_7_12 kdl_0 rfl ?_
  obtain ⟨S1, hS1, h⟩ := ob h
  refine z_callV (as := [.ref 1]) dX7_image_8 ml_7_94 mv_X3_copyFrom (t_X3_copyFrom l kdl_20 kdl_1 hS1) kdl_20 ⟨by decide, rfl⟩ rfl rfl (Nat.le_of_ble_eq_true rfl) ⟨Nat.le_of_ble_eq_true rfl, Nat.le_of_ble_eq_true rfl⟩ rfl ?_
  refine z_aload_n 0 dX7_image_11 rfl ?_
  refine z_iconst (v := 1) dX7_image_12 rfl ?_
  refine z_put (fk := 11) dX7_image_13 fl_7_282 fp_7_11 kdl_0 rfl rfl rfl (Nat.le_of_ble_eq_true rfl) ?_
  refine z_aload_n 0 dX7_image_16 rfl ?_
  refine z_get (v := .ref 1) dX7_image_17 fl_7_12 kdl_0 rfl ?_
  refine z_get (v := .int ((up S1 0 11 1).1 1 1)) dX7_image_20 fl_7_115 kdl_1 rfl ?_
  obtain rfl := Option.some.inj h
  exact z_iret dX7_image_23 rfl rfl
set_option maxHeartbeats 2000000 in
set_option maxRecDepth 20000 in
theorem t_X7_on (l : Launch) {S : St}   {r : (Int32 × St)} (h : f_X7_on S = some r) : CT l yX7_on M_X7_on [.ref 0] S (some (.int r.1)) r.2 := by
  rw [f_X7_on] at h
  refine ct_of (lv := [(0, .ref 0)]) (by decide) rfl (Nat.le_of_ble_eq_true rfl) ?_
  refine z_aload_n 0 dX7_on_0 rfl ?_
  refine z_get (v := .int (S.1 0 11)) dX7_on_1 fl_7_282 kdl_0 rfl ?_
  refine z_if_ne (tgt := 14) dX7_on_4 (by decide) (fun c1 => ?_) (fun c1 => ?_)
  · replace h := ig c1 h
    refine z_aload_n 0 dX7_on_14 rfl ?_
    refine z_get (v := .ref 1) dX7_on_15 fl_7_12 kdl_0 rfl ?_
    refine z_aload_n 0 dX7_on_18 rfl ?_
    refine z_get (v := .ref 20) dX7_on_19 fl_7_16 kdl_0 rfl ?_
    obtain ⟨S2, hS2, h⟩ := ob h
    refine z_callV (as := [.ref 20]) dX7_on_22 ml_7_94 mv_X3_copyFrom (t_X3_copyFrom l kdl_1 kdl_20 hS2) kdl_1 ⟨by decide, rfl⟩ rfl rfl (Nat.le_of_ble_eq_true rfl) ⟨Nat.le_of_ble_eq_true rfl, Nat.le_of_ble_eq_true rfl⟩ rfl ?_
    refine z_aload_n 0 dX7_on_25 rfl ?_
    refine z_get (v := .ref 1) dX7_on_26 fl_7_12 kdl_0 rfl ?_
    refine z_get (v := .int (S2.1 1 1)) dX7_on_29 fl_7_115 kdl_1 rfl ?_
    obtain rfl := Option.some.inj h
    exact z_iret dX7_on_32 rfl rfl
  · replace h := ip c1 h
    refine z_aload_n 0 dX7_on_7 rfl ?_
    refine z_bipush (v := (-3)) dX7_on_8 rfl ?_
    obtain ⟨z3, hz3, h⟩ := ob h
    refine z_callV (as := [.int (-3)]) dX7_on_10 ml_7_71 mv_X7_refuse (t_X7_refuse l hz3) kdl_0 ⟨by decide, rfl⟩ rfl rfl (Nat.le_of_ble_eq_true rfl) ⟨Nat.le_of_ble_eq_true rfl, Nat.le_of_ble_eq_true rfl⟩ rfl ?_
    obtain rfl := Option.some.inj h
    exact z_iret dX7_on_13 rfl rfl
set_option maxHeartbeats 2000000 in
set_option maxRecDepth 20000 in
theorem t_X7_count (l : Launch) {S : St}  {a1 : Int32} {r : Int32} (h : f_X7_count a1 S = some r) : CT l yX7_count M_X7_count [.ref 0, .int a1] S (some (.int r)) S := by
  rw [f_X7_count] at h
  refine ct_of (lv := [(0, .ref 0), (1, .int a1)]) (by decide) rfl (Nat.le_of_ble_eq_true rfl) ?_
  refine z_iload_n 1 dX7_count_0 rfl ?_
  refine z_bipush (v := 11) dX7_count_1 rfl ?_
  refine z_icmp_lt (tgt := 22) dX7_count_3 (by decide) (fun c1 => ?_) (fun c1 => ?_)
  · replace h := ip c1 h
    refine z_iload_n 1 dX7_count_22 rfl ?_
    by_cases c2 : a1 = 0
    · replace h := ip c2 h
      refine z_tableIn (off := 45) (tgt := 68) dX7_count_23 (by rw [c2]; decide) (by rw [c2]; decide) (by rw [c2]; rfl) (by decide) ?_
      refine z_aload_n 0 dX7_count_68 rfl ?_
      refine z_get (v := .ref 1) dX7_count_69 fl_7_12 kdl_0 rfl ?_
      refine z_get (v := .int (S.1 1 0)) dX7_count_72 fl_7_199 kdl_1 rfl ?_
      obtain rfl := Option.some.inj h
      exact z_iret dX7_count_75 rfl rfl
    replace h := ig c2 h
    by_cases c3 : a1 = 1
    · replace h := ip c3 h
      refine z_tableIn (off := 53) (tgt := 76) dX7_count_23 (by rw [c3]; decide) (by rw [c3]; decide) (by rw [c3]; rfl) (by decide) ?_
      refine z_aload_n 0 dX7_count_76 rfl ?_
      refine z_get (v := .ref 1) dX7_count_77 fl_7_12 kdl_0 rfl ?_
      refine z_get (v := .int (S.1 1 1)) dX7_count_80 fl_7_115 kdl_1 rfl ?_
      obtain rfl := Option.some.inj h
      exact z_iret dX7_count_83 rfl rfl
    replace h := ig c3 h
    by_cases c4 : a1 = 2
    · replace h := ip c4 h
      refine z_tableIn (off := 61) (tgt := 84) dX7_count_23 (by rw [c4]; decide) (by rw [c4]; decide) (by rw [c4]; rfl) (by decide) ?_
      refine z_aload_n 0 dX7_count_84 rfl ?_
      refine z_get (v := .ref 1) dX7_count_85 fl_7_12 kdl_0 rfl ?_
      refine z_get (v := .int (S.1 1 2)) dX7_count_88 fl_7_151 kdl_1 rfl ?_
      obtain rfl := Option.some.inj h
      exact z_iret dX7_count_91 rfl rfl
    replace h := ig c4 h
    by_cases c5 : a1 = 3
    · replace h := ip c5 h
      refine z_tableIn (off := 69) (tgt := 92) dX7_count_23 (by rw [c5]; decide) (by rw [c5]; decide) (by rw [c5]; rfl) (by decide) ?_
      refine z_aload_n 0 dX7_count_92 rfl ?_
      refine z_get (v := .ref 1) dX7_count_93 fl_7_12 kdl_0 rfl ?_
      refine z_get (v := .int (S.1 1 3)) dX7_count_96 fl_7_148 kdl_1 rfl ?_
      obtain rfl := Option.some.inj h
      exact z_iret dX7_count_99 rfl rfl
    replace h := ig c5 h
    by_cases c6 : a1 = 4
    · replace h := ip c6 h
      refine z_tableIn (off := 77) (tgt := 100) dX7_count_23 (by rw [c6]; decide) (by rw [c6]; decide) (by rw [c6]; rfl) (by decide) ?_
      refine z_aload_n 0 dX7_count_100 rfl ?_
      refine z_get (v := .ref 1) dX7_count_101 fl_7_12 kdl_0 rfl ?_
      obtain ⟨v7, hv7, h⟩ := ob h
      refine z_callV (as := []) dX7_count_104 ml_7_286 mv_X3_setBits (t_X3_setBits l kdl_1 hv7) kdl_1 ⟨by decide, rfl⟩ rfl rfl (Nat.le_of_ble_eq_true rfl) ⟨Nat.le_of_ble_eq_true rfl, Nat.le_of_ble_eq_true rfl⟩ rfl ?_
      obtain rfl := Option.some.inj h
      exact z_iret dX7_count_107 rfl rfl
    replace h := ig c6 h
    by_cases c8 : a1 = 5
    · replace h := ip c8 h
      refine z_tableIn (off := 85) (tgt := 108) dX7_count_23 (by rw [c8]; decide) (by rw [c8]; decide) (by rw [c8]; rfl) (by decide) ?_
      refine z_aload_n 0 dX7_count_108 rfl ?_
      refine z_get (v := .ref 1) dX7_count_109 fl_7_12 kdl_0 rfl ?_
      obtain ⟨v9, hv9, h⟩ := ob h
      refine z_callV (as := []) dX7_count_112 ml_7_289 mv_X3_countHalves (t_X3_countHalves l kdl_1 hv9) kdl_1 ⟨by decide, rfl⟩ rfl rfl (Nat.le_of_ble_eq_true rfl) ⟨Nat.le_of_ble_eq_true rfl, Nat.le_of_ble_eq_true rfl⟩ rfl ?_
      obtain rfl := Option.some.inj h
      exact z_iret dX7_count_115 rfl rfl
    replace h := ig c8 h
    by_cases c10 : a1 = 6
    · replace h := ip c10 h
      refine z_tableIn (off := 93) (tgt := 116) dX7_count_23 (by rw [c10]; decide) (by rw [c10]; decide) (by rw [c10]; rfl) (by decide) ?_
      refine z_aload_n 0 dX7_count_116 rfl ?_
      refine z_get (v := .ref 62) dX7_count_117 fl_7_39 kdl_0 rfl ?_
      refine z_get (v := .int (S.1 62 1)) dX7_count_120 fl_7_271 kdl_62 rfl ?_
      obtain rfl := Option.some.inj h
      exact z_iret dX7_count_123 rfl rfl
    replace h := ig c10 h
    by_cases c11 : a1 = 7
    · replace h := ip c11 h
      refine z_tableIn (off := 101) (tgt := 124) dX7_count_23 (by rw [c11]; decide) (by rw [c11]; decide) (by rw [c11]; rfl) (by decide) ?_
      refine z_aload_n 0 dX7_count_124 rfl ?_
      refine z_get (v := .ref 60) dX7_count_125 fl_7_32 kdl_0 rfl ?_
      refine z_get (v := .int (S.1 60 1)) dX7_count_128 fl_7_83 kdl_60 rfl ?_
      obtain rfl := Option.some.inj h
      exact z_iret dX7_count_131 rfl rfl
    replace h := ig c11 h
    refine z_tableG (tgt := 132) (n := 8) [0, 1, 2, 3, 4, 5, 6, 7] dX7_count_23 (by decide) (by decide) (zrc (lv_neT c2 (by decide)) (zrc (lv_neT c3 (by decide)) (zrc (lv_neT c4 (by decide)) (zrc (lv_neT c5 (by decide)) (zrc (lv_neT c6 (by decide)) (zrc (lv_neT c8 (by decide)) (zrc (lv_neT c10 (by decide)) (zrc (lv_neT c11 (by decide)) zrn)))))))) (by decide) ?_
    refine z_bipush (v := (-9)) dX7_count_132 rfl ?_
    obtain rfl := Option.some.inj h
    exact z_iret dX7_count_134 rfl rfl
  · replace h := ig c1 h
    refine z_iload_n 1 dX7_count_6 rfl ?_
    refine z_bipush (v := 16) dX7_count_7 rfl ?_
    refine z_icmp_gt (tgt := 22) dX7_count_9 (by decide) (fun c12 => ?_) (fun c12 => ?_)
    · replace h := ip c12 h
      refine z_iload_n 1 dX7_count_22 rfl ?_
      by_cases c13 : a1 = 0
      · replace h := ip c13 h
        refine z_tableIn (off := 45) (tgt := 68) dX7_count_23 (by rw [c13]; decide) (by rw [c13]; decide) (by rw [c13]; rfl) (by decide) ?_
        refine z_aload_n 0 dX7_count_68 rfl ?_
        refine z_get (v := .ref 1) dX7_count_69 fl_7_12 kdl_0 rfl ?_
        refine z_get (v := .int (S.1 1 0)) dX7_count_72 fl_7_199 kdl_1 rfl ?_
        obtain rfl := Option.some.inj h
        exact z_iret dX7_count_75 rfl rfl
      replace h := ig c13 h
      by_cases c14 : a1 = 1
      · replace h := ip c14 h
        refine z_tableIn (off := 53) (tgt := 76) dX7_count_23 (by rw [c14]; decide) (by rw [c14]; decide) (by rw [c14]; rfl) (by decide) ?_
        refine z_aload_n 0 dX7_count_76 rfl ?_
        refine z_get (v := .ref 1) dX7_count_77 fl_7_12 kdl_0 rfl ?_
        refine z_get (v := .int (S.1 1 1)) dX7_count_80 fl_7_115 kdl_1 rfl ?_
        obtain rfl := Option.some.inj h
        exact z_iret dX7_count_83 rfl rfl
      replace h := ig c14 h
      by_cases c15 : a1 = 2
      · replace h := ip c15 h
        refine z_tableIn (off := 61) (tgt := 84) dX7_count_23 (by rw [c15]; decide) (by rw [c15]; decide) (by rw [c15]; rfl) (by decide) ?_
        refine z_aload_n 0 dX7_count_84 rfl ?_
        refine z_get (v := .ref 1) dX7_count_85 fl_7_12 kdl_0 rfl ?_
        refine z_get (v := .int (S.1 1 2)) dX7_count_88 fl_7_151 kdl_1 rfl ?_
        obtain rfl := Option.some.inj h
        exact z_iret dX7_count_91 rfl rfl
      replace h := ig c15 h
      by_cases c16 : a1 = 3
      · replace h := ip c16 h
        refine z_tableIn (off := 69) (tgt := 92) dX7_count_23 (by rw [c16]; decide) (by rw [c16]; decide) (by rw [c16]; rfl) (by decide) ?_
        refine z_aload_n 0 dX7_count_92 rfl ?_
        refine z_get (v := .ref 1) dX7_count_93 fl_7_12 kdl_0 rfl ?_
        refine z_get (v := .int (S.1 1 3)) dX7_count_96 fl_7_148 kdl_1 rfl ?_
        obtain rfl := Option.some.inj h
        exact z_iret dX7_count_99 rfl rfl
      replace h := ig c16 h
      by_cases c17 : a1 = 4
      · replace h := ip c17 h
        refine z_tableIn (off := 77) (tgt := 100) dX7_count_23 (by rw [c17]; decide) (by rw [c17]; decide) (by rw [c17]; rfl) (by decide) ?_
        refine z_aload_n 0 dX7_count_100 rfl ?_
        refine z_get (v := .ref 1) dX7_count_101 fl_7_12 kdl_0 rfl ?_
        obtain ⟨v18, hv18, h⟩ := ob h
        refine z_callV (as := []) dX7_count_104 ml_7_286 mv_X3_setBits (t_X3_setBits l kdl_1 hv18) kdl_1 ⟨by decide, rfl⟩ rfl rfl (Nat.le_of_ble_eq_true rfl) ⟨Nat.le_of_ble_eq_true rfl, Nat.le_of_ble_eq_true rfl⟩ rfl ?_
        obtain rfl := Option.some.inj h
        exact z_iret dX7_count_107 rfl rfl
      replace h := ig c17 h
      by_cases c19 : a1 = 5
      · replace h := ip c19 h
        refine z_tableIn (off := 85) (tgt := 108) dX7_count_23 (by rw [c19]; decide) (by rw [c19]; decide) (by rw [c19]; rfl) (by decide) ?_
        refine z_aload_n 0 dX7_count_108 rfl ?_
        refine z_get (v := .ref 1) dX7_count_109 fl_7_12 kdl_0 rfl ?_
        obtain ⟨v20, hv20, h⟩ := ob h
        refine z_callV (as := []) dX7_count_112 ml_7_289 mv_X3_countHalves (t_X3_countHalves l kdl_1 hv20) kdl_1 ⟨by decide, rfl⟩ rfl rfl (Nat.le_of_ble_eq_true rfl) ⟨Nat.le_of_ble_eq_true rfl, Nat.le_of_ble_eq_true rfl⟩ rfl ?_
        obtain rfl := Option.some.inj h
        exact z_iret dX7_count_115 rfl rfl
      replace h := ig c19 h
      by_cases c21 : a1 = 6
      · replace h := ip c21 h
        refine z_tableIn (off := 93) (tgt := 116) dX7_count_23 (by rw [c21]; decide) (by rw [c21]; decide) (by rw [c21]; rfl) (by decide) ?_
        refine z_aload_n 0 dX7_count_116 rfl ?_
        refine z_get (v := .ref 62) dX7_count_117 fl_7_39 kdl_0 rfl ?_
        refine z_get (v := .int (S.1 62 1)) dX7_count_120 fl_7_271 kdl_62 rfl ?_
        obtain rfl := Option.some.inj h
        exact z_iret dX7_count_123 rfl rfl
      replace h := ig c21 h
      by_cases c22 : a1 = 7
      · replace h := ip c22 h
        refine z_tableIn (off := 101) (tgt := 124) dX7_count_23 (by rw [c22]; decide) (by rw [c22]; decide) (by rw [c22]; rfl) (by decide) ?_
        refine z_aload_n 0 dX7_count_124 rfl ?_
        refine z_get (v := .ref 60) dX7_count_125 fl_7_32 kdl_0 rfl ?_
        refine z_get (v := .int (S.1 60 1)) dX7_count_128 fl_7_83 kdl_60 rfl ?_
        obtain rfl := Option.some.inj h
        exact z_iret dX7_count_131 rfl rfl
      replace h := ig c22 h
      refine z_tableG (tgt := 132) (n := 8) [0, 1, 2, 3, 4, 5, 6, 7] dX7_count_23 (by decide) (by decide) (zrc (lv_neT c13 (by decide)) (zrc (lv_neT c14 (by decide)) (zrc (lv_neT c15 (by decide)) (zrc (lv_neT c16 (by decide)) (zrc (lv_neT c17 (by decide)) (zrc (lv_neT c19 (by decide)) (zrc (lv_neT c21 (by decide)) (zrc (lv_neT c22 (by decide)) zrn)))))))) (by decide) ?_
      refine z_bipush (v := (-9)) dX7_count_132 rfl ?_
      obtain rfl := Option.some.inj h
      exact z_iret dX7_count_134 rfl rfl
    · replace h := ig c12 h
      refine z_aload_n 0 dX7_count_12 rfl ?_
      refine z_get (v := .ref 73) dX7_count_13 fl_7_68 kdl_0 rfl ?_
      refine z_iload_n 1 dX7_count_16 rfl ?_
      refine z_bipush (v := 10) dX7_count_17 rfl ?_
      refine z_isub dX7_count_19 ?_
      obtain ⟨c23, h⟩ := oi h
      refine z_iald dX7_count_20 kdl_73 (by decide) c23 ?_
      obtain rfl := Option.some.inj h
      exact z_iret dX7_count_21 rfl rfl
set_option maxHeartbeats 2000000 in
set_option maxRecDepth 20000 in
theorem t_X8_isIn (l : Launch) (S : St)  {a0 : Int32} {a1 : Int32} {a2 : Int32} {r : Int32} (h : f_X8_isIn a0 a1 a2 = some r) : CT l yX8_isIn M_X8_isIn [.int a0, .int a1, .int a2] S (some (.int r)) S := by
  rw [f_X8_isIn] at h
  refine ct_of (lv := [(0, .int a0), (1, .int a1), (2, .int a2)]) (by decide) rfl (Nat.le_of_ble_eq_true rfl) ?_
  refine z_iload_n 0 dX8_isIn_0 rfl ?_
  refine z_iload_n 1 dX8_isIn_1 rfl ?_
  refine z_icmp_lt (tgt := 14) dX8_isIn_2 (by decide) (fun c1 => ?_) (fun c1 => ?_)
  · replace h := ip c1 h
    refine z_iconst (v := 0) dX8_isIn_14 rfl ?_
    obtain rfl := Option.some.inj h
    exact z_iret dX8_isIn_15 rfl rfl
  · replace h := ig c1 h
    refine z_iload_n 0 dX8_isIn_5 rfl ?_
    refine z_iload_n 2 dX8_isIn_6 rfl ?_
    refine z_icmp_gt (tgt := 14) dX8_isIn_7 (by decide) (fun c2 => ?_) (fun c2 => ?_)
    · replace h := ip c2 h
      refine z_iconst (v := 0) dX8_isIn_14 rfl ?_
      obtain rfl := Option.some.inj h
      exact z_iret dX8_isIn_15 rfl rfl
    · replace h := ig c2 h
      refine z_iconst (v := 1) dX8_isIn_10 rfl ?_
      refine z_goto (tgt := 15) dX8_isIn_11 (by decide) ?_
      obtain rfl := Option.some.inj h
      exact z_iret dX8_isIn_15 rfl rfl
set_option maxHeartbeats 2000000 in
set_option maxRecDepth 20000 in
theorem t_X8_least (l : Launch) (S : St)  {a0 : Int32} {a1 : Int32} {r : Int32} (h : f_X8_least a0 a1 = some r) : CT l yX8_least M_X8_least [.int a0, .int a1] S (some (.int r)) S := by
  rw [f_X8_least] at h
  refine ct_of (lv := [(0, .int a0), (1, .int a1)]) (by decide) rfl (Nat.le_of_ble_eq_true rfl) ?_
  refine z_iload_n 0 dX8_least_0 rfl ?_
  refine z_iload_n 1 dX8_least_1 rfl ?_
  refine z_icmp_ge (tgt := 9) dX8_least_2 (by decide) (fun c1 => ?_) (fun c1 => ?_)
  · replace h := ip c1 h
    refine z_iload_n 1 dX8_least_9 rfl ?_
    obtain rfl := Option.some.inj h
    exact z_iret dX8_least_10 rfl rfl
  · replace h := ig c1 h
    refine z_iload_n 0 dX8_least_5 rfl ?_
    refine z_goto (tgt := 10) dX8_least_6 (by decide) ?_
    obtain rfl := Option.some.inj h
    exact z_iret dX8_least_10 rfl rfl
set_option maxHeartbeats 2000000 in
set_option maxRecDepth 20000 in
theorem t_X8_most (l : Launch) (S : St)  {a0 : Int32} {a1 : Int32} {r : Int32} (h : f_X8_most a0 a1 = some r) : CT l yX8_most M_X8_most [.int a0, .int a1] S (some (.int r)) S := by
  rw [f_X8_most] at h
  refine ct_of (lv := [(0, .int a0), (1, .int a1)]) (by decide) rfl (Nat.le_of_ble_eq_true rfl) ?_
  refine z_iload_n 0 dX8_most_0 rfl ?_
  refine z_iload_n 1 dX8_most_1 rfl ?_
  refine z_icmp_le (tgt := 9) dX8_most_2 (by decide) (fun c1 => ?_) (fun c1 => ?_)
  · replace h := ip c1 h
    refine z_iload_n 1 dX8_most_9 rfl ?_
    obtain rfl := Option.some.inj h
    exact z_iret dX8_most_10 rfl rfl
  · replace h := ig c1 h
    refine z_iload_n 0 dX8_most_5 rfl ?_
    refine z_goto (tgt := 10) dX8_most_6 (by decide) ?_
    obtain rfl := Option.some.inj h
    exact z_iret dX8_most_10 rfl rfl
set_option maxHeartbeats 2000000 in
set_option maxRecDepth 20000 in
theorem t_X8_lays_L2 (l : Launch) {q0 : Nat} {q1 : Nat} (hq0 : kd q0 = 17) (hq1 : kd q1 = 17) : ∀ (n : Nat) (x2 : Int32) (S : St) (k21 : St → Option St) (r : St), f_X8_lays_L2 n q0 q1 x2 S k21 = some r → (∀ (T : St), k21 T = some r → Z l yX8_lays M_X8_lays 21 [] [] T none r) → Z l yX8_lays M_X8_lays 2 [(0, .ref q0), (1, .ref q1), (2, .int x2)] [] S none r := by
  intro n
  induction n with
  | zero =>
    intro x2 S k21 r h hk21
    exact absurd h (by rw [f_X8_lays_L2]; exact fun q => by cases q)
  | succ n ih =>
    intro x2 S k21 r h hk21
    rw [f_X8_lays_L2] at h
    refine z_iload_n 2 dX8_lays_2 rfl ?_
    refine z_sipush (v := 132) dX8_lays_3 rfl ?_
    refine z_icmp_ge (tgt := 21) dX8_lays_6 (by decide) (fun c1 => ?_) (fun c1 => ?_)
    · replace h := ip c1 h
      refine z_sub (lv' := []) [] rfl ?_
      exact hk21 _ h
    · replace h := ig c1 h
      refine z_aload_n 1 dX8_lays_9 rfl ?_
      refine z_iload_n 2 dX8_lays_10 rfl ?_
      refine z_aload_n 0 dX8_lays_11 rfl ?_
      refine z_iload_n 2 dX8_lays_12 rfl ?_
      obtain ⟨c2, h⟩ := oi h
      refine z_iald dX8_lays_13 hq0 (by decide) c2 ?_
      obtain ⟨c3, h⟩ := oi h
      refine z_iast dX8_lays_14 hq1 (by decide) c3 ?_
      refine z_iinc (lv' := [(0, .ref q0), (1, .ref q1), (2, .int (x2 + 1))]) (v := x2 + 1) 2 [1, 2, 0] dX8_lays_15 rfl rfl (Nat.le_of_ble_eq_true rfl) rfl ?_
      refine z_goto (tgt := 2) dX8_lays_18 (by decide) ?_
      refine z_sub (lv' := [(0, .ref q0), (1, .ref q1), (2, .int (x2 + 1))]) [0, 1, 2] rfl ?_
      exact ih _ _ _ _ h hk21
set_option maxHeartbeats 2000000 in
set_option maxRecDepth 20000 in
theorem t_X8_lays (l : Launch) {S : St} {q0 : Nat} (hq0 : kd q0 = 17) {q1 : Nat} (hq1 : kd q1 = 17)  {r : St} (h : f_X8_lays q0 q1 S = some r) : CT l yX8_lays M_X8_lays [.ref q0, .ref q1] S none r := by
  rw [f_X8_lays] at h
  refine ct_of (lv := [(0, .ref q0), (1, .ref q1)]) (by decide) rfl (Nat.le_of_ble_eq_true rfl) ?_
  refine z_iconst (v := 0) dX8_lays_0 rfl ?_
  refine z_istore_n (lv' := [(0, .ref q0), (1, .ref q1), (2, .int 0)]) [1, 2, 0] dX8_lays_1 (Nat.le_of_ble_eq_true rfl) rfl ?_
  refine z_sub (lv' := [(0, .ref q0), (1, .ref q1), (2, .int 0)]) [0, 1, 2] rfl ?_
  refine t_X8_lays_L2 l hq0 hq1 _ _ _ _ _ h ?_
  · intro S4 h
    obtain rfl := Option.some.inj h
    exact z_vret dX8_lays_21 rfl
set_option maxHeartbeats 2000000 in
set_option maxRecDepth 20000 in
theorem t_X8_no (l : Launch) {S : St}  {a1 : Int32} {r : (Int32 × St)} (h : f_X8_no a1 S = some r) : CT l yX8_no M_X8_no [.ref 74, .int a1] S (some (.int r.1)) r.2 := by
  rw [f_X8_no] at h
  refine ct_of (lv := [(0, .ref 74), (1, .int a1)]) (by decide) rfl (Nat.le_of_ble_eq_true rfl) ?_
  refine z_aload_n 0 dX8_no_0 rfl ?_
  refine z_get (v := .ref 81) dX8_no_1 fl_8_28 kdl_74 rfl ?_
  refine z_iload_n 1 dX8_no_4 rfl ?_
  refine z_ineg dX8_no_5 ?_
  refine z_dup2 dX8_no_6 rfl rfl ?_
  obtain ⟨c1, h⟩ := oi h
  refine z_iald dX8_no_7 kdl_81 (by decide) c1 ?_
  refine z_iconst (v := 1) dX8_no_8 rfl ?_
  refine z_iadd dX8_no_9 ?_
  obtain ⟨c2, h⟩ := oi h
  refine z_iast dX8_no_10 kdl_81 (by decide) c2 ?_
  refine z_iload_n 1 dX8_no_11 rfl ?_
  obtain rfl := Option.some.inj h
  exact z_iret dX8_no_12 rfl rfl
set_option maxHeartbeats 2000000 in
set_option maxRecDepth 20000 in
theorem t_X8_noFar (l : Launch) {S : St}  {a1 : Int32} {r : (Int32 × St)} (h : f_X8_noFar a1 S = some r) : CT l yX8_noFar M_X8_noFar [.ref 74, .int a1] S (some (.int r.1)) r.2 := by
  rw [f_X8_noFar] at h
  refine ct_of (lv := [(0, .ref 74), (1, .int a1)]) (by decide) rfl (Nat.le_of_ble_eq_true rfl) ?_
  refine z_ldc cst_8_40 dX8_noFar_0 ?_
  refine z_aload_n 0 dX8_noFar_2 rfl ?_
  refine z_iload_n 1 dX8_noFar_3 rfl ?_
  obtain ⟨z1, hz1, h⟩ := ob h
  refine z_callV (as := [.int a1]) dX8_noFar_4 ml_8_41 mv_X8_no (t_X8_no l hz1) kdl_74 ⟨by decide, rfl⟩ rfl rfl (Nat.le_of_ble_eq_true rfl) ⟨Nat.le_of_ble_eq_true rfl, Nat.le_of_ble_eq_true rfl⟩ rfl ?_
  refine z_isub dX8_noFar_7 ?_
  obtain rfl := Option.some.inj h
  exact z_iret dX8_noFar_8 rfl rfl
set_option maxHeartbeats 2000000 in
set_option maxRecDepth 20000 in
theorem t_X8_noWide (l : Launch) {S : St}  {a1 : Int32} {r : (Int64 × St)} (h : f_X8_noWide a1 S = some r) : CT l yX8_noWide M_X8_noWide [.ref 74, .int a1] S (some (.long r.1)) r.2 := by
  rw [f_X8_noWide] at h
  refine ct_of (lv := [(0, .ref 74), (1, .int a1)]) (by decide) rfl (Nat.le_of_ble_eq_true rfl) ?_
  refine z_ldc2 cst_8_45 dX8_noWide_0 ?_
  refine z_aload_n 0 dX8_noWide_3 rfl ?_
  refine z_iload_n 1 dX8_noWide_4 rfl ?_
  obtain ⟨z1, hz1, h⟩ := ob h
  refine z_callV (as := [.int a1]) dX8_noWide_5 ml_8_41 mv_X8_no (t_X8_no l hz1) kdl_74 ⟨by decide, rfl⟩ rfl rfl (Nat.le_of_ble_eq_true rfl) ⟨Nat.le_of_ble_eq_true rfl, Nat.le_of_ble_eq_true rfl⟩ rfl ?_
  refine z_i2l dX8_noWide_8 ?_
  refine z_lsub dX8_noWide_9 ?_
  obtain rfl := Option.some.inj h
  exact z_lret dX8_noWide_10 rfl
set_option maxHeartbeats 2000000 in
set_option maxRecDepth 20000 in
theorem t_X8_isThing (l : Launch) {S : St}  {a1 : Int32} {r : Int32} (h : f_X8_isThing a1 S = some r) : CT l yX8_isThing M_X8_isThing [.ref 74, .int a1] S (some (.int r)) S := by
  rw [f_X8_isThing] at h
  refine ct_of (lv := [(0, .ref 74), (1, .int a1)]) (by decide) rfl (Nat.le_of_ble_eq_true rfl) ?_
  refine z_iload_n 1 dX8_isThing_0 rfl ?_
  refine z_iconst (v := 0) dX8_isThing_1 rfl ?_
  refine z_aload_n 0 dX8_isThing_2 rfl ?_
  refine z_get (v := .ref 75) dX8_isThing_3 fl_8_9 kdl_74 rfl ?_
  refine z_iconst (v := 0) dX8_isThing_6 rfl ?_
  refine z_ialdK (j := 0) dX8_isThing_7 kdl_75 (by decide) (by decide) (by decide) ?_
  refine z_iconst (v := 1) dX8_isThing_8 rfl ?_
  refine z_isub dX8_isThing_9 ?_
  obtain ⟨v1, hv1, h⟩ := ob h
  refine z_callS (as := [.int a1, .int 0, .int ((S.1 75 0) - 1)]) dX8_isThing_10 ml_8_47 ms_X8_isIn (t_X8_isIn l _ hv1) rfl rfl (Nat.le_of_ble_eq_true rfl) ⟨Nat.le_of_ble_eq_true rfl, Nat.le_of_ble_eq_true rfl⟩ rfl ?_
  obtain rfl := Option.some.inj h
  exact z_iret dX8_isThing_13 rfl (znb (b_X8_isIn hv1))
set_option maxHeartbeats 2000000 in
set_option maxRecDepth 20000 in
theorem t_X8_isYear (l : Launch) (S : St)  {a0 : Int32} {r : Int32} (h : f_X8_isYear a0 = some r) : CT l yX8_isYear M_X8_isYear [.int a0] S (some (.int r)) S := by
  rw [f_X8_isYear] at h
  refine ct_of (lv := [(0, .int a0)]) (by decide) rfl (Nat.le_of_ble_eq_true rfl) ?_
  refine z_iload_n 0 dX8_isYear_0 rfl ?_
  refine z_iconst (v := 0) dX8_isYear_1 rfl ?_
  refine z_bipush (v := 11) dX8_isYear_2 rfl ?_
  obtain ⟨v1, hv1, h⟩ := ob h
  refine z_callS (as := [.int a0, .int 0, .int 11]) dX8_isYear_4 ml_8_47 ms_X8_isIn (t_X8_isIn l _ hv1) rfl rfl (Nat.le_of_ble_eq_true rfl) ⟨Nat.le_of_ble_eq_true rfl, Nat.le_of_ble_eq_true rfl⟩ rfl ?_
  obtain rfl := Option.some.inj h
  exact z_iret dX8_isYear_7 rfl (znb (b_X8_isIn hv1))
set_option maxHeartbeats 2000000 in
set_option maxRecDepth 20000 in
theorem t_X8_at (l : Launch) (S : St)  {a0 : Int32} {a1 : Int32} {r : Int32} (h : f_X8_at a0 a1 = some r) : CT l yX8_at M_X8_at [.int a0, .int a1] S (some (.int r)) S := by
  rw [f_X8_at] at h
  refine ct_of (lv := [(0, .int a0), (1, .int a1)]) (by decide) rfl (Nat.le_of_ble_eq_true rfl) ?_
  refine z_bipush (v := 28) dX8_at_0 rfl ?_
  refine z_bipush (v := 12) dX8_at_2 rfl ?_
  refine z_iload_n 0 dX8_at_4 rfl ?_
  refine z_imul dX8_at_5 ?_
  refine z_iadd dX8_at_6 ?_
  refine z_iload_n 1 dX8_at_7 rfl ?_
  refine z_iadd dX8_at_8 ?_
  obtain rfl := Option.some.inj h
  exact z_iret dX8_at_9 rfl rfl
set_option maxHeartbeats 2000000 in
set_option maxRecDepth 20000 in
theorem t_X8_bits_L4 (l : Launch)   (S : St) : ∀ (n : Nat) (x0 : Int32) (x1 : Int32) (x2 : Int32) (k24 : Int32 → Option Int32) (r : Int32), f_X8_bits_L4 n x0 x1 x2 k24 = some r → (∀ (e1 : Int32), k24 e1 = some r → Z l yX8_bits M_X8_bits 24 [(1, .int e1)] [] S (some (.int r)) S) → Z l yX8_bits M_X8_bits 4 [(0, .int x0), (1, .int x1), (2, .int x2)] [] S (some (.int r)) S := by
  intro n
  induction n with
  | zero =>
    intro x0 x1 x2 k24 r h hk24
    exact absurd h (by rw [f_X8_bits_L4]; exact fun q => by cases q)
  | succ n ih =>
    intro x0 x1 x2 k24 r h hk24
    rw [f_X8_bits_L4] at h
    refine z_iload_n 2 dX8_bits_4 rfl ?_
    refine z_bipush (v := 12) dX8_bits_5 rfl ?_
    refine z_icmp_ge (tgt := 24) dX8_bits_7 (by decide) (fun c1 => ?_) (fun c1 => ?_)
    · replace h := ip c1 h
      refine z_sub (lv' := [(1, .int x1)]) [1] rfl ?_
      exact hk24 _ h
    · replace h := ig c1 h
      refine z_iload_n 1 dX8_bits_10 rfl ?_
      refine z_iload_n 0 dX8_bits_11 rfl ?_
      refine z_iload_n 2 dX8_bits_12 rfl ?_
      refine z_ishr dX8_bits_13 ?_
      refine z_iconst (v := 1) dX8_bits_14 rfl ?_
      refine z_iand dX8_bits_15 ?_
      refine z_iadd dX8_bits_16 ?_
      refine z_istore_n (lv' := [(0, .int x0), (1, .int (x1 + ((x0 >>> (x2 &&& 31)) &&& 1))), (2, .int x2)]) [1, 0, 2] dX8_bits_17 (Nat.le_of_ble_eq_true rfl) rfl ?_
      refine z_iinc (lv' := [(0, .int x0), (1, .int (x1 + ((x0 >>> (x2 &&& 31)) &&& 1))), (2, .int (x2 + 1))]) (v := x2 + 1) 2 [1, 2, 0] dX8_bits_18 rfl rfl (Nat.le_of_ble_eq_true rfl) rfl ?_
      refine z_goto (tgt := 4) dX8_bits_21 (by decide) ?_
      refine z_sub (lv' := [(0, .int x0), (1, .int (x1 + ((x0 >>> (x2 &&& 31)) &&& 1))), (2, .int (x2 + 1))]) [0, 1, 2] rfl ?_
      exact ih _ _ _ _ _ h hk24
set_option maxHeartbeats 2000000 in
set_option maxRecDepth 20000 in
theorem t_X8_bits (l : Launch) (S : St)  {a0 : Int32} {r : Int32} (h : f_X8_bits a0 = some r) : CT l yX8_bits M_X8_bits [.int a0] S (some (.int r)) S := by
  rw [f_X8_bits] at h
  refine ct_of (lv := [(0, .int a0)]) (by decide) rfl (Nat.le_of_ble_eq_true rfl) ?_
  refine z_iconst (v := 0) dX8_bits_0 rfl ?_
  refine z_istore_n (lv' := [(0, .int a0), (1, .int 0)]) [1, 0] dX8_bits_1 (Nat.le_of_ble_eq_true rfl) rfl ?_
  refine z_iconst (v := 0) dX8_bits_2 rfl ?_
  refine z_istore_n (lv' := [(0, .int a0), (1, .int 0), (2, .int 0)]) [1, 2, 0] dX8_bits_3 (Nat.le_of_ble_eq_true rfl) rfl ?_
  refine z_sub (lv' := [(0, .int a0), (1, .int 0), (2, .int 0)]) [0, 1, 2] rfl ?_
  refine t_X8_bits_L4 l _ _ _ _ _ _ _ h ?_
  · intro y2 h
    refine z_iload_n 0 dX8_bits_24 rfl ?_
    obtain rfl := Option.some.inj h
    exact z_iret dX8_bits_25 rfl rfl
set_option maxHeartbeats 2000000 in
set_option maxRecDepth 20000 in
theorem t_X8_cost (l : Launch) {S : St} {q0 : Nat} (hq0 : kd q0 = 17) {a1 : Int32} {r : Int32} (h : f_X8_cost q0 a1 S = some r) : CT l yX8_cost M_X8_cost [.ref q0, .int a1] S (some (.int r)) S := by
  rw [f_X8_cost] at h
  refine ct_of (lv := [(0, .ref q0), (1, .int a1)]) (by decide) rfl (Nat.le_of_ble_eq_true rfl) ?_
  refine z_aload_n 0 dX8_cost_0 rfl ?_
  refine z_iconst (v := 4) dX8_cost_1 rfl ?_
  refine z_iload_n 1 dX8_cost_2 rfl ?_
  refine z_iadd dX8_cost_3 ?_
  obtain ⟨c1, h⟩ := oi h
  refine z_iald dX8_cost_4 hq0 (by decide) c1 ?_
  refine z_iconst (v := 4) dX8_cost_5 rfl ?_
  refine z_icmp_ne (tgt := 20) dX8_cost_6 (by decide) (fun c2 => ?_) (fun c2 => ?_)
  · replace h := ig c2 h
    refine z_iconst (v := 1) dX8_cost_20 rfl ?_
    obtain rfl := Option.some.inj h
    exact z_iret dX8_cost_21 rfl rfl
  · replace h := ip c2 h
    refine z_iconst (v := 1) dX8_cost_9 rfl ?_
    refine z_aload_n 0 dX8_cost_10 rfl ?_
    refine z_bipush (v := 12) dX8_cost_11 rfl ?_
    refine z_iload_n 1 dX8_cost_13 rfl ?_
    refine z_iadd dX8_cost_14 ?_
    obtain ⟨c3, h⟩ := oi h
    refine z_iald dX8_cost_15 hq0 (by decide) c3 ?_
    refine z_iadd dX8_cost_16 ?_
    refine z_goto (tgt := 21) dX8_cost_17 (by decide) ?_
    obtain rfl := Option.some.inj h
    exact z_iret dX8_cost_21 rfl rfl
