set_option maxHeartbeats 2000000 in
set_option maxRecDepth 20000 in
theorem t_X3_at (l : Launch) {S : St} {q0 : Nat} (hq0 : kd q0 = 3) {a1 : Int32} {r : Nat} (h : f_X3_at q0 a1 S = some r) : CT l yX3_at M_X3_at [.ref q0, .int a1] S (some (.ref r)) S := by
  rw [f_X3_at] at h
  refine ct_of (lv := [(0, .ref q0), (1, .int a1)]) (by decide) rfl (Nat.le_of_ble_eq_true rfl) ?_
  refine z_aload_n 0 dX3_at_0 rfl ?_
  refine z_get (v := .ref (q0 + 1)) dX3_at_1 fl_3_20 hq0 rfl ?_
  refine z_iload_n 1 dX3_at_4 rfl ?_
  refine z_bipush (v := 7) dX3_at_5 rfl ?_
  refine z_iand dX3_at_7 ?_
  obtain ⟨c1, h⟩ := oi h
  refine z_aald dX3_at_8 (kd_sh1 hq0) c1 ?_
  obtain rfl := Option.some.inj h
  exact z_aret dX3_at_9 rfl
set_option maxHeartbeats 2000000 in
set_option maxRecDepth 20000 in
theorem t_X6_isSet (l : Launch) {S : St} {q0 : Nat} (hq0 : kd q0 = 6)  {r : Int32} (h : f_X6_isSet q0 S = some r) : CT l yX6_isSet M_X6_isSet [.ref q0] S (some (.int r)) S := by
  rw [f_X6_isSet] at h
  refine ct_of (lv := [(0, .ref q0)]) (by decide) rfl (Nat.le_of_ble_eq_true rfl) ?_
  refine z_aload_n 0 dX6_isSet_0 rfl ?_
  refine z_get (v := .int (S.1 q0 2)) dX6_isSet_1 fl_6_9 hq0 rfl ?_
  refine z_bipush (v := (-9)) dX6_isSet_4 rfl ?_
  refine z_icmp_eq (tgt := 13) dX6_isSet_6 (by decide) (fun c1 => ?_) (fun c1 => ?_)
  · replace h := ip c1 h
    refine z_iconst (v := 0) dX6_isSet_13 rfl ?_
    obtain rfl := Option.some.inj h
    exact z_iret dX6_isSet_14 rfl rfl
  · replace h := ig c1 h
    refine z_iconst (v := 1) dX6_isSet_9 rfl ?_
    refine z_goto (tgt := 14) dX6_isSet_10 (by decide) ?_
    obtain rfl := Option.some.inj h
    exact z_iret dX6_isSet_14 rfl rfl
set_option maxHeartbeats 2000000 in
set_option maxRecDepth 20000 in
theorem t_X6_gladIn (l : Launch) {S : St} {q0 : Nat} (hq0 : kd q0 = 6) {a1 : Int32} {r : Int32} (h : f_X6_gladIn q0 a1 S = some r) : CT l yX6_gladIn M_X6_gladIn [.ref q0, .int a1] S (some (.int r)) S := by
  rw [f_X6_gladIn] at h
  refine ct_of (lv := [(0, .ref q0), (1, .int a1)]) (by decide) rfl (Nat.le_of_ble_eq_true rfl) ?_
  refine z_iload_n 1 dX6_gladIn_0 rfl ?_
  refine z_if_lt (tgt := 10) dX6_gladIn_1 (by decide) (fun c1 => ?_) (fun c1 => ?_)
  · replace h := ip c1 h
    refine z_iconst (v := 0) dX6_gladIn_10 rfl ?_
    refine z_goto (tgt := 20) dX6_gladIn_11 (by decide) ?_
    obtain rfl := Option.some.inj h
    exact z_iret dX6_gladIn_20 rfl rfl
  · replace h := ig c1 h
    refine z_iload_n 1 dX6_gladIn_4 rfl ?_
    refine z_bipush (v := 12) dX6_gladIn_5 rfl ?_
    refine z_icmp_lt (tgt := 14) dX6_gladIn_7 (by decide) (fun c2 => ?_) (fun c2 => ?_)
    · replace h := ip c2 h
      refine z_aload_n 0 dX6_gladIn_14 rfl ?_
      refine z_get (v := .ref (q0 + 1)) dX6_gladIn_15 fl_6_15 hq0 rfl ?_
      refine z_iload_n 1 dX6_gladIn_18 rfl ?_
      obtain ⟨c3, h⟩ := oi h
      refine z_iald dX6_gladIn_19 (kd_th hq0) (by decide) c3 ?_
      obtain rfl := Option.some.inj h
      exact z_iret dX6_gladIn_20 rfl rfl
    · replace h := ig c2 h
      refine z_iconst (v := 0) dX6_gladIn_10 rfl ?_
      refine z_goto (tgt := 20) dX6_gladIn_11 (by decide) ?_
      obtain rfl := Option.some.inj h
      exact z_iret dX6_gladIn_20 rfl rfl
set_option maxHeartbeats 2000000 in
set_option maxRecDepth 20000 in
theorem t_X6_gladdestYear_L6 (l : Launch) {q0 : Nat} (hq0 : kd q0 = 6) : ∀ (n : Nat) (x2 : Int32) (x3 : Int32) (S : St) (k31 : Int32 → Option Int32) (r : Int32), f_X6_gladdestYear_L6 n q0 x2 x3 S k31 = some r → (∀ (e2 : Int32), k31 e2 = some r → Z l yX6_gladdestYear M_X6_gladdestYear 31 [(2, .int e2)] [] S (some (.int r)) S) → Z l yX6_gladdestYear M_X6_gladdestYear 6 [(0, .ref q0), (2, .int x2), (3, .int x3)] [] S (some (.int r)) S := by
  intro n
  induction n with
  | zero =>
    intro x2 x3 S k31 r h hk31
    exact absurd h (by rw [f_X6_gladdestYear_L6]; exact fun q => by cases q)
  | succ n ih =>
    intro x2 x3 S k31 r h hk31
    rw [f_X6_gladdestYear_L6] at h
    refine z_iload_n 2 dX6_gladdestYear_6 rfl ?_
    refine z_if_lt (tgt := 31) dX6_gladdestYear_7 (by decide) (fun c1 => ?_) (fun c1 => ?_)
    · replace h := ip c1 h
      refine z_sub (lv' := [(2, .int x2)]) [1] rfl ?_
      exact hk31 _ h
    · replace h := ig c1 h
      refine z_aload_n 0 dX6_gladdestYear_10 rfl ?_
      refine z_iload_n 2 dX6_gladdestYear_11 rfl ?_
      obtain ⟨v2, hv2, h⟩ := ob h
      refine z_callV (as := [.int x3]) dX6_gladdestYear_12 ml_6_35 mv_X6_gladIn (t_X6_gladIn l hq0 hv2) hq0 ⟨by decide, rfl⟩ rfl rfl (Nat.le_of_ble_eq_true rfl) ⟨Nat.le_of_ble_eq_true rfl, Nat.le_of_ble_eq_true rfl⟩ rfl ?_
      refine z_aload_n 0 dX6_gladdestYear_15 rfl ?_
      refine z_iload_n 1 dX6_gladdestYear_16 rfl ?_
      obtain ⟨v3, hv3, h⟩ := ob h
      refine z_callV (as := [.int x2]) dX6_gladdestYear_17 ml_6_35 mv_X6_gladIn (t_X6_gladIn l hq0 hv3) hq0 ⟨by decide, rfl⟩ rfl rfl (Nat.le_of_ble_eq_true rfl) ⟨Nat.le_of_ble_eq_true rfl, Nat.le_of_ble_eq_true rfl⟩ rfl ?_
      refine z_icmp_le (tgt := 25) dX6_gladdestYear_20 (by decide) (fun c4 => ?_) (fun c4 => ?_)
      · replace h := ip c4 h
        refine z_iinc (lv' := [(0, .ref q0), (2, .int x2), (3, .int (x3 + (-1)))]) (v := x3 + (-1)) 2 [1, 2, 0] dX6_gladdestYear_25 rfl rfl (Nat.le_of_ble_eq_true rfl) rfl ?_
        refine z_goto (tgt := 6) dX6_gladdestYear_28 (by decide) ?_
        refine z_sub (lv' := [(0, .ref q0), (2, .int x2), (3, .int (x3 + (-1)))]) [0, 1, 2] rfl ?_
        exact ih _ _ _ _ _ h hk31
      · replace h := ig c4 h
        refine z_iload_n 2 dX6_gladdestYear_23 rfl ?_
        refine z_istore_n (lv' := [(0, .ref q0), (2, .int x3), (3, .int x3)]) [1, 0, 2] dX6_gladdestYear_24 (Nat.le_of_ble_eq_true rfl) rfl ?_
        refine z_iinc (lv' := [(0, .ref q0), (2, .int x3), (3, .int (x3 + (-1)))]) (v := x3 + (-1)) 2 [1, 2, 0] dX6_gladdestYear_25 rfl rfl (Nat.le_of_ble_eq_true rfl) rfl ?_
        refine z_goto (tgt := 6) dX6_gladdestYear_28 (by decide) ?_
        refine z_sub (lv' := [(0, .ref q0), (2, .int x3), (3, .int (x3 + (-1)))]) [0, 1, 2] rfl ?_
        exact ih _ _ _ _ _ h hk31
set_option maxHeartbeats 2000000 in
set_option maxRecDepth 20000 in
theorem t_X6_gladdestYear (l : Launch) {S : St} {q0 : Nat} (hq0 : kd q0 = 6) {a1 : Int32} {r : Int32} (h : f_X6_gladdestYear q0 a1 S = some r) : CT l yX6_gladdestYear M_X6_gladdestYear [.ref q0, .int a1] S (some (.int r)) S := by
  rw [f_X6_gladdestYear] at h
  refine ct_of (lv := [(0, .ref q0), (1, .int a1)]) (by decide) rfl (Nat.le_of_ble_eq_true rfl) ?_
  refine z_iload_n 1 dX6_gladdestYear_0 rfl ?_
  refine z_istore_n (lv' := [(0, .ref q0), (1, .int a1), (2, .int a1)]) [1, 2, 0] dX6_gladdestYear_1 (Nat.le_of_ble_eq_true rfl) rfl ?_
  refine z_iload_n 1 dX6_gladdestYear_2 rfl ?_
  refine z_iconst (v := 1) dX6_gladdestYear_3 rfl ?_
  refine z_isub dX6_gladdestYear_4 ?_
  refine z_istore_n (lv' := [(0, .ref q0), (1, .int a1), (2, .int a1), (3, .int (a1 - 1))]) [1, 2, 3, 0] dX6_gladdestYear_5 (Nat.le_of_ble_eq_true rfl) rfl ?_
  refine z_sub (lv' := [(0, .ref q0), (2, .int a1), (3, .int (a1 - 1))]) [0, 2, 3] rfl ?_
  refine t_X6_gladdestYear_L6 l hq0 _ _ _ _ _ _ h ?_
  · intro y5 h
    refine z_iload_n 0 dX6_gladdestYear_31 rfl ?_
    obtain rfl := Option.some.inj h
    exact z_iret dX6_gladdestYear_32 rfl rfl
set_option maxHeartbeats 2000000 in
set_option maxRecDepth 20000 in
theorem t_X6_reach (l : Launch) {S : St} {q0 : Nat} (hq0 : kd q0 = 6) {a1 : Int32} {a2 : Int32} {r : Int32} (h : f_X6_reach q0 a1 a2 S = some r) : CT l yX6_reach M_X6_reach [.ref q0, .int a1, .int a2] S (some (.int r)) S := by
  rw [f_X6_reach] at h
  refine ct_of (lv := [(0, .ref q0), (1, .int a1), (2, .int a2)]) (by decide) rfl (Nat.le_of_ble_eq_true rfl) ?_
  refine z_iconst (v := 0) dX6_reach_0 rfl ?_
  refine z_iload_n 1 dX6_reach_1 rfl ?_
  refine z_iconst (v := 5) dX6_reach_2 rfl ?_
  refine z_idiv dX6_reach_3 (by decide) ?_
  refine z_iload_n 2 dX6_reach_4 rfl ?_
  refine z_isub dX6_reach_5 ?_
  refine z_max dX6_reach_6 mx_6_42 (Nat.le_of_ble_eq_true rfl) (Nat.le_of_ble_eq_true rfl) ?_
  refine z_istore_n (lv' := [(0, .ref q0), (1, .int a1), (2, .int a2), (3, .int (if 0 < ((a1 / 5) - a2) then (a1 / 5) - a2 else 0))]) [1, 2, 3, 0] dX6_reach_9 (Nat.le_of_ble_eq_true rfl) rfl ?_
  refine z_aload_n 0 dX6_reach_10 rfl ?_
  refine z_get (v := .int (S.1 q0 0)) dX6_reach_11 fl_6_19 hq0 rfl ?_
  refine z_iconst (v := 2) dX6_reach_14 rfl ?_
  refine z_icmp_eq (tgt := 26) dX6_reach_15 (by decide) (fun c1 => ?_) (fun c1 => ?_)
  · replace h := ip c1 h
    refine z_iload_n 3 dX6_reach_26 rfl ?_
    refine z_aload_n 0 dX6_reach_27 rfl ?_
    refine z_get (v := .int (S.1 q0 1)) dX6_reach_28 fl_6_22 hq0 rfl ?_
    refine z_iadd dX6_reach_31 ?_
    obtain rfl := Option.some.inj h
    exact z_iret dX6_reach_32 rfl rfl
  · replace h := ig c1 h
    refine z_aload_n 0 dX6_reach_18 rfl ?_
    refine z_get (v := .int (S.1 q0 0)) dX6_reach_19 fl_6_19 hq0 rfl ?_
    refine z_iconst (v := 5) dX6_reach_22 rfl ?_
    refine z_icmp_ne (tgt := 33) dX6_reach_23 (by decide) (fun c2 => ?_) (fun c2 => ?_)
    · replace h := ig c2 h
      refine z_aload_n 0 dX6_reach_33 rfl ?_
      refine z_get (v := .int (S.1 q0 0)) dX6_reach_34 fl_6_19 hq0 rfl ?_
      refine z_iconst (v := 4) dX6_reach_37 rfl ?_
      refine z_icmp_ne (tgt := 47) dX6_reach_38 (by decide) (fun c3 => ?_) (fun c3 => ?_)
      · replace h := ig c3 h
        refine z_iload_n 3 dX6_reach_47 rfl ?_
        obtain rfl := Option.some.inj h
        exact z_iret dX6_reach_48 rfl rfl
      · replace h := ip c3 h
        refine z_iload_n 3 dX6_reach_41 rfl ?_
        refine z_iconst (v := 2) dX6_reach_42 rfl ?_
        refine z_idiv dX6_reach_43 (by decide) ?_
        refine z_goto (tgt := 48) dX6_reach_44 (by decide) ?_
        obtain rfl := Option.some.inj h
        exact z_iret dX6_reach_48 rfl rfl
    · replace h := ip c2 h
      refine z_iload_n 3 dX6_reach_26 rfl ?_
      refine z_aload_n 0 dX6_reach_27 rfl ?_
      refine z_get (v := .int (S.1 q0 1)) dX6_reach_28 fl_6_22 hq0 rfl ?_
      refine z_iadd dX6_reach_31 ?_
      obtain rfl := Option.some.inj h
      exact z_iret dX6_reach_32 rfl rfl
set_option maxHeartbeats 2000000 in
set_option maxRecDepth 20000 in
theorem t_X6_counts (l : Launch) {S : St} {q0 : Nat} (hq0 : kd q0 = 6) {a1 : Int32} {a2 : Int32} {r : Int32} (h : f_X6_counts q0 a1 a2 S = some r) : CT l yX6_counts M_X6_counts [.ref q0, .int a1, .int a2] S (some (.int r)) S := by
  rw [f_X6_counts] at h
  refine ct_of (lv := [(0, .ref q0), (1, .int a1), (2, .int a2)]) (by decide) rfl (Nat.le_of_ble_eq_true rfl) ?_
  refine z_aload_n 0 dX6_counts_0 rfl ?_
  refine z_get (v := .int (S.1 q0 0)) dX6_counts_1 fl_6_19 hq0 rfl ?_
  refine z_iconst (v := 5) dX6_counts_4 rfl ?_
  refine z_icmp_ne (tgt := 15) dX6_counts_5 (by decide) (fun c1 => ?_) (fun c1 => ?_)
  · replace h := ig c1 h
    refine z_aload_n 0 dX6_counts_15 rfl ?_
    refine z_get (v := .int (S.1 q0 0)) dX6_counts_16 fl_6_19 hq0 rfl ?_
    refine z_iconst (v := 3) dX6_counts_19 rfl ?_
    refine z_icmp_ne (tgt := 40) dX6_counts_20 (by decide) (fun c2 => ?_) (fun c2 => ?_)
    · replace h := ig c2 h
      refine z_aload_n 0 dX6_counts_40 rfl ?_
      refine z_iload_n 1 dX6_counts_41 rfl ?_
      obtain ⟨v3, hv3, h⟩ := ob h
      refine z_callV (as := [.int a1]) dX6_counts_42 ml_6_35 mv_X6_gladIn (t_X6_gladIn l hq0 hv3) hq0 ⟨by decide, rfl⟩ rfl rfl (Nat.le_of_ble_eq_true rfl) ⟨Nat.le_of_ble_eq_true rfl, Nat.le_of_ble_eq_true rfl⟩ rfl ?_
      obtain rfl := Option.some.inj h
      exact z_iret dX6_counts_45 rfl rfl
    · replace h := ip c2 h
      refine z_aload_n 0 dX6_counts_23 rfl ?_
      refine z_iload_n 1 dX6_counts_24 rfl ?_
      obtain ⟨v4, hv4, h⟩ := ob h
      refine z_callV (as := [.int a1]) dX6_counts_25 ml_6_35 mv_X6_gladIn (t_X6_gladIn l hq0 hv4) hq0 ⟨by decide, rfl⟩ rfl rfl (Nat.le_of_ble_eq_true rfl) ⟨Nat.le_of_ble_eq_true rfl, Nat.le_of_ble_eq_true rfl⟩ rfl ?_
      refine z_aload_n 0 dX6_counts_28 rfl ?_
      refine z_get (v := .int (S.1 q0 1)) dX6_counts_29 fl_6_22 hq0 rfl ?_
      refine z_iload_n 2 dX6_counts_32 rfl ?_
      refine z_iload_n 1 dX6_counts_33 rfl ?_
      refine z_isub dX6_counts_34 ?_
      refine z_imul dX6_counts_35 ?_
      refine z_isub dX6_counts_36 ?_
      refine z_goto (tgt := 45) dX6_counts_37 (by decide) ?_
      obtain rfl := Option.some.inj h
      exact z_iret dX6_counts_45 rfl rfl
  · replace h := ip c1 h
    refine z_aload_n 0 dX6_counts_8 rfl ?_
    refine z_iload_n 1 dX6_counts_9 rfl ?_
    obtain ⟨v5, hv5, h⟩ := ob h
    refine z_callV (as := [.int a1]) dX6_counts_10 ml_6_35 mv_X6_gladIn (t_X6_gladIn l hq0 hv5) hq0 ⟨by decide, rfl⟩ rfl rfl (Nat.le_of_ble_eq_true rfl) ⟨Nat.le_of_ble_eq_true rfl, Nat.le_of_ble_eq_true rfl⟩ rfl ?_
    refine z_ineg dX6_counts_13 ?_
    obtain rfl := Option.some.inj h
    exact z_iret dX6_counts_14 rfl rfl
set_option maxHeartbeats 2000000 in
set_option maxRecDepth 20000 in
theorem t_X6_yearBy_L53 (l : Launch) {q0 : Nat} (hq0 : kd q0 = 6) : ∀ (n : Nat) (x3 : Int32) (x4 : Int32) (x5 : Int32) (x6 : Int32) (x7 : Int32) (x8 : Int32) (S : St) (k102 : Int32 → Option Int32) (r : Int32), f_X6_yearBy_L53 n q0 x3 x4 x5 x6 x7 x8 S k102 = some r → (∀ (e6 : Int32), k102 e6 = some r → Z l yX6_yearBy M_X6_yearBy 102 [(6, .int e6)] [] S (some (.int r)) S) → Z l yX6_yearBy M_X6_yearBy 53 [(0, .ref q0), (3, .int x3), (4, .int x4), (5, .int x5), (6, .int x6), (7, .int x7), (8, .int x8)] [] S (some (.int r)) S := by
  intro n
  induction n with
  | zero =>
    intro x3 x4 x5 x6 x7 x8 S k102 r h hk102
    exact absurd h (by rw [f_X6_yearBy_L53]; exact fun q => by cases q)
  | succ n ih =>
    intro x3 x4 x5 x6 x7 x8 S k102 r h hk102
    rw [f_X6_yearBy_L53] at h
    refine z_iload 6 dX6_yearBy_53 rfl ?_
    refine z_iload 3 dX6_yearBy_55 rfl ?_
    refine z_icmp_lt (tgt := 102) dX6_yearBy_57 (by decide) (fun c4 => ?_) (fun c4 => ?_)
    · replace h := ip c4 h
      refine z_sub (lv' := [(6, .int x6)]) [4] rfl ?_
      exact hk102 _ h
    · replace h := ig c4 h
      refine z_aload_n 0 dX6_yearBy_60 rfl ?_
      refine z_iload 6 dX6_yearBy_61 rfl ?_
      refine z_iload_n 1 dX6_yearBy_63 rfl ?_
      obtain ⟨v5, hv5, h⟩ := ob h
      refine z_callV (as := [.int x8, .int x3]) dX6_yearBy_64 ml_6_51 mv_X6_counts (t_X6_counts l hq0 hv5) hq0 ⟨by decide, rfl⟩ rfl rfl (Nat.le_of_ble_eq_true rfl) ⟨Nat.le_of_ble_eq_true rfl, Nat.le_of_ble_eq_true rfl⟩ rfl ?_
      refine z_istore (lv' := [(0, .ref q0), (3, .int x3), (4, .int x4), (5, .int x5), (6, .int x6), (7, .int x7), (8, .int x8), (9, .int v5)]) [1, 2, 3, 4, 5, 6, 7, 0] dX6_yearBy_67 (Nat.le_of_ble_eq_true rfl) rfl ?_
      refine z_iload 7 dX6_yearBy_69 rfl ?_
      refine z_iload 5 dX6_yearBy_71 rfl ?_
      refine z_icmp_gt (tgt := 88) dX6_yearBy_73 (by decide) (fun c6 => ?_) (fun c6 => ?_)
      · replace h := ip c6 h
        refine z_iload 6 dX6_yearBy_88 rfl ?_
        refine z_istore (lv' := [(0, .ref q0), (3, .int x3), (4, .int x4), (5, .int x5), (6, .int x8), (7, .int x7), (8, .int x8), (9, .int v5)]) [1, 2, 3, 4, 0, 5, 6, 7] dX6_yearBy_90 (Nat.le_of_ble_eq_true rfl) rfl ?_
        refine z_iload 7 dX6_yearBy_92 rfl ?_
        refine z_istore (lv' := [(0, .ref q0), (3, .int x3), (4, .int x4), (5, .int x5), (6, .int x8), (7, .int v5), (8, .int x8), (9, .int v5)]) [1, 2, 3, 4, 5, 0, 6, 7] dX6_yearBy_94 (Nat.le_of_ble_eq_true rfl) rfl ?_
        refine z_iinc (lv' := [(0, .ref q0), (3, .int x3), (4, .int x4), (5, .int x5), (6, .int x8), (7, .int v5), (8, .int (x8 + (-1))), (9, .int v5)]) (v := x8 + (-1)) 6 [1, 2, 3, 4, 5, 6, 0, 7] dX6_yearBy_96 rfl rfl (Nat.le_of_ble_eq_true rfl) rfl ?_
        refine z_goto (tgt := 53) dX6_yearBy_99 (by decide) ?_
        refine z_sub (lv' := [(0, .ref q0), (3, .int x3), (4, .int x4), (5, .int x5), (6, .int x8), (7, .int v5), (8, .int (x8 + (-1)))]) [0, 1, 2, 3, 4, 5, 6] rfl ?_
        exact ih _ _ _ _ _ _ _ _ _ h hk102
      · replace h := ig c6 h
        refine z_iload 2 dX6_yearBy_76 rfl ?_
        refine z_if_eq (tgt := 96) dX6_yearBy_78 (by decide) (fun c7 => ?_) (fun c7 => ?_)
        · replace h := ip c7 h
          refine z_iinc (lv' := [(0, .ref q0), (3, .int x3), (4, .int x4), (5, .int x5), (6, .int x6), (7, .int x7), (8, .int (x8 + (-1))), (9, .int v5)]) (v := x8 + (-1)) 6 [1, 2, 3, 4, 5, 6, 0, 7] dX6_yearBy_96 rfl rfl (Nat.le_of_ble_eq_true rfl) rfl ?_
          refine z_goto (tgt := 53) dX6_yearBy_99 (by decide) ?_
          refine z_sub (lv' := [(0, .ref q0), (3, .int x3), (4, .int x4), (5, .int x5), (6, .int x6), (7, .int x7), (8, .int (x8 + (-1)))]) [0, 1, 2, 3, 4, 5, 6] rfl ?_
          exact ih _ _ _ _ _ _ _ _ _ h hk102
        · replace h := ig c7 h
          refine z_iload 7 dX6_yearBy_81 rfl ?_
          refine z_iload 5 dX6_yearBy_83 rfl ?_
          refine z_icmp_ne (tgt := 96) dX6_yearBy_85 (by decide) (fun c8 => ?_) (fun c8 => ?_)
          · replace h := ig c8 h
            refine z_iinc (lv' := [(0, .ref q0), (3, .int x3), (4, .int x4), (5, .int x5), (6, .int x6), (7, .int x7), (8, .int (x8 + (-1))), (9, .int v5)]) (v := x8 + (-1)) 6 [1, 2, 3, 4, 5, 6, 0, 7] dX6_yearBy_96 rfl rfl (Nat.le_of_ble_eq_true rfl) rfl ?_
            refine z_goto (tgt := 53) dX6_yearBy_99 (by decide) ?_
            refine z_sub (lv' := [(0, .ref q0), (3, .int x3), (4, .int x4), (5, .int x5), (6, .int x6), (7, .int x7), (8, .int (x8 + (-1)))]) [0, 1, 2, 3, 4, 5, 6] rfl ?_
            exact ih _ _ _ _ _ _ _ _ _ h hk102
          · replace h := ip c8 h
            refine z_iload 6 dX6_yearBy_88 rfl ?_
            refine z_istore (lv' := [(0, .ref q0), (3, .int x3), (4, .int x4), (5, .int x5), (6, .int x8), (7, .int x7), (8, .int x8), (9, .int v5)]) [1, 2, 3, 4, 0, 5, 6, 7] dX6_yearBy_90 (Nat.le_of_ble_eq_true rfl) rfl ?_
            refine z_iload 7 dX6_yearBy_92 rfl ?_
            refine z_istore (lv' := [(0, .ref q0), (3, .int x3), (4, .int x4), (5, .int x5), (6, .int x8), (7, .int v5), (8, .int x8), (9, .int v5)]) [1, 2, 3, 4, 5, 0, 6, 7] dX6_yearBy_94 (Nat.le_of_ble_eq_true rfl) rfl ?_
            refine z_iinc (lv' := [(0, .ref q0), (3, .int x3), (4, .int x4), (5, .int x5), (6, .int x8), (7, .int v5), (8, .int (x8 + (-1))), (9, .int v5)]) (v := x8 + (-1)) 6 [1, 2, 3, 4, 5, 6, 0, 7] dX6_yearBy_96 rfl rfl (Nat.le_of_ble_eq_true rfl) rfl ?_
            refine z_goto (tgt := 53) dX6_yearBy_99 (by decide) ?_
            refine z_sub (lv' := [(0, .ref q0), (3, .int x3), (4, .int x4), (5, .int x5), (6, .int x8), (7, .int v5), (8, .int (x8 + (-1)))]) [0, 1, 2, 3, 4, 5, 6] rfl ?_
            exact ih _ _ _ _ _ _ _ _ _ h hk102
set_option maxHeartbeats 2000000 in
set_option maxRecDepth 20000 in
theorem t_X6_yearBy (l : Launch) {S : St} {q0 : Nat} (hq0 : kd q0 = 6) {a1 : Int32} {a2 : Int32} {a3 : Int32} {r : Int32} (h : f_X6_yearBy q0 a1 a2 a3 S = some r) : CT l yX6_yearBy M_X6_yearBy [.ref q0, .int a1, .int a2, .int a3] S (some (.int r)) S := by
  rw [f_X6_yearBy] at h
  refine ct_of (lv := [(0, .ref q0), (1, .int a1), (2, .int a2), (3, .int a3)]) (by decide) rfl (Nat.le_of_ble_eq_true rfl) ?_
  refine z_aload_n 0 dX6_yearBy_0 rfl ?_
  refine z_get (v := .int (S.1 q0 0)) dX6_yearBy_1 fl_6_19 hq0 rfl ?_
  refine z_iconst (v := 1) dX6_yearBy_4 rfl ?_
  refine z_icmp_eq (tgt := 16) dX6_yearBy_5 (by decide) (fun c1 => ?_) (fun c1 => ?_)
  · replace h := ip c1 h
    refine z_iconst (v := 1) dX6_yearBy_16 rfl ?_
    refine z_goto (tgt := 21) dX6_yearBy_17 (by decide) ?_
    refine z_istore (lv' := [(0, .ref q0), (1, .int a1), (2, .int a2), (3, .int a3), (4, .int 1)]) [1, 2, 3, 4, 0] dX6_yearBy_21 (Nat.le_of_ble_eq_true rfl) rfl ?_
    refine z_iconst (v := 0) dX6_yearBy_23 rfl ?_
    refine z_iload_n 3 dX6_yearBy_24 rfl ?_
    refine z_aload_n 0 dX6_yearBy_25 rfl ?_
    refine z_iload_n 1 dX6_yearBy_26 rfl ?_
    refine z_iload_n 2 dX6_yearBy_27 rfl ?_
    obtain ⟨v2, hv2, h⟩ := ob h
    refine z_callV (as := [.int a1, .int a2]) dX6_yearBy_28 ml_6_48 mv_X6_reach (t_X6_reach l hq0 hv2) hq0 ⟨by decide, rfl⟩ rfl rfl (Nat.le_of_ble_eq_true rfl) ⟨Nat.le_of_ble_eq_true rfl, Nat.le_of_ble_eq_true rfl⟩ rfl ?_
    refine z_isub dX6_yearBy_31 ?_
    refine z_max dX6_yearBy_32 mx_6_42 (Nat.le_of_ble_eq_true rfl) (Nat.le_of_ble_eq_true rfl) ?_
    refine z_istore (lv' := [(0, .ref q0), (1, .int a1), (2, .int a2), (3, .int a3), (4, .int 1), (5, .int (if 0 < (a3 - v2) then a3 - v2 else 0))]) [1, 2, 3, 4, 5, 0] dX6_yearBy_35 (Nat.le_of_ble_eq_true rfl) rfl ?_
    refine z_iload_n 3 dX6_yearBy_37 rfl ?_
    refine z_istore (lv' := [(0, .ref q0), (1, .int a1), (2, .int a2), (3, .int a3), (4, .int 1), (5, .int (if 0 < (a3 - v2) then a3 - v2 else 0)), (6, .int a3)]) [1, 2, 3, 4, 5, 6, 0] dX6_yearBy_38 (Nat.le_of_ble_eq_true rfl) rfl ?_
    refine z_aload_n 0 dX6_yearBy_40 rfl ?_
    refine z_iload_n 3 dX6_yearBy_41 rfl ?_
    refine z_iload_n 3 dX6_yearBy_42 rfl ?_
    obtain ⟨v3, hv3, h⟩ := ob h
    refine z_callV (as := [.int a3, .int a3]) dX6_yearBy_43 ml_6_51 mv_X6_counts (t_X6_counts l hq0 hv3) hq0 ⟨by decide, rfl⟩ rfl rfl (Nat.le_of_ble_eq_true rfl) ⟨Nat.le_of_ble_eq_true rfl, Nat.le_of_ble_eq_true rfl⟩ rfl ?_
    refine z_istore (lv' := [(0, .ref q0), (1, .int a1), (2, .int a2), (3, .int a3), (4, .int 1), (5, .int (if 0 < (a3 - v2) then a3 - v2 else 0)), (6, .int a3), (7, .int v3)]) [1, 2, 3, 4, 5, 6, 7, 0] dX6_yearBy_46 (Nat.le_of_ble_eq_true rfl) rfl ?_
    refine z_iload_n 3 dX6_yearBy_48 rfl ?_
    refine z_iconst (v := 1) dX6_yearBy_49 rfl ?_
    refine z_isub dX6_yearBy_50 ?_
    refine z_istore (lv' := [(0, .ref q0), (1, .int a1), (2, .int a2), (3, .int a3), (4, .int 1), (5, .int (if 0 < (a3 - v2) then a3 - v2 else 0)), (6, .int a3), (7, .int v3), (8, .int (a3 - 1))]) [1, 2, 3, 4, 5, 6, 7, 8, 0] dX6_yearBy_51 (Nat.le_of_ble_eq_true rfl) rfl ?_
    refine z_sub (lv' := [(0, .ref q0), (3, .int a3), (4, .int 1), (5, .int (if 0 < (a3 - v2) then a3 - v2 else 0)), (6, .int a3), (7, .int v3), (8, .int (a3 - 1))]) [0, 3, 4, 5, 6, 7, 8] rfl ?_
    refine t_X6_yearBy_L53 l hq0 _ _ _ _ _ _ _ _ _ _ h ?_
    · intro y9 h
      refine z_iload 0 dX6_yearBy_102 rfl ?_
      obtain rfl := Option.some.inj h
      exact z_iret dX6_yearBy_104 rfl rfl
  · replace h := ig c1 h
    refine z_aload_n 0 dX6_yearBy_8 rfl ?_
    refine z_get (v := .int (S.1 q0 0)) dX6_yearBy_9 fl_6_19 hq0 rfl ?_
    refine z_iconst (v := 3) dX6_yearBy_12 rfl ?_
    refine z_icmp_ne (tgt := 20) dX6_yearBy_13 (by decide) (fun c10 => ?_) (fun c10 => ?_)
    · replace h := ig c10 h
      refine z_iconst (v := 0) dX6_yearBy_20 rfl ?_
      refine z_istore (lv' := [(0, .ref q0), (1, .int a1), (2, .int a2), (3, .int a3), (4, .int 0)]) [1, 2, 3, 4, 0] dX6_yearBy_21 (Nat.le_of_ble_eq_true rfl) rfl ?_
      refine z_iconst (v := 0) dX6_yearBy_23 rfl ?_
      refine z_iload_n 3 dX6_yearBy_24 rfl ?_
      refine z_aload_n 0 dX6_yearBy_25 rfl ?_
      refine z_iload_n 1 dX6_yearBy_26 rfl ?_
      refine z_iload_n 2 dX6_yearBy_27 rfl ?_
      obtain ⟨v11, hv11, h⟩ := ob h
      refine z_callV (as := [.int a1, .int a2]) dX6_yearBy_28 ml_6_48 mv_X6_reach (t_X6_reach l hq0 hv11) hq0 ⟨by decide, rfl⟩ rfl rfl (Nat.le_of_ble_eq_true rfl) ⟨Nat.le_of_ble_eq_true rfl, Nat.le_of_ble_eq_true rfl⟩ rfl ?_
      refine z_isub dX6_yearBy_31 ?_
      refine z_max dX6_yearBy_32 mx_6_42 (Nat.le_of_ble_eq_true rfl) (Nat.le_of_ble_eq_true rfl) ?_
      refine z_istore (lv' := [(0, .ref q0), (1, .int a1), (2, .int a2), (3, .int a3), (4, .int 0), (5, .int (if 0 < (a3 - v11) then a3 - v11 else 0))]) [1, 2, 3, 4, 5, 0] dX6_yearBy_35 (Nat.le_of_ble_eq_true rfl) rfl ?_
      refine z_iload_n 3 dX6_yearBy_37 rfl ?_
      refine z_istore (lv' := [(0, .ref q0), (1, .int a1), (2, .int a2), (3, .int a3), (4, .int 0), (5, .int (if 0 < (a3 - v11) then a3 - v11 else 0)), (6, .int a3)]) [1, 2, 3, 4, 5, 6, 0] dX6_yearBy_38 (Nat.le_of_ble_eq_true rfl) rfl ?_
      refine z_aload_n 0 dX6_yearBy_40 rfl ?_
      refine z_iload_n 3 dX6_yearBy_41 rfl ?_
      refine z_iload_n 3 dX6_yearBy_42 rfl ?_
      obtain ⟨v12, hv12, h⟩ := ob h
      refine z_callV (as := [.int a3, .int a3]) dX6_yearBy_43 ml_6_51 mv_X6_counts (t_X6_counts l hq0 hv12) hq0 ⟨by decide, rfl⟩ rfl rfl (Nat.le_of_ble_eq_true rfl) ⟨Nat.le_of_ble_eq_true rfl, Nat.le_of_ble_eq_true rfl⟩ rfl ?_
      refine z_istore (lv' := [(0, .ref q0), (1, .int a1), (2, .int a2), (3, .int a3), (4, .int 0), (5, .int (if 0 < (a3 - v11) then a3 - v11 else 0)), (6, .int a3), (7, .int v12)]) [1, 2, 3, 4, 5, 6, 7, 0] dX6_yearBy_46 (Nat.le_of_ble_eq_true rfl) rfl ?_
      refine z_iload_n 3 dX6_yearBy_48 rfl ?_
      refine z_iconst (v := 1) dX6_yearBy_49 rfl ?_
      refine z_isub dX6_yearBy_50 ?_
      refine z_istore (lv' := [(0, .ref q0), (1, .int a1), (2, .int a2), (3, .int a3), (4, .int 0), (5, .int (if 0 < (a3 - v11) then a3 - v11 else 0)), (6, .int a3), (7, .int v12), (8, .int (a3 - 1))]) [1, 2, 3, 4, 5, 6, 7, 8, 0] dX6_yearBy_51 (Nat.le_of_ble_eq_true rfl) rfl ?_
      refine z_sub (lv' := [(0, .ref q0), (3, .int a3), (4, .int 0), (5, .int (if 0 < (a3 - v11) then a3 - v11 else 0)), (6, .int a3), (7, .int v12), (8, .int (a3 - 1))]) [0, 3, 4, 5, 6, 7, 8] rfl ?_
      refine t_X6_yearBy_L53 l hq0 _ _ _ _ _ _ _ _ _ _ h ?_
      · intro y13 h
        refine z_iload 0 dX6_yearBy_102 rfl ?_
        obtain rfl := Option.some.inj h
        exact z_iret dX6_yearBy_104 rfl rfl
    · replace h := ip c10 h
      refine z_iconst (v := 1) dX6_yearBy_16 rfl ?_
      refine z_goto (tgt := 21) dX6_yearBy_17 (by decide) ?_
      refine z_istore (lv' := [(0, .ref q0), (1, .int a1), (2, .int a2), (3, .int a3), (4, .int 1)]) [1, 2, 3, 4, 0] dX6_yearBy_21 (Nat.le_of_ble_eq_true rfl) rfl ?_
      refine z_iconst (v := 0) dX6_yearBy_23 rfl ?_
      refine z_iload_n 3 dX6_yearBy_24 rfl ?_
      refine z_aload_n 0 dX6_yearBy_25 rfl ?_
      refine z_iload_n 1 dX6_yearBy_26 rfl ?_
      refine z_iload_n 2 dX6_yearBy_27 rfl ?_
      obtain ⟨v14, hv14, h⟩ := ob h
      refine z_callV (as := [.int a1, .int a2]) dX6_yearBy_28 ml_6_48 mv_X6_reach (t_X6_reach l hq0 hv14) hq0 ⟨by decide, rfl⟩ rfl rfl (Nat.le_of_ble_eq_true rfl) ⟨Nat.le_of_ble_eq_true rfl, Nat.le_of_ble_eq_true rfl⟩ rfl ?_
      refine z_isub dX6_yearBy_31 ?_
      refine z_max dX6_yearBy_32 mx_6_42 (Nat.le_of_ble_eq_true rfl) (Nat.le_of_ble_eq_true rfl) ?_
      refine z_istore (lv' := [(0, .ref q0), (1, .int a1), (2, .int a2), (3, .int a3), (4, .int 1), (5, .int (if 0 < (a3 - v14) then a3 - v14 else 0))]) [1, 2, 3, 4, 5, 0] dX6_yearBy_35 (Nat.le_of_ble_eq_true rfl) rfl ?_
      refine z_iload_n 3 dX6_yearBy_37 rfl ?_
      refine z_istore (lv' := [(0, .ref q0), (1, .int a1), (2, .int a2), (3, .int a3), (4, .int 1), (5, .int (if 0 < (a3 - v14) then a3 - v14 else 0)), (6, .int a3)]) [1, 2, 3, 4, 5, 6, 0] dX6_yearBy_38 (Nat.le_of_ble_eq_true rfl) rfl ?_
      refine z_aload_n 0 dX6_yearBy_40 rfl ?_
      refine z_iload_n 3 dX6_yearBy_41 rfl ?_
      refine z_iload_n 3 dX6_yearBy_42 rfl ?_
      obtain ⟨v15, hv15, h⟩ := ob h
      refine z_callV (as := [.int a3, .int a3]) dX6_yearBy_43 ml_6_51 mv_X6_counts (t_X6_counts l hq0 hv15) hq0 ⟨by decide, rfl⟩ rfl rfl (Nat.le_of_ble_eq_true rfl) ⟨Nat.le_of_ble_eq_true rfl, Nat.le_of_ble_eq_true rfl⟩ rfl ?_
      refine z_istore (lv' := [(0, .ref q0), (1, .int a1), (2, .int a2), (3, .int a3), (4, .int 1), (5, .int (if 0 < (a3 - v14) then a3 - v14 else 0)), (6, .int a3), (7, .int v15)]) [1, 2, 3, 4, 5, 6, 7, 0] dX6_yearBy_46 (Nat.le_of_ble_eq_true rfl) rfl ?_
      refine z_iload_n 3 dX6_yearBy_48 rfl ?_
      refine z_iconst (v := 1) dX6_yearBy_49 rfl ?_
      refine z_isub dX6_yearBy_50 ?_
      refine z_istore (lv' := [(0, .ref q0), (1, .int a1), (2, .int a2), (3, .int a3), (4, .int 1), (5, .int (if 0 < (a3 - v14) then a3 - v14 else 0)), (6, .int a3), (7, .int v15), (8, .int (a3 - 1))]) [1, 2, 3, 4, 5, 6, 7, 8, 0] dX6_yearBy_51 (Nat.le_of_ble_eq_true rfl) rfl ?_
      refine z_sub (lv' := [(0, .ref q0), (3, .int a3), (4, .int 1), (5, .int (if 0 < (a3 - v14) then a3 - v14 else 0)), (6, .int a3), (7, .int v15), (8, .int (a3 - 1))]) [0, 3, 4, 5, 6, 7, 8] rfl ?_
      refine t_X6_yearBy_L53 l hq0 _ _ _ _ _ _ _ _ _ _ h ?_
      · intro y16 h
        refine z_iload 0 dX6_yearBy_102 rfl ?_
        obtain rfl := Option.some.inj h
        exact z_iret dX6_yearBy_104 rfl rfl
set_option maxHeartbeats 2000000 in
set_option maxRecDepth 20000 in
theorem t_X6_fewestFor_L2 (l : Launch) {q0 : Nat} (hq0 : kd q0 = 6) : ∀ (n : Nat) (x1 : Int32) (x2 : Int32) (x3 : Int32) (S : St) (k21 : Int32 → Option Int32) (k31 : Unit → Option Int32) (r : Int32), f_X6_fewestFor_L2 n q0 x1 x2 x3 S k21 k31 = some r → (∀ (e3 : Int32), k21 e3 = some r → Z l yX6_fewestFor M_X6_fewestFor 21 [(3, .int e3)] [] S (some (.int r)) S) → (k31 () = some r → Z l yX6_fewestFor M_X6_fewestFor 31 [] [] S (some (.int r)) S) → Z l yX6_fewestFor M_X6_fewestFor 2 [(0, .ref q0), (1, .int x1), (2, .int x2), (3, .int x3)] [] S (some (.int r)) S := by
  intro n
  induction n with
  | zero =>
    intro x1 x2 x3 S k21 k31 r h hk21 hk31
    exact absurd h (by rw [f_X6_fewestFor_L2]; exact fun q => by cases q)
  | succ n ih =>
    intro x1 x2 x3 S k21 k31 r h hk21 hk31
    rw [f_X6_fewestFor_L2] at h
    refine z_iload_n 3 dX6_fewestFor_2 rfl ?_
    refine z_bipush (v := 19) dX6_fewestFor_3 rfl ?_
    refine z_icmp_gt (tgt := 31) dX6_fewestFor_5 (by decide) (fun c1 => ?_) (fun c1 => ?_)
    · replace h := ip c1 h
      refine z_sub (lv' := []) [] rfl ?_
      exact hk31  h
    · replace h := ig c1 h
      refine z_aload_n 0 dX6_fewestFor_8 rfl ?_
      refine z_iload_n 3 dX6_fewestFor_9 rfl ?_
      refine z_iconst (v := 5) dX6_fewestFor_10 rfl ?_
      refine z_imul dX6_fewestFor_11 ?_
      refine z_iconst (v := 0) dX6_fewestFor_12 rfl ?_
      refine z_iload_n 2 dX6_fewestFor_13 rfl ?_
      obtain ⟨v2, hv2, h⟩ := ob h
      refine z_callV (as := [.int (x3 * 5), .int 0, .int x2]) dX6_fewestFor_14 ml_6_54 mv_X6_yearBy (t_X6_yearBy l hq0 hv2) hq0 ⟨by decide, rfl⟩ rfl rfl (Nat.le_of_ble_eq_true rfl) ⟨Nat.le_of_ble_eq_true rfl, Nat.le_of_ble_eq_true rfl⟩ rfl ?_
      refine z_iload_n 1 dX6_fewestFor_17 rfl ?_
      refine z_icmp_ne (tgt := 25) dX6_fewestFor_18 (by decide) (fun c3 => ?_) (fun c3 => ?_)
      · replace h := ig c3 h
        refine z_iinc (lv' := [(0, .ref q0), (1, .int x1), (2, .int x2), (3, .int (x3 + 1))]) (v := x3 + 1) 3 [1, 2, 3, 0] dX6_fewestFor_25 rfl rfl (Nat.le_of_ble_eq_true rfl) rfl ?_
        refine z_goto (tgt := 2) dX6_fewestFor_28 (by decide) ?_
        refine z_sub (lv' := [(0, .ref q0), (1, .int x1), (2, .int x2), (3, .int (x3 + 1))]) [0, 1, 2, 3] rfl ?_
        exact ih _ _ _ _ _ _ _ h hk21 hk31
      · replace h := ip c3 h
        refine z_sub (lv' := [(3, .int x3)]) [3] rfl ?_
        exact hk21 _ h
set_option maxHeartbeats 2000000 in
set_option maxRecDepth 20000 in
theorem t_X6_fewestFor (l : Launch) {S : St} {q0 : Nat} (hq0 : kd q0 = 6) {a1 : Int32} {a2 : Int32} {r : Int32} (h : f_X6_fewestFor q0 a1 a2 S = some r) : CT l yX6_fewestFor M_X6_fewestFor [.ref q0, .int a1, .int a2] S (some (.int r)) S := by
  rw [f_X6_fewestFor] at h
  refine ct_of (lv := [(0, .ref q0), (1, .int a1), (2, .int a2)]) (by decide) rfl (Nat.le_of_ble_eq_true rfl) ?_
  refine z_iconst (v := 0) dX6_fewestFor_0 rfl ?_
  refine z_istore_n (lv' := [(0, .ref q0), (1, .int a1), (2, .int a2), (3, .int 0)]) [1, 2, 3, 0] dX6_fewestFor_1 (Nat.le_of_ble_eq_true rfl) rfl ?_
  refine z_sub (lv' := [(0, .ref q0), (1, .int a1), (2, .int a2), (3, .int 0)]) [0, 1, 2, 3] rfl ?_
  refine t_X6_fewestFor_L2 l hq0 _ _ _ _ _ _ _ _ h ?_ ?_
  · intro y4 h
    refine z_iload_n 0 dX6_fewestFor_21 rfl ?_
    refine z_iconst (v := 5) dX6_fewestFor_22 rfl ?_
    refine z_imul dX6_fewestFor_23 ?_
    obtain rfl := Option.some.inj h
    exact z_iret dX6_fewestFor_24 rfl rfl
  · intro h
    refine z_bipush (v := (-9)) dX6_fewestFor_31 rfl ?_
    obtain rfl := Option.some.inj h
    exact z_iret dX6_fewestFor_33 rfl rfl
set_option maxHeartbeats 2000000 in
set_option maxRecDepth 20000 in
theorem t_X0_begin_L5 (l : Launch)   : ∀ (n : Nat) (x1 : Int32) (x2 : Int32) (x3 : Int32) (x4 : Int32) (S : St) (k42 : Int32 → Option (Int32 × St)) (r : (Int32 × St)), f_X0_begin_L5 n x1 x2 x3 x4 S k42 = some r → (∀ (e3 : Int32), k42 e3 = some r → Z l yX0_begin M_X0_begin 42 [(0, .ref 67), (1, .int x1), (3, .int e3)] [] S (some (.int r.1)) r.2) → Z l yX0_begin M_X0_begin 5 [(0, .ref 67), (1, .int x1), (2, .int x2), (3, .int x3), (4, .int x4)] [] S (some (.int r.1)) r.2 := by
  intro n
  induction n with
  | zero =>
    intro x1 x2 x3 x4 S k42 r h hk42
    exact absurd h (by rw [f_X0_begin_L5]; exact fun q => by cases q)
  | succ n ih =>
    intro x1 x2 x3 x4 S k42 r h hk42
    rw [f_X0_begin_L5] at h
    refine z_iload 4 dX0_begin_5 rfl ?_
    refine z_iload_n 2 dX0_begin_7 rfl ?_
    refine z_icmp_ge (tgt := 42) dX0_begin_8 (by decide) (fun c1 => ?_) (fun c1 => ?_)
    · replace h := ip c1 h
      refine z_sub (lv' := [(0, .ref 67), (1, .int x1), (3, .int x3)]) [0, 1, 3] rfl ?_
      exact hk42 _ h
    · replace h := ig c1 h
      refine z_iload 4 dX0_begin_11 rfl ?_
      refine z_iconst (v := 4) dX0_begin_13 rfl ?_
      refine z_icmp_ge (tgt := 42) dX0_begin_14 (by decide) (fun c2 => ?_) (fun c2 => ?_)
      · replace h := ip c2 h
        refine z_sub (lv' := [(0, .ref 67), (1, .int x1), (3, .int x3)]) [0, 1, 3] rfl ?_
        exact hk42 _ h
      · replace h := ig c2 h
        refine z_aload_n 0 dX0_begin_17 rfl ?_
        refine z_get (v := .ref 69) dX0_begin_18 fl_0_15 kdl_67 rfl ?_
        refine z_iload 4 dX0_begin_21 rfl ?_
        obtain ⟨c3, h⟩ := oi h
        refine z_iald dX0_begin_23 kdl_69 (by decide) c3 ?_
        refine z_aload_n 0 dX0_begin_24 rfl ?_
        refine z_get (v := .ref 69) dX0_begin_25 fl_0_15 kdl_67 rfl ?_
        refine z_iload_n 3 dX0_begin_28 rfl ?_
        obtain ⟨c4, h⟩ := oi h
        refine z_iald dX0_begin_29 kdl_69 (by decide) c4 ?_
        refine z_icmp_ge (tgt := 36) dX0_begin_30 (by decide) (fun c5 => ?_) (fun c5 => ?_)
        · replace h := ip c5 h
          refine z_iinc (lv' := [(0, .ref 67), (1, .int x1), (2, .int x2), (3, .int x3), (4, .int (x4 + 1))]) (v := x4 + 1) 4 [1, 2, 3, 4, 0] dX0_begin_36 rfl rfl (Nat.le_of_ble_eq_true rfl) rfl ?_
          refine z_goto (tgt := 5) dX0_begin_39 (by decide) ?_
          refine z_sub (lv' := [(0, .ref 67), (1, .int x1), (2, .int x2), (3, .int x3), (4, .int (x4 + 1))]) [0, 1, 2, 3, 4] rfl ?_
          exact ih _ _ _ _ _ _ _ h hk42
        · replace h := ig c5 h
          refine z_iload 4 dX0_begin_33 rfl ?_
          refine z_istore_n (lv' := [(0, .ref 67), (1, .int x1), (2, .int x2), (3, .int x4), (4, .int x4)]) [1, 2, 3, 0, 4] dX0_begin_35 (Nat.le_of_ble_eq_true rfl) rfl ?_
          refine z_iinc (lv' := [(0, .ref 67), (1, .int x1), (2, .int x2), (3, .int x4), (4, .int (x4 + 1))]) (v := x4 + 1) 4 [1, 2, 3, 4, 0] dX0_begin_36 rfl rfl (Nat.le_of_ble_eq_true rfl) rfl ?_
          refine z_goto (tgt := 5) dX0_begin_39 (by decide) ?_
          refine z_sub (lv' := [(0, .ref 67), (1, .int x1), (2, .int x2), (3, .int x4), (4, .int (x4 + 1))]) [0, 1, 2, 3, 4] rfl ?_
          exact ih _ _ _ _ _ _ _ h hk42
set_option maxHeartbeats 2000000 in
set_option maxRecDepth 20000 in
theorem t_X0_begin (l : Launch) {S : St}  {a1 : Int32} {a2 : Int32} {r : (Int32 × St)} (h : f_X0_begin a1 a2 S = some r) : CT l yX0_begin M_X0_begin [.ref 67, .int a1, .int a2] S (some (.int r.1)) r.2 := by
  rw [f_X0_begin] at h
  refine ct_of (lv := [(0, .ref 67), (1, .int a1), (2, .int a2)]) (by decide) rfl (Nat.le_of_ble_eq_true rfl) ?_
  refine z_iconst (v := 0) dX0_begin_0 rfl ?_
  refine z_istore_n (lv' := [(0, .ref 67), (1, .int a1), (2, .int a2), (3, .int 0)]) [1, 2, 3, 0] dX0_begin_1 (Nat.le_of_ble_eq_true rfl) rfl ?_
  refine z_iconst (v := 1) dX0_begin_2 rfl ?_
  refine z_istore (lv' := [(0, .ref 67), (1, .int a1), (2, .int a2), (3, .int 0), (4, .int 1)]) [1, 2, 3, 4, 0] dX0_begin_3 (Nat.le_of_ble_eq_true rfl) rfl ?_
  refine z_sub (lv' := [(0, .ref 67), (1, .int a1), (2, .int a2), (3, .int 0), (4, .int 1)]) [0, 1, 2, 3, 4] rfl ?_
  refine t_X0_begin_L5 l _ _ _ _ _ _ _ _ h ?_
  · intro y6 h
    refine z_aload_n 0 dX0_begin_42 rfl ?_
    refine z_get (v := .ref 69) dX0_begin_43 fl_0_15 kdl_67 rfl ?_
    refine z_iload_n 2 dX0_begin_46 rfl ?_
    obtain ⟨c7, h⟩ := oi h
    refine z_iald dX0_begin_47 kdl_69 (by decide) c7 ?_
    refine z_istore (lv' := [(0, .ref 67), (1, .int a1), (3, .int y6), (4, .int (S.1 69 y6.toNatClampNeg))]) [1, 2, 3, 0] dX0_begin_48 (Nat.le_of_ble_eq_true rfl) rfl ?_
    refine z_aload_n 0 dX0_begin_50 rfl ?_
    refine z_get (v := .ref 69) dX0_begin_51 fl_0_15 kdl_67 rfl ?_
    refine z_iload_n 2 dX0_begin_54 rfl ?_
    refine z_iload 3 dX0_begin_55 rfl ?_
    refine z_iload_n 1 dX0_begin_57 rfl ?_
    refine z_iadd dX0_begin_58 ?_
    obtain ⟨c8, h⟩ := oi h
    refine z_iast dX0_begin_59 kdl_69 (by decide) c8 ?_
    refine z_aload_n 0 dX0_begin_60 rfl ?_
    refine z_aload_n 0 dX0_begin_61 rfl ?_
    refine z_get (v := .int ((up S 69 y6.toNatClampNeg ((S.1 69 y6.toNatClampNeg) + a1)).1 67 2)) dX0_begin_62 fl_0_18 kdl_67 rfl ?_
    refine z_aload_n 0 dX0_begin_65 rfl ?_
    refine z_get (v := .ref 69) dX0_begin_66 fl_0_15 kdl_67 rfl ?_
    refine z_iload_n 2 dX0_begin_69 rfl ?_
    obtain ⟨c9, h⟩ := oi h
    refine z_iald dX0_begin_70 kdl_69 (by decide) c9 ?_
    refine z_max dX0_begin_71 mx_0_54 (Nat.le_of_ble_eq_true rfl) (Nat.le_of_ble_eq_true rfl) ?_
    refine z_put (fk := 2) dX0_begin_74 fl_0_18 fp_0_2 kdl_67 rfl rfl rfl (Nat.le_of_ble_eq_true rfl) ?_
    refine z_iload 3 dX0_begin_77 rfl ?_
    obtain rfl := Option.some.inj h
    exact z_iret dX0_begin_79 rfl rfl
set_option maxHeartbeats 2000000 in
set_option maxRecDepth 20000 in
theorem t_X0_arrange_L7 (l : Launch) {q1 : Nat} (hq1 : kd q1 = 3) : ∀ (n : Nat) (x2 : Int32) (S : St) (k25 : St → Option St) (r : St), f_X0_arrange_L7 n q1 x2 S k25 = some r → (∀ (T : St), k25 T = some r → Z l yX0_arrange M_X0_arrange 25 [(0, .ref 67), (1, .ref q1)] [] T none r) → Z l yX0_arrange M_X0_arrange 7 [(0, .ref 67), (1, .ref q1), (2, .int x2)] [] S none r := by
  intro n
  induction n with
  | zero =>
    intro x2 S k25 r h hk25
    exact absurd h (by rw [f_X0_arrange_L7]; exact fun q => by cases q)
  | succ n ih =>
    intro x2 S k25 r h hk25
    rw [f_X0_arrange_L7] at h
    refine z_iload_n 2 dX0_arrange_7 rfl ?_
    refine z_iconst (v := 4) dX0_arrange_8 rfl ?_
    refine z_icmp_ge (tgt := 25) dX0_arrange_9 (by decide) (fun c1 => ?_) (fun c1 => ?_)
    · replace h := ip c1 h
      refine z_sub (lv' := [(0, .ref 67), (1, .ref q1)]) [0, 1] rfl ?_
      exact hk25 _ h
    · replace h := ig c1 h
      refine z_aload_n 0 dX0_arrange_12 rfl ?_
      refine z_get (v := .ref 69) dX0_arrange_13 fl_0_15 kdl_67 rfl ?_
      refine z_iload_n 2 dX0_arrange_16 rfl ?_
      refine z_iconst (v := 0) dX0_arrange_17 rfl ?_
      obtain ⟨c2, h⟩ := oi h
      refine z_iast dX0_arrange_18 kdl_69 (by decide) c2 ?_
      refine z_iinc (lv' := [(0, .ref 67), (1, .ref q1), (2, .int (x2 + 1))]) (v := x2 + 1) 2 [1, 2, 0] dX0_arrange_19 rfl rfl (Nat.le_of_ble_eq_true rfl) rfl ?_
      refine z_goto (tgt := 7) dX0_arrange_22 (by decide) ?_
      refine z_sub (lv' := [(0, .ref 67), (1, .ref q1), (2, .int (x2 + 1))]) [0, 1, 2] rfl ?_
      exact ih _ _ _ _ h hk25
set_option maxHeartbeats 2000000 in
set_option maxRecDepth 20000 in
theorem t_X0_arrange_L27 (l : Launch) {q1 : Nat} (hq1 : kd q1 = 3) : ∀ (n : Nat) (x2 : Int32) (S : St) (k111 : St → Option St) (r : St), f_X0_arrange_L27 n q1 x2 S k111 = some r → (∀ (T : St), k111 T = some r → Z l yX0_arrange M_X0_arrange 111 [] [] T none r) → Z l yX0_arrange M_X0_arrange 27 [(0, .ref 67), (1, .ref q1), (2, .int x2)] [] S none r := by
  intro n
  induction n with
  | zero =>
    intro x2 S k111 r h hk111
    exact absurd h (by rw [f_X0_arrange_L27]; exact fun q => by cases q)
  | succ n ih =>
    intro x2 S k111 r h hk111
    rw [f_X0_arrange_L27] at h
    refine z_iload_n 2 dX0_arrange_27 rfl ?_
    refine z_aload_n 1 dX0_arrange_28 rfl ?_
    refine z_get (v := .int (S.1 q1 0)) dX0_arrange_29 fl_0_22 hq1 rfl ?_
    refine z_icmp_ge (tgt := 111) dX0_arrange_32 (by decide) (fun c4 => ?_) (fun c4 => ?_)
    · replace h := ip c4 h
      refine z_sub (lv' := []) [] rfl ?_
      exact hk111 _ h
    · replace h := ig c4 h
      refine z_iload_n 2 dX0_arrange_35 rfl ?_
      refine z_bipush (v := 8) dX0_arrange_36 rfl ?_
      refine z_icmp_ge (tgt := 111) dX0_arrange_38 (by decide) (fun c5 => ?_) (fun c5 => ?_)
      · replace h := ip c5 h
        refine z_sub (lv' := []) [] rfl ?_
        exact hk111 _ h
      · replace h := ig c5 h
        refine z_aload_n 1 dX0_arrange_41 rfl ?_
        refine z_iload_n 2 dX0_arrange_42 rfl ?_
        obtain ⟨v6, hv6, h⟩ := ob h
        refine z_callV (as := [.int x2]) dX0_arrange_43 ml_0_27 mv_X3_at (t_X3_at l hq1 hv6) hq1 ⟨by decide, rfl⟩ rfl rfl (Nat.le_of_ble_eq_true rfl) ⟨Nat.le_of_ble_eq_true rfl, Nat.le_of_ble_eq_true rfl⟩ rfl ?_
        refine z_astore_n (lv' := [(0, .ref 67), (1, .ref q1), (2, .int x2), (3, .ref v6)]) [1, 2, 3, 0] dX0_arrange_46 (Nat.le_of_ble_eq_true rfl) rfl ?_
        refine z_aload_n 3 dX0_arrange_47 rfl ?_
        obtain ⟨v7, hv7, h⟩ := ob h
        refine z_callV (as := []) dX0_arrange_48 ml_0_31 mv_X6_isSet (t_X6_isSet l (kd_at hq1 hv6) hv7) (kd_at hq1 hv6) ⟨by decide, rfl⟩ rfl rfl (Nat.le_of_ble_eq_true rfl) ⟨Nat.le_of_ble_eq_true rfl, Nat.le_of_ble_eq_true rfl⟩ rfl ?_
        refine z_if_eq (tgt := 59) dX0_arrange_51 (by decide) (fun c8 => ?_) (fun c8 => ?_)
        · replace h := ip c8 h
          refine z_aload_n 3 dX0_arrange_59 rfl ?_
          refine z_aload_n 3 dX0_arrange_60 rfl ?_
          refine z_aload_n 1 dX0_arrange_61 rfl ?_
          refine z_get (v := .int (S.1 q1 1)) dX0_arrange_62 fl_0_37 hq1 rfl ?_
          obtain ⟨v9, hv9, h⟩ := ob h
          refine z_callV (as := [.int (S.1 q1 1)]) dX0_arrange_65 ml_0_40 mv_X6_gladdestYear (t_X6_gladdestYear l (kd_at hq1 hv6) hv9) (kd_at hq1 hv6) ⟨by decide, rfl⟩ rfl rfl (Nat.le_of_ble_eq_true rfl) ⟨Nat.le_of_ble_eq_true rfl, Nat.le_of_ble_eq_true rfl⟩ rfl ?_
          refine z_aload_n 1 dX0_arrange_68 rfl ?_
          refine z_get (v := .int (S.1 q1 1)) dX0_arrange_69 fl_0_37 hq1 rfl ?_
          obtain ⟨v10, hv10, h⟩ := ob h
          refine z_callV (as := [.int v9, .int (S.1 q1 1)]) dX0_arrange_72 ml_0_44 mv_X6_fewestFor (t_X6_fewestFor l (kd_at hq1 hv6) hv10) (kd_at hq1 hv6) ⟨by decide, rfl⟩ rfl rfl (Nat.le_of_ble_eq_true rfl) ⟨Nat.le_of_ble_eq_true rfl, Nat.le_of_ble_eq_true rfl⟩ rfl ?_
          refine z_istore (lv' := [(0, .ref 67), (1, .ref q1), (2, .int x2), (3, .ref v6), (4, .int v10)]) [1, 2, 3, 4, 0] dX0_arrange_75 (Nat.le_of_ble_eq_true rfl) rfl ?_
          refine z_aload_n 0 dX0_arrange_77 rfl ?_
          refine z_get (v := .ref 68) dX0_arrange_78 fl_0_9 kdl_67 rfl ?_
          refine z_iload_n 2 dX0_arrange_81 rfl ?_
          refine z_iload 4 dX0_arrange_82 rfl ?_
          refine z_bipush (v := (-9)) dX0_arrange_84 rfl ?_
          refine z_icmp_ne (tgt := 94) dX0_arrange_86 (by decide) (fun c11 => ?_) (fun c11 => ?_)
          · replace h := ig c11 h
            refine z_aload_n 0 dX0_arrange_94 rfl ?_
            refine z_iload 4 dX0_arrange_95 rfl ?_
            refine z_aload_n 1 dX0_arrange_97 rfl ?_
            refine z_get (v := .int (S.1 q1 3)) dX0_arrange_98 fl_0_48 hq1 rfl ?_
            obtain ⟨z12, hz12, h⟩ := ob h
            refine z_callV (as := [.int v10, .int (S.1 q1 3)]) dX0_arrange_101 ml_0_51 mv_X0_begin (t_X0_begin l hz12) kdl_67 ⟨by decide, rfl⟩ rfl rfl (Nat.le_of_ble_eq_true rfl) ⟨Nat.le_of_ble_eq_true rfl, Nat.le_of_ble_eq_true rfl⟩ rfl ?_
            obtain ⟨c13, h⟩ := oi h
            refine z_iast dX0_arrange_104 kdl_68 (by decide) c13 ?_
            refine z_iinc (lv' := [(0, .ref 67), (1, .ref q1), (2, .int (x2 + 1)), (3, .ref v6), (4, .int v10)]) (v := x2 + 1) 2 [1, 2, 0, 3, 4] dX0_arrange_105 rfl rfl (Nat.le_of_ble_eq_true rfl) rfl ?_
            refine z_goto (tgt := 27) dX0_arrange_108 (by decide) ?_
            refine z_sub (lv' := [(0, .ref 67), (1, .ref q1), (2, .int (x2 + 1))]) [0, 1, 2] rfl ?_
            exact ih _ _ _ _ h hk111
          · replace h := ip c11 h
            refine z_bipush (v := (-9)) dX0_arrange_89 rfl ?_
            refine z_goto (tgt := 104) dX0_arrange_91 (by decide) ?_
            obtain ⟨c14, h⟩ := oi h
            refine z_iast dX0_arrange_104 kdl_68 (by decide) c14 ?_
            refine z_iinc (lv' := [(0, .ref 67), (1, .ref q1), (2, .int (x2 + 1)), (3, .ref v6), (4, .int v10)]) (v := x2 + 1) 2 [1, 2, 0, 3, 4] dX0_arrange_105 rfl rfl (Nat.le_of_ble_eq_true rfl) rfl ?_
            refine z_goto (tgt := 27) dX0_arrange_108 (by decide) ?_
            refine z_sub (lv' := [(0, .ref 67), (1, .ref q1), (2, .int (x2 + 1))]) [0, 1, 2] rfl ?_
            exact ih _ _ _ _ h hk111
        · replace h := ig c8 h
          refine z_bipush (v := (-9)) dX0_arrange_54 rfl ?_
          refine z_goto (tgt := 75) dX0_arrange_56 (by decide) ?_
          refine z_istore (lv' := [(0, .ref 67), (1, .ref q1), (2, .int x2), (3, .ref v6), (4, .int (-9))]) [1, 2, 3, 4, 0] dX0_arrange_75 (Nat.le_of_ble_eq_true rfl) rfl ?_
          refine z_aload_n 0 dX0_arrange_77 rfl ?_
          refine z_get (v := .ref 68) dX0_arrange_78 fl_0_9 kdl_67 rfl ?_
          refine z_iload_n 2 dX0_arrange_81 rfl ?_
          refine z_iload 4 dX0_arrange_82 rfl ?_
          refine z_bipush (v := (-9)) dX0_arrange_84 rfl ?_
          refine z_icmp_ne (tgt := 94) dX0_arrange_86 (by decide) (fun c15 => ?_) (fun c15 => ?_)
          · first | exact absurd c15 (by decide) | exact absurd rfl c15
          · refine z_bipush (v := (-9)) dX0_arrange_89 rfl ?_
            refine z_goto (tgt := 104) dX0_arrange_91 (by decide) ?_
            obtain ⟨c16, h⟩ := oi h
            refine z_iast dX0_arrange_104 kdl_68 (by decide) c16 ?_
            refine z_iinc (lv' := [(0, .ref 67), (1, .ref q1), (2, .int (x2 + 1)), (3, .ref v6), (4, .int (-9))]) (v := x2 + 1) 2 [1, 2, 0, 3, 4] dX0_arrange_105 rfl rfl (Nat.le_of_ble_eq_true rfl) rfl ?_
            refine z_goto (tgt := 27) dX0_arrange_108 (by decide) ?_
            refine z_sub (lv' := [(0, .ref 67), (1, .ref q1), (2, .int (x2 + 1))]) [0, 1, 2] rfl ?_
            exact ih _ _ _ _ h hk111
set_option maxHeartbeats 2000000 in
set_option maxRecDepth 20000 in
theorem t_X0_arrange (l : Launch) {S : St} {q1 : Nat} (hq1 : kd q1 = 3)  {r : St} (h : f_X0_arrange q1 S = some r) : CT l yX0_arrange M_X0_arrange [.ref 67, .ref q1] S none r := by
  rw [f_X0_arrange] at h
  refine ct_of (lv := [(0, .ref 67), (1, .ref q1)]) (by decide) rfl (Nat.le_of_ble_eq_true rfl) ?_
  refine z_aload_n 0 dX0_arrange_0 rfl ?_
  refine z_iconst (v := 0) dX0_arrange_1 rfl ?_
  refine z_put (fk := 2) dX0_arrange_2 fl_0_18 fp_0_2 kdl_67 rfl rfl rfl (Nat.le_of_ble_eq_true rfl) ?_
  refine z_iconst (v := 0) dX0_arrange_5 rfl ?_
  refine z_istore_n (lv' := [(0, .ref 67), (1, .ref q1), (2, .int 0)]) [1, 2, 0] dX0_arrange_6 (Nat.le_of_ble_eq_true rfl) rfl ?_
  refine z_sub (lv' := [(0, .ref 67), (1, .ref q1), (2, .int 0)]) [0, 1, 2] rfl ?_
  refine t_X0_arrange_L7 l hq1 _ _ _ _ _ h ?_
  · intro S3 h
    refine z_iconst (v := 0) dX0_arrange_25 rfl ?_
    refine z_istore_n (lv' := [(0, .ref 67), (1, .ref q1), (2, .int 0)]) [1, 2, 0] dX0_arrange_26 (Nat.le_of_ble_eq_true rfl) rfl ?_
    refine z_sub (lv' := [(0, .ref 67), (1, .ref q1), (2, .int 0)]) [0, 1, 2] rfl ?_
    refine t_X0_arrange_L27 l hq1 _ _ _ _ _ h ?_
    · intro S17 h
      obtain rfl := Option.some.inj h
      exact z_vret dX0_arrange_111 rfl
set_option maxHeartbeats 2000000 in
set_option maxRecDepth 20000 in
theorem t_X0_beginOf (l : Launch) {S : St}  {a1 : Int32} {r : Int32} (h : f_X0_beginOf a1 S = some r) : CT l yX0_beginOf M_X0_beginOf [.ref 67, .int a1] S (some (.int r)) S := by
  rw [f_X0_beginOf] at h
  refine ct_of (lv := [(0, .ref 67), (1, .int a1)]) (by decide) rfl (Nat.le_of_ble_eq_true rfl) ?_
  refine z_iload_n 1 dX0_beginOf_0 rfl ?_
  refine z_if_lt (tgt := 10) dX0_beginOf_1 (by decide) (fun c1 => ?_) (fun c1 => ?_)
  · replace h := ip c1 h
    refine z_bipush (v := (-9)) dX0_beginOf_10 rfl ?_
    refine z_goto (tgt := 21) dX0_beginOf_12 (by decide) ?_
    obtain rfl := Option.some.inj h
    exact z_iret dX0_beginOf_21 rfl rfl
  · replace h := ig c1 h
    refine z_iload_n 1 dX0_beginOf_4 rfl ?_
    refine z_bipush (v := 8) dX0_beginOf_5 rfl ?_
    refine z_icmp_lt (tgt := 15) dX0_beginOf_7 (by decide) (fun c2 => ?_) (fun c2 => ?_)
    · replace h := ip c2 h
      refine z_aload_n 0 dX0_beginOf_15 rfl ?_
      refine z_get (v := .ref 68) dX0_beginOf_16 fl_0_9 kdl_67 rfl ?_
      refine z_iload_n 1 dX0_beginOf_19 rfl ?_
      obtain ⟨c3, h⟩ := oi h
      refine z_iald dX0_beginOf_20 kdl_68 (by decide) c3 ?_
      obtain rfl := Option.some.inj h
      exact z_iret dX0_beginOf_21 rfl rfl
    · replace h := ig c2 h
      refine z_bipush (v := (-9)) dX0_beginOf_10 rfl ?_
      refine z_goto (tgt := 21) dX0_beginOf_12 (by decide) ?_
      obtain rfl := Option.some.inj h
      exact z_iret dX0_beginOf_21 rfl rfl
set_option maxHeartbeats 2000000 in
set_option maxRecDepth 20000 in
theorem t_X3_setBits_L4 (l : Launch) {q0 : Nat} (hq0 : kd q0 = 3) : ∀ (n : Nat) (x1 : Int32) (x2 : Int32) (S : St) (k35 : Int32 → Option Int32) (r : Int32), f_X3_setBits_L4 n q0 x1 x2 S k35 = some r → (∀ (e1 : Int32), k35 e1 = some r → Z l yX3_setBits M_X3_setBits 35 [(1, .int e1)] [] S (some (.int r)) S) → Z l yX3_setBits M_X3_setBits 4 [(0, .ref q0), (1, .int x1), (2, .int x2)] [] S (some (.int r)) S := by
  intro n
  induction n with
  | zero =>
    intro x1 x2 S k35 r h hk35
    exact absurd h (by rw [f_X3_setBits_L4]; exact fun q => by cases q)
  | succ n ih =>
    intro x1 x2 S k35 r h hk35
    rw [f_X3_setBits_L4] at h
    refine z_iload_n 2 dX3_setBits_4 rfl ?_
    refine z_aload_n 0 dX3_setBits_5 rfl ?_
    refine z_get (v := .int (S.1 q0 0)) dX3_setBits_6 fl_3_29 hq0 rfl ?_
    refine z_icmp_ge (tgt := 35) dX3_setBits_9 (by decide) (fun c1 => ?_) (fun c1 => ?_)
    · replace h := ip c1 h
      refine z_sub (lv' := [(1, .int x1)]) [1] rfl ?_
      exact hk35 _ h
    · replace h := ig c1 h
      refine z_aload_n 0 dX3_setBits_12 rfl ?_
      refine z_iload_n 2 dX3_setBits_13 rfl ?_
      obtain ⟨v2, hv2, h⟩ := ob h
      refine z_callV (as := [.int x2]) dX3_setBits_14 ml_3_43 mv_X3_at (t_X3_at l hq0 hv2) hq0 ⟨by decide, rfl⟩ rfl rfl (Nat.le_of_ble_eq_true rfl) ⟨Nat.le_of_ble_eq_true rfl, Nat.le_of_ble_eq_true rfl⟩ rfl ?_
      obtain ⟨v3, hv3, h⟩ := ob h
      refine z_callV (as := []) dX3_setBits_17 ml_3_61 mv_X6_isSet (t_X6_isSet l (kd_at hq0 hv2) hv3) (kd_at hq0 hv2) ⟨by decide, rfl⟩ rfl rfl (Nat.le_of_ble_eq_true rfl) ⟨Nat.le_of_ble_eq_true rfl, Nat.le_of_ble_eq_true rfl⟩ rfl ?_
      refine z_if_eq (tgt := 29) dX3_setBits_20 (by decide) (fun c4 => ?_) (fun c4 => ?_)
      · replace h := ip c4 h
        refine z_iinc (lv' := [(0, .ref q0), (1, .int x1), (2, .int (x2 + 1))]) (v := x2 + 1) 2 [1, 2, 0] dX3_setBits_29 rfl rfl (Nat.le_of_ble_eq_true rfl) rfl ?_
        refine z_goto (tgt := 4) dX3_setBits_32 (by decide) ?_
        refine z_sub (lv' := [(0, .ref q0), (1, .int x1), (2, .int (x2 + 1))]) [0, 1, 2] rfl ?_
        exact ih _ _ _ _ _ h hk35
      · replace h := ig c4 h
        refine z_iload_n 1 dX3_setBits_23 rfl ?_
        refine z_iconst (v := 1) dX3_setBits_24 rfl ?_
        refine z_iload_n 2 dX3_setBits_25 rfl ?_
        refine z_ishl dX3_setBits_26 ?_
        refine z_ior dX3_setBits_27 ?_
        refine z_istore_n (lv' := [(0, .ref q0), (1, .int (x1 ||| (1 <<< (x2 &&& 31)))), (2, .int x2)]) [1, 0, 2] dX3_setBits_28 (Nat.le_of_ble_eq_true rfl) rfl ?_
        refine z_iinc (lv' := [(0, .ref q0), (1, .int (x1 ||| (1 <<< (x2 &&& 31)))), (2, .int (x2 + 1))]) (v := x2 + 1) 2 [1, 2, 0] dX3_setBits_29 rfl rfl (Nat.le_of_ble_eq_true rfl) rfl ?_
        refine z_goto (tgt := 4) dX3_setBits_32 (by decide) ?_
        refine z_sub (lv' := [(0, .ref q0), (1, .int (x1 ||| (1 <<< (x2 &&& 31)))), (2, .int (x2 + 1))]) [0, 1, 2] rfl ?_
        exact ih _ _ _ _ _ h hk35
set_option maxHeartbeats 2000000 in
set_option maxRecDepth 20000 in
theorem t_X3_setBits (l : Launch) {S : St} {q0 : Nat} (hq0 : kd q0 = 3)  {r : Int32} (h : f_X3_setBits q0 S = some r) : CT l yX3_setBits M_X3_setBits [.ref q0] S (some (.int r)) S := by
  rw [f_X3_setBits] at h
  refine ct_of (lv := [(0, .ref q0)]) (by decide) rfl (Nat.le_of_ble_eq_true rfl) ?_
  refine z_iconst (v := 0) dX3_setBits_0 rfl ?_
  refine z_istore_n (lv' := [(0, .ref q0), (1, .int 0)]) [1, 0] dX3_setBits_1 (Nat.le_of_ble_eq_true rfl) rfl ?_
  refine z_iconst (v := 0) dX3_setBits_2 rfl ?_
  refine z_istore_n (lv' := [(0, .ref q0), (1, .int 0), (2, .int 0)]) [1, 2, 0] dX3_setBits_3 (Nat.le_of_ble_eq_true rfl) rfl ?_
  refine z_sub (lv' := [(0, .ref q0), (1, .int 0), (2, .int 0)]) [0, 1, 2] rfl ?_
  refine t_X3_setBits_L4 l hq0 _ _ _ _ _ _ h ?_
  · intro y5 h
    refine z_iload_n 0 dX3_setBits_35 rfl ?_
    obtain rfl := Option.some.inj h
    exact z_iret dX3_setBits_36 rfl rfl
set_option maxHeartbeats 2000000 in
set_option maxRecDepth 20000 in
theorem t_X6_howGlad (l : Launch) {S : St} {q0 : Nat} (hq0 : kd q0 = 6) {a1 : Int32} {r : Int32} (h : f_X6_howGlad q0 a1 S = some r) : CT l yX6_howGlad M_X6_howGlad [.ref q0, .int a1] S (some (.int r)) S := by
  rw [f_X6_howGlad] at h
  refine ct_of (lv := [(0, .ref q0), (1, .int a1)]) (by decide) rfl (Nat.le_of_ble_eq_true rfl) ?_
  refine z_aload_n 0 dX6_howGlad_0 rfl ?_
  refine z_aload_n 0 dX6_howGlad_1 rfl ?_
  obtain ⟨v1, hv1, h⟩ := ob h
  refine z_callV (as := []) dX6_howGlad_2 ml_6_31 mv_X6_isSet (t_X6_isSet l hq0 hv1) hq0 ⟨by decide, rfl⟩ rfl rfl (Nat.le_of_ble_eq_true rfl) ⟨Nat.le_of_ble_eq_true rfl, Nat.le_of_ble_eq_true rfl⟩ rfl ?_
  refine z_if_eq (tgt := 15) dX6_howGlad_5 (by decide) (fun c2 => ?_) (fun c2 => ?_)
  · replace h := ip c2 h
    refine z_iload_n 1 dX6_howGlad_15 rfl ?_
    obtain ⟨v3, hv3, h⟩ := ob h
    refine z_callV (as := [.int a1]) dX6_howGlad_16 ml_6_35 mv_X6_gladIn (t_X6_gladIn l hq0 hv3) hq0 ⟨by decide, rfl⟩ rfl rfl (Nat.le_of_ble_eq_true rfl) ⟨Nat.le_of_ble_eq_true rfl, Nat.le_of_ble_eq_true rfl⟩ rfl ?_
    obtain rfl := Option.some.inj h
    exact z_iret dX6_howGlad_19 rfl rfl
  · replace h := ig c2 h
    refine z_aload_n 0 dX6_howGlad_8 rfl ?_
    refine z_get (v := .int (S.1 q0 2)) dX6_howGlad_9 fl_6_9 hq0 rfl ?_
    refine z_goto (tgt := 16) dX6_howGlad_12 (by decide) ?_
    obtain ⟨v4, hv4, h⟩ := ob h
    refine z_callV (as := [.int (S.1 q0 2)]) dX6_howGlad_16 ml_6_35 mv_X6_gladIn (t_X6_gladIn l hq0 hv4) hq0 ⟨by decide, rfl⟩ rfl rfl (Nat.le_of_ble_eq_true rfl) ⟨Nat.le_of_ble_eq_true rfl, Nat.le_of_ble_eq_true rfl⟩ rfl ?_
    obtain rfl := Option.some.inj h
    exact z_iret dX6_howGlad_19 rfl rfl
set_option maxHeartbeats 2000000 in
set_option maxRecDepth 20000 in
theorem t_X3_gladTogether_L4 (l : Launch) {q0 : Nat} (hq0 : kd q0 = 3) : ∀ (n : Nat) (x1 : Int32) (x2 : Int32) (x3 : Int32) (S : St) (k30 : Int32 → Option Int32) (r : Int32), f_X3_gladTogether_L4 n q0 x1 x2 x3 S k30 = some r → (∀ (e2 : Int32), k30 e2 = some r → Z l yX3_gladTogether M_X3_gladTogether 30 [(2, .int e2)] [] S (some (.int r)) S) → Z l yX3_gladTogether M_X3_gladTogether 4 [(0, .ref q0), (1, .int x1), (2, .int x2), (3, .int x3)] [] S (some (.int r)) S := by
  intro n
  induction n with
  | zero =>
    intro x1 x2 x3 S k30 r h hk30
    exact absurd h (by rw [f_X3_gladTogether_L4]; exact fun q => by cases q)
  | succ n ih =>
    intro x1 x2 x3 S k30 r h hk30
    rw [f_X3_gladTogether_L4] at h
    refine z_iload_n 3 dX3_gladTogether_4 rfl ?_
    refine z_aload_n 0 dX3_gladTogether_5 rfl ?_
    refine z_get (v := .int (S.1 q0 0)) dX3_gladTogether_6 fl_3_29 hq0 rfl ?_
    refine z_icmp_ge (tgt := 30) dX3_gladTogether_9 (by decide) (fun c1 => ?_) (fun c1 => ?_)
    · replace h := ip c1 h
      refine z_sub (lv' := [(2, .int x2)]) [2] rfl ?_
      exact hk30 _ h
    · replace h := ig c1 h
      refine z_iload_n 2 dX3_gladTogether_12 rfl ?_
      refine z_aload_n 0 dX3_gladTogether_13 rfl ?_
      refine z_iload_n 3 dX3_gladTogether_14 rfl ?_
      obtain ⟨v2, hv2, h⟩ := ob h
      refine z_callV (as := [.int x3]) dX3_gladTogether_15 ml_3_43 mv_X3_at (t_X3_at l hq0 hv2) hq0 ⟨by decide, rfl⟩ rfl rfl (Nat.le_of_ble_eq_true rfl) ⟨Nat.le_of_ble_eq_true rfl, Nat.le_of_ble_eq_true rfl⟩ rfl ?_
      refine z_iload_n 1 dX3_gladTogether_18 rfl ?_
      obtain ⟨v3, hv3, h⟩ := ob h
      refine z_callV (as := [.int x1]) dX3_gladTogether_19 ml_3_76 mv_X6_howGlad (t_X6_howGlad l (kd_at hq0 hv2) hv3) (kd_at hq0 hv2) ⟨by decide, rfl⟩ rfl rfl (Nat.le_of_ble_eq_true rfl) ⟨Nat.le_of_ble_eq_true rfl, Nat.le_of_ble_eq_true rfl⟩ rfl ?_
      refine z_iadd dX3_gladTogether_22 ?_
      refine z_istore_n (lv' := [(0, .ref q0), (1, .int x1), (2, .int (x2 + v3)), (3, .int x3)]) [1, 2, 0, 3] dX3_gladTogether_23 (Nat.le_of_ble_eq_true rfl) rfl ?_
      refine z_iinc (lv' := [(0, .ref q0), (1, .int x1), (2, .int (x2 + v3)), (3, .int (x3 + 1))]) (v := x3 + 1) 3 [1, 2, 3, 0] dX3_gladTogether_24 rfl rfl (Nat.le_of_ble_eq_true rfl) rfl ?_
      refine z_goto (tgt := 4) dX3_gladTogether_27 (by decide) ?_
      refine z_sub (lv' := [(0, .ref q0), (1, .int x1), (2, .int (x2 + v3)), (3, .int (x3 + 1))]) [0, 1, 2, 3] rfl ?_
      exact ih _ _ _ _ _ _ h hk30
set_option maxHeartbeats 2000000 in
set_option maxRecDepth 20000 in
theorem t_X3_gladTogether (l : Launch) {S : St} {q0 : Nat} (hq0 : kd q0 = 3) {a1 : Int32} {r : Int32} (h : f_X3_gladTogether q0 a1 S = some r) : CT l yX3_gladTogether M_X3_gladTogether [.ref q0, .int a1] S (some (.int r)) S := by
  rw [f_X3_gladTogether] at h
  refine ct_of (lv := [(0, .ref q0), (1, .int a1)]) (by decide) rfl (Nat.le_of_ble_eq_true rfl) ?_
  refine z_iconst (v := 0) dX3_gladTogether_0 rfl ?_
  refine z_istore_n (lv' := [(0, .ref q0), (1, .int a1), (2, .int 0)]) [1, 2, 0] dX3_gladTogether_1 (Nat.le_of_ble_eq_true rfl) rfl ?_
  refine z_iconst (v := 0) dX3_gladTogether_2 rfl ?_
  refine z_istore_n (lv' := [(0, .ref q0), (1, .int a1), (2, .int 0), (3, .int 0)]) [1, 2, 3, 0] dX3_gladTogether_3 (Nat.le_of_ble_eq_true rfl) rfl ?_
  refine z_sub (lv' := [(0, .ref q0), (1, .int a1), (2, .int 0), (3, .int 0)]) [0, 1, 2, 3] rfl ?_
  refine t_X3_gladTogether_L4 l hq0 _ _ _ _ _ _ _ h ?_
  · intro y4 h
    refine z_iload_n 0 dX3_gladTogether_30 rfl ?_
    obtain rfl := Option.some.inj h
    exact z_iret dX3_gladTogether_31 rfl rfl
set_option maxHeartbeats 2000000 in
set_option maxRecDepth 20000 in
theorem t_X6_gladdestBy_L4 (l : Launch) {q0 : Nat} (hq0 : kd q0 = 6) : ∀ (n : Nat) (x1 : Int32) (x2 : Int32) (x3 : Int32) (S : St) (k34 : Int32 → Option Int32) (r : Int32), f_X6_gladdestBy_L4 n q0 x1 x2 x3 S k34 = some r → (∀ (e2 : Int32), k34 e2 = some r → Z l yX6_gladdestBy M_X6_gladdestBy 34 [(2, .int e2)] [] S (some (.int r)) S) → Z l yX6_gladdestBy M_X6_gladdestBy 4 [(0, .ref q0), (1, .int x1), (2, .int x2), (3, .int x3)] [] S (some (.int r)) S := by
  intro n
  induction n with
  | zero =>
    intro x1 x2 x3 S k34 r h hk34
    exact absurd h (by rw [f_X6_gladdestBy_L4]; exact fun q => by cases q)
  | succ n ih =>
    intro x1 x2 x3 S k34 r h hk34
    rw [f_X6_gladdestBy_L4] at h
    refine z_iload_n 3 dX6_gladdestBy_4 rfl ?_
    refine z_bipush (v := 19) dX6_gladdestBy_5 rfl ?_
    refine z_icmp_gt (tgt := 34) dX6_gladdestBy_7 (by decide) (fun c1 => ?_) (fun c1 => ?_)
    · replace h := ip c1 h
      refine z_sub (lv' := [(2, .int x2)]) [2] rfl ?_
      exact hk34 _ h
    · replace h := ig c1 h
      refine z_iload_n 2 dX6_gladdestBy_10 rfl ?_
      refine z_aload_n 0 dX6_gladdestBy_11 rfl ?_
      refine z_aload_n 0 dX6_gladdestBy_12 rfl ?_
      refine z_iload_n 3 dX6_gladdestBy_13 rfl ?_
      refine z_iconst (v := 5) dX6_gladdestBy_14 rfl ?_
      refine z_imul dX6_gladdestBy_15 ?_
      refine z_iconst (v := 0) dX6_gladdestBy_16 rfl ?_
      refine z_iload_n 1 dX6_gladdestBy_17 rfl ?_
      obtain ⟨v2, hv2, h⟩ := ob h
      refine z_callV (as := [.int (x3 * 5), .int 0, .int x1]) dX6_gladdestBy_18 ml_6_54 mv_X6_yearBy (t_X6_yearBy l hq0 hv2) hq0 ⟨by decide, rfl⟩ rfl rfl (Nat.le_of_ble_eq_true rfl) ⟨Nat.le_of_ble_eq_true rfl, Nat.le_of_ble_eq_true rfl⟩ rfl ?_
      obtain ⟨v3, hv3, h⟩ := ob h
      refine z_callV (as := [.int v2]) dX6_gladdestBy_21 ml_6_35 mv_X6_gladIn (t_X6_gladIn l hq0 hv3) hq0 ⟨by decide, rfl⟩ rfl rfl (Nat.le_of_ble_eq_true rfl) ⟨Nat.le_of_ble_eq_true rfl, Nat.le_of_ble_eq_true rfl⟩ rfl ?_
      refine z_max dX6_gladdestBy_24 mx_6_42 (Nat.le_of_ble_eq_true rfl) (Nat.le_of_ble_eq_true rfl) ?_
      refine z_istore_n (lv' := [(0, .ref q0), (1, .int x1), (2, .int (if x2 < v3 then v3 else x2)), (3, .int x3)]) [1, 2, 0, 3] dX6_gladdestBy_27 (Nat.le_of_ble_eq_true rfl) rfl ?_
      refine z_iinc (lv' := [(0, .ref q0), (1, .int x1), (2, .int (if x2 < v3 then v3 else x2)), (3, .int (x3 + 1))]) (v := x3 + 1) 3 [1, 2, 3, 0] dX6_gladdestBy_28 rfl rfl (Nat.le_of_ble_eq_true rfl) rfl ?_
      refine z_goto (tgt := 4) dX6_gladdestBy_31 (by decide) ?_
      refine z_sub (lv' := [(0, .ref q0), (1, .int x1), (2, .int (if x2 < v3 then v3 else x2)), (3, .int (x3 + 1))]) [0, 1, 2, 3] rfl ?_
      exact ih _ _ _ _ _ _ h hk34
set_option maxHeartbeats 2000000 in
set_option maxRecDepth 20000 in
theorem t_X6_gladdestBy (l : Launch) {S : St} {q0 : Nat} (hq0 : kd q0 = 6) {a1 : Int32} {r : Int32} (h : f_X6_gladdestBy q0 a1 S = some r) : CT l yX6_gladdestBy M_X6_gladdestBy [.ref q0, .int a1] S (some (.int r)) S := by
  rw [f_X6_gladdestBy] at h
  refine ct_of (lv := [(0, .ref q0), (1, .int a1)]) (by decide) rfl (Nat.le_of_ble_eq_true rfl) ?_
  refine z_iconst (v := 0) dX6_gladdestBy_0 rfl ?_
  refine z_istore_n (lv' := [(0, .ref q0), (1, .int a1), (2, .int 0)]) [1, 2, 0] dX6_gladdestBy_1 (Nat.le_of_ble_eq_true rfl) rfl ?_
  refine z_iconst (v := 0) dX6_gladdestBy_2 rfl ?_
  refine z_istore_n (lv' := [(0, .ref q0), (1, .int a1), (2, .int 0), (3, .int 0)]) [1, 2, 3, 0] dX6_gladdestBy_3 (Nat.le_of_ble_eq_true rfl) rfl ?_
  refine z_sub (lv' := [(0, .ref q0), (1, .int a1), (2, .int 0), (3, .int 0)]) [0, 1, 2, 3] rfl ?_
  refine t_X6_gladdestBy_L4 l hq0 _ _ _ _ _ _ _ h ?_
  · intro y4 h
    refine z_iload_n 0 dX6_gladdestBy_34 rfl ?_
    obtain rfl := Option.some.inj h
    exact z_iret dX6_gladdestBy_35 rfl rfl
set_option maxHeartbeats 2000000 in
set_option maxRecDepth 20000 in
theorem t_X6_cost (l : Launch) {S : St} {q0 : Nat} (hq0 : kd q0 = 6)  {r : Int32} (h : f_X6_cost q0 S = some r) : CT l yX6_cost M_X6_cost [.ref q0] S (some (.int r)) S := by
  rw [f_X6_cost] at h
  refine ct_of (lv := [(0, .ref q0)]) (by decide) rfl (Nat.le_of_ble_eq_true rfl) ?_
  refine z_aload_n 0 dX6_cost_0 rfl ?_
  refine z_get (v := .int (S.1 q0 0)) dX6_cost_1 fl_6_19 hq0 rfl ?_
  refine z_iconst (v := 4) dX6_cost_4 rfl ?_
  refine z_icmp_ne (tgt := 17) dX6_cost_5 (by decide) (fun c1 => ?_) (fun c1 => ?_)
  · replace h := ig c1 h
    refine z_iconst (v := 1) dX6_cost_17 rfl ?_
    obtain rfl := Option.some.inj h
    exact z_iret dX6_cost_18 rfl rfl
  · replace h := ip c1 h
    refine z_iconst (v := 1) dX6_cost_8 rfl ?_
    refine z_aload_n 0 dX6_cost_9 rfl ?_
    refine z_get (v := .int (S.1 q0 1)) dX6_cost_10 fl_6_22 hq0 rfl ?_
    refine z_iadd dX6_cost_13 ?_
    refine z_goto (tgt := 18) dX6_cost_14 (by decide) ?_
    obtain rfl := Option.some.inj h
    exact z_iret dX6_cost_18 rfl rfl
set_option maxHeartbeats 2000000 in
set_option maxRecDepth 20000 in
theorem t_X1_weigh_L29 (l : Launch) {q1 : Nat} (hq1 : kd q1 = 3) : ∀ (n : Nat) (x2 : Int32) (x3 : Int32) (S : St) (k86 : St → Option St) (r : St), f_X1_weigh_L29 n q1 x2 x3 S k86 = some r → (∀ (T : St), k86 T = some r → Z l yX1_weigh M_X1_weigh 86 [] [] T none r) → Z l yX1_weigh M_X1_weigh 29 [(0, .ref 64), (1, .ref q1), (2, .int x2), (3, .int x3)] [] S none r := by
  intro n
  induction n with
  | zero =>
    intro x2 x3 S k86 r h hk86
    exact absurd h (by rw [f_X1_weigh_L29]; exact fun q => by cases q)
  | succ n ih =>
    intro x2 x3 S k86 r h hk86
    rw [f_X1_weigh_L29] at h
    refine z_iload_n 3 dX1_weigh_29 rfl ?_
    refine z_aload_n 1 dX1_weigh_30 rfl ?_
    refine z_get (v := .int (S.1 q1 0)) dX1_weigh_31 fl_1_28 hq1 rfl ?_
    refine z_icmp_ge (tgt := 86) dX1_weigh_34 (by decide) (fun c3 => ?_) (fun c3 => ?_)
    · replace h := ip c3 h
      refine z_sub (lv' := []) [] rfl ?_
      exact hk86 _ h
    · replace h := ig c3 h
      refine z_iload_n 3 dX1_weigh_37 rfl ?_
      refine z_bipush (v := 8) dX1_weigh_38 rfl ?_
      refine z_icmp_ge (tgt := 86) dX1_weigh_40 (by decide) (fun c4 => ?_) (fun c4 => ?_)
      · replace h := ip c4 h
        refine z_sub (lv' := []) [] rfl ?_
        exact hk86 _ h
      · replace h := ig c4 h
        refine z_aload_n 1 dX1_weigh_43 rfl ?_
        refine z_iload_n 3 dX1_weigh_44 rfl ?_
        obtain ⟨v5, hv5, h⟩ := ob h
        refine z_callV (as := [.int x3]) dX1_weigh_45 ml_1_41 mv_X3_at (t_X3_at l hq1 hv5) hq1 ⟨by decide, rfl⟩ rfl rfl (Nat.le_of_ble_eq_true rfl) ⟨Nat.le_of_ble_eq_true rfl, Nat.le_of_ble_eq_true rfl⟩ rfl ?_
        refine z_astore (lv' := [(0, .ref 64), (1, .ref q1), (2, .int x2), (3, .int x3), (4, .ref v5)]) [1, 2, 3, 4, 0] dX1_weigh_48 (Nat.le_of_ble_eq_true rfl) rfl ?_
        refine z_aload_n 0 dX1_weigh_50 rfl ?_
        refine z_get (v := .ref 65) dX1_weigh_51 fl_1_9 kdl_64 rfl ?_
        refine z_iload_n 3 dX1_weigh_54 rfl ?_
        refine z_aload 4 dX1_weigh_55 rfl ?_
        refine z_iload_n 2 dX1_weigh_57 rfl ?_
        obtain ⟨v6, hv6, h⟩ := ob h
        refine z_callV (as := [.int x2]) dX1_weigh_58 ml_1_45 mv_X6_gladdestBy (t_X6_gladdestBy l (kd_at hq1 hv5) hv6) (kd_at hq1 hv5) ⟨by decide, rfl⟩ rfl rfl (Nat.le_of_ble_eq_true rfl) ⟨Nat.le_of_ble_eq_true rfl, Nat.le_of_ble_eq_true rfl⟩ rfl ?_
        refine z_aload 4 dX1_weigh_61 rfl ?_
        refine z_iload_n 2 dX1_weigh_63 rfl ?_
        obtain ⟨v7, hv7, h⟩ := ob h
        refine z_callV (as := [.int x2]) dX1_weigh_64 ml_1_50 mv_X6_gladIn (t_X6_gladIn l (kd_at hq1 hv5) hv7) (kd_at hq1 hv5) ⟨by decide, rfl⟩ rfl rfl (Nat.le_of_ble_eq_true rfl) ⟨Nat.le_of_ble_eq_true rfl, Nat.le_of_ble_eq_true rfl⟩ rfl ?_
        refine z_isub dX1_weigh_67 ?_
        obtain ⟨c8, h⟩ := oi h
        refine z_iast dX1_weigh_68 kdl_65 (by decide) c8 ?_
        refine z_aload_n 0 dX1_weigh_69 rfl ?_
        refine z_get (v := .ref 66) dX1_weigh_70 fl_1_15 kdl_64 rfl ?_
        refine z_iload_n 3 dX1_weigh_73 rfl ?_
        refine z_aload 4 dX1_weigh_74 rfl ?_
        obtain ⟨v9, hv9, h⟩ := ob h
        refine z_callV (as := []) dX1_weigh_76 ml_1_53 mv_X6_cost (t_X6_cost l (kd_at hq1 hv5) hv9) (kd_at hq1 hv5) ⟨by decide, rfl⟩ rfl rfl (Nat.le_of_ble_eq_true rfl) ⟨Nat.le_of_ble_eq_true rfl, Nat.le_of_ble_eq_true rfl⟩ rfl ?_
        obtain ⟨c10, h⟩ := oi h
        refine z_iast dX1_weigh_79 kdl_66 (by decide) c10 ?_
        refine z_iinc (lv' := [(0, .ref 64), (1, .ref q1), (2, .int x2), (3, .int (x3 + 1)), (4, .ref v5)]) (v := x3 + 1) 3 [1, 2, 3, 0, 4] dX1_weigh_80 rfl rfl (Nat.le_of_ble_eq_true rfl) rfl ?_
        refine z_goto (tgt := 29) dX1_weigh_83 (by decide) ?_
        refine z_sub (lv' := [(0, .ref 64), (1, .ref q1), (2, .int x2), (3, .int (x3 + 1))]) [0, 1, 2, 3] rfl ?_
        exact ih _ _ _ _ _ h hk86
set_option maxHeartbeats 2000000 in
set_option maxRecDepth 20000 in
theorem t_X1_weigh (l : Launch) {S : St} {q1 : Nat} (hq1 : kd q1 = 3) {a2 : Int32} {r : St} (h : f_X1_weigh q1 a2 S = some r) : CT l yX1_weigh M_X1_weigh [.ref 64, .ref q1, .int a2] S none r := by
  rw [f_X1_weigh] at h
  refine ct_of (lv := [(0, .ref 64), (1, .ref q1), (2, .int a2)]) (by decide) rfl (Nat.le_of_ble_eq_true rfl) ?_
  refine z_aload_n 0 dX1_weigh_0 rfl ?_
  refine z_aload_n 1 dX1_weigh_1 rfl ?_
  obtain ⟨v1, hv1, h⟩ := ob h
  refine z_callV (as := []) dX1_weigh_2 ml_1_18 mv_X3_setBits (t_X3_setBits l hq1 hv1) hq1 ⟨by decide, rfl⟩ rfl rfl (Nat.le_of_ble_eq_true rfl) ⟨Nat.le_of_ble_eq_true rfl, Nat.le_of_ble_eq_true rfl⟩ rfl ?_
  refine z_put (fk := 2) dX1_weigh_5 fl_1_24 fp_1_2 kdl_64 rfl rfl rfl (Nat.le_of_ble_eq_true rfl) ?_
  refine z_aload_n 0 dX1_weigh_8 rfl ?_
  refine z_iconst (v := 1) dX1_weigh_9 rfl ?_
  refine z_aload_n 1 dX1_weigh_10 rfl ?_
  refine z_get (v := .int ((up S 64 2 v1).1 q1 0)) dX1_weigh_11 fl_1_28 hq1 rfl ?_
  refine z_ishl dX1_weigh_14 ?_
  refine z_put (fk := 3) dX1_weigh_15 fl_1_31 fp_1_3 kdl_64 rfl rfl rfl (Nat.le_of_ble_eq_true rfl) ?_
  refine z_aload_n 0 dX1_weigh_18 rfl ?_
  refine z_aload_n 1 dX1_weigh_19 rfl ?_
  refine z_iload_n 2 dX1_weigh_20 rfl ?_
  obtain ⟨v2, hv2, h⟩ := ob h
  refine z_callV (as := [.int a2]) dX1_weigh_21 ml_1_34 mv_X3_gladTogether (t_X3_gladTogether l hq1 hv2) hq1 ⟨by decide, rfl⟩ rfl rfl (Nat.le_of_ble_eq_true rfl) ⟨Nat.le_of_ble_eq_true rfl, Nat.le_of_ble_eq_true rfl⟩ rfl ?_
  refine z_put (fk := 4) dX1_weigh_24 fl_1_38 fp_1_4 kdl_64 rfl rfl rfl (Nat.le_of_ble_eq_true rfl) ?_
  refine z_iconst (v := 0) dX1_weigh_27 rfl ?_
  refine z_istore_n (lv' := [(0, .ref 64), (1, .ref q1), (2, .int a2), (3, .int 0)]) [1, 2, 3, 0] dX1_weigh_28 (Nat.le_of_ble_eq_true rfl) rfl ?_
  refine z_sub (lv' := [(0, .ref 64), (1, .ref q1), (2, .int a2), (3, .int 0)]) [0, 1, 2, 3] rfl ?_
  refine t_X1_weigh_L29 l hq1 _ _ _ _ _ _ h ?_
  · intro S11 h
    obtain rfl := Option.some.inj h
    exact z_vret dX1_weigh_86 rfl
set_option maxHeartbeats 2000000 in
set_option maxRecDepth 20000 in
theorem t_X1_sumOver_L4 (l : Launch) {q1 : Nat} (hq1 : kd q1 = 10) : ∀ (n : Nat) (x0 : Int32) (x2 : Int32) (x3 : Int32) (S : St) (k35 : Int32 → Option Int32) (r : Int32), f_X1_sumOver_L4 n x0 q1 x2 x3 S k35 = some r → (∀ (e2 : Int32), k35 e2 = some r → Z l yX1_sumOver M_X1_sumOver 35 [(2, .int e2)] [] S (some (.int r)) S) → Z l yX1_sumOver M_X1_sumOver 4 [(0, .int x0), (1, .ref q1), (2, .int x2), (3, .int x3)] [] S (some (.int r)) S := by
  intro n
  induction n with
  | zero =>
    intro x0 x2 x3 S k35 r h hk35
    exact absurd h (by rw [f_X1_sumOver_L4]; exact fun q => by cases q)
  | succ n ih =>
    intro x0 x2 x3 S k35 r h hk35
    rw [f_X1_sumOver_L4] at h
    refine z_iload_n 3 dX1_sumOver_4 rfl ?_
    refine z_aload_n 1 dX1_sumOver_5 rfl ?_
    refine z_alen (v := 8) dX1_sumOver_6 hq1 (by decide) rfl ?_
    refine z_icmp_ge (tgt := 35) dX1_sumOver_7 (by decide) (fun c1 => ?_) (fun c1 => ?_)
    · replace h := ip c1 h
      refine z_sub (lv' := [(2, .int x2)]) [2] rfl ?_
      exact hk35 _ h
    · replace h := ig c1 h
      refine z_iload_n 2 dX1_sumOver_10 rfl ?_
      refine z_iload_n 0 dX1_sumOver_11 rfl ?_
      refine z_iload_n 3 dX1_sumOver_12 rfl ?_
      refine z_ishr dX1_sumOver_13 ?_
      refine z_iconst (v := 1) dX1_sumOver_14 rfl ?_
      refine z_iand dX1_sumOver_15 ?_
      refine z_iconst (v := 1) dX1_sumOver_16 rfl ?_
      refine z_icmp_ne (tgt := 26) dX1_sumOver_17 (by decide) (fun c2 => ?_) (fun c2 => ?_)
      · replace h := ig c2 h
        refine z_iconst (v := 0) dX1_sumOver_26 rfl ?_
        refine z_iadd dX1_sumOver_27 ?_
        refine z_istore_n (lv' := [(0, .int x0), (1, .ref q1), (2, .int (x2 + 0)), (3, .int x3)]) [1, 2, 0, 3] dX1_sumOver_28 (Nat.le_of_ble_eq_true rfl) rfl ?_
        refine z_iinc (lv' := [(0, .int x0), (1, .ref q1), (2, .int (x2 + 0)), (3, .int (x3 + 1))]) (v := x3 + 1) 3 [1, 2, 3, 0] dX1_sumOver_29 rfl rfl (Nat.le_of_ble_eq_true rfl) rfl ?_
        refine z_goto (tgt := 4) dX1_sumOver_32 (by decide) ?_
        refine z_sub (lv' := [(0, .int x0), (1, .ref q1), (2, .int (x2 + 0)), (3, .int (x3 + 1))]) [0, 1, 2, 3] rfl ?_
        exact ih _ _ _ _ _ _ h hk35
      · replace h := ip c2 h
        refine z_aload_n 1 dX1_sumOver_20 rfl ?_
        refine z_iload_n 3 dX1_sumOver_21 rfl ?_
        obtain ⟨c3, h⟩ := oi h
        refine z_iald dX1_sumOver_22 hq1 (by decide) c3 ?_
        refine z_goto (tgt := 27) dX1_sumOver_23 (by decide) ?_
        refine z_iadd dX1_sumOver_27 ?_
        refine z_istore_n (lv' := [(0, .int x0), (1, .ref q1), (2, .int (x2 + (S.1 q1 x3.toNatClampNeg))), (3, .int x3)]) [1, 2, 0, 3] dX1_sumOver_28 (Nat.le_of_ble_eq_true rfl) rfl ?_
        refine z_iinc (lv' := [(0, .int x0), (1, .ref q1), (2, .int (x2 + (S.1 q1 x3.toNatClampNeg))), (3, .int (x3 + 1))]) (v := x3 + 1) 3 [1, 2, 3, 0] dX1_sumOver_29 rfl rfl (Nat.le_of_ble_eq_true rfl) rfl ?_
        refine z_goto (tgt := 4) dX1_sumOver_32 (by decide) ?_
        refine z_sub (lv' := [(0, .int x0), (1, .ref q1), (2, .int (x2 + (S.1 q1 x3.toNatClampNeg))), (3, .int (x3 + 1))]) [0, 1, 2, 3] rfl ?_
        exact ih _ _ _ _ _ _ h hk35
set_option maxHeartbeats 2000000 in
set_option maxRecDepth 20000 in
theorem t_X1_sumOver (l : Launch) {S : St} {q1 : Nat} (hq1 : kd q1 = 10) {a0 : Int32} {r : Int32} (h : f_X1_sumOver a0 q1 S = some r) : CT l yX1_sumOver M_X1_sumOver [.int a0, .ref q1] S (some (.int r)) S := by
  rw [f_X1_sumOver] at h
  refine ct_of (lv := [(0, .int a0), (1, .ref q1)]) (by decide) rfl (Nat.le_of_ble_eq_true rfl) ?_
  refine z_iconst (v := 0) dX1_sumOver_0 rfl ?_
  refine z_istore_n (lv' := [(0, .int a0), (1, .ref q1), (2, .int 0)]) [1, 2, 0] dX1_sumOver_1 (Nat.le_of_ble_eq_true rfl) rfl ?_
  refine z_iconst (v := 0) dX1_sumOver_2 rfl ?_
  refine z_istore_n (lv' := [(0, .int a0), (1, .ref q1), (2, .int 0), (3, .int 0)]) [1, 2, 3, 0] dX1_sumOver_3 (Nat.le_of_ble_eq_true rfl) rfl ?_
  refine z_sub (lv' := [(0, .int a0), (1, .ref q1), (2, .int 0), (3, .int 0)]) [0, 1, 2, 3] rfl ?_
  refine t_X1_sumOver_L4 l hq1 _ _ _ _ _ _ _ h ?_
  · intro y4 h
    refine z_iload_n 0 dX1_sumOver_35 rfl ?_
    obtain rfl := Option.some.inj h
    exact z_iret dX1_sumOver_36 rfl rfl
set_option maxHeartbeats 2000000 in
set_option maxRecDepth 20000 in
theorem t_X1_gainOf (l : Launch) {S : St}  {a1 : Int32} {r : Int32} (h : f_X1_gainOf a1 S = some r) : CT l yX1_gainOf M_X1_gainOf [.ref 64, .int a1] S (some (.int r)) S := by
  rw [f_X1_gainOf] at h
  refine ct_of (lv := [(0, .ref 64), (1, .int a1)]) (by decide) rfl (Nat.le_of_ble_eq_true rfl) ?_
  refine z_iload_n 1 dX1_gainOf_0 rfl ?_
  refine z_aload_n 0 dX1_gainOf_1 rfl ?_
  refine z_get (v := .ref 65) dX1_gainOf_2 fl_1_9 kdl_64 rfl ?_
  obtain ⟨v1, hv1, h⟩ := ob h
  refine z_callS (as := [.int a1, .ref 65]) dX1_gainOf_5 ml_1_56 ms_X1_sumOver (t_X1_sumOver l kdl_65 hv1) rfl rfl (Nat.le_of_ble_eq_true rfl) ⟨Nat.le_of_ble_eq_true rfl, Nat.le_of_ble_eq_true rfl⟩ rfl ?_
  obtain rfl := Option.some.inj h
  exact z_iret dX1_gainOf_8 rfl rfl
set_option maxHeartbeats 2000000 in
set_option maxRecDepth 20000 in
theorem t_X1_bestBits_L7 (l : Launch)   : ∀ (n : Nat) (x1 : Int32) (x2 : Int32) (x3 : Int32) (x4 : Int32) (S : St) (k65 : Int32 → Option Int32) (r : Int32), f_X1_bestBits_L7 n x1 x2 x3 x4 S k65 = some r → (∀ (e2 : Int32), k65 e2 = some r → Z l yX1_bestBits M_X1_bestBits 65 [(2, .int e2)] [] S (some (.int r)) S) → Z l yX1_bestBits M_X1_bestBits 7 [(0, .ref 64), (1, .int x1), (2, .int x2), (3, .int x3), (4, .int x4)] [] S (some (.int r)) S := by
  intro n
  induction n with
  | zero =>
    intro x1 x2 x3 x4 S k65 r h hk65
    exact absurd h (by rw [f_X1_bestBits_L7]; exact fun q => by cases q)
  | succ n ih =>
    intro x1 x2 x3 x4 S k65 r h hk65
    rw [f_X1_bestBits_L7] at h
    refine z_iload 4 dX1_bestBits_7 rfl ?_
    refine z_aload_n 0 dX1_bestBits_9 rfl ?_
    refine z_get (v := .int (S.1 64 3)) dX1_bestBits_10 fl_1_31 kdl_64 rfl ?_
    refine z_icmp_ge (tgt := 65) dX1_bestBits_13 (by decide) (fun c1 => ?_) (fun c1 => ?_)
    · replace h := ip c1 h
      refine z_sub (lv' := [(2, .int x2)]) [2] rfl ?_
      exact hk65 _ h
    · replace h := ig c1 h
      refine z_iload 4 dX1_bestBits_16 rfl ?_
      refine z_aload_n 0 dX1_bestBits_18 rfl ?_
      refine z_get (v := .int (S.1 64 2)) dX1_bestBits_19 fl_1_24 kdl_64 rfl ?_
      refine z_iand dX1_bestBits_22 ?_
      refine z_if_ne (tgt := 59) dX1_bestBits_23 (by decide) (fun c2 => ?_) (fun c2 => ?_)
      · replace h := ig c2 h
        refine z_iinc (lv' := [(0, .ref 64), (1, .int x1), (2, .int x2), (3, .int x3), (4, .int (x4 + 1))]) (v := x4 + 1) 4 [1, 2, 3, 4, 0] dX1_bestBits_59 rfl rfl (Nat.le_of_ble_eq_true rfl) rfl ?_
        refine z_goto (tgt := 7) dX1_bestBits_62 (by decide) ?_
        refine z_sub (lv' := [(0, .ref 64), (1, .int x1), (2, .int x2), (3, .int x3), (4, .int (x4 + 1))]) [0, 1, 2, 3, 4] rfl ?_
        exact ih _ _ _ _ _ _ _ h hk65
      · replace h := ip c2 h
        refine z_aload_n 0 dX1_bestBits_26 rfl ?_
        refine z_iload 4 dX1_bestBits_27 rfl ?_
        obtain ⟨v3, hv3, h⟩ := ob h
        refine z_callV (as := [.int x4]) dX1_bestBits_29 ml_1_60 mv_X1_gainOf (t_X1_gainOf l hv3) kdl_64 ⟨by decide, rfl⟩ rfl rfl (Nat.le_of_ble_eq_true rfl) ⟨Nat.le_of_ble_eq_true rfl, Nat.le_of_ble_eq_true rfl⟩ rfl ?_
        refine z_iload_n 3 dX1_bestBits_32 rfl ?_
        refine z_icmp_le (tgt := 59) dX1_bestBits_33 (by decide) (fun c4 => ?_) (fun c4 => ?_)
        · replace h := ip c4 h
          refine z_iinc (lv' := [(0, .ref 64), (1, .int x1), (2, .int x2), (3, .int x3), (4, .int (x4 + 1))]) (v := x4 + 1) 4 [1, 2, 3, 4, 0] dX1_bestBits_59 rfl rfl (Nat.le_of_ble_eq_true rfl) rfl ?_
          refine z_goto (tgt := 7) dX1_bestBits_62 (by decide) ?_
          refine z_sub (lv' := [(0, .ref 64), (1, .int x1), (2, .int x2), (3, .int x3), (4, .int (x4 + 1))]) [0, 1, 2, 3, 4] rfl ?_
          exact ih _ _ _ _ _ _ _ h hk65
        · replace h := ig c4 h
          refine z_iload 4 dX1_bestBits_36 rfl ?_
          refine z_aload_n 0 dX1_bestBits_38 rfl ?_
          refine z_get (v := .ref 66) dX1_bestBits_39 fl_1_15 kdl_64 rfl ?_
          obtain ⟨v5, hv5, h⟩ := ob h
          refine z_callS (as := [.int x4, .ref 66]) dX1_bestBits_42 ml_1_56 ms_X1_sumOver (t_X1_sumOver l kdl_66 hv5) rfl rfl (Nat.le_of_ble_eq_true rfl) ⟨Nat.le_of_ble_eq_true rfl, Nat.le_of_ble_eq_true rfl⟩ rfl ?_
          refine z_iload_n 1 dX1_bestBits_45 rfl ?_
          refine z_icmp_gt (tgt := 59) dX1_bestBits_46 (by decide) (fun c6 => ?_) (fun c6 => ?_)
          · replace h := ip c6 h
            refine z_iinc (lv' := [(0, .ref 64), (1, .int x1), (2, .int x2), (3, .int x3), (4, .int (x4 + 1))]) (v := x4 + 1) 4 [1, 2, 3, 4, 0] dX1_bestBits_59 rfl rfl (Nat.le_of_ble_eq_true rfl) rfl ?_
            refine z_goto (tgt := 7) dX1_bestBits_62 (by decide) ?_
            refine z_sub (lv' := [(0, .ref 64), (1, .int x1), (2, .int x2), (3, .int x3), (4, .int (x4 + 1))]) [0, 1, 2, 3, 4] rfl ?_
            exact ih _ _ _ _ _ _ _ h hk65
          · replace h := ig c6 h
            refine z_iload 4 dX1_bestBits_49 rfl ?_
            refine z_istore_n (lv' := [(0, .ref 64), (1, .int x1), (2, .int x4), (3, .int x3), (4, .int x4)]) [1, 2, 0, 3, 4] dX1_bestBits_51 (Nat.le_of_ble_eq_true rfl) rfl ?_
            refine z_aload_n 0 dX1_bestBits_52 rfl ?_
            refine z_iload 4 dX1_bestBits_53 rfl ?_
            obtain ⟨v7, hv7, h⟩ := ob h
            refine z_callV (as := [.int x4]) dX1_bestBits_55 ml_1_60 mv_X1_gainOf (t_X1_gainOf l hv7) kdl_64 ⟨by decide, rfl⟩ rfl rfl (Nat.le_of_ble_eq_true rfl) ⟨Nat.le_of_ble_eq_true rfl, Nat.le_of_ble_eq_true rfl⟩ rfl ?_
            refine z_istore_n (lv' := [(0, .ref 64), (1, .int x1), (2, .int x4), (3, .int v7), (4, .int x4)]) [1, 2, 3, 0, 4] dX1_bestBits_58 (Nat.le_of_ble_eq_true rfl) rfl ?_
            refine z_iinc (lv' := [(0, .ref 64), (1, .int x1), (2, .int x4), (3, .int v7), (4, .int (x4 + 1))]) (v := x4 + 1) 4 [1, 2, 3, 4, 0] dX1_bestBits_59 rfl rfl (Nat.le_of_ble_eq_true rfl) rfl ?_
            refine z_goto (tgt := 7) dX1_bestBits_62 (by decide) ?_
            refine z_sub (lv' := [(0, .ref 64), (1, .int x1), (2, .int x4), (3, .int v7), (4, .int (x4 + 1))]) [0, 1, 2, 3, 4] rfl ?_
            exact ih _ _ _ _ _ _ _ h hk65
set_option maxHeartbeats 2000000 in
set_option maxRecDepth 20000 in
theorem t_X1_bestBits (l : Launch) {S : St}  {a1 : Int32} {r : Int32} (h : f_X1_bestBits a1 S = some r) : CT l yX1_bestBits M_X1_bestBits [.ref 64, .int a1] S (some (.int r)) S := by
  rw [f_X1_bestBits] at h
  refine ct_of (lv := [(0, .ref 64), (1, .int a1)]) (by decide) rfl (Nat.le_of_ble_eq_true rfl) ?_
  refine z_iconst (v := 0) dX1_bestBits_0 rfl ?_
  refine z_istore_n (lv' := [(0, .ref 64), (1, .int a1), (2, .int 0)]) [1, 2, 0] dX1_bestBits_1 (Nat.le_of_ble_eq_true rfl) rfl ?_
  refine z_iconst (v := 0) dX1_bestBits_2 rfl ?_
  refine z_istore_n (lv' := [(0, .ref 64), (1, .int a1), (2, .int 0), (3, .int 0)]) [1, 2, 3, 0] dX1_bestBits_3 (Nat.le_of_ble_eq_true rfl) rfl ?_
  refine z_iconst (v := 0) dX1_bestBits_4 rfl ?_
  refine z_istore (lv' := [(0, .ref 64), (1, .int a1), (2, .int 0), (3, .int 0), (4, .int 0)]) [1, 2, 3, 4, 0] dX1_bestBits_5 (Nat.le_of_ble_eq_true rfl) rfl ?_
  refine z_sub (lv' := [(0, .ref 64), (1, .int a1), (2, .int 0), (3, .int 0), (4, .int 0)]) [0, 1, 2, 3, 4] rfl ?_
  refine t_X1_bestBits_L7 l _ _ _ _ _ _ _ _ h ?_
  · intro y8 h
    refine z_iload_n 0 dX1_bestBits_65 rfl ?_
    obtain rfl := Option.some.inj h
    exact z_iret dX1_bestBits_66 rfl rfl
set_option maxHeartbeats 2000000 in
set_option maxRecDepth 20000 in
theorem t_X1_fewestFor_L5 (l : Launch)   : ∀ (n : Nat) (x1 : Int32) (x2 : Int32) (x3 : Int32) (S : St) (k50 : Int32 → Option Int32) (r : Int32), f_X1_fewestFor_L5 n x1 x2 x3 S k50 = some r → (∀ (e2 : Int32), k50 e2 = some r → Z l yX1_fewestFor M_X1_fewestFor 50 [(2, .int e2)] [] S (some (.int r)) S) → Z l yX1_fewestFor M_X1_fewestFor 5 [(0, .ref 64), (1, .int x1), (2, .int x2), (3, .int x3)] [] S (some (.int r)) S := by
  intro n
  induction n with
  | zero =>
    intro x1 x2 x3 S k50 r h hk50
    exact absurd h (by rw [f_X1_fewestFor_L5]; exact fun q => by cases q)
  | succ n ih =>
    intro x1 x2 x3 S k50 r h hk50
    rw [f_X1_fewestFor_L5] at h
    refine z_iload_n 3 dX1_fewestFor_5 rfl ?_
    refine z_aload_n 0 dX1_fewestFor_6 rfl ?_
    refine z_get (v := .int (S.1 64 3)) dX1_fewestFor_7 fl_1_31 kdl_64 rfl ?_
    refine z_icmp_ge (tgt := 50) dX1_fewestFor_10 (by decide) (fun c1 => ?_) (fun c1 => ?_)
    · replace h := ip c1 h
      refine z_sub (lv' := [(2, .int x2)]) [2] rfl ?_
      exact hk50 _ h
    · replace h := ig c1 h
      refine z_iload_n 3 dX1_fewestFor_13 rfl ?_
      refine z_aload_n 0 dX1_fewestFor_14 rfl ?_
      refine z_get (v := .int (S.1 64 2)) dX1_fewestFor_15 fl_1_24 kdl_64 rfl ?_
      refine z_iand dX1_fewestFor_18 ?_
      refine z_if_ne (tgt := 44) dX1_fewestFor_19 (by decide) (fun c2 => ?_) (fun c2 => ?_)
      · replace h := ig c2 h
        refine z_iinc (lv' := [(0, .ref 64), (1, .int x1), (2, .int x2), (3, .int (x3 + 1))]) (v := x3 + 1) 3 [1, 2, 3, 0] dX1_fewestFor_44 rfl rfl (Nat.le_of_ble_eq_true rfl) rfl ?_
        refine z_goto (tgt := 5) dX1_fewestFor_47 (by decide) ?_
        refine z_sub (lv' := [(0, .ref 64), (1, .int x1), (2, .int x2), (3, .int (x3 + 1))]) [0, 1, 2, 3] rfl ?_
        exact ih _ _ _ _ _ _ h hk50
      · replace h := ip c2 h
        refine z_aload_n 0 dX1_fewestFor_22 rfl ?_
        refine z_iload_n 3 dX1_fewestFor_23 rfl ?_
        obtain ⟨v3, hv3, h⟩ := ob h
        refine z_callV (as := [.int x3]) dX1_fewestFor_24 ml_1_60 mv_X1_gainOf (t_X1_gainOf l hv3) kdl_64 ⟨by decide, rfl⟩ rfl rfl (Nat.le_of_ble_eq_true rfl) ⟨Nat.le_of_ble_eq_true rfl, Nat.le_of_ble_eq_true rfl⟩ rfl ?_
        refine z_iload_n 1 dX1_fewestFor_27 rfl ?_
        refine z_icmp_ne (tgt := 44) dX1_fewestFor_28 (by decide) (fun c4 => ?_) (fun c4 => ?_)
        · replace h := ig c4 h
          refine z_iinc (lv' := [(0, .ref 64), (1, .int x1), (2, .int x2), (3, .int (x3 + 1))]) (v := x3 + 1) 3 [1, 2, 3, 0] dX1_fewestFor_44 rfl rfl (Nat.le_of_ble_eq_true rfl) rfl ?_
          refine z_goto (tgt := 5) dX1_fewestFor_47 (by decide) ?_
          refine z_sub (lv' := [(0, .ref 64), (1, .int x1), (2, .int x2), (3, .int (x3 + 1))]) [0, 1, 2, 3] rfl ?_
          exact ih _ _ _ _ _ _ h hk50
        · replace h := ip c4 h
          refine z_iload_n 2 dX1_fewestFor_31 rfl ?_
          refine z_iload_n 3 dX1_fewestFor_32 rfl ?_
          refine z_aload_n 0 dX1_fewestFor_33 rfl ?_
          refine z_get (v := .ref 66) dX1_fewestFor_34 fl_1_15 kdl_64 rfl ?_
          obtain ⟨v5, hv5, h⟩ := ob h
          refine z_callS (as := [.int x3, .ref 66]) dX1_fewestFor_37 ml_1_56 ms_X1_sumOver (t_X1_sumOver l kdl_66 hv5) rfl rfl (Nat.le_of_ble_eq_true rfl) ⟨Nat.le_of_ble_eq_true rfl, Nat.le_of_ble_eq_true rfl⟩ rfl ?_
          refine z_min dX1_fewestFor_40 mn_1_63 (by decide) (Nat.le_of_ble_eq_true rfl) ?_
          refine z_istore_n (lv' := [(0, .ref 64), (1, .int x1), (2, .int (if v5 < x2 then v5 else x2)), (3, .int x3)]) [1, 2, 0, 3] dX1_fewestFor_43 (Nat.le_of_ble_eq_true rfl) rfl ?_
          refine z_iinc (lv' := [(0, .ref 64), (1, .int x1), (2, .int (if v5 < x2 then v5 else x2)), (3, .int (x3 + 1))]) (v := x3 + 1) 3 [1, 2, 3, 0] dX1_fewestFor_44 rfl rfl (Nat.le_of_ble_eq_true rfl) rfl ?_
          refine z_goto (tgt := 5) dX1_fewestFor_47 (by decide) ?_
          refine z_sub (lv' := [(0, .ref 64), (1, .int x1), (2, .int (if v5 < x2 then v5 else x2)), (3, .int (x3 + 1))]) [0, 1, 2, 3] rfl ?_
          exact ih _ _ _ _ _ _ h hk50
set_option maxHeartbeats 2000000 in
set_option maxRecDepth 20000 in
theorem t_X1_fewestFor (l : Launch) {S : St}  {a1 : Int32} {r : Int32} (h : f_X1_fewestFor a1 S = some r) : CT l yX1_fewestFor M_X1_fewestFor [.ref 64, .int a1] S (some (.int r)) S := by
  rw [f_X1_fewestFor] at h
  refine ct_of (lv := [(0, .ref 64), (1, .int a1)]) (by decide) rfl (Nat.le_of_ble_eq_true rfl) ?_
  refine z_bipush (v := 99) dX1_fewestFor_0 rfl ?_
  refine z_istore_n (lv' := [(0, .ref 64), (1, .int a1), (2, .int 99)]) [1, 2, 0] dX1_fewestFor_2 (Nat.le_of_ble_eq_true rfl) rfl ?_
  refine z_iconst (v := 0) dX1_fewestFor_3 rfl ?_
  refine z_istore_n (lv' := [(0, .ref 64), (1, .int a1), (2, .int 99), (3, .int 0)]) [1, 2, 3, 0] dX1_fewestFor_4 (Nat.le_of_ble_eq_true rfl) rfl ?_
  refine z_sub (lv' := [(0, .ref 64), (1, .int a1), (2, .int 99), (3, .int 0)]) [0, 1, 2, 3] rfl ?_
  refine t_X1_fewestFor_L5 l _ _ _ _ _ _ _ h ?_
  · intro y6 h
    refine z_iload_n 0 dX1_fewestFor_50 rfl ?_
    obtain rfl := Option.some.inj h
    exact z_iret dX1_fewestFor_51 rfl rfl
set_option maxHeartbeats 2000000 in
set_option maxRecDepth 20000 in
theorem t_X2_isFull (l : Launch) {S : St}   {r : Int32} (h : f_X2_isFull S = some r) : CT l yX2_isFull M_X2_isFull [.ref 62] S (some (.int r)) S := by
  rw [f_X2_isFull] at h
  refine ct_of (lv := [(0, .ref 62)]) (by decide) rfl (Nat.le_of_ble_eq_true rfl) ?_
  refine z_aload_n 0 dX2_isFull_0 rfl ?_
  refine z_get (v := .int (S.1 62 1)) dX2_isFull_1 fl_2_15 kdl_62 rfl ?_
  refine z_bipush (v := 16) dX2_isFull_4 rfl ?_
  refine z_icmp_lt (tgt := 13) dX2_isFull_6 (by decide) (fun c1 => ?_) (fun c1 => ?_)
  · replace h := ip c1 h
    refine z_iconst (v := 0) dX2_isFull_13 rfl ?_
    obtain rfl := Option.some.inj h
    exact z_iret dX2_isFull_14 rfl rfl
  · replace h := ig c1 h
    refine z_iconst (v := 1) dX2_isFull_9 rfl ?_
    refine z_goto (tgt := 14) dX2_isFull_10 (by decide) ?_
    obtain rfl := Option.some.inj h
    exact z_iret dX2_isFull_14 rfl rfl
set_option maxHeartbeats 2000000 in
set_option maxRecDepth 20000 in
theorem t_X2_put (l : Launch) {S : St}  {a1 : Int32} {r : St} (h : f_X2_put a1 S = some r) : CT l yX2_put M_X2_put [.ref 62, .int a1] S none r := by
  rw [f_X2_put] at h
  refine ct_of (lv := [(0, .ref 62), (1, .int a1)]) (by decide) rfl (Nat.le_of_ble_eq_true rfl) ?_
  refine z_aload_n 0 dX2_put_0 rfl ?_
  obtain ⟨v1, hv1, h⟩ := ob h
  refine z_callV (as := []) dX2_put_1 ml_2_19 mv_X2_isFull (t_X2_isFull l hv1) kdl_62 ⟨by decide, rfl⟩ rfl rfl (Nat.le_of_ble_eq_true rfl) ⟨Nat.le_of_ble_eq_true rfl, Nat.le_of_ble_eq_true rfl⟩ rfl ?_
  refine z_if_ne (tgt := 27) dX2_put_4 (by decide) (fun c2 => ?_) (fun c2 => ?_)
  · replace h := ig c2 h
    obtain rfl := Option.some.inj h
    exact z_vret dX2_put_27 rfl
  · replace h := ip c2 h
    refine z_aload_n 0 dX2_put_7 rfl ?_
    refine z_get (v := .ref 63) dX2_put_8 fl_2_9 kdl_62 rfl ?_
    refine z_aload_n 0 dX2_put_11 rfl ?_
    refine z_get (v := .int (S.1 62 1)) dX2_put_12 fl_2_15 kdl_62 rfl ?_
    refine z_iload_n 1 dX2_put_15 rfl ?_
    obtain ⟨c3, h⟩ := oi h
    refine z_iast dX2_put_16 kdl_63 (by decide) c3 ?_
    refine z_aload_n 0 dX2_put_17 rfl ?_
    refine z_dup dX2_put_18 rfl ?_
    refine z_get (v := .int ((up S 63 (S.1 62 1).toNatClampNeg a1).1 62 1)) dX2_put_19 fl_2_15 kdl_62 rfl ?_
    refine z_iconst (v := 1) dX2_put_22 rfl ?_
    refine z_iadd dX2_put_23 ?_
    refine z_put (fk := 1) dX2_put_24 fl_2_15 fp_2_1 kdl_62 rfl rfl rfl (Nat.le_of_ble_eq_true rfl) ?_
    obtain rfl := Option.some.inj h
    exact z_vret dX2_put_27 rfl
set_option maxHeartbeats 2000000 in
set_option maxRecDepth 20000 in
theorem t_X2_tellsYearsOf_L2 (l : Launch) {q1 : Nat} (hq1 : kd q1 = 6) : ∀ (n : Nat) (x2 : Int32) (x3 : Int32) (S : St) (k34 : Unit → Option Int32) (k42 : Unit → Option Int32) (r : Int32), f_X2_tellsYearsOf_L2 n q1 x2 x3 S k34 k42 = some r → (k34 () = some r → Z l yX2_tellsYearsOf M_X2_tellsYearsOf 34 [] [] S (some (.int r)) S) → (k42 () = some r → Z l yX2_tellsYearsOf M_X2_tellsYearsOf 42 [] [] S (some (.int r)) S) → Z l yX2_tellsYearsOf M_X2_tellsYearsOf 2 [(0, .ref 62), (1, .ref q1), (2, .int x2), (3, .int x3)] [] S (some (.int r)) S := by
  intro n
  induction n with
  | zero =>
    intro x2 x3 S k34 k42 r h hk34 hk42
    exact absurd h (by rw [f_X2_tellsYearsOf_L2]; exact fun q => by cases q)
  | succ n ih =>
    intro x2 x3 S k34 k42 r h hk34 hk42
    rw [f_X2_tellsYearsOf_L2] at h
    refine z_iload_n 3 dX2_tellsYearsOf_2 rfl ?_
    refine z_aload_n 0 dX2_tellsYearsOf_3 rfl ?_
    refine z_get (v := .int (S.1 62 1)) dX2_tellsYearsOf_4 fl_2_15 kdl_62 rfl ?_
    refine z_icmp_ge (tgt := 42) dX2_tellsYearsOf_7 (by decide) (fun c1 => ?_) (fun c1 => ?_)
    · replace h := ip c1 h
      refine z_sub (lv' := []) [] rfl ?_
      exact hk42  h
    · replace h := ig c1 h
      refine z_iload_n 3 dX2_tellsYearsOf_10 rfl ?_
      refine z_bipush (v := 16) dX2_tellsYearsOf_11 rfl ?_
      refine z_icmp_ge (tgt := 42) dX2_tellsYearsOf_13 (by decide) (fun c2 => ?_) (fun c2 => ?_)
      · replace h := ip c2 h
        refine z_sub (lv' := []) [] rfl ?_
        exact hk42  h
      · replace h := ig c2 h
        refine z_aload_n 0 dX2_tellsYearsOf_16 rfl ?_
        refine z_get (v := .ref 63) dX2_tellsYearsOf_17 fl_2_9 kdl_62 rfl ?_
        refine z_iload_n 3 dX2_tellsYearsOf_20 rfl ?_
        obtain ⟨c3, h⟩ := oi h
        refine z_iald dX2_tellsYearsOf_21 kdl_63 (by decide) c3 ?_
        refine z_aload_n 1 dX2_tellsYearsOf_22 rfl ?_
        refine z_iload_n 3 dX2_tellsYearsOf_23 rfl ?_
        refine z_iconst (v := 5) dX2_tellsYearsOf_24 rfl ?_
        refine z_imul dX2_tellsYearsOf_25 ?_
        refine z_iconst (v := 0) dX2_tellsYearsOf_26 rfl ?_
        refine z_iload_n 2 dX2_tellsYearsOf_27 rfl ?_
        obtain ⟨v4, hv4, h⟩ := ob h
        refine z_callV (as := [.int (x3 * 5), .int 0, .int x2]) dX2_tellsYearsOf_28 ml_2_23 mv_X6_yearBy (t_X6_yearBy l hq1 hv4) hq1 ⟨by decide, rfl⟩ rfl rfl (Nat.le_of_ble_eq_true rfl) ⟨Nat.le_of_ble_eq_true rfl, Nat.le_of_ble_eq_true rfl⟩ rfl ?_
        refine z_icmp_eq (tgt := 36) dX2_tellsYearsOf_31 (by decide) (fun c5 => ?_) (fun c5 => ?_)
        · replace h := ip c5 h
          refine z_iinc (lv' := [(0, .ref 62), (1, .ref q1), (2, .int x2), (3, .int (x3 + 1))]) (v := x3 + 1) 3 [1, 2, 3, 0] dX2_tellsYearsOf_36 rfl rfl (Nat.le_of_ble_eq_true rfl) rfl ?_
          refine z_goto (tgt := 2) dX2_tellsYearsOf_39 (by decide) ?_
          refine z_sub (lv' := [(0, .ref 62), (1, .ref q1), (2, .int x2), (3, .int (x3 + 1))]) [0, 1, 2, 3] rfl ?_
          exact ih _ _ _ _ _ _ h hk34 hk42
        · replace h := ig c5 h
          refine z_sub (lv' := []) [] rfl ?_
          exact hk34  h
set_option maxHeartbeats 2000000 in
set_option maxRecDepth 20000 in
theorem t_X2_tellsYearsOf (l : Launch) {S : St} {q1 : Nat} (hq1 : kd q1 = 6) {a2 : Int32} {r : Int32} (h : f_X2_tellsYearsOf q1 a2 S = some r) : CT l yX2_tellsYearsOf M_X2_tellsYearsOf [.ref 62, .ref q1, .int a2] S (some (.int r)) S := by
  rw [f_X2_tellsYearsOf] at h
  refine ct_of (lv := [(0, .ref 62), (1, .ref q1), (2, .int a2)]) (by decide) rfl (Nat.le_of_ble_eq_true rfl) ?_
  refine z_iconst (v := 0) dX2_tellsYearsOf_0 rfl ?_
  refine z_istore_n (lv' := [(0, .ref 62), (1, .ref q1), (2, .int a2), (3, .int 0)]) [1, 2, 3, 0] dX2_tellsYearsOf_1 (Nat.le_of_ble_eq_true rfl) rfl ?_
  refine z_sub (lv' := [(0, .ref 62), (1, .ref q1), (2, .int a2), (3, .int 0)]) [0, 1, 2, 3] rfl ?_
  refine t_X2_tellsYearsOf_L2 l hq1 _ _ _ _ _ _ _ h ?_ ?_
  · intro h
    refine z_iconst (v := 0) dX2_tellsYearsOf_34 rfl ?_
    obtain rfl := Option.some.inj h
    exact z_iret dX2_tellsYearsOf_35 rfl rfl
  · intro h
    refine z_iconst (v := 1) dX2_tellsYearsOf_42 rfl ?_
    obtain rfl := Option.some.inj h
    exact z_iret dX2_tellsYearsOf_43 rfl rfl
set_option maxHeartbeats 2000000 in
set_option maxRecDepth 20000 in
theorem t_X7_noYear (l : Launch) (S : St)  {a0 : Int32} {r : Int32} (h : f_X7_noYear a0 = some r) : CT l yX7_noYear M_X7_noYear [.int a0] S (some (.int r)) S := by
  rw [f_X7_noYear] at h
  refine ct_of (lv := [(0, .int a0)]) (by decide) rfl (Nat.le_of_ble_eq_true rfl) ?_
  refine z_iload_n 0 dX7_noYear_0 rfl ?_
  refine z_if_lt (tgt := 10) dX7_noYear_1 (by decide) (fun c1 => ?_) (fun c1 => ?_)
  · replace h := ip c1 h
    refine z_iconst (v := 1) dX7_noYear_10 rfl ?_
    refine z_goto (tgt := 15) dX7_noYear_11 (by decide) ?_
    obtain rfl := Option.some.inj h
    exact z_iret dX7_noYear_15 rfl rfl
  · replace h := ig c1 h
    refine z_iload_n 0 dX7_noYear_4 rfl ?_
    refine z_bipush (v := 12) dX7_noYear_5 rfl ?_
    refine z_icmp_lt (tgt := 14) dX7_noYear_7 (by decide) (fun c2 => ?_) (fun c2 => ?_)
    · replace h := ip c2 h
      refine z_iconst (v := 0) dX7_noYear_14 rfl ?_
      obtain rfl := Option.some.inj h
      exact z_iret dX7_noYear_15 rfl rfl
    · replace h := ig c2 h
      refine z_iconst (v := 1) dX7_noYear_10 rfl ?_
      refine z_goto (tgt := 15) dX7_noYear_11 (by decide) ?_
      obtain rfl := Option.some.inj h
      exact z_iret dX7_noYear_15 rfl rfl
