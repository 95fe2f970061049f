set_option maxHeartbeats 2000000 in
set_option maxRecDepth 20000 in
theorem t_X7_would (l : Launch) {S : St}  {a1 : Int32} {a2 : Int32} {a3 : Int32} {a4 : Int32} {r : (Int32 × St)} (h : f_X7_would a1 a2 a3 a4 S = some r) : CT l yX7_would M_X7_would [.ref 0, .int a1, .int a2, .int a3, .int a4] S (some (.int r.1)) r.2 := by
  rw [f_X7_would] at h
  refine ct_of (lv := [(0, .ref 0), (1, .int a1), (2, .int a2), (3, .int a3), (4, .int a4)]) (by decide) rfl (Nat.le_of_ble_eq_true rfl) ?_
  refine z_aload_n 0 dX7_would_0 rfl ?_
  refine z_iload_n 1 dX7_would_1 rfl ?_
  refine z_iload_n 2 dX7_would_2 rfl ?_
  refine z_iload_n 3 dX7_would_3 rfl ?_
  obtain ⟨v1, hv1, h⟩ := ob h
  refine z_callV (as := [.int a1, .int a2, .int a3]) dX7_would_4 ml_7_154 mv_X7_heldRefusal (t_X7_heldRefusal l hv1) kdl_0 ⟨by decide, rfl⟩ rfl rfl (Nat.le_of_ble_eq_true rfl) ⟨Nat.le_of_ble_eq_true rfl, Nat.le_of_ble_eq_true rfl⟩ rfl ?_
  refine z_istore (lv' := [(0, .ref 0), (1, .int a1), (2, .int a2), (3, .int a3), (4, .int a4), (5, .int v1)]) [1, 2, 3, 4, 5, 0] dX7_would_7 (Nat.le_of_ble_eq_true rfl) rfl ?_
  refine z_iload 5 dX7_would_9 rfl ?_
  refine z_if_eq (tgt := 21) dX7_would_11 (by decide) (fun c2 => ?_) (fun c2 => ?_)
  · replace h := ip c2 h
    refine z_iload 4 dX7_would_21 rfl ?_
    refine z_if_lt (tgt := 32) dX7_would_23 (by decide) (fun c3 => ?_) (fun c3 => ?_)
    · replace h := ip c3 h
      refine z_aload_n 0 dX7_would_32 rfl ?_
      refine z_bipush (v := (-2)) dX7_would_33 rfl ?_
      obtain ⟨z4, hz4, h⟩ := ob h
      refine z_callV (as := [.int (-2)]) dX7_would_35 ml_7_71 mv_X7_refuse (t_X7_refuse l hz4) kdl_0 ⟨by decide, rfl⟩ rfl rfl (Nat.le_of_ble_eq_true rfl) ⟨Nat.le_of_ble_eq_true rfl, Nat.le_of_ble_eq_true rfl⟩ rfl ?_
      obtain rfl := Option.some.inj h
      exact z_iret dX7_would_38 rfl rfl
    · replace h := ig c3 h
      refine z_iload 4 dX7_would_26 rfl ?_
      refine z_iconst (v := 2) dX7_would_28 rfl ?_
      refine z_icmp_le (tgt := 39) dX7_would_29 (by decide) (fun c5 => ?_) (fun c5 => ?_)
      · replace h := ip c5 h
        refine z_aload_n 0 dX7_would_39 rfl ?_
        refine z_get (v := .ref 1) dX7_would_40 fl_7_12 kdl_0 rfl ?_
        refine z_iload_n 1 dX7_would_43 rfl ?_
        obtain ⟨v6, hv6, h⟩ := ob h
        refine z_callV (as := [.int a1]) dX7_would_44 ml_7_102 mv_X3_at (t_X3_at l kdl_1 hv6) kdl_1 ⟨by decide, rfl⟩ rfl rfl (Nat.le_of_ble_eq_true rfl) ⟨Nat.le_of_ble_eq_true rfl, Nat.le_of_ble_eq_true rfl⟩ rfl ?_
        refine z_astore (lv' := [(0, .ref 0), (1, .int a1), (2, .int a2), (3, .int a3), (4, .int a4), (5, .int v1), (6, .ref v6)]) [1, 2, 3, 4, 5, 6, 0] dX7_would_47 (Nat.le_of_ble_eq_true rfl) rfl ?_
        refine z_iload 4 dX7_would_49 rfl ?_
        refine z_iconst (v := 1) dX7_would_51 rfl ?_
        refine z_icmp_ne (tgt := 63) dX7_would_52 (by decide) (fun c7 => ?_) (fun c7 => ?_)
        · replace h := ig c7 h
          refine z_aload 6 dX7_would_63 rfl ?_
          refine z_iload_n 2 dX7_would_65 rfl ?_
          refine z_iload_n 3 dX7_would_66 rfl ?_
          refine z_aload_n 0 dX7_would_67 rfl ?_
          refine z_get (v := .ref 1) dX7_would_68 fl_7_12 kdl_0 rfl ?_
          refine z_get (v := .int (S.1 1 1)) dX7_would_71 fl_7_115 kdl_1 rfl ?_
          obtain ⟨v8, hv8, h⟩ := ob h
          refine z_callV (as := [.int a2, .int a3, .int (S.1 1 1)]) dX7_would_74 ml_7_168 mv_X6_yearBy (t_X6_yearBy l (kd_at kdl_1 hv6) hv8) (kd_at kdl_1 hv6) ⟨by decide, rfl⟩ rfl rfl (Nat.le_of_ble_eq_true rfl) ⟨Nat.le_of_ble_eq_true rfl, Nat.le_of_ble_eq_true rfl⟩ rfl ?_
          refine z_istore (lv' := [(0, .ref 0), (1, .int a1), (2, .int a2), (3, .int a3), (4, .int a4), (5, .int v1), (6, .ref v6), (7, .int v8)]) [1, 2, 3, 4, 5, 6, 7, 0] dX7_would_77 (Nat.le_of_ble_eq_true rfl) rfl ?_
          refine z_iload 4 dX7_would_79 rfl ?_
          refine z_if_ne (tgt := 89) dX7_would_81 (by decide) (fun c9 => ?_) (fun c9 => ?_)
          · replace h := ig c9 h
            refine z_aload 6 dX7_would_89 rfl ?_
            refine z_iload 7 dX7_would_91 rfl ?_
            obtain ⟨v10, hv10, h⟩ := ob h
            refine z_callV (as := [.int v8]) dX7_would_93 ml_7_127 mv_X6_gladIn (t_X6_gladIn l (kd_at kdl_1 hv6) hv10) (kd_at kdl_1 hv6) ⟨by decide, rfl⟩ rfl rfl (Nat.le_of_ble_eq_true rfl) ⟨Nat.le_of_ble_eq_true rfl, Nat.le_of_ble_eq_true rfl⟩ rfl ?_
            obtain rfl := Option.some.inj h
            exact z_iret dX7_would_96 rfl rfl
          · replace h := ip c9 h
            refine z_iload 7 dX7_would_84 rfl ?_
            refine z_goto (tgt := 96) dX7_would_86 (by decide) ?_
            obtain rfl := Option.some.inj h
            exact z_iret dX7_would_96 rfl rfl
        · replace h := ip c7 h
          refine z_aload 6 dX7_would_55 rfl ?_
          refine z_iload_n 2 dX7_would_57 rfl ?_
          refine z_iload_n 3 dX7_would_58 rfl ?_
          obtain ⟨v11, hv11, h⟩ := ob h
          refine z_callV (as := [.int a2, .int a3]) dX7_would_59 ml_7_164 mv_X6_reach (t_X6_reach l (kd_at kdl_1 hv6) hv11) (kd_at kdl_1 hv6) ⟨by decide, rfl⟩ rfl rfl (Nat.le_of_ble_eq_true rfl) ⟨Nat.le_of_ble_eq_true rfl, Nat.le_of_ble_eq_true rfl⟩ rfl ?_
          obtain rfl := Option.some.inj h
          exact z_iret dX7_would_62 rfl rfl
      · replace h := ig c5 h
        refine z_aload_n 0 dX7_would_32 rfl ?_
        refine z_bipush (v := (-2)) dX7_would_33 rfl ?_
        obtain ⟨z12, hz12, h⟩ := ob h
        refine z_callV (as := [.int (-2)]) dX7_would_35 ml_7_71 mv_X7_refuse (t_X7_refuse l hz12) kdl_0 ⟨by decide, rfl⟩ rfl rfl (Nat.le_of_ble_eq_true rfl) ⟨Nat.le_of_ble_eq_true rfl, Nat.le_of_ble_eq_true rfl⟩ rfl ?_
        obtain rfl := Option.some.inj h
        exact z_iret dX7_would_38 rfl rfl
  · replace h := ig c2 h
    refine z_aload_n 0 dX7_would_14 rfl ?_
    refine z_iload 5 dX7_would_15 rfl ?_
    obtain ⟨z13, hz13, h⟩ := ob h
    refine z_callV (as := [.int v1]) dX7_would_17 ml_7_71 mv_X7_refuse (t_X7_refuse l hz13) kdl_0 ⟨by decide, rfl⟩ rfl rfl (Nat.le_of_ble_eq_true rfl) ⟨Nat.le_of_ble_eq_true rfl, Nat.le_of_ble_eq_true rfl⟩ rfl ?_
    obtain rfl := Option.some.inj h
    exact z_iret dX7_would_20 rfl rfl
set_option maxHeartbeats 2000000 in
set_option maxRecDepth 20000 in
theorem t_X7_can_L21 (l : Launch)   : ∀ (n : Nat) (x1 : Int32) (x2 : Int32) (x3 : Int32) (S : St) (k60 : Int32 → Option (Int32 × St)) (r : (Int32 × St)), f_X7_can_L21 n x1 x2 x3 S k60 = some r → (∀ (e2 : Int32), k60 e2 = some r → Z l yX7_can M_X7_can 60 [(2, .int e2)] [] S (some (.int r.1)) r.2) → Z l yX7_can M_X7_can 21 [(0, .ref 0), (1, .int x1), (2, .int x2), (3, .int x3)] [] S (some (.int r.1)) r.2 := by
  intro n
  induction n with
  | zero =>
    intro x1 x2 x3 S k60 r h hk60
    exact absurd h (by rw [f_X7_can_L21]; exact fun q => by cases q)
  | succ n ih =>
    intro x1 x2 x3 S k60 r h hk60
    rw [f_X7_can_L21] at h
    refine z_iload_n 3 dX7_can_21 rfl ?_
    refine z_bipush (v := 19) dX7_can_22 rfl ?_
    refine z_icmp_gt (tgt := 60) dX7_can_24 (by decide) (fun c3 => ?_) (fun c3 => ?_)
    · replace h := ip c3 h
      refine z_sub (lv' := [(2, .int x2)]) [2] rfl ?_
      exact hk60 _ h
    · replace h := ig c3 h
      refine z_iload_n 2 dX7_can_27 rfl ?_
      refine z_iconst (v := 1) dX7_can_28 rfl ?_
      refine z_aload_n 0 dX7_can_29 rfl ?_
      refine z_get (v := .ref 1) dX7_can_30 fl_7_12 kdl_0 rfl ?_
      refine z_iload_n 1 dX7_can_33 rfl ?_
      obtain ⟨v4, hv4, h⟩ := ob h
      refine z_callV (as := [.int x1]) dX7_can_34 ml_7_102 mv_X3_at (t_X3_at l kdl_1 hv4) kdl_1 ⟨by decide, rfl⟩ rfl rfl (Nat.le_of_ble_eq_true rfl) ⟨Nat.le_of_ble_eq_true rfl, Nat.le_of_ble_eq_true rfl⟩ rfl ?_
      refine z_iload_n 3 dX7_can_37 rfl ?_
      refine z_iconst (v := 5) dX7_can_38 rfl ?_
      refine z_imul dX7_can_39 ?_
      refine z_iconst (v := 0) dX7_can_40 rfl ?_
      refine z_aload_n 0 dX7_can_41 rfl ?_
      refine z_get (v := .ref 1) dX7_can_42 fl_7_12 kdl_0 rfl ?_
      refine z_get (v := .int (S.1 1 1)) dX7_can_45 fl_7_115 kdl_1 rfl ?_
      obtain ⟨v5, hv5, h⟩ := ob h
      refine z_callV (as := [.int (x3 * 5), .int 0, .int (S.1 1 1)]) dX7_can_48 ml_7_168 mv_X6_yearBy (t_X6_yearBy l (kd_at kdl_1 hv4) hv5) (kd_at kdl_1 hv4) ⟨by decide, rfl⟩ rfl rfl (Nat.le_of_ble_eq_true rfl) ⟨Nat.le_of_ble_eq_true rfl, Nat.le_of_ble_eq_true rfl⟩ rfl ?_
      refine z_ishl dX7_can_51 ?_
      refine z_ior dX7_can_52 ?_
      refine z_istore_n (lv' := [(0, .ref 0), (1, .int x1), (2, .int (x2 ||| (1 <<< (v5 &&& 31)))), (3, .int x3)]) [1, 2, 0, 3] dX7_can_53 (Nat.le_of_ble_eq_true rfl) rfl ?_
      refine z_iinc (lv' := [(0, .ref 0), (1, .int x1), (2, .int (x2 ||| (1 <<< (v5 &&& 31)))), (3, .int (x3 + 1))]) (v := x3 + 1) 3 [1, 2, 3, 0] dX7_can_54 rfl rfl (Nat.le_of_ble_eq_true rfl) rfl ?_
      refine z_goto (tgt := 21) dX7_can_57 (by decide) ?_
      refine z_sub (lv' := [(0, .ref 0), (1, .int x1), (2, .int (x2 ||| (1 <<< (v5 &&& 31)))), (3, .int (x3 + 1))]) [0, 1, 2, 3] rfl ?_
      exact ih _ _ _ _ _ _ h hk60
set_option maxHeartbeats 2000000 in
set_option maxRecDepth 20000 in
theorem t_X7_can (l : Launch) {S : St}  {a1 : Int32} {r : (Int32 × St)} (h : f_X7_can a1 S = some r) : CT l yX7_can M_X7_can [.ref 0, .int a1] S (some (.int r.1)) r.2 := by
  rw [f_X7_can] at h
  refine ct_of (lv := [(0, .ref 0), (1, .int a1)]) (by decide) rfl (Nat.le_of_ble_eq_true rfl) ?_
  refine z_aload_n 0 dX7_can_0 rfl ?_
  refine z_get (v := .ref 1) dX7_can_1 fl_7_12 kdl_0 rfl ?_
  refine z_iload_n 1 dX7_can_4 rfl ?_
  obtain ⟨v1, hv1, h⟩ := ob h
  refine z_callV (as := [.int a1]) dX7_can_5 ml_7_98 mv_X3_lacks (t_X3_lacks l kdl_1 hv1) kdl_1 ⟨by decide, rfl⟩ rfl rfl (Nat.le_of_ble_eq_true rfl) ⟨Nat.le_of_ble_eq_true rfl, Nat.le_of_ble_eq_true rfl⟩ rfl ?_
  refine z_if_eq (tgt := 17) dX7_can_8 (by decide) (fun c2 => ?_) (fun c2 => ?_)
  · replace h := ip c2 h
    refine z_iconst (v := 0) dX7_can_17 rfl ?_
    refine z_istore_n (lv' := [(0, .ref 0), (1, .int a1), (2, .int 0)]) [1, 2, 0] dX7_can_18 (Nat.le_of_ble_eq_true rfl) rfl ?_
    refine z_iconst (v := 0) dX7_can_19 rfl ?_
    refine z_istore_n (lv' := [(0, .ref 0), (1, .int a1), (2, .int 0), (3, .int 0)]) [1, 2, 3, 0] dX7_can_20 (Nat.le_of_ble_eq_true rfl) rfl ?_
    refine z_sub (lv' := [(0, .ref 0), (1, .int a1), (2, .int 0), (3, .int 0)]) [0, 1, 2, 3] rfl ?_
    refine t_X7_can_L21 l _ _ _ _ _ _ _ h ?_
    · intro y6 h
      refine z_iload_n 0 dX7_can_60 rfl ?_
      obtain rfl := Option.some.inj h
      exact z_iret dX7_can_61 rfl rfl
  · replace h := ig c2 h
    refine z_aload_n 0 dX7_can_11 rfl ?_
    refine z_iconst (v := (-1)) dX7_can_12 rfl ?_
    obtain ⟨z7, hz7, h⟩ := ob h
    refine z_callV (as := [.int (-1)]) dX7_can_13 ml_7_71 mv_X7_refuse (t_X7_refuse l hz7) kdl_0 ⟨by decide, rfl⟩ rfl rfl (Nat.le_of_ble_eq_true rfl) ⟨Nat.le_of_ble_eq_true rfl, Nat.le_of_ble_eq_true rfl⟩ rfl ?_
    obtain rfl := Option.some.inj h
    exact z_iret dX7_can_16 rfl rfl
set_option maxHeartbeats 2000000 in
set_option maxRecDepth 20000 in
theorem t_X7_fewest (l : Launch) {S : St}  {a1 : Int32} {a2 : Int32} {r : (Int32 × St)} (h : f_X7_fewest a1 a2 S = some r) : CT l yX7_fewest M_X7_fewest [.ref 0, .int a1, .int a2] S (some (.int r.1)) r.2 := by
  rw [f_X7_fewest] at h
  refine ct_of (lv := [(0, .ref 0), (1, .int a1), (2, .int a2)]) (by decide) rfl (Nat.le_of_ble_eq_true rfl) ?_
  refine z_aload_n 0 dX7_fewest_0 rfl ?_
  refine z_get (v := .ref 1) dX7_fewest_1 fl_7_12 kdl_0 rfl ?_
  refine z_iload_n 1 dX7_fewest_4 rfl ?_
  obtain ⟨v1, hv1, h⟩ := ob h
  refine z_callV (as := [.int a1]) dX7_fewest_5 ml_7_98 mv_X3_lacks (t_X3_lacks l kdl_1 hv1) kdl_1 ⟨by decide, rfl⟩ rfl rfl (Nat.le_of_ble_eq_true rfl) ⟨Nat.le_of_ble_eq_true rfl, Nat.le_of_ble_eq_true rfl⟩ rfl ?_
  refine z_if_ne (tgt := 18) dX7_fewest_8 (by decide) (fun c2 => ?_) (fun c2 => ?_)
  · replace h := ig c2 h
    refine z_aload_n 0 dX7_fewest_18 rfl ?_
    refine z_iconst (v := (-1)) dX7_fewest_19 rfl ?_
    obtain ⟨z3, hz3, h⟩ := ob h
    refine z_callV (as := [.int (-1)]) dX7_fewest_20 ml_7_71 mv_X7_refuse (t_X7_refuse l hz3) kdl_0 ⟨by decide, rfl⟩ rfl rfl (Nat.le_of_ble_eq_true rfl) ⟨Nat.le_of_ble_eq_true rfl, Nat.le_of_ble_eq_true rfl⟩ rfl ?_
    obtain rfl := Option.some.inj h
    exact z_iret dX7_fewest_23 rfl rfl
  · replace h := ip c2 h
    refine z_iload_n 2 dX7_fewest_11 rfl ?_
    obtain ⟨v4, hv4, h⟩ := ob h
    refine z_callS (as := [.int a2]) dX7_fewest_12 ml_7_124 ms_X7_noYear (t_X7_noYear l _ hv4) rfl rfl (Nat.le_of_ble_eq_true rfl) ⟨Nat.le_of_ble_eq_true rfl, Nat.le_of_ble_eq_true rfl⟩ rfl ?_
    refine z_if_eq (tgt := 24) dX7_fewest_15 (by decide) (fun c5 => ?_) (fun c5 => ?_)
    · replace h := ip c5 h
      refine z_aload_n 0 dX7_fewest_24 rfl ?_
      refine z_get (v := .ref 1) dX7_fewest_25 fl_7_12 kdl_0 rfl ?_
      refine z_iload_n 1 dX7_fewest_28 rfl ?_
      obtain ⟨v6, hv6, h⟩ := ob h
      refine z_callV (as := [.int a1]) dX7_fewest_29 ml_7_102 mv_X3_at (t_X3_at l kdl_1 hv6) kdl_1 ⟨by decide, rfl⟩ rfl rfl (Nat.le_of_ble_eq_true rfl) ⟨Nat.le_of_ble_eq_true rfl, Nat.le_of_ble_eq_true rfl⟩ rfl ?_
      refine z_iload_n 2 dX7_fewest_32 rfl ?_
      refine z_aload_n 0 dX7_fewest_33 rfl ?_
      refine z_get (v := .ref 1) dX7_fewest_34 fl_7_12 kdl_0 rfl ?_
      refine z_get (v := .int (S.1 1 1)) dX7_fewest_37 fl_7_115 kdl_1 rfl ?_
      obtain ⟨v7, hv7, h⟩ := ob h
      refine z_callV (as := [.int a2, .int (S.1 1 1)]) dX7_fewest_40 ml_7_171 mv_X6_fewestFor (t_X6_fewestFor l (kd_at kdl_1 hv6) hv7) (kd_at kdl_1 hv6) ⟨by decide, rfl⟩ rfl rfl (Nat.le_of_ble_eq_true rfl) ⟨Nat.le_of_ble_eq_true rfl, Nat.le_of_ble_eq_true rfl⟩ rfl ?_
      obtain rfl := Option.some.inj h
      exact z_iret dX7_fewest_43 rfl rfl
    · replace h := ig c5 h
      refine z_aload_n 0 dX7_fewest_18 rfl ?_
      refine z_iconst (v := (-1)) dX7_fewest_19 rfl ?_
      obtain ⟨z8, hz8, h⟩ := ob h
      refine z_callV (as := [.int (-1)]) dX7_fewest_20 ml_7_71 mv_X7_refuse (t_X7_refuse l hz8) kdl_0 ⟨by decide, rfl⟩ rfl rfl (Nat.le_of_ble_eq_true rfl) ⟨Nat.le_of_ble_eq_true rfl, Nat.le_of_ble_eq_true rfl⟩ rfl ?_
      obtain rfl := Option.some.inj h
      exact z_iret dX7_fewest_23 rfl rfl
set_option maxHeartbeats 2000000 in
set_option maxRecDepth 20000 in
theorem t_X7_gladness (l : Launch) {S : St}   {r : Int32} (h : f_X7_gladness S = some r) : CT l yX7_gladness M_X7_gladness [.ref 0] S (some (.int r)) S := by
  rw [f_X7_gladness] at h
  refine ct_of (lv := [(0, .ref 0)]) (by decide) rfl (Nat.le_of_ble_eq_true rfl) ?_
  refine z_aload_n 0 dX7_gladness_0 rfl ?_
  refine z_get (v := .ref 1) dX7_gladness_1 fl_7_12 kdl_0 rfl ?_
  refine z_aload_n 0 dX7_gladness_4 rfl ?_
  refine z_get (v := .ref 1) dX7_gladness_5 fl_7_12 kdl_0 rfl ?_
  refine z_get (v := .int (S.1 1 1)) dX7_gladness_8 fl_7_115 kdl_1 rfl ?_
  obtain ⟨v1, hv1, h⟩ := ob h
  refine z_callV (as := [.int (S.1 1 1)]) dX7_gladness_11 ml_7_174 mv_X3_gladTogether (t_X3_gladTogether l kdl_1 hv1) kdl_1 ⟨by decide, rfl⟩ rfl rfl (Nat.le_of_ble_eq_true rfl) ⟨Nat.le_of_ble_eq_true rfl, Nat.le_of_ble_eq_true rfl⟩ rfl ?_
  obtain rfl := Option.some.inj h
  exact z_iret dX7_gladness_14 rfl rfl
set_option maxHeartbeats 2000000 in
set_option maxRecDepth 20000 in
theorem t_X7_notOneOfTwo (l : Launch) (S : St)  {a0 : Int32} {r : Int32} (h : f_X7_notOneOfTwo a0 = some r) : CT l yX7_notOneOfTwo M_X7_notOneOfTwo [.int a0] S (some (.int r)) S := by
  rw [f_X7_notOneOfTwo] at h
  refine ct_of (lv := [(0, .int a0)]) (by decide) rfl (Nat.le_of_ble_eq_true rfl) ?_
  refine z_iload_n 0 dX7_notOneOfTwo_0 rfl ?_
  refine z_if_lt (tgt := 9) dX7_notOneOfTwo_1 (by decide) (fun c1 => ?_) (fun c1 => ?_)
  · replace h := ip c1 h
    refine z_iconst (v := 1) dX7_notOneOfTwo_9 rfl ?_
    refine z_goto (tgt := 14) dX7_notOneOfTwo_10 (by decide) ?_
    obtain rfl := Option.some.inj h
    exact z_iret dX7_notOneOfTwo_14 rfl rfl
  · replace h := ig c1 h
    refine z_iload_n 0 dX7_notOneOfTwo_4 rfl ?_
    refine z_iconst (v := 1) dX7_notOneOfTwo_5 rfl ?_
    refine z_icmp_le (tgt := 13) dX7_notOneOfTwo_6 (by decide) (fun c2 => ?_) (fun c2 => ?_)
    · replace h := ip c2 h
      refine z_iconst (v := 0) dX7_notOneOfTwo_13 rfl ?_
      obtain rfl := Option.some.inj h
      exact z_iret dX7_notOneOfTwo_14 rfl rfl
    · replace h := ig c2 h
      refine z_iconst (v := 1) dX7_notOneOfTwo_9 rfl ?_
      refine z_goto (tgt := 14) dX7_notOneOfTwo_10 (by decide) ?_
      obtain rfl := Option.some.inj h
      exact z_iret dX7_notOneOfTwo_14 rfl rfl
set_option maxHeartbeats 2000000 in
set_option maxRecDepth 20000 in
theorem t_X7_agree (l : Launch) {S : St}  {a1 : Int32} {r : (Int32 × St)} (h : f_X7_agree a1 S = some r) : CT l yX7_agree M_X7_agree [.ref 0, .int a1] S (some (.int r.1)) r.2 := by
  rw [f_X7_agree] at h
  refine ct_of (lv := [(0, .ref 0), (1, .int a1)]) (by decide) rfl (Nat.le_of_ble_eq_true rfl) ?_
  refine z_iload_n 1 dX7_agree_0 rfl ?_
  obtain ⟨v1, hv1, h⟩ := ob h
  refine z_callS (as := [.int a1]) dX7_agree_1 ml_7_177 ms_X7_notOneOfTwo (t_X7_notOneOfTwo l _ hv1) rfl rfl (Nat.le_of_ble_eq_true rfl) ⟨Nat.le_of_ble_eq_true rfl, Nat.le_of_ble_eq_true rfl⟩ rfl ?_
  refine z_if_eq (tgt := 14) dX7_agree_4 (by decide) (fun c2 => ?_) (fun c2 => ?_)
  · replace h := ip c2 h
    refine z_iload_n 1 dX7_agree_14 rfl ?_
    refine z_if_ne (tgt := 28) dX7_agree_15 (by decide) (fun c3 => ?_) (fun c3 => ?_)
    · replace h := ig c3 h
      refine z_aload_n 0 dX7_agree_28 rfl ?_
      refine z_get (v := .ref 1) dX7_agree_29 fl_7_12 kdl_0 rfl ?_
      obtain ⟨v4, hv4, h⟩ := ob h
      refine z_callV (as := []) dX7_agree_32 ml_7_183 mv_X3_firstApart (t_X3_firstApart l kdl_1 hv4) kdl_1 ⟨by decide, rfl⟩ rfl rfl (Nat.le_of_ble_eq_true rfl) ⟨Nat.le_of_ble_eq_true rfl, Nat.le_of_ble_eq_true rfl⟩ rfl ?_
      obtain rfl := Option.some.inj h
      exact z_iret dX7_agree_35 rfl rfl
    · replace h := ip c3 h
      refine z_aload_n 0 dX7_agree_18 rfl ?_
      refine z_get (v := .ref 1) dX7_agree_19 fl_7_12 kdl_0 rfl ?_
      obtain ⟨v5, hv5, h⟩ := ob h
      refine z_callV (as := []) dX7_agree_22 ml_7_180 mv_X3_countAgreeing (t_X3_countAgreeing l kdl_1 hv5) kdl_1 ⟨by decide, rfl⟩ rfl rfl (Nat.le_of_ble_eq_true rfl) ⟨Nat.le_of_ble_eq_true rfl, Nat.le_of_ble_eq_true rfl⟩ rfl ?_
      refine z_goto (tgt := 35) dX7_agree_25 (by decide) ?_
      obtain rfl := Option.some.inj h
      exact z_iret dX7_agree_35 rfl rfl
  · replace h := ig c2 h
    refine z_aload_n 0 dX7_agree_7 rfl ?_
    refine z_bipush (v := (-2)) dX7_agree_8 rfl ?_
    obtain ⟨z6, hz6, h⟩ := ob h
    refine z_callV (as := [.int (-2)]) dX7_agree_10 ml_7_71 mv_X7_refuse (t_X7_refuse l hz6) kdl_0 ⟨by decide, rfl⟩ rfl rfl (Nat.le_of_ble_eq_true rfl) ⟨Nat.le_of_ble_eq_true rfl, Nat.le_of_ble_eq_true rfl⟩ rfl ?_
    obtain rfl := Option.some.inj h
    exact z_iret dX7_agree_13 rfl rfl
set_option maxHeartbeats 2000000 in
set_option maxRecDepth 20000 in
theorem t_X7_most (l : Launch) {S : St}  {a1 : Int32} {r : (Int32 × St)} (h : f_X7_most a1 S = some r) : CT l yX7_most M_X7_most [.ref 0, .int a1] S (some (.int r.1)) r.2 := by
  rw [f_X7_most] at h
  refine ct_of (lv := [(0, .ref 0), (1, .int a1)]) (by decide) rfl (Nat.le_of_ble_eq_true rfl) ?_
  refine z_iload_n 1 dX7_most_0 rfl ?_
  obtain ⟨v1, hv1, h⟩ := ob h
  refine z_callS (as := [.int a1]) dX7_most_1 ml_7_177 ms_X7_notOneOfTwo (t_X7_notOneOfTwo l _ hv1) rfl rfl (Nat.le_of_ble_eq_true rfl) ⟨Nat.le_of_ble_eq_true rfl, Nat.le_of_ble_eq_true rfl⟩ rfl ?_
  refine z_if_eq (tgt := 14) dX7_most_4 (by decide) (fun c2 => ?_) (fun c2 => ?_)
  · replace h := ip c2 h
    refine z_aload_n 0 dX7_most_14 rfl ?_
    refine z_get (v := .ref 64) dX7_most_15 fl_7_46 kdl_0 rfl ?_
    refine z_aload_n 0 dX7_most_18 rfl ?_
    refine z_get (v := .ref 1) dX7_most_19 fl_7_12 kdl_0 rfl ?_
    refine z_aload_n 0 dX7_most_22 rfl ?_
    refine z_get (v := .ref 1) dX7_most_23 fl_7_12 kdl_0 rfl ?_
    refine z_get (v := .int (S.1 1 1)) dX7_most_26 fl_7_115 kdl_1 rfl ?_
    obtain ⟨S3, hS3, h⟩ := ob h
    refine z_callV (as := [.ref 1, .int (S.1 1 1)]) dX7_most_29 ml_7_186 mv_X1_weigh (t_X1_weigh l kdl_1 hS3) kdl_64 ⟨by decide, rfl⟩ rfl rfl (Nat.le_of_ble_eq_true rfl) ⟨Nat.le_of_ble_eq_true rfl, Nat.le_of_ble_eq_true rfl⟩ rfl ?_
    refine z_aload_n 0 dX7_most_32 rfl ?_
    refine z_get (v := .ref 64) dX7_most_33 fl_7_46 kdl_0 rfl ?_
    refine z_aload_n 0 dX7_most_36 rfl ?_
    refine z_get (v := .ref 1) dX7_most_37 fl_7_12 kdl_0 rfl ?_
    refine z_get (v := .int (S3.1 1 2)) dX7_most_40 fl_7_151 kdl_1 rfl ?_
    obtain ⟨v4, hv4, h⟩ := ob h
    refine z_callV (as := [.int (S3.1 1 2)]) dX7_most_43 ml_7_190 mv_X1_bestBits (t_X1_bestBits l hv4) kdl_64 ⟨by decide, rfl⟩ rfl rfl (Nat.le_of_ble_eq_true rfl) ⟨Nat.le_of_ble_eq_true rfl, Nat.le_of_ble_eq_true rfl⟩ rfl ?_
    refine z_istore_n (lv' := [(0, .ref 0), (1, .int a1), (2, .int v4)]) [1, 2, 0] dX7_most_46 (Nat.le_of_ble_eq_true rfl) rfl ?_
    refine z_iload_n 1 dX7_most_47 rfl ?_
    refine z_if_ne (tgt := 70) dX7_most_48 (by decide) (fun c5 => ?_) (fun c5 => ?_)
    · replace h := ig c5 h
      refine z_iload_n 2 dX7_most_70 rfl ?_
      obtain rfl := Option.some.inj h
      exact z_iret dX7_most_71 rfl rfl
    · replace h := ip c5 h
      refine z_aload_n 0 dX7_most_51 rfl ?_
      refine z_get (v := .ref 64) dX7_most_52 fl_7_46 kdl_0 rfl ?_
      refine z_get (v := .int (S3.1 64 4)) dX7_most_55 fl_7_193 kdl_64 rfl ?_
      refine z_aload_n 0 dX7_most_58 rfl ?_
      refine z_get (v := .ref 64) dX7_most_59 fl_7_46 kdl_0 rfl ?_
      refine z_iload_n 2 dX7_most_62 rfl ?_
      obtain ⟨v6, hv6, h⟩ := ob h
      refine z_callV (as := [.int v4]) dX7_most_63 ml_7_196 mv_X1_gainOf (t_X1_gainOf l hv6) kdl_64 ⟨by decide, rfl⟩ rfl rfl (Nat.le_of_ble_eq_true rfl) ⟨Nat.le_of_ble_eq_true rfl, Nat.le_of_ble_eq_true rfl⟩ rfl ?_
      refine z_iadd dX7_most_66 ?_
      refine z_goto (tgt := 71) dX7_most_67 (by decide) ?_
      obtain rfl := Option.some.inj h
      exact z_iret dX7_most_71 rfl rfl
  · replace h := ig c2 h
    refine z_aload_n 0 dX7_most_7 rfl ?_
    refine z_bipush (v := (-2)) dX7_most_8 rfl ?_
    obtain ⟨z7, hz7, h⟩ := ob h
    refine z_callV (as := [.int (-2)]) dX7_most_10 ml_7_71 mv_X7_refuse (t_X7_refuse l hz7) kdl_0 ⟨by decide, rfl⟩ rfl rfl (Nat.le_of_ble_eq_true rfl) ⟨Nat.le_of_ble_eq_true rfl, Nat.le_of_ble_eq_true rfl⟩ rfl ?_
    obtain rfl := Option.some.inj h
    exact z_iret dX7_most_13 rfl rfl
set_option maxHeartbeats 2000000 in
set_option maxRecDepth 20000 in
theorem t_X7_spendSteps_L29 (l : Launch) {q1 : Nat} (hq1 : kd q1 = 6) : ∀ (n : Nat) (x2 : Int32) (x3 : Int32) (x4 : Int32) (S : St) (k87 : Int32 → Option St) (r : St), f_X7_spendSteps_L29 n q1 x2 x3 x4 S k87 = some r → (∀ (e3 : Int32), k87 e3 = some r → Z l yX7_spendSteps M_X7_spendSteps 87 [(0, .ref 0), (1, .ref q1), (2, .int x2), (3, .int e3)] [] S none r) → Z l yX7_spendSteps M_X7_spendSteps 29 [(0, .ref 0), (1, .ref q1), (2, .int x2), (3, .int x3), (4, .int x4)] [] S none r := by
  intro n
  induction n with
  | zero =>
    intro x2 x3 x4 S k87 r h hk87
    exact absurd h (by rw [f_X7_spendSteps_L29]; exact fun q => by cases q)
  | succ n ih =>
    intro x2 x3 x4 S k87 r h hk87
    rw [f_X7_spendSteps_L29] at h
    refine z_iload 4 dX7_spendSteps_29 rfl ?_
    refine z_iload_n 2 dX7_spendSteps_31 rfl ?_
    refine z_icmp_gt (tgt := 87) dX7_spendSteps_32 (by decide) (fun c4 => ?_) (fun c4 => ?_)
    · replace h := ip c4 h
      refine z_sub (lv' := [(0, .ref 0), (1, .ref q1), (2, .int x2), (3, .int x3)]) [0, 1, 2, 3] rfl ?_
      exact hk87 _ h
    · replace h := ig c4 h
      refine z_aload_n 1 dX7_spendSteps_35 rfl ?_
      obtain ⟨v5, hv5, h⟩ := ob h
      refine z_callV (as := []) dX7_spendSteps_36 ml_7_161 mv_X6_isSet (t_X6_isSet l hq1 hv5) hq1 ⟨by decide, rfl⟩ rfl rfl (Nat.le_of_ble_eq_true rfl) ⟨Nat.le_of_ble_eq_true rfl, Nat.le_of_ble_eq_true rfl⟩ rfl ?_
      refine z_if_ne (tgt := 87) dX7_spendSteps_39 (by decide) (fun c6 => ?_) (fun c6 => ?_)
      · replace h := ig c6 h
        refine z_sub (lv' := [(0, .ref 0), (1, .ref q1), (2, .int x2), (3, .int x3)]) [0, 1, 2, 3] rfl ?_
        exact hk87 _ h
      · replace h := ip c6 h
        refine z_aload_n 1 dX7_spendSteps_42 rfl ?_
        refine z_iload 4 dX7_spendSteps_43 rfl ?_
        refine z_iconst (v := 5) dX7_spendSteps_45 rfl ?_
        refine z_imul dX7_spendSteps_46 ?_
        refine z_iconst (v := 0) dX7_spendSteps_47 rfl ?_
        refine z_aload_n 0 dX7_spendSteps_48 rfl ?_
        refine z_get (v := .ref 1) dX7_spendSteps_49 fl_7_12 kdl_0 rfl ?_
        refine z_get (v := .int (S.1 1 1)) dX7_spendSteps_52 fl_7_115 kdl_1 rfl ?_
        obtain ⟨v7, hv7, h⟩ := ob h
        refine z_callV (as := [.int (x4 * 5), .int 0, .int (S.1 1 1)]) dX7_spendSteps_55 ml_7_168 mv_X6_yearBy (t_X6_yearBy l hq1 hv7) hq1 ⟨by decide, rfl⟩ rfl rfl (Nat.le_of_ble_eq_true rfl) ⟨Nat.le_of_ble_eq_true rfl, Nat.le_of_ble_eq_true rfl⟩ rfl ?_
        refine z_istore (lv' := [(0, .ref 0), (1, .ref q1), (2, .int x2), (3, .int x3), (4, .int x4), (5, .int v7)]) [1, 2, 3, 4, 5, 0] dX7_spendSteps_58 (Nat.le_of_ble_eq_true rfl) rfl ?_
        refine z_iload_n 3 dX7_spendSteps_60 rfl ?_
        refine z_aload_n 0 dX7_spendSteps_61 rfl ?_
        refine z_get (v := .ref 72) dX7_spendSteps_62 fl_7_64 kdl_0 rfl ?_
        refine z_iload_n 2 dX7_spendSteps_65 rfl ?_
        refine z_iload 4 dX7_spendSteps_66 rfl ?_
        refine z_isub dX7_spendSteps_68 ?_
        obtain ⟨c8, h⟩ := oi h
        refine z_iald dX7_spendSteps_69 kdl_72 (by decide) c8 ?_
        refine z_aload_n 1 dX7_spendSteps_70 rfl ?_
        refine z_iload 5 dX7_spendSteps_71 rfl ?_
        obtain ⟨v9, hv9, h⟩ := ob h
        refine z_callV (as := [.int v7]) dX7_spendSteps_73 ml_7_127 mv_X6_gladIn (t_X6_gladIn l hq1 hv9) hq1 ⟨by decide, rfl⟩ rfl rfl (Nat.le_of_ble_eq_true rfl) ⟨Nat.le_of_ble_eq_true rfl, Nat.le_of_ble_eq_true rfl⟩ rfl ?_
        refine z_iadd dX7_spendSteps_76 ?_
        refine z_max dX7_spendSteps_77 mx_7_233 (Nat.le_of_ble_eq_true rfl) (Nat.le_of_ble_eq_true rfl) ?_
        refine z_istore_n (lv' := [(0, .ref 0), (1, .ref q1), (2, .int x2), (3, .int (if x3 < ((S.1 72 (x2 - x4).toNatClampNeg) + v9) then (S.1 72 (x2 - x4).toNatClampNeg) + v9 else x3)), (4, .int x4), (5, .int v7)]) [1, 2, 3, 0, 4, 5] dX7_spendSteps_80 (Nat.le_of_ble_eq_true rfl) rfl ?_
        refine z_iinc (lv' := [(0, .ref 0), (1, .ref q1), (2, .int x2), (3, .int (if x3 < ((S.1 72 (x2 - x4).toNatClampNeg) + v9) then (S.1 72 (x2 - x4).toNatClampNeg) + v9 else x3)), (4, .int (x4 + 1)), (5, .int v7)]) (v := x4 + 1) 4 [1, 2, 3, 4, 0, 5] dX7_spendSteps_81 rfl rfl (Nat.le_of_ble_eq_true rfl) rfl ?_
        refine z_goto (tgt := 29) dX7_spendSteps_84 (by decide) ?_
        refine z_sub (lv' := [(0, .ref 0), (1, .ref q1), (2, .int x2), (3, .int (if x3 < ((S.1 72 (x2 - x4).toNatClampNeg) + v9) then (S.1 72 (x2 - x4).toNatClampNeg) + v9 else x3)), (4, .int (x4 + 1))]) [0, 1, 2, 3, 4] rfl ?_
        exact ih _ _ _ _ _ _ h hk87
set_option maxHeartbeats 2000000 in
set_option maxRecDepth 20000 in
theorem t_X7_spendSteps_L3 (l : Launch) {q1 : Nat} (hq1 : kd q1 = 6) : ∀ (n : Nat) (x2 : Int32) (S : St) (k100 : St → Option St) (r : St), f_X7_spendSteps_L3 n q1 x2 S k100 = some r → (∀ (T : St), k100 T = some r → Z l yX7_spendSteps M_X7_spendSteps 100 [] [] T none r) → Z l yX7_spendSteps M_X7_spendSteps 3 [(0, .ref 0), (1, .ref q1), (2, .int x2)] [] S none r := by
  intro n
  induction n with
  | zero =>
    intro x2 S k100 r h hk100
    exact absurd h (by rw [f_X7_spendSteps_L3]; exact fun q => by cases q)
  | succ n ih =>
    intro x2 S k100 r h hk100
    rw [f_X7_spendSteps_L3] at h
    refine z_iload_n 2 dX7_spendSteps_3 rfl ?_
    refine z_if_lt (tgt := 100) dX7_spendSteps_4 (by decide) (fun c1 => ?_) (fun c1 => ?_)
    · replace h := ip c1 h
      refine z_sub (lv' := []) [] rfl ?_
      exact hk100 _ h
    · replace h := ig c1 h
      refine z_aload_n 0 dX7_spendSteps_7 rfl ?_
      refine z_get (v := .ref 72) dX7_spendSteps_8 fl_7_64 kdl_0 rfl ?_
      refine z_iload_n 2 dX7_spendSteps_11 rfl ?_
      obtain ⟨c2, h⟩ := oi h
      refine z_iald dX7_spendSteps_12 kdl_72 (by decide) c2 ?_
      refine z_aload_n 1 dX7_spendSteps_13 rfl ?_
      refine z_aload_n 0 dX7_spendSteps_14 rfl ?_
      refine z_get (v := .ref 1) dX7_spendSteps_15 fl_7_12 kdl_0 rfl ?_
      refine z_get (v := .int (S.1 1 1)) dX7_spendSteps_18 fl_7_115 kdl_1 rfl ?_
      obtain ⟨v3, hv3, h⟩ := ob h
      refine z_callV (as := [.int (S.1 1 1)]) dX7_spendSteps_21 ml_7_118 mv_X6_howGlad (t_X6_howGlad l hq1 hv3) hq1 ⟨by decide, rfl⟩ rfl rfl (Nat.le_of_ble_eq_true rfl) ⟨Nat.le_of_ble_eq_true rfl, Nat.le_of_ble_eq_true rfl⟩ rfl ?_
      refine z_iadd dX7_spendSteps_24 ?_
      refine z_istore_n (lv' := [(0, .ref 0), (1, .ref q1), (2, .int x2), (3, .int ((S.1 72 x2.toNatClampNeg) + v3))]) [1, 2, 3, 0] dX7_spendSteps_25 (Nat.le_of_ble_eq_true rfl) rfl ?_
      refine z_iconst (v := 0) dX7_spendSteps_26 rfl ?_
      refine z_istore (lv' := [(0, .ref 0), (1, .ref q1), (2, .int x2), (3, .int ((S.1 72 x2.toNatClampNeg) + v3)), (4, .int 0)]) [1, 2, 3, 4, 0] dX7_spendSteps_27 (Nat.le_of_ble_eq_true rfl) rfl ?_
      refine z_sub (lv' := [(0, .ref 0), (1, .ref q1), (2, .int x2), (3, .int ((S.1 72 x2.toNatClampNeg) + v3)), (4, .int 0)]) [0, 1, 2, 3, 4] rfl ?_
      refine t_X7_spendSteps_L29 l hq1 _ _ _ _ _ _ _ h ?_
      · intro y10 h
        refine z_aload_n 0 dX7_spendSteps_87 rfl ?_
        refine z_get (v := .ref 72) dX7_spendSteps_88 fl_7_64 kdl_0 rfl ?_
        refine z_iload_n 2 dX7_spendSteps_91 rfl ?_
        refine z_iload_n 3 dX7_spendSteps_92 rfl ?_
        obtain ⟨c11, h⟩ := oi h
        refine z_iast dX7_spendSteps_93 kdl_72 (by decide) c11 ?_
        refine z_iinc (lv' := [(0, .ref 0), (1, .ref q1), (2, .int (x2 + (-1))), (3, .int y10)]) (v := x2 + (-1)) 2 [1, 2, 0, 3] dX7_spendSteps_94 rfl rfl (Nat.le_of_ble_eq_true rfl) rfl ?_
        refine z_goto (tgt := 3) dX7_spendSteps_97 (by decide) ?_
        refine z_sub (lv' := [(0, .ref 0), (1, .ref q1), (2, .int (x2 + (-1)))]) [0, 1, 2] rfl ?_
        exact ih _ _ _ _ h hk100
set_option maxHeartbeats 2000000 in
set_option maxRecDepth 20000 in
theorem t_X7_spendSteps (l : Launch) {S : St} {q1 : Nat} (hq1 : kd q1 = 6)  {r : St} (h : f_X7_spendSteps q1 S = some r) : CT l yX7_spendSteps M_X7_spendSteps [.ref 0, .ref q1] S none r := by
  rw [f_X7_spendSteps] at h
  refine ct_of (lv := [(0, .ref 0), (1, .ref q1)]) (by decide) rfl (Nat.le_of_ble_eq_true rfl) ?_
  refine z_bipush (v := 19) dX7_spendSteps_0 rfl ?_
  refine z_istore_n (lv' := [(0, .ref 0), (1, .ref q1), (2, .int 19)]) [1, 2, 0] dX7_spendSteps_2 (Nat.le_of_ble_eq_true rfl) rfl ?_
  refine z_sub (lv' := [(0, .ref 0), (1, .ref q1), (2, .int 19)]) [0, 1, 2] rfl ?_
  refine t_X7_spendSteps_L3 l hq1 _ _ _ _ _ h ?_
  · intro S12 h
    obtain rfl := Option.some.inj h
    exact z_vret dX7_spendSteps_100 rfl
set_option maxHeartbeats 2000000 in
set_option maxRecDepth 20000 in
theorem t_X7_byMinutes_L20 (l : Launch)   : ∀ (n : Nat) (x1 : Int32) (x3 : Int32) (S : St) (k39 : St → Option (Int32 × St)) (r : (Int32 × St)), f_X7_byMinutes_L20 n x1 x3 S k39 = some r → (∀ (T : St), k39 T = some r → Z l yX7_byMinutes M_X7_byMinutes 39 [(0, .ref 0), (1, .int x1)] [] T (some (.int r.1)) r.2) → Z l yX7_byMinutes M_X7_byMinutes 20 [(0, .ref 0), (1, .int x1), (3, .int x3)] [] S (some (.int r.1)) r.2 := by
  intro n
  induction n with
  | zero =>
    intro x1 x3 S k39 r h hk39
    exact absurd h (by rw [f_X7_byMinutes_L20]; exact fun q => by cases q)
  | succ n ih =>
    intro x1 x3 S k39 r h hk39
    rw [f_X7_byMinutes_L20] at h
    refine z_iload_n 2 dX7_byMinutes_20 rfl ?_
    refine z_bipush (v := 19) dX7_byMinutes_21 rfl ?_
    refine z_icmp_gt (tgt := 39) dX7_byMinutes_23 (by decide) (fun c3 => ?_) (fun c3 => ?_)
    · replace h := ip c3 h
      refine z_sub (lv' := [(0, .ref 0), (1, .int x1)]) [0, 1] rfl ?_
      exact hk39 _ h
    · replace h := ig c3 h
      refine z_aload_n 0 dX7_byMinutes_26 rfl ?_
      refine z_get (v := .ref 72) dX7_byMinutes_27 fl_7_64 kdl_0 rfl ?_
      refine z_iload_n 2 dX7_byMinutes_30 rfl ?_
      refine z_iconst (v := 0) dX7_byMinutes_31 rfl ?_
      obtain ⟨c4, h⟩ := oi h
      refine z_iast dX7_byMinutes_32 kdl_72 (by decide) c4 ?_
      refine z_iinc (lv' := [(0, .ref 0), (1, .int x1), (3, .int (x3 + 1))]) (v := x3 + 1) 2 [1, 2, 0] dX7_byMinutes_33 rfl rfl (Nat.le_of_ble_eq_true rfl) rfl ?_
      refine z_goto (tgt := 20) dX7_byMinutes_36 (by decide) ?_
      refine z_sub (lv' := [(0, .ref 0), (1, .int x1), (3, .int (x3 + 1))]) [0, 1, 2] rfl ?_
      exact ih _ _ _ _ _ h hk39
set_option maxHeartbeats 2000000 in
set_option maxRecDepth 20000 in
theorem t_X7_byMinutes_L41 (l : Launch)   : ∀ (n : Nat) (x1 : Int32) (x3 : Int32) (S : St) (k70 : St → Option (Int32 × St)) (r : (Int32 × St)), f_X7_byMinutes_L41 n x1 x3 S k70 = some r → (∀ (T : St), k70 T = some r → Z l yX7_byMinutes M_X7_byMinutes 70 [(0, .ref 0), (1, .int x1)] [] T (some (.int r.1)) r.2) → Z l yX7_byMinutes M_X7_byMinutes 41 [(0, .ref 0), (1, .int x1), (3, .int x3)] [] S (some (.int r.1)) r.2 := by
  intro n
  induction n with
  | zero =>
    intro x1 x3 S k70 r h hk70
    exact absurd h (by rw [f_X7_byMinutes_L41]; exact fun q => by cases q)
  | succ n ih =>
    intro x1 x3 S k70 r h hk70
    rw [f_X7_byMinutes_L41] at h
    refine z_iload_n 2 dX7_byMinutes_41 rfl ?_
    refine z_aload_n 0 dX7_byMinutes_42 rfl ?_
    refine z_get (v := .ref 1) dX7_byMinutes_43 fl_7_12 kdl_0 rfl ?_
    refine z_get (v := .int (S.1 1 0)) dX7_byMinutes_46 fl_7_199 kdl_1 rfl ?_
    refine z_icmp_ge (tgt := 70) dX7_byMinutes_49 (by decide) (fun c6 => ?_) (fun c6 => ?_)
    · replace h := ip c6 h
      refine z_sub (lv' := [(0, .ref 0), (1, .int x1)]) [0, 1] rfl ?_
      exact hk70 _ h
    · replace h := ig c6 h
      refine z_aload_n 0 dX7_byMinutes_52 rfl ?_
      refine z_aload_n 0 dX7_byMinutes_53 rfl ?_
      refine z_get (v := .ref 1) dX7_byMinutes_54 fl_7_12 kdl_0 rfl ?_
      refine z_iload_n 2 dX7_byMinutes_57 rfl ?_
      obtain ⟨v7, hv7, h⟩ := ob h
      refine z_callV (as := [.int x3]) dX7_byMinutes_58 ml_7_102 mv_X3_at (t_X3_at l kdl_1 hv7) kdl_1 ⟨by decide, rfl⟩ rfl rfl (Nat.le_of_ble_eq_true rfl) ⟨Nat.le_of_ble_eq_true rfl, Nat.le_of_ble_eq_true rfl⟩ rfl ?_
      obtain ⟨S8, hS8, h⟩ := ob h
      refine z_callV (as := [.ref v7]) dX7_byMinutes_61 ml_7_202 mv_X7_spendSteps (t_X7_spendSteps l (kd_at kdl_1 hv7) hS8) kdl_0 ⟨by decide, rfl⟩ rfl rfl (Nat.le_of_ble_eq_true rfl) ⟨Nat.le_of_ble_eq_true rfl, Nat.le_of_ble_eq_true rfl⟩ rfl ?_
      refine z_iinc (lv' := [(0, .ref 0), (1, .int x1), (3, .int (x3 + 1))]) (v := x3 + 1) 2 [1, 2, 0] dX7_byMinutes_64 rfl rfl (Nat.le_of_ble_eq_true rfl) rfl ?_
      refine z_goto (tgt := 41) dX7_byMinutes_67 (by decide) ?_
      refine z_sub (lv' := [(0, .ref 0), (1, .int x1), (3, .int (x3 + 1))]) [0, 1, 2] rfl ?_
      exact ih _ _ _ _ _ h hk70
set_option maxHeartbeats 2000000 in
set_option maxRecDepth 20000 in
theorem t_X7_byMinutes (l : Launch) {S : St}  {a1 : Int32} {r : (Int32 × St)} (h : f_X7_byMinutes a1 S = some r) : CT l yX7_byMinutes M_X7_byMinutes [.ref 0, .int a1] S (some (.int r.1)) r.2 := by
  rw [f_X7_byMinutes] at h
  refine ct_of (lv := [(0, .ref 0), (1, .int a1)]) (by decide) rfl (Nat.le_of_ble_eq_true rfl) ?_
  refine z_iload_n 1 dX7_byMinutes_0 rfl ?_
  refine z_iconst (v := 0) dX7_byMinutes_1 rfl ?_
  refine z_bipush (v := 99) dX7_byMinutes_2 rfl ?_
  obtain ⟨v1, hv1, h⟩ := ob h
  refine z_callS (as := [.int a1, .int 0, .int 99]) dX7_byMinutes_4 ml_7_137 ms_X7_outside (t_X7_outside l _ hv1) rfl rfl (Nat.le_of_ble_eq_true rfl) ⟨Nat.le_of_ble_eq_true rfl, Nat.le_of_ble_eq_true rfl⟩ rfl ?_
  refine z_istore_n (lv' := [(0, .ref 0), (1, .int a1), (2, .int v1)]) [1, 2, 0] dX7_byMinutes_7 (Nat.le_of_ble_eq_true rfl) rfl ?_
  refine z_iload_n 2 dX7_byMinutes_8 rfl ?_
  refine z_if_eq (tgt := 18) dX7_byMinutes_9 (by decide) (fun c2 => ?_) (fun c2 => ?_)
  · replace h := ip c2 h
    refine z_iconst (v := 0) dX7_byMinutes_18 rfl ?_
    refine z_istore_n (lv' := [(0, .ref 0), (1, .int a1), (2, .int v1), (3, .int 0)]) [1, 2, 3, 0] dX7_byMinutes_19 (Nat.le_of_ble_eq_true rfl) rfl ?_
    refine z_sub (lv' := [(0, .ref 0), (1, .int a1), (3, .int 0)]) [0, 1, 3] rfl ?_
    refine t_X7_byMinutes_L20 l _ _ _ _ _ _ h ?_
    · intro S5 h
      refine z_iconst (v := 0) dX7_byMinutes_39 rfl ?_
      refine z_istore_n (lv' := [(0, .ref 0), (1, .int a1), (3, .int 0)]) [1, 2, 0] dX7_byMinutes_40 (Nat.le_of_ble_eq_true rfl) rfl ?_
      refine z_sub (lv' := [(0, .ref 0), (1, .int a1), (3, .int 0)]) [0, 1, 2] rfl ?_
      refine t_X7_byMinutes_L41 l _ _ _ _ _ _ h ?_
      · intro S9 h
        refine z_aload_n 0 dX7_byMinutes_70 rfl ?_
        refine z_get (v := .ref 72) dX7_byMinutes_71 fl_7_64 kdl_0 rfl ?_
        refine z_iload_n 1 dX7_byMinutes_74 rfl ?_
        refine z_iconst (v := 5) dX7_byMinutes_75 rfl ?_
        refine z_idiv dX7_byMinutes_76 (by decide) ?_
        obtain ⟨c10, h⟩ := oi h
        refine z_iald dX7_byMinutes_77 kdl_72 (by decide) c10 ?_
        obtain rfl := Option.some.inj h
        exact z_iret dX7_byMinutes_78 rfl rfl
  · replace h := ig c2 h
    refine z_aload_n 0 dX7_byMinutes_12 rfl ?_
    refine z_iload_n 2 dX7_byMinutes_13 rfl ?_
    obtain ⟨z11, hz11, h⟩ := ob h
    refine z_callV (as := [.int v1]) dX7_byMinutes_14 ml_7_71 mv_X7_refuse (t_X7_refuse l hz11) kdl_0 ⟨by decide, rfl⟩ rfl rfl (Nat.le_of_ble_eq_true rfl) ⟨Nat.le_of_ble_eq_true rfl, Nat.le_of_ble_eq_true rfl⟩ rfl ?_
    obtain rfl := Option.some.inj h
    exact z_iret dX7_byMinutes_17 rfl rfl
set_option maxHeartbeats 2000000 in
set_option maxRecDepth 20000 in
theorem t_X7_fewDrops (l : Launch) {S : St}   {r : (Int32 × St)} (h : f_X7_fewDrops S = some r) : CT l yX7_fewDrops M_X7_fewDrops [.ref 0] S (some (.int r.1)) r.2 := by
  rw [f_X7_fewDrops] at h
  refine ct_of (lv := [(0, .ref 0)]) (by decide) rfl (Nat.le_of_ble_eq_true rfl) ?_
  refine z_aload_n 0 dX7_fewDrops_0 rfl ?_
  refine z_get (v := .ref 64) dX7_fewDrops_1 fl_7_46 kdl_0 rfl ?_
  refine z_aload_n 0 dX7_fewDrops_4 rfl ?_
  refine z_get (v := .ref 1) dX7_fewDrops_5 fl_7_12 kdl_0 rfl ?_
  refine z_aload_n 0 dX7_fewDrops_8 rfl ?_
  refine z_get (v := .ref 1) dX7_fewDrops_9 fl_7_12 kdl_0 rfl ?_
  refine z_get (v := .int (S.1 1 1)) dX7_fewDrops_12 fl_7_115 kdl_1 rfl ?_
  obtain ⟨S1, hS1, h⟩ := ob h
  refine z_callV (as := [.ref 1, .int (S.1 1 1)]) dX7_fewDrops_15 ml_7_186 mv_X1_weigh (t_X1_weigh l kdl_1 hS1) kdl_64 ⟨by decide, rfl⟩ rfl rfl (Nat.le_of_ble_eq_true rfl) ⟨Nat.le_of_ble_eq_true rfl, Nat.le_of_ble_eq_true rfl⟩ rfl ?_
  refine z_aload_n 0 dX7_fewDrops_18 rfl ?_
  refine z_get (v := .ref 64) dX7_fewDrops_19 fl_7_46 kdl_0 rfl ?_
  refine z_aload_n 0 dX7_fewDrops_22 rfl ?_
  refine z_get (v := .ref 64) dX7_fewDrops_23 fl_7_46 kdl_0 rfl ?_
  refine z_aload_n 0 dX7_fewDrops_26 rfl ?_
  refine z_get (v := .ref 64) dX7_fewDrops_27 fl_7_46 kdl_0 rfl ?_
  refine z_bipush (v := 99) dX7_fewDrops_30 rfl ?_
  obtain ⟨v2, hv2, h⟩ := ob h
  refine z_callV (as := [.int 99]) dX7_fewDrops_32 ml_7_190 mv_X1_bestBits (t_X1_bestBits l hv2) kdl_64 ⟨by decide, rfl⟩ rfl rfl (Nat.le_of_ble_eq_true rfl) ⟨Nat.le_of_ble_eq_true rfl, Nat.le_of_ble_eq_true rfl⟩ rfl ?_
  obtain ⟨v3, hv3, h⟩ := ob h
  refine z_callV (as := [.int v2]) dX7_fewDrops_35 ml_7_196 mv_X1_gainOf (t_X1_gainOf l hv3) kdl_64 ⟨by decide, rfl⟩ rfl rfl (Nat.le_of_ble_eq_true rfl) ⟨Nat.le_of_ble_eq_true rfl, Nat.le_of_ble_eq_true rfl⟩ rfl ?_
  obtain ⟨v4, hv4, h⟩ := ob h
  refine z_callV (as := [.int v3]) dX7_fewDrops_38 ml_7_206 mv_X1_fewestFor (t_X1_fewestFor l hv4) kdl_64 ⟨by decide, rfl⟩ rfl rfl (Nat.le_of_ble_eq_true rfl) ⟨Nat.le_of_ble_eq_true rfl, Nat.le_of_ble_eq_true rfl⟩ rfl ?_
  obtain rfl := Option.some.inj h
  exact z_iret dX7_fewDrops_41 rfl rfl
set_option maxHeartbeats 2000000 in
set_option maxRecDepth 20000 in
theorem t_X7_minutesOfBoth (l : Launch) {S : St} {q1 : Nat} (hq1 : kd q1 = 6) {q2 : Nat} (hq2 : kd q2 = 6) {a3 : Int32} {r : Int32} (h : f_X7_minutesOfBoth q1 q2 a3 S = some r) : CT l yX7_minutesOfBoth M_X7_minutesOfBoth [.ref 0, .ref q1, .ref q2, .int a3] S (some (.int r)) S := by
  rw [f_X7_minutesOfBoth] at h
  refine ct_of (lv := [(0, .ref 0), (1, .ref q1), (2, .ref q2), (3, .int a3)]) (by decide) rfl (Nat.le_of_ble_eq_true rfl) ?_
  refine z_aload_n 1 dX7_minutesOfBoth_0 rfl ?_
  refine z_iload_n 3 dX7_minutesOfBoth_1 rfl ?_
  refine z_aload_n 0 dX7_minutesOfBoth_2 rfl ?_
  refine z_get (v := .ref 1) dX7_minutesOfBoth_3 fl_7_12 kdl_0 rfl ?_
  refine z_get (v := .int (S.1 1 1)) dX7_minutesOfBoth_6 fl_7_115 kdl_1 rfl ?_
  obtain ⟨v1, hv1, h⟩ := ob h
  refine z_callV (as := [.int a3, .int (S.1 1 1)]) dX7_minutesOfBoth_9 ml_7_171 mv_X6_fewestFor (t_X6_fewestFor l hq1 hv1) hq1 ⟨by decide, rfl⟩ rfl rfl (Nat.le_of_ble_eq_true rfl) ⟨Nat.le_of_ble_eq_true rfl, Nat.le_of_ble_eq_true rfl⟩ rfl ?_
  refine z_istore (lv' := [(0, .ref 0), (1, .ref q1), (2, .ref q2), (3, .int a3), (4, .int v1)]) [1, 2, 3, 4, 0] dX7_minutesOfBoth_12 (Nat.le_of_ble_eq_true rfl) rfl ?_
  refine z_aload_n 2 dX7_minutesOfBoth_14 rfl ?_
  refine z_iload_n 3 dX7_minutesOfBoth_15 rfl ?_
  refine z_aload_n 0 dX7_minutesOfBoth_16 rfl ?_
  refine z_get (v := .ref 1) dX7_minutesOfBoth_17 fl_7_12 kdl_0 rfl ?_
  refine z_get (v := .int (S.1 1 1)) dX7_minutesOfBoth_20 fl_7_115 kdl_1 rfl ?_
  obtain ⟨v2, hv2, h⟩ := ob h
  refine z_callV (as := [.int a3, .int (S.1 1 1)]) dX7_minutesOfBoth_23 ml_7_171 mv_X6_fewestFor (t_X6_fewestFor l hq2 hv2) hq2 ⟨by decide, rfl⟩ rfl rfl (Nat.le_of_ble_eq_true rfl) ⟨Nat.le_of_ble_eq_true rfl, Nat.le_of_ble_eq_true rfl⟩ rfl ?_
  refine z_istore (lv' := [(0, .ref 0), (1, .ref q1), (2, .ref q2), (3, .int a3), (4, .int v1), (5, .int v2)]) [1, 2, 3, 4, 5, 0] dX7_minutesOfBoth_26 (Nat.le_of_ble_eq_true rfl) rfl ?_
  refine z_iload 4 dX7_minutesOfBoth_28 rfl ?_
  refine z_bipush (v := (-9)) dX7_minutesOfBoth_30 rfl ?_
  refine z_icmp_eq (tgt := 42) dX7_minutesOfBoth_32 (by decide) (fun c3 => ?_) (fun c3 => ?_)
  · replace h := ip c3 h
    refine z_bipush (v := (-9)) dX7_minutesOfBoth_42 rfl ?_
    refine z_goto (tgt := 52) dX7_minutesOfBoth_44 (by decide) ?_
    obtain rfl := Option.some.inj h
    exact z_iret dX7_minutesOfBoth_52 rfl rfl
  · replace h := ig c3 h
    refine z_iload 5 dX7_minutesOfBoth_35 rfl ?_
    refine z_bipush (v := (-9)) dX7_minutesOfBoth_37 rfl ?_
    refine z_icmp_ne (tgt := 47) dX7_minutesOfBoth_39 (by decide) (fun c4 => ?_) (fun c4 => ?_)
    · replace h := ig c4 h
      refine z_iload 4 dX7_minutesOfBoth_47 rfl ?_
      refine z_iload 5 dX7_minutesOfBoth_49 rfl ?_
      refine z_iadd dX7_minutesOfBoth_51 ?_
      obtain rfl := Option.some.inj h
      exact z_iret dX7_minutesOfBoth_52 rfl rfl
    · replace h := ip c4 h
      refine z_bipush (v := (-9)) dX7_minutesOfBoth_42 rfl ?_
      refine z_goto (tgt := 52) dX7_minutesOfBoth_44 (by decide) ?_
      obtain rfl := Option.some.inj h
      exact z_iret dX7_minutesOfBoth_52 rfl rfl
set_option maxHeartbeats 2000000 in
set_option maxRecDepth 20000 in
theorem t_X7_together_L78 (l : Launch)   : ∀ (n : Nat) (x1 : Int32) (x2 : Int32) (x3 : Int32) (x4 : Int32) (x5 : Int32) (x6 : Int32) (S : St) (k144 : Int32 → Int32 → Option (Int32 × St)) (r : (Int32 × St)), f_X7_together_L78 n x1 x2 x3 x4 x5 x6 S k144 = some r → (∀ (e4 : Int32) (e5 : Int32), k144 e4 e5 = some r → Z l yX7_together M_X7_together 144 [(3, .int x3), (4, .int e4), (5, .int e5)] [] S (some (.int r.1)) r.2) → Z l yX7_together M_X7_together 78 [(0, .ref 0), (1, .int x1), (2, .int x2), (3, .int x3), (4, .int x4), (5, .int x5), (6, .int x6)] [] S (some (.int r.1)) r.2 := by
  intro n
  induction n with
  | zero =>
    intro x1 x2 x3 x4 x5 x6 S k144 r h hk144
    exact absurd h (by rw [f_X7_together_L78]; exact fun q => by cases q)
  | succ n ih =>
    intro x1 x2 x3 x4 x5 x6 S k144 r h hk144
    rw [f_X7_together_L78] at h
    refine z_iload 6 dX7_together_78 rfl ?_
    refine z_bipush (v := 12) dX7_together_80 rfl ?_
    refine z_icmp_ge (tgt := 144) dX7_together_82 (by decide) (fun c12 => ?_) (fun c12 => ?_)
    · replace h := ip c12 h
      refine z_sub (lv' := [(3, .int x3), (4, .int x4), (5, .int x5)]) [3, 4, 5] rfl ?_
      exact hk144 _ _ h
    · replace h := ig c12 h
      refine z_aload_n 0 dX7_together_85 rfl ?_
      refine z_aload_n 0 dX7_together_86 rfl ?_
      refine z_get (v := .ref 1) dX7_together_87 fl_7_12 kdl_0 rfl ?_
      refine z_iload_n 1 dX7_together_90 rfl ?_
      obtain ⟨v13, hv13, h⟩ := ob h
      refine z_callV (as := [.int x1]) dX7_together_91 ml_7_102 mv_X3_at (t_X3_at l kdl_1 hv13) kdl_1 ⟨by decide, rfl⟩ rfl rfl (Nat.le_of_ble_eq_true rfl) ⟨Nat.le_of_ble_eq_true rfl, Nat.le_of_ble_eq_true rfl⟩ rfl ?_
      refine z_aload_n 0 dX7_together_94 rfl ?_
      refine z_get (v := .ref 1) dX7_together_95 fl_7_12 kdl_0 rfl ?_
      refine z_iload_n 2 dX7_together_98 rfl ?_
      obtain ⟨v14, hv14, h⟩ := ob h
      refine z_callV (as := [.int x2]) dX7_together_99 ml_7_102 mv_X3_at (t_X3_at l kdl_1 hv14) kdl_1 ⟨by decide, rfl⟩ rfl rfl (Nat.le_of_ble_eq_true rfl) ⟨Nat.le_of_ble_eq_true rfl, Nat.le_of_ble_eq_true rfl⟩ rfl ?_
      refine z_iload 6 dX7_together_102 rfl ?_
      obtain ⟨v15, hv15, h⟩ := ob h
      refine z_callV (as := [.ref v13, .ref v14, .int x6]) dX7_together_104 ml_7_208 mv_X7_minutesOfBoth (t_X7_minutesOfBoth l (kd_at kdl_1 hv13) (kd_at kdl_1 hv14) hv15) kdl_0 ⟨by decide, rfl⟩ rfl rfl (Nat.le_of_ble_eq_true rfl) ⟨Nat.le_of_ble_eq_true rfl, Nat.le_of_ble_eq_true rfl⟩ rfl ?_
      refine z_istore (lv' := [(0, .ref 0), (1, .int x1), (2, .int x2), (3, .int x3), (4, .int x4), (5, .int x5), (6, .int x6), (7, .int v15)]) [1, 2, 3, 4, 5, 6, 7, 0] dX7_together_107 (Nat.le_of_ble_eq_true rfl) rfl ?_
      refine z_iload 7 dX7_together_109 rfl ?_
      refine z_bipush (v := (-9)) dX7_together_111 rfl ?_
      refine z_icmp_eq (tgt := 138) dX7_together_113 (by decide) (fun c16 => ?_) (fun c16 => ?_)
      · replace h := ip c16 h
        refine z_iinc (lv' := [(0, .ref 0), (1, .int x1), (2, .int x2), (3, .int x3), (4, .int x4), (5, .int x5), (6, .int (x6 + 1)), (7, .int v15)]) (v := x6 + 1) 6 [1, 2, 3, 4, 5, 6, 0, 7] dX7_together_138 rfl rfl (Nat.le_of_ble_eq_true rfl) rfl ?_
        refine z_goto (tgt := 78) dX7_together_141 (by decide) ?_
        refine z_sub (lv' := [(0, .ref 0), (1, .int x1), (2, .int x2), (3, .int x3), (4, .int x4), (5, .int x5), (6, .int (x6 + 1))]) [0, 1, 2, 3, 4, 5, 6] rfl ?_
        exact ih _ _ _ _ _ _ _ _ _ h hk144
      · replace h := ig c16 h
        refine z_iload 4 dX7_together_116 rfl ?_
        refine z_bipush (v := (-9)) dX7_together_118 rfl ?_
        refine z_icmp_eq (tgt := 130) dX7_together_120 (by decide) (fun c17 => ?_) (fun c17 => ?_)
        · replace h := ip c17 h
          refine z_iload 7 dX7_together_130 rfl ?_
          refine z_istore (lv' := [(0, .ref 0), (1, .int x1), (2, .int x2), (3, .int x3), (4, .int v15), (5, .int x5), (6, .int x6), (7, .int v15)]) [1, 2, 3, 4, 0, 5, 6, 7] dX7_together_132 (Nat.le_of_ble_eq_true rfl) rfl ?_
          refine z_iload 6 dX7_together_134 rfl ?_
          refine z_istore (lv' := [(0, .ref 0), (1, .int x1), (2, .int x2), (3, .int x3), (4, .int v15), (5, .int x6), (6, .int x6), (7, .int v15)]) [1, 2, 3, 4, 5, 0, 6, 7] dX7_together_136 (Nat.le_of_ble_eq_true rfl) rfl ?_
          refine z_iinc (lv' := [(0, .ref 0), (1, .int x1), (2, .int x2), (3, .int x3), (4, .int v15), (5, .int x6), (6, .int (x6 + 1)), (7, .int v15)]) (v := x6 + 1) 6 [1, 2, 3, 4, 5, 6, 0, 7] dX7_together_138 rfl rfl (Nat.le_of_ble_eq_true rfl) rfl ?_
          refine z_goto (tgt := 78) dX7_together_141 (by decide) ?_
          refine z_sub (lv' := [(0, .ref 0), (1, .int x1), (2, .int x2), (3, .int x3), (4, .int v15), (5, .int x6), (6, .int (x6 + 1))]) [0, 1, 2, 3, 4, 5, 6] rfl ?_
          exact ih _ _ _ _ _ _ _ _ _ h hk144
        · replace h := ig c17 h
          refine z_iload 7 dX7_together_123 rfl ?_
          refine z_iload 4 dX7_together_125 rfl ?_
          refine z_icmp_ge (tgt := 138) dX7_together_127 (by decide) (fun c18 => ?_) (fun c18 => ?_)
          · replace h := ip c18 h
            refine z_iinc (lv' := [(0, .ref 0), (1, .int x1), (2, .int x2), (3, .int x3), (4, .int x4), (5, .int x5), (6, .int (x6 + 1)), (7, .int v15)]) (v := x6 + 1) 6 [1, 2, 3, 4, 5, 6, 0, 7] dX7_together_138 rfl rfl (Nat.le_of_ble_eq_true rfl) rfl ?_
            refine z_goto (tgt := 78) dX7_together_141 (by decide) ?_
            refine z_sub (lv' := [(0, .ref 0), (1, .int x1), (2, .int x2), (3, .int x3), (4, .int x4), (5, .int x5), (6, .int (x6 + 1))]) [0, 1, 2, 3, 4, 5, 6] rfl ?_
            exact ih _ _ _ _ _ _ _ _ _ h hk144
          · replace h := ig c18 h
            refine z_iload 7 dX7_together_130 rfl ?_
            refine z_istore (lv' := [(0, .ref 0), (1, .int x1), (2, .int x2), (3, .int x3), (4, .int v15), (5, .int x5), (6, .int x6), (7, .int v15)]) [1, 2, 3, 4, 0, 5, 6, 7] dX7_together_132 (Nat.le_of_ble_eq_true rfl) rfl ?_
            refine z_iload 6 dX7_together_134 rfl ?_
            refine z_istore (lv' := [(0, .ref 0), (1, .int x1), (2, .int x2), (3, .int x3), (4, .int v15), (5, .int x6), (6, .int x6), (7, .int v15)]) [1, 2, 3, 4, 5, 0, 6, 7] dX7_together_136 (Nat.le_of_ble_eq_true rfl) rfl ?_
            refine z_iinc (lv' := [(0, .ref 0), (1, .int x1), (2, .int x2), (3, .int x3), (4, .int v15), (5, .int x6), (6, .int (x6 + 1)), (7, .int v15)]) (v := x6 + 1) 6 [1, 2, 3, 4, 5, 6, 0, 7] dX7_together_138 rfl rfl (Nat.le_of_ble_eq_true rfl) rfl ?_
            refine z_goto (tgt := 78) dX7_together_141 (by decide) ?_
            refine z_sub (lv' := [(0, .ref 0), (1, .int x1), (2, .int x2), (3, .int x3), (4, .int v15), (5, .int x6), (6, .int (x6 + 1))]) [0, 1, 2, 3, 4, 5, 6] rfl ?_
            exact ih _ _ _ _ _ _ _ _ _ h hk144
set_option maxHeartbeats 2000000 in
set_option maxRecDepth 20000 in
theorem t_X7_together (l : Launch) {S : St}  {a1 : Int32} {a2 : Int32} {a3 : Int32} {r : (Int32 × St)} (h : f_X7_together a1 a2 a3 S = some r) : CT l yX7_together M_X7_together [.ref 0, .int a1, .int a2, .int a3] S (some (.int r.1)) r.2 := by
  rw [f_X7_together] at h
  refine ct_of (lv := [(0, .ref 0), (1, .int a1), (2, .int a2), (3, .int a3)]) (by decide) rfl (Nat.le_of_ble_eq_true rfl) ?_
  refine z_aload_n 0 dX7_together_0 rfl ?_
  refine z_get (v := .ref 1) dX7_together_1 fl_7_12 kdl_0 rfl ?_
  refine z_iload_n 1 dX7_together_4 rfl ?_
  refine z_iload_n 2 dX7_together_5 rfl ?_
  obtain ⟨v1, hv1, h⟩ := ob h
  refine z_callV (as := [.int a1, .int a2]) dX7_together_6 ml_7_130 mv_X3_lacksTwo (t_X3_lacksTwo l kdl_1 hv1) kdl_1 ⟨by decide, rfl⟩ rfl rfl (Nat.le_of_ble_eq_true rfl) ⟨Nat.le_of_ble_eq_true rfl, Nat.le_of_ble_eq_true rfl⟩ rfl ?_
  refine z_if_eq (tgt := 18) dX7_together_9 (by decide) (fun c2 => ?_) (fun c2 => ?_)
  · replace h := ip c2 h
    refine z_iload_n 3 dX7_together_18 rfl ?_
    obtain ⟨v3, hv3, h⟩ := ob h
    refine z_callS (as := [.int a3]) dX7_together_19 ml_7_177 ms_X7_notOneOfTwo (t_X7_notOneOfTwo l _ hv3) rfl rfl (Nat.le_of_ble_eq_true rfl) ⟨Nat.le_of_ble_eq_true rfl, Nat.le_of_ble_eq_true rfl⟩ rfl ?_
    refine z_if_eq (tgt := 32) dX7_together_22 (by decide) (fun c4 => ?_) (fun c4 => ?_)
    · replace h := ip c4 h
      refine z_aload_n 0 dX7_together_32 rfl ?_
      refine z_get (v := .ref 1) dX7_together_33 fl_7_12 kdl_0 rfl ?_
      refine z_iload_n 1 dX7_together_36 rfl ?_
      obtain ⟨v5, hv5, h⟩ := ob h
      refine z_callV (as := [.int a1]) dX7_together_37 ml_7_102 mv_X3_at (t_X3_at l kdl_1 hv5) kdl_1 ⟨by decide, rfl⟩ rfl rfl (Nat.le_of_ble_eq_true rfl) ⟨Nat.le_of_ble_eq_true rfl, Nat.le_of_ble_eq_true rfl⟩ rfl ?_
      obtain ⟨v6, hv6, h⟩ := ob h
      refine z_callV (as := []) dX7_together_40 ml_7_161 mv_X6_isSet (t_X6_isSet l (kd_at kdl_1 hv5) hv6) (kd_at kdl_1 hv5) ⟨by decide, rfl⟩ rfl rfl (Nat.le_of_ble_eq_true rfl) ⟨Nat.le_of_ble_eq_true rfl, Nat.le_of_ble_eq_true rfl⟩ rfl ?_
      refine z_if_ne (tgt := 60) dX7_together_43 (by decide) (fun c7 => ?_) (fun c7 => ?_)
      · replace h := ig c7 h
        refine z_aload_n 0 dX7_together_60 rfl ?_
        refine z_bipush (v := (-3)) dX7_together_61 rfl ?_
        obtain ⟨z8, hz8, h⟩ := ob h
        refine z_callV (as := [.int (-3)]) dX7_together_63 ml_7_71 mv_X7_refuse (t_X7_refuse l hz8) kdl_0 ⟨by decide, rfl⟩ rfl rfl (Nat.le_of_ble_eq_true rfl) ⟨Nat.le_of_ble_eq_true rfl, Nat.le_of_ble_eq_true rfl⟩ rfl ?_
        obtain rfl := Option.some.inj h
        exact z_iret dX7_together_66 rfl rfl
      · replace h := ip c7 h
        refine z_aload_n 0 dX7_together_46 rfl ?_
        refine z_get (v := .ref 1) dX7_together_47 fl_7_12 kdl_0 rfl ?_
        refine z_iload_n 2 dX7_together_50 rfl ?_
        obtain ⟨v9, hv9, h⟩ := ob h
        refine z_callV (as := [.int a2]) dX7_together_51 ml_7_102 mv_X3_at (t_X3_at l kdl_1 hv9) kdl_1 ⟨by decide, rfl⟩ rfl rfl (Nat.le_of_ble_eq_true rfl) ⟨Nat.le_of_ble_eq_true rfl, Nat.le_of_ble_eq_true rfl⟩ rfl ?_
        obtain ⟨v10, hv10, h⟩ := ob h
        refine z_callV (as := []) dX7_together_54 ml_7_161 mv_X6_isSet (t_X6_isSet l (kd_at kdl_1 hv9) hv10) (kd_at kdl_1 hv9) ⟨by decide, rfl⟩ rfl rfl (Nat.le_of_ble_eq_true rfl) ⟨Nat.le_of_ble_eq_true rfl, Nat.le_of_ble_eq_true rfl⟩ rfl ?_
        refine z_if_eq (tgt := 67) dX7_together_57 (by decide) (fun c11 => ?_) (fun c11 => ?_)
        · replace h := ip c11 h
          refine z_bipush (v := (-9)) dX7_together_67 rfl ?_
          refine z_istore (lv' := [(0, .ref 0), (1, .int a1), (2, .int a2), (3, .int a3), (4, .int (-9))]) [1, 2, 3, 4, 0] dX7_together_69 (Nat.le_of_ble_eq_true rfl) rfl ?_
          refine z_bipush (v := (-9)) dX7_together_71 rfl ?_
          refine z_istore (lv' := [(0, .ref 0), (1, .int a1), (2, .int a2), (3, .int a3), (4, .int (-9)), (5, .int (-9))]) [1, 2, 3, 4, 5, 0] dX7_together_73 (Nat.le_of_ble_eq_true rfl) rfl ?_
          refine z_iconst (v := 0) dX7_together_75 rfl ?_
          refine z_istore (lv' := [(0, .ref 0), (1, .int a1), (2, .int a2), (3, .int a3), (4, .int (-9)), (5, .int (-9)), (6, .int 0)]) [1, 2, 3, 4, 5, 6, 0] dX7_together_76 (Nat.le_of_ble_eq_true rfl) rfl ?_
          refine z_sub (lv' := [(0, .ref 0), (1, .int a1), (2, .int a2), (3, .int a3), (4, .int (-9)), (5, .int (-9)), (6, .int 0)]) [0, 1, 2, 3, 4, 5, 6] rfl ?_
          refine t_X7_together_L78 l _ _ _ _ _ _ _ _ _ _ h ?_
          · intro y19 y20 h
            refine z_iload_n 0 dX7_together_144 rfl ?_
            refine z_if_ne (tgt := 153) dX7_together_145 (by decide) (fun c21 => ?_) (fun c21 => ?_)
            · replace h := ig c21 h
              refine z_iload 2 dX7_together_153 rfl ?_
              obtain rfl := Option.some.inj h
              exact z_iret dX7_together_155 rfl rfl
            · replace h := ip c21 h
              refine z_iload 1 dX7_together_148 rfl ?_
              refine z_goto (tgt := 155) dX7_together_150 (by decide) ?_
              obtain rfl := Option.some.inj h
              exact z_iret dX7_together_155 rfl rfl
        · replace h := ig c11 h
          refine z_aload_n 0 dX7_together_60 rfl ?_
          refine z_bipush (v := (-3)) dX7_together_61 rfl ?_
          obtain ⟨z22, hz22, h⟩ := ob h
          refine z_callV (as := [.int (-3)]) dX7_together_63 ml_7_71 mv_X7_refuse (t_X7_refuse l hz22) kdl_0 ⟨by decide, rfl⟩ rfl rfl (Nat.le_of_ble_eq_true rfl) ⟨Nat.le_of_ble_eq_true rfl, Nat.le_of_ble_eq_true rfl⟩ rfl ?_
          obtain rfl := Option.some.inj h
          exact z_iret dX7_together_66 rfl rfl
    · replace h := ig c4 h
      refine z_aload_n 0 dX7_together_25 rfl ?_
      refine z_bipush (v := (-2)) dX7_together_26 rfl ?_
      obtain ⟨z23, hz23, h⟩ := ob h
      refine z_callV (as := [.int (-2)]) dX7_together_28 ml_7_71 mv_X7_refuse (t_X7_refuse l hz23) kdl_0 ⟨by decide, rfl⟩ rfl rfl (Nat.le_of_ble_eq_true rfl) ⟨Nat.le_of_ble_eq_true rfl, Nat.le_of_ble_eq_true rfl⟩ rfl ?_
      obtain rfl := Option.some.inj h
      exact z_iret dX7_together_31 rfl rfl
  · replace h := ig c2 h
    refine z_aload_n 0 dX7_together_12 rfl ?_
    refine z_iconst (v := (-1)) dX7_together_13 rfl ?_
    obtain ⟨z24, hz24, h⟩ := ob h
    refine z_callV (as := [.int (-1)]) dX7_together_14 ml_7_71 mv_X7_refuse (t_X7_refuse l hz24) kdl_0 ⟨by decide, rfl⟩ rfl rfl (Nat.le_of_ble_eq_true rfl) ⟨Nat.le_of_ble_eq_true rfl, Nat.le_of_ble_eq_true rfl⟩ rfl ?_
    obtain rfl := Option.some.inj h
    exact z_iret dX7_together_17 rfl rfl
set_option maxHeartbeats 2000000 in
set_option maxRecDepth 20000 in
theorem t_X7_queue (l : Launch) {S : St}  {a1 : Int32} {r : (Int32 × St)} (h : f_X7_queue a1 S = some r) : CT l yX7_queue M_X7_queue [.ref 0, .int a1] S (some (.int r.1)) r.2 := by
  rw [f_X7_queue] at h
  refine ct_of (lv := [(0, .ref 0), (1, .int a1)]) (by decide) rfl (Nat.le_of_ble_eq_true rfl) ?_
  refine z_iload_n 1 dX7_queue_0 rfl ?_
  refine z_iconst (v := (-1)) dX7_queue_1 rfl ?_
  refine z_icmp_eq (tgt := 22) dX7_queue_2 (by decide) (fun c1 => ?_) (fun c1 => ?_)
  · replace h := ip c1 h
    refine z_aload_n 0 dX7_queue_22 rfl ?_
    refine z_get (v := .ref 67) dX7_queue_23 fl_7_53 kdl_0 rfl ?_
    refine z_aload_n 0 dX7_queue_26 rfl ?_
    refine z_get (v := .ref 1) dX7_queue_27 fl_7_12 kdl_0 rfl ?_
    obtain ⟨S2, hS2, h⟩ := ob h
    refine z_callV (as := [.ref 1]) dX7_queue_30 ml_7_212 mv_X0_arrange (t_X0_arrange l kdl_1 hS2) kdl_67 ⟨by decide, rfl⟩ rfl rfl (Nat.le_of_ble_eq_true rfl) ⟨Nat.le_of_ble_eq_true rfl, Nat.le_of_ble_eq_true rfl⟩ rfl ?_
    refine z_iload_n 1 dX7_queue_33 rfl ?_
    refine z_iconst (v := (-1)) dX7_queue_34 rfl ?_
    refine z_icmp_ne (tgt := 48) dX7_queue_35 (by decide) (fun c3 => ?_) (fun c3 => ?_)
    · replace h := ig c3 h
      refine z_aload_n 0 dX7_queue_48 rfl ?_
      refine z_get (v := .ref 67) dX7_queue_49 fl_7_53 kdl_0 rfl ?_
      refine z_iload_n 1 dX7_queue_52 rfl ?_
      obtain ⟨v4, hv4, h⟩ := ob h
      refine z_callV (as := [.int a1]) dX7_queue_53 ml_7_218 mv_X0_beginOf (t_X0_beginOf l hv4) kdl_67 ⟨by decide, rfl⟩ rfl rfl (Nat.le_of_ble_eq_true rfl) ⟨Nat.le_of_ble_eq_true rfl, Nat.le_of_ble_eq_true rfl⟩ rfl ?_
      obtain rfl := Option.some.inj h
      exact z_iret dX7_queue_56 rfl rfl
    · replace h := ip c3 h
      refine z_aload_n 0 dX7_queue_38 rfl ?_
      refine z_get (v := .ref 67) dX7_queue_39 fl_7_53 kdl_0 rfl ?_
      refine z_get (v := .int (S2.1 67 2)) dX7_queue_42 fl_7_215 kdl_67 rfl ?_
      refine z_goto (tgt := 56) dX7_queue_45 (by decide) ?_
      obtain rfl := Option.some.inj h
      exact z_iret dX7_queue_56 rfl rfl
  · replace h := ig c1 h
    refine z_aload_n 0 dX7_queue_5 rfl ?_
    refine z_get (v := .ref 1) dX7_queue_6 fl_7_12 kdl_0 rfl ?_
    refine z_iload_n 1 dX7_queue_9 rfl ?_
    obtain ⟨v5, hv5, h⟩ := ob h
    refine z_callV (as := [.int a1]) dX7_queue_10 ml_7_98 mv_X3_lacks (t_X3_lacks l kdl_1 hv5) kdl_1 ⟨by decide, rfl⟩ rfl rfl (Nat.le_of_ble_eq_true rfl) ⟨Nat.le_of_ble_eq_true rfl, Nat.le_of_ble_eq_true rfl⟩ rfl ?_
    refine z_if_eq (tgt := 22) dX7_queue_13 (by decide) (fun c6 => ?_) (fun c6 => ?_)
    · replace h := ip c6 h
      refine z_aload_n 0 dX7_queue_22 rfl ?_
      refine z_get (v := .ref 67) dX7_queue_23 fl_7_53 kdl_0 rfl ?_
      refine z_aload_n 0 dX7_queue_26 rfl ?_
      refine z_get (v := .ref 1) dX7_queue_27 fl_7_12 kdl_0 rfl ?_
      obtain ⟨S7, hS7, h⟩ := ob h
      refine z_callV (as := [.ref 1]) dX7_queue_30 ml_7_212 mv_X0_arrange (t_X0_arrange l kdl_1 hS7) kdl_67 ⟨by decide, rfl⟩ rfl rfl (Nat.le_of_ble_eq_true rfl) ⟨Nat.le_of_ble_eq_true rfl, Nat.le_of_ble_eq_true rfl⟩ rfl ?_
      refine z_iload_n 1 dX7_queue_33 rfl ?_
      refine z_iconst (v := (-1)) dX7_queue_34 rfl ?_
      refine z_icmp_ne (tgt := 48) dX7_queue_35 (by decide) (fun c8 => ?_) (fun c8 => ?_)
      · replace h := ig c8 h
        refine z_aload_n 0 dX7_queue_48 rfl ?_
        refine z_get (v := .ref 67) dX7_queue_49 fl_7_53 kdl_0 rfl ?_
        refine z_iload_n 1 dX7_queue_52 rfl ?_
        obtain ⟨v9, hv9, h⟩ := ob h
        refine z_callV (as := [.int a1]) dX7_queue_53 ml_7_218 mv_X0_beginOf (t_X0_beginOf l hv9) kdl_67 ⟨by decide, rfl⟩ rfl rfl (Nat.le_of_ble_eq_true rfl) ⟨Nat.le_of_ble_eq_true rfl, Nat.le_of_ble_eq_true rfl⟩ rfl ?_
        obtain rfl := Option.some.inj h
        exact z_iret dX7_queue_56 rfl rfl
      · replace h := ip c8 h
        refine z_aload_n 0 dX7_queue_38 rfl ?_
        refine z_get (v := .ref 67) dX7_queue_39 fl_7_53 kdl_0 rfl ?_
        refine z_get (v := .int (S7.1 67 2)) dX7_queue_42 fl_7_215 kdl_67 rfl ?_
        refine z_goto (tgt := 56) dX7_queue_45 (by decide) ?_
        obtain rfl := Option.some.inj h
        exact z_iret dX7_queue_56 rfl rfl
    · replace h := ig c6 h
      refine z_aload_n 0 dX7_queue_16 rfl ?_
      refine z_iconst (v := (-1)) dX7_queue_17 rfl ?_
      obtain ⟨z10, hz10, h⟩ := ob h
      refine z_callV (as := [.int (-1)]) dX7_queue_18 ml_7_71 mv_X7_refuse (t_X7_refuse l hz10) kdl_0 ⟨by decide, rfl⟩ rfl rfl (Nat.le_of_ble_eq_true rfl) ⟨Nat.le_of_ble_eq_true rfl, Nat.le_of_ble_eq_true rfl⟩ rfl ?_
      obtain rfl := Option.some.inj h
      exact z_iret dX7_queue_21 rfl rfl
set_option maxHeartbeats 2000000 in
set_option maxRecDepth 20000 in
theorem t_X7_oneMore (l : Launch) {S : St}   {r : Int32} (h : f_X7_oneMore S = some r) : CT l yX7_oneMore M_X7_oneMore [.ref 0] S (some (.int r)) S := by
  rw [f_X7_oneMore] at h
  refine ct_of (lv := [(0, .ref 0)]) (by decide) rfl (Nat.le_of_ble_eq_true rfl) ?_
  refine z_aload_n 0 dX7_oneMore_0 rfl ?_
  refine z_get (v := .ref 1) dX7_oneMore_1 fl_7_12 kdl_0 rfl ?_
  refine z_aload_n 0 dX7_oneMore_4 rfl ?_
  refine z_get (v := .ref 1) dX7_oneMore_5 fl_7_12 kdl_0 rfl ?_
  refine z_get (v := .int (S.1 1 1)) dX7_oneMore_8 fl_7_115 kdl_1 rfl ?_
  refine z_iconst (v := 1) dX7_oneMore_11 rfl ?_
  refine z_iadd dX7_oneMore_12 ?_
  refine z_bipush (v := 11) dX7_oneMore_13 rfl ?_
  refine z_min dX7_oneMore_15 mn_7_221 (by decide) (Nat.le_of_ble_eq_true rfl) ?_
  obtain ⟨v1, hv1, h⟩ := ob h
  refine z_callV (as := [.int (if 11 < ((S.1 1 1) + 1) then 11 else (S.1 1 1) + 1)]) dX7_oneMore_18 ml_7_174 mv_X3_gladTogether (t_X3_gladTogether l kdl_1 hv1) kdl_1 ⟨by decide, rfl⟩ rfl rfl (Nat.le_of_ble_eq_true rfl) ⟨Nat.le_of_ble_eq_true rfl, Nat.le_of_ble_eq_true rfl⟩ rfl ?_
  obtain rfl := Option.some.inj h
  exact z_iret dX7_oneMore_21 rfl rfl
set_option maxHeartbeats 2000000 in
set_option maxRecDepth 20000 in
theorem t_X7_bestYear_L6 (l : Launch)   : ∀ (n : Nat) (x1 : Int32) (x2 : Int32) (x3 : Int32) (S : St) (k72 : Int32 → St → Option (Int32 × St)) (r : (Int32 × St)), f_X7_bestYear_L6 n x1 x2 x3 S k72 = some r → (∀ (e1 : Int32) (T : St), k72 e1 T = some r → Z l yX7_bestYear M_X7_bestYear 72 [(1, .int e1)] [] T (some (.int r.1)) r.2) → Z l yX7_bestYear M_X7_bestYear 6 [(0, .ref 0), (1, .int x1), (2, .int x2), (3, .int x3)] [] S (some (.int r.1)) r.2 := by
  intro n
  induction n with
  | zero =>
    intro x1 x2 x3 S k72 r h hk72
    exact absurd h (by rw [f_X7_bestYear_L6]; exact fun q => by cases q)
  | succ n ih =>
    intro x1 x2 x3 S k72 r h hk72
    rw [f_X7_bestYear_L6] at h
    refine z_iload_n 3 dX7_bestYear_6 rfl ?_
    refine z_bipush (v := 12) dX7_bestYear_7 rfl ?_
    refine z_icmp_ge (tgt := 72) dX7_bestYear_9 (by decide) (fun c1 => ?_) (fun c1 => ?_)
    · replace h := ip c1 h
      refine z_sub (lv' := [(1, .int x1)]) [1] rfl ?_
      exact hk72 _ _ h
    · replace h := ig c1 h
      refine z_aload_n 0 dX7_bestYear_12 rfl ?_
      refine z_get (v := .ref 64) dX7_bestYear_13 fl_7_46 kdl_0 rfl ?_
      refine z_aload_n 0 dX7_bestYear_16 rfl ?_
      refine z_get (v := .ref 1) dX7_bestYear_17 fl_7_12 kdl_0 rfl ?_
      refine z_iload_n 3 dX7_bestYear_20 rfl ?_
      obtain ⟨S2, hS2, h⟩ := ob h
      refine z_callV (as := [.ref 1, .int x3]) dX7_bestYear_21 ml_7_186 mv_X1_weigh (t_X1_weigh l kdl_1 hS2) kdl_64 ⟨by decide, rfl⟩ rfl rfl (Nat.le_of_ble_eq_true rfl) ⟨Nat.le_of_ble_eq_true rfl, Nat.le_of_ble_eq_true rfl⟩ rfl ?_
      refine z_aload_n 0 dX7_bestYear_24 rfl ?_
      refine z_get (v := .ref 64) dX7_bestYear_25 fl_7_46 kdl_0 rfl ?_
      refine z_get (v := .int (S2.1 64 4)) dX7_bestYear_28 fl_7_193 kdl_64 rfl ?_
      refine z_aload_n 0 dX7_bestYear_31 rfl ?_
      refine z_get (v := .ref 64) dX7_bestYear_32 fl_7_46 kdl_0 rfl ?_
      refine z_aload_n 0 dX7_bestYear_35 rfl ?_
      refine z_get (v := .ref 64) dX7_bestYear_36 fl_7_46 kdl_0 rfl ?_
      refine z_aload_n 0 dX7_bestYear_39 rfl ?_
      refine z_get (v := .ref 1) dX7_bestYear_40 fl_7_12 kdl_0 rfl ?_
      refine z_get (v := .int (S2.1 1 2)) dX7_bestYear_43 fl_7_151 kdl_1 rfl ?_
      obtain ⟨v3, hv3, h⟩ := ob h
      refine z_callV (as := [.int (S2.1 1 2)]) dX7_bestYear_46 ml_7_190 mv_X1_bestBits (t_X1_bestBits l hv3) kdl_64 ⟨by decide, rfl⟩ rfl rfl (Nat.le_of_ble_eq_true rfl) ⟨Nat.le_of_ble_eq_true rfl, Nat.le_of_ble_eq_true rfl⟩ rfl ?_
      obtain ⟨v4, hv4, h⟩ := ob h
      refine z_callV (as := [.int v3]) dX7_bestYear_49 ml_7_196 mv_X1_gainOf (t_X1_gainOf l hv4) kdl_64 ⟨by decide, rfl⟩ rfl rfl (Nat.le_of_ble_eq_true rfl) ⟨Nat.le_of_ble_eq_true rfl, Nat.le_of_ble_eq_true rfl⟩ rfl ?_
      refine z_iadd dX7_bestYear_52 ?_
      refine z_istore (lv' := [(0, .ref 0), (1, .int x1), (2, .int x2), (3, .int x3), (4, .int ((S2.1 64 4) + v4))]) [1, 2, 3, 4, 0] dX7_bestYear_53 (Nat.le_of_ble_eq_true rfl) rfl ?_
      refine z_iload 4 dX7_bestYear_55 rfl ?_
      refine z_iload_n 2 dX7_bestYear_57 rfl ?_
      refine z_icmp_le (tgt := 66) dX7_bestYear_58 (by decide) (fun c5 => ?_) (fun c5 => ?_)
      · replace h := ip c5 h
        refine z_iinc (lv' := [(0, .ref 0), (1, .int x1), (2, .int x2), (3, .int (x3 + 1)), (4, .int ((S2.1 64 4) + v4))]) (v := x3 + 1) 3 [1, 2, 3, 0, 4] dX7_bestYear_66 rfl rfl (Nat.le_of_ble_eq_true rfl) rfl ?_
        refine z_goto (tgt := 6) dX7_bestYear_69 (by decide) ?_
        refine z_sub (lv' := [(0, .ref 0), (1, .int x1), (2, .int x2), (3, .int (x3 + 1))]) [0, 1, 2, 3] rfl ?_
        exact ih _ _ _ _ _ _ h hk72
      · replace h := ig c5 h
        refine z_iload_n 3 dX7_bestYear_61 rfl ?_
        refine z_istore_n (lv' := [(0, .ref 0), (1, .int x3), (2, .int x2), (3, .int x3), (4, .int ((S2.1 64 4) + v4))]) [1, 0, 2, 3, 4] dX7_bestYear_62 (Nat.le_of_ble_eq_true rfl) rfl ?_
        refine z_iload 4 dX7_bestYear_63 rfl ?_
        refine z_istore_n (lv' := [(0, .ref 0), (1, .int x3), (2, .int ((S2.1 64 4) + v4)), (3, .int x3), (4, .int ((S2.1 64 4) + v4))]) [1, 2, 0, 3, 4] dX7_bestYear_65 (Nat.le_of_ble_eq_true rfl) rfl ?_
        refine z_iinc (lv' := [(0, .ref 0), (1, .int x3), (2, .int ((S2.1 64 4) + v4)), (3, .int (x3 + 1)), (4, .int ((S2.1 64 4) + v4))]) (v := x3 + 1) 3 [1, 2, 3, 0, 4] dX7_bestYear_66 rfl rfl (Nat.le_of_ble_eq_true rfl) rfl ?_
        refine z_goto (tgt := 6) dX7_bestYear_69 (by decide) ?_
        refine z_sub (lv' := [(0, .ref 0), (1, .int x3), (2, .int ((S2.1 64 4) + v4)), (3, .int (x3 + 1))]) [0, 1, 2, 3] rfl ?_
        exact ih _ _ _ _ _ _ h hk72
set_option maxHeartbeats 2000000 in
set_option maxRecDepth 20000 in
theorem t_X7_bestYear (l : Launch) {S : St}   {r : (Int32 × St)} (h : f_X7_bestYear S = some r) : CT l yX7_bestYear M_X7_bestYear [.ref 0] S (some (.int r.1)) r.2 := by
  rw [f_X7_bestYear] at h
  refine ct_of (lv := [(0, .ref 0)]) (by decide) rfl (Nat.le_of_ble_eq_true rfl) ?_
  refine z_iconst (v := 0) dX7_bestYear_0 rfl ?_
  refine z_istore_n (lv' := [(0, .ref 0), (1, .int 0)]) [1, 0] dX7_bestYear_1 (Nat.le_of_ble_eq_true rfl) rfl ?_
  refine z_iconst (v := (-1)) dX7_bestYear_2 rfl ?_
  refine z_istore_n (lv' := [(0, .ref 0), (1, .int 0), (2, .int (-1))]) [1, 2, 0] dX7_bestYear_3 (Nat.le_of_ble_eq_true rfl) rfl ?_
  refine z_iconst (v := 0) dX7_bestYear_4 rfl ?_
  refine z_istore_n (lv' := [(0, .ref 0), (1, .int 0), (2, .int (-1)), (3, .int 0)]) [1, 2, 3, 0] dX7_bestYear_5 (Nat.le_of_ble_eq_true rfl) rfl ?_
  refine z_sub (lv' := [(0, .ref 0), (1, .int 0), (2, .int (-1)), (3, .int 0)]) [0, 1, 2, 3] rfl ?_
  refine t_X7_bestYear_L6 l _ _ _ _ _ _ _ h ?_
  · intro y6 S7 h
    refine z_iload_n 0 dX7_bestYear_72 rfl ?_
    obtain rfl := Option.some.inj h
    exact z_iret dX7_bestYear_73 rfl rfl
set_option maxHeartbeats 2000000 in
set_option maxRecDepth 20000 in
theorem t_X7_water (l : Launch) {S : St}  {a1 : Int32} {r : (Int32 × St)} (h : f_X7_water a1 S = some r) : CT l yX7_water M_X7_water [.ref 0, .int a1] S (some (.int r.1)) r.2 := by
  rw [f_X7_water] at h
  refine ct_of (lv := [(0, .ref 0), (1, .int a1)]) (by decide) rfl (Nat.le_of_ble_eq_true rfl) ?_
  refine z_aload_n 0 dX7_water_0 rfl ?_
  refine z_get (v := .ref 1) dX7_water_1 fl_7_12 kdl_0 rfl ?_
  refine z_iload_n 1 dX7_water_4 rfl ?_
  obtain ⟨v1, hv1, h⟩ := ob h
  refine z_callV (as := [.int a1]) dX7_water_5 ml_7_98 mv_X3_lacks (t_X3_lacks l kdl_1 hv1) kdl_1 ⟨by decide, rfl⟩ rfl rfl (Nat.le_of_ble_eq_true rfl) ⟨Nat.le_of_ble_eq_true rfl, Nat.le_of_ble_eq_true rfl⟩ rfl ?_
  refine z_if_eq (tgt := 20) dX7_water_8 (by decide) (fun c2 => ?_) (fun c2 => ?_)
  · replace h := ip c2 h
    refine z_aload_n 0 dX7_water_20 rfl ?_
    refine z_get (v := .ref 1) dX7_water_21 fl_7_12 kdl_0 rfl ?_
    refine z_iload_n 1 dX7_water_24 rfl ?_
    obtain ⟨v3, hv3, h⟩ := ob h
    refine z_callV (as := [.int a1]) dX7_water_25 ml_7_102 mv_X3_at (t_X3_at l kdl_1 hv3) kdl_1 ⟨by decide, rfl⟩ rfl rfl (Nat.le_of_ble_eq_true rfl) ⟨Nat.le_of_ble_eq_true rfl, Nat.le_of_ble_eq_true rfl⟩ rfl ?_
    refine z_astore_n (lv' := [(0, .ref 0), (1, .int a1), (2, .ref v3)]) [1, 2, 0] dX7_water_28 (Nat.le_of_ble_eq_true rfl) rfl ?_
    refine z_aload_n 2 dX7_water_29 rfl ?_
    obtain ⟨v4, hv4, h⟩ := ob h
    refine z_callV (as := []) dX7_water_30 ml_7_161 mv_X6_isSet (t_X6_isSet l (kd_at kdl_1 hv3) hv4) (kd_at kdl_1 hv3) ⟨by decide, rfl⟩ rfl rfl (Nat.le_of_ble_eq_true rfl) ⟨Nat.le_of_ble_eq_true rfl, Nat.le_of_ble_eq_true rfl⟩ rfl ?_
    refine z_if_ne (tgt := 46) dX7_water_33 (by decide) (fun c5 => ?_) (fun c5 => ?_)
    · replace h := ig c5 h
      refine z_aload_n 2 dX7_water_46 rfl ?_
      refine z_aload_n 0 dX7_water_47 rfl ?_
      refine z_get (v := .ref 1) dX7_water_48 fl_7_12 kdl_0 rfl ?_
      refine z_get (v := .int (S.1 1 1)) dX7_water_51 fl_7_115 kdl_1 rfl ?_
      obtain ⟨v6, hv6, h⟩ := ob h
      refine z_callV (as := [.int (S.1 1 1)]) dX7_water_54 ml_7_227 mv_X6_moreIfWashed (t_X6_moreIfWashed l (kd_at kdl_1 hv3) hv6) (kd_at kdl_1 hv3) ⟨by decide, rfl⟩ rfl rfl (Nat.le_of_ble_eq_true rfl) ⟨Nat.le_of_ble_eq_true rfl, Nat.le_of_ble_eq_true rfl⟩ rfl ?_
      obtain rfl := Option.some.inj h
      exact z_iret dX7_water_57 rfl rfl
    · replace h := ip c5 h
      refine z_ldc cst_7_226 dX7_water_36 ?_
      refine z_aload_n 0 dX7_water_38 rfl ?_
      refine z_bipush (v := (-3)) dX7_water_39 rfl ?_
      obtain ⟨z7, hz7, h⟩ := ob h
      refine z_callV (as := [.int (-3)]) dX7_water_41 ml_7_71 mv_X7_refuse (t_X7_refuse l hz7) kdl_0 ⟨by decide, rfl⟩ rfl rfl (Nat.le_of_ble_eq_true rfl) ⟨Nat.le_of_ble_eq_true rfl, Nat.le_of_ble_eq_true rfl⟩ rfl ?_
      refine z_isub dX7_water_44 ?_
      obtain rfl := Option.some.inj h
      exact z_iret dX7_water_45 rfl rfl
  · replace h := ig c2 h
    refine z_ldc cst_7_226 dX7_water_11 ?_
    refine z_aload_n 0 dX7_water_13 rfl ?_
    refine z_iconst (v := (-1)) dX7_water_14 rfl ?_
    obtain ⟨z8, hz8, h⟩ := ob h
    refine z_callV (as := [.int (-1)]) dX7_water_15 ml_7_71 mv_X7_refuse (t_X7_refuse l hz8) kdl_0 ⟨by decide, rfl⟩ rfl rfl (Nat.le_of_ble_eq_true rfl) ⟨Nat.le_of_ble_eq_true rfl, Nat.le_of_ble_eq_true rfl⟩ rfl ?_
    refine z_isub dX7_water_18 ?_
    obtain rfl := Option.some.inj h
    exact z_iret dX7_water_19 rfl rfl
set_option maxHeartbeats 2000000 in
set_option maxRecDepth 20000 in
theorem t_X7_bestWash_L7 (l : Launch)   : ∀ (n : Nat) (x1 : Int32) (x2 : Int32) (x3 : Int32) (S : St) (k55 : Int32 → Option Int32) (r : Int32), f_X7_bestWash_L7 n x1 x2 x3 S k55 = some r → (∀ (e1 : Int32), k55 e1 = some r → Z l yX7_bestWash M_X7_bestWash 55 [(1, .int e1)] [] S (some (.int r)) S) → Z l yX7_bestWash M_X7_bestWash 7 [(0, .ref 0), (1, .int x1), (2, .int x2), (3, .int x3)] [] S (some (.int r)) S := by
  intro n
  induction n with
  | zero =>
    intro x1 x2 x3 S k55 r h hk55
    exact absurd h (by rw [f_X7_bestWash_L7]; exact fun q => by cases q)
  | succ n ih =>
    intro x1 x2 x3 S k55 r h hk55
    rw [f_X7_bestWash_L7] at h
    refine z_iload_n 3 dX7_bestWash_7 rfl ?_
    refine z_aload_n 0 dX7_bestWash_8 rfl ?_
    refine z_get (v := .ref 1) dX7_bestWash_9 fl_7_12 kdl_0 rfl ?_
    refine z_get (v := .int (S.1 1 0)) dX7_bestWash_12 fl_7_199 kdl_1 rfl ?_
    refine z_icmp_ge (tgt := 55) dX7_bestWash_15 (by decide) (fun c1 => ?_) (fun c1 => ?_)
    · replace h := ip c1 h
      refine z_sub (lv' := [(1, .int x1)]) [1] rfl ?_
      exact hk55 _ h
    · replace h := ig c1 h
      refine z_aload_n 0 dX7_bestWash_18 rfl ?_
      refine z_get (v := .ref 1) dX7_bestWash_19 fl_7_12 kdl_0 rfl ?_
      refine z_iload_n 3 dX7_bestWash_22 rfl ?_
      obtain ⟨v2, hv2, h⟩ := ob h
      refine z_callV (as := [.int x3]) dX7_bestWash_23 ml_7_102 mv_X3_at (t_X3_at l kdl_1 hv2) kdl_1 ⟨by decide, rfl⟩ rfl rfl (Nat.le_of_ble_eq_true rfl) ⟨Nat.le_of_ble_eq_true rfl, Nat.le_of_ble_eq_true rfl⟩ rfl ?_
      refine z_aload_n 0 dX7_bestWash_26 rfl ?_
      refine z_get (v := .ref 1) dX7_bestWash_27 fl_7_12 kdl_0 rfl ?_
      refine z_get (v := .int (S.1 1 1)) dX7_bestWash_30 fl_7_115 kdl_1 rfl ?_
      obtain ⟨v3, hv3, h⟩ := ob h
      refine z_callV (as := [.int (S.1 1 1)]) dX7_bestWash_33 ml_7_227 mv_X6_moreIfWashed (t_X6_moreIfWashed l (kd_at kdl_1 hv2) hv3) (kd_at kdl_1 hv2) ⟨by decide, rfl⟩ rfl rfl (Nat.le_of_ble_eq_true rfl) ⟨Nat.le_of_ble_eq_true rfl, Nat.le_of_ble_eq_true rfl⟩ rfl ?_
      refine z_istore (lv' := [(0, .ref 0), (1, .int x1), (2, .int x2), (3, .int x3), (4, .int v3)]) [1, 2, 3, 4, 0] dX7_bestWash_36 (Nat.le_of_ble_eq_true rfl) rfl ?_
      refine z_iload 4 dX7_bestWash_38 rfl ?_
      refine z_iload_n 2 dX7_bestWash_40 rfl ?_
      refine z_icmp_le (tgt := 49) dX7_bestWash_41 (by decide) (fun c4 => ?_) (fun c4 => ?_)
      · replace h := ip c4 h
        refine z_iinc (lv' := [(0, .ref 0), (1, .int x1), (2, .int x2), (3, .int (x3 + 1)), (4, .int v3)]) (v := x3 + 1) 3 [1, 2, 3, 0, 4] dX7_bestWash_49 rfl rfl (Nat.le_of_ble_eq_true rfl) rfl ?_
        refine z_goto (tgt := 7) dX7_bestWash_52 (by decide) ?_
        refine z_sub (lv' := [(0, .ref 0), (1, .int x1), (2, .int x2), (3, .int (x3 + 1))]) [0, 1, 2, 3] rfl ?_
        exact ih _ _ _ _ _ _ h hk55
      · replace h := ig c4 h
        refine z_iload_n 3 dX7_bestWash_44 rfl ?_
        refine z_istore_n (lv' := [(0, .ref 0), (1, .int x3), (2, .int x2), (3, .int x3), (4, .int v3)]) [1, 0, 2, 3, 4] dX7_bestWash_45 (Nat.le_of_ble_eq_true rfl) rfl ?_
        refine z_iload 4 dX7_bestWash_46 rfl ?_
        refine z_istore_n (lv' := [(0, .ref 0), (1, .int x3), (2, .int v3), (3, .int x3), (4, .int v3)]) [1, 2, 0, 3, 4] dX7_bestWash_48 (Nat.le_of_ble_eq_true rfl) rfl ?_
        refine z_iinc (lv' := [(0, .ref 0), (1, .int x3), (2, .int v3), (3, .int (x3 + 1)), (4, .int v3)]) (v := x3 + 1) 3 [1, 2, 3, 0, 4] dX7_bestWash_49 rfl rfl (Nat.le_of_ble_eq_true rfl) rfl ?_
        refine z_goto (tgt := 7) dX7_bestWash_52 (by decide) ?_
        refine z_sub (lv' := [(0, .ref 0), (1, .int x3), (2, .int v3), (3, .int (x3 + 1))]) [0, 1, 2, 3] rfl ?_
        exact ih _ _ _ _ _ _ h hk55
set_option maxHeartbeats 2000000 in
set_option maxRecDepth 20000 in
theorem t_X7_bestWash (l : Launch) {S : St}   {r : Int32} (h : f_X7_bestWash S = some r) : CT l yX7_bestWash M_X7_bestWash [.ref 0] S (some (.int r)) S := by
  rw [f_X7_bestWash] at h
  refine ct_of (lv := [(0, .ref 0)]) (by decide) rfl (Nat.le_of_ble_eq_true rfl) ?_
  refine z_bipush (v := (-9)) dX7_bestWash_0 rfl ?_
  refine z_istore_n (lv' := [(0, .ref 0), (1, .int (-9))]) [1, 0] dX7_bestWash_2 (Nat.le_of_ble_eq_true rfl) rfl ?_
  refine z_iconst (v := 0) dX7_bestWash_3 rfl ?_
  refine z_istore_n (lv' := [(0, .ref 0), (1, .int (-9)), (2, .int 0)]) [1, 2, 0] dX7_bestWash_4 (Nat.le_of_ble_eq_true rfl) rfl ?_
  refine z_iconst (v := 0) dX7_bestWash_5 rfl ?_
  refine z_istore_n (lv' := [(0, .ref 0), (1, .int (-9)), (2, .int 0), (3, .int 0)]) [1, 2, 3, 0] dX7_bestWash_6 (Nat.le_of_ble_eq_true rfl) rfl ?_
  refine z_sub (lv' := [(0, .ref 0), (1, .int (-9)), (2, .int 0), (3, .int 0)]) [0, 1, 2, 3] rfl ?_
  refine t_X7_bestWash_L7 l _ _ _ _ _ _ _ h ?_
  · intro y5 h
    refine z_iload_n 0 dX7_bestWash_55 rfl ?_
    obtain rfl := Option.some.inj h
    exact z_iret dX7_bestWash_56 rfl rfl
set_option maxHeartbeats 2000000 in
set_option maxRecDepth 20000 in
theorem t_X7_sour_L4 (l : Launch)   : ∀ (n : Nat) (x1 : Int32) (x2 : Int32) (S : St) (k48 : Int32 → Option Int32) (r : Int32), f_X7_sour_L4 n x1 x2 S k48 = some r → (∀ (e1 : Int32), k48 e1 = some r → Z l yX7_sour M_X7_sour 48 [(1, .int e1)] [] S (some (.int r)) S) → Z l yX7_sour M_X7_sour 4 [(0, .ref 0), (1, .int x1), (2, .int x2)] [] S (some (.int r)) S := by
  intro n
  induction n with
  | zero =>
    intro x1 x2 S k48 r h hk48
    exact absurd h (by rw [f_X7_sour_L4]; exact fun q => by cases q)
  | succ n ih =>
    intro x1 x2 S k48 r h hk48
    rw [f_X7_sour_L4] at h
    refine z_iload_n 2 dX7_sour_4 rfl ?_
    refine z_aload_n 0 dX7_sour_5 rfl ?_
    refine z_get (v := .ref 1) dX7_sour_6 fl_7_12 kdl_0 rfl ?_
    refine z_get (v := .int (S.1 1 0)) dX7_sour_9 fl_7_199 kdl_1 rfl ?_
    refine z_icmp_ge (tgt := 48) dX7_sour_12 (by decide) (fun c1 => ?_) (fun c1 => ?_)
    · replace h := ip c1 h
      refine z_sub (lv' := [(1, .int x1)]) [1] rfl ?_
      exact hk48 _ h
    · replace h := ig c1 h
      refine z_aload_n 0 dX7_sour_15 rfl ?_
      refine z_get (v := .ref 1) dX7_sour_16 fl_7_12 kdl_0 rfl ?_
      refine z_iload_n 2 dX7_sour_19 rfl ?_
      obtain ⟨v2, hv2, h⟩ := ob h
      refine z_callV (as := [.int x2]) dX7_sour_20 ml_7_102 mv_X3_at (t_X3_at l kdl_1 hv2) kdl_1 ⟨by decide, rfl⟩ rfl rfl (Nat.le_of_ble_eq_true rfl) ⟨Nat.le_of_ble_eq_true rfl, Nat.le_of_ble_eq_true rfl⟩ rfl ?_
      refine z_aload_n 0 dX7_sour_23 rfl ?_
      refine z_get (v := .ref 1) dX7_sour_24 fl_7_12 kdl_0 rfl ?_
      refine z_get (v := .int (S.1 1 1)) dX7_sour_27 fl_7_115 kdl_1 rfl ?_
      obtain ⟨v3, hv3, h⟩ := ob h
      refine z_callV (as := [.int (S.1 1 1)]) dX7_sour_30 ml_7_227 mv_X6_moreIfWashed (t_X6_moreIfWashed l (kd_at kdl_1 hv2) hv3) (kd_at kdl_1 hv2) ⟨by decide, rfl⟩ rfl rfl (Nat.le_of_ble_eq_true rfl) ⟨Nat.le_of_ble_eq_true rfl, Nat.le_of_ble_eq_true rfl⟩ rfl ?_
      refine z_if_le (tgt := 42) dX7_sour_33 (by decide) (fun c4 => ?_) (fun c4 => ?_)
      · replace h := ip c4 h
        refine z_iinc (lv' := [(0, .ref 0), (1, .int x1), (2, .int (x2 + 1))]) (v := x2 + 1) 2 [1, 2, 0] dX7_sour_42 rfl rfl (Nat.le_of_ble_eq_true rfl) rfl ?_
        refine z_goto (tgt := 4) dX7_sour_45 (by decide) ?_
        refine z_sub (lv' := [(0, .ref 0), (1, .int x1), (2, .int (x2 + 1))]) [0, 1, 2] rfl ?_
        exact ih _ _ _ _ _ h hk48
      · replace h := ig c4 h
        refine z_iload_n 1 dX7_sour_36 rfl ?_
        refine z_iconst (v := 1) dX7_sour_37 rfl ?_
        refine z_iload_n 2 dX7_sour_38 rfl ?_
        refine z_ishl dX7_sour_39 ?_
        refine z_ior dX7_sour_40 ?_
        refine z_istore_n (lv' := [(0, .ref 0), (1, .int (x1 ||| (1 <<< (x2 &&& 31)))), (2, .int x2)]) [1, 0, 2] dX7_sour_41 (Nat.le_of_ble_eq_true rfl) rfl ?_
        refine z_iinc (lv' := [(0, .ref 0), (1, .int (x1 ||| (1 <<< (x2 &&& 31)))), (2, .int (x2 + 1))]) (v := x2 + 1) 2 [1, 2, 0] dX7_sour_42 rfl rfl (Nat.le_of_ble_eq_true rfl) rfl ?_
        refine z_goto (tgt := 4) dX7_sour_45 (by decide) ?_
        refine z_sub (lv' := [(0, .ref 0), (1, .int (x1 ||| (1 <<< (x2 &&& 31)))), (2, .int (x2 + 1))]) [0, 1, 2] rfl ?_
        exact ih _ _ _ _ _ h hk48
set_option maxHeartbeats 2000000 in
set_option maxRecDepth 20000 in
theorem t_X7_sour (l : Launch) {S : St}   {r : Int32} (h : f_X7_sour S = some r) : CT l yX7_sour M_X7_sour [.ref 0] S (some (.int r)) S := by
  rw [f_X7_sour] at h
  refine ct_of (lv := [(0, .ref 0)]) (by decide) rfl (Nat.le_of_ble_eq_true rfl) ?_
  refine z_iconst (v := 0) dX7_sour_0 rfl ?_
  refine z_istore_n (lv' := [(0, .ref 0), (1, .int 0)]) [1, 0] dX7_sour_1 (Nat.le_of_ble_eq_true rfl) rfl ?_
  refine z_iconst (v := 0) dX7_sour_2 rfl ?_
  refine z_istore_n (lv' := [(0, .ref 0), (1, .int 0), (2, .int 0)]) [1, 2, 0] dX7_sour_3 (Nat.le_of_ble_eq_true rfl) rfl ?_
  refine z_sub (lv' := [(0, .ref 0), (1, .int 0), (2, .int 0)]) [0, 1, 2] rfl ?_
  refine t_X7_sour_L4 l _ _ _ _ _ _ h ?_
  · intro y5 h
    refine z_iload_n 0 dX7_sour_48 rfl ?_
    obtain rfl := Option.some.inj h
    exact z_iret dX7_sour_49 rfl rfl
set_option maxHeartbeats 2000000 in
set_option maxRecDepth 20000 in
theorem t_X7_regret (l : Launch) {S : St}  {a1 : Int32} {r : (Int32 × St)} (h : f_X7_regret a1 S = some r) : CT l yX7_regret M_X7_regret [.ref 0, .int a1] S (some (.int r.1)) r.2 := by
  rw [f_X7_regret] at h
  refine ct_of (lv := [(0, .ref 0), (1, .int a1)]) (by decide) rfl (Nat.le_of_ble_eq_true rfl) ?_
  refine z_aload_n 0 dX7_regret_0 rfl ?_
  refine z_get (v := .ref 1) dX7_regret_1 fl_7_12 kdl_0 rfl ?_
  refine z_iload_n 1 dX7_regret_4 rfl ?_
  obtain ⟨v1, hv1, h⟩ := ob h
  refine z_callV (as := [.int a1]) dX7_regret_5 ml_7_98 mv_X3_lacks (t_X3_lacks l kdl_1 hv1) kdl_1 ⟨by decide, rfl⟩ rfl rfl (Nat.le_of_ble_eq_true rfl) ⟨Nat.le_of_ble_eq_true rfl, Nat.le_of_ble_eq_true rfl⟩ rfl ?_
  refine z_if_eq (tgt := 17) dX7_regret_8 (by decide) (fun c2 => ?_) (fun c2 => ?_)
  · replace h := ip c2 h
    refine z_aload_n 0 dX7_regret_17 rfl ?_
    refine z_get (v := .ref 1) dX7_regret_18 fl_7_12 kdl_0 rfl ?_
    refine z_iload_n 1 dX7_regret_21 rfl ?_
    obtain ⟨v3, hv3, h⟩ := ob h
    refine z_callV (as := [.int a1]) dX7_regret_22 ml_7_102 mv_X3_at (t_X3_at l kdl_1 hv3) kdl_1 ⟨by decide, rfl⟩ rfl rfl (Nat.le_of_ble_eq_true rfl) ⟨Nat.le_of_ble_eq_true rfl, Nat.le_of_ble_eq_true rfl⟩ rfl ?_
    refine z_astore_n (lv' := [(0, .ref 0), (1, .int a1), (2, .ref v3)]) [1, 2, 0] dX7_regret_25 (Nat.le_of_ble_eq_true rfl) rfl ?_
    refine z_aload_n 2 dX7_regret_26 rfl ?_
    refine z_aload_n 2 dX7_regret_27 rfl ?_
    refine z_aload_n 0 dX7_regret_28 rfl ?_
    refine z_get (v := .ref 1) dX7_regret_29 fl_7_12 kdl_0 rfl ?_
    refine z_get (v := .int (S.1 1 1)) dX7_regret_32 fl_7_115 kdl_1 rfl ?_
    obtain ⟨v4, hv4, h⟩ := ob h
    refine z_callV (as := [.int (S.1 1 1)]) dX7_regret_35 ml_7_230 mv_X6_gladdestYear (t_X6_gladdestYear l (kd_at kdl_1 hv3) hv4) (kd_at kdl_1 hv3) ⟨by decide, rfl⟩ rfl rfl (Nat.le_of_ble_eq_true rfl) ⟨Nat.le_of_ble_eq_true rfl, Nat.le_of_ble_eq_true rfl⟩ rfl ?_
    obtain ⟨v5, hv5, h⟩ := ob h
    refine z_callV (as := [.int v4]) dX7_regret_38 ml_7_127 mv_X6_gladIn (t_X6_gladIn l (kd_at kdl_1 hv3) hv5) (kd_at kdl_1 hv3) ⟨by decide, rfl⟩ rfl rfl (Nat.le_of_ble_eq_true rfl) ⟨Nat.le_of_ble_eq_true rfl, Nat.le_of_ble_eq_true rfl⟩ rfl ?_
    refine z_istore_n (lv' := [(0, .ref 0), (1, .int a1), (2, .ref v3), (3, .int v5)]) [1, 2, 3, 0] dX7_regret_41 (Nat.le_of_ble_eq_true rfl) rfl ?_
    refine z_iconst (v := 0) dX7_regret_42 rfl ?_
    refine z_iload_n 3 dX7_regret_43 rfl ?_
    refine z_aload_n 2 dX7_regret_44 rfl ?_
    refine z_aload_n 0 dX7_regret_45 rfl ?_
    refine z_get (v := .ref 1) dX7_regret_46 fl_7_12 kdl_0 rfl ?_
    refine z_get (v := .int (S.1 1 1)) dX7_regret_49 fl_7_115 kdl_1 rfl ?_
    obtain ⟨v6, hv6, h⟩ := ob h
    refine z_callV (as := [.int (S.1 1 1)]) dX7_regret_52 ml_7_118 mv_X6_howGlad (t_X6_howGlad l (kd_at kdl_1 hv3) hv6) (kd_at kdl_1 hv3) ⟨by decide, rfl⟩ rfl rfl (Nat.le_of_ble_eq_true rfl) ⟨Nat.le_of_ble_eq_true rfl, Nat.le_of_ble_eq_true rfl⟩ rfl ?_
    refine z_isub dX7_regret_55 ?_
    refine z_max dX7_regret_56 mx_7_233 (Nat.le_of_ble_eq_true rfl) (Nat.le_of_ble_eq_true rfl) ?_
    obtain rfl := Option.some.inj h
    exact z_iret dX7_regret_59 rfl rfl
  · replace h := ig c2 h
    refine z_aload_n 0 dX7_regret_11 rfl ?_
    refine z_iconst (v := (-1)) dX7_regret_12 rfl ?_
    obtain ⟨z7, hz7, h⟩ := ob h
    refine z_callV (as := [.int (-1)]) dX7_regret_13 ml_7_71 mv_X7_refuse (t_X7_refuse l hz7) kdl_0 ⟨by decide, rfl⟩ rfl rfl (Nat.le_of_ble_eq_true rfl) ⟨Nat.le_of_ble_eq_true rfl, Nat.le_of_ble_eq_true rfl⟩ rfl ?_
    obtain rfl := Option.some.inj h
    exact z_iret dX7_regret_16 rfl rfl
set_option maxHeartbeats 2000000 in
set_option maxRecDepth 20000 in
theorem t_X7_bothContent_L21 (l : Launch) {q1 : Nat} (hq1 : kd q1 = 6) : ∀ (n : Nat) (x2 : Int32) (x3 : Int32) (x4 : Int32) (x5 : Int32) (x6 : Int32) (S : St) (k70 : Unit → Option Int32) (k78 : Unit → Option Int32) (r : Int32), f_X7_bothContent_L21 n q1 x2 x3 x4 x5 x6 S k70 k78 = some r → (k70 () = some r → Z l yX7_bothContent M_X7_bothContent 70 [] [] S (some (.int r)) S) → (k78 () = some r → Z l yX7_bothContent M_X7_bothContent 78 [] [] S (some (.int r)) S) → Z l yX7_bothContent M_X7_bothContent 21 [(0, .ref 0), (1, .ref q1), (2, .int x2), (3, .int x3), (4, .int x4), (5, .int x5), (6, .int x6)] [] S (some (.int r)) S := by
  intro n
  induction n with
  | zero =>
    intro x2 x3 x4 x5 x6 S k70 k78 r h hk70 hk78
    exact absurd h (by rw [f_X7_bothContent_L21]; exact fun q => by cases q)
  | succ n ih =>
    intro x2 x3 x4 x5 x6 S k70 k78 r h hk70 hk78
    rw [f_X7_bothContent_L21] at h
    refine z_iload 6 dX7_bothContent_21 rfl ?_
    refine z_iconst (v := 4) dX7_bothContent_23 rfl ?_
    refine z_icmp_gt (tgt := 78) dX7_bothContent_24 (by decide) (fun c2 => ?_) (fun c2 => ?_)
    · replace h := ip c2 h
      refine z_sub (lv' := []) [] rfl ?_
      exact hk78  h
    · replace h := ig c2 h
      refine z_aload_n 1 dX7_bothContent_27 rfl ?_
      refine z_iload_n 2 dX7_bothContent_28 rfl ?_
      refine z_iload 6 dX7_bothContent_29 rfl ?_
      refine z_iload 4 dX7_bothContent_31 rfl ?_
      refine z_iadd dX7_bothContent_33 ?_
      refine z_aload_n 0 dX7_bothContent_34 rfl ?_
      refine z_get (v := .ref 1) dX7_bothContent_35 fl_7_12 kdl_0 rfl ?_
      refine z_get (v := .int (S.1 1 1)) dX7_bothContent_38 fl_7_115 kdl_1 rfl ?_
      obtain ⟨v3, hv3, h⟩ := ob h
      refine z_callV (as := [.int x2, .int (x6 + x4), .int (S.1 1 1)]) dX7_bothContent_41 ml_7_168 mv_X6_yearBy (t_X6_yearBy l hq1 hv3) hq1 ⟨by decide, rfl⟩ rfl rfl (Nat.le_of_ble_eq_true rfl) ⟨Nat.le_of_ble_eq_true rfl, Nat.le_of_ble_eq_true rfl⟩ rfl ?_
      refine z_iload 5 dX7_bothContent_44 rfl ?_
      refine z_icmp_gt (tgt := 70) dX7_bothContent_46 (by decide) (fun c4 => ?_) (fun c4 => ?_)
      · replace h := ip c4 h
        refine z_sub (lv' := []) [] rfl ?_
        exact hk70  h
      · replace h := ig c4 h
        refine z_aload_n 1 dX7_bothContent_49 rfl ?_
        refine z_iload_n 2 dX7_bothContent_50 rfl ?_
        refine z_iload_n 3 dX7_bothContent_51 rfl ?_
        refine z_iload 6 dX7_bothContent_52 rfl ?_
        refine z_iadd dX7_bothContent_54 ?_
        refine z_aload_n 0 dX7_bothContent_55 rfl ?_
        refine z_get (v := .ref 1) dX7_bothContent_56 fl_7_12 kdl_0 rfl ?_
        refine z_get (v := .int (S.1 1 1)) dX7_bothContent_59 fl_7_115 kdl_1 rfl ?_
        obtain ⟨v5, hv5, h⟩ := ob h
        refine z_callV (as := [.int x2, .int (x3 + x6), .int (S.1 1 1)]) dX7_bothContent_62 ml_7_168 mv_X6_yearBy (t_X6_yearBy l hq1 hv5) hq1 ⟨by decide, rfl⟩ rfl rfl (Nat.le_of_ble_eq_true rfl) ⟨Nat.le_of_ble_eq_true rfl, Nat.le_of_ble_eq_true rfl⟩ rfl ?_
        refine z_iload 5 dX7_bothContent_65 rfl ?_
        refine z_icmp_ge (tgt := 72) dX7_bothContent_67 (by decide) (fun c6 => ?_) (fun c6 => ?_)
        · replace h := ip c6 h
          refine z_iinc (lv' := [(0, .ref 0), (1, .ref q1), (2, .int x2), (3, .int x3), (4, .int x4), (5, .int x5), (6, .int (x6 + 1))]) (v := x6 + 1) 6 [1, 2, 3, 4, 5, 6, 0] dX7_bothContent_72 rfl rfl (Nat.le_of_ble_eq_true rfl) rfl ?_
          refine z_goto (tgt := 21) dX7_bothContent_75 (by decide) ?_
          refine z_sub (lv' := [(0, .ref 0), (1, .ref q1), (2, .int x2), (3, .int x3), (4, .int x4), (5, .int x5), (6, .int (x6 + 1))]) [0, 1, 2, 3, 4, 5, 6] rfl ?_
          exact ih _ _ _ _ _ _ _ _ _ h hk70 hk78
        · replace h := ig c6 h
          refine z_sub (lv' := []) [] rfl ?_
          exact hk70  h
set_option maxHeartbeats 2000000 in
set_option maxRecDepth 20000 in
theorem t_X7_bothContent (l : Launch) {S : St} {q1 : Nat} (hq1 : kd q1 = 6) {a2 : Int32} {a3 : Int32} {a4 : Int32} {r : Int32} (h : f_X7_bothContent q1 a2 a3 a4 S = some r) : CT l yX7_bothContent M_X7_bothContent [.ref 0, .ref q1, .int a2, .int a3, .int a4] S (some (.int r)) S := by
  rw [f_X7_bothContent] at h
  refine ct_of (lv := [(0, .ref 0), (1, .ref q1), (2, .int a2), (3, .int a3), (4, .int a4)]) (by decide) rfl (Nat.le_of_ble_eq_true rfl) ?_
  refine z_aload_n 1 dX7_bothContent_0 rfl ?_
  refine z_iload_n 2 dX7_bothContent_1 rfl ?_
  refine z_iload_n 3 dX7_bothContent_2 rfl ?_
  refine z_iload 4 dX7_bothContent_3 rfl ?_
  refine z_iadd dX7_bothContent_5 ?_
  refine z_aload_n 0 dX7_bothContent_6 rfl ?_
  refine z_get (v := .ref 1) dX7_bothContent_7 fl_7_12 kdl_0 rfl ?_
  refine z_get (v := .int (S.1 1 1)) dX7_bothContent_10 fl_7_115 kdl_1 rfl ?_
  obtain ⟨v1, hv1, h⟩ := ob h
  refine z_callV (as := [.int a2, .int (a3 + a4), .int (S.1 1 1)]) dX7_bothContent_13 ml_7_168 mv_X6_yearBy (t_X6_yearBy l hq1 hv1) hq1 ⟨by decide, rfl⟩ rfl rfl (Nat.le_of_ble_eq_true rfl) ⟨Nat.le_of_ble_eq_true rfl, Nat.le_of_ble_eq_true rfl⟩ rfl ?_
  refine z_istore (lv' := [(0, .ref 0), (1, .ref q1), (2, .int a2), (3, .int a3), (4, .int a4), (5, .int v1)]) [1, 2, 3, 4, 5, 0] dX7_bothContent_16 (Nat.le_of_ble_eq_true rfl) rfl ?_
  refine z_iconst (v := 0) dX7_bothContent_18 rfl ?_
  refine z_istore (lv' := [(0, .ref 0), (1, .ref q1), (2, .int a2), (3, .int a3), (4, .int a4), (5, .int v1), (6, .int 0)]) [1, 2, 3, 4, 5, 6, 0] dX7_bothContent_19 (Nat.le_of_ble_eq_true rfl) rfl ?_
  refine z_sub (lv' := [(0, .ref 0), (1, .ref q1), (2, .int a2), (3, .int a3), (4, .int a4), (5, .int v1), (6, .int 0)]) [0, 1, 2, 3, 4, 5, 6] rfl ?_
  refine t_X7_bothContent_L21 l hq1 _ _ _ _ _ _ _ _ _ _ h ?_ ?_
  · intro h
    refine z_iconst (v := 0) dX7_bothContent_70 rfl ?_
    obtain rfl := Option.some.inj h
    exact z_iret dX7_bothContent_71 rfl rfl
  · intro h
    refine z_iconst (v := 1) dX7_bothContent_78 rfl ?_
    obtain rfl := Option.some.inj h
    exact z_iret dX7_bothContent_79 rfl rfl
set_option maxHeartbeats 2000000 in
set_option maxRecDepth 20000 in
theorem t_X7_two_L47 (l : Launch)   : ∀ (n : Nat) (x1 : Int32) (x2 : Int32) (x4 : Int32) (x5 : Int32) (S : St) (k73 : Int32 → Option (Int32 × St)) (k88 : Unit → Option (Int32 × St)) (r : (Int32 × St)), f_X7_two_L47 n x1 x2 x4 x5 S k73 k88 = some r → (∀ (e5 : Int32), k73 e5 = some r → Z l yX7_two M_X7_two 73 [(4, .int x4), (5, .int e5)] [] S (some (.int r.1)) r.2) → (k88 () = some r → Z l yX7_two M_X7_two 88 [(0, .ref 0), (1, .int x1), (2, .int x2), (4, .int x4)] [] S (some (.int r.1)) r.2) → Z l yX7_two M_X7_two 47 [(0, .ref 0), (1, .int x1), (2, .int x2), (4, .int x4), (5, .int x5)] [] S (some (.int r.1)) r.2 := by
  intro n
  induction n with
  | zero =>
    intro x1 x2 x4 x5 S k73 k88 r h hk73 hk88
    exact absurd h (by rw [f_X7_two_L47]; exact fun q => by cases q)
  | succ n ih =>
    intro x1 x2 x4 x5 S k73 k88 r h hk73 hk88
    rw [f_X7_two_L47] at h
    refine z_iload 4 dX7_two_47 rfl ?_
    refine z_iconst (v := 4) dX7_two_49 rfl ?_
    refine z_icmp_gt (tgt := 88) dX7_two_50 (by decide) (fun c6 => ?_) (fun c6 => ?_)
    · replace h := ip c6 h
      refine z_sub (lv' := [(0, .ref 0), (1, .int x1), (2, .int x2), (4, .int x4)]) [0, 1, 2, 3] rfl ?_
      exact hk88  h
    · replace h := ig c6 h
      refine z_aload_n 0 dX7_two_53 rfl ?_
      refine z_aload_n 0 dX7_two_54 rfl ?_
      refine z_get (v := .ref 1) dX7_two_55 fl_7_12 kdl_0 rfl ?_
      refine z_iload_n 1 dX7_two_58 rfl ?_
      obtain ⟨v7, hv7, h⟩ := ob h
      refine z_callV (as := [.int x1]) dX7_two_59 ml_7_102 mv_X3_at (t_X3_at l kdl_1 hv7) kdl_1 ⟨by decide, rfl⟩ rfl rfl (Nat.le_of_ble_eq_true rfl) ⟨Nat.le_of_ble_eq_true rfl, Nat.le_of_ble_eq_true rfl⟩ rfl ?_
      refine z_iload_n 2 dX7_two_62 rfl ?_
      refine z_iload 3 dX7_two_63 rfl ?_
      refine z_iload 4 dX7_two_65 rfl ?_
      obtain ⟨v8, hv8, h⟩ := ob h
      refine z_callV (as := [.ref v7, .int x2, .int x4, .int x5]) dX7_two_67 ml_7_236 mv_X7_bothContent (t_X7_bothContent l (kd_at kdl_1 hv7) hv8) kdl_0 ⟨by decide, rfl⟩ rfl rfl (Nat.le_of_ble_eq_true rfl) ⟨Nat.le_of_ble_eq_true rfl, Nat.le_of_ble_eq_true rfl⟩ rfl ?_
      refine z_if_eq (tgt := 82) dX7_two_70 (by decide) (fun c9 => ?_) (fun c9 => ?_)
      · replace h := ip c9 h
        refine z_iinc (lv' := [(0, .ref 0), (1, .int x1), (2, .int x2), (4, .int x4), (5, .int (x5 + 1))]) (v := x5 + 1) 4 [1, 2, 3, 4, 0] dX7_two_82 rfl rfl (Nat.le_of_ble_eq_true rfl) rfl ?_
        refine z_goto (tgt := 47) dX7_two_85 (by decide) ?_
        refine z_sub (lv' := [(0, .ref 0), (1, .int x1), (2, .int x2), (4, .int x4), (5, .int (x5 + 1))]) [0, 1, 2, 3, 4] rfl ?_
        exact ih _ _ _ _ _ _ _ _ h hk73 hk88
      · replace h := ig c9 h
        refine z_sub (lv' := [(4, .int x4), (5, .int x5)]) [3, 4] rfl ?_
        exact hk73 _ h
set_option maxHeartbeats 2000000 in
set_option maxRecDepth 20000 in
theorem t_X7_two_L38 (l : Launch)   : ∀ (n : Nat) (x1 : Int32) (x2 : Int32) (x4 : Int32) (S : St) (k73 : Int32 → Int32 → Option (Int32 × St)) (k94 : Unit → Option (Int32 × St)) (r : (Int32 × St)), f_X7_two_L38 n x1 x2 x4 S k73 k94 = some r → (∀ (e4 : Int32) (e5 : Int32), k73 e4 e5 = some r → Z l yX7_two M_X7_two 73 [(4, .int e4), (5, .int e5)] [] S (some (.int r.1)) r.2) → (k94 () = some r → Z l yX7_two M_X7_two 94 [] [] S (some (.int r.1)) r.2) → Z l yX7_two M_X7_two 38 [(0, .ref 0), (1, .int x1), (2, .int x2), (4, .int x4)] [] S (some (.int r.1)) r.2 := by
  intro n
  induction n with
  | zero =>
    intro x1 x2 x4 S k73 k94 r h hk73 hk94
    exact absurd h (by rw [f_X7_two_L38]; exact fun q => by cases q)
  | succ n ih =>
    intro x1 x2 x4 S k73 k94 r h hk73 hk94
    rw [f_X7_two_L38] at h
    refine z_iload 3 dX7_two_38 rfl ?_
    refine z_iconst (v := 4) dX7_two_40 rfl ?_
    refine z_icmp_gt (tgt := 94) dX7_two_41 (by decide) (fun c5 => ?_) (fun c5 => ?_)
    · replace h := ip c5 h
      refine z_sub (lv' := []) [] rfl ?_
      exact hk94  h
    · replace h := ig c5 h
      refine z_iconst (v := 0) dX7_two_44 rfl ?_
      refine z_istore (lv' := [(0, .ref 0), (1, .int x1), (2, .int x2), (4, .int x4), (5, .int 0)]) [1, 2, 3, 4, 0] dX7_two_45 (Nat.le_of_ble_eq_true rfl) rfl ?_
      refine z_sub (lv' := [(0, .ref 0), (1, .int x1), (2, .int x2), (4, .int x4), (5, .int 0)]) [0, 1, 2, 3, 4] rfl ?_
      refine t_X7_two_L47 l _ _ _ _ _ _ _ _ _ h ?_ ?_
      · intro y10 h
        refine z_sub (lv' := [(4, .int x4), (5, .int y10)]) [0, 1] rfl ?_
        exact hk73 _ _ h
      · intro h
        refine z_iinc (lv' := [(0, .ref 0), (1, .int x1), (2, .int x2), (4, .int (x4 + 1))]) (v := x4 + 1) 3 [1, 2, 3, 0] dX7_two_88 rfl rfl (Nat.le_of_ble_eq_true rfl) rfl ?_
        refine z_goto (tgt := 38) dX7_two_91 (by decide) ?_
        refine z_sub (lv' := [(0, .ref 0), (1, .int x1), (2, .int x2), (4, .int (x4 + 1))]) [0, 1, 2, 3] rfl ?_
        exact ih _ _ _ _ _ _ _ h hk73 hk94
set_option maxHeartbeats 2000000 in
set_option maxRecDepth 20000 in
theorem t_X7_two (l : Launch) {S : St}  {a1 : Int32} {a2 : Int32} {r : (Int32 × St)} (h : f_X7_two a1 a2 S = some r) : CT l yX7_two M_X7_two [.ref 0, .int a1, .int a2] S (some (.int r.1)) r.2 := by
  rw [f_X7_two] at h
  refine ct_of (lv := [(0, .ref 0), (1, .int a1), (2, .int a2)]) (by decide) rfl (Nat.le_of_ble_eq_true rfl) ?_
  refine z_aload_n 0 dX7_two_0 rfl ?_
  refine z_get (v := .ref 1) dX7_two_1 fl_7_12 kdl_0 rfl ?_
  refine z_iload_n 1 dX7_two_4 rfl ?_
  obtain ⟨v1, hv1, h⟩ := ob h
  refine z_callV (as := [.int a1]) dX7_two_5 ml_7_98 mv_X3_lacks (t_X3_lacks l kdl_1 hv1) kdl_1 ⟨by decide, rfl⟩ rfl rfl (Nat.le_of_ble_eq_true rfl) ⟨Nat.le_of_ble_eq_true rfl, Nat.le_of_ble_eq_true rfl⟩ rfl ?_
  refine z_if_eq (tgt := 17) dX7_two_8 (by decide) (fun c2 => ?_) (fun c2 => ?_)
  · replace h := ip c2 h
    refine z_iload_n 2 dX7_two_17 rfl ?_
    refine z_iconst (v := 0) dX7_two_18 rfl ?_
    refine z_bipush (v := 99) dX7_two_19 rfl ?_
    obtain ⟨v3, hv3, h⟩ := ob h
    refine z_callS (as := [.int a2, .int 0, .int 99]) dX7_two_21 ml_7_137 ms_X7_outside (t_X7_outside l _ hv3) rfl rfl (Nat.le_of_ble_eq_true rfl) ⟨Nat.le_of_ble_eq_true rfl, Nat.le_of_ble_eq_true rfl⟩ rfl ?_
    refine z_istore_n (lv' := [(0, .ref 0), (1, .int a1), (2, .int a2), (3, .int v3)]) [1, 2, 3, 0] dX7_two_24 (Nat.le_of_ble_eq_true rfl) rfl ?_
    refine z_iload_n 3 dX7_two_25 rfl ?_
    refine z_if_eq (tgt := 35) dX7_two_26 (by decide) (fun c4 => ?_) (fun c4 => ?_)
    · replace h := ip c4 h
      refine z_iconst (v := 0) dX7_two_35 rfl ?_
      refine z_istore (lv' := [(0, .ref 0), (1, .int a1), (2, .int a2), (3, .int v3), (4, .int 0)]) [1, 2, 3, 4, 0] dX7_two_36 (Nat.le_of_ble_eq_true rfl) rfl ?_
      refine z_sub (lv' := [(0, .ref 0), (1, .int a1), (2, .int a2), (4, .int 0)]) [0, 1, 2, 4] rfl ?_
      refine t_X7_two_L38 l _ _ _ _ _ _ _ _ h ?_ ?_
      · intro y11 y12 h
        refine z_bipush (v := 10) dX7_two_73 rfl ?_
        refine z_iload 0 dX7_two_75 rfl ?_
        refine z_imul dX7_two_77 ?_
        refine z_iload 1 dX7_two_78 rfl ?_
        refine z_iadd dX7_two_80 ?_
        obtain rfl := Option.some.inj h
        exact z_iret dX7_two_81 rfl rfl
      · intro h
        refine z_bipush (v := (-9)) dX7_two_94 rfl ?_
        obtain rfl := Option.some.inj h
        exact z_iret dX7_two_96 rfl rfl
    · replace h := ig c4 h
      refine z_aload_n 0 dX7_two_29 rfl ?_
      refine z_iload_n 3 dX7_two_30 rfl ?_
      obtain ⟨z13, hz13, h⟩ := ob h
      refine z_callV (as := [.int v3]) dX7_two_31 ml_7_71 mv_X7_refuse (t_X7_refuse l hz13) kdl_0 ⟨by decide, rfl⟩ rfl rfl (Nat.le_of_ble_eq_true rfl) ⟨Nat.le_of_ble_eq_true rfl, Nat.le_of_ble_eq_true rfl⟩ rfl ?_
      obtain rfl := Option.some.inj h
      exact z_iret dX7_two_34 rfl rfl
  · replace h := ig c2 h
    refine z_aload_n 0 dX7_two_11 rfl ?_
    refine z_iconst (v := (-1)) dX7_two_12 rfl ?_
    obtain ⟨z14, hz14, h⟩ := ob h
    refine z_callV (as := [.int (-1)]) dX7_two_13 ml_7_71 mv_X7_refuse (t_X7_refuse l hz14) kdl_0 ⟨by decide, rfl⟩ rfl rfl (Nat.le_of_ble_eq_true rfl) ⟨Nat.le_of_ble_eq_true rfl, Nat.le_of_ble_eq_true rfl⟩ rfl ?_
    obtain rfl := Option.some.inj h
    exact z_iret dX7_two_16 rfl rfl
