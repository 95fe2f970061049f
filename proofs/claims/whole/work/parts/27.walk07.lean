set_option maxHeartbeats 2000000 in
set_option maxRecDepth 20000 in
theorem t_X8_canOf_L4 (l : Launch) {q0 : Nat} (hq0 : kd q0 = 17) : ∀ (n : Nat) (x1 : Int32) (x2 : Int32) (x3 : Int32) (S : St) (k28 : Int32 → Option Int32) (r : Int32), f_X8_canOf_L4 n q0 x1 x2 x3 S k28 = some r → (∀ (e2 : Int32), k28 e2 = some r → Z l yX8_canOf M_X8_canOf 28 [(2, .int e2)] [] S (some (.int r)) S) → Z l yX8_canOf M_X8_canOf 4 [(0, .ref q0), (1, .int x1), (2, .int x2), (3, .int x3)] [] S (some (.int r)) S := by
  intro n
  induction n with
  | zero =>
    intro x1 x2 x3 S k28 r h hk28
    exact absurd h (by rw [f_X8_canOf_L4]; exact fun q => by cases q)
  | succ n ih =>
    intro x1 x2 x3 S k28 r h hk28
    rw [f_X8_canOf_L4] at h
    refine z_iload_n 3 dX8_canOf_4 rfl ?_
    refine z_bipush (v := 99) dX8_canOf_5 rfl ?_
    refine z_icmp_gt (tgt := 28) dX8_canOf_7 (by decide) (fun c1 => ?_) (fun c1 => ?_)
    · replace h := ip c1 h
      refine z_sub (lv' := [(2, .int x2)]) [2] rfl ?_
      exact hk28 _ h
    · replace h := ig c1 h
      refine z_iload_n 2 dX8_canOf_10 rfl ?_
      refine z_iconst (v := 1) dX8_canOf_11 rfl ?_
      refine z_aload_n 0 dX8_canOf_12 rfl ?_
      refine z_iload_n 1 dX8_canOf_13 rfl ?_
      refine z_iload_n 3 dX8_canOf_14 rfl ?_
      refine z_iconst (v := 0) dX8_canOf_15 rfl ?_
      obtain ⟨v2, hv2, h⟩ := ob h
      refine z_callS (as := [.ref q0, .int x1, .int x3, .int 0]) dX8_canOf_16 ml_8_73 ms_X8_yearOf (t_X8_yearOf l hq0 hv2) rfl rfl (Nat.le_of_ble_eq_true rfl) ⟨Nat.le_of_ble_eq_true rfl, Nat.le_of_ble_eq_true rfl⟩ rfl ?_
      refine z_ishl dX8_canOf_19 ?_
      refine z_ior dX8_canOf_20 ?_
      refine z_istore_n (lv' := [(0, .ref q0), (1, .int x1), (2, .int (x2 ||| (1 <<< (v2 &&& 31)))), (3, .int x3)]) [1, 2, 0, 3] dX8_canOf_21 (Nat.le_of_ble_eq_true rfl) rfl ?_
      refine z_iinc (lv' := [(0, .ref q0), (1, .int x1), (2, .int (x2 ||| (1 <<< (v2 &&& 31)))), (3, .int (x3 + 5))]) (v := x3 + 5) 3 [1, 2, 3, 0] dX8_canOf_22 rfl rfl (Nat.le_of_ble_eq_true rfl) rfl ?_
      refine z_goto (tgt := 4) dX8_canOf_25 (by decide) ?_
      refine z_sub (lv' := [(0, .ref q0), (1, .int x1), (2, .int (x2 ||| (1 <<< (v2 &&& 31)))), (3, .int (x3 + 5))]) [0, 1, 2, 3] rfl ?_
      exact ih _ _ _ _ _ _ h hk28
set_option maxHeartbeats 2000000 in
set_option maxRecDepth 20000 in
theorem t_X8_canOf (l : Launch) {S : St} {q0 : Nat} (hq0 : kd q0 = 17) {a1 : Int32} {r : Int32} (h : f_X8_canOf q0 a1 S = some r) : CT l yX8_canOf M_X8_canOf [.ref q0, .int a1] S (some (.int r)) S := by
  rw [f_X8_canOf] at h
  refine ct_of (lv := [(0, .ref q0), (1, .int a1)]) (by decide) rfl (Nat.le_of_ble_eq_true rfl) ?_
  refine z_iconst (v := 0) dX8_canOf_0 rfl ?_
  refine z_istore_n (lv' := [(0, .ref q0), (1, .int a1), (2, .int 0)]) [1, 2, 0] dX8_canOf_1 (Nat.le_of_ble_eq_true rfl) rfl ?_
  refine z_iconst (v := 0) dX8_canOf_2 rfl ?_
  refine z_istore_n (lv' := [(0, .ref q0), (1, .int a1), (2, .int 0), (3, .int 0)]) [1, 2, 3, 0] dX8_canOf_3 (Nat.le_of_ble_eq_true rfl) rfl ?_
  refine z_sub (lv' := [(0, .ref q0), (1, .int a1), (2, .int 0), (3, .int 0)]) [0, 1, 2, 3] rfl ?_
  refine t_X8_canOf_L4 l hq0 _ _ _ _ _ _ _ h ?_
  · intro y3 h
    refine z_iload_n 0 dX8_canOf_28 rfl ?_
    obtain rfl := Option.some.inj h
    exact z_iret dX8_canOf_29 rfl rfl
set_option maxHeartbeats 2000000 in
set_option maxRecDepth 20000 in
theorem t_X8_can (l : Launch) {S : St}  {a1 : Int32} {r : (Int32 × St)} (h : f_X8_can a1 S = some r) : CT l yX8_can M_X8_can [.ref 74, .int a1] S (some (.int r.1)) r.2 := by
  rw [f_X8_can] at h
  refine ct_of (lv := [(0, .ref 74), (1, .int a1)]) (by decide) rfl (Nat.le_of_ble_eq_true rfl) ?_
  refine z_aload_n 0 dX8_can_0 rfl ?_
  refine z_iload_n 1 dX8_can_1 rfl ?_
  obtain ⟨v1, hv1, h⟩ := ob h
  refine z_callV (as := [.int a1]) dX8_can_2 ml_8_101 mv_X8_isThing (t_X8_isThing l hv1) kdl_74 ⟨by decide, rfl⟩ rfl rfl (Nat.le_of_ble_eq_true rfl) ⟨Nat.le_of_ble_eq_true rfl, Nat.le_of_ble_eq_true rfl⟩ rfl ?_
  refine z_if_eq (tgt := 19) dX8_can_5 (by decide) (fun c2 => ?_) (fun c2 => ?_)
  · replace h := ip c2 h
    refine z_aload_n 0 dX8_can_19 rfl ?_
    refine z_iconst (v := (-1)) dX8_can_20 rfl ?_
    obtain ⟨z3, hz3, h⟩ := ob h
    refine z_callV (as := [.int (-1)]) dX8_can_21 ml_8_41 mv_X8_no (t_X8_no l hz3) kdl_74 ⟨by decide, rfl⟩ rfl rfl (Nat.le_of_ble_eq_true rfl) ⟨Nat.le_of_ble_eq_true rfl, Nat.le_of_ble_eq_true rfl⟩ rfl ?_
    obtain rfl := Option.some.inj h
    exact z_iret dX8_can_24 rfl rfl
  · replace h := ig c2 h
    refine z_aload_n 0 dX8_can_8 rfl ?_
    refine z_get (v := .ref 75) dX8_can_9 fl_8_9 kdl_74 rfl ?_
    refine z_iload_n 1 dX8_can_12 rfl ?_
    obtain ⟨v4, hv4, h⟩ := ob h
    refine z_callS (as := [.ref 75, .int a1]) dX8_can_13 ml_8_135 ms_X8_canOf (t_X8_canOf l kdl_75 hv4) rfl rfl (Nat.le_of_ble_eq_true rfl) ⟨Nat.le_of_ble_eq_true rfl, Nat.le_of_ble_eq_true rfl⟩ rfl ?_
    refine z_goto (tgt := 24) dX8_can_16 (by decide) ?_
    obtain rfl := Option.some.inj h
    exact z_iret dX8_can_24 rfl rfl
set_option maxHeartbeats 2000000 in
set_option maxRecDepth 20000 in
theorem t_X8_fewest (l : Launch) {S : St}  {a1 : Int32} {a2 : Int32} {r : (Int32 × St)} (h : f_X8_fewest a1 a2 S = some r) : CT l yX8_fewest M_X8_fewest [.ref 74, .int a1, .int a2] S (some (.int r.1)) r.2 := by
  rw [f_X8_fewest] at h
  refine ct_of (lv := [(0, .ref 74), (1, .int a1), (2, .int a2)]) (by decide) rfl (Nat.le_of_ble_eq_true rfl) ?_
  refine z_aload_n 0 dX8_fewest_0 rfl ?_
  refine z_iload_n 1 dX8_fewest_1 rfl ?_
  obtain ⟨v1, hv1, h⟩ := ob h
  refine z_callV (as := [.int a1]) dX8_fewest_2 ml_8_101 mv_X8_isThing (t_X8_isThing l hv1) kdl_74 ⟨by decide, rfl⟩ rfl rfl (Nat.le_of_ble_eq_true rfl) ⟨Nat.le_of_ble_eq_true rfl, Nat.le_of_ble_eq_true rfl⟩ rfl ?_
  refine z_if_eq (tgt := 27) dX8_fewest_5 (by decide) (fun c2 => ?_) (fun c2 => ?_)
  · replace h := ip c2 h
    refine z_aload_n 0 dX8_fewest_27 rfl ?_
    refine z_iconst (v := (-1)) dX8_fewest_28 rfl ?_
    obtain ⟨z3, hz3, h⟩ := ob h
    refine z_callV (as := [.int (-1)]) dX8_fewest_29 ml_8_41 mv_X8_no (t_X8_no l hz3) kdl_74 ⟨by decide, rfl⟩ rfl rfl (Nat.le_of_ble_eq_true rfl) ⟨Nat.le_of_ble_eq_true rfl, Nat.le_of_ble_eq_true rfl⟩ rfl ?_
    obtain rfl := Option.some.inj h
    exact z_iret dX8_fewest_32 rfl rfl
  · replace h := ig c2 h
    refine z_iload_n 2 dX8_fewest_8 rfl ?_
    obtain ⟨v4, hv4, h⟩ := ob h
    refine z_callS (as := [.int a2]) dX8_fewest_9 ml_8_105 ms_X8_isYear (t_X8_isYear l _ hv4) rfl rfl (Nat.le_of_ble_eq_true rfl) ⟨Nat.le_of_ble_eq_true rfl, Nat.le_of_ble_eq_true rfl⟩ rfl ?_
    refine z_if_eq (tgt := 27) dX8_fewest_12 (by decide) (fun c5 => ?_) (fun c5 => ?_)
    · replace h := ip c5 h
      refine z_aload_n 0 dX8_fewest_27 rfl ?_
      refine z_iconst (v := (-1)) dX8_fewest_28 rfl ?_
      obtain ⟨z6, hz6, h⟩ := ob h
      refine z_callV (as := [.int (-1)]) dX8_fewest_29 ml_8_41 mv_X8_no (t_X8_no l hz6) kdl_74 ⟨by decide, rfl⟩ rfl rfl (Nat.le_of_ble_eq_true rfl) ⟨Nat.le_of_ble_eq_true rfl, Nat.le_of_ble_eq_true rfl⟩ rfl ?_
      obtain rfl := Option.some.inj h
      exact z_iret dX8_fewest_32 rfl rfl
    · replace h := ig c5 h
      refine z_aload_n 0 dX8_fewest_15 rfl ?_
      refine z_get (v := .ref 75) dX8_fewest_16 fl_8_9 kdl_74 rfl ?_
      refine z_iload_n 1 dX8_fewest_19 rfl ?_
      refine z_iload_n 2 dX8_fewest_20 rfl ?_
      obtain ⟨v7, hv7, h⟩ := ob h
      refine z_callS (as := [.ref 75, .int a1, .int a2]) dX8_fewest_21 ml_8_138 ms_X8_fewestOf (t_X8_fewestOf l kdl_75 hv7) rfl rfl (Nat.le_of_ble_eq_true rfl) ⟨Nat.le_of_ble_eq_true rfl, Nat.le_of_ble_eq_true rfl⟩ rfl ?_
      refine z_goto (tgt := 32) dX8_fewest_24 (by decide) ?_
      obtain rfl := Option.some.inj h
      exact z_iret dX8_fewest_32 rfl rfl
set_option maxHeartbeats 2000000 in
set_option maxRecDepth 20000 in
theorem t_X8_gladness (l : Launch) {S : St}   {r : Int32} (h : f_X8_gladness S = some r) : CT l yX8_gladness M_X8_gladness [.ref 74] S (some (.int r)) S := by
  rw [f_X8_gladness] at h
  refine ct_of (lv := [(0, .ref 74)]) (by decide) rfl (Nat.le_of_ble_eq_true rfl) ?_
  refine z_aload_n 0 dX8_gladness_0 rfl ?_
  refine z_get (v := .ref 75) dX8_gladness_1 fl_8_9 kdl_74 rfl ?_
  obtain ⟨v1, hv1, h⟩ := ob h
  refine z_callS (as := [.ref 75]) dX8_gladness_4 ml_8_141 ms_X8_gladAll (t_X8_gladAll l kdl_75 hv1) rfl rfl (Nat.le_of_ble_eq_true rfl) ⟨Nat.le_of_ble_eq_true rfl, Nat.le_of_ble_eq_true rfl⟩ rfl ?_
  obtain rfl := Option.some.inj h
  exact z_iret dX8_gladness_7 rfl rfl
set_option maxHeartbeats 2000000 in
set_option maxRecDepth 20000 in
theorem t_X8_doAgree (l : Launch) {S : St} {q1 : Nat} (hq1 : kd q1 = 17) {a2 : Int32} {a3 : Int32} {r : Int32} (h : f_X8_doAgree q1 a2 a3 S = some r) : CT l yX8_doAgree M_X8_doAgree [.ref 74, .ref q1, .int a2, .int a3] S (some (.int r)) S := by
  rw [f_X8_doAgree] at h
  refine ct_of (lv := [(0, .ref 74), (1, .ref q1), (2, .int a2), (3, .int a3)]) (by decide) rfl (Nat.le_of_ble_eq_true rfl) ?_
  refine z_aload_n 1 dX8_doAgree_0 rfl ?_
  refine z_bipush (v := 20) dX8_doAgree_1 rfl ?_
  refine z_iload_n 2 dX8_doAgree_3 rfl ?_
  refine z_iadd dX8_doAgree_4 ?_
  obtain ⟨c1, h⟩ := oi h
  refine z_iald dX8_doAgree_5 hq1 (by decide) c1 ?_
  refine z_if_lt (tgt := 28) dX8_doAgree_6 (by decide) (fun c2 => ?_) (fun c2 => ?_)
  · replace h := ip c2 h
    refine z_iconst (v := 0) dX8_doAgree_28 rfl ?_
    obtain rfl := Option.some.inj h
    exact z_iret dX8_doAgree_29 rfl rfl
  · replace h := ig c2 h
    refine z_aload_n 1 dX8_doAgree_9 rfl ?_
    refine z_bipush (v := 20) dX8_doAgree_10 rfl ?_
    refine z_iload_n 2 dX8_doAgree_12 rfl ?_
    refine z_iadd dX8_doAgree_13 ?_
    obtain ⟨c3, h⟩ := oi h
    refine z_iald dX8_doAgree_14 hq1 (by decide) c3 ?_
    refine z_aload_n 1 dX8_doAgree_15 rfl ?_
    refine z_bipush (v := 20) dX8_doAgree_16 rfl ?_
    refine z_iload_n 3 dX8_doAgree_18 rfl ?_
    refine z_iadd dX8_doAgree_19 ?_
    obtain ⟨c4, h⟩ := oi h
    refine z_iald dX8_doAgree_20 hq1 (by decide) c4 ?_
    refine z_icmp_ne (tgt := 28) dX8_doAgree_21 (by decide) (fun c5 => ?_) (fun c5 => ?_)
    · replace h := ig c5 h
      refine z_iconst (v := 0) dX8_doAgree_28 rfl ?_
      obtain rfl := Option.some.inj h
      exact z_iret dX8_doAgree_29 rfl rfl
    · replace h := ip c5 h
      refine z_iconst (v := 1) dX8_doAgree_24 rfl ?_
      refine z_goto (tgt := 29) dX8_doAgree_25 (by decide) ?_
      obtain rfl := Option.some.inj h
      exact z_iret dX8_doAgree_29 rfl rfl
set_option maxHeartbeats 2000000 in
set_option maxRecDepth 20000 in
theorem t_X8_agreeMany_L16 (l : Launch) {q1 : Nat} (hq1 : kd q1 = 17) : ∀ (n : Nat) (x2 : Int32) (x3 : Int32) (x4 : Int32) (S : St) (k64 : Int32 → Option Int32) (r : Int32), f_X8_agreeMany_L16 n q1 x2 x3 x4 S k64 = some r → (∀ (e2 : Int32), k64 e2 = some r → Z l yX8_agreeMany M_X8_agreeMany 64 [(0, .ref 74), (1, .ref q1), (2, .int e2), (3, .int x3)] [] S (some (.int r)) S) → Z l yX8_agreeMany M_X8_agreeMany 16 [(0, .ref 74), (1, .ref q1), (2, .int x2), (3, .int x3), (4, .int x4)] [] S (some (.int r)) S := by
  intro n
  induction n with
  | zero =>
    intro x2 x3 x4 S k64 r h hk64
    exact absurd h (by rw [f_X8_agreeMany_L16]; exact fun q => by cases q)
  | succ n ih =>
    intro x2 x3 x4 S k64 r h hk64
    rw [f_X8_agreeMany_L16] at h
    refine z_iload 4 dX8_agreeMany_16 rfl ?_
    refine z_aload_n 1 dX8_agreeMany_18 rfl ?_
    refine z_iconst (v := 0) dX8_agreeMany_19 rfl ?_
    refine z_ialdK (j := 0) dX8_agreeMany_20 hq1 (by decide) (by decide) (by decide) ?_
    refine z_icmp_ge (tgt := 64) dX8_agreeMany_21 (by decide) (fun c2 => ?_) (fun c2 => ?_)
    · replace h := ip c2 h
      refine z_sub (lv' := [(0, .ref 74), (1, .ref q1), (2, .int x2), (3, .int x3)]) [0, 1, 2, 3] rfl ?_
      exact hk64 _ h
    · replace h := ig c2 h
      refine z_iload_n 2 dX8_agreeMany_24 rfl ?_
      refine z_aload_n 1 dX8_agreeMany_25 rfl ?_
      refine z_bipush (v := 124) dX8_agreeMany_26 rfl ?_
      refine z_iload_n 3 dX8_agreeMany_28 rfl ?_
      refine z_iadd dX8_agreeMany_29 ?_
      obtain ⟨c3, h⟩ := oi h
      refine z_iald dX8_agreeMany_30 hq1 (by decide) c3 ?_
      refine z_iload 4 dX8_agreeMany_31 rfl ?_
      refine z_ishr dX8_agreeMany_33 ?_
      refine z_iconst (v := 1) dX8_agreeMany_34 rfl ?_
      refine z_iand dX8_agreeMany_35 ?_
      refine z_iconst (v := 1) dX8_agreeMany_36 rfl ?_
      refine z_icmp_ne (tgt := 55) dX8_agreeMany_37 (by decide) (fun c4 => ?_) (fun c4 => ?_)
      · replace h := ig c4 h
        refine z_iconst (v := 0) dX8_agreeMany_55 rfl ?_
        refine z_iadd dX8_agreeMany_56 ?_
        refine z_istore_n (lv' := [(0, .ref 74), (1, .ref q1), (2, .int (x2 + 0)), (3, .int x3), (4, .int x4)]) [1, 2, 0, 3, 4] dX8_agreeMany_57 (Nat.le_of_ble_eq_true rfl) rfl ?_
        refine z_iinc (lv' := [(0, .ref 74), (1, .ref q1), (2, .int (x2 + 0)), (3, .int x3), (4, .int (x4 + 1))]) (v := x4 + 1) 4 [1, 2, 3, 4, 0] dX8_agreeMany_58 rfl rfl (Nat.le_of_ble_eq_true rfl) rfl ?_
        refine z_goto (tgt := 16) dX8_agreeMany_61 (by decide) ?_
        refine z_sub (lv' := [(0, .ref 74), (1, .ref q1), (2, .int (x2 + 0)), (3, .int x3), (4, .int (x4 + 1))]) [0, 1, 2, 3, 4] rfl ?_
        exact ih _ _ _ _ _ _ h hk64
      · replace h := ip c4 h
        refine z_aload_n 0 dX8_agreeMany_40 rfl ?_
        refine z_aload_n 1 dX8_agreeMany_41 rfl ?_
        refine z_iload_n 3 dX8_agreeMany_42 rfl ?_
        refine z_iload 4 dX8_agreeMany_43 rfl ?_
        obtain ⟨v5, hv5, h⟩ := ob h
        refine z_callV (as := [.ref q1, .int x3, .int x4]) dX8_agreeMany_45 ml_8_145 mv_X8_doAgree (t_X8_doAgree l hq1 hv5) kdl_74 ⟨by decide, rfl⟩ rfl rfl (Nat.le_of_ble_eq_true rfl) ⟨Nat.le_of_ble_eq_true rfl, Nat.le_of_ble_eq_true rfl⟩ rfl ?_
        refine z_if_eq (tgt := 55) dX8_agreeMany_48 (by decide) (fun c6 => ?_) (fun c6 => ?_)
        · replace h := ip c6 h
          refine z_iconst (v := 0) dX8_agreeMany_55 rfl ?_
          refine z_iadd dX8_agreeMany_56 ?_
          refine z_istore_n (lv' := [(0, .ref 74), (1, .ref q1), (2, .int (x2 + 0)), (3, .int x3), (4, .int x4)]) [1, 2, 0, 3, 4] dX8_agreeMany_57 (Nat.le_of_ble_eq_true rfl) rfl ?_
          refine z_iinc (lv' := [(0, .ref 74), (1, .ref q1), (2, .int (x2 + 0)), (3, .int x3), (4, .int (x4 + 1))]) (v := x4 + 1) 4 [1, 2, 3, 4, 0] dX8_agreeMany_58 rfl rfl (Nat.le_of_ble_eq_true rfl) rfl ?_
          refine z_goto (tgt := 16) dX8_agreeMany_61 (by decide) ?_
          refine z_sub (lv' := [(0, .ref 74), (1, .ref q1), (2, .int (x2 + 0)), (3, .int x3), (4, .int (x4 + 1))]) [0, 1, 2, 3, 4] rfl ?_
          exact ih _ _ _ _ _ _ h hk64
        · replace h := ig c6 h
          refine z_iconst (v := 1) dX8_agreeMany_51 rfl ?_
          refine z_goto (tgt := 56) dX8_agreeMany_52 (by decide) ?_
          refine z_iadd dX8_agreeMany_56 ?_
          refine z_istore_n (lv' := [(0, .ref 74), (1, .ref q1), (2, .int (x2 + 1)), (3, .int x3), (4, .int x4)]) [1, 2, 0, 3, 4] dX8_agreeMany_57 (Nat.le_of_ble_eq_true rfl) rfl ?_
          refine z_iinc (lv' := [(0, .ref 74), (1, .ref q1), (2, .int (x2 + 1)), (3, .int x3), (4, .int (x4 + 1))]) (v := x4 + 1) 4 [1, 2, 3, 4, 0] dX8_agreeMany_58 rfl rfl (Nat.le_of_ble_eq_true rfl) rfl ?_
          refine z_goto (tgt := 16) dX8_agreeMany_61 (by decide) ?_
          refine z_sub (lv' := [(0, .ref 74), (1, .ref q1), (2, .int (x2 + 1)), (3, .int x3), (4, .int (x4 + 1))]) [0, 1, 2, 3, 4] rfl ?_
          exact ih _ _ _ _ _ _ h hk64
set_option maxHeartbeats 2000000 in
set_option maxRecDepth 20000 in
theorem t_X8_agreeMany_L4 (l : Launch) {q1 : Nat} (hq1 : kd q1 = 17) : ∀ (n : Nat) (x2 : Int32) (x3 : Int32) (S : St) (k70 : Int32 → Option Int32) (r : Int32), f_X8_agreeMany_L4 n q1 x2 x3 S k70 = some r → (∀ (e2 : Int32), k70 e2 = some r → Z l yX8_agreeMany M_X8_agreeMany 70 [(2, .int e2)] [] S (some (.int r)) S) → Z l yX8_agreeMany M_X8_agreeMany 4 [(0, .ref 74), (1, .ref q1), (2, .int x2), (3, .int x3)] [] S (some (.int r)) S := by
  intro n
  induction n with
  | zero =>
    intro x2 x3 S k70 r h hk70
    exact absurd h (by rw [f_X8_agreeMany_L4]; exact fun q => by cases q)
  | succ n ih =>
    intro x2 x3 S k70 r h hk70
    rw [f_X8_agreeMany_L4] at h
    refine z_iload_n 3 dX8_agreeMany_4 rfl ?_
    refine z_aload_n 1 dX8_agreeMany_5 rfl ?_
    refine z_iconst (v := 0) dX8_agreeMany_6 rfl ?_
    refine z_ialdK (j := 0) dX8_agreeMany_7 hq1 (by decide) (by decide) (by decide) ?_
    refine z_icmp_ge (tgt := 70) dX8_agreeMany_8 (by decide) (fun c1 => ?_) (fun c1 => ?_)
    · replace h := ip c1 h
      refine z_sub (lv' := [(2, .int x2)]) [2] rfl ?_
      exact hk70 _ h
    · replace h := ig c1 h
      refine z_iload_n 3 dX8_agreeMany_11 rfl ?_
      refine z_iconst (v := 1) dX8_agreeMany_12 rfl ?_
      refine z_iadd dX8_agreeMany_13 ?_
      refine z_istore (lv' := [(0, .ref 74), (1, .ref q1), (2, .int x2), (3, .int x3), (4, .int (x3 + 1))]) [1, 2, 3, 4, 0] dX8_agreeMany_14 (Nat.le_of_ble_eq_true rfl) rfl ?_
      refine z_sub (lv' := [(0, .ref 74), (1, .ref q1), (2, .int x2), (3, .int x3), (4, .int (x3 + 1))]) [0, 1, 2, 3, 4] rfl ?_
      refine t_X8_agreeMany_L16 l hq1 _ _ _ _ _ _ _ h ?_
      · intro y7 h
        refine z_iinc (lv' := [(0, .ref 74), (1, .ref q1), (2, .int y7), (3, .int (x3 + 1))]) (v := x3 + 1) 3 [1, 2, 3, 0] dX8_agreeMany_64 rfl rfl (Nat.le_of_ble_eq_true rfl) rfl ?_
        refine z_goto (tgt := 4) dX8_agreeMany_67 (by decide) ?_
        refine z_sub (lv' := [(0, .ref 74), (1, .ref q1), (2, .int y7), (3, .int (x3 + 1))]) [0, 1, 2, 3] rfl ?_
        exact ih _ _ _ _ _ h hk70
set_option maxHeartbeats 2000000 in
set_option maxRecDepth 20000 in
theorem t_X8_agreeMany (l : Launch) {S : St} {q1 : Nat} (hq1 : kd q1 = 17)  {r : Int32} (h : f_X8_agreeMany q1 S = some r) : CT l yX8_agreeMany M_X8_agreeMany [.ref 74, .ref q1] S (some (.int r)) S := by
  rw [f_X8_agreeMany] at h
  refine ct_of (lv := [(0, .ref 74), (1, .ref q1)]) (by decide) rfl (Nat.le_of_ble_eq_true rfl) ?_
  refine z_iconst (v := 0) dX8_agreeMany_0 rfl ?_
  refine z_istore_n (lv' := [(0, .ref 74), (1, .ref q1), (2, .int 0)]) [1, 2, 0] dX8_agreeMany_1 (Nat.le_of_ble_eq_true rfl) rfl ?_
  refine z_iconst (v := 0) dX8_agreeMany_2 rfl ?_
  refine z_istore_n (lv' := [(0, .ref 74), (1, .ref q1), (2, .int 0), (3, .int 0)]) [1, 2, 3, 0] dX8_agreeMany_3 (Nat.le_of_ble_eq_true rfl) rfl ?_
  refine z_sub (lv' := [(0, .ref 74), (1, .ref q1), (2, .int 0), (3, .int 0)]) [0, 1, 2, 3] rfl ?_
  refine t_X8_agreeMany_L4 l hq1 _ _ _ _ _ _ h ?_
  · intro y8 h
    refine z_iload_n 0 dX8_agreeMany_70 rfl ?_
    obtain rfl := Option.some.inj h
    exact z_iret dX8_agreeMany_71 rfl rfl
set_option maxHeartbeats 2000000 in
set_option maxRecDepth 20000 in
theorem t_X8_agree_L45 (l : Launch)   : ∀ (n : Nat) (x2 : Int32) (x3 : Int32) (S : St) (k85 : Int32 → Option (Int32 × St)) (k98 : Unit → Option (Int32 × St)) (r : (Int32 × St)), f_X8_agree_L45 n x2 x3 S k85 k98 = some r → (∀ (e3 : Int32), k85 e3 = some r → Z l yX8_agree M_X8_agree 85 [(2, .int x2), (3, .int e3)] [] S (some (.int r.1)) r.2) → (k98 () = some r → Z l yX8_agree M_X8_agree 98 [(0, .ref 74), (2, .int x2)] [] S (some (.int r.1)) r.2) → Z l yX8_agree M_X8_agree 45 [(0, .ref 74), (2, .int x2), (3, .int x3)] [] S (some (.int r.1)) r.2 := by
  intro n
  induction n with
  | zero =>
    intro x2 x3 S k85 k98 r h hk85 hk98
    exact absurd h (by rw [f_X8_agree_L45]; exact fun q => by cases q)
  | succ n ih =>
    intro x2 x3 S k85 k98 r h hk85 hk98
    rw [f_X8_agree_L45] at h
    refine z_iload_n 2 dX8_agree_45 rfl ?_
    refine z_aload_n 0 dX8_agree_46 rfl ?_
    refine z_get (v := .ref 75) dX8_agree_47 fl_8_9 kdl_74 rfl ?_
    refine z_iconst (v := 0) dX8_agree_50 rfl ?_
    refine z_ialdK (j := 0) dX8_agree_51 kdl_75 (by decide) (by decide) (by decide) ?_
    refine z_icmp_ge (tgt := 98) dX8_agree_52 (by decide) (fun c5 => ?_) (fun c5 => ?_)
    · replace h := ip c5 h
      refine z_sub (lv' := [(0, .ref 74), (2, .int x2)]) [0, 1] rfl ?_
      exact hk98  h
    · replace h := ig c5 h
      refine z_aload_n 0 dX8_agree_55 rfl ?_
      refine z_get (v := .ref 75) dX8_agree_56 fl_8_9 kdl_74 rfl ?_
      refine z_bipush (v := 124) dX8_agree_59 rfl ?_
      refine z_iload_n 1 dX8_agree_61 rfl ?_
      refine z_iadd dX8_agree_62 ?_
      obtain ⟨c6, h⟩ := oi h
      refine z_iald dX8_agree_63 kdl_75 (by decide) c6 ?_
      refine z_iload_n 2 dX8_agree_64 rfl ?_
      refine z_ishr dX8_agree_65 ?_
      refine z_iconst (v := 1) dX8_agree_66 rfl ?_
      refine z_iand dX8_agree_67 ?_
      refine z_iconst (v := 1) dX8_agree_68 rfl ?_
      refine z_icmp_ne (tgt := 92) dX8_agree_69 (by decide) (fun c7 => ?_) (fun c7 => ?_)
      · replace h := ig c7 h
        refine z_iinc (lv' := [(0, .ref 74), (2, .int x2), (3, .int (x3 + 1))]) (v := x3 + 1) 2 [1, 2, 0] dX8_agree_92 rfl rfl (Nat.le_of_ble_eq_true rfl) rfl ?_
        refine z_goto (tgt := 45) dX8_agree_95 (by decide) ?_
        refine z_sub (lv' := [(0, .ref 74), (2, .int x2), (3, .int (x3 + 1))]) [0, 1, 2] rfl ?_
        exact ih _ _ _ _ _ _ h hk85 hk98
      · replace h := ip c7 h
        refine z_aload_n 0 dX8_agree_72 rfl ?_
        refine z_aload_n 0 dX8_agree_73 rfl ?_
        refine z_get (v := .ref 75) dX8_agree_74 fl_8_9 kdl_74 rfl ?_
        refine z_iload_n 1 dX8_agree_77 rfl ?_
        refine z_iload_n 2 dX8_agree_78 rfl ?_
        obtain ⟨v8, hv8, h⟩ := ob h
        refine z_callV (as := [.ref 75, .int x2, .int x3]) dX8_agree_79 ml_8_145 mv_X8_doAgree (t_X8_doAgree l kdl_75 hv8) kdl_74 ⟨by decide, rfl⟩ rfl rfl (Nat.le_of_ble_eq_true rfl) ⟨Nat.le_of_ble_eq_true rfl, Nat.le_of_ble_eq_true rfl⟩ rfl ?_
        refine z_if_ne (tgt := 92) dX8_agree_82 (by decide) (fun c9 => ?_) (fun c9 => ?_)
        · replace h := ig c9 h
          refine z_iinc (lv' := [(0, .ref 74), (2, .int x2), (3, .int (x3 + 1))]) (v := x3 + 1) 2 [1, 2, 0] dX8_agree_92 rfl rfl (Nat.le_of_ble_eq_true rfl) rfl ?_
          refine z_goto (tgt := 45) dX8_agree_95 (by decide) ?_
          refine z_sub (lv' := [(0, .ref 74), (2, .int x2), (3, .int (x3 + 1))]) [0, 1, 2] rfl ?_
          exact ih _ _ _ _ _ _ h hk85 hk98
        · replace h := ip c9 h
          refine z_sub (lv' := [(2, .int x2), (3, .int x3)]) [1, 2] rfl ?_
          exact hk85 _ h
set_option maxHeartbeats 2000000 in
set_option maxRecDepth 20000 in
theorem t_X8_agree_L31 (l : Launch)   : ∀ (n : Nat) (x2 : Int32) (S : St) (k85 : Int32 → Int32 → Option (Int32 × St)) (k104 : Unit → Option (Int32 × St)) (r : (Int32 × St)), f_X8_agree_L31 n x2 S k85 k104 = some r → (∀ (e2 : Int32) (e3 : Int32), k85 e2 e3 = some r → Z l yX8_agree M_X8_agree 85 [(2, .int e2), (3, .int e3)] [] S (some (.int r.1)) r.2) → (k104 () = some r → Z l yX8_agree M_X8_agree 104 [] [] S (some (.int r.1)) r.2) → Z l yX8_agree M_X8_agree 31 [(0, .ref 74), (2, .int x2)] [] S (some (.int r.1)) r.2 := by
  intro n
  induction n with
  | zero =>
    intro x2 S k85 k104 r h hk85 hk104
    exact absurd h (by rw [f_X8_agree_L31]; exact fun q => by cases q)
  | succ n ih =>
    intro x2 S k85 k104 r h hk85 hk104
    rw [f_X8_agree_L31] at h
    refine z_iload_n 1 dX8_agree_31 rfl ?_
    refine z_aload_n 0 dX8_agree_32 rfl ?_
    refine z_get (v := .ref 75) dX8_agree_33 fl_8_9 kdl_74 rfl ?_
    refine z_iconst (v := 0) dX8_agree_36 rfl ?_
    refine z_ialdK (j := 0) dX8_agree_37 kdl_75 (by decide) (by decide) (by decide) ?_
    refine z_icmp_ge (tgt := 104) dX8_agree_38 (by decide) (fun c4 => ?_) (fun c4 => ?_)
    · replace h := ip c4 h
      refine z_sub (lv' := []) [] rfl ?_
      exact hk104  h
    · replace h := ig c4 h
      refine z_iload_n 1 dX8_agree_41 rfl ?_
      refine z_iconst (v := 1) dX8_agree_42 rfl ?_
      refine z_iadd dX8_agree_43 ?_
      refine z_istore_n (lv' := [(0, .ref 74), (2, .int x2), (3, .int (x2 + 1))]) [1, 2, 0] dX8_agree_44 (Nat.le_of_ble_eq_true rfl) rfl ?_
      refine z_sub (lv' := [(0, .ref 74), (2, .int x2), (3, .int (x2 + 1))]) [0, 1, 2] rfl ?_
      refine t_X8_agree_L45 l _ _ _ _ _ _ _ h ?_ ?_
      · intro y10 h
        refine z_sub (lv' := [(2, .int x2), (3, .int y10)]) [0, 1] rfl ?_
        exact hk85 _ _ h
      · intro h
        refine z_iinc (lv' := [(0, .ref 74), (2, .int (x2 + 1))]) (v := x2 + 1) 1 [1, 0] dX8_agree_98 rfl rfl (Nat.le_of_ble_eq_true rfl) rfl ?_
        refine z_goto (tgt := 31) dX8_agree_101 (by decide) ?_
        refine z_sub (lv' := [(0, .ref 74), (2, .int (x2 + 1))]) [0, 1] rfl ?_
        exact ih _ _ _ _ _ h hk85 hk104
set_option maxHeartbeats 2000000 in
set_option maxRecDepth 20000 in
theorem t_X8_agree (l : Launch) {S : St}  {a1 : Int32} {r : (Int32 × St)} (h : f_X8_agree a1 S = some r) : CT l yX8_agree M_X8_agree [.ref 74, .int a1] S (some (.int r.1)) r.2 := by
  rw [f_X8_agree] at h
  refine ct_of (lv := [(0, .ref 74), (1, .int a1)]) (by decide) rfl (Nat.le_of_ble_eq_true rfl) ?_
  refine z_iload_n 1 dX8_agree_0 rfl ?_
  refine z_iconst (v := 0) dX8_agree_1 rfl ?_
  refine z_iconst (v := 1) dX8_agree_2 rfl ?_
  obtain ⟨v1, hv1, h⟩ := ob h
  refine z_callS (as := [.int a1, .int 0, .int 1]) dX8_agree_3 ml_8_47 ms_X8_isIn (t_X8_isIn l _ hv1) rfl rfl (Nat.le_of_ble_eq_true rfl) ⟨Nat.le_of_ble_eq_true rfl, Nat.le_of_ble_eq_true rfl⟩ rfl ?_
  refine z_if_ne (tgt := 16) dX8_agree_6 (by decide) (fun c2 => ?_) (fun c2 => ?_)
  · replace h := ig c2 h
    refine z_iload_n 1 dX8_agree_16 rfl ?_
    refine z_if_ne (tgt := 29) dX8_agree_17 (by decide) (fun c3 => ?_) (fun c3 => ?_)
    · replace h := ig c3 h
      refine z_iconst (v := 0) dX8_agree_29 rfl ?_
      refine z_istore_n (lv' := [(0, .ref 74), (1, .int a1), (2, .int 0)]) [1, 2, 0] dX8_agree_30 (Nat.le_of_ble_eq_true rfl) rfl ?_
      refine z_sub (lv' := [(0, .ref 74), (2, .int 0)]) [0, 2] rfl ?_
      refine t_X8_agree_L31 l _ _ _ _ _ _ h ?_ ?_
      · intro y11 y12 h
        refine z_bipush (v := 10) dX8_agree_85 rfl ?_
        refine z_iload_n 0 dX8_agree_87 rfl ?_
        refine z_imul dX8_agree_88 ?_
        refine z_iload_n 1 dX8_agree_89 rfl ?_
        refine z_iadd dX8_agree_90 ?_
        obtain rfl := Option.some.inj h
        exact z_iret dX8_agree_91 rfl rfl
      · intro h
        refine z_bipush (v := (-9)) dX8_agree_104 rfl ?_
        obtain rfl := Option.some.inj h
        exact z_iret dX8_agree_106 rfl rfl
    · replace h := ip c3 h
      refine z_aload_n 0 dX8_agree_20 rfl ?_
      refine z_aload_n 0 dX8_agree_21 rfl ?_
      refine z_get (v := .ref 75) dX8_agree_22 fl_8_9 kdl_74 rfl ?_
      obtain ⟨v13, hv13, h⟩ := ob h
      refine z_callV (as := [.ref 75]) dX8_agree_25 ml_8_149 mv_X8_agreeMany (t_X8_agreeMany l kdl_75 hv13) kdl_74 ⟨by decide, rfl⟩ rfl rfl (Nat.le_of_ble_eq_true rfl) ⟨Nat.le_of_ble_eq_true rfl, Nat.le_of_ble_eq_true rfl⟩ rfl ?_
      obtain rfl := Option.some.inj h
      exact z_iret dX8_agree_28 rfl rfl
  · replace h := ip c2 h
    refine z_aload_n 0 dX8_agree_9 rfl ?_
    refine z_bipush (v := (-2)) dX8_agree_10 rfl ?_
    obtain ⟨z14, hz14, h⟩ := ob h
    refine z_callV (as := [.int (-2)]) dX8_agree_12 ml_8_41 mv_X8_no (t_X8_no l hz14) kdl_74 ⟨by decide, rfl⟩ rfl rfl (Nat.le_of_ble_eq_true rfl) ⟨Nat.le_of_ble_eq_true rfl, Nat.le_of_ble_eq_true rfl⟩ rfl ?_
    obtain rfl := Option.some.inj h
    exact z_iret dX8_agree_15 rfl rfl
set_option maxHeartbeats 2000000 in
set_option maxRecDepth 20000 in
theorem t_X8_mostBy_L104 (l : Launch) {q1 : Nat} (hq1 : kd q1 = 17) : ∀ (n : Nat) (x2 : Int32) (x3 : Int32) (x4 : Int32) (x5 : Int32) (x6 : Int32) (x7 : Int32) (x8 : Int32) (x9 : Int32) (x10 : Int32) (x11 : Int32) (S : St) (k149 : Int32 → Option (Int32 × St)) (r : (Int32 × St)), f_X8_mostBy_L104 n q1 x2 x3 x4 x5 x6 x7 x8 x9 x10 x11 S k149 = some r → (∀ (e10 : Int32), k149 e10 = some r → Z l yX8_mostBy M_X8_mostBy 149 [(0, .ref 74), (1, .ref q1), (2, .int x2), (3, .int x3), (4, .int x4), (5, .int x5), (6, .int x6), (7, .int x7), (8, .int x8), (10, .int e10)] [] S (some (.int r.1)) r.2) → Z l yX8_mostBy M_X8_mostBy 104 [(0, .ref 74), (1, .ref q1), (2, .int x2), (3, .int x3), (4, .int x4), (5, .int x5), (6, .int x6), (7, .int x7), (8, .int x8), (9, .int x9), (10, .int x10), (11, .int x11)] [] S (some (.int r.1)) r.2 := by
  intro n
  induction n with
  | zero =>
    intro x2 x3 x4 x5 x6 x7 x8 x9 x10 x11 S k149 r h hk149
    exact absurd h (by rw [f_X8_mostBy_L104]; exact fun q => by cases q)
  | succ n ih =>
    intro x2 x3 x4 x5 x6 x7 x8 x9 x10 x11 S k149 r h hk149
    rw [f_X8_mostBy_L104] at h
    refine z_iload 11 dX8_mostBy_104 rfl ?_
    refine z_bipush (v := 12) dX8_mostBy_106 rfl ?_
    refine z_icmp_ge (tgt := 149) dX8_mostBy_108 (by decide) (fun c8 => ?_) (fun c8 => ?_)
    · replace h := ip c8 h
      refine z_sub (lv' := [(0, .ref 74), (1, .ref q1), (2, .int x2), (3, .int x3), (4, .int x4), (5, .int x5), (6, .int x6), (7, .int x7), (8, .int x8), (10, .int x10)]) [0, 1, 2, 3, 4, 5, 6, 7, 8, 10] rfl ?_
      exact hk149 _ h
    · replace h := ig c8 h
      refine z_iload 9 dX8_mostBy_111 rfl ?_
      refine z_iload 11 dX8_mostBy_113 rfl ?_
      refine z_ishr dX8_mostBy_115 ?_
      refine z_iconst (v := 1) dX8_mostBy_116 rfl ?_
      refine z_iand dX8_mostBy_117 ?_
      refine z_iconst (v := 1) dX8_mostBy_118 rfl ?_
      refine z_icmp_ne (tgt := 139) dX8_mostBy_119 (by decide) (fun c9 => ?_) (fun c9 => ?_)
      · replace h := ig c9 h
        refine z_iload 10 dX8_mostBy_139 rfl ?_
        refine z_istore (lv' := [(0, .ref 74), (1, .ref q1), (2, .int x2), (3, .int x3), (4, .int x4), (5, .int x5), (6, .int x6), (7, .int x7), (8, .int x8), (9, .int x9), (10, .int x10), (11, .int x11)]) [1, 2, 3, 4, 5, 6, 7, 8, 9, 10, 0, 11] dX8_mostBy_141 (Nat.le_of_ble_eq_true rfl) rfl ?_
        refine z_iinc (lv' := [(0, .ref 74), (1, .ref q1), (2, .int x2), (3, .int x3), (4, .int x4), (5, .int x5), (6, .int x6), (7, .int x7), (8, .int x8), (9, .int x9), (10, .int x10), (11, .int (x11 + 1))]) (v := x11 + 1) 11 [1, 2, 3, 4, 5, 6, 7, 8, 9, 10, 11, 0] dX8_mostBy_143 rfl rfl (Nat.le_of_ble_eq_true rfl) rfl ?_
        refine z_goto (tgt := 104) dX8_mostBy_146 (by decide) ?_
        refine z_sub (lv' := [(0, .ref 74), (1, .ref q1), (2, .int x2), (3, .int x3), (4, .int x4), (5, .int x5), (6, .int x6), (7, .int x7), (8, .int x8), (9, .int x9), (10, .int x10), (11, .int (x11 + 1))]) [0, 1, 2, 3, 4, 5, 6, 7, 8, 9, 10, 11] rfl ?_
        exact ih _ _ _ _ _ _ _ _ _ _ _ _ _ h hk149
      · replace h := ip c9 h
        refine z_iload 10 dX8_mostBy_122 rfl ?_
        refine z_aload_n 1 dX8_mostBy_124 rfl ?_
        refine z_iload 8 dX8_mostBy_125 rfl ?_
        refine z_iload 11 dX8_mostBy_127 rfl ?_
        obtain ⟨v10, hv10, h⟩ := ob h
        refine z_callS (as := [.int x8, .int x11]) dX8_mostBy_129 ml_8_55 ms_X8_at (t_X8_at l _ hv10) rfl rfl (Nat.le_of_ble_eq_true rfl) ⟨Nat.le_of_ble_eq_true rfl, Nat.le_of_ble_eq_true rfl⟩ rfl ?_
        obtain ⟨c11, h⟩ := oi h
        refine z_iald dX8_mostBy_132 hq1 (by decide) c11 ?_
        obtain ⟨v12, hv12, h⟩ := ob h
        refine z_callS (as := [.int x10, .int (S.1 q1 v10.toNatClampNeg)]) dX8_mostBy_133 ml_8_51 ms_X8_most (t_X8_most l _ hv12) rfl rfl (Nat.le_of_ble_eq_true rfl) ⟨Nat.le_of_ble_eq_true rfl, Nat.le_of_ble_eq_true rfl⟩ rfl ?_
        refine z_goto (tgt := 141) dX8_mostBy_136 (by decide) ?_
        refine z_istore (lv' := [(0, .ref 74), (1, .ref q1), (2, .int x2), (3, .int x3), (4, .int x4), (5, .int x5), (6, .int x6), (7, .int x7), (8, .int x8), (9, .int x9), (10, .int v12), (11, .int x11)]) [1, 2, 3, 4, 5, 6, 7, 8, 9, 10, 0, 11] dX8_mostBy_141 (Nat.le_of_ble_eq_true rfl) rfl ?_
        refine z_iinc (lv' := [(0, .ref 74), (1, .ref q1), (2, .int x2), (3, .int x3), (4, .int x4), (5, .int x5), (6, .int x6), (7, .int x7), (8, .int x8), (9, .int x9), (10, .int v12), (11, .int (x11 + 1))]) (v := x11 + 1) 11 [1, 2, 3, 4, 5, 6, 7, 8, 9, 10, 11, 0] dX8_mostBy_143 rfl rfl (Nat.le_of_ble_eq_true rfl) rfl ?_
        refine z_goto (tgt := 104) dX8_mostBy_146 (by decide) ?_
        refine z_sub (lv' := [(0, .ref 74), (1, .ref q1), (2, .int x2), (3, .int x3), (4, .int x4), (5, .int x5), (6, .int x6), (7, .int x7), (8, .int x8), (9, .int x9), (10, .int v12), (11, .int (x11 + 1))]) [0, 1, 2, 3, 4, 5, 6, 7, 8, 9, 10, 11] rfl ?_
        exact ih _ _ _ _ _ _ _ _ _ _ _ _ _ h hk149
set_option maxHeartbeats 2000000 in
set_option maxRecDepth 20000 in
theorem t_X8_mostBy_L27 (l : Launch) {q1 : Nat} (hq1 : kd q1 = 17) : ∀ (n : Nat) (x2 : Int32) (x3 : Int32) (x4 : Int32) (x5 : Int32) (x6 : Int32) (x7 : Int32) (x8 : Int32) (S : St) (k162 : Int32 → Int32 → Int32 → Option (Int32 × St)) (r : (Int32 × St)), f_X8_mostBy_L27 n q1 x2 x3 x4 x5 x6 x7 x8 S k162 = some r → (∀ (e5 : Int32) (e6 : Int32) (e7 : Int32), k162 e5 e6 e7 = some r → Z l yX8_mostBy M_X8_mostBy 162 [(0, .ref 74), (1, .ref q1), (2, .int x2), (3, .int x3), (4, .int x4), (5, .int e5), (6, .int e6), (7, .int e7)] [] S (some (.int r.1)) r.2) → Z l yX8_mostBy M_X8_mostBy 27 [(0, .ref 74), (1, .ref q1), (2, .int x2), (3, .int x3), (4, .int x4), (5, .int x5), (6, .int x6), (7, .int x7), (8, .int x8)] [] S (some (.int r.1)) r.2 := by
  intro n
  induction n with
  | zero =>
    intro x2 x3 x4 x5 x6 x7 x8 S k162 r h hk162
    exact absurd h (by rw [f_X8_mostBy_L27]; exact fun q => by cases q)
  | succ n ih =>
    intro x2 x3 x4 x5 x6 x7 x8 S k162 r h hk162
    rw [f_X8_mostBy_L27] at h
    refine z_iload 8 dX8_mostBy_27 rfl ?_
    refine z_aload_n 1 dX8_mostBy_29 rfl ?_
    refine z_iconst (v := 0) dX8_mostBy_30 rfl ?_
    refine z_ialdK (j := 0) dX8_mostBy_31 hq1 (by decide) (by decide) (by decide) ?_
    refine z_icmp_ge (tgt := 162) dX8_mostBy_32 (by decide) (fun c2 => ?_) (fun c2 => ?_)
    · replace h := ip c2 h
      refine z_sub (lv' := [(0, .ref 74), (1, .ref q1), (2, .int x2), (3, .int x3), (4, .int x4), (5, .int x5), (6, .int x6), (7, .int x7)]) [0, 1, 2, 3, 4, 5, 6, 7] rfl ?_
      exact hk162 _ _ _ h
    · replace h := ig c2 h
      refine z_iload 4 dX8_mostBy_35 rfl ?_
      refine z_iload 8 dX8_mostBy_37 rfl ?_
      refine z_ishr dX8_mostBy_39 ?_
      refine z_iconst (v := 1) dX8_mostBy_40 rfl ?_
      refine z_iand dX8_mostBy_41 ?_
      refine z_if_ne (tgt := 59) dX8_mostBy_42 (by decide) (fun c3 => ?_) (fun c3 => ?_)
      · replace h := ig c3 h
        refine z_iload 7 dX8_mostBy_59 rfl ?_
        refine z_aload_n 1 dX8_mostBy_61 rfl ?_
        refine z_bipush (v := 20) dX8_mostBy_62 rfl ?_
        refine z_iload 8 dX8_mostBy_64 rfl ?_
        refine z_iadd dX8_mostBy_66 ?_
        obtain ⟨c4, h⟩ := oi h
        refine z_iald dX8_mostBy_67 hq1 (by decide) c4 ?_
        refine z_if_ge (tgt := 75) dX8_mostBy_68 (by decide) (fun c5 => ?_) (fun c5 => ?_)
        · replace h := ip c5 h
          refine z_iconst (v := 0) dX8_mostBy_75 rfl ?_
          refine z_iand dX8_mostBy_76 ?_
          refine z_istore (lv' := [(0, .ref 74), (1, .ref q1), (2, .int x2), (3, .int x3), (4, .int x4), (5, .int x5), (6, .int x6), (7, .int (x7 &&& 0)), (8, .int x8)]) [1, 2, 3, 4, 5, 6, 7, 0, 8] dX8_mostBy_77 (Nat.le_of_ble_eq_true rfl) rfl ?_
          refine z_iload 5 dX8_mostBy_79 rfl ?_
          refine z_aload_n 1 dX8_mostBy_81 rfl ?_
          refine z_iload 8 dX8_mostBy_82 rfl ?_
          obtain ⟨v6, hv6, h⟩ := ob h
          refine z_callS (as := [.ref q1, .int x8]) dX8_mostBy_84 ml_8_98 ms_X8_cost (t_X8_cost l hq1 hv6) rfl rfl (Nat.le_of_ble_eq_true rfl) ⟨Nat.le_of_ble_eq_true rfl, Nat.le_of_ble_eq_true rfl⟩ rfl ?_
          refine z_isub dX8_mostBy_87 ?_
          refine z_istore (lv' := [(0, .ref 74), (1, .ref q1), (2, .int x2), (3, .int x3), (4, .int x4), (5, .int (x5 - v6)), (6, .int x6), (7, .int (x7 &&& 0)), (8, .int x8)]) [1, 2, 3, 4, 5, 0, 6, 7, 8] dX8_mostBy_88 (Nat.le_of_ble_eq_true rfl) rfl ?_
          refine z_aload_n 1 dX8_mostBy_90 rfl ?_
          refine z_iload 8 dX8_mostBy_91 rfl ?_
          obtain ⟨v7, hv7, h⟩ := ob h
          refine z_callS (as := [.ref q1, .int x8]) dX8_mostBy_93 ml_8_135 ms_X8_canOf (t_X8_canOf l hq1 hv7) rfl rfl (Nat.le_of_ble_eq_true rfl) ⟨Nat.le_of_ble_eq_true rfl, Nat.le_of_ble_eq_true rfl⟩ rfl ?_
          refine z_istore (lv' := [(0, .ref 74), (1, .ref q1), (2, .int x2), (3, .int x3), (4, .int x4), (5, .int (x5 - v6)), (6, .int x6), (7, .int (x7 &&& 0)), (8, .int x8), (9, .int v7)]) [1, 2, 3, 4, 5, 6, 7, 8, 9, 0] dX8_mostBy_96 (Nat.le_of_ble_eq_true rfl) rfl ?_
          refine z_iconst (v := 0) dX8_mostBy_98 rfl ?_
          refine z_istore (lv' := [(0, .ref 74), (1, .ref q1), (2, .int x2), (3, .int x3), (4, .int x4), (5, .int (x5 - v6)), (6, .int x6), (7, .int (x7 &&& 0)), (8, .int x8), (9, .int v7), (10, .int 0)]) [1, 2, 3, 4, 5, 6, 7, 8, 9, 10, 0] dX8_mostBy_99 (Nat.le_of_ble_eq_true rfl) rfl ?_
          refine z_iconst (v := 0) dX8_mostBy_101 rfl ?_
          refine z_istore (lv' := [(0, .ref 74), (1, .ref q1), (2, .int x2), (3, .int x3), (4, .int x4), (5, .int (x5 - v6)), (6, .int x6), (7, .int (x7 &&& 0)), (8, .int x8), (9, .int v7), (10, .int 0), (11, .int 0)]) [1, 2, 3, 4, 5, 6, 7, 8, 9, 10, 11, 0] dX8_mostBy_102 (Nat.le_of_ble_eq_true rfl) rfl ?_
          refine z_sub (lv' := [(0, .ref 74), (1, .ref q1), (2, .int x2), (3, .int x3), (4, .int x4), (5, .int (x5 - v6)), (6, .int x6), (7, .int (x7 &&& 0)), (8, .int x8), (9, .int v7), (10, .int 0), (11, .int 0)]) [0, 1, 2, 3, 4, 5, 6, 7, 8, 9, 10, 11] rfl ?_
          refine t_X8_mostBy_L104 l hq1 _ _ _ _ _ _ _ _ _ _ _ _ _ _ h ?_
          · intro y13 h
            refine z_iload 6 dX8_mostBy_149 rfl ?_
            refine z_iload 9 dX8_mostBy_151 rfl ?_
            refine z_iadd dX8_mostBy_153 ?_
            refine z_istore (lv' := [(0, .ref 74), (1, .ref q1), (2, .int x2), (3, .int x3), (4, .int x4), (5, .int (x5 - v6)), (6, .int (x6 + y13)), (7, .int (x7 &&& 0)), (8, .int x8), (10, .int y13)]) [1, 2, 3, 4, 5, 6, 0, 7, 8, 9] dX8_mostBy_154 (Nat.le_of_ble_eq_true rfl) rfl ?_
            refine z_iinc (lv' := [(0, .ref 74), (1, .ref q1), (2, .int x2), (3, .int x3), (4, .int x4), (5, .int (x5 - v6)), (6, .int (x6 + y13)), (7, .int (x7 &&& 0)), (8, .int (x8 + 1)), (10, .int y13)]) (v := x8 + 1) 8 [1, 2, 3, 4, 5, 6, 7, 8, 0, 9] dX8_mostBy_156 rfl rfl (Nat.le_of_ble_eq_true rfl) rfl ?_
            refine z_goto (tgt := 27) dX8_mostBy_159 (by decide) ?_
            refine z_sub (lv' := [(0, .ref 74), (1, .ref q1), (2, .int x2), (3, .int x3), (4, .int x4), (5, .int (x5 - v6)), (6, .int (x6 + y13)), (7, .int (x7 &&& 0)), (8, .int (x8 + 1))]) [0, 1, 2, 3, 4, 5, 6, 7, 8] rfl ?_
            exact ih _ _ _ _ _ _ _ _ _ _ h hk162
        · replace h := ig c5 h
          refine z_iconst (v := 1) dX8_mostBy_71 rfl ?_
          refine z_goto (tgt := 76) dX8_mostBy_72 (by decide) ?_
          refine z_iand dX8_mostBy_76 ?_
          refine z_istore (lv' := [(0, .ref 74), (1, .ref q1), (2, .int x2), (3, .int x3), (4, .int x4), (5, .int x5), (6, .int x6), (7, .int (x7 &&& 1)), (8, .int x8)]) [1, 2, 3, 4, 5, 6, 7, 0, 8] dX8_mostBy_77 (Nat.le_of_ble_eq_true rfl) rfl ?_
          refine z_iload 5 dX8_mostBy_79 rfl ?_
          refine z_aload_n 1 dX8_mostBy_81 rfl ?_
          refine z_iload 8 dX8_mostBy_82 rfl ?_
          obtain ⟨v14, hv14, h⟩ := ob h
          refine z_callS (as := [.ref q1, .int x8]) dX8_mostBy_84 ml_8_98 ms_X8_cost (t_X8_cost l hq1 hv14) rfl rfl (Nat.le_of_ble_eq_true rfl) ⟨Nat.le_of_ble_eq_true rfl, Nat.le_of_ble_eq_true rfl⟩ rfl ?_
          refine z_isub dX8_mostBy_87 ?_
          refine z_istore (lv' := [(0, .ref 74), (1, .ref q1), (2, .int x2), (3, .int x3), (4, .int x4), (5, .int (x5 - v14)), (6, .int x6), (7, .int (x7 &&& 1)), (8, .int x8)]) [1, 2, 3, 4, 5, 0, 6, 7, 8] dX8_mostBy_88 (Nat.le_of_ble_eq_true rfl) rfl ?_
          refine z_aload_n 1 dX8_mostBy_90 rfl ?_
          refine z_iload 8 dX8_mostBy_91 rfl ?_
          obtain ⟨v15, hv15, h⟩ := ob h
          refine z_callS (as := [.ref q1, .int x8]) dX8_mostBy_93 ml_8_135 ms_X8_canOf (t_X8_canOf l hq1 hv15) rfl rfl (Nat.le_of_ble_eq_true rfl) ⟨Nat.le_of_ble_eq_true rfl, Nat.le_of_ble_eq_true rfl⟩ rfl ?_
          refine z_istore (lv' := [(0, .ref 74), (1, .ref q1), (2, .int x2), (3, .int x3), (4, .int x4), (5, .int (x5 - v14)), (6, .int x6), (7, .int (x7 &&& 1)), (8, .int x8), (9, .int v15)]) [1, 2, 3, 4, 5, 6, 7, 8, 9, 0] dX8_mostBy_96 (Nat.le_of_ble_eq_true rfl) rfl ?_
          refine z_iconst (v := 0) dX8_mostBy_98 rfl ?_
          refine z_istore (lv' := [(0, .ref 74), (1, .ref q1), (2, .int x2), (3, .int x3), (4, .int x4), (5, .int (x5 - v14)), (6, .int x6), (7, .int (x7 &&& 1)), (8, .int x8), (9, .int v15), (10, .int 0)]) [1, 2, 3, 4, 5, 6, 7, 8, 9, 10, 0] dX8_mostBy_99 (Nat.le_of_ble_eq_true rfl) rfl ?_
          refine z_iconst (v := 0) dX8_mostBy_101 rfl ?_
          refine z_istore (lv' := [(0, .ref 74), (1, .ref q1), (2, .int x2), (3, .int x3), (4, .int x4), (5, .int (x5 - v14)), (6, .int x6), (7, .int (x7 &&& 1)), (8, .int x8), (9, .int v15), (10, .int 0), (11, .int 0)]) [1, 2, 3, 4, 5, 6, 7, 8, 9, 10, 11, 0] dX8_mostBy_102 (Nat.le_of_ble_eq_true rfl) rfl ?_
          refine z_sub (lv' := [(0, .ref 74), (1, .ref q1), (2, .int x2), (3, .int x3), (4, .int x4), (5, .int (x5 - v14)), (6, .int x6), (7, .int (x7 &&& 1)), (8, .int x8), (9, .int v15), (10, .int 0), (11, .int 0)]) [0, 1, 2, 3, 4, 5, 6, 7, 8, 9, 10, 11] rfl ?_
          refine t_X8_mostBy_L104 l hq1 _ _ _ _ _ _ _ _ _ _ _ _ _ _ h ?_
          · intro y16 h
            refine z_iload 6 dX8_mostBy_149 rfl ?_
            refine z_iload 9 dX8_mostBy_151 rfl ?_
            refine z_iadd dX8_mostBy_153 ?_
            refine z_istore (lv' := [(0, .ref 74), (1, .ref q1), (2, .int x2), (3, .int x3), (4, .int x4), (5, .int (x5 - v14)), (6, .int (x6 + y16)), (7, .int (x7 &&& 1)), (8, .int x8), (10, .int y16)]) [1, 2, 3, 4, 5, 6, 0, 7, 8, 9] dX8_mostBy_154 (Nat.le_of_ble_eq_true rfl) rfl ?_
            refine z_iinc (lv' := [(0, .ref 74), (1, .ref q1), (2, .int x2), (3, .int x3), (4, .int x4), (5, .int (x5 - v14)), (6, .int (x6 + y16)), (7, .int (x7 &&& 1)), (8, .int (x8 + 1)), (10, .int y16)]) (v := x8 + 1) 8 [1, 2, 3, 4, 5, 6, 7, 8, 0, 9] dX8_mostBy_156 rfl rfl (Nat.le_of_ble_eq_true rfl) rfl ?_
            refine z_goto (tgt := 27) dX8_mostBy_159 (by decide) ?_
            refine z_sub (lv' := [(0, .ref 74), (1, .ref q1), (2, .int x2), (3, .int x3), (4, .int x4), (5, .int (x5 - v14)), (6, .int (x6 + y16)), (7, .int (x7 &&& 1)), (8, .int (x8 + 1))]) [0, 1, 2, 3, 4, 5, 6, 7, 8] rfl ?_
            exact ih _ _ _ _ _ _ _ _ _ _ h hk162
      · replace h := ip c3 h
        refine z_iload 6 dX8_mostBy_45 rfl ?_
        refine z_aload_n 1 dX8_mostBy_47 rfl ?_
        refine z_iload 8 dX8_mostBy_48 rfl ?_
        obtain ⟨v17, hv17, h⟩ := ob h
        refine z_callS (as := [.ref q1, .int x8]) dX8_mostBy_50 ml_8_69 ms_X8_gladOf (t_X8_gladOf l hq1 hv17) rfl rfl (Nat.le_of_ble_eq_true rfl) ⟨Nat.le_of_ble_eq_true rfl, Nat.le_of_ble_eq_true rfl⟩ rfl ?_
        refine z_iadd dX8_mostBy_53 ?_
        refine z_istore (lv' := [(0, .ref 74), (1, .ref q1), (2, .int x2), (3, .int x3), (4, .int x4), (5, .int x5), (6, .int (x6 + v17)), (7, .int x7), (8, .int x8)]) [1, 2, 3, 4, 5, 6, 0, 7, 8] dX8_mostBy_54 (Nat.le_of_ble_eq_true rfl) rfl ?_
        refine z_goto (tgt := 156) dX8_mostBy_56 (by decide) ?_
        refine z_iinc (lv' := [(0, .ref 74), (1, .ref q1), (2, .int x2), (3, .int x3), (4, .int x4), (5, .int x5), (6, .int (x6 + v17)), (7, .int x7), (8, .int (x8 + 1))]) (v := x8 + 1) 8 [1, 2, 3, 4, 5, 6, 7, 8, 0] dX8_mostBy_156 rfl rfl (Nat.le_of_ble_eq_true rfl) rfl ?_
        refine z_goto (tgt := 27) dX8_mostBy_159 (by decide) ?_
        refine z_sub (lv' := [(0, .ref 74), (1, .ref q1), (2, .int x2), (3, .int x3), (4, .int x4), (5, .int x5), (6, .int (x6 + v17)), (7, .int x7), (8, .int (x8 + 1))]) [0, 1, 2, 3, 4, 5, 6, 7, 8] rfl ?_
        exact ih _ _ _ _ _ _ _ _ _ _ h hk162
set_option maxHeartbeats 2000000 in
set_option maxRecDepth 20000 in
theorem t_X8_mostBy_L5 (l : Launch) {q1 : Nat} (hq1 : kd q1 = 17) : ∀ (n : Nat) (x2 : Int32) (x3 : Int32) (x4 : Int32) (S : St) (k196 : Int32 → St → Option (Int32 × St)) (r : (Int32 × St)), f_X8_mostBy_L5 n q1 x2 x3 x4 S k196 = some r → (∀ (e3 : Int32) (T : St), k196 e3 T = some r → Z l yX8_mostBy M_X8_mostBy 196 [(3, .int e3)] [] T (some (.int r.1)) r.2) → Z l yX8_mostBy M_X8_mostBy 5 [(0, .ref 74), (1, .ref q1), (2, .int x2), (3, .int x3), (4, .int x4)] [] S (some (.int r.1)) r.2 := by
  intro n
  induction n with
  | zero =>
    intro x2 x3 x4 S k196 r h hk196
    exact absurd h (by rw [f_X8_mostBy_L5]; exact fun q => by cases q)
  | succ n ih =>
    intro x2 x3 x4 S k196 r h hk196
    rw [f_X8_mostBy_L5] at h
    refine z_iload 4 dX8_mostBy_5 rfl ?_
    refine z_iconst (v := 1) dX8_mostBy_7 rfl ?_
    refine z_aload_n 1 dX8_mostBy_8 rfl ?_
    refine z_iconst (v := 0) dX8_mostBy_9 rfl ?_
    refine z_ialdK (j := 0) dX8_mostBy_10 hq1 (by decide) (by decide) (by decide) ?_
    refine z_ishl dX8_mostBy_11 ?_
    refine z_icmp_ge (tgt := 196) dX8_mostBy_12 (by decide) (fun c1 => ?_) (fun c1 => ?_)
    · replace h := ip c1 h
      refine z_sub (lv' := [(3, .int x3)]) [3] rfl ?_
      exact hk196 _ _ h
    · replace h := ig c1 h
      refine z_iload_n 2 dX8_mostBy_15 rfl ?_
      refine z_istore (lv' := [(0, .ref 74), (1, .ref q1), (2, .int x2), (3, .int x3), (4, .int x4), (5, .int x2)]) [1, 2, 3, 4, 5, 0] dX8_mostBy_16 (Nat.le_of_ble_eq_true rfl) rfl ?_
      refine z_iconst (v := 0) dX8_mostBy_18 rfl ?_
      refine z_istore (lv' := [(0, .ref 74), (1, .ref q1), (2, .int x2), (3, .int x3), (4, .int x4), (5, .int x2), (6, .int 0)]) [1, 2, 3, 4, 5, 6, 0] dX8_mostBy_19 (Nat.le_of_ble_eq_true rfl) rfl ?_
      refine z_iconst (v := 1) dX8_mostBy_21 rfl ?_
      refine z_istore (lv' := [(0, .ref 74), (1, .ref q1), (2, .int x2), (3, .int x3), (4, .int x4), (5, .int x2), (6, .int 0), (7, .int 1)]) [1, 2, 3, 4, 5, 6, 7, 0] dX8_mostBy_22 (Nat.le_of_ble_eq_true rfl) rfl ?_
      refine z_iconst (v := 0) dX8_mostBy_24 rfl ?_
      refine z_istore (lv' := [(0, .ref 74), (1, .ref q1), (2, .int x2), (3, .int x3), (4, .int x4), (5, .int x2), (6, .int 0), (7, .int 1), (8, .int 0)]) [1, 2, 3, 4, 5, 6, 7, 8, 0] dX8_mostBy_25 (Nat.le_of_ble_eq_true rfl) rfl ?_
      refine z_sub (lv' := [(0, .ref 74), (1, .ref q1), (2, .int x2), (3, .int x3), (4, .int x4), (5, .int x2), (6, .int 0), (7, .int 1), (8, .int 0)]) [0, 1, 2, 3, 4, 5, 6, 7, 8] rfl ?_
      refine t_X8_mostBy_L27 l hq1 _ _ _ _ _ _ _ _ _ _ _ h ?_
      · intro y18 y19 y20 h
        refine z_iload 7 dX8_mostBy_162 rfl ?_
        refine z_if_eq (tgt := 190) dX8_mostBy_164 (by decide) (fun c21 => ?_) (fun c21 => ?_)
        · replace h := ip c21 h
          refine z_iinc (lv' := [(0, .ref 74), (1, .ref q1), (2, .int x2), (3, .int x3), (4, .int (x4 + 1)), (5, .int y18), (6, .int y19), (7, .int y20)]) (v := x4 + 1) 4 [1, 2, 3, 4, 0, 5, 6, 7] dX8_mostBy_190 rfl rfl (Nat.le_of_ble_eq_true rfl) rfl ?_
          refine z_goto (tgt := 5) dX8_mostBy_193 (by decide) ?_
          refine z_sub (lv' := [(0, .ref 74), (1, .ref q1), (2, .int x2), (3, .int x3), (4, .int (x4 + 1))]) [0, 1, 2, 3, 4] rfl ?_
          exact ih _ _ _ _ _ _ h hk196
        · replace h := ig c21 h
          refine z_iload 5 dX8_mostBy_167 rfl ?_
          refine z_if_lt (tgt := 190) dX8_mostBy_169 (by decide) (fun c22 => ?_) (fun c22 => ?_)
          · replace h := ip c22 h
            refine z_iinc (lv' := [(0, .ref 74), (1, .ref q1), (2, .int x2), (3, .int x3), (4, .int (x4 + 1)), (5, .int y18), (6, .int y19), (7, .int y20)]) (v := x4 + 1) 4 [1, 2, 3, 4, 0, 5, 6, 7] dX8_mostBy_190 rfl rfl (Nat.le_of_ble_eq_true rfl) rfl ?_
            refine z_goto (tgt := 5) dX8_mostBy_193 (by decide) ?_
            refine z_sub (lv' := [(0, .ref 74), (1, .ref q1), (2, .int x2), (3, .int x3), (4, .int (x4 + 1))]) [0, 1, 2, 3, 4] rfl ?_
            exact ih _ _ _ _ _ _ h hk196
          · replace h := ig c22 h
            refine z_iload 6 dX8_mostBy_172 rfl ?_
            refine z_iload_n 3 dX8_mostBy_174 rfl ?_
            refine z_icmp_gt (tgt := 181) dX8_mostBy_175 (by decide) (fun c23 => ?_) (fun c23 => ?_)
            · replace h := ip c23 h
              refine z_iload 6 dX8_mostBy_181 rfl ?_
              refine z_istore_n (lv' := [(0, .ref 74), (1, .ref q1), (2, .int x2), (3, .int y19), (4, .int x4), (5, .int y18), (6, .int y19), (7, .int y20)]) [1, 2, 3, 0, 4, 5, 6, 7] dX8_mostBy_183 (Nat.le_of_ble_eq_true rfl) rfl ?_
              refine z_aload_n 0 dX8_mostBy_184 rfl ?_
              refine z_iload 4 dX8_mostBy_185 rfl ?_
              refine z_put (fk := 12) dX8_mostBy_187 fl_8_152 fp_8_12 kdl_74 rfl rfl rfl (Nat.le_of_ble_eq_true rfl) ?_
              refine z_iinc (lv' := [(0, .ref 74), (1, .ref q1), (2, .int x2), (3, .int y19), (4, .int (x4 + 1)), (5, .int y18), (6, .int y19), (7, .int y20)]) (v := x4 + 1) 4 [1, 2, 3, 4, 0, 5, 6, 7] dX8_mostBy_190 rfl rfl (Nat.le_of_ble_eq_true rfl) rfl ?_
              refine z_goto (tgt := 5) dX8_mostBy_193 (by decide) ?_
              refine z_sub (lv' := [(0, .ref 74), (1, .ref q1), (2, .int x2), (3, .int y19), (4, .int (x4 + 1))]) [0, 1, 2, 3, 4] rfl ?_
              exact ih _ _ _ _ _ _ h hk196
            · replace h := ig c23 h
              refine z_goto (tgt := 190) dX8_mostBy_178 (by decide) ?_
              refine z_iinc (lv' := [(0, .ref 74), (1, .ref q1), (2, .int x2), (3, .int x3), (4, .int (x4 + 1)), (5, .int y18), (6, .int y19), (7, .int y20)]) (v := x4 + 1) 4 [1, 2, 3, 4, 0, 5, 6, 7] dX8_mostBy_190 rfl rfl (Nat.le_of_ble_eq_true rfl) rfl ?_
              refine z_goto (tgt := 5) dX8_mostBy_193 (by decide) ?_
              refine z_sub (lv' := [(0, .ref 74), (1, .ref q1), (2, .int x2), (3, .int x3), (4, .int (x4 + 1))]) [0, 1, 2, 3, 4] rfl ?_
              exact ih _ _ _ _ _ _ h hk196
set_option maxHeartbeats 2000000 in
set_option maxRecDepth 20000 in
theorem t_X8_mostBy (l : Launch) {S : St} {q1 : Nat} (hq1 : kd q1 = 17) {a2 : Int32} {r : (Int32 × St)} (h : f_X8_mostBy q1 a2 S = some r) : CT l yX8_mostBy M_X8_mostBy [.ref 74, .ref q1, .int a2] S (some (.int r.1)) r.2 := by
  rw [f_X8_mostBy] at h
  refine ct_of (lv := [(0, .ref 74), (1, .ref q1), (2, .int a2)]) (by decide) rfl (Nat.le_of_ble_eq_true rfl) ?_
  refine z_iconst (v := (-1)) dX8_mostBy_0 rfl ?_
  refine z_istore_n (lv' := [(0, .ref 74), (1, .ref q1), (2, .int a2), (3, .int (-1))]) [1, 2, 3, 0] dX8_mostBy_1 (Nat.le_of_ble_eq_true rfl) rfl ?_
  refine z_iconst (v := 0) dX8_mostBy_2 rfl ?_
  refine z_istore (lv' := [(0, .ref 74), (1, .ref q1), (2, .int a2), (3, .int (-1)), (4, .int 0)]) [1, 2, 3, 4, 0] dX8_mostBy_3 (Nat.le_of_ble_eq_true rfl) rfl ?_
  refine z_sub (lv' := [(0, .ref 74), (1, .ref q1), (2, .int a2), (3, .int (-1)), (4, .int 0)]) [0, 1, 2, 3, 4] rfl ?_
  refine t_X8_mostBy_L5 l hq1 _ _ _ _ _ _ _ h ?_
  · intro y24 S25 h
    refine z_iload_n 0 dX8_mostBy_196 rfl ?_
    obtain rfl := Option.some.inj h
    exact z_iret dX8_mostBy_197 rfl rfl
set_option maxHeartbeats 2000000 in
set_option maxRecDepth 20000 in
theorem t_X8_most_ (l : Launch) {S : St}  {a1 : Int32} {r : (Int32 × St)} (h : f_X8_most_ a1 S = some r) : CT l yX8_most_ M_X8_most_ [.ref 74, .int a1] S (some (.int r.1)) r.2 := by
  rw [f_X8_most_] at h
  refine ct_of (lv := [(0, .ref 74), (1, .int a1)]) (by decide) rfl (Nat.le_of_ble_eq_true rfl) ?_
  refine z_iload_n 1 dX8_most__0 rfl ?_
  refine z_iconst (v := 0) dX8_most__1 rfl ?_
  refine z_iconst (v := 1) dX8_most__2 rfl ?_
  obtain ⟨v1, hv1, h⟩ := ob h
  refine z_callS (as := [.int a1, .int 0, .int 1]) dX8_most__3 ml_8_47 ms_X8_isIn (t_X8_isIn l _ hv1) rfl rfl (Nat.le_of_ble_eq_true rfl) ⟨Nat.le_of_ble_eq_true rfl, Nat.le_of_ble_eq_true rfl⟩ rfl ?_
  refine z_if_ne (tgt := 16) dX8_most__6 (by decide) (fun c2 => ?_) (fun c2 => ?_)
  · replace h := ig c2 h
    refine z_aload_n 0 dX8_most__16 rfl ?_
    refine z_aload_n 0 dX8_most__17 rfl ?_
    refine z_get (v := .ref 75) dX8_most__18 fl_8_9 kdl_74 rfl ?_
    refine z_aload_n 0 dX8_most__21 rfl ?_
    refine z_get (v := .ref 75) dX8_most__22 fl_8_9 kdl_74 rfl ?_
    refine z_iconst (v := 2) dX8_most__25 rfl ?_
    refine z_ialdK (j := 2) dX8_most__26 kdl_75 (by decide) (by decide) (by decide) ?_
    obtain ⟨z3, hz3, h⟩ := ob h
    refine z_callV (as := [.ref 75, .int (S.1 75 2)]) dX8_most__27 ml_8_155 mv_X8_mostBy (t_X8_mostBy l kdl_75 hz3) kdl_74 ⟨by decide, rfl⟩ rfl rfl (Nat.le_of_ble_eq_true rfl) ⟨Nat.le_of_ble_eq_true rfl, Nat.le_of_ble_eq_true rfl⟩ rfl ?_
    refine z_istore_n (lv' := [(0, .ref 74), (1, .int a1), (2, .int z3.1)]) [1, 2, 0] dX8_most__30 (Nat.le_of_ble_eq_true rfl) rfl ?_
    refine z_iload_n 1 dX8_most__31 rfl ?_
    refine z_if_ne (tgt := 39) dX8_most__32 (by decide) (fun c4 => ?_) (fun c4 => ?_)
    · replace h := ig c4 h
      refine z_aload_n 0 dX8_most__39 rfl ?_
      refine z_get (v := .int (z3.2.1 74 12)) dX8_most__40 fl_8_152 kdl_74 rfl ?_
      obtain rfl := Option.some.inj h
      exact z_iret dX8_most__43 rfl rfl
    · replace h := ip c4 h
      refine z_iload_n 2 dX8_most__35 rfl ?_
      refine z_goto (tgt := 43) dX8_most__36 (by decide) ?_
      obtain rfl := Option.some.inj h
      exact z_iret dX8_most__43 rfl rfl
  · replace h := ip c2 h
    refine z_aload_n 0 dX8_most__9 rfl ?_
    refine z_bipush (v := (-2)) dX8_most__10 rfl ?_
    obtain ⟨z5, hz5, h⟩ := ob h
    refine z_callV (as := [.int (-2)]) dX8_most__12 ml_8_41 mv_X8_no (t_X8_no l hz5) kdl_74 ⟨by decide, rfl⟩ rfl rfl (Nat.le_of_ble_eq_true rfl) ⟨Nat.le_of_ble_eq_true rfl, Nat.le_of_ble_eq_true rfl⟩ rfl ?_
    obtain rfl := Option.some.inj h
    exact z_iret dX8_most__15 rfl rfl
set_option maxHeartbeats 2000000 in
set_option maxRecDepth 20000 in
theorem t_X8_byMinutes_L26 (l : Launch)   : ∀ (n : Nat) (x1 : Int32) (x2 : Int32) (S : St) (k44 : St → Option (Int32 × St)) (r : (Int32 × St)), f_X8_byMinutes_L26 n x1 x2 S k44 = some r → (∀ (T : St), k44 T = some r → Z l yX8_byMinutes M_X8_byMinutes 44 [(0, .ref 74), (1, .int x1)] [] T (some (.int r.1)) r.2) → Z l yX8_byMinutes M_X8_byMinutes 26 [(0, .ref 74), (1, .int x1), (2, .int x2)] [] S (some (.int r.1)) r.2 := by
  intro n
  induction n with
  | zero =>
    intro x1 x2 S k44 r h hk44
    exact absurd h (by rw [f_X8_byMinutes_L26]; exact fun q => by cases q)
  | succ n ih =>
    intro x1 x2 S k44 r h hk44
    rw [f_X8_byMinutes_L26] at h
    refine z_iload_n 2 dX8_byMinutes_26 rfl ?_
    refine z_iload_n 1 dX8_byMinutes_27 rfl ?_
    refine z_icmp_gt (tgt := 44) dX8_byMinutes_28 (by decide) (fun c3 => ?_) (fun c3 => ?_)
    · replace h := ip c3 h
      refine z_sub (lv' := [(0, .ref 74), (1, .int x1)]) [0, 1] rfl ?_
      exact hk44 _ h
    · replace h := ig c3 h
      refine z_aload_n 0 dX8_byMinutes_31 rfl ?_
      refine z_get (v := .ref 83) dX8_byMinutes_32 fl_8_34 kdl_74 rfl ?_
      refine z_iload_n 2 dX8_byMinutes_35 rfl ?_
      refine z_iconst (v := 0) dX8_byMinutes_36 rfl ?_
      obtain ⟨c4, h⟩ := oi h
      refine z_iast dX8_byMinutes_37 kdl_83 (by decide) c4 ?_
      refine z_iinc (lv' := [(0, .ref 74), (1, .int x1), (2, .int (x2 + 1))]) (v := x2 + 1) 2 [1, 2, 0] dX8_byMinutes_38 rfl rfl (Nat.le_of_ble_eq_true rfl) rfl ?_
      refine z_goto (tgt := 26) dX8_byMinutes_41 (by decide) ?_
      refine z_sub (lv' := [(0, .ref 74), (1, .int x1), (2, .int (x2 + 1))]) [0, 1, 2] rfl ?_
      exact ih _ _ _ _ _ h hk44
set_option maxHeartbeats 2000000 in
set_option maxRecDepth 20000 in
theorem t_X8_byMinutes_L87 (l : Launch)   : ∀ (n : Nat) (x1 : Int32) (x2 : Int32) (x3 : Int32) (x4 : Int32) (S : St) (k156 : St → Option (Int32 × St)) (r : (Int32 × St)), f_X8_byMinutes_L87 n x1 x2 x3 x4 S k156 = some r → (∀ (T : St), k156 T = some r → Z l yX8_byMinutes M_X8_byMinutes 156 [(0, .ref 74), (1, .int x1), (2, .int x2), (3, .int x3)] [] T (some (.int r.1)) r.2) → Z l yX8_byMinutes M_X8_byMinutes 87 [(0, .ref 74), (1, .int x1), (2, .int x2), (3, .int x3), (4, .int x4)] [] S (some (.int r.1)) r.2 := by
  intro n
  induction n with
  | zero =>
    intro x1 x2 x3 x4 S k156 r h hk156
    exact absurd h (by rw [f_X8_byMinutes_L87]; exact fun q => by cases q)
  | succ n ih =>
    intro x1 x2 x3 x4 S k156 r h hk156
    rw [f_X8_byMinutes_L87] at h
    refine z_iload 4 dX8_byMinutes_87 rfl ?_
    refine z_iload_n 3 dX8_byMinutes_89 rfl ?_
    refine z_icmp_gt (tgt := 156) dX8_byMinutes_90 (by decide) (fun c11 => ?_) (fun c11 => ?_)
    · replace h := ip c11 h
      refine z_sub (lv' := [(0, .ref 74), (1, .int x1), (2, .int x2), (3, .int x3)]) [0, 1, 2, 3] rfl ?_
      exact hk156 _ h
    · replace h := ig c11 h
      refine z_aload_n 0 dX8_byMinutes_93 rfl ?_
      refine z_get (v := .ref 75) dX8_byMinutes_94 fl_8_9 kdl_74 rfl ?_
      refine z_bipush (v := 20) dX8_byMinutes_97 rfl ?_
      refine z_iload_n 2 dX8_byMinutes_99 rfl ?_
      refine z_iadd dX8_byMinutes_100 ?_
      obtain ⟨c12, h⟩ := oi h
      refine z_iald dX8_byMinutes_101 kdl_75 (by decide) c12 ?_
      refine z_if_ge (tgt := 156) dX8_byMinutes_102 (by decide) (fun c13 => ?_) (fun c13 => ?_)
      · replace h := ip c13 h
        refine z_sub (lv' := [(0, .ref 74), (1, .int x1), (2, .int x2), (3, .int x3)]) [0, 1, 2, 3] rfl ?_
        exact hk156 _ h
      · replace h := ig c13 h
        refine z_aload_n 0 dX8_byMinutes_105 rfl ?_
        refine z_get (v := .ref 84) dX8_byMinutes_106 fl_8_37 kdl_74 rfl ?_
        refine z_iload_n 3 dX8_byMinutes_109 rfl ?_
        refine z_aload_n 0 dX8_byMinutes_110 rfl ?_
        refine z_get (v := .ref 84) dX8_byMinutes_111 fl_8_37 kdl_74 rfl ?_
        refine z_iload_n 3 dX8_byMinutes_114 rfl ?_
        obtain ⟨c14, h⟩ := oi h
        refine z_iald dX8_byMinutes_115 kdl_84 (by decide) c14 ?_
        refine z_aload_n 0 dX8_byMinutes_116 rfl ?_
        refine z_get (v := .ref 83) dX8_byMinutes_117 fl_8_34 kdl_74 rfl ?_
        refine z_iload_n 3 dX8_byMinutes_120 rfl ?_
        refine z_iload 4 dX8_byMinutes_121 rfl ?_
        refine z_isub dX8_byMinutes_123 ?_
        obtain ⟨c15, h⟩ := oi h
        refine z_iald dX8_byMinutes_124 kdl_83 (by decide) c15 ?_
        refine z_aload_n 0 dX8_byMinutes_125 rfl ?_
        refine z_get (v := .ref 75) dX8_byMinutes_126 fl_8_9 kdl_74 rfl ?_
        refine z_iload_n 2 dX8_byMinutes_129 rfl ?_
        refine z_aload_n 0 dX8_byMinutes_130 rfl ?_
        refine z_get (v := .ref 75) dX8_byMinutes_131 fl_8_9 kdl_74 rfl ?_
        refine z_iload_n 2 dX8_byMinutes_134 rfl ?_
        refine z_iload 4 dX8_byMinutes_135 rfl ?_
        refine z_iconst (v := 0) dX8_byMinutes_137 rfl ?_
        obtain ⟨v16, hv16, h⟩ := ob h
        refine z_callS (as := [.ref 75, .int x2, .int x4, .int 0]) dX8_byMinutes_138 ml_8_73 ms_X8_yearOf (t_X8_yearOf l kdl_75 hv16) rfl rfl (Nat.le_of_ble_eq_true rfl) ⟨Nat.le_of_ble_eq_true rfl, Nat.le_of_ble_eq_true rfl⟩ rfl ?_
        obtain ⟨v17, hv17, h⟩ := ob h
        refine z_callS (as := [.int x2, .int v16]) dX8_byMinutes_141 ml_8_55 ms_X8_at (t_X8_at l _ hv17) rfl rfl (Nat.le_of_ble_eq_true rfl) ⟨Nat.le_of_ble_eq_true rfl, Nat.le_of_ble_eq_true rfl⟩ rfl ?_
        obtain ⟨c18, h⟩ := oi h
        refine z_iald dX8_byMinutes_144 kdl_75 (by decide) c18 ?_
        refine z_iadd dX8_byMinutes_145 ?_
        obtain ⟨v19, hv19, h⟩ := ob h
        refine z_callS (as := [.int (S.1 84 x3.toNatClampNeg), .int ((S.1 83 (x3 - x4).toNatClampNeg) + (S.1 75 v17.toNatClampNeg))]) dX8_byMinutes_146 ml_8_51 ms_X8_most (t_X8_most l _ hv19) rfl rfl (Nat.le_of_ble_eq_true rfl) ⟨Nat.le_of_ble_eq_true rfl, Nat.le_of_ble_eq_true rfl⟩ rfl ?_
        obtain ⟨c20, h⟩ := oi h
        refine z_iast dX8_byMinutes_149 kdl_84 (by decide) c20 ?_
        refine z_iinc (lv' := [(0, .ref 74), (1, .int x1), (2, .int x2), (3, .int x3), (4, .int (x4 + 1))]) (v := x4 + 1) 4 [1, 2, 3, 4, 0] dX8_byMinutes_150 rfl rfl (Nat.le_of_ble_eq_true rfl) rfl ?_
        refine z_goto (tgt := 87) dX8_byMinutes_153 (by decide) ?_
        refine z_sub (lv' := [(0, .ref 74), (1, .int x1), (2, .int x2), (3, .int x3), (4, .int (x4 + 1))]) [0, 1, 2, 3, 4] rfl ?_
        exact ih _ _ _ _ _ _ _ h hk156
set_option maxHeartbeats 2000000 in
set_option maxRecDepth 20000 in
theorem t_X8_byMinutes_L58 (l : Launch)   : ∀ (n : Nat) (x1 : Int32) (x2 : Int32) (x3 : Int32) (S : St) (k162 : St → Option (Int32 × St)) (r : (Int32 × St)), f_X8_byMinutes_L58 n x1 x2 x3 S k162 = some r → (∀ (T : St), k162 T = some r → Z l yX8_byMinutes M_X8_byMinutes 162 [(0, .ref 74), (1, .int x1), (2, .int x2)] [] T (some (.int r.1)) r.2) → Z l yX8_byMinutes M_X8_byMinutes 58 [(0, .ref 74), (1, .int x1), (2, .int x2), (3, .int x3)] [] S (some (.int r.1)) r.2 := by
  intro n
  induction n with
  | zero =>
    intro x1 x2 x3 S k162 r h hk162
    exact absurd h (by rw [f_X8_byMinutes_L58]; exact fun q => by cases q)
  | succ n ih =>
    intro x1 x2 x3 S k162 r h hk162
    rw [f_X8_byMinutes_L58] at h
    refine z_iload_n 3 dX8_byMinutes_58 rfl ?_
    refine z_iload_n 1 dX8_byMinutes_59 rfl ?_
    refine z_icmp_gt (tgt := 162) dX8_byMinutes_60 (by decide) (fun c7 => ?_) (fun c7 => ?_)
    · replace h := ip c7 h
      refine z_sub (lv' := [(0, .ref 74), (1, .int x1), (2, .int x2)]) [0, 1, 2] rfl ?_
      exact hk162 _ h
    · replace h := ig c7 h
      refine z_aload_n 0 dX8_byMinutes_63 rfl ?_
      refine z_get (v := .ref 84) dX8_byMinutes_64 fl_8_37 kdl_74 rfl ?_
      refine z_iload_n 3 dX8_byMinutes_67 rfl ?_
      refine z_aload_n 0 dX8_byMinutes_68 rfl ?_
      refine z_get (v := .ref 83) dX8_byMinutes_69 fl_8_34 kdl_74 rfl ?_
      refine z_iload_n 3 dX8_byMinutes_72 rfl ?_
      obtain ⟨c8, h⟩ := oi h
      refine z_iald dX8_byMinutes_73 kdl_83 (by decide) c8 ?_
      refine z_aload_n 0 dX8_byMinutes_74 rfl ?_
      refine z_get (v := .ref 75) dX8_byMinutes_75 fl_8_9 kdl_74 rfl ?_
      refine z_iload_n 2 dX8_byMinutes_78 rfl ?_
      obtain ⟨v9, hv9, h⟩ := ob h
      refine z_callS (as := [.ref 75, .int x2]) dX8_byMinutes_79 ml_8_69 ms_X8_gladOf (t_X8_gladOf l kdl_75 hv9) rfl rfl (Nat.le_of_ble_eq_true rfl) ⟨Nat.le_of_ble_eq_true rfl, Nat.le_of_ble_eq_true rfl⟩ rfl ?_
      refine z_iadd dX8_byMinutes_82 ?_
      obtain ⟨c10, h⟩ := oi h
      refine z_iast dX8_byMinutes_83 kdl_84 (by decide) c10 ?_
      refine z_iconst (v := 0) dX8_byMinutes_84 rfl ?_
      refine z_istore (lv' := [(0, .ref 74), (1, .int x1), (2, .int x2), (3, .int x3), (4, .int 0)]) [1, 2, 3, 4, 0] dX8_byMinutes_85 (Nat.le_of_ble_eq_true rfl) rfl ?_
      refine z_sub (lv' := [(0, .ref 74), (1, .int x1), (2, .int x2), (3, .int x3), (4, .int 0)]) [0, 1, 2, 3, 4] rfl ?_
      refine t_X8_byMinutes_L87 l _ _ _ _ _ _ _ _ h ?_
      · intro S21 h
        refine z_iinc (lv' := [(0, .ref 74), (1, .int x1), (2, .int x2), (3, .int (x3 + 1))]) (v := x3 + 1) 3 [1, 2, 3, 0] dX8_byMinutes_156 rfl rfl (Nat.le_of_ble_eq_true rfl) rfl ?_
        refine z_goto (tgt := 58) dX8_byMinutes_159 (by decide) ?_
        refine z_sub (lv' := [(0, .ref 74), (1, .int x1), (2, .int x2), (3, .int (x3 + 1))]) [0, 1, 2, 3] rfl ?_
        exact ih _ _ _ _ _ _ h hk162
set_option maxHeartbeats 2000000 in
set_option maxRecDepth 20000 in
theorem t_X8_byMinutes_L164 (l : Launch)   : ∀ (n : Nat) (x1 : Int32) (x2 : Int32) (x3 : Int32) (S : St) (k187 : St → Option (Int32 × St)) (r : (Int32 × St)), f_X8_byMinutes_L164 n x1 x2 x3 S k187 = some r → (∀ (T : St), k187 T = some r → Z l yX8_byMinutes M_X8_byMinutes 187 [(0, .ref 74), (1, .int x1), (2, .int x2)] [] T (some (.int r.1)) r.2) → Z l yX8_byMinutes M_X8_byMinutes 164 [(0, .ref 74), (1, .int x1), (2, .int x2), (3, .int x3)] [] S (some (.int r.1)) r.2 := by
  intro n
  induction n with
  | zero =>
    intro x1 x2 x3 S k187 r h hk187
    exact absurd h (by rw [f_X8_byMinutes_L164]; exact fun q => by cases q)
  | succ n ih =>
    intro x1 x2 x3 S k187 r h hk187
    rw [f_X8_byMinutes_L164] at h
    refine z_iload_n 3 dX8_byMinutes_164 rfl ?_
    refine z_iload_n 1 dX8_byMinutes_165 rfl ?_
    refine z_icmp_gt (tgt := 187) dX8_byMinutes_166 (by decide) (fun c23 => ?_) (fun c23 => ?_)
    · replace h := ip c23 h
      refine z_sub (lv' := [(0, .ref 74), (1, .int x1), (2, .int x2)]) [0, 1, 2] rfl ?_
      exact hk187 _ h
    · replace h := ig c23 h
      refine z_aload_n 0 dX8_byMinutes_169 rfl ?_
      refine z_get (v := .ref 83) dX8_byMinutes_170 fl_8_34 kdl_74 rfl ?_
      refine z_iload_n 3 dX8_byMinutes_173 rfl ?_
      refine z_aload_n 0 dX8_byMinutes_174 rfl ?_
      refine z_get (v := .ref 84) dX8_byMinutes_175 fl_8_37 kdl_74 rfl ?_
      refine z_iload_n 3 dX8_byMinutes_178 rfl ?_
      obtain ⟨c24, h⟩ := oi h
      refine z_iald dX8_byMinutes_179 kdl_84 (by decide) c24 ?_
      obtain ⟨c25, h⟩ := oi h
      refine z_iast dX8_byMinutes_180 kdl_83 (by decide) c25 ?_
      refine z_iinc (lv' := [(0, .ref 74), (1, .int x1), (2, .int x2), (3, .int (x3 + 1))]) (v := x3 + 1) 3 [1, 2, 3, 0] dX8_byMinutes_181 rfl rfl (Nat.le_of_ble_eq_true rfl) rfl ?_
      refine z_goto (tgt := 164) dX8_byMinutes_184 (by decide) ?_
      refine z_sub (lv' := [(0, .ref 74), (1, .int x1), (2, .int x2), (3, .int (x3 + 1))]) [0, 1, 2, 3] rfl ?_
      exact ih _ _ _ _ _ _ h hk187
set_option maxHeartbeats 2000000 in
set_option maxRecDepth 20000 in
theorem t_X8_byMinutes_L46 (l : Launch)   : ∀ (n : Nat) (x1 : Int32) (x2 : Int32) (S : St) (k193 : St → Option (Int32 × St)) (r : (Int32 × St)), f_X8_byMinutes_L46 n x1 x2 S k193 = some r → (∀ (T : St), k193 T = some r → Z l yX8_byMinutes M_X8_byMinutes 193 [(0, .ref 74), (1, .int x1)] [] T (some (.int r.1)) r.2) → Z l yX8_byMinutes M_X8_byMinutes 46 [(0, .ref 74), (1, .int x1), (2, .int x2)] [] S (some (.int r.1)) r.2 := by
  intro n
  induction n with
  | zero =>
    intro x1 x2 S k193 r h hk193
    exact absurd h (by rw [f_X8_byMinutes_L46]; exact fun q => by cases q)
  | succ n ih =>
    intro x1 x2 S k193 r h hk193
    rw [f_X8_byMinutes_L46] at h
    refine z_iload_n 2 dX8_byMinutes_46 rfl ?_
    refine z_aload_n 0 dX8_byMinutes_47 rfl ?_
    refine z_get (v := .ref 75) dX8_byMinutes_48 fl_8_9 kdl_74 rfl ?_
    refine z_iconst (v := 0) dX8_byMinutes_51 rfl ?_
    refine z_ialdK (j := 0) dX8_byMinutes_52 kdl_75 (by decide) (by decide) (by decide) ?_
    refine z_icmp_ge (tgt := 193) dX8_byMinutes_53 (by decide) (fun c6 => ?_) (fun c6 => ?_)
    · replace h := ip c6 h
      refine z_sub (lv' := [(0, .ref 74), (1, .int x1)]) [0, 1] rfl ?_
      exact hk193 _ h
    · replace h := ig c6 h
      refine z_iconst (v := 0) dX8_byMinutes_56 rfl ?_
      refine z_istore_n (lv' := [(0, .ref 74), (1, .int x1), (2, .int x2), (3, .int 0)]) [1, 2, 3, 0] dX8_byMinutes_57 (Nat.le_of_ble_eq_true rfl) rfl ?_
      refine z_sub (lv' := [(0, .ref 74), (1, .int x1), (2, .int x2), (3, .int 0)]) [0, 1, 2, 3] rfl ?_
      refine t_X8_byMinutes_L58 l _ _ _ _ _ _ _ h ?_
      · intro S22 h
        refine z_iconst (v := 0) dX8_byMinutes_162 rfl ?_
        refine z_istore_n (lv' := [(0, .ref 74), (1, .int x1), (2, .int x2), (3, .int 0)]) [1, 2, 3, 0] dX8_byMinutes_163 (Nat.le_of_ble_eq_true rfl) rfl ?_
        refine z_sub (lv' := [(0, .ref 74), (1, .int x1), (2, .int x2), (3, .int 0)]) [0, 1, 2, 3] rfl ?_
        refine t_X8_byMinutes_L164 l _ _ _ _ _ _ _ h ?_
        · intro S26 h
          refine z_iinc (lv' := [(0, .ref 74), (1, .int x1), (2, .int (x2 + 1))]) (v := x2 + 1) 2 [1, 2, 0] dX8_byMinutes_187 rfl rfl (Nat.le_of_ble_eq_true rfl) rfl ?_
          refine z_goto (tgt := 46) dX8_byMinutes_190 (by decide) ?_
          refine z_sub (lv' := [(0, .ref 74), (1, .int x1), (2, .int (x2 + 1))]) [0, 1, 2] rfl ?_
          exact ih _ _ _ _ _ h hk193
set_option maxHeartbeats 2000000 in
set_option maxRecDepth 20000 in
theorem t_X8_byMinutes (l : Launch) {S : St}  {a1 : Int32} {r : (Int32 × St)} (h : f_X8_byMinutes a1 S = some r) : CT l yX8_byMinutes M_X8_byMinutes [.ref 74, .int a1] S (some (.int r.1)) r.2 := by
  rw [f_X8_byMinutes] at h
  refine ct_of (lv := [(0, .ref 74), (1, .int a1)]) (by decide) rfl (Nat.le_of_ble_eq_true rfl) ?_
  refine z_iload_n 1 dX8_byMinutes_0 rfl ?_
  refine z_if_ge (tgt := 11) dX8_byMinutes_1 (by decide) (fun c1 => ?_) (fun c1 => ?_)
  · replace h := ip c1 h
    refine z_iload_n 1 dX8_byMinutes_11 rfl ?_
    refine z_bipush (v := 99) dX8_byMinutes_12 rfl ?_
    refine z_icmp_le (tgt := 24) dX8_byMinutes_14 (by decide) (fun c2 => ?_) (fun c2 => ?_)
    · replace h := ip c2 h
      refine z_iconst (v := 0) dX8_byMinutes_24 rfl ?_
      refine z_istore_n (lv' := [(0, .ref 74), (1, .int a1), (2, .int 0)]) [1, 2, 0] dX8_byMinutes_25 (Nat.le_of_ble_eq_true rfl) rfl ?_
      refine z_sub (lv' := [(0, .ref 74), (1, .int a1), (2, .int 0)]) [0, 1, 2] rfl ?_
      refine t_X8_byMinutes_L26 l _ _ _ _ _ _ h ?_
      · intro S5 h
        refine z_iconst (v := 0) dX8_byMinutes_44 rfl ?_
        refine z_istore_n (lv' := [(0, .ref 74), (1, .int a1), (2, .int 0)]) [1, 2, 0] dX8_byMinutes_45 (Nat.le_of_ble_eq_true rfl) rfl ?_
        refine z_sub (lv' := [(0, .ref 74), (1, .int a1), (2, .int 0)]) [0, 1, 2] rfl ?_
        refine t_X8_byMinutes_L46 l _ _ _ _ _ _ h ?_
        · intro S27 h
          refine z_aload_n 0 dX8_byMinutes_193 rfl ?_
          refine z_get (v := .ref 83) dX8_byMinutes_194 fl_8_34 kdl_74 rfl ?_
          refine z_iload_n 1 dX8_byMinutes_197 rfl ?_
          obtain ⟨c28, h⟩ := oi h
          refine z_iald dX8_byMinutes_198 kdl_83 (by decide) c28 ?_
          obtain rfl := Option.some.inj h
          exact z_iret dX8_byMinutes_199 rfl rfl
    · replace h := ig c2 h
      refine z_aload_n 0 dX8_byMinutes_17 rfl ?_
      refine z_bipush (v := (-6)) dX8_byMinutes_18 rfl ?_
      obtain ⟨z29, hz29, h⟩ := ob h
      refine z_callV (as := [.int (-6)]) dX8_byMinutes_20 ml_8_41 mv_X8_no (t_X8_no l hz29) kdl_74 ⟨by decide, rfl⟩ rfl rfl (Nat.le_of_ble_eq_true rfl) ⟨Nat.le_of_ble_eq_true rfl, Nat.le_of_ble_eq_true rfl⟩ rfl ?_
      obtain rfl := Option.some.inj h
      exact z_iret dX8_byMinutes_23 rfl rfl
  · replace h := ig c1 h
    refine z_aload_n 0 dX8_byMinutes_4 rfl ?_
    refine z_bipush (v := (-4)) dX8_byMinutes_5 rfl ?_
    obtain ⟨z30, hz30, h⟩ := ob h
    refine z_callV (as := [.int (-4)]) dX8_byMinutes_7 ml_8_41 mv_X8_no (t_X8_no l hz30) kdl_74 ⟨by decide, rfl⟩ rfl rfl (Nat.le_of_ble_eq_true rfl) ⟨Nat.le_of_ble_eq_true rfl, Nat.le_of_ble_eq_true rfl⟩ rfl ?_
    obtain rfl := Option.some.inj h
    exact z_iret dX8_byMinutes_10 rfl rfl
set_option maxHeartbeats 2000000 in
set_option maxRecDepth 20000 in
theorem t_X8_fewDrops_L13 (l : Launch)   : ∀ (n : Nat) (x1 : Int32) (x2 : Int32) (S : St) (k32 : Int32 → St → Option (Int32 × St)) (k40 : St → Option (Int32 × St)) (r : (Int32 × St)), f_X8_fewDrops_L13 n x1 x2 S k32 k40 = some r → (∀ (e2 : Int32) (T : St), k32 e2 T = some r → Z l yX8_fewDrops M_X8_fewDrops 32 [(2, .int e2)] [] T (some (.int r.1)) r.2) → (∀ (T : St), k40 T = some r → Z l yX8_fewDrops M_X8_fewDrops 40 [] [] T (some (.int r.1)) r.2) → Z l yX8_fewDrops M_X8_fewDrops 13 [(0, .ref 74), (1, .int x1), (2, .int x2)] [] S (some (.int r.1)) r.2 := by
  intro n
  induction n with
  | zero =>
    intro x1 x2 S k32 k40 r h hk32 hk40
    exact absurd h (by rw [f_X8_fewDrops_L13]; exact fun q => by cases q)
  | succ n ih =>
    intro x1 x2 S k32 k40 r h hk32 hk40
    rw [f_X8_fewDrops_L13] at h
    refine z_iload_n 2 dX8_fewDrops_13 rfl ?_
    refine z_bipush (v := 99) dX8_fewDrops_14 rfl ?_
    refine z_icmp_gt (tgt := 40) dX8_fewDrops_16 (by decide) (fun c2 => ?_) (fun c2 => ?_)
    · replace h := ip c2 h
      refine z_sub (lv' := []) [] rfl ?_
      exact hk40 _ h
    · replace h := ig c2 h
      refine z_aload_n 0 dX8_fewDrops_19 rfl ?_
      refine z_aload_n 0 dX8_fewDrops_20 rfl ?_
      refine z_get (v := .ref 75) dX8_fewDrops_21 fl_8_9 kdl_74 rfl ?_
      refine z_iload_n 2 dX8_fewDrops_24 rfl ?_
      obtain ⟨z3, hz3, h⟩ := ob h
      refine z_callV (as := [.ref 75, .int x2]) dX8_fewDrops_25 ml_8_155 mv_X8_mostBy (t_X8_mostBy l kdl_75 hz3) kdl_74 ⟨by decide, rfl⟩ rfl rfl (Nat.le_of_ble_eq_true rfl) ⟨Nat.le_of_ble_eq_true rfl, Nat.le_of_ble_eq_true rfl⟩ rfl ?_
      refine z_iload_n 1 dX8_fewDrops_28 rfl ?_
      refine z_icmp_ne (tgt := 34) dX8_fewDrops_29 (by decide) (fun c4 => ?_) (fun c4 => ?_)
      · replace h := ig c4 h
        refine z_iinc (lv' := [(0, .ref 74), (1, .int x1), (2, .int (x2 + 1))]) (v := x2 + 1) 2 [1, 2, 0] dX8_fewDrops_34 rfl rfl (Nat.le_of_ble_eq_true rfl) rfl ?_
        refine z_goto (tgt := 13) dX8_fewDrops_37 (by decide) ?_
        refine z_sub (lv' := [(0, .ref 74), (1, .int x1), (2, .int (x2 + 1))]) [0, 1, 2] rfl ?_
        exact ih _ _ _ _ _ _ h hk32 hk40
      · replace h := ip c4 h
        refine z_sub (lv' := [(2, .int x2)]) [2] rfl ?_
        exact hk32 _ _ h
set_option maxHeartbeats 2000000 in
set_option maxRecDepth 20000 in
theorem t_X8_fewDrops (l : Launch) {S : St}   {r : (Int32 × St)} (h : f_X8_fewDrops S = some r) : CT l yX8_fewDrops M_X8_fewDrops [.ref 74] S (some (.int r.1)) r.2 := by
  rw [f_X8_fewDrops] at h
  refine ct_of (lv := [(0, .ref 74)]) (by decide) rfl (Nat.le_of_ble_eq_true rfl) ?_
  refine z_aload_n 0 dX8_fewDrops_0 rfl ?_
  refine z_aload_n 0 dX8_fewDrops_1 rfl ?_
  refine z_get (v := .ref 75) dX8_fewDrops_2 fl_8_9 kdl_74 rfl ?_
  refine z_bipush (v := 99) dX8_fewDrops_5 rfl ?_
  obtain ⟨z1, hz1, h⟩ := ob h
  refine z_callV (as := [.ref 75, .int 99]) dX8_fewDrops_7 ml_8_155 mv_X8_mostBy (t_X8_mostBy l kdl_75 hz1) kdl_74 ⟨by decide, rfl⟩ rfl rfl (Nat.le_of_ble_eq_true rfl) ⟨Nat.le_of_ble_eq_true rfl, Nat.le_of_ble_eq_true rfl⟩ rfl ?_
  refine z_istore_n (lv' := [(0, .ref 74), (1, .int z1.1)]) [1, 0] dX8_fewDrops_10 (Nat.le_of_ble_eq_true rfl) rfl ?_
  refine z_iconst (v := 0) dX8_fewDrops_11 rfl ?_
  refine z_istore_n (lv' := [(0, .ref 74), (1, .int z1.1), (2, .int 0)]) [1, 2, 0] dX8_fewDrops_12 (Nat.le_of_ble_eq_true rfl) rfl ?_
  refine z_sub (lv' := [(0, .ref 74), (1, .int z1.1), (2, .int 0)]) [0, 1, 2] rfl ?_
  refine t_X8_fewDrops_L13 l _ _ _ _ _ _ _ h ?_ ?_
  · intro y5 S6 h
    refine z_iload_n 0 dX8_fewDrops_32 rfl ?_
    obtain rfl := Option.some.inj h
    exact z_iret dX8_fewDrops_33 rfl rfl
  · intro S7 h
    refine z_bipush (v := (-9)) dX8_fewDrops_40 rfl ?_
    obtain rfl := Option.some.inj h
    exact z_iret dX8_fewDrops_42 rfl rfl
set_option maxHeartbeats 2000000 in
set_option maxRecDepth 20000 in
theorem t_X8_together_L73 (l : Launch)   : ∀ (n : Nat) (x1 : Int32) (x2 : Int32) (x3 : Int32) (x4 : Int32) (x5 : Int32) (x6 : Int32) (S : St) (k144 : Int32 → Int32 → Option (Int32 × St)) (r : (Int32 × St)), f_X8_together_L73 n x1 x2 x3 x4 x5 x6 S k144 = some r → (∀ (e4 : Int32) (e5 : Int32), k144 e4 e5 = some r → Z l yX8_together M_X8_together 144 [(3, .int x3), (4, .int e4), (5, .int e5)] [] S (some (.int r.1)) r.2) → Z l yX8_together M_X8_together 73 [(0, .ref 74), (1, .int x1), (2, .int x2), (3, .int x3), (4, .int x4), (5, .int x5), (6, .int x6)] [] S (some (.int r.1)) r.2 := by
  intro n
  induction n with
  | zero =>
    intro x1 x2 x3 x4 x5 x6 S k144 r h hk144
    exact absurd h (by rw [f_X8_together_L73]; exact fun q => by cases q)
  | succ n ih =>
    intro x1 x2 x3 x4 x5 x6 S k144 r h hk144
    rw [f_X8_together_L73] at h
    refine z_iload 6 dX8_together_73 rfl ?_
    refine z_bipush (v := 12) dX8_together_75 rfl ?_
    refine z_icmp_ge (tgt := 144) dX8_together_77 (by decide) (fun c10 => ?_) (fun c10 => ?_)
    · replace h := ip c10 h
      refine z_sub (lv' := [(3, .int x3), (4, .int x4), (5, .int x5)]) [3, 4, 5] rfl ?_
      exact hk144 _ _ h
    · replace h := ig c10 h
      refine z_aload_n 0 dX8_together_80 rfl ?_
      refine z_get (v := .ref 75) dX8_together_81 fl_8_9 kdl_74 rfl ?_
      refine z_iload_n 1 dX8_together_84 rfl ?_
      refine z_iload 6 dX8_together_85 rfl ?_
      obtain ⟨v11, hv11, h⟩ := ob h
      refine z_callS (as := [.ref 75, .int x1, .int x6]) dX8_together_87 ml_8_138 ms_X8_fewestOf (t_X8_fewestOf l kdl_75 hv11) rfl rfl (Nat.le_of_ble_eq_true rfl) ⟨Nat.le_of_ble_eq_true rfl, Nat.le_of_ble_eq_true rfl⟩ rfl ?_
      refine z_istore (lv' := [(0, .ref 74), (1, .int x1), (2, .int x2), (3, .int x3), (4, .int x4), (5, .int x5), (6, .int x6), (7, .int v11)]) [1, 2, 3, 4, 5, 6, 7, 0] dX8_together_90 (Nat.le_of_ble_eq_true rfl) rfl ?_
      refine z_aload_n 0 dX8_together_92 rfl ?_
      refine z_get (v := .ref 75) dX8_together_93 fl_8_9 kdl_74 rfl ?_
      refine z_iload_n 2 dX8_together_96 rfl ?_
      refine z_iload 6 dX8_together_97 rfl ?_
      obtain ⟨v12, hv12, h⟩ := ob h
      refine z_callS (as := [.ref 75, .int x2, .int x6]) dX8_together_99 ml_8_138 ms_X8_fewestOf (t_X8_fewestOf l kdl_75 hv12) rfl rfl (Nat.le_of_ble_eq_true rfl) ⟨Nat.le_of_ble_eq_true rfl, Nat.le_of_ble_eq_true rfl⟩ rfl ?_
      refine z_istore (lv' := [(0, .ref 74), (1, .int x1), (2, .int x2), (3, .int x3), (4, .int x4), (5, .int x5), (6, .int x6), (7, .int v11), (8, .int v12)]) [1, 2, 3, 4, 5, 6, 7, 8, 0] dX8_together_102 (Nat.le_of_ble_eq_true rfl) rfl ?_
      refine z_iload 7 dX8_together_104 rfl ?_
      refine z_if_lt (tgt := 138) dX8_together_106 (by decide) (fun c13 => ?_) (fun c13 => ?_)
      · replace h := ip c13 h
        refine z_iinc (lv' := [(0, .ref 74), (1, .int x1), (2, .int x2), (3, .int x3), (4, .int x4), (5, .int x5), (6, .int (x6 + 1)), (7, .int v11), (8, .int v12)]) (v := x6 + 1) 6 [1, 2, 3, 4, 5, 6, 0, 7, 8] dX8_together_138 rfl rfl (Nat.le_of_ble_eq_true rfl) rfl ?_
        refine z_goto (tgt := 73) dX8_together_141 (by decide) ?_
        refine z_sub (lv' := [(0, .ref 74), (1, .int x1), (2, .int x2), (3, .int x3), (4, .int x4), (5, .int x5), (6, .int (x6 + 1))]) [0, 1, 2, 3, 4, 5, 6] rfl ?_
        exact ih _ _ _ _ _ _ _ _ _ h hk144
      · replace h := ig c13 h
        refine z_iload 8 dX8_together_109 rfl ?_
        refine z_if_lt (tgt := 138) dX8_together_111 (by decide) (fun c14 => ?_) (fun c14 => ?_)
        · replace h := ip c14 h
          refine z_iinc (lv' := [(0, .ref 74), (1, .int x1), (2, .int x2), (3, .int x3), (4, .int x4), (5, .int x5), (6, .int (x6 + 1)), (7, .int v11), (8, .int v12)]) (v := x6 + 1) 6 [1, 2, 3, 4, 5, 6, 0, 7, 8] dX8_together_138 rfl rfl (Nat.le_of_ble_eq_true rfl) rfl ?_
          refine z_goto (tgt := 73) dX8_together_141 (by decide) ?_
          refine z_sub (lv' := [(0, .ref 74), (1, .int x1), (2, .int x2), (3, .int x3), (4, .int x4), (5, .int x5), (6, .int (x6 + 1))]) [0, 1, 2, 3, 4, 5, 6] rfl ?_
          exact ih _ _ _ _ _ _ _ _ _ h hk144
        · replace h := ig c14 h
          refine z_iload 7 dX8_together_114 rfl ?_
          refine z_iload 8 dX8_together_116 rfl ?_
          refine z_iadd dX8_together_118 ?_
          refine z_iload 5 dX8_together_119 rfl ?_
          refine z_icmp_lt (tgt := 127) dX8_together_121 (by decide) (fun c15 => ?_) (fun c15 => ?_)
          · replace h := ip c15 h
            refine z_iload 6 dX8_together_127 rfl ?_
            refine z_istore (lv' := [(0, .ref 74), (1, .int x1), (2, .int x2), (3, .int x3), (4, .int x6), (5, .int x5), (6, .int x6), (7, .int v11), (8, .int v12)]) [1, 2, 3, 4, 0, 5, 6, 7, 8] dX8_together_129 (Nat.le_of_ble_eq_true rfl) rfl ?_
            refine z_iload 7 dX8_together_131 rfl ?_
            refine z_iload 8 dX8_together_133 rfl ?_
            refine z_iadd dX8_together_135 ?_
            refine z_istore (lv' := [(0, .ref 74), (1, .int x1), (2, .int x2), (3, .int x3), (4, .int x6), (5, .int (v11 + v12)), (6, .int x6), (7, .int v11), (8, .int v12)]) [1, 2, 3, 4, 5, 0, 6, 7, 8] dX8_together_136 (Nat.le_of_ble_eq_true rfl) rfl ?_
            refine z_iinc (lv' := [(0, .ref 74), (1, .int x1), (2, .int x2), (3, .int x3), (4, .int x6), (5, .int (v11 + v12)), (6, .int (x6 + 1)), (7, .int v11), (8, .int v12)]) (v := x6 + 1) 6 [1, 2, 3, 4, 5, 6, 0, 7, 8] dX8_together_138 rfl rfl (Nat.le_of_ble_eq_true rfl) rfl ?_
            refine z_goto (tgt := 73) dX8_together_141 (by decide) ?_
            refine z_sub (lv' := [(0, .ref 74), (1, .int x1), (2, .int x2), (3, .int x3), (4, .int x6), (5, .int (v11 + v12)), (6, .int (x6 + 1))]) [0, 1, 2, 3, 4, 5, 6] rfl ?_
            exact ih _ _ _ _ _ _ _ _ _ h hk144
          · replace h := ig c15 h
            refine z_goto (tgt := 138) dX8_together_124 (by decide) ?_
            refine z_iinc (lv' := [(0, .ref 74), (1, .int x1), (2, .int x2), (3, .int x3), (4, .int x4), (5, .int x5), (6, .int (x6 + 1)), (7, .int v11), (8, .int v12)]) (v := x6 + 1) 6 [1, 2, 3, 4, 5, 6, 0, 7, 8] dX8_together_138 rfl rfl (Nat.le_of_ble_eq_true rfl) rfl ?_
            refine z_goto (tgt := 73) dX8_together_141 (by decide) ?_
            refine z_sub (lv' := [(0, .ref 74), (1, .int x1), (2, .int x2), (3, .int x3), (4, .int x4), (5, .int x5), (6, .int (x6 + 1))]) [0, 1, 2, 3, 4, 5, 6] rfl ?_
            exact ih _ _ _ _ _ _ _ _ _ h hk144
set_option maxHeartbeats 2000000 in
set_option maxRecDepth 20000 in
theorem t_X8_together (l : Launch) {S : St}  {a1 : Int32} {a2 : Int32} {a3 : Int32} {r : (Int32 × St)} (h : f_X8_together a1 a2 a3 S = some r) : CT l yX8_together M_X8_together [.ref 74, .int a1, .int a2, .int a3] S (some (.int r.1)) r.2 := by
  rw [f_X8_together] at h
  refine ct_of (lv := [(0, .ref 74), (1, .int a1), (2, .int a2), (3, .int a3)]) (by decide) rfl (Nat.le_of_ble_eq_true rfl) ?_
  refine z_aload_n 0 dX8_together_0 rfl ?_
  refine z_iload_n 1 dX8_together_1 rfl ?_
  refine z_iload_n 2 dX8_together_2 rfl ?_
  obtain ⟨v1, hv1, h⟩ := ob h
  refine z_callV (as := [.int a1, .int a2]) dX8_together_3 ml_8_129 mv_X8_areTwo (t_X8_areTwo l hv1) kdl_74 ⟨by decide, rfl⟩ rfl rfl (Nat.le_of_ble_eq_true rfl) ⟨Nat.le_of_ble_eq_true rfl, Nat.le_of_ble_eq_true rfl⟩ rfl ?_
  refine z_if_ne (tgt := 15) dX8_together_6 (by decide) (fun c2 => ?_) (fun c2 => ?_)
  · replace h := ig c2 h
    refine z_iload_n 3 dX8_together_15 rfl ?_
    refine z_iconst (v := 0) dX8_together_16 rfl ?_
    refine z_iconst (v := 1) dX8_together_17 rfl ?_
    obtain ⟨v3, hv3, h⟩ := ob h
    refine z_callS (as := [.int a3, .int 0, .int 1]) dX8_together_18 ml_8_47 ms_X8_isIn (t_X8_isIn l _ hv3) rfl rfl (Nat.le_of_ble_eq_true rfl) ⟨Nat.le_of_ble_eq_true rfl, Nat.le_of_ble_eq_true rfl⟩ rfl ?_
    refine z_if_ne (tgt := 31) dX8_together_21 (by decide) (fun c4 => ?_) (fun c4 => ?_)
    · replace h := ig c4 h
      refine z_aload_n 0 dX8_together_31 rfl ?_
      refine z_get (v := .ref 75) dX8_together_32 fl_8_9 kdl_74 rfl ?_
      refine z_bipush (v := 20) dX8_together_35 rfl ?_
      refine z_iload_n 1 dX8_together_37 rfl ?_
      refine z_iadd dX8_together_38 ?_
      obtain ⟨c5, h⟩ := oi h
      refine z_iald dX8_together_39 kdl_75 (by decide) c5 ?_
      refine z_if_ge (tgt := 55) dX8_together_40 (by decide) (fun c6 => ?_) (fun c6 => ?_)
      · replace h := ip c6 h
        refine z_aload_n 0 dX8_together_55 rfl ?_
        refine z_bipush (v := (-3)) dX8_together_56 rfl ?_
        obtain ⟨z7, hz7, h⟩ := ob h
        refine z_callV (as := [.int (-3)]) dX8_together_58 ml_8_41 mv_X8_no (t_X8_no l hz7) kdl_74 ⟨by decide, rfl⟩ rfl rfl (Nat.le_of_ble_eq_true rfl) ⟨Nat.le_of_ble_eq_true rfl, Nat.le_of_ble_eq_true rfl⟩ rfl ?_
        obtain rfl := Option.some.inj h
        exact z_iret dX8_together_61 rfl rfl
      · replace h := ig c6 h
        refine z_aload_n 0 dX8_together_43 rfl ?_
        refine z_get (v := .ref 75) dX8_together_44 fl_8_9 kdl_74 rfl ?_
        refine z_bipush (v := 20) dX8_together_47 rfl ?_
        refine z_iload_n 2 dX8_together_49 rfl ?_
        refine z_iadd dX8_together_50 ?_
        obtain ⟨c8, h⟩ := oi h
        refine z_iald dX8_together_51 kdl_75 (by decide) c8 ?_
        refine z_if_lt (tgt := 62) dX8_together_52 (by decide) (fun c9 => ?_) (fun c9 => ?_)
        · replace h := ip c9 h
          refine z_bipush (v := (-9)) dX8_together_62 rfl ?_
          refine z_istore (lv' := [(0, .ref 74), (1, .int a1), (2, .int a2), (3, .int a3), (4, .int (-9))]) [1, 2, 3, 4, 0] dX8_together_64 (Nat.le_of_ble_eq_true rfl) rfl ?_
          refine z_ldc cst_8_40 dX8_together_66 ?_
          refine z_istore (lv' := [(0, .ref 74), (1, .int a1), (2, .int a2), (3, .int a3), (4, .int (-9)), (5, .int 1000000000)]) [1, 2, 3, 4, 5, 0] dX8_together_68 (Nat.le_of_ble_eq_true rfl) rfl ?_
          refine z_iconst (v := 0) dX8_together_70 rfl ?_
          refine z_istore (lv' := [(0, .ref 74), (1, .int a1), (2, .int a2), (3, .int a3), (4, .int (-9)), (5, .int 1000000000), (6, .int 0)]) [1, 2, 3, 4, 5, 6, 0] dX8_together_71 (Nat.le_of_ble_eq_true rfl) rfl ?_
          refine z_sub (lv' := [(0, .ref 74), (1, .int a1), (2, .int a2), (3, .int a3), (4, .int (-9)), (5, .int 1000000000), (6, .int 0)]) [0, 1, 2, 3, 4, 5, 6] rfl ?_
          refine t_X8_together_L73 l _ _ _ _ _ _ _ _ _ _ h ?_
          · intro y16 y17 h
            refine z_iload 1 dX8_together_144 rfl ?_
            refine z_if_lt (tgt := 154) dX8_together_146 (by decide) (fun c18 => ?_) (fun c18 => ?_)
            · replace h := ip c18 h
              refine z_iload 1 dX8_together_154 rfl ?_
              refine z_goto (tgt := 161) dX8_together_156 (by decide) ?_
              obtain rfl := Option.some.inj h
              exact z_iret dX8_together_161 rfl rfl
            · replace h := ig c18 h
              refine z_iload_n 0 dX8_together_149 rfl ?_
              refine z_iconst (v := 1) dX8_together_150 rfl ?_
              refine z_icmp_ne (tgt := 159) dX8_together_151 (by decide) (fun c19 => ?_) (fun c19 => ?_)
              · replace h := ig c19 h
                refine z_iload 2 dX8_together_159 rfl ?_
                obtain rfl := Option.some.inj h
                exact z_iret dX8_together_161 rfl rfl
              · replace h := ip c19 h
                refine z_iload 1 dX8_together_154 rfl ?_
                refine z_goto (tgt := 161) dX8_together_156 (by decide) ?_
                obtain rfl := Option.some.inj h
                exact z_iret dX8_together_161 rfl rfl
        · replace h := ig c9 h
          refine z_aload_n 0 dX8_together_55 rfl ?_
          refine z_bipush (v := (-3)) dX8_together_56 rfl ?_
          obtain ⟨z20, hz20, h⟩ := ob h
          refine z_callV (as := [.int (-3)]) dX8_together_58 ml_8_41 mv_X8_no (t_X8_no l hz20) kdl_74 ⟨by decide, rfl⟩ rfl rfl (Nat.le_of_ble_eq_true rfl) ⟨Nat.le_of_ble_eq_true rfl, Nat.le_of_ble_eq_true rfl⟩ rfl ?_
          obtain rfl := Option.some.inj h
          exact z_iret dX8_together_61 rfl rfl
    · replace h := ip c4 h
      refine z_aload_n 0 dX8_together_24 rfl ?_
      refine z_bipush (v := (-2)) dX8_together_25 rfl ?_
      obtain ⟨z21, hz21, h⟩ := ob h
      refine z_callV (as := [.int (-2)]) dX8_together_27 ml_8_41 mv_X8_no (t_X8_no l hz21) kdl_74 ⟨by decide, rfl⟩ rfl rfl (Nat.le_of_ble_eq_true rfl) ⟨Nat.le_of_ble_eq_true rfl, Nat.le_of_ble_eq_true rfl⟩ rfl ?_
      obtain rfl := Option.some.inj h
      exact z_iret dX8_together_30 rfl rfl
  · replace h := ip c2 h
    refine z_aload_n 0 dX8_together_9 rfl ?_
    refine z_iconst (v := (-1)) dX8_together_10 rfl ?_
    obtain ⟨z22, hz22, h⟩ := ob h
    refine z_callV (as := [.int (-1)]) dX8_together_11 ml_8_41 mv_X8_no (t_X8_no l hz22) kdl_74 ⟨by decide, rfl⟩ rfl rfl (Nat.le_of_ble_eq_true rfl) ⟨Nat.le_of_ble_eq_true rfl, Nat.le_of_ble_eq_true rfl⟩ rfl ?_
    obtain rfl := Option.some.inj h
    exact z_iret dX8_together_14 rfl rfl
set_option maxHeartbeats 2000000 in
set_option maxRecDepth 20000 in
theorem t_X8_gladdest_L14 (l : Launch)   : ∀ (n : Nat) (x1 : Int32) (x2 : Int32) (x3 : Int32) (S : St) (k49 : Int32 → Option Int32) (r : Int32), f_X8_gladdest_L14 n x1 x2 x3 S k49 = some r → (∀ (e2 : Int32), k49 e2 = some r → Z l yX8_gladdest M_X8_gladdest 49 [(2, .int e2)] [] S (some (.int r)) S) → Z l yX8_gladdest M_X8_gladdest 14 [(0, .ref 74), (1, .int x1), (2, .int x2), (3, .int x3)] [] S (some (.int r)) S := by
  intro n
  induction n with
  | zero =>
    intro x1 x2 x3 S k49 r h hk49
    exact absurd h (by rw [f_X8_gladdest_L14]; exact fun q => by cases q)
  | succ n ih =>
    intro x1 x2 x3 S k49 r h hk49
    rw [f_X8_gladdest_L14] at h
    refine z_iload_n 3 dX8_gladdest_14 rfl ?_
    refine z_if_lt (tgt := 49) dX8_gladdest_15 (by decide) (fun c1 => ?_) (fun c1 => ?_)
    · replace h := ip c1 h
      refine z_sub (lv' := [(2, .int x2)]) [2] rfl ?_
      exact hk49 _ h
    · replace h := ig c1 h
      refine z_aload_n 0 dX8_gladdest_18 rfl ?_
      refine z_get (v := .ref 75) dX8_gladdest_19 fl_8_9 kdl_74 rfl ?_
      refine z_iload_n 1 dX8_gladdest_22 rfl ?_
      refine z_iload_n 3 dX8_gladdest_23 rfl ?_
      obtain ⟨v2, hv2, h⟩ := ob h
      refine z_callS (as := [.int x1, .int x3]) dX8_gladdest_24 ml_8_55 ms_X8_at (t_X8_at l _ hv2) rfl rfl (Nat.le_of_ble_eq_true rfl) ⟨Nat.le_of_ble_eq_true rfl, Nat.le_of_ble_eq_true rfl⟩ rfl ?_
      obtain ⟨c3, h⟩ := oi h
      refine z_iald dX8_gladdest_27 kdl_75 (by decide) c3 ?_
      refine z_aload_n 0 dX8_gladdest_28 rfl ?_
      refine z_get (v := .ref 75) dX8_gladdest_29 fl_8_9 kdl_74 rfl ?_
      refine z_iload_n 1 dX8_gladdest_32 rfl ?_
      refine z_iload_n 2 dX8_gladdest_33 rfl ?_
      obtain ⟨v4, hv4, h⟩ := ob h
      refine z_callS (as := [.int x1, .int x2]) dX8_gladdest_34 ml_8_55 ms_X8_at (t_X8_at l _ hv4) rfl rfl (Nat.le_of_ble_eq_true rfl) ⟨Nat.le_of_ble_eq_true rfl, Nat.le_of_ble_eq_true rfl⟩ rfl ?_
      obtain ⟨c5, h⟩ := oi h
      refine z_iald dX8_gladdest_37 kdl_75 (by decide) c5 ?_
      refine z_icmp_le (tgt := 43) dX8_gladdest_38 (by decide) (fun c6 => ?_) (fun c6 => ?_)
      · replace h := ip c6 h
        refine z_iinc (lv' := [(0, .ref 74), (1, .int x1), (2, .int x2), (3, .int (x3 + (-1)))]) (v := x3 + (-1)) 3 [1, 2, 3, 0] dX8_gladdest_43 rfl rfl (Nat.le_of_ble_eq_true rfl) rfl ?_
        refine z_goto (tgt := 14) dX8_gladdest_46 (by decide) ?_
        refine z_sub (lv' := [(0, .ref 74), (1, .int x1), (2, .int x2), (3, .int (x3 + (-1)))]) [0, 1, 2, 3] rfl ?_
        exact ih _ _ _ _ _ _ h hk49
      · replace h := ig c6 h
        refine z_iload_n 3 dX8_gladdest_41 rfl ?_
        refine z_istore_n (lv' := [(0, .ref 74), (1, .int x1), (2, .int x3), (3, .int x3)]) [1, 2, 0, 3] dX8_gladdest_42 (Nat.le_of_ble_eq_true rfl) rfl ?_
        refine z_iinc (lv' := [(0, .ref 74), (1, .int x1), (2, .int x3), (3, .int (x3 + (-1)))]) (v := x3 + (-1)) 3 [1, 2, 3, 0] dX8_gladdest_43 rfl rfl (Nat.le_of_ble_eq_true rfl) rfl ?_
        refine z_goto (tgt := 14) dX8_gladdest_46 (by decide) ?_
        refine z_sub (lv' := [(0, .ref 74), (1, .int x1), (2, .int x3), (3, .int (x3 + (-1)))]) [0, 1, 2, 3] rfl ?_
        exact ih _ _ _ _ _ _ h hk49
set_option maxHeartbeats 2000000 in
set_option maxRecDepth 20000 in
theorem t_X8_gladdest (l : Launch) {S : St}  {a1 : Int32} {r : Int32} (h : f_X8_gladdest a1 S = some r) : CT l yX8_gladdest M_X8_gladdest [.ref 74, .int a1] S (some (.int r)) S := by
  rw [f_X8_gladdest] at h
  refine ct_of (lv := [(0, .ref 74), (1, .int a1)]) (by decide) rfl (Nat.le_of_ble_eq_true rfl) ?_
  refine z_aload_n 0 dX8_gladdest_0 rfl ?_
  refine z_get (v := .ref 75) dX8_gladdest_1 fl_8_9 kdl_74 rfl ?_
  refine z_iconst (v := 1) dX8_gladdest_4 rfl ?_
  refine z_ialdK (j := 1) dX8_gladdest_5 kdl_75 (by decide) (by decide) (by decide) ?_
  refine z_istore_n (lv' := [(0, .ref 74), (1, .int a1), (2, .int (S.1 75 1))]) [1, 2, 0] dX8_gladdest_6 (Nat.le_of_ble_eq_true rfl) rfl ?_
  refine z_aload_n 0 dX8_gladdest_7 rfl ?_
  refine z_get (v := .ref 75) dX8_gladdest_8 fl_8_9 kdl_74 rfl ?_
  refine z_iconst (v := 1) dX8_gladdest_11 rfl ?_
  refine z_ialdK (j := 1) dX8_gladdest_12 kdl_75 (by decide) (by decide) (by decide) ?_
  refine z_istore_n (lv' := [(0, .ref 74), (1, .int a1), (2, .int (S.1 75 1)), (3, .int (S.1 75 1))]) [1, 2, 3, 0] dX8_gladdest_13 (Nat.le_of_ble_eq_true rfl) rfl ?_
  refine z_sub (lv' := [(0, .ref 74), (1, .int a1), (2, .int (S.1 75 1)), (3, .int (S.1 75 1))]) [0, 1, 2, 3] rfl ?_
  refine t_X8_gladdest_L14 l _ _ _ _ _ _ _ h ?_
  · intro y7 h
    refine z_iload_n 0 dX8_gladdest_49 rfl ?_
    obtain rfl := Option.some.inj h
    exact z_iret dX8_gladdest_50 rfl rfl
