set_option maxHeartbeats 2000000 in
set_option maxRecDepth 20000 in
theorem t_X2_firstNotGladOf_L2 (l : Launch) {q1 : Nat} (hq1 : kd q1 = 6) : ∀ (n : Nat) (x2 : Int32) (S : St) (k37 : Int32 → Option Int32) (k45 : Unit → Option Int32) (r : Int32), f_X2_firstNotGladOf_L2 n q1 x2 S k37 k45 = some r → (∀ (e2 : Int32), k37 e2 = some r → Z l yX2_firstNotGladOf M_X2_firstNotGladOf 37 [(2, .int e2)] [] S (some (.int r)) S) → (k45 () = some r → Z l yX2_firstNotGladOf M_X2_firstNotGladOf 45 [] [] S (some (.int r)) S) → Z l yX2_firstNotGladOf M_X2_firstNotGladOf 2 [(0, .ref 62), (1, .ref q1), (2, .int x2)] [] S (some (.int r)) S := by
  intro n
  induction n with
  | zero =>
    intro x2 S k37 k45 r h hk37 hk45
    exact absurd h (by rw [f_X2_firstNotGladOf_L2]; exact fun q => by cases q)
  | succ n ih =>
    intro x2 S k37 k45 r h hk37 hk45
    rw [f_X2_firstNotGladOf_L2] at h
    refine z_iload_n 2 dX2_firstNotGladOf_2 rfl ?_
    refine z_aload_n 0 dX2_firstNotGladOf_3 rfl ?_
    refine z_get (v := .int (S.1 62 1)) dX2_firstNotGladOf_4 fl_2_15 kdl_62 rfl ?_
    refine z_icmp_ge (tgt := 45) dX2_firstNotGladOf_7 (by decide) (fun c1 => ?_) (fun c1 => ?_)
    · replace h := ip c1 h
      refine z_sub (lv' := []) [] rfl ?_
      exact hk45  h
    · replace h := ig c1 h
      refine z_iload_n 2 dX2_firstNotGladOf_10 rfl ?_
      refine z_bipush (v := 16) dX2_firstNotGladOf_11 rfl ?_
      refine z_icmp_ge (tgt := 45) dX2_firstNotGladOf_13 (by decide) (fun c2 => ?_) (fun c2 => ?_)
      · replace h := ip c2 h
        refine z_sub (lv' := []) [] rfl ?_
        exact hk45  h
      · replace h := ig c2 h
        refine z_iload_n 2 dX2_firstNotGladOf_16 rfl ?_
        obtain ⟨v3, hv3, h⟩ := ob h
        refine z_callS (as := [.int x2]) dX2_firstNotGladOf_17 ml_2_29 ms_X7_noYear (t_X7_noYear l _ hv3) rfl rfl (Nat.le_of_ble_eq_true rfl) ⟨Nat.le_of_ble_eq_true rfl, Nat.le_of_ble_eq_true rfl⟩ rfl ?_
        refine z_if_ne (tgt := 37) dX2_firstNotGladOf_20 (by decide) (fun c4 => ?_) (fun c4 => ?_)
        · replace h := ig c4 h
          refine z_sub (lv' := [(2, .int x2)]) [2] rfl ?_
          exact hk37 _ h
        · replace h := ip c4 h
          refine z_aload_n 0 dX2_firstNotGladOf_23 rfl ?_
          refine z_get (v := .ref 63) dX2_firstNotGladOf_24 fl_2_9 kdl_62 rfl ?_
          refine z_iload_n 2 dX2_firstNotGladOf_27 rfl ?_
          obtain ⟨c5, h⟩ := oi h
          refine z_iald dX2_firstNotGladOf_28 kdl_63 (by decide) c5 ?_
          refine z_aload_n 1 dX2_firstNotGladOf_29 rfl ?_
          refine z_iload_n 2 dX2_firstNotGladOf_30 rfl ?_
          obtain ⟨v6, hv6, h⟩ := ob h
          refine z_callV (as := [.int x2]) dX2_firstNotGladOf_31 ml_2_33 mv_X6_gladIn (t_X6_gladIn l hq1 hv6) hq1 ⟨by decide, rfl⟩ rfl rfl (Nat.le_of_ble_eq_true rfl) ⟨Nat.le_of_ble_eq_true rfl, Nat.le_of_ble_eq_true rfl⟩ rfl ?_
          refine z_icmp_eq (tgt := 39) dX2_firstNotGladOf_34 (by decide) (fun c7 => ?_) (fun c7 => ?_)
          · replace h := ip c7 h
            refine z_iinc (lv' := [(0, .ref 62), (1, .ref q1), (2, .int (x2 + 1))]) (v := x2 + 1) 2 [1, 2, 0] dX2_firstNotGladOf_39 rfl rfl (Nat.le_of_ble_eq_true rfl) rfl ?_
            refine z_goto (tgt := 2) dX2_firstNotGladOf_42 (by decide) ?_
            refine z_sub (lv' := [(0, .ref 62), (1, .ref q1), (2, .int (x2 + 1))]) [0, 1, 2] rfl ?_
            exact ih _ _ _ _ _ h hk37 hk45
          · replace h := ig c7 h
            refine z_sub (lv' := [(2, .int x2)]) [2] rfl ?_
            exact hk37 _ h
set_option maxHeartbeats 2000000 in
set_option maxRecDepth 20000 in
theorem t_X2_firstNotGladOf (l : Launch) {S : St} {q1 : Nat} (hq1 : kd q1 = 6)  {r : Int32} (h : f_X2_firstNotGladOf q1 S = some r) : CT l yX2_firstNotGladOf M_X2_firstNotGladOf [.ref 62, .ref q1] S (some (.int r)) S := by
  rw [f_X2_firstNotGladOf] at h
  refine ct_of (lv := [(0, .ref 62), (1, .ref q1)]) (by decide) rfl (Nat.le_of_ble_eq_true rfl) ?_
  refine z_iconst (v := 0) dX2_firstNotGladOf_0 rfl ?_
  refine z_istore_n (lv' := [(0, .ref 62), (1, .ref q1), (2, .int 0)]) [1, 2, 0] dX2_firstNotGladOf_1 (Nat.le_of_ble_eq_true rfl) rfl ?_
  refine z_sub (lv' := [(0, .ref 62), (1, .ref q1), (2, .int 0)]) [0, 1, 2] rfl ?_
  refine t_X2_firstNotGladOf_L2 l hq1 _ _ _ _ _ _ h ?_ ?_
  · intro y8 h
    refine z_iload_n 0 dX2_firstNotGladOf_37 rfl ?_
    obtain rfl := Option.some.inj h
    exact z_iret dX2_firstNotGladOf_38 rfl rfl
  · intro h
    refine z_bipush (v := (-9)) dX2_firstNotGladOf_45 rfl ?_
    obtain rfl := Option.some.inj h
    exact z_iret dX2_firstNotGladOf_47 rfl rfl
set_option maxHeartbeats 2000000 in
set_option maxRecDepth 20000 in
theorem t_X6_copyFrom (l : Launch) {S : St} {q0 : Nat} (hq0 : kd q0 = 6) {q1 : Nat} (hq1 : kd q1 = 6)  {r : St} (h : f_X6_copyFrom q0 q1 S = some r) : CT l yX6_copyFrom M_X6_copyFrom [.ref q0, .ref q1] S none r := by
  rw [f_X6_copyFrom] at h
  refine ct_of (lv := [(0, .ref q0), (1, .ref q1)]) (by decide) rfl (Nat.le_of_ble_eq_true rfl) ?_
  refine z_aload_n 0 dX6_copyFrom_0 rfl ?_
  refine z_aload_n 1 dX6_copyFrom_1 rfl ?_
  refine z_get (v := .int (S.1 q1 0)) dX6_copyFrom_2 fl_6_19 hq1 rfl ?_
  refine z_put (fk := 0) dX6_copyFrom_5 fl_6_19 fp_6_0 hq0 rfl rfl rfl (Nat.le_of_ble_eq_true rfl) ?_
  refine z_aload_n 0 dX6_copyFrom_8 rfl ?_
  refine z_aload_n 1 dX6_copyFrom_9 rfl ?_
  refine z_get (v := .int ((up S q0 0 (S.1 q1 0)).1 q1 1)) dX6_copyFrom_10 fl_6_22 hq1 rfl ?_
  refine z_put (fk := 1) dX6_copyFrom_13 fl_6_22 fp_6_1 hq0 rfl rfl rfl (Nat.le_of_ble_eq_true rfl) ?_
  refine z_aload_n 0 dX6_copyFrom_16 rfl ?_
  refine z_aload_n 1 dX6_copyFrom_17 rfl ?_
  refine z_get (v := .int ((up (up S q0 0 (S.1 q1 0)) q0 1 ((up S q0 0 (S.1 q1 0)).1 q1 1)).1 q1 2)) dX6_copyFrom_18 fl_6_9 hq1 rfl ?_
  refine z_put (fk := 2) dX6_copyFrom_21 fl_6_9 fp_6_2 hq0 rfl rfl rfl (Nat.le_of_ble_eq_true rfl) ?_
  refine z_aload_n 1 dX6_copyFrom_24 rfl ?_
  refine z_get (v := .ref (q1 + 1)) dX6_copyFrom_25 fl_6_15 hq1 rfl ?_
  refine z_iconst (v := 0) dX6_copyFrom_28 rfl ?_
  refine z_aload_n 0 dX6_copyFrom_29 rfl ?_
  refine z_get (v := .ref (q0 + 1)) dX6_copyFrom_30 fl_6_15 hq0 rfl ?_
  refine z_iconst (v := 0) dX6_copyFrom_33 rfl ?_
  refine z_bipush (v := 12) dX6_copyFrom_34 rfl ?_
  obtain ⟨c1, h⟩ := oi h
  refine z_copyK (j0 := 0) (j1 := 0) (j2 := 12) dX6_copyFrom_36 cp_6_25 (kd_th hq1) (kd_th hq0) (by decide) c1 (by decide) (by decide) (by decide) (by decide) (by decide) (by decide) (by decide) (by decide) (Nat.le_of_ble_eq_true rfl) (Nat.le_of_ble_eq_true rfl) ?_
  obtain rfl := Option.some.inj h
  exact z_vret dX6_copyFrom_39 rfl
set_option maxHeartbeats 2000000 in
set_option maxRecDepth 20000 in
theorem t_X3_copyFrom_L34 (l : Launch) {q0 : Nat} {q1 : Nat} (hq0 : kd q0 = 3) (hq1 : kd q1 = 3) : ∀ (n : Nat) (x2 : Int32) (S : St) (k73 : St → Option St) (r : St), f_X3_copyFrom_L34 n q0 q1 x2 S k73 = some r → (∀ (T : St), k73 T = some r → Z l yX3_copyFrom M_X3_copyFrom 73 [] [] T none r) → Z l yX3_copyFrom M_X3_copyFrom 34 [(0, .ref q0), (1, .ref q1), (2, .int x2)] [] S none r := by
  intro n
  induction n with
  | zero =>
    intro x2 S k73 r h hk73
    exact absurd h (by rw [f_X3_copyFrom_L34]; exact fun q => by cases q)
  | succ n ih =>
    intro x2 S k73 r h hk73
    rw [f_X3_copyFrom_L34] at h
    refine z_iload_n 2 dX3_copyFrom_34 rfl ?_
    refine z_bipush (v := 8) dX3_copyFrom_35 rfl ?_
    refine z_icmp_ge (tgt := 73) dX3_copyFrom_37 (by decide) (fun c1 => ?_) (fun c1 => ?_)
    · replace h := ip c1 h
      refine z_sub (lv' := []) [] rfl ?_
      exact hk73 _ h
    · replace h := ig c1 h
      refine z_aload_n 0 dX3_copyFrom_40 rfl ?_
      refine z_get (v := .ref (q0 + 1)) dX3_copyFrom_41 fl_3_20 hq0 rfl ?_
      refine z_iload_n 2 dX3_copyFrom_44 rfl ?_
      obtain ⟨c2, h⟩ := oi h
      refine z_aald dX3_copyFrom_45 (kd_sh1 hq0) c2 ?_
      refine z_aload_n 1 dX3_copyFrom_46 rfl ?_
      refine z_get (v := .ref (q1 + 1)) dX3_copyFrom_47 fl_3_20 hq1 rfl ?_
      refine z_iload_n 2 dX3_copyFrom_50 rfl ?_
      obtain ⟨c3, h⟩ := oi h
      refine z_aald dX3_copyFrom_51 (kd_sh1 hq1) c3 ?_
      obtain ⟨S4, hS4, h⟩ := ob h
      refine z_callV (as := [.ref ((q1 + 1) + 2 + 2 * x2.toNatClampNeg)]) dX3_copyFrom_52 ml_3_35 mv_X6_copyFrom (t_X6_copyFrom l (kd_sht hq0 (by omega)) (kd_sht hq1 (by omega)) hS4) (kd_sht hq0 (by omega)) ⟨by decide, rfl⟩ rfl rfl (Nat.le_of_ble_eq_true rfl) ⟨Nat.le_of_ble_eq_true rfl, Nat.le_of_ble_eq_true rfl⟩ rfl ?_
      refine z_aload_n 0 dX3_copyFrom_55 rfl ?_
      refine z_get (v := .ref (q0 + 2)) dX3_copyFrom_56 fl_3_24 hq0 rfl ?_
      refine z_iload_n 2 dX3_copyFrom_59 rfl ?_
      refine z_aload_n 1 dX3_copyFrom_60 rfl ?_
      refine z_get (v := .ref (q1 + 2)) dX3_copyFrom_61 fl_3_24 hq1 rfl ?_
      refine z_iload_n 2 dX3_copyFrom_64 rfl ?_
      obtain ⟨c5, h⟩ := oi h
      refine z_iald dX3_copyFrom_65 (kd_sh2 hq1) (by decide) c5 ?_
      obtain ⟨c6, h⟩ := oi h
      refine z_iast dX3_copyFrom_66 (kd_sh2 hq0) (by decide) c6 ?_
      refine z_iinc (lv' := [(0, .ref q0), (1, .ref q1), (2, .int (x2 + 1))]) (v := x2 + 1) 2 [1, 2, 0] dX3_copyFrom_67 rfl rfl (Nat.le_of_ble_eq_true rfl) rfl ?_
      refine z_goto (tgt := 34) dX3_copyFrom_70 (by decide) ?_
      refine z_sub (lv' := [(0, .ref q0), (1, .ref q1), (2, .int (x2 + 1))]) [0, 1, 2] rfl ?_
      exact ih _ _ _ _ h hk73
set_option maxHeartbeats 2000000 in
set_option maxRecDepth 20000 in
theorem t_X3_copyFrom (l : Launch) {S : St} {q0 : Nat} (hq0 : kd q0 = 3) {q1 : Nat} (hq1 : kd q1 = 3)  {r : St} (h : f_X3_copyFrom q0 q1 S = some r) : CT l yX3_copyFrom M_X3_copyFrom [.ref q0, .ref q1] S none r := by
  rw [f_X3_copyFrom] at h
  refine ct_of (lv := [(0, .ref q0), (1, .ref q1)]) (by decide) rfl (Nat.le_of_ble_eq_true rfl) ?_
  refine z_aload_n 0 dX3_copyFrom_0 rfl ?_
  refine z_aload_n 1 dX3_copyFrom_1 rfl ?_
  refine z_get (v := .int (S.1 q1 0)) dX3_copyFrom_2 fl_3_29 hq1 rfl ?_
  refine z_put (fk := 0) dX3_copyFrom_5 fl_3_29 fp_3_0 hq0 rfl rfl rfl (Nat.le_of_ble_eq_true rfl) ?_
  refine z_aload_n 0 dX3_copyFrom_8 rfl ?_
  refine z_aload_n 1 dX3_copyFrom_9 rfl ?_
  refine z_get (v := .int ((up S q0 0 (S.1 q1 0)).1 q1 1)) dX3_copyFrom_10 fl_3_32 hq1 rfl ?_
  refine z_put (fk := 1) dX3_copyFrom_13 fl_3_32 fp_3_1 hq0 rfl rfl rfl (Nat.le_of_ble_eq_true rfl) ?_
  refine z_aload_n 0 dX3_copyFrom_16 rfl ?_
  refine z_aload_n 1 dX3_copyFrom_17 rfl ?_
  refine z_get (v := .int ((up (up S q0 0 (S.1 q1 0)) q0 1 ((up S q0 0 (S.1 q1 0)).1 q1 1)).1 q1 2)) dX3_copyFrom_18 fl_3_9 hq1 rfl ?_
  refine z_put (fk := 2) dX3_copyFrom_21 fl_3_9 fp_3_2 hq0 rfl rfl rfl (Nat.le_of_ble_eq_true rfl) ?_
  refine z_aload_n 0 dX3_copyFrom_24 rfl ?_
  refine z_aload_n 1 dX3_copyFrom_25 rfl ?_
  refine z_get (v := .int ((up (up (up S q0 0 (S.1 q1 0)) q0 1 ((up S q0 0 (S.1 q1 0)).1 q1 1)) q0 2 ((up (up S q0 0 (S.1 q1 0)) q0 1 ((up S q0 0 (S.1 q1 0)).1 q1 1)).1 q1 2)).1 q1 3)) dX3_copyFrom_26 fl_3_15 hq1 rfl ?_
  refine z_put (fk := 3) dX3_copyFrom_29 fl_3_15 fp_3_3 hq0 rfl rfl rfl (Nat.le_of_ble_eq_true rfl) ?_
  refine z_iconst (v := 0) dX3_copyFrom_32 rfl ?_
  refine z_istore_n (lv' := [(0, .ref q0), (1, .ref q1), (2, .int 0)]) [1, 2, 0] dX3_copyFrom_33 (Nat.le_of_ble_eq_true rfl) rfl ?_
  refine z_sub (lv' := [(0, .ref q0), (1, .ref q1), (2, .int 0)]) [0, 1, 2] rfl ?_
  refine t_X3_copyFrom_L34 l hq0 hq1 _ _ _ _ _ h ?_
  · intro S7 h
    obtain rfl := Option.some.inj h
    exact z_vret dX3_copyFrom_73 rfl
set_option maxHeartbeats 2000000 in
set_option maxRecDepth 20000 in
theorem t_X3_lacks (l : Launch) {S : St} {q0 : Nat} (hq0 : kd q0 = 3) {a1 : Int32} {r : Int32} (h : f_X3_lacks q0 a1 S = some r) : CT l yX3_lacks M_X3_lacks [.ref q0, .int a1] S (some (.int r)) S := by
  rw [f_X3_lacks] at h
  refine ct_of (lv := [(0, .ref q0), (1, .int a1)]) (by decide) rfl (Nat.le_of_ble_eq_true rfl) ?_
  refine z_iload_n 1 dX3_lacks_0 rfl ?_
  refine z_if_lt (tgt := 18) dX3_lacks_1 (by decide) (fun c1 => ?_) (fun c1 => ?_)
  · replace h := ip c1 h
    refine z_iconst (v := 1) dX3_lacks_18 rfl ?_
    refine z_goto (tgt := 23) dX3_lacks_19 (by decide) ?_
    obtain rfl := Option.some.inj h
    exact z_iret dX3_lacks_23 rfl rfl
  · replace h := ig c1 h
    refine z_iload_n 1 dX3_lacks_4 rfl ?_
    refine z_aload_n 0 dX3_lacks_5 rfl ?_
    refine z_get (v := .int (S.1 q0 0)) dX3_lacks_6 fl_3_29 hq0 rfl ?_
    refine z_icmp_ge (tgt := 18) dX3_lacks_9 (by decide) (fun c2 => ?_) (fun c2 => ?_)
    · replace h := ip c2 h
      refine z_iconst (v := 1) dX3_lacks_18 rfl ?_
      refine z_goto (tgt := 23) dX3_lacks_19 (by decide) ?_
      obtain rfl := Option.some.inj h
      exact z_iret dX3_lacks_23 rfl rfl
    · replace h := ig c2 h
      refine z_iload_n 1 dX3_lacks_12 rfl ?_
      refine z_bipush (v := 8) dX3_lacks_13 rfl ?_
      refine z_icmp_lt (tgt := 22) dX3_lacks_15 (by decide) (fun c3 => ?_) (fun c3 => ?_)
      · replace h := ip c3 h
        refine z_iconst (v := 0) dX3_lacks_22 rfl ?_
        obtain rfl := Option.some.inj h
        exact z_iret dX3_lacks_23 rfl rfl
      · replace h := ig c3 h
        refine z_iconst (v := 1) dX3_lacks_18 rfl ?_
        refine z_goto (tgt := 23) dX3_lacks_19 (by decide) ?_
        obtain rfl := Option.some.inj h
        exact z_iret dX3_lacks_23 rfl rfl
set_option maxHeartbeats 2000000 in
set_option maxRecDepth 20000 in
theorem t_X3_lacksTwo (l : Launch) {S : St} {q0 : Nat} (hq0 : kd q0 = 3) {a1 : Int32} {a2 : Int32} {r : Int32} (h : f_X3_lacksTwo q0 a1 a2 S = some r) : CT l yX3_lacksTwo M_X3_lacksTwo [.ref q0, .int a1, .int a2] S (some (.int r)) S := by
  rw [f_X3_lacksTwo] at h
  refine ct_of (lv := [(0, .ref q0), (1, .int a1), (2, .int a2)]) (by decide) rfl (Nat.le_of_ble_eq_true rfl) ?_
  refine z_aload_n 0 dX3_lacksTwo_0 rfl ?_
  refine z_iload_n 1 dX3_lacksTwo_1 rfl ?_
  obtain ⟨v1, hv1, h⟩ := ob h
  refine z_callV (as := [.int a1]) dX3_lacksTwo_2 ml_3_39 mv_X3_lacks (t_X3_lacks l hq0 hv1) hq0 ⟨by decide, rfl⟩ rfl rfl (Nat.le_of_ble_eq_true rfl) ⟨Nat.le_of_ble_eq_true rfl, Nat.le_of_ble_eq_true rfl⟩ rfl ?_
  refine z_if_ne (tgt := 21) dX3_lacksTwo_5 (by decide) (fun c2 => ?_) (fun c2 => ?_)
  · replace h := ig c2 h
    refine z_iconst (v := 1) dX3_lacksTwo_21 rfl ?_
    refine z_goto (tgt := 26) dX3_lacksTwo_22 (by decide) ?_
    obtain rfl := Option.some.inj h
    exact z_iret dX3_lacksTwo_26 rfl rfl
  · replace h := ip c2 h
    refine z_aload_n 0 dX3_lacksTwo_8 rfl ?_
    refine z_iload_n 2 dX3_lacksTwo_9 rfl ?_
    obtain ⟨v3, hv3, h⟩ := ob h
    refine z_callV (as := [.int a2]) dX3_lacksTwo_10 ml_3_39 mv_X3_lacks (t_X3_lacks l hq0 hv3) hq0 ⟨by decide, rfl⟩ rfl rfl (Nat.le_of_ble_eq_true rfl) ⟨Nat.le_of_ble_eq_true rfl, Nat.le_of_ble_eq_true rfl⟩ rfl ?_
    refine z_if_ne (tgt := 21) dX3_lacksTwo_13 (by decide) (fun c4 => ?_) (fun c4 => ?_)
    · replace h := ig c4 h
      refine z_iconst (v := 1) dX3_lacksTwo_21 rfl ?_
      refine z_goto (tgt := 26) dX3_lacksTwo_22 (by decide) ?_
      obtain rfl := Option.some.inj h
      exact z_iret dX3_lacksTwo_26 rfl rfl
    · replace h := ip c4 h
      refine z_iload_n 1 dX3_lacksTwo_16 rfl ?_
      refine z_iload_n 2 dX3_lacksTwo_17 rfl ?_
      refine z_icmp_ne (tgt := 25) dX3_lacksTwo_18 (by decide) (fun c5 => ?_) (fun c5 => ?_)
      · replace h := ig c5 h
        refine z_iconst (v := 0) dX3_lacksTwo_25 rfl ?_
        obtain rfl := Option.some.inj h
        exact z_iret dX3_lacksTwo_26 rfl rfl
      · replace h := ip c5 h
        refine z_iconst (v := 1) dX3_lacksTwo_21 rfl ?_
        refine z_goto (tgt := 26) dX3_lacksTwo_22 (by decide) ?_
        obtain rfl := Option.some.inj h
        exact z_iret dX3_lacksTwo_26 rfl rfl
set_option maxHeartbeats 2000000 in
set_option maxRecDepth 20000 in
theorem t_X6_begin_L18 (l : Launch) {q0 : Nat} (hq0 : kd q0 = 6) : ∀ (n : Nat) (x3 : Int32) (S : St) (k37 : St → Option St) (r : St), f_X6_begin_L18 n q0 x3 S k37 = some r → (∀ (T : St), k37 T = some r → Z l yX6_begin M_X6_begin 37 [] [] T none r) → Z l yX6_begin M_X6_begin 18 [(0, .ref q0), (3, .int x3)] [] S none r := by
  intro n
  induction n with
  | zero =>
    intro x3 S k37 r h hk37
    exact absurd h (by rw [f_X6_begin_L18]; exact fun q => by cases q)
  | succ n ih =>
    intro x3 S k37 r h hk37
    rw [f_X6_begin_L18] at h
    refine z_iload_n 1 dX6_begin_18 rfl ?_
    refine z_bipush (v := 12) dX6_begin_19 rfl ?_
    refine z_icmp_ge (tgt := 37) dX6_begin_21 (by decide) (fun c1 => ?_) (fun c1 => ?_)
    · replace h := ip c1 h
      refine z_sub (lv' := []) [] rfl ?_
      exact hk37 _ h
    · replace h := ig c1 h
      refine z_aload_n 0 dX6_begin_24 rfl ?_
      refine z_get (v := .ref (q0 + 1)) dX6_begin_25 fl_6_15 hq0 rfl ?_
      refine z_iload_n 1 dX6_begin_28 rfl ?_
      refine z_iconst (v := 0) dX6_begin_29 rfl ?_
      obtain ⟨c2, h⟩ := oi h
      refine z_iast dX6_begin_30 (kd_th hq0) (by decide) c2 ?_
      refine z_iinc (lv' := [(0, .ref q0), (3, .int (x3 + 1))]) (v := x3 + 1) 1 [1, 0] dX6_begin_31 rfl rfl (Nat.le_of_ble_eq_true rfl) rfl ?_
      refine z_goto (tgt := 18) dX6_begin_34 (by decide) ?_
      refine z_sub (lv' := [(0, .ref q0), (3, .int (x3 + 1))]) [0, 1] rfl ?_
      exact ih _ _ _ _ h hk37
set_option maxHeartbeats 2000000 in
set_option maxRecDepth 20000 in
theorem t_X6_begin (l : Launch) {S : St} {q0 : Nat} (hq0 : kd q0 = 6) {a1 : Int32} {a2 : Int32} {r : St} (h : f_X6_begin q0 a1 a2 S = some r) : CT l yX6_begin M_X6_begin [.ref q0, .int a1, .int a2] S none r := by
  rw [f_X6_begin] at h
  refine ct_of (lv := [(0, .ref q0), (1, .int a1), (2, .int a2)]) (by decide) rfl (Nat.le_of_ble_eq_true rfl) ?_
  refine z_aload_n 0 dX6_begin_0 rfl ?_
  refine z_iload_n 1 dX6_begin_1 rfl ?_
  refine z_put (fk := 0) dX6_begin_2 fl_6_19 fp_6_0 hq0 rfl rfl rfl (Nat.le_of_ble_eq_true rfl) ?_
  refine z_aload_n 0 dX6_begin_5 rfl ?_
  refine z_iload_n 2 dX6_begin_6 rfl ?_
  refine z_put (fk := 1) dX6_begin_7 fl_6_22 fp_6_1 hq0 rfl rfl rfl (Nat.le_of_ble_eq_true rfl) ?_
  refine z_aload_n 0 dX6_begin_10 rfl ?_
  refine z_bipush (v := (-9)) dX6_begin_11 rfl ?_
  refine z_put (fk := 2) dX6_begin_13 fl_6_9 fp_6_2 hq0 rfl rfl rfl (Nat.le_of_ble_eq_true rfl) ?_
  refine z_iconst (v := 0) dX6_begin_16 rfl ?_
  refine z_istore_n (lv' := [(0, .ref q0), (1, .int a1), (2, .int a2), (3, .int 0)]) [1, 2, 3, 0] dX6_begin_17 (Nat.le_of_ble_eq_true rfl) rfl ?_
  refine z_sub (lv' := [(0, .ref q0), (3, .int 0)]) [0, 3] rfl ?_
  refine t_X6_begin_L18 l hq0 _ _ _ _ _ h ?_
  · intro S3 h
    obtain rfl := Option.some.inj h
    exact z_vret dX6_begin_37 rfl
set_option maxHeartbeats 2000000 in
set_option maxRecDepth 20000 in
theorem t_X3_add (l : Launch) {S : St} {q0 : Nat} (hq0 : kd q0 = 3) {a1 : Int32} {a2 : Int32} {r : (Int32 × St)} (h : f_X3_add q0 a1 a2 S = some r) : CT l yX3_add M_X3_add [.ref q0, .int a1, .int a2] S (some (.int r.1)) r.2 := by
  rw [f_X3_add] at h
  refine ct_of (lv := [(0, .ref q0), (1, .int a1), (2, .int a2)]) (by decide) rfl (Nat.le_of_ble_eq_true rfl) ?_
  refine z_aload_n 0 dX3_add_0 rfl ?_
  refine z_get (v := .int (S.1 q0 0)) dX3_add_1 fl_3_29 hq0 rfl ?_
  refine z_bipush (v := 8) dX3_add_4 rfl ?_
  refine z_icmp_lt (tgt := 11) dX3_add_6 (by decide) (fun c1 => ?_) (fun c1 => ?_)
  · replace h := ip c1 h
    refine z_aload_n 0 dX3_add_11 rfl ?_
    refine z_aload_n 0 dX3_add_12 rfl ?_
    refine z_get (v := .int (S.1 q0 0)) dX3_add_13 fl_3_29 hq0 rfl ?_
    obtain ⟨v2, hv2, h⟩ := ob h
    refine z_callV (as := [.int (S.1 q0 0)]) dX3_add_16 ml_3_43 mv_X3_at (t_X3_at l hq0 hv2) hq0 ⟨by decide, rfl⟩ rfl rfl (Nat.le_of_ble_eq_true rfl) ⟨Nat.le_of_ble_eq_true rfl, Nat.le_of_ble_eq_true rfl⟩ rfl ?_
    refine z_iload_n 1 dX3_add_19 rfl ?_
    refine z_iload_n 2 dX3_add_20 rfl ?_
    obtain ⟨S3, hS3, h⟩ := ob h
    refine z_callV (as := [.int a1, .int a2]) dX3_add_21 ml_3_47 mv_X6_begin (t_X6_begin l (kd_at hq0 hv2) hS3) (kd_at hq0 hv2) ⟨by decide, rfl⟩ rfl rfl (Nat.le_of_ble_eq_true rfl) ⟨Nat.le_of_ble_eq_true rfl, Nat.le_of_ble_eq_true rfl⟩ rfl ?_
    refine z_aload_n 0 dX3_add_24 rfl ?_
    refine z_dup dX3_add_25 rfl ?_
    refine z_get (v := .int (S3.1 q0 0)) dX3_add_26 fl_3_29 hq0 rfl ?_
    refine z_iconst (v := 1) dX3_add_29 rfl ?_
    refine z_iadd dX3_add_30 ?_
    refine z_put (fk := 0) dX3_add_31 fl_3_29 fp_3_0 hq0 rfl rfl rfl (Nat.le_of_ble_eq_true rfl) ?_
    refine z_iconst (v := 1) dX3_add_34 rfl ?_
    obtain rfl := Option.some.inj h
    exact z_iret dX3_add_35 rfl rfl
  · replace h := ig c1 h
    refine z_iconst (v := 0) dX3_add_9 rfl ?_
    obtain rfl := Option.some.inj h
    exact z_iret dX3_add_10 rfl rfl
set_option maxHeartbeats 2000000 in
set_option maxRecDepth 20000 in
theorem t_X6_makeGlad (l : Launch) {S : St} {q0 : Nat} (hq0 : kd q0 = 6) {a1 : Int32} {a2 : Int32} {r : St} (h : f_X6_makeGlad q0 a1 a2 S = some r) : CT l yX6_makeGlad M_X6_makeGlad [.ref q0, .int a1, .int a2] S none r := by
  rw [f_X6_makeGlad] at h
  refine ct_of (lv := [(0, .ref q0), (1, .int a1), (2, .int a2)]) (by decide) rfl (Nat.le_of_ble_eq_true rfl) ?_
  refine z_iload_n 1 dX6_makeGlad_0 rfl ?_
  refine z_if_lt (tgt := 17) dX6_makeGlad_1 (by decide) (fun c1 => ?_) (fun c1 => ?_)
  · replace h := ip c1 h
    obtain rfl := Option.some.inj h
    exact z_vret dX6_makeGlad_17 rfl
  · replace h := ig c1 h
    refine z_iload_n 1 dX6_makeGlad_4 rfl ?_
    refine z_bipush (v := 12) dX6_makeGlad_5 rfl ?_
    refine z_icmp_ge (tgt := 17) dX6_makeGlad_7 (by decide) (fun c2 => ?_) (fun c2 => ?_)
    · replace h := ip c2 h
      obtain rfl := Option.some.inj h
      exact z_vret dX6_makeGlad_17 rfl
    · replace h := ig c2 h
      refine z_aload_n 0 dX6_makeGlad_10 rfl ?_
      refine z_get (v := .ref (q0 + 1)) dX6_makeGlad_11 fl_6_15 hq0 rfl ?_
      refine z_iload_n 1 dX6_makeGlad_14 rfl ?_
      refine z_iload_n 2 dX6_makeGlad_15 rfl ?_
      obtain ⟨c3, h⟩ := oi h
      refine z_iast dX6_makeGlad_16 (kd_th hq0) (by decide) c3 ?_
      obtain rfl := Option.some.inj h
      exact z_vret dX6_makeGlad_17 rfl
set_option maxHeartbeats 2000000 in
set_option maxRecDepth 20000 in
theorem t_X3_makeGlad_L32 (l : Launch) {q0 : Nat} (hq0 : kd q0 = 3) : ∀ (n : Nat) (x1 : Int32) (x3 : Int32) (x4 : Int32) (x5 : Int32) (S : St) (k56 : St → Option (Int32 × St)) (r : (Int32 × St)), f_X3_makeGlad_L32 n q0 x1 x3 x4 x5 S k56 = some r → (∀ (T : St), k56 T = some r → Z l yX3_makeGlad M_X3_makeGlad 56 [] [] T (some (.int r.1)) r.2) → Z l yX3_makeGlad M_X3_makeGlad 32 [(0, .ref q0), (1, .int x1), (3, .int x3), (4, .int x4), (5, .int x5)] [] S (some (.int r.1)) r.2 := by
  intro n
  induction n with
  | zero =>
    intro x1 x3 x4 x5 S k56 r h hk56
    exact absurd h (by rw [f_X3_makeGlad_L32]; exact fun q => by cases q)
  | succ n ih =>
    intro x1 x3 x4 x5 S k56 r h hk56
    rw [f_X3_makeGlad_L32] at h
    refine z_iload 4 dX3_makeGlad_32 rfl ?_
    refine z_iload_n 2 dX3_makeGlad_34 rfl ?_
    refine z_icmp_gt (tgt := 56) dX3_makeGlad_35 (by decide) (fun c8 => ?_) (fun c8 => ?_)
    · replace h := ip c8 h
      refine z_sub (lv' := []) [] rfl ?_
      exact hk56 _ h
    · replace h := ig c8 h
      refine z_aload_n 0 dX3_makeGlad_38 rfl ?_
      refine z_iload_n 1 dX3_makeGlad_39 rfl ?_
      obtain ⟨v9, hv9, h⟩ := ob h
      refine z_callV (as := [.int x1]) dX3_makeGlad_40 ml_3_43 mv_X3_at (t_X3_at l hq0 hv9) hq0 ⟨by decide, rfl⟩ rfl rfl (Nat.le_of_ble_eq_true rfl) ⟨Nat.le_of_ble_eq_true rfl, Nat.le_of_ble_eq_true rfl⟩ rfl ?_
      refine z_iload 4 dX3_makeGlad_43 rfl ?_
      refine z_iload 3 dX3_makeGlad_45 rfl ?_
      obtain ⟨S10, hS10, h⟩ := ob h
      refine z_callV (as := [.int x5, .int x4]) dX3_makeGlad_47 ml_3_54 mv_X6_makeGlad (t_X6_makeGlad l (kd_at hq0 hv9) hS10) (kd_at hq0 hv9) ⟨by decide, rfl⟩ rfl rfl (Nat.le_of_ble_eq_true rfl) ⟨Nat.le_of_ble_eq_true rfl, Nat.le_of_ble_eq_true rfl⟩ rfl ?_
      refine z_iinc (lv' := [(0, .ref q0), (1, .int x1), (3, .int x3), (4, .int x4), (5, .int (x5 + 1))]) (v := x5 + 1) 4 [1, 2, 3, 4, 0] dX3_makeGlad_50 rfl rfl (Nat.le_of_ble_eq_true rfl) rfl ?_
      refine z_goto (tgt := 32) dX3_makeGlad_53 (by decide) ?_
      refine z_sub (lv' := [(0, .ref q0), (1, .int x1), (3, .int x3), (4, .int x4), (5, .int (x5 + 1))]) [0, 1, 2, 3, 4] rfl ?_
      exact ih _ _ _ _ _ _ _ h hk56
set_option maxHeartbeats 2000000 in
set_option maxRecDepth 20000 in
theorem t_X3_makeGlad (l : Launch) {S : St} {q0 : Nat} (hq0 : kd q0 = 3) {a1 : Int32} {a2 : Int32} {a3 : Int32} {a4 : Int32} {r : (Int32 × St)} (h : f_X3_makeGlad q0 a1 a2 a3 a4 S = some r) : CT l yX3_makeGlad M_X3_makeGlad [.ref q0, .int a1, .int a2, .int a3, .int a4] S (some (.int r.1)) r.2 := by
  rw [f_X3_makeGlad] at h
  refine ct_of (lv := [(0, .ref q0), (1, .int a1), (2, .int a2), (3, .int a3), (4, .int a4)]) (by decide) rfl (Nat.le_of_ble_eq_true rfl) ?_
  refine z_aload_n 0 dX3_makeGlad_0 rfl ?_
  refine z_iload_n 1 dX3_makeGlad_1 rfl ?_
  obtain ⟨v1, hv1, h⟩ := ob h
  refine z_callV (as := [.int a1]) dX3_makeGlad_2 ml_3_39 mv_X3_lacks (t_X3_lacks l hq0 hv1) hq0 ⟨by decide, rfl⟩ rfl rfl (Nat.le_of_ble_eq_true rfl) ⟨Nat.le_of_ble_eq_true rfl, Nat.le_of_ble_eq_true rfl⟩ rfl ?_
  refine z_if_ne (tgt := 27) dX3_makeGlad_5 (by decide) (fun c2 => ?_) (fun c2 => ?_)
  · replace h := ig c2 h
    refine z_iconst (v := 0) dX3_makeGlad_27 rfl ?_
    obtain rfl := Option.some.inj h
    exact z_iret dX3_makeGlad_28 rfl rfl
  · replace h := ip c2 h
    refine z_iload_n 2 dX3_makeGlad_8 rfl ?_
    obtain ⟨v3, hv3, h⟩ := ob h
    refine z_callS (as := [.int a2]) dX3_makeGlad_9 ml_3_51 ms_X7_noYear (t_X7_noYear l _ hv3) rfl rfl (Nat.le_of_ble_eq_true rfl) ⟨Nat.le_of_ble_eq_true rfl, Nat.le_of_ble_eq_true rfl⟩ rfl ?_
    refine z_if_ne (tgt := 27) dX3_makeGlad_12 (by decide) (fun c4 => ?_) (fun c4 => ?_)
    · replace h := ig c4 h
      refine z_iconst (v := 0) dX3_makeGlad_27 rfl ?_
      obtain rfl := Option.some.inj h
      exact z_iret dX3_makeGlad_28 rfl rfl
    · replace h := ip c4 h
      refine z_iload_n 3 dX3_makeGlad_15 rfl ?_
      obtain ⟨v5, hv5, h⟩ := ob h
      refine z_callS (as := [.int a3]) dX3_makeGlad_16 ml_3_51 ms_X7_noYear (t_X7_noYear l _ hv5) rfl rfl (Nat.le_of_ble_eq_true rfl) ⟨Nat.le_of_ble_eq_true rfl, Nat.le_of_ble_eq_true rfl⟩ rfl ?_
      refine z_if_ne (tgt := 27) dX3_makeGlad_19 (by decide) (fun c6 => ?_) (fun c6 => ?_)
      · replace h := ig c6 h
        refine z_iconst (v := 0) dX3_makeGlad_27 rfl ?_
        obtain rfl := Option.some.inj h
        exact z_iret dX3_makeGlad_28 rfl rfl
      · replace h := ip c6 h
        refine z_iload_n 2 dX3_makeGlad_22 rfl ?_
        refine z_iload_n 3 dX3_makeGlad_23 rfl ?_
        refine z_icmp_le (tgt := 29) dX3_makeGlad_24 (by decide) (fun c7 => ?_) (fun c7 => ?_)
        · replace h := ip c7 h
          refine z_iload_n 2 dX3_makeGlad_29 rfl ?_
          refine z_istore (lv' := [(0, .ref q0), (1, .int a1), (2, .int a2), (3, .int a3), (4, .int a4), (5, .int a2)]) [1, 2, 3, 4, 5, 0] dX3_makeGlad_30 (Nat.le_of_ble_eq_true rfl) rfl ?_
          refine z_sub (lv' := [(0, .ref q0), (1, .int a1), (3, .int a3), (4, .int a4), (5, .int a2)]) [0, 1, 3, 4, 5] rfl ?_
          refine t_X3_makeGlad_L32 l hq0 _ _ _ _ _ _ _ _ h ?_
          · intro S11 h
            refine z_iconst (v := 1) dX3_makeGlad_56 rfl ?_
            obtain rfl := Option.some.inj h
            exact z_iret dX3_makeGlad_57 rfl rfl
        · replace h := ig c7 h
          refine z_iconst (v := 0) dX3_makeGlad_27 rfl ?_
          obtain rfl := Option.some.inj h
          exact z_iret dX3_makeGlad_28 rfl rfl
set_option maxHeartbeats 2000000 in
set_option maxRecDepth 20000 in
theorem t_X3_moveTo (l : Launch) {S : St} {q0 : Nat} (hq0 : kd q0 = 3) {a1 : Int32} {r : (Int32 × St)} (h : f_X3_moveTo q0 a1 S = some r) : CT l yX3_moveTo M_X3_moveTo [.ref q0, .int a1] S (some (.int r.1)) r.2 := by
  rw [f_X3_moveTo] at h
  refine ct_of (lv := [(0, .ref q0), (1, .int a1)]) (by decide) rfl (Nat.le_of_ble_eq_true rfl) ?_
  refine z_iload_n 1 dX3_moveTo_0 rfl ?_
  obtain ⟨v1, hv1, h⟩ := ob h
  refine z_callS (as := [.int a1]) dX3_moveTo_1 ml_3_51 ms_X7_noYear (t_X7_noYear l _ hv1) rfl rfl (Nat.le_of_ble_eq_true rfl) ⟨Nat.le_of_ble_eq_true rfl, Nat.le_of_ble_eq_true rfl⟩ rfl ?_
  refine z_if_eq (tgt := 9) dX3_moveTo_4 (by decide) (fun c2 => ?_) (fun c2 => ?_)
  · replace h := ip c2 h
    refine z_aload_n 0 dX3_moveTo_9 rfl ?_
    refine z_iload_n 1 dX3_moveTo_10 rfl ?_
    refine z_put (fk := 1) dX3_moveTo_11 fl_3_32 fp_3_1 hq0 rfl rfl rfl (Nat.le_of_ble_eq_true rfl) ?_
    refine z_iconst (v := 1) dX3_moveTo_14 rfl ?_
    obtain rfl := Option.some.inj h
    exact z_iret dX3_moveTo_15 rfl rfl
  · replace h := ig c2 h
    refine z_iconst (v := 0) dX3_moveTo_7 rfl ?_
    obtain rfl := Option.some.inj h
    exact z_iret dX3_moveTo_8 rfl rfl
set_option maxHeartbeats 2000000 in
set_option maxRecDepth 20000 in
theorem t_X3_areHalves (l : Launch) {S : St} {q0 : Nat} (hq0 : kd q0 = 3) {a1 : Int32} {a2 : Int32} {r : Int32} (h : f_X3_areHalves q0 a1 a2 S = some r) : CT l yX3_areHalves M_X3_areHalves [.ref q0, .int a1, .int a2] S (some (.int r)) S := by
  rw [f_X3_areHalves] at h
  refine ct_of (lv := [(0, .ref q0), (1, .int a1), (2, .int a2)]) (by decide) rfl (Nat.le_of_ble_eq_true rfl) ?_
  refine z_aload_n 0 dX3_areHalves_0 rfl ?_
  refine z_iload_n 1 dX3_areHalves_1 rfl ?_
  refine z_iload_n 2 dX3_areHalves_2 rfl ?_
  obtain ⟨v1, hv1, h⟩ := ob h
  refine z_callV (as := [.int a1, .int a2]) dX3_areHalves_3 ml_3_57 mv_X3_lacksTwo (t_X3_lacksTwo l hq0 hv1) hq0 ⟨by decide, rfl⟩ rfl rfl (Nat.le_of_ble_eq_true rfl) ⟨Nat.le_of_ble_eq_true rfl, Nat.le_of_ble_eq_true rfl⟩ rfl ?_
  refine z_if_ne (tgt := 27) dX3_areHalves_6 (by decide) (fun c2 => ?_) (fun c2 => ?_)
  · replace h := ig c2 h
    refine z_iconst (v := 0) dX3_areHalves_27 rfl ?_
    obtain rfl := Option.some.inj h
    exact z_iret dX3_areHalves_28 rfl rfl
  · replace h := ip c2 h
    refine z_aload_n 0 dX3_areHalves_9 rfl ?_
    refine z_get (v := .ref (q0 + 2)) dX3_areHalves_10 fl_3_24 hq0 rfl ?_
    refine z_iload_n 1 dX3_areHalves_13 rfl ?_
    obtain ⟨c3, h⟩ := oi h
    refine z_iald dX3_areHalves_14 (kd_sh2 hq0) (by decide) c3 ?_
    refine z_iload_n 2 dX3_areHalves_15 rfl ?_
    refine z_ishr dX3_areHalves_16 ?_
    refine z_iconst (v := 1) dX3_areHalves_17 rfl ?_
    refine z_iand dX3_areHalves_18 ?_
    refine z_iconst (v := 1) dX3_areHalves_19 rfl ?_
    refine z_icmp_ne (tgt := 27) dX3_areHalves_20 (by decide) (fun c4 => ?_) (fun c4 => ?_)
    · replace h := ig c4 h
      refine z_iconst (v := 0) dX3_areHalves_27 rfl ?_
      obtain rfl := Option.some.inj h
      exact z_iret dX3_areHalves_28 rfl rfl
    · replace h := ip c4 h
      refine z_iconst (v := 1) dX3_areHalves_23 rfl ?_
      refine z_goto (tgt := 28) dX3_areHalves_24 (by decide) ?_
      obtain rfl := Option.some.inj h
      exact z_iret dX3_areHalves_28 rfl rfl
set_option maxHeartbeats 2000000 in
set_option maxRecDepth 20000 in
theorem t_X3_turnHalves (l : Launch) {S : St} {q0 : Nat} (hq0 : kd q0 = 3) {a1 : Int32} {a2 : Int32} {r : (Int32 × St)} (h : f_X3_turnHalves q0 a1 a2 S = some r) : CT l yX3_turnHalves M_X3_turnHalves [.ref q0, .int a1, .int a2] S (some (.int r.1)) r.2 := by
  rw [f_X3_turnHalves] at h
  refine ct_of (lv := [(0, .ref q0), (1, .int a1), (2, .int a2)]) (by decide) rfl (Nat.le_of_ble_eq_true rfl) ?_
  refine z_aload_n 0 dX3_turnHalves_0 rfl ?_
  refine z_iload_n 1 dX3_turnHalves_1 rfl ?_
  refine z_iload_n 2 dX3_turnHalves_2 rfl ?_
  obtain ⟨v1, hv1, h⟩ := ob h
  refine z_callV (as := [.int a1, .int a2]) dX3_turnHalves_3 ml_3_57 mv_X3_lacksTwo (t_X3_lacksTwo l hq0 hv1) hq0 ⟨by decide, rfl⟩ rfl rfl (Nat.le_of_ble_eq_true rfl) ⟨Nat.le_of_ble_eq_true rfl, Nat.le_of_ble_eq_true rfl⟩ rfl ?_
  refine z_if_eq (tgt := 11) dX3_turnHalves_6 (by decide) (fun c2 => ?_) (fun c2 => ?_)
  · replace h := ip c2 h
    refine z_aload_n 0 dX3_turnHalves_11 rfl ?_
    refine z_get (v := .ref (q0 + 2)) dX3_turnHalves_12 fl_3_24 hq0 rfl ?_
    refine z_iload_n 1 dX3_turnHalves_15 rfl ?_
    refine z_dup2 dX3_turnHalves_16 rfl rfl ?_
    obtain ⟨c3, h⟩ := oi h
    refine z_iald dX3_turnHalves_17 (kd_sh2 hq0) (by decide) c3 ?_
    refine z_iconst (v := 1) dX3_turnHalves_18 rfl ?_
    refine z_iload_n 2 dX3_turnHalves_19 rfl ?_
    refine z_ishl dX3_turnHalves_20 ?_
    refine z_ixor dX3_turnHalves_21 ?_
    obtain ⟨c4, h⟩ := oi h
    refine z_iast dX3_turnHalves_22 (kd_sh2 hq0) (by decide) c4 ?_
    refine z_aload_n 0 dX3_turnHalves_23 rfl ?_
    refine z_get (v := .ref (q0 + 2)) dX3_turnHalves_24 fl_3_24 hq0 rfl ?_
    refine z_iload_n 2 dX3_turnHalves_27 rfl ?_
    refine z_dup2 dX3_turnHalves_28 rfl rfl ?_
    obtain ⟨c5, h⟩ := oi h
    refine z_iald dX3_turnHalves_29 (kd_sh2 hq0) (by decide) c5 ?_
    refine z_iconst (v := 1) dX3_turnHalves_30 rfl ?_
    refine z_iload_n 1 dX3_turnHalves_31 rfl ?_
    refine z_ishl dX3_turnHalves_32 ?_
    refine z_ixor dX3_turnHalves_33 ?_
    obtain ⟨c6, h⟩ := oi h
    refine z_iast dX3_turnHalves_34 (kd_sh2 hq0) (by decide) c6 ?_
    refine z_iconst (v := 1) dX3_turnHalves_35 rfl ?_
    obtain rfl := Option.some.inj h
    exact z_iret dX3_turnHalves_36 rfl rfl
  · replace h := ig c2 h
    refine z_iconst (v := 0) dX3_turnHalves_9 rfl ?_
    obtain rfl := Option.some.inj h
    exact z_iret dX3_turnHalves_10 rfl rfl
set_option maxHeartbeats 2000000 in
set_option maxRecDepth 20000 in
theorem t_X3_glue (l : Launch) {S : St} {q0 : Nat} (hq0 : kd q0 = 3) {a1 : Int32} {a2 : Int32} {a3 : Int32} {r : (Int32 × St)} (h : f_X3_glue q0 a1 a2 a3 S = some r) : CT l yX3_glue M_X3_glue [.ref q0, .int a1, .int a2, .int a3] S (some (.int r.1)) r.2 := by
  rw [f_X3_glue] at h
  refine ct_of (lv := [(0, .ref q0), (1, .int a1), (2, .int a2), (3, .int a3)]) (by decide) rfl (Nat.le_of_ble_eq_true rfl) ?_
  refine z_aload_n 0 dX3_glue_0 rfl ?_
  refine z_iload_n 1 dX3_glue_1 rfl ?_
  obtain ⟨v1, hv1, h⟩ := ob h
  refine z_callV (as := [.int a1]) dX3_glue_2 ml_3_39 mv_X3_lacks (t_X3_lacks l hq0 hv1) hq0 ⟨by decide, rfl⟩ rfl rfl (Nat.le_of_ble_eq_true rfl) ⟨Nat.le_of_ble_eq_true rfl, Nat.le_of_ble_eq_true rfl⟩ rfl ?_
  refine z_if_ne (tgt := 34) dX3_glue_5 (by decide) (fun c2 => ?_) (fun c2 => ?_)
  · replace h := ig c2 h
    refine z_iconst (v := 0) dX3_glue_34 rfl ?_
    obtain rfl := Option.some.inj h
    exact z_iret dX3_glue_35 rfl rfl
  · replace h := ip c2 h
    refine z_aload_n 0 dX3_glue_8 rfl ?_
    refine z_iload_n 1 dX3_glue_9 rfl ?_
    obtain ⟨v3, hv3, h⟩ := ob h
    refine z_callV (as := [.int a1]) dX3_glue_10 ml_3_43 mv_X3_at (t_X3_at l hq0 hv3) hq0 ⟨by decide, rfl⟩ rfl rfl (Nat.le_of_ble_eq_true rfl) ⟨Nat.le_of_ble_eq_true rfl, Nat.le_of_ble_eq_true rfl⟩ rfl ?_
    obtain ⟨v4, hv4, h⟩ := ob h
    refine z_callV (as := []) dX3_glue_13 ml_3_61 mv_X6_isSet (t_X6_isSet l (kd_at hq0 hv3) hv4) (kd_at hq0 hv3) ⟨by decide, rfl⟩ rfl rfl (Nat.le_of_ble_eq_true rfl) ⟨Nat.le_of_ble_eq_true rfl, Nat.le_of_ble_eq_true rfl⟩ rfl ?_
    refine z_if_ne (tgt := 34) dX3_glue_16 (by decide) (fun c5 => ?_) (fun c5 => ?_)
    · replace h := ig c5 h
      refine z_iconst (v := 0) dX3_glue_34 rfl ?_
      obtain rfl := Option.some.inj h
      exact z_iret dX3_glue_35 rfl rfl
    · replace h := ip c5 h
      refine z_aload_n 0 dX3_glue_19 rfl ?_
      refine z_iload_n 1 dX3_glue_20 rfl ?_
      obtain ⟨v6, hv6, h⟩ := ob h
      refine z_callV (as := [.int a1]) dX3_glue_21 ml_3_43 mv_X3_at (t_X3_at l hq0 hv6) hq0 ⟨by decide, rfl⟩ rfl rfl (Nat.le_of_ble_eq_true rfl) ⟨Nat.le_of_ble_eq_true rfl, Nat.le_of_ble_eq_true rfl⟩ rfl ?_
      obtain ⟨v7, hv7, h⟩ := ob h
      refine z_callV (as := []) dX3_glue_24 ml_3_65 mv_X6_cost (t_X6_cost l (kd_at hq0 hv6) hv7) (kd_at hq0 hv6) ⟨by decide, rfl⟩ rfl rfl (Nat.le_of_ble_eq_true rfl) ⟨Nat.le_of_ble_eq_true rfl, Nat.le_of_ble_eq_true rfl⟩ rfl ?_
      refine z_aload_n 0 dX3_glue_27 rfl ?_
      refine z_get (v := .int (S.1 q0 2)) dX3_glue_28 fl_3_9 hq0 rfl ?_
      refine z_icmp_le (tgt := 36) dX3_glue_31 (by decide) (fun c8 => ?_) (fun c8 => ?_)
      · replace h := ip c8 h
        refine z_aload_n 0 dX3_glue_36 rfl ?_
        refine z_dup dX3_glue_37 rfl ?_
        refine z_get (v := .int (S.1 q0 2)) dX3_glue_38 fl_3_9 hq0 rfl ?_
        refine z_aload_n 0 dX3_glue_41 rfl ?_
        refine z_iload_n 1 dX3_glue_42 rfl ?_
        obtain ⟨v9, hv9, h⟩ := ob h
        refine z_callV (as := [.int a1]) dX3_glue_43 ml_3_43 mv_X3_at (t_X3_at l hq0 hv9) hq0 ⟨by decide, rfl⟩ rfl rfl (Nat.le_of_ble_eq_true rfl) ⟨Nat.le_of_ble_eq_true rfl, Nat.le_of_ble_eq_true rfl⟩ rfl ?_
        obtain ⟨v10, hv10, h⟩ := ob h
        refine z_callV (as := []) dX3_glue_46 ml_3_65 mv_X6_cost (t_X6_cost l (kd_at hq0 hv9) hv10) (kd_at hq0 hv9) ⟨by decide, rfl⟩ rfl rfl (Nat.le_of_ble_eq_true rfl) ⟨Nat.le_of_ble_eq_true rfl, Nat.le_of_ble_eq_true rfl⟩ rfl ?_
        refine z_isub dX3_glue_49 ?_
        refine z_put (fk := 2) dX3_glue_50 fl_3_9 fp_3_2 hq0 rfl rfl rfl (Nat.le_of_ble_eq_true rfl) ?_
        refine z_aload_n 0 dX3_glue_53 rfl ?_
        refine z_iload_n 1 dX3_glue_54 rfl ?_
        obtain ⟨v11, hv11, h⟩ := ob h
        refine z_callV (as := [.int a1]) dX3_glue_55 ml_3_43 mv_X3_at (t_X3_at l hq0 hv11) hq0 ⟨by decide, rfl⟩ rfl rfl (Nat.le_of_ble_eq_true rfl) ⟨Nat.le_of_ble_eq_true rfl, Nat.le_of_ble_eq_true rfl⟩ rfl ?_
        refine z_aload_n 0 dX3_glue_58 rfl ?_
        refine z_iload_n 1 dX3_glue_59 rfl ?_
        obtain ⟨v12, hv12, h⟩ := ob h
        refine z_callV (as := [.int a1]) dX3_glue_60 ml_3_43 mv_X3_at (t_X3_at l hq0 hv12) hq0 ⟨by decide, rfl⟩ rfl rfl (Nat.le_of_ble_eq_true rfl) ⟨Nat.le_of_ble_eq_true rfl, Nat.le_of_ble_eq_true rfl⟩ rfl ?_
        refine z_iload_n 2 dX3_glue_63 rfl ?_
        refine z_iload_n 3 dX3_glue_64 rfl ?_
        refine z_aload_n 0 dX3_glue_65 rfl ?_
        refine z_get (v := .int ((up S q0 2 ((S.1 q0 2) - v10)).1 q0 1)) dX3_glue_66 fl_3_32 hq0 rfl ?_
        obtain ⟨v13, hv13, h⟩ := ob h
        refine z_callV (as := [.int a2, .int a3, .int ((up S q0 2 ((S.1 q0 2) - v10)).1 q0 1)]) dX3_glue_69 ml_3_69 mv_X6_yearBy (t_X6_yearBy l (kd_at hq0 hv12) hv13) (kd_at hq0 hv12) ⟨by decide, rfl⟩ rfl rfl (Nat.le_of_ble_eq_true rfl) ⟨Nat.le_of_ble_eq_true rfl, Nat.le_of_ble_eq_true rfl⟩ rfl ?_
        refine z_put (fk := 2) dX3_glue_72 fl_3_73 fp_6_2 (kd_at hq0 hv11) rfl rfl rfl (Nat.le_of_ble_eq_true rfl) ?_
        refine z_iconst (v := 1) dX3_glue_75 rfl ?_
        obtain rfl := Option.some.inj h
        exact z_iret dX3_glue_76 rfl rfl
      · replace h := ig c8 h
        refine z_iconst (v := 0) dX3_glue_34 rfl ?_
        obtain rfl := Option.some.inj h
        exact z_iret dX3_glue_35 rfl rfl
set_option maxHeartbeats 2000000 in
set_option maxRecDepth 20000 in
theorem t_X3_countHalves_L16 (l : Launch) {q0 : Nat} (hq0 : kd q0 = 3) : ∀ (n : Nat) (x1 : Int32) (x2 : Int32) (x3 : Int32) (S : St) (k47 : Int32 → Option Int32) (r : Int32), f_X3_countHalves_L16 n q0 x1 x2 x3 S k47 = some r → (∀ (e1 : Int32), k47 e1 = some r → Z l yX3_countHalves M_X3_countHalves 47 [(0, .ref q0), (1, .int e1), (2, .int x2)] [] S (some (.int r)) S) → Z l yX3_countHalves M_X3_countHalves 16 [(0, .ref q0), (1, .int x1), (2, .int x2), (3, .int x3)] [] S (some (.int r)) S := by
  intro n
  induction n with
  | zero =>
    intro x1 x2 x3 S k47 r h hk47
    exact absurd h (by rw [f_X3_countHalves_L16]; exact fun q => by cases q)
  | succ n ih =>
    intro x1 x2 x3 S k47 r h hk47
    rw [f_X3_countHalves_L16] at h
    refine z_iload_n 3 dX3_countHalves_16 rfl ?_
    refine z_aload_n 0 dX3_countHalves_17 rfl ?_
    refine z_get (v := .int (S.1 q0 0)) dX3_countHalves_18 fl_3_29 hq0 rfl ?_
    refine z_icmp_ge (tgt := 47) dX3_countHalves_21 (by decide) (fun c2 => ?_) (fun c2 => ?_)
    · replace h := ip c2 h
      refine z_sub (lv' := [(0, .ref q0), (1, .int x1), (2, .int x2)]) [0, 1, 2] rfl ?_
      exact hk47 _ h
    · replace h := ig c2 h
      refine z_iload_n 1 dX3_countHalves_24 rfl ?_
      refine z_aload_n 0 dX3_countHalves_25 rfl ?_
      refine z_iload_n 2 dX3_countHalves_26 rfl ?_
      refine z_iload_n 3 dX3_countHalves_27 rfl ?_
      obtain ⟨v3, hv3, h⟩ := ob h
      refine z_callV (as := [.int x2, .int x3]) dX3_countHalves_28 ml_3_80 mv_X3_areHalves (t_X3_areHalves l hq0 hv3) hq0 ⟨by decide, rfl⟩ rfl rfl (Nat.le_of_ble_eq_true rfl) ⟨Nat.le_of_ble_eq_true rfl, Nat.le_of_ble_eq_true rfl⟩ rfl ?_
      refine z_if_eq (tgt := 38) dX3_countHalves_31 (by decide) (fun c4 => ?_) (fun c4 => ?_)
      · replace h := ip c4 h
        refine z_iconst (v := 0) dX3_countHalves_38 rfl ?_
        refine z_iadd dX3_countHalves_39 ?_
        refine z_istore_n (lv' := [(0, .ref q0), (1, .int (x1 + 0)), (2, .int x2), (3, .int x3)]) [1, 0, 2, 3] dX3_countHalves_40 (Nat.le_of_ble_eq_true rfl) rfl ?_
        refine z_iinc (lv' := [(0, .ref q0), (1, .int (x1 + 0)), (2, .int x2), (3, .int (x3 + 1))]) (v := x3 + 1) 3 [1, 2, 3, 0] dX3_countHalves_41 rfl rfl (Nat.le_of_ble_eq_true rfl) rfl ?_
        refine z_goto (tgt := 16) dX3_countHalves_44 (by decide) ?_
        refine z_sub (lv' := [(0, .ref q0), (1, .int (x1 + 0)), (2, .int x2), (3, .int (x3 + 1))]) [0, 1, 2, 3] rfl ?_
        exact ih _ _ _ _ _ _ h hk47
      · replace h := ig c4 h
        refine z_iconst (v := 1) dX3_countHalves_34 rfl ?_
        refine z_goto (tgt := 39) dX3_countHalves_35 (by decide) ?_
        refine z_iadd dX3_countHalves_39 ?_
        refine z_istore_n (lv' := [(0, .ref q0), (1, .int (x1 + 1)), (2, .int x2), (3, .int x3)]) [1, 0, 2, 3] dX3_countHalves_40 (Nat.le_of_ble_eq_true rfl) rfl ?_
        refine z_iinc (lv' := [(0, .ref q0), (1, .int (x1 + 1)), (2, .int x2), (3, .int (x3 + 1))]) (v := x3 + 1) 3 [1, 2, 3, 0] dX3_countHalves_41 rfl rfl (Nat.le_of_ble_eq_true rfl) rfl ?_
        refine z_goto (tgt := 16) dX3_countHalves_44 (by decide) ?_
        refine z_sub (lv' := [(0, .ref q0), (1, .int (x1 + 1)), (2, .int x2), (3, .int (x3 + 1))]) [0, 1, 2, 3] rfl ?_
        exact ih _ _ _ _ _ _ h hk47
set_option maxHeartbeats 2000000 in
set_option maxRecDepth 20000 in
theorem t_X3_countHalves_L4 (l : Launch) {q0 : Nat} (hq0 : kd q0 = 3) : ∀ (n : Nat) (x1 : Int32) (x2 : Int32) (S : St) (k53 : Int32 → Option Int32) (r : Int32), f_X3_countHalves_L4 n q0 x1 x2 S k53 = some r → (∀ (e1 : Int32), k53 e1 = some r → Z l yX3_countHalves M_X3_countHalves 53 [(1, .int e1)] [] S (some (.int r)) S) → Z l yX3_countHalves M_X3_countHalves 4 [(0, .ref q0), (1, .int x1), (2, .int x2)] [] S (some (.int r)) S := by
  intro n
  induction n with
  | zero =>
    intro x1 x2 S k53 r h hk53
    exact absurd h (by rw [f_X3_countHalves_L4]; exact fun q => by cases q)
  | succ n ih =>
    intro x1 x2 S k53 r h hk53
    rw [f_X3_countHalves_L4] at h
    refine z_iload_n 2 dX3_countHalves_4 rfl ?_
    refine z_aload_n 0 dX3_countHalves_5 rfl ?_
    refine z_get (v := .int (S.1 q0 0)) dX3_countHalves_6 fl_3_29 hq0 rfl ?_
    refine z_icmp_ge (tgt := 53) dX3_countHalves_9 (by decide) (fun c1 => ?_) (fun c1 => ?_)
    · replace h := ip c1 h
      refine z_sub (lv' := [(1, .int x1)]) [1] rfl ?_
      exact hk53 _ h
    · replace h := ig c1 h
      refine z_iload_n 2 dX3_countHalves_12 rfl ?_
      refine z_iconst (v := 1) dX3_countHalves_13 rfl ?_
      refine z_iadd dX3_countHalves_14 ?_
      refine z_istore_n (lv' := [(0, .ref q0), (1, .int x1), (2, .int x2), (3, .int (x2 + 1))]) [1, 2, 3, 0] dX3_countHalves_15 (Nat.le_of_ble_eq_true rfl) rfl ?_
      refine z_sub (lv' := [(0, .ref q0), (1, .int x1), (2, .int x2), (3, .int (x2 + 1))]) [0, 1, 2, 3] rfl ?_
      refine t_X3_countHalves_L16 l hq0 _ _ _ _ _ _ _ h ?_
      · intro y5 h
        refine z_iinc (lv' := [(0, .ref q0), (1, .int y5), (2, .int (x2 + 1))]) (v := x2 + 1) 2 [1, 2, 0] dX3_countHalves_47 rfl rfl (Nat.le_of_ble_eq_true rfl) rfl ?_
        refine z_goto (tgt := 4) dX3_countHalves_50 (by decide) ?_
        refine z_sub (lv' := [(0, .ref q0), (1, .int y5), (2, .int (x2 + 1))]) [0, 1, 2] rfl ?_
        exact ih _ _ _ _ _ h hk53
set_option maxHeartbeats 2000000 in
set_option maxRecDepth 20000 in
theorem t_X3_countHalves (l : Launch) {S : St} {q0 : Nat} (hq0 : kd q0 = 3)  {r : Int32} (h : f_X3_countHalves q0 S = some r) : CT l yX3_countHalves M_X3_countHalves [.ref q0] S (some (.int r)) S := by
  rw [f_X3_countHalves] at h
  refine ct_of (lv := [(0, .ref q0)]) (by decide) rfl (Nat.le_of_ble_eq_true rfl) ?_
  refine z_iconst (v := 0) dX3_countHalves_0 rfl ?_
  refine z_istore_n (lv' := [(0, .ref q0), (1, .int 0)]) [1, 0] dX3_countHalves_1 (Nat.le_of_ble_eq_true rfl) rfl ?_
  refine z_iconst (v := 0) dX3_countHalves_2 rfl ?_
  refine z_istore_n (lv' := [(0, .ref q0), (1, .int 0), (2, .int 0)]) [1, 2, 0] dX3_countHalves_3 (Nat.le_of_ble_eq_true rfl) rfl ?_
  refine z_sub (lv' := [(0, .ref q0), (1, .int 0), (2, .int 0)]) [0, 1, 2] rfl ?_
  refine t_X3_countHalves_L4 l hq0 _ _ _ _ _ _ h ?_
  · intro y6 h
    refine z_iload_n 0 dX3_countHalves_53 rfl ?_
    obtain rfl := Option.some.inj h
    exact z_iret dX3_countHalves_54 rfl rfl
set_option maxHeartbeats 2000000 in
set_option maxRecDepth 20000 in
theorem t_X3_setInOneYear (l : Launch) {S : St} {q0 : Nat} (hq0 : kd q0 = 3) {a1 : Int32} {a2 : Int32} {r : Int32} (h : f_X3_setInOneYear q0 a1 a2 S = some r) : CT l yX3_setInOneYear M_X3_setInOneYear [.ref q0, .int a1, .int a2] S (some (.int r)) S := by
  rw [f_X3_setInOneYear] at h
  refine ct_of (lv := [(0, .ref q0), (1, .int a1), (2, .int a2)]) (by decide) rfl (Nat.le_of_ble_eq_true rfl) ?_
  refine z_aload_n 0 dX3_setInOneYear_0 rfl ?_
  refine z_iload_n 1 dX3_setInOneYear_1 rfl ?_
  obtain ⟨v1, hv1, h⟩ := ob h
  refine z_callV (as := [.int a1]) dX3_setInOneYear_2 ml_3_43 mv_X3_at (t_X3_at l hq0 hv1) hq0 ⟨by decide, rfl⟩ rfl rfl (Nat.le_of_ble_eq_true rfl) ⟨Nat.le_of_ble_eq_true rfl, Nat.le_of_ble_eq_true rfl⟩ rfl ?_
  obtain ⟨v2, hv2, h⟩ := ob h
  refine z_callV (as := []) dX3_setInOneYear_5 ml_3_61 mv_X6_isSet (t_X6_isSet l (kd_at hq0 hv1) hv2) (kd_at hq0 hv1) ⟨by decide, rfl⟩ rfl rfl (Nat.le_of_ble_eq_true rfl) ⟨Nat.le_of_ble_eq_true rfl, Nat.le_of_ble_eq_true rfl⟩ rfl ?_
  refine z_if_eq (tgt := 34) dX3_setInOneYear_8 (by decide) (fun c3 => ?_) (fun c3 => ?_)
  · replace h := ip c3 h
    refine z_iconst (v := 0) dX3_setInOneYear_34 rfl ?_
    obtain rfl := Option.some.inj h
    exact z_iret dX3_setInOneYear_35 rfl rfl
  · replace h := ig c3 h
    refine z_aload_n 0 dX3_setInOneYear_11 rfl ?_
    refine z_iload_n 1 dX3_setInOneYear_12 rfl ?_
    obtain ⟨v4, hv4, h⟩ := ob h
    refine z_callV (as := [.int a1]) dX3_setInOneYear_13 ml_3_43 mv_X3_at (t_X3_at l hq0 hv4) hq0 ⟨by decide, rfl⟩ rfl rfl (Nat.le_of_ble_eq_true rfl) ⟨Nat.le_of_ble_eq_true rfl, Nat.le_of_ble_eq_true rfl⟩ rfl ?_
    refine z_get (v := .int (S.1 v4 2)) dX3_setInOneYear_16 fl_3_73 (kd_at hq0 hv4) rfl ?_
    refine z_aload_n 0 dX3_setInOneYear_19 rfl ?_
    refine z_iload_n 2 dX3_setInOneYear_20 rfl ?_
    obtain ⟨v5, hv5, h⟩ := ob h
    refine z_callV (as := [.int a2]) dX3_setInOneYear_21 ml_3_43 mv_X3_at (t_X3_at l hq0 hv5) hq0 ⟨by decide, rfl⟩ rfl rfl (Nat.le_of_ble_eq_true rfl) ⟨Nat.le_of_ble_eq_true rfl, Nat.le_of_ble_eq_true rfl⟩ rfl ?_
    refine z_get (v := .int (S.1 v5 2)) dX3_setInOneYear_24 fl_3_73 (kd_at hq0 hv5) rfl ?_
    refine z_icmp_ne (tgt := 34) dX3_setInOneYear_27 (by decide) (fun c6 => ?_) (fun c6 => ?_)
    · replace h := ig c6 h
      refine z_iconst (v := 0) dX3_setInOneYear_34 rfl ?_
      obtain rfl := Option.some.inj h
      exact z_iret dX3_setInOneYear_35 rfl rfl
    · replace h := ip c6 h
      refine z_iconst (v := 1) dX3_setInOneYear_30 rfl ?_
      refine z_goto (tgt := 35) dX3_setInOneYear_31 (by decide) ?_
      obtain rfl := Option.some.inj h
      exact z_iret dX3_setInOneYear_35 rfl rfl
set_option maxHeartbeats 2000000 in
set_option maxRecDepth 20000 in
theorem t_X3_countAgreeing_L16 (l : Launch) {q0 : Nat} (hq0 : kd q0 = 3) : ∀ (n : Nat) (x1 : Int32) (x2 : Int32) (x3 : Int32) (S : St) (k56 : Int32 → Option Int32) (r : Int32), f_X3_countAgreeing_L16 n q0 x1 x2 x3 S k56 = some r → (∀ (e1 : Int32), k56 e1 = some r → Z l yX3_countAgreeing M_X3_countAgreeing 56 [(0, .ref q0), (1, .int e1), (2, .int x2)] [] S (some (.int r)) S) → Z l yX3_countAgreeing M_X3_countAgreeing 16 [(0, .ref q0), (1, .int x1), (2, .int x2), (3, .int x3)] [] S (some (.int r)) S := by
  intro n
  induction n with
  | zero =>
    intro x1 x2 x3 S k56 r h hk56
    exact absurd h (by rw [f_X3_countAgreeing_L16]; exact fun q => by cases q)
  | succ n ih =>
    intro x1 x2 x3 S k56 r h hk56
    rw [f_X3_countAgreeing_L16] at h
    refine z_iload_n 3 dX3_countAgreeing_16 rfl ?_
    refine z_aload_n 0 dX3_countAgreeing_17 rfl ?_
    refine z_get (v := .int (S.1 q0 0)) dX3_countAgreeing_18 fl_3_29 hq0 rfl ?_
    refine z_icmp_ge (tgt := 56) dX3_countAgreeing_21 (by decide) (fun c2 => ?_) (fun c2 => ?_)
    · replace h := ip c2 h
      refine z_sub (lv' := [(0, .ref q0), (1, .int x1), (2, .int x2)]) [0, 1, 2] rfl ?_
      exact hk56 _ h
    · replace h := ig c2 h
      refine z_iload_n 1 dX3_countAgreeing_24 rfl ?_
      refine z_aload_n 0 dX3_countAgreeing_25 rfl ?_
      refine z_iload_n 2 dX3_countAgreeing_26 rfl ?_
      refine z_iload_n 3 dX3_countAgreeing_27 rfl ?_
      obtain ⟨v3, hv3, h⟩ := ob h
      refine z_callV (as := [.int x2, .int x3]) dX3_countAgreeing_28 ml_3_80 mv_X3_areHalves (t_X3_areHalves l hq0 hv3) hq0 ⟨by decide, rfl⟩ rfl rfl (Nat.le_of_ble_eq_true rfl) ⟨Nat.le_of_ble_eq_true rfl, Nat.le_of_ble_eq_true rfl⟩ rfl ?_
      refine z_if_eq (tgt := 47) dX3_countAgreeing_31 (by decide) (fun c4 => ?_) (fun c4 => ?_)
      · replace h := ip c4 h
        refine z_iconst (v := 0) dX3_countAgreeing_47 rfl ?_
        refine z_iadd dX3_countAgreeing_48 ?_
        refine z_istore_n (lv' := [(0, .ref q0), (1, .int (x1 + 0)), (2, .int x2), (3, .int x3)]) [1, 0, 2, 3] dX3_countAgreeing_49 (Nat.le_of_ble_eq_true rfl) rfl ?_
        refine z_iinc (lv' := [(0, .ref q0), (1, .int (x1 + 0)), (2, .int x2), (3, .int (x3 + 1))]) (v := x3 + 1) 3 [1, 2, 3, 0] dX3_countAgreeing_50 rfl rfl (Nat.le_of_ble_eq_true rfl) rfl ?_
        refine z_goto (tgt := 16) dX3_countAgreeing_53 (by decide) ?_
        refine z_sub (lv' := [(0, .ref q0), (1, .int (x1 + 0)), (2, .int x2), (3, .int (x3 + 1))]) [0, 1, 2, 3] rfl ?_
        exact ih _ _ _ _ _ _ h hk56
      · replace h := ig c4 h
        refine z_aload_n 0 dX3_countAgreeing_34 rfl ?_
        refine z_iload_n 2 dX3_countAgreeing_35 rfl ?_
        refine z_iload_n 3 dX3_countAgreeing_36 rfl ?_
        obtain ⟨v5, hv5, h⟩ := ob h
        refine z_callV (as := [.int x2, .int x3]) dX3_countAgreeing_37 ml_3_83 mv_X3_setInOneYear (t_X3_setInOneYear l hq0 hv5) hq0 ⟨by decide, rfl⟩ rfl rfl (Nat.le_of_ble_eq_true rfl) ⟨Nat.le_of_ble_eq_true rfl, Nat.le_of_ble_eq_true rfl⟩ rfl ?_
        refine z_if_eq (tgt := 47) dX3_countAgreeing_40 (by decide) (fun c6 => ?_) (fun c6 => ?_)
        · replace h := ip c6 h
          refine z_iconst (v := 0) dX3_countAgreeing_47 rfl ?_
          refine z_iadd dX3_countAgreeing_48 ?_
          refine z_istore_n (lv' := [(0, .ref q0), (1, .int (x1 + 0)), (2, .int x2), (3, .int x3)]) [1, 0, 2, 3] dX3_countAgreeing_49 (Nat.le_of_ble_eq_true rfl) rfl ?_
          refine z_iinc (lv' := [(0, .ref q0), (1, .int (x1 + 0)), (2, .int x2), (3, .int (x3 + 1))]) (v := x3 + 1) 3 [1, 2, 3, 0] dX3_countAgreeing_50 rfl rfl (Nat.le_of_ble_eq_true rfl) rfl ?_
          refine z_goto (tgt := 16) dX3_countAgreeing_53 (by decide) ?_
          refine z_sub (lv' := [(0, .ref q0), (1, .int (x1 + 0)), (2, .int x2), (3, .int (x3 + 1))]) [0, 1, 2, 3] rfl ?_
          exact ih _ _ _ _ _ _ h hk56
        · replace h := ig c6 h
          refine z_iconst (v := 1) dX3_countAgreeing_43 rfl ?_
          refine z_goto (tgt := 48) dX3_countAgreeing_44 (by decide) ?_
          refine z_iadd dX3_countAgreeing_48 ?_
          refine z_istore_n (lv' := [(0, .ref q0), (1, .int (x1 + 1)), (2, .int x2), (3, .int x3)]) [1, 0, 2, 3] dX3_countAgreeing_49 (Nat.le_of_ble_eq_true rfl) rfl ?_
          refine z_iinc (lv' := [(0, .ref q0), (1, .int (x1 + 1)), (2, .int x2), (3, .int (x3 + 1))]) (v := x3 + 1) 3 [1, 2, 3, 0] dX3_countAgreeing_50 rfl rfl (Nat.le_of_ble_eq_true rfl) rfl ?_
          refine z_goto (tgt := 16) dX3_countAgreeing_53 (by decide) ?_
          refine z_sub (lv' := [(0, .ref q0), (1, .int (x1 + 1)), (2, .int x2), (3, .int (x3 + 1))]) [0, 1, 2, 3] rfl ?_
          exact ih _ _ _ _ _ _ h hk56
set_option maxHeartbeats 2000000 in
set_option maxRecDepth 20000 in
theorem t_X3_countAgreeing_L4 (l : Launch) {q0 : Nat} (hq0 : kd q0 = 3) : ∀ (n : Nat) (x1 : Int32) (x2 : Int32) (S : St) (k62 : Int32 → Option Int32) (r : Int32), f_X3_countAgreeing_L4 n q0 x1 x2 S k62 = some r → (∀ (e1 : Int32), k62 e1 = some r → Z l yX3_countAgreeing M_X3_countAgreeing 62 [(1, .int e1)] [] S (some (.int r)) S) → Z l yX3_countAgreeing M_X3_countAgreeing 4 [(0, .ref q0), (1, .int x1), (2, .int x2)] [] S (some (.int r)) S := by
  intro n
  induction n with
  | zero =>
    intro x1 x2 S k62 r h hk62
    exact absurd h (by rw [f_X3_countAgreeing_L4]; exact fun q => by cases q)
  | succ n ih =>
    intro x1 x2 S k62 r h hk62
    rw [f_X3_countAgreeing_L4] at h
    refine z_iload_n 2 dX3_countAgreeing_4 rfl ?_
    refine z_aload_n 0 dX3_countAgreeing_5 rfl ?_
    refine z_get (v := .int (S.1 q0 0)) dX3_countAgreeing_6 fl_3_29 hq0 rfl ?_
    refine z_icmp_ge (tgt := 62) dX3_countAgreeing_9 (by decide) (fun c1 => ?_) (fun c1 => ?_)
    · replace h := ip c1 h
      refine z_sub (lv' := [(1, .int x1)]) [1] rfl ?_
      exact hk62 _ h
    · replace h := ig c1 h
      refine z_iload_n 2 dX3_countAgreeing_12 rfl ?_
      refine z_iconst (v := 1) dX3_countAgreeing_13 rfl ?_
      refine z_iadd dX3_countAgreeing_14 ?_
      refine z_istore_n (lv' := [(0, .ref q0), (1, .int x1), (2, .int x2), (3, .int (x2 + 1))]) [1, 2, 3, 0] dX3_countAgreeing_15 (Nat.le_of_ble_eq_true rfl) rfl ?_
      refine z_sub (lv' := [(0, .ref q0), (1, .int x1), (2, .int x2), (3, .int (x2 + 1))]) [0, 1, 2, 3] rfl ?_
      refine t_X3_countAgreeing_L16 l hq0 _ _ _ _ _ _ _ h ?_
      · intro y7 h
        refine z_iinc (lv' := [(0, .ref q0), (1, .int y7), (2, .int (x2 + 1))]) (v := x2 + 1) 2 [1, 2, 0] dX3_countAgreeing_56 rfl rfl (Nat.le_of_ble_eq_true rfl) rfl ?_
        refine z_goto (tgt := 4) dX3_countAgreeing_59 (by decide) ?_
        refine z_sub (lv' := [(0, .ref q0), (1, .int y7), (2, .int (x2 + 1))]) [0, 1, 2] rfl ?_
        exact ih _ _ _ _ _ h hk62
set_option maxHeartbeats 2000000 in
set_option maxRecDepth 20000 in
theorem t_X3_countAgreeing (l : Launch) {S : St} {q0 : Nat} (hq0 : kd q0 = 3)  {r : Int32} (h : f_X3_countAgreeing q0 S = some r) : CT l yX3_countAgreeing M_X3_countAgreeing [.ref q0] S (some (.int r)) S := by
  rw [f_X3_countAgreeing] at h
  refine ct_of (lv := [(0, .ref q0)]) (by decide) rfl (Nat.le_of_ble_eq_true rfl) ?_
  refine z_iconst (v := 0) dX3_countAgreeing_0 rfl ?_
  refine z_istore_n (lv' := [(0, .ref q0), (1, .int 0)]) [1, 0] dX3_countAgreeing_1 (Nat.le_of_ble_eq_true rfl) rfl ?_
  refine z_iconst (v := 0) dX3_countAgreeing_2 rfl ?_
  refine z_istore_n (lv' := [(0, .ref q0), (1, .int 0), (2, .int 0)]) [1, 2, 0] dX3_countAgreeing_3 (Nat.le_of_ble_eq_true rfl) rfl ?_
  refine z_sub (lv' := [(0, .ref q0), (1, .int 0), (2, .int 0)]) [0, 1, 2] rfl ?_
  refine t_X3_countAgreeing_L4 l hq0 _ _ _ _ _ _ h ?_
  · intro y8 h
    refine z_iload_n 0 dX3_countAgreeing_62 rfl ?_
    obtain rfl := Option.some.inj h
    exact z_iret dX3_countAgreeing_63 rfl rfl
set_option maxHeartbeats 2000000 in
set_option maxRecDepth 20000 in
theorem t_X3_firstApart_L14 (l : Launch) {q0 : Nat} (hq0 : kd q0 = 3) : ∀ (n : Nat) (x1 : Int32) (x2 : Int32) (S : St) (k40 : Int32 → Option Int32) (k53 : Unit → Option Int32) (r : Int32), f_X3_firstApart_L14 n q0 x1 x2 S k40 k53 = some r → (∀ (e2 : Int32), k40 e2 = some r → Z l yX3_firstApart M_X3_firstApart 40 [(1, .int x1), (2, .int e2)] [] S (some (.int r)) S) → (k53 () = some r → Z l yX3_firstApart M_X3_firstApart 53 [(0, .ref q0), (1, .int x1)] [] S (some (.int r)) S) → Z l yX3_firstApart M_X3_firstApart 14 [(0, .ref q0), (1, .int x1), (2, .int x2)] [] S (some (.int r)) S := by
  intro n
  induction n with
  | zero =>
    intro x1 x2 S k40 k53 r h hk40 hk53
    exact absurd h (by rw [f_X3_firstApart_L14]; exact fun q => by cases q)
  | succ n ih =>
    intro x1 x2 S k40 k53 r h hk40 hk53
    rw [f_X3_firstApart_L14] at h
    refine z_iload_n 2 dX3_firstApart_14 rfl ?_
    refine z_aload_n 0 dX3_firstApart_15 rfl ?_
    refine z_get (v := .int (S.1 q0 0)) dX3_firstApart_16 fl_3_29 hq0 rfl ?_
    refine z_icmp_ge (tgt := 53) dX3_firstApart_19 (by decide) (fun c2 => ?_) (fun c2 => ?_)
    · replace h := ip c2 h
      refine z_sub (lv' := [(0, .ref q0), (1, .int x1)]) [0, 1] rfl ?_
      exact hk53  h
    · replace h := ig c2 h
      refine z_aload_n 0 dX3_firstApart_22 rfl ?_
      refine z_iload_n 1 dX3_firstApart_23 rfl ?_
      refine z_iload_n 2 dX3_firstApart_24 rfl ?_
      obtain ⟨v3, hv3, h⟩ := ob h
      refine z_callV (as := [.int x1, .int x2]) dX3_firstApart_25 ml_3_80 mv_X3_areHalves (t_X3_areHalves l hq0 hv3) hq0 ⟨by decide, rfl⟩ rfl rfl (Nat.le_of_ble_eq_true rfl) ⟨Nat.le_of_ble_eq_true rfl, Nat.le_of_ble_eq_true rfl⟩ rfl ?_
      refine z_if_eq (tgt := 47) dX3_firstApart_28 (by decide) (fun c4 => ?_) (fun c4 => ?_)
      · replace h := ip c4 h
        refine z_iinc (lv' := [(0, .ref q0), (1, .int x1), (2, .int (x2 + 1))]) (v := x2 + 1) 2 [1, 2, 0] dX3_firstApart_47 rfl rfl (Nat.le_of_ble_eq_true rfl) rfl ?_
        refine z_goto (tgt := 14) dX3_firstApart_50 (by decide) ?_
        refine z_sub (lv' := [(0, .ref q0), (1, .int x1), (2, .int (x2 + 1))]) [0, 1, 2] rfl ?_
        exact ih _ _ _ _ _ _ h hk40 hk53
      · replace h := ig c4 h
        refine z_aload_n 0 dX3_firstApart_31 rfl ?_
        refine z_iload_n 1 dX3_firstApart_32 rfl ?_
        refine z_iload_n 2 dX3_firstApart_33 rfl ?_
        obtain ⟨v5, hv5, h⟩ := ob h
        refine z_callV (as := [.int x1, .int x2]) dX3_firstApart_34 ml_3_83 mv_X3_setInOneYear (t_X3_setInOneYear l hq0 hv5) hq0 ⟨by decide, rfl⟩ rfl rfl (Nat.le_of_ble_eq_true rfl) ⟨Nat.le_of_ble_eq_true rfl, Nat.le_of_ble_eq_true rfl⟩ rfl ?_
        refine z_if_ne (tgt := 47) dX3_firstApart_37 (by decide) (fun c6 => ?_) (fun c6 => ?_)
        · replace h := ig c6 h
          refine z_iinc (lv' := [(0, .ref q0), (1, .int x1), (2, .int (x2 + 1))]) (v := x2 + 1) 2 [1, 2, 0] dX3_firstApart_47 rfl rfl (Nat.le_of_ble_eq_true rfl) rfl ?_
          refine z_goto (tgt := 14) dX3_firstApart_50 (by decide) ?_
          refine z_sub (lv' := [(0, .ref q0), (1, .int x1), (2, .int (x2 + 1))]) [0, 1, 2] rfl ?_
          exact ih _ _ _ _ _ _ h hk40 hk53
        · replace h := ip c6 h
          refine z_sub (lv' := [(1, .int x1), (2, .int x2)]) [1, 2] rfl ?_
          exact hk40 _ h
set_option maxHeartbeats 2000000 in
set_option maxRecDepth 20000 in
theorem t_X3_firstApart_L2 (l : Launch) {q0 : Nat} (hq0 : kd q0 = 3) : ∀ (n : Nat) (x1 : Int32) (S : St) (k40 : Int32 → Int32 → Option Int32) (k59 : Unit → Option Int32) (r : Int32), f_X3_firstApart_L2 n q0 x1 S k40 k59 = some r → (∀ (e1 : Int32) (e2 : Int32), k40 e1 e2 = some r → Z l yX3_firstApart M_X3_firstApart 40 [(1, .int e1), (2, .int e2)] [] S (some (.int r)) S) → (k59 () = some r → Z l yX3_firstApart M_X3_firstApart 59 [] [] S (some (.int r)) S) → Z l yX3_firstApart M_X3_firstApart 2 [(0, .ref q0), (1, .int x1)] [] S (some (.int r)) S := by
  intro n
  induction n with
  | zero =>
    intro x1 S k40 k59 r h hk40 hk59
    exact absurd h (by rw [f_X3_firstApart_L2]; exact fun q => by cases q)
  | succ n ih =>
    intro x1 S k40 k59 r h hk40 hk59
    rw [f_X3_firstApart_L2] at h
    refine z_iload_n 1 dX3_firstApart_2 rfl ?_
    refine z_aload_n 0 dX3_firstApart_3 rfl ?_
    refine z_get (v := .int (S.1 q0 0)) dX3_firstApart_4 fl_3_29 hq0 rfl ?_
    refine z_icmp_ge (tgt := 59) dX3_firstApart_7 (by decide) (fun c1 => ?_) (fun c1 => ?_)
    · replace h := ip c1 h
      refine z_sub (lv' := []) [] rfl ?_
      exact hk59  h
    · replace h := ig c1 h
      refine z_iload_n 1 dX3_firstApart_10 rfl ?_
      refine z_iconst (v := 1) dX3_firstApart_11 rfl ?_
      refine z_iadd dX3_firstApart_12 ?_
      refine z_istore_n (lv' := [(0, .ref q0), (1, .int x1), (2, .int (x1 + 1))]) [1, 2, 0] dX3_firstApart_13 (Nat.le_of_ble_eq_true rfl) rfl ?_
      refine z_sub (lv' := [(0, .ref q0), (1, .int x1), (2, .int (x1 + 1))]) [0, 1, 2] rfl ?_
      refine t_X3_firstApart_L14 l hq0 _ _ _ _ _ _ _ h ?_ ?_
      · intro y7 h
        refine z_sub (lv' := [(1, .int x1), (2, .int y7)]) [0, 1] rfl ?_
        exact hk40 _ _ h
      · intro h
        refine z_iinc (lv' := [(0, .ref q0), (1, .int (x1 + 1))]) (v := x1 + 1) 1 [1, 0] dX3_firstApart_53 rfl rfl (Nat.le_of_ble_eq_true rfl) rfl ?_
        refine z_goto (tgt := 2) dX3_firstApart_56 (by decide) ?_
        refine z_sub (lv' := [(0, .ref q0), (1, .int (x1 + 1))]) [0, 1] rfl ?_
        exact ih _ _ _ _ _ h hk40 hk59
set_option maxHeartbeats 2000000 in
set_option maxRecDepth 20000 in
theorem t_X3_firstApart (l : Launch) {S : St} {q0 : Nat} (hq0 : kd q0 = 3)  {r : Int32} (h : f_X3_firstApart q0 S = some r) : CT l yX3_firstApart M_X3_firstApart [.ref q0] S (some (.int r)) S := by
  rw [f_X3_firstApart] at h
  refine ct_of (lv := [(0, .ref q0)]) (by decide) rfl (Nat.le_of_ble_eq_true rfl) ?_
  refine z_iconst (v := 0) dX3_firstApart_0 rfl ?_
  refine z_istore_n (lv' := [(0, .ref q0), (1, .int 0)]) [1, 0] dX3_firstApart_1 (Nat.le_of_ble_eq_true rfl) rfl ?_
  refine z_sub (lv' := [(0, .ref q0), (1, .int 0)]) [0, 1] rfl ?_
  refine t_X3_firstApart_L2 l hq0 _ _ _ _ _ _ h ?_ ?_
  · intro y8 y9 h
    refine z_bipush (v := 10) dX3_firstApart_40 rfl ?_
    refine z_iload_n 0 dX3_firstApart_42 rfl ?_
    refine z_imul dX3_firstApart_43 ?_
    refine z_iload_n 1 dX3_firstApart_44 rfl ?_
    refine z_iadd dX3_firstApart_45 ?_
    obtain rfl := Option.some.inj h
    exact z_iret dX3_firstApart_46 rfl rfl
  · intro h
    refine z_bipush (v := (-9)) dX3_firstApart_59 rfl ?_
    obtain rfl := Option.some.inj h
    exact z_iret dX3_firstApart_61 rfl rfl
set_option maxHeartbeats 2000000 in
set_option maxRecDepth 20000 in
theorem t_X4_weigh_L2 (l : Launch)   : ∀ (n : Nat) (x1 : Int32) (x2 : Int32) (x3 : Int32) (S : St) (k21 : St → Option St) (r : St), f_X4_weigh_L2 n x1 x2 x3 S k21 = some r → (∀ (T : St), k21 T = some r → Z l yX4_weigh M_X4_weigh 21 [(0, .ref 70), (1, .int x1), (2, .int x2)] [] T none r) → Z l yX4_weigh M_X4_weigh 2 [(0, .ref 70), (1, .int x1), (2, .int x2), (3, .int x3)] [] S none r := by
  intro n
  induction n with
  | zero =>
    intro x1 x2 x3 S k21 r h hk21
    exact absurd h (by rw [f_X4_weigh_L2]; exact fun q => by cases q)
  | succ n ih =>
    intro x1 x2 x3 S k21 r h hk21
    rw [f_X4_weigh_L2] at h
    refine z_iload_n 3 dX4_weigh_2 rfl ?_
    refine z_bipush (v := 8) dX4_weigh_3 rfl ?_
    refine z_icmp_gt (tgt := 21) dX4_weigh_5 (by decide) (fun c1 => ?_) (fun c1 => ?_)
    · replace h := ip c1 h
      refine z_sub (lv' := [(0, .ref 70), (1, .int x1), (2, .int x2)]) [0, 1, 2] rfl ?_
      exact hk21 _ h
    · replace h := ig c1 h
      refine z_aload_n 0 dX4_weigh_8 rfl ?_
      refine z_get (v := .ref 71) dX4_weigh_9 fl_4_9 kdl_70 rfl ?_
      refine z_iload_n 3 dX4_weigh_12 rfl ?_
      refine z_lconst (v := 0) dX4_weigh_13 rfl ?_
      obtain ⟨c2, h⟩ := oi h
      refine z_last dX4_weigh_14 kdl_71 c2 ?_
      refine z_iinc (lv' := [(0, .ref 70), (1, .int x1), (2, .int x2), (3, .int (x3 + 1))]) (v := x3 + 1) 3 [1, 2, 3, 0] dX4_weigh_15 rfl rfl (Nat.le_of_ble_eq_true rfl) rfl ?_
      refine z_goto (tgt := 2) dX4_weigh_18 (by decide) ?_
      refine z_sub (lv' := [(0, .ref 70), (1, .int x1), (2, .int x2), (3, .int (x3 + 1))]) [0, 1, 2, 3] rfl ?_
      exact ih _ _ _ _ _ _ h hk21
set_option maxHeartbeats 2000000 in
set_option maxRecDepth 20000 in
theorem t_X4_weigh_L39 (l : Launch)   : ∀ (n : Nat) (x1 : Int32) (x2 : Int32) (x3 : Int32) (x4 : Int32) (S : St) (k74 : St → Option St) (r : St), f_X4_weigh_L39 n x1 x2 x3 x4 S k74 = some r → (∀ (T : St), k74 T = some r → Z l yX4_weigh M_X4_weigh 74 [(0, .ref 70), (1, .int x1), (2, .int x2), (3, .int x3)] [] T none r) → Z l yX4_weigh M_X4_weigh 39 [(0, .ref 70), (1, .int x1), (2, .int x2), (3, .int x3), (4, .int x4)] [] S none r := by
  intro n
  induction n with
  | zero =>
    intro x1 x2 x3 x4 S k74 r h hk74
    exact absurd h (by rw [f_X4_weigh_L39]; exact fun q => by cases q)
  | succ n ih =>
    intro x1 x2 x3 x4 S k74 r h hk74
    rw [f_X4_weigh_L39] at h
    refine z_iload 4 dX4_weigh_39 rfl ?_
    refine z_if_le (tgt := 74) dX4_weigh_41 (by decide) (fun c5 => ?_) (fun c5 => ?_)
    · replace h := ip c5 h
      refine z_sub (lv' := [(0, .ref 70), (1, .int x1), (2, .int x2), (3, .int x3)]) [0, 1, 2, 3] rfl ?_
      exact hk74 _ h
    · replace h := ig c5 h
      refine z_aload_n 0 dX4_weigh_44 rfl ?_
      refine z_get (v := .ref 71) dX4_weigh_45 fl_4_9 kdl_70 rfl ?_
      refine z_iload 4 dX4_weigh_48 rfl ?_
      refine z_dup2 dX4_weigh_50 rfl rfl ?_
      obtain ⟨c6, h⟩ := oi h
      refine z_lald dX4_weigh_51 kdl_71 c6 ?_
      refine z_aload_n 0 dX4_weigh_52 rfl ?_
      refine z_get (v := .ref 71) dX4_weigh_53 fl_4_9 kdl_70 rfl ?_
      refine z_iload 4 dX4_weigh_56 rfl ?_
      refine z_iconst (v := 1) dX4_weigh_58 rfl ?_
      refine z_isub dX4_weigh_59 ?_
      obtain ⟨c7, h⟩ := oi h
      refine z_lald dX4_weigh_60 kdl_71 c7 ?_
      refine z_iload_n 2 dX4_weigh_61 rfl ?_
      refine z_iconst (v := 1) dX4_weigh_62 rfl ?_
      refine z_isub dX4_weigh_63 ?_
      refine z_i2l dX4_weigh_64 ?_
      refine z_lmul dX4_weigh_65 ?_
      refine z_ladd dX4_weigh_66 ?_
      obtain ⟨c8, h⟩ := oi h
      refine z_last dX4_weigh_67 kdl_71 c8 ?_
      refine z_iinc (lv' := [(0, .ref 70), (1, .int x1), (2, .int x2), (3, .int x3), (4, .int (x4 + (-1)))]) (v := x4 + (-1)) 4 [1, 2, 3, 4, 0] dX4_weigh_68 rfl rfl (Nat.le_of_ble_eq_true rfl) rfl ?_
      refine z_goto (tgt := 39) dX4_weigh_71 (by decide) ?_
      refine z_sub (lv' := [(0, .ref 70), (1, .int x1), (2, .int x2), (3, .int x3), (4, .int (x4 + (-1)))]) [0, 1, 2, 3, 4] rfl ?_
      exact ih _ _ _ _ _ _ _ h hk74
set_option maxHeartbeats 2000000 in
set_option maxRecDepth 20000 in
theorem t_X4_weigh_L30 (l : Launch)   : ∀ (n : Nat) (x1 : Int32) (x2 : Int32) (x3 : Int32) (S : St) (k80 : St → Option St) (r : St), f_X4_weigh_L30 n x1 x2 x3 S k80 = some r → (∀ (T : St), k80 T = some r → Z l yX4_weigh M_X4_weigh 80 [] [] T none r) → Z l yX4_weigh M_X4_weigh 30 [(0, .ref 70), (1, .int x1), (2, .int x2), (3, .int x3)] [] S none r := by
  intro n
  induction n with
  | zero =>
    intro x1 x2 x3 S k80 r h hk80
    exact absurd h (by rw [f_X4_weigh_L30]; exact fun q => by cases q)
  | succ n ih =>
    intro x1 x2 x3 S k80 r h hk80
    rw [f_X4_weigh_L30] at h
    refine z_iload_n 3 dX4_weigh_30 rfl ?_
    refine z_iload_n 1 dX4_weigh_31 rfl ?_
    refine z_icmp_ge (tgt := 80) dX4_weigh_32 (by decide) (fun c4 => ?_) (fun c4 => ?_)
    · replace h := ip c4 h
      refine z_sub (lv' := []) [] rfl ?_
      exact hk80 _ h
    · replace h := ig c4 h
      refine z_bipush (v := 8) dX4_weigh_35 rfl ?_
      refine z_istore (lv' := [(0, .ref 70), (1, .int x1), (2, .int x2), (3, .int x3), (4, .int 8)]) [1, 2, 3, 4, 0] dX4_weigh_37 (Nat.le_of_ble_eq_true rfl) rfl ?_
      refine z_sub (lv' := [(0, .ref 70), (1, .int x1), (2, .int x2), (3, .int x3), (4, .int 8)]) [0, 1, 2, 3, 4] rfl ?_
      refine t_X4_weigh_L39 l _ _ _ _ _ _ _ _ h ?_
      · intro S9 h
        refine z_iinc (lv' := [(0, .ref 70), (1, .int x1), (2, .int x2), (3, .int (x3 + 1))]) (v := x3 + 1) 3 [1, 2, 3, 0] dX4_weigh_74 rfl rfl (Nat.le_of_ble_eq_true rfl) rfl ?_
        refine z_goto (tgt := 30) dX4_weigh_77 (by decide) ?_
        refine z_sub (lv' := [(0, .ref 70), (1, .int x1), (2, .int x2), (3, .int (x3 + 1))]) [0, 1, 2, 3] rfl ?_
        exact ih _ _ _ _ _ _ h hk80
set_option maxHeartbeats 2000000 in
set_option maxRecDepth 20000 in
theorem t_X4_weigh (l : Launch) {S : St}  {a1 : Int32} {a2 : Int32} {r : St} (h : f_X4_weigh a1 a2 S = some r) : CT l yX4_weigh M_X4_weigh [.ref 70, .int a1, .int a2] S none r := by
  rw [f_X4_weigh] at h
  refine ct_of (lv := [(0, .ref 70), (1, .int a1), (2, .int a2)]) (by decide) rfl (Nat.le_of_ble_eq_true rfl) ?_
  refine z_iconst (v := 1) dX4_weigh_0 rfl ?_
  refine z_istore_n (lv' := [(0, .ref 70), (1, .int a1), (2, .int a2), (3, .int 1)]) [1, 2, 3, 0] dX4_weigh_1 (Nat.le_of_ble_eq_true rfl) rfl ?_
  refine z_sub (lv' := [(0, .ref 70), (1, .int a1), (2, .int a2), (3, .int 1)]) [0, 1, 2, 3] rfl ?_
  refine t_X4_weigh_L2 l _ _ _ _ _ _ _ h ?_
  · intro S3 h
    refine z_aload_n 0 dX4_weigh_21 rfl ?_
    refine z_get (v := .ref 71) dX4_weigh_22 fl_4_9 kdl_70 rfl ?_
    refine z_iconst (v := 0) dX4_weigh_25 rfl ?_
    refine z_lconst (v := 1) dX4_weigh_26 rfl ?_
    refine z_lastK (j := 0) dX4_weigh_27 kdl_71 (by decide) (by decide) ?_
    refine z_iconst (v := 0) dX4_weigh_28 rfl ?_
    refine z_istore_n (lv' := [(0, .ref 70), (1, .int a1), (2, .int a2), (3, .int 0)]) [1, 2, 3, 0] dX4_weigh_29 (Nat.le_of_ble_eq_true rfl) rfl ?_
    refine z_sub (lv' := [(0, .ref 70), (1, .int a1), (2, .int a2), (3, .int 0)]) [0, 1, 2, 3] rfl ?_
    refine t_X4_weigh_L30 l _ _ _ _ _ _ _ h ?_
    · intro S10 h
      obtain rfl := Option.some.inj h
      exact z_vret dX4_weigh_80 rfl
set_option maxHeartbeats 2000000 in
set_option maxRecDepth 20000 in
theorem t_X4_allWays_L4 (l : Launch)   : ∀ (n : Nat) (x1 : Int64) (x3 : Int32) (S : St) (k25 : Int64 → Option Int64) (r : Int64), f_X4_allWays_L4 n x1 x3 S k25 = some r → (∀ (e1 : Int64), k25 e1 = some r → Z l yX4_allWays M_X4_allWays 25 [(1, .long e1)] [] S (some (.long r)) S) → Z l yX4_allWays M_X4_allWays 4 [(0, .ref 70), (1, .long x1), (3, .int x3)] [] S (some (.long r)) S := by
  intro n
  induction n with
  | zero =>
    intro x1 x3 S k25 r h hk25
    exact absurd h (by rw [f_X4_allWays_L4]; exact fun q => by cases q)
  | succ n ih =>
    intro x1 x3 S k25 r h hk25
    rw [f_X4_allWays_L4] at h
    refine z_iload_n 2 dX4_allWays_4 rfl ?_
    refine z_bipush (v := 8) dX4_allWays_5 rfl ?_
    refine z_icmp_gt (tgt := 25) dX4_allWays_7 (by decide) (fun c1 => ?_) (fun c1 => ?_)
    · replace h := ip c1 h
      refine z_sub (lv' := [(1, .long x1)]) [1] rfl ?_
      exact hk25 _ h
    · replace h := ig c1 h
      refine z_lload_n 1 dX4_allWays_10 rfl ?_
      refine z_aload_n 0 dX4_allWays_11 rfl ?_
      refine z_get (v := .ref 71) dX4_allWays_12 fl_4_9 kdl_70 rfl ?_
      refine z_iload_n 2 dX4_allWays_15 rfl ?_
      obtain ⟨c2, h⟩ := oi h
      refine z_lald dX4_allWays_16 kdl_71 c2 ?_
      refine z_ladd dX4_allWays_17 ?_
      refine z_lstore_n (lv' := [(0, .ref 70), (1, .long (x1 + (S.2 x3.toNatClampNeg))), (3, .int x3)]) [1, 0, 2] dX4_allWays_18 (Nat.le_of_ble_eq_true rfl) rfl ?_
      refine z_iinc (lv' := [(0, .ref 70), (1, .long (x1 + (S.2 x3.toNatClampNeg))), (3, .int (x3 + 1))]) (v := x3 + 1) 2 [1, 2, 0] dX4_allWays_19 rfl rfl (Nat.le_of_ble_eq_true rfl) rfl ?_
      refine z_goto (tgt := 4) dX4_allWays_22 (by decide) ?_
      refine z_sub (lv' := [(0, .ref 70), (1, .long (x1 + (S.2 x3.toNatClampNeg))), (3, .int (x3 + 1))]) [0, 1, 2] rfl ?_
      exact ih _ _ _ _ _ h hk25
set_option maxHeartbeats 2000000 in
set_option maxRecDepth 20000 in
theorem t_X4_allWays (l : Launch) {S : St}   {r : Int64} (h : f_X4_allWays S = some r) : CT l yX4_allWays M_X4_allWays [.ref 70] S (some (.long r)) S := by
  rw [f_X4_allWays] at h
  refine ct_of (lv := [(0, .ref 70)]) (by decide) rfl (Nat.le_of_ble_eq_true rfl) ?_
  refine z_lconst (v := 0) dX4_allWays_0 rfl ?_
  refine z_lstore_n (lv' := [(0, .ref 70), (1, .long 0)]) [1, 0] dX4_allWays_1 (Nat.le_of_ble_eq_true rfl) rfl ?_
  refine z_iconst (v := 0) dX4_allWays_2 rfl ?_
  refine z_istore_n (lv' := [(0, .ref 70), (1, .long 0), (3, .int 0)]) [1, 2, 0] dX4_allWays_3 (Nat.le_of_ble_eq_true rfl) rfl ?_
  refine z_sub (lv' := [(0, .ref 70), (1, .long 0), (3, .int 0)]) [0, 1, 2] rfl ?_
  refine t_X4_allWays_L4 l _ _ _ _ _ _ h ?_
  · intro y3 h
    refine z_lload_n 0 dX4_allWays_25 rfl ?_
    obtain rfl := Option.some.inj h
    exact z_lret dX4_allWays_26 rfl
set_option maxHeartbeats 2000000 in
set_option maxRecDepth 20000 in
theorem t_X4_waysInto_L6 (l : Launch) {q1 : Nat} (hq1 : kd q1 = 6) : ∀ (n : Nat) (x2 : Int32) (x3 : Int32) (x4 : Int64) (x6 : Int32) (S : St) (k49 : Int64 → Option Int64) (r : Int64), f_X4_waysInto_L6 n q1 x2 x3 x4 x6 S k49 = some r → (∀ (e4 : Int64), k49 e4 = some r → Z l yX4_waysInto M_X4_waysInto 49 [(4, .long e4)] [] S (some (.long r)) S) → Z l yX4_waysInto M_X4_waysInto 6 [(0, .ref 70), (1, .ref q1), (2, .int x2), (3, .int x3), (4, .long x4), (6, .int x6)] [] S (some (.long r)) S := by
  intro n
  induction n with
  | zero =>
    intro x2 x3 x4 x6 S k49 r h hk49
    exact absurd h (by rw [f_X4_waysInto_L6]; exact fun q => by cases q)
  | succ n ih =>
    intro x2 x3 x4 x6 S k49 r h hk49
    rw [f_X4_waysInto_L6] at h
    refine z_iload 5 dX4_waysInto_6 rfl ?_
    refine z_bipush (v := 8) dX4_waysInto_8 rfl ?_
    refine z_icmp_gt (tgt := 49) dX4_waysInto_10 (by decide) (fun c1 => ?_) (fun c1 => ?_)
    · replace h := ip c1 h
      refine z_sub (lv' := [(4, .long x4)]) [4] rfl ?_
      exact hk49 _ h
    · replace h := ig c1 h
      refine z_lload 4 dX4_waysInto_13 rfl ?_
      refine z_aload_n 1 dX4_waysInto_15 rfl ?_
      refine z_iload 5 dX4_waysInto_16 rfl ?_
      refine z_iconst (v := 5) dX4_waysInto_18 rfl ?_
      refine z_imul dX4_waysInto_19 ?_
      refine z_iconst (v := 0) dX4_waysInto_20 rfl ?_
      refine z_iload_n 3 dX4_waysInto_21 rfl ?_
      obtain ⟨v2, hv2, h⟩ := ob h
      refine z_callV (as := [.int (x6 * 5), .int 0, .int x3]) dX4_waysInto_22 ml_4_15 mv_X6_yearBy (t_X6_yearBy l hq1 hv2) hq1 ⟨by decide, rfl⟩ rfl rfl (Nat.le_of_ble_eq_true rfl) ⟨Nat.le_of_ble_eq_true rfl, Nat.le_of_ble_eq_true rfl⟩ rfl ?_
      refine z_iload_n 2 dX4_waysInto_25 rfl ?_
      refine z_icmp_ne (tgt := 39) dX4_waysInto_26 (by decide) (fun c3 => ?_) (fun c3 => ?_)
      · replace h := ig c3 h
        refine z_lconst (v := 0) dX4_waysInto_39 rfl ?_
        refine z_ladd dX4_waysInto_40 ?_
        refine z_lstore (lv' := [(0, .ref 70), (1, .ref q1), (2, .int x2), (3, .int x3), (4, .long (x4 + 0)), (6, .int x6)]) [1, 2, 3, 4, 0, 5] dX4_waysInto_41 (Nat.le_of_ble_eq_true rfl) rfl ?_
        refine z_iinc (lv' := [(0, .ref 70), (1, .ref q1), (2, .int x2), (3, .int x3), (4, .long (x4 + 0)), (6, .int (x6 + 1))]) (v := x6 + 1) 5 [1, 2, 3, 4, 5, 0] dX4_waysInto_43 rfl rfl (Nat.le_of_ble_eq_true rfl) rfl ?_
        refine z_goto (tgt := 6) dX4_waysInto_46 (by decide) ?_
        refine z_sub (lv' := [(0, .ref 70), (1, .ref q1), (2, .int x2), (3, .int x3), (4, .long (x4 + 0)), (6, .int (x6 + 1))]) [0, 1, 2, 3, 4, 5] rfl ?_
        exact ih _ _ _ _ _ _ _ h hk49
      · replace h := ip c3 h
        refine z_aload_n 0 dX4_waysInto_29 rfl ?_
        refine z_get (v := .ref 71) dX4_waysInto_30 fl_4_9 kdl_70 rfl ?_
        refine z_iload 5 dX4_waysInto_33 rfl ?_
        obtain ⟨c4, h⟩ := oi h
        refine z_lald dX4_waysInto_35 kdl_71 c4 ?_
        refine z_goto (tgt := 40) dX4_waysInto_36 (by decide) ?_
        refine z_ladd dX4_waysInto_40 ?_
        refine z_lstore (lv' := [(0, .ref 70), (1, .ref q1), (2, .int x2), (3, .int x3), (4, .long (x4 + (S.2 x6.toNatClampNeg))), (6, .int x6)]) [1, 2, 3, 4, 0, 5] dX4_waysInto_41 (Nat.le_of_ble_eq_true rfl) rfl ?_
        refine z_iinc (lv' := [(0, .ref 70), (1, .ref q1), (2, .int x2), (3, .int x3), (4, .long (x4 + (S.2 x6.toNatClampNeg))), (6, .int (x6 + 1))]) (v := x6 + 1) 5 [1, 2, 3, 4, 5, 0] dX4_waysInto_43 rfl rfl (Nat.le_of_ble_eq_true rfl) rfl ?_
        refine z_goto (tgt := 6) dX4_waysInto_46 (by decide) ?_
        refine z_sub (lv' := [(0, .ref 70), (1, .ref q1), (2, .int x2), (3, .int x3), (4, .long (x4 + (S.2 x6.toNatClampNeg))), (6, .int (x6 + 1))]) [0, 1, 2, 3, 4, 5] rfl ?_
        exact ih _ _ _ _ _ _ _ h hk49
set_option maxHeartbeats 2000000 in
set_option maxRecDepth 20000 in
theorem t_X4_waysInto (l : Launch) {S : St} {q1 : Nat} (hq1 : kd q1 = 6) {a2 : Int32} {a3 : Int32} {r : Int64} (h : f_X4_waysInto q1 a2 a3 S = some r) : CT l yX4_waysInto M_X4_waysInto [.ref 70, .ref q1, .int a2, .int a3] S (some (.long r)) S := by
  rw [f_X4_waysInto] at h
  refine ct_of (lv := [(0, .ref 70), (1, .ref q1), (2, .int a2), (3, .int a3)]) (by decide) rfl (Nat.le_of_ble_eq_true rfl) ?_
  refine z_lconst (v := 0) dX4_waysInto_0 rfl ?_
  refine z_lstore (lv' := [(0, .ref 70), (1, .ref q1), (2, .int a2), (3, .int a3), (4, .long 0)]) [1, 2, 3, 4, 0] dX4_waysInto_1 (Nat.le_of_ble_eq_true rfl) rfl ?_
  refine z_iconst (v := 0) dX4_waysInto_3 rfl ?_
  refine z_istore (lv' := [(0, .ref 70), (1, .ref q1), (2, .int a2), (3, .int a3), (4, .long 0), (6, .int 0)]) [1, 2, 3, 4, 5, 0] dX4_waysInto_4 (Nat.le_of_ble_eq_true rfl) rfl ?_
  refine z_sub (lv' := [(0, .ref 70), (1, .ref q1), (2, .int a2), (3, .int a3), (4, .long 0), (6, .int 0)]) [0, 1, 2, 3, 4, 5] rfl ?_
  refine t_X4_waysInto_L6 l hq1 _ _ _ _ _ _ _ _ h ?_
  · intro y5 h
    refine z_lload 0 dX4_waysInto_49 rfl ?_
    obtain rfl := Option.some.inj h
    exact z_lret dX4_waysInto_51 rfl
set_option maxHeartbeats 2000000 in
set_option maxRecDepth 20000 in
theorem t_X4_gladOfAll_L5 (l : Launch) {q1 : Nat} (hq1 : kd q1 = 6) : ∀ (n : Nat) (x2 : Int32) (x3 : Int64) (x5 : Int32) (S : St) (k44 : Int64 → Option Int64) (r : Int64), f_X4_gladOfAll_L5 n q1 x2 x3 x5 S k44 = some r → (∀ (e3 : Int64), k44 e3 = some r → Z l yX4_gladOfAll M_X4_gladOfAll 44 [(3, .long e3)] [] S (some (.long r)) S) → Z l yX4_gladOfAll M_X4_gladOfAll 5 [(0, .ref 70), (1, .ref q1), (2, .int x2), (3, .long x3), (5, .int x5)] [] S (some (.long r)) S := by
  intro n
  induction n with
  | zero =>
    intro x2 x3 x5 S k44 r h hk44
    exact absurd h (by rw [f_X4_gladOfAll_L5]; exact fun q => by cases q)
  | succ n ih =>
    intro x2 x3 x5 S k44 r h hk44
    rw [f_X4_gladOfAll_L5] at h
    refine z_iload 4 dX4_gladOfAll_5 rfl ?_
    refine z_bipush (v := 8) dX4_gladOfAll_7 rfl ?_
    refine z_icmp_gt (tgt := 44) dX4_gladOfAll_9 (by decide) (fun c1 => ?_) (fun c1 => ?_)
    · replace h := ip c1 h
      refine z_sub (lv' := [(3, .long x3)]) [3] rfl ?_
      exact hk44 _ h
    · replace h := ig c1 h
      refine z_lload_n 3 dX4_gladOfAll_12 rfl ?_
      refine z_aload_n 0 dX4_gladOfAll_13 rfl ?_
      refine z_get (v := .ref 71) dX4_gladOfAll_14 fl_4_9 kdl_70 rfl ?_
      refine z_iload 4 dX4_gladOfAll_17 rfl ?_
      obtain ⟨c2, h⟩ := oi h
      refine z_lald dX4_gladOfAll_19 kdl_71 c2 ?_
      refine z_aload_n 1 dX4_gladOfAll_20 rfl ?_
      refine z_aload_n 1 dX4_gladOfAll_21 rfl ?_
      refine z_iload 4 dX4_gladOfAll_22 rfl ?_
      refine z_iconst (v := 5) dX4_gladOfAll_24 rfl ?_
      refine z_imul dX4_gladOfAll_25 ?_
      refine z_iconst (v := 0) dX4_gladOfAll_26 rfl ?_
      refine z_iload_n 2 dX4_gladOfAll_27 rfl ?_
      obtain ⟨v3, hv3, h⟩ := ob h
      refine z_callV (as := [.int (x5 * 5), .int 0, .int x2]) dX4_gladOfAll_28 ml_4_15 mv_X6_yearBy (t_X6_yearBy l hq1 hv3) hq1 ⟨by decide, rfl⟩ rfl rfl (Nat.le_of_ble_eq_true rfl) ⟨Nat.le_of_ble_eq_true rfl, Nat.le_of_ble_eq_true rfl⟩ rfl ?_
      obtain ⟨v4, hv4, h⟩ := ob h
      refine z_callV (as := [.int v3]) dX4_gladOfAll_31 ml_4_21 mv_X6_gladIn (t_X6_gladIn l hq1 hv4) hq1 ⟨by decide, rfl⟩ rfl rfl (Nat.le_of_ble_eq_true rfl) ⟨Nat.le_of_ble_eq_true rfl, Nat.le_of_ble_eq_true rfl⟩ rfl ?_
      refine z_i2l dX4_gladOfAll_34 ?_
      refine z_lmul dX4_gladOfAll_35 ?_
      refine z_ladd dX4_gladOfAll_36 ?_
      refine z_lstore_n (lv' := [(0, .ref 70), (1, .ref q1), (2, .int x2), (3, .long (x3 + ((S.2 x5.toNatClampNeg) * v4.toInt64))), (5, .int x5)]) [1, 2, 3, 0, 4] dX4_gladOfAll_37 (Nat.le_of_ble_eq_true rfl) rfl ?_
      refine z_iinc (lv' := [(0, .ref 70), (1, .ref q1), (2, .int x2), (3, .long (x3 + ((S.2 x5.toNatClampNeg) * v4.toInt64))), (5, .int (x5 + 1))]) (v := x5 + 1) 4 [1, 2, 3, 4, 0] dX4_gladOfAll_38 rfl rfl (Nat.le_of_ble_eq_true rfl) rfl ?_
      refine z_goto (tgt := 5) dX4_gladOfAll_41 (by decide) ?_
      refine z_sub (lv' := [(0, .ref 70), (1, .ref q1), (2, .int x2), (3, .long (x3 + ((S.2 x5.toNatClampNeg) * v4.toInt64))), (5, .int (x5 + 1))]) [0, 1, 2, 3, 4] rfl ?_
      exact ih _ _ _ _ _ _ h hk44
set_option maxHeartbeats 2000000 in
set_option maxRecDepth 20000 in
theorem t_X4_gladOfAll (l : Launch) {S : St} {q1 : Nat} (hq1 : kd q1 = 6) {a2 : Int32} {r : Int64} (h : f_X4_gladOfAll q1 a2 S = some r) : CT l yX4_gladOfAll M_X4_gladOfAll [.ref 70, .ref q1, .int a2] S (some (.long r)) S := by
  rw [f_X4_gladOfAll] at h
  refine ct_of (lv := [(0, .ref 70), (1, .ref q1), (2, .int a2)]) (by decide) rfl (Nat.le_of_ble_eq_true rfl) ?_
  refine z_lconst (v := 0) dX4_gladOfAll_0 rfl ?_
  refine z_lstore_n (lv' := [(0, .ref 70), (1, .ref q1), (2, .int a2), (3, .long 0)]) [1, 2, 3, 0] dX4_gladOfAll_1 (Nat.le_of_ble_eq_true rfl) rfl ?_
  refine z_iconst (v := 0) dX4_gladOfAll_2 rfl ?_
  refine z_istore (lv' := [(0, .ref 70), (1, .ref q1), (2, .int a2), (3, .long 0), (5, .int 0)]) [1, 2, 3, 4, 0] dX4_gladOfAll_3 (Nat.le_of_ble_eq_true rfl) rfl ?_
  refine z_sub (lv' := [(0, .ref 70), (1, .ref q1), (2, .int a2), (3, .long 0), (5, .int 0)]) [0, 1, 2, 3, 4] rfl ?_
  refine t_X4_gladOfAll_L5 l hq1 _ _ _ _ _ _ _ h ?_
  · intro y5 h
    refine z_lload_n 0 dX4_gladOfAll_44 rfl ?_
    obtain rfl := Option.some.inj h
    exact z_lret dX4_gladOfAll_45 rfl
set_option maxHeartbeats 2000000 in
set_option maxRecDepth 20000 in
theorem t_X5_isFull (l : Launch) {S : St}   {r : Int32} (h : f_X5_isFull S = some r) : CT l yX5_isFull M_X5_isFull [.ref 60] S (some (.int r)) S := by
  rw [f_X5_isFull] at h
  refine ct_of (lv := [(0, .ref 60)]) (by decide) rfl (Nat.le_of_ble_eq_true rfl) ?_
  refine z_aload_n 0 dX5_isFull_0 rfl ?_
  refine z_get (v := .int (S.1 60 1)) dX5_isFull_1 fl_5_15 kdl_60 rfl ?_
  refine z_bipush (v := 96) dX5_isFull_4 rfl ?_
  refine z_icmp_lt (tgt := 13) dX5_isFull_6 (by decide) (fun c1 => ?_) (fun c1 => ?_)
  · replace h := ip c1 h
    refine z_iconst (v := 0) dX5_isFull_13 rfl ?_
    obtain rfl := Option.some.inj h
    exact z_iret dX5_isFull_14 rfl rfl
  · replace h := ig c1 h
    refine z_iconst (v := 1) dX5_isFull_9 rfl ?_
    refine z_goto (tgt := 14) dX5_isFull_10 (by decide) ?_
    obtain rfl := Option.some.inj h
    exact z_iret dX5_isFull_14 rfl rfl
set_option maxHeartbeats 2000000 in
set_option maxRecDepth 20000 in
theorem t_X5_put (l : Launch) {S : St}  {a1 : Int32} {r : St} (h : f_X5_put a1 S = some r) : CT l yX5_put M_X5_put [.ref 60, .int a1] S none r := by
  rw [f_X5_put] at h
  refine ct_of (lv := [(0, .ref 60), (1, .int a1)]) (by decide) rfl (Nat.le_of_ble_eq_true rfl) ?_
  refine z_aload_n 0 dX5_put_0 rfl ?_
  obtain ⟨v1, hv1, h⟩ := ob h
  refine z_callV (as := []) dX5_put_1 ml_5_19 mv_X5_isFull (t_X5_isFull l hv1) kdl_60 ⟨by decide, rfl⟩ rfl rfl (Nat.le_of_ble_eq_true rfl) ⟨Nat.le_of_ble_eq_true rfl, Nat.le_of_ble_eq_true rfl⟩ rfl ?_
  refine z_if_ne (tgt := 27) dX5_put_4 (by decide) (fun c2 => ?_) (fun c2 => ?_)
  · replace h := ig c2 h
    obtain rfl := Option.some.inj h
    exact z_vret dX5_put_27 rfl
  · replace h := ip c2 h
    refine z_aload_n 0 dX5_put_7 rfl ?_
    refine z_get (v := .ref 61) dX5_put_8 fl_5_9 kdl_60 rfl ?_
    refine z_aload_n 0 dX5_put_11 rfl ?_
    refine z_get (v := .int (S.1 60 1)) dX5_put_12 fl_5_15 kdl_60 rfl ?_
    refine z_iload_n 1 dX5_put_15 rfl ?_
    obtain ⟨c3, h⟩ := oi h
    refine z_iast dX5_put_16 kdl_61 (by decide) c3 ?_
    refine z_aload_n 0 dX5_put_17 rfl ?_
    refine z_dup dX5_put_18 rfl ?_
    refine z_get (v := .int ((up S 61 (S.1 60 1).toNatClampNeg a1).1 60 1)) dX5_put_19 fl_5_15 kdl_60 rfl ?_
    refine z_iconst (v := 1) dX5_put_22 rfl ?_
    refine z_iadd dX5_put_23 ?_
    refine z_put (fk := 1) dX5_put_24 fl_5_15 fp_5_1 kdl_60 rfl rfl rfl (Nat.le_of_ble_eq_true rfl) ?_
    obtain rfl := Option.some.inj h
    exact z_vret dX5_put_27 rfl
set_option maxHeartbeats 2000000 in
set_option maxRecDepth 20000 in
theorem t_X5_letterAt (l : Launch) {S : St}  {a1 : Int32} {r : Int32} (h : f_X5_letterAt a1 S = some r) : CT l yX5_letterAt M_X5_letterAt [.ref 60, .int a1] S (some (.int r)) S := by
  rw [f_X5_letterAt] at h
  refine ct_of (lv := [(0, .ref 60), (1, .int a1)]) (by decide) rfl (Nat.le_of_ble_eq_true rfl) ?_
  refine z_iload_n 1 dX5_letterAt_0 rfl ?_
  refine z_if_lt (tgt := 18) dX5_letterAt_1 (by decide) (fun c1 => ?_) (fun c1 => ?_)
  · replace h := ip c1 h
    refine z_iconst (v := (-1)) dX5_letterAt_18 rfl ?_
    refine z_goto (tgt := 28) dX5_letterAt_19 (by decide) ?_
    obtain rfl := Option.some.inj h
    exact z_iret dX5_letterAt_28 rfl rfl
  · replace h := ig c1 h
    refine z_iload_n 1 dX5_letterAt_4 rfl ?_
    refine z_aload_n 0 dX5_letterAt_5 rfl ?_
    refine z_get (v := .int (S.1 60 1)) dX5_letterAt_6 fl_5_15 kdl_60 rfl ?_
    refine z_icmp_ge (tgt := 18) dX5_letterAt_9 (by decide) (fun c2 => ?_) (fun c2 => ?_)
    · replace h := ip c2 h
      refine z_iconst (v := (-1)) dX5_letterAt_18 rfl ?_
      refine z_goto (tgt := 28) dX5_letterAt_19 (by decide) ?_
      obtain rfl := Option.some.inj h
      exact z_iret dX5_letterAt_28 rfl rfl
    · replace h := ig c2 h
      refine z_iload_n 1 dX5_letterAt_12 rfl ?_
      refine z_bipush (v := 96) dX5_letterAt_13 rfl ?_
      refine z_icmp_lt (tgt := 22) dX5_letterAt_15 (by decide) (fun c3 => ?_) (fun c3 => ?_)
      · replace h := ip c3 h
        refine z_aload_n 0 dX5_letterAt_22 rfl ?_
        refine z_get (v := .ref 61) dX5_letterAt_23 fl_5_9 kdl_60 rfl ?_
        refine z_iload_n 1 dX5_letterAt_26 rfl ?_
        obtain ⟨c4, h⟩ := oi h
        refine z_iald dX5_letterAt_27 kdl_61 (by decide) c4 ?_
        obtain rfl := Option.some.inj h
        exact z_iret dX5_letterAt_28 rfl rfl
      · replace h := ig c3 h
        refine z_iconst (v := (-1)) dX5_letterAt_18 rfl ?_
        refine z_goto (tgt := 28) dX5_letterAt_19 (by decide) ?_
        obtain rfl := Option.some.inj h
        exact z_iret dX5_letterAt_28 rfl rfl
set_option maxHeartbeats 2000000 in
set_option maxRecDepth 20000 in
theorem t_X5_isDigit (l : Launch) {S : St}  {a1 : Int32} {r : Int32} (h : f_X5_isDigit a1 S = some r) : CT l yX5_isDigit M_X5_isDigit [.ref 60, .int a1] S (some (.int r)) S := by
  rw [f_X5_isDigit] at h
  refine ct_of (lv := [(0, .ref 60), (1, .int a1)]) (by decide) rfl (Nat.le_of_ble_eq_true rfl) ?_
  refine z_aload_n 0 dX5_isDigit_0 rfl ?_
  refine z_iload_n 1 dX5_isDigit_1 rfl ?_
  obtain ⟨v1, hv1, h⟩ := ob h
  refine z_callV (as := [.int a1]) dX5_isDigit_2 ml_5_23 mv_X5_letterAt (t_X5_letterAt l hv1) kdl_60 ⟨by decide, rfl⟩ rfl rfl (Nat.le_of_ble_eq_true rfl) ⟨Nat.le_of_ble_eq_true rfl, Nat.le_of_ble_eq_true rfl⟩ rfl ?_
  refine z_bipush (v := 48) dX5_isDigit_5 rfl ?_
  refine z_icmp_lt (tgt := 24) dX5_isDigit_7 (by decide) (fun c2 => ?_) (fun c2 => ?_)
  · replace h := ip c2 h
    refine z_iconst (v := 0) dX5_isDigit_24 rfl ?_
    obtain rfl := Option.some.inj h
    exact z_iret dX5_isDigit_25 rfl rfl
  · replace h := ig c2 h
    refine z_aload_n 0 dX5_isDigit_10 rfl ?_
    refine z_iload_n 1 dX5_isDigit_11 rfl ?_
    obtain ⟨v3, hv3, h⟩ := ob h
    refine z_callV (as := [.int a1]) dX5_isDigit_12 ml_5_23 mv_X5_letterAt (t_X5_letterAt l hv3) kdl_60 ⟨by decide, rfl⟩ rfl rfl (Nat.le_of_ble_eq_true rfl) ⟨Nat.le_of_ble_eq_true rfl, Nat.le_of_ble_eq_true rfl⟩ rfl ?_
    refine z_bipush (v := 57) dX5_isDigit_15 rfl ?_
    refine z_icmp_gt (tgt := 24) dX5_isDigit_17 (by decide) (fun c4 => ?_) (fun c4 => ?_)
    · replace h := ip c4 h
      refine z_iconst (v := 0) dX5_isDigit_24 rfl ?_
      obtain rfl := Option.some.inj h
      exact z_iret dX5_isDigit_25 rfl rfl
    · replace h := ig c4 h
      refine z_iconst (v := 1) dX5_isDigit_20 rfl ?_
      refine z_goto (tgt := 25) dX5_isDigit_21 (by decide) ?_
      obtain rfl := Option.some.inj h
      exact z_iret dX5_isDigit_25 rfl rfl
set_option maxHeartbeats 2000000 in
set_option maxRecDepth 20000 in
theorem t_X5_number_L5 (l : Launch)   : ∀ (n : Nat) (x1 : Int32) (x2 : Int32) (x3 : Int32) (x4 : Int32) (S : St) (k34 : Int32 → Option Int32) (r : Int32), f_X5_number_L5 n x1 x2 x3 x4 S k34 = some r → (∀ (e3 : Int32), k34 e3 = some r → Z l yX5_number M_X5_number 34 [(3, .int e3)] [] S (some (.int r)) S) → Z l yX5_number M_X5_number 5 [(0, .ref 60), (1, .int x1), (2, .int x2), (3, .int x3), (4, .int x4)] [] S (some (.int r)) S := by
  intro n
  induction n with
  | zero =>
    intro x1 x2 x3 x4 S k34 r h hk34
    exact absurd h (by rw [f_X5_number_L5]; exact fun q => by cases q)
  | succ n ih =>
    intro x1 x2 x3 x4 S k34 r h hk34
    rw [f_X5_number_L5] at h
    refine z_iload 4 dX5_number_5 rfl ?_
    refine z_iload_n 2 dX5_number_7 rfl ?_
    refine z_icmp_ge (tgt := 34) dX5_number_8 (by decide) (fun c1 => ?_) (fun c1 => ?_)
    · replace h := ip c1 h
      refine z_sub (lv' := [(3, .int x3)]) [3] rfl ?_
      exact hk34 _ h
    · replace h := ig c1 h
      refine z_bipush (v := 10) dX5_number_11 rfl ?_
      refine z_iload_n 3 dX5_number_13 rfl ?_
      refine z_imul dX5_number_14 ?_
      refine z_aload_n 0 dX5_number_15 rfl ?_
      refine z_iload_n 1 dX5_number_16 rfl ?_
      refine z_iload 4 dX5_number_17 rfl ?_
      refine z_iadd dX5_number_19 ?_
      obtain ⟨v2, hv2, h⟩ := ob h
      refine z_callV (as := [.int (x1 + x4)]) dX5_number_20 ml_5_23 mv_X5_letterAt (t_X5_letterAt l hv2) kdl_60 ⟨by decide, rfl⟩ rfl rfl (Nat.le_of_ble_eq_true rfl) ⟨Nat.le_of_ble_eq_true rfl, Nat.le_of_ble_eq_true rfl⟩ rfl ?_
      refine z_iadd dX5_number_23 ?_
      refine z_bipush (v := 48) dX5_number_24 rfl ?_
      refine z_isub dX5_number_26 ?_
      refine z_istore_n (lv' := [(0, .ref 60), (1, .int x1), (2, .int x2), (3, .int (((10 * x3) + v2) - 48)), (4, .int x4)]) [1, 2, 3, 0, 4] dX5_number_27 (Nat.le_of_ble_eq_true rfl) rfl ?_
      refine z_iinc (lv' := [(0, .ref 60), (1, .int x1), (2, .int x2), (3, .int (((10 * x3) + v2) - 48)), (4, .int (x4 + 1))]) (v := x4 + 1) 4 [1, 2, 3, 4, 0] dX5_number_28 rfl rfl (Nat.le_of_ble_eq_true rfl) rfl ?_
      refine z_goto (tgt := 5) dX5_number_31 (by decide) ?_
      refine z_sub (lv' := [(0, .ref 60), (1, .int x1), (2, .int x2), (3, .int (((10 * x3) + v2) - 48)), (4, .int (x4 + 1))]) [0, 1, 2, 3, 4] rfl ?_
      exact ih _ _ _ _ _ _ _ h hk34
set_option maxHeartbeats 2000000 in
set_option maxRecDepth 20000 in
theorem t_X5_number (l : Launch) {S : St}  {a1 : Int32} {a2 : Int32} {r : Int32} (h : f_X5_number a1 a2 S = some r) : CT l yX5_number M_X5_number [.ref 60, .int a1, .int a2] S (some (.int r)) S := by
  rw [f_X5_number] at h
  refine ct_of (lv := [(0, .ref 60), (1, .int a1), (2, .int a2)]) (by decide) rfl (Nat.le_of_ble_eq_true rfl) ?_
  refine z_iconst (v := 0) dX5_number_0 rfl ?_
  refine z_istore_n (lv' := [(0, .ref 60), (1, .int a1), (2, .int a2), (3, .int 0)]) [1, 2, 3, 0] dX5_number_1 (Nat.le_of_ble_eq_true rfl) rfl ?_
  refine z_iconst (v := 0) dX5_number_2 rfl ?_
  refine z_istore (lv' := [(0, .ref 60), (1, .int a1), (2, .int a2), (3, .int 0), (4, .int 0)]) [1, 2, 3, 4, 0] dX5_number_3 (Nat.le_of_ble_eq_true rfl) rfl ?_
  refine z_sub (lv' := [(0, .ref 60), (1, .int a1), (2, .int a2), (3, .int 0), (4, .int 0)]) [0, 1, 2, 3, 4] rfl ?_
  refine t_X5_number_L5 l _ _ _ _ _ _ _ _ h ?_
  · intro y3 h
    refine z_iload_n 0 dX5_number_34 rfl ?_
    obtain rfl := Option.some.inj h
    exact z_iret dX5_number_35 rfl rfl
