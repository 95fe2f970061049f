set_option maxHeartbeats 2000000 in
set_option maxRecDepth 20000 in
theorem t_X5_partsOf (l : Launch) {S : St}  {a1 : Int32} {r : Int32} (h : f_X5_partsOf a1 S = some r) : CT l yX5_partsOf M_X5_partsOf [.ref 60, .int a1] S (some (.int r)) S := by
  rw [f_X5_partsOf] at h
  refine ct_of (lv := [(0, .ref 60), (1, .int a1)]) (by decide) rfl (Nat.le_of_ble_eq_true rfl) ?_
  refine z_aload_n 0 dX5_partsOf_0 rfl ?_
  refine z_iload_n 1 dX5_partsOf_1 rfl ?_
  obtain ⟨v1, hv1, h⟩ := ob h
  refine z_callV (as := [.int a1]) dX5_partsOf_2 ml_5_23 mv_X5_letterAt (t_X5_letterAt l hv1) kdl_60 ⟨by decide, rfl⟩ rfl rfl (Nat.le_of_ble_eq_true rfl) ⟨Nat.le_of_ble_eq_true rfl, Nat.le_of_ble_eq_true rfl⟩ rfl ?_
  by_cases c2 : v1 = 100
  · replace h := ip c2 h
    refine z_tableIn (off := 103) (tgt := 108) dX5_partsOf_5 (by rw [c2]; decide) (by rw [c2]; decide) (by rw [c2]; rfl) (by decide) ?_
    refine z_iconst (v := 2) dX5_partsOf_108 rfl ?_
    obtain rfl := Option.some.inj h
    exact z_iret dX5_partsOf_109 rfl rfl
  replace h := ig c2 h
  by_cases c3 : v1 = 103
  · replace h := ip c3 h
    refine z_tableIn (off := 107) (tgt := 112) dX5_partsOf_5 (by rw [c3]; decide) (by rw [c3]; decide) (by rw [c3]; rfl) (by decide) ?_
    refine z_iconst (v := 5) dX5_partsOf_112 rfl ?_
    obtain rfl := Option.some.inj h
    exact z_iret dX5_partsOf_113 rfl rfl
  replace h := ig c3 h
  by_cases c4 : v1 = 104
  · replace h := ip c4 h
    refine z_tableIn (off := 103) (tgt := 108) dX5_partsOf_5 (by rw [c4]; decide) (by rw [c4]; decide) (by rw [c4]; rfl) (by decide) ?_
    refine z_iconst (v := 2) dX5_partsOf_108 rfl ?_
    obtain rfl := Option.some.inj h
    exact z_iret dX5_partsOf_109 rfl rfl
  replace h := ig c4 h
  by_cases c5 : v1 = 115
  · replace h := ip c5 h
    refine z_tableIn (off := 105) (tgt := 110) dX5_partsOf_5 (by rw [c5]; decide) (by rw [c5]; decide) (by rw [c5]; rfl) (by decide) ?_
    refine z_iconst (v := 4) dX5_partsOf_110 rfl ?_
    obtain rfl := Option.some.inj h
    exact z_iret dX5_partsOf_111 rfl rfl
  replace h := ig c5 h
  by_cases c6 : v1 = 116
  · replace h := ip c6 h
    refine z_tableIn (off := 103) (tgt := 108) dX5_partsOf_5 (by rw [c6]; decide) (by rw [c6]; decide) (by rw [c6]; rfl) (by decide) ?_
    refine z_iconst (v := 2) dX5_partsOf_108 rfl ?_
    obtain rfl := Option.some.inj h
    exact z_iret dX5_partsOf_109 rfl rfl
  replace h := ig c6 h
  by_cases c7 : v1 = 118
  · replace h := ip c7 h
    refine z_tableIn (off := 109) (tgt := 114) dX5_partsOf_5 (by rw [c7]; decide) (by rw [c7]; decide) (by rw [c7]; rfl) (by decide) ?_
    refine z_bipush (v := 7) dX5_partsOf_114 rfl ?_
    obtain rfl := Option.some.inj h
    exact z_iret dX5_partsOf_116 rfl rfl
  replace h := ig c7 h
  by_cases c8 : v1 = 121
  · replace h := ip c8 h
    refine z_tableIn (off := 103) (tgt := 108) dX5_partsOf_5 (by rw [c8]; decide) (by rw [c8]; decide) (by rw [c8]; rfl) (by decide) ?_
    refine z_iconst (v := 2) dX5_partsOf_108 rfl ?_
    obtain rfl := Option.some.inj h
    exact z_iret dX5_partsOf_109 rfl rfl
  replace h := ig c8 h
  refine z_tableG (tgt := 117) (n := 22) [100, 103, 104, 115, 116, 118, 121] dX5_partsOf_5 (by decide) (by decide) (zrc (lv_neT c2 (by decide)) (zrc (lv_neT c3 (by decide)) (zrc (lv_neT c4 (by decide)) (zrc (lv_neT c5 (by decide)) (zrc (lv_neT c6 (by decide)) (zrc (lv_neT c7 (by decide)) (zrc (lv_neT c8 (by decide)) zrn))))))) (by decide) ?_
  refine z_iconst (v := 0) dX5_partsOf_117 rfl ?_
  obtain rfl := Option.some.inj h
  exact z_iret dX5_partsOf_118 rfl rfl
set_option maxHeartbeats 2000000 in
set_option maxRecDepth 20000 in
theorem t_X5_behindStatement (l : Launch) {S : St}  {a1 : Int32} {r : Int32} (h : f_X5_behindStatement a1 S = some r) : CT l yX5_behindStatement M_X5_behindStatement [.ref 60, .int a1] S (some (.int r)) S := by
  rw [f_X5_behindStatement] at h
  refine ct_of (lv := [(0, .ref 60), (1, .int a1)]) (by decide) rfl (Nat.le_of_ble_eq_true rfl) ?_
  refine z_iload_n 1 dX5_behindStatement_0 rfl ?_
  refine z_aload_n 0 dX5_behindStatement_1 rfl ?_
  refine z_iload_n 1 dX5_behindStatement_2 rfl ?_
  obtain ⟨v1, hv1, h⟩ := ob h
  refine z_callV (as := [.int a1]) dX5_behindStatement_3 ml_5_34 mv_X5_partsOf (t_X5_partsOf l hv1) kdl_60 ⟨by decide, rfl⟩ rfl rfl (Nat.le_of_ble_eq_true rfl) ⟨Nat.le_of_ble_eq_true rfl, Nat.le_of_ble_eq_true rfl⟩ rfl ?_
  refine z_iadd dX5_behindStatement_6 ?_
  refine z_iconst (v := 2) dX5_behindStatement_7 rfl ?_
  refine z_iadd dX5_behindStatement_8 ?_
  obtain rfl := Option.some.inj h
  exact z_iret dX5_behindStatement_9 rfl rfl
set_option maxHeartbeats 2000000 in
set_option maxRecDepth 20000 in
theorem t_X5_misfitOfStatement_L39 (l : Launch)   : ∀ (n : Nat) (x1 : Int32) (x2 : Int32) (x3 : Int32) (S : St) (k54 : Int32 → Option Int32) (k62 : Int32 → Option Int32) (r : Int32), f_X5_misfitOfStatement_L39 n x1 x2 x3 S k54 k62 = some r → (∀ (e3 : Int32), k54 e3 = some r → Z l yX5_misfitOfStatement M_X5_misfitOfStatement 54 [(3, .int e3)] [] S (some (.int r)) S) → (∀ (e3 : Int32), k62 e3 = some r → Z l yX5_misfitOfStatement M_X5_misfitOfStatement 62 [(0, .ref 60), (3, .int e3)] [] S (some (.int r)) S) → Z l yX5_misfitOfStatement M_X5_misfitOfStatement 39 [(0, .ref 60), (1, .int x1), (2, .int x2), (3, .int x3)] [] S (some (.int r)) S := by
  intro n
  induction n with
  | zero =>
    intro x1 x2 x3 S k54 k62 r h hk54 hk62
    exact absurd h (by rw [f_X5_misfitOfStatement_L39]; exact fun q => by cases q)
  | succ n ih =>
    intro x1 x2 x3 S k54 k62 r h hk54 hk62
    rw [f_X5_misfitOfStatement_L39] at h
    refine z_iload_n 3 dX5_misfitOfStatement_39 rfl ?_
    refine z_iload_n 1 dX5_misfitOfStatement_40 rfl ?_
    refine z_iload_n 2 dX5_misfitOfStatement_41 rfl ?_
    refine z_iadd dX5_misfitOfStatement_42 ?_
    refine z_icmp_gt (tgt := 62) dX5_misfitOfStatement_43 (by decide) (fun c5 => ?_) (fun c5 => ?_)
    · replace h := ip c5 h
      refine z_sub (lv' := [(0, .ref 60), (3, .int x3)]) [0, 3] rfl ?_
      exact hk62 _ h
    · replace h := ig c5 h
      refine z_aload_n 0 dX5_misfitOfStatement_46 rfl ?_
      refine z_iload_n 3 dX5_misfitOfStatement_47 rfl ?_
      obtain ⟨v6, hv6, h⟩ := ob h
      refine z_callV (as := [.int x3]) dX5_misfitOfStatement_48 ml_5_46 mv_X5_isDigit (t_X5_isDigit l hv6) kdl_60 ⟨by decide, rfl⟩ rfl rfl (Nat.le_of_ble_eq_true rfl) ⟨Nat.le_of_ble_eq_true rfl, Nat.le_of_ble_eq_true rfl⟩ rfl ?_
      refine z_if_ne (tgt := 56) dX5_misfitOfStatement_51 (by decide) (fun c7 => ?_) (fun c7 => ?_)
      · replace h := ig c7 h
        refine z_iinc (lv' := [(0, .ref 60), (1, .int x1), (2, .int x2), (3, .int (x3 + 1))]) (v := x3 + 1) 3 [1, 2, 3, 0] dX5_misfitOfStatement_56 rfl rfl (Nat.le_of_ble_eq_true rfl) rfl ?_
        refine z_goto (tgt := 39) dX5_misfitOfStatement_59 (by decide) ?_
        refine z_sub (lv' := [(0, .ref 60), (1, .int x1), (2, .int x2), (3, .int (x3 + 1))]) [0, 1, 2, 3] rfl ?_
        exact ih _ _ _ _ _ _ _ h hk54 hk62
      · replace h := ip c7 h
        refine z_sub (lv' := [(3, .int x3)]) [3] rfl ?_
        exact hk54 _ h
set_option maxHeartbeats 2000000 in
set_option maxRecDepth 20000 in
theorem t_X5_misfitOfStatement (l : Launch) {S : St}  {a1 : Int32} {r : Int32} (h : f_X5_misfitOfStatement a1 S = some r) : CT l yX5_misfitOfStatement M_X5_misfitOfStatement [.ref 60, .int a1] S (some (.int r)) S := by
  rw [f_X5_misfitOfStatement] at h
  refine ct_of (lv := [(0, .ref 60), (1, .int a1)]) (by decide) rfl (Nat.le_of_ble_eq_true rfl) ?_
  refine z_aload_n 0 dX5_misfitOfStatement_0 rfl ?_
  refine z_iload_n 1 dX5_misfitOfStatement_1 rfl ?_
  obtain ⟨v1, hv1, h⟩ := ob h
  refine z_callV (as := [.int a1]) dX5_misfitOfStatement_2 ml_5_34 mv_X5_partsOf (t_X5_partsOf l hv1) kdl_60 ⟨by decide, rfl⟩ rfl rfl (Nat.le_of_ble_eq_true rfl) ⟨Nat.le_of_ble_eq_true rfl, Nat.le_of_ble_eq_true rfl⟩ rfl ?_
  refine z_istore_n (lv' := [(0, .ref 60), (1, .int a1), (2, .int v1)]) [1, 2, 0] dX5_misfitOfStatement_5 (Nat.le_of_ble_eq_true rfl) rfl ?_
  refine z_iload_n 2 dX5_misfitOfStatement_6 rfl ?_
  refine z_if_ne (tgt := 12) dX5_misfitOfStatement_7 (by decide) (fun c2 => ?_) (fun c2 => ?_)
  · replace h := ig c2 h
    refine z_iload_n 1 dX5_misfitOfStatement_12 rfl ?_
    refine z_iconst (v := 1) dX5_misfitOfStatement_13 rfl ?_
    refine z_iadd dX5_misfitOfStatement_14 ?_
    refine z_istore_n (lv' := [(0, .ref 60), (1, .int a1), (2, .int v1), (3, .int (a1 + 1))]) [1, 2, 3, 0] dX5_misfitOfStatement_15 (Nat.le_of_ble_eq_true rfl) rfl ?_
    refine z_aload_n 0 dX5_misfitOfStatement_16 rfl ?_
    refine z_iload_n 1 dX5_misfitOfStatement_17 rfl ?_
    obtain ⟨v3, hv3, h⟩ := ob h
    refine z_callV (as := [.int a1]) dX5_misfitOfStatement_18 ml_5_23 mv_X5_letterAt (t_X5_letterAt l hv3) kdl_60 ⟨by decide, rfl⟩ rfl rfl (Nat.le_of_ble_eq_true rfl) ⟨Nat.le_of_ble_eq_true rfl, Nat.le_of_ble_eq_true rfl⟩ rfl ?_
    refine z_bipush (v := 116) dX5_misfitOfStatement_21 rfl ?_
    refine z_icmp_ne (tgt := 39) dX5_misfitOfStatement_23 (by decide) (fun c4 => ?_) (fun c4 => ?_)
    · replace h := ig c4 h
      refine z_sub (lv' := [(0, .ref 60), (1, .int a1), (2, .int v1), (3, .int (a1 + 1))]) [0, 1, 2, 3] rfl ?_
      refine t_X5_misfitOfStatement_L39 l _ _ _ _ _ _ _ _ h ?_ ?_
      · intro y8 h
        refine z_iload_n 0 dX5_misfitOfStatement_54 rfl ?_
        obtain rfl := Option.some.inj h
        exact z_iret dX5_misfitOfStatement_55 rfl rfl
      · intro y9 h
        refine z_aload_n 0 dX5_misfitOfStatement_62 rfl ?_
        refine z_iload_n 1 dX5_misfitOfStatement_63 rfl ?_
        obtain ⟨v10, hv10, h⟩ := ob h
        refine z_callV (as := [.int y9]) dX5_misfitOfStatement_64 ml_5_23 mv_X5_letterAt (t_X5_letterAt l hv10) kdl_60 ⟨by decide, rfl⟩ rfl rfl (Nat.le_of_ble_eq_true rfl) ⟨Nat.le_of_ble_eq_true rfl, Nat.le_of_ble_eq_true rfl⟩ rfl ?_
        refine z_bipush (v := 59) dX5_misfitOfStatement_67 rfl ?_
        refine z_icmp_ne (tgt := 77) dX5_misfitOfStatement_69 (by decide) (fun c11 => ?_) (fun c11 => ?_)
        · replace h := ig c11 h
          refine z_iload_n 1 dX5_misfitOfStatement_77 rfl ?_
          obtain rfl := Option.some.inj h
          exact z_iret dX5_misfitOfStatement_78 rfl rfl
        · replace h := ip c11 h
          refine z_bipush (v := (-9)) dX5_misfitOfStatement_72 rfl ?_
          refine z_goto (tgt := 78) dX5_misfitOfStatement_74 (by decide) ?_
          obtain rfl := Option.some.inj h
          exact z_iret dX5_misfitOfStatement_78 rfl rfl
    · replace h := ip c4 h
      refine z_aload_n 0 dX5_misfitOfStatement_26 rfl ?_
      refine z_iload_n 3 dX5_misfitOfStatement_27 rfl ?_
      obtain ⟨v12, hv12, h⟩ := ob h
      refine z_callV (as := [.int (a1 + 1)]) dX5_misfitOfStatement_28 ml_5_43 mv_X5_kindAt (t_X5_kindAt l hv12) kdl_60 ⟨by decide, rfl⟩ rfl rfl (Nat.le_of_ble_eq_true rfl) ⟨Nat.le_of_ble_eq_true rfl, Nat.le_of_ble_eq_true rfl⟩ rfl ?_
      refine z_if_ge (tgt := 36) dX5_misfitOfStatement_31 (by decide) (fun c13 => ?_) (fun c13 => ?_)
      · replace h := ip c13 h
        refine z_iinc (lv' := [(0, .ref 60), (1, .int a1), (2, .int v1), (3, .int ((a1 + 1) + 1))]) (v := (a1 + 1) + 1) 3 [1, 2, 3, 0] dX5_misfitOfStatement_36 rfl rfl (Nat.le_of_ble_eq_true rfl) rfl ?_
        refine z_sub (lv' := [(0, .ref 60), (1, .int a1), (2, .int v1), (3, .int ((a1 + 1) + 1))]) [0, 1, 2, 3] rfl ?_
        refine t_X5_misfitOfStatement_L39 l _ _ _ _ _ _ _ _ h ?_ ?_
        · intro y14 h
          refine z_iload_n 0 dX5_misfitOfStatement_54 rfl ?_
          obtain rfl := Option.some.inj h
          exact z_iret dX5_misfitOfStatement_55 rfl rfl
        · intro y15 h
          refine z_aload_n 0 dX5_misfitOfStatement_62 rfl ?_
          refine z_iload_n 1 dX5_misfitOfStatement_63 rfl ?_
          obtain ⟨v16, hv16, h⟩ := ob h
          refine z_callV (as := [.int y15]) dX5_misfitOfStatement_64 ml_5_23 mv_X5_letterAt (t_X5_letterAt l hv16) kdl_60 ⟨by decide, rfl⟩ rfl rfl (Nat.le_of_ble_eq_true rfl) ⟨Nat.le_of_ble_eq_true rfl, Nat.le_of_ble_eq_true rfl⟩ rfl ?_
          refine z_bipush (v := 59) dX5_misfitOfStatement_67 rfl ?_
          refine z_icmp_ne (tgt := 77) dX5_misfitOfStatement_69 (by decide) (fun c17 => ?_) (fun c17 => ?_)
          · replace h := ig c17 h
            refine z_iload_n 1 dX5_misfitOfStatement_77 rfl ?_
            obtain rfl := Option.some.inj h
            exact z_iret dX5_misfitOfStatement_78 rfl rfl
          · replace h := ip c17 h
            refine z_bipush (v := (-9)) dX5_misfitOfStatement_72 rfl ?_
            refine z_goto (tgt := 78) dX5_misfitOfStatement_74 (by decide) ?_
            obtain rfl := Option.some.inj h
            exact z_iret dX5_misfitOfStatement_78 rfl rfl
      · replace h := ig c13 h
        refine z_iload_n 3 dX5_misfitOfStatement_34 rfl ?_
        obtain rfl := Option.some.inj h
        exact z_iret dX5_misfitOfStatement_35 rfl rfl
  · replace h := ip c2 h
    refine z_iload_n 1 dX5_misfitOfStatement_10 rfl ?_
    obtain rfl := Option.some.inj h
    exact z_iret dX5_misfitOfStatement_11 rfl rfl
set_option maxHeartbeats 2000000 in
set_option maxRecDepth 20000 in
theorem t_X5_firstMisfit_L13 (l : Launch)   : ∀ (n : Nat) (x1 : Int32) (x2 : Int32) (S : St) (k39 : Int32 → Option Int32) (k53 : Unit → Option Int32) (r : Int32), f_X5_firstMisfit_L13 n x1 x2 S k39 k53 = some r → (∀ (e3 : Int32), k39 e3 = some r → Z l yX5_firstMisfit M_X5_firstMisfit 39 [(3, .int e3)] [] S (some (.int r)) S) → (k53 () = some r → Z l yX5_firstMisfit M_X5_firstMisfit 53 [] [] S (some (.int r)) S) → Z l yX5_firstMisfit M_X5_firstMisfit 13 [(0, .ref 60), (1, .int x1), (2, .int x2)] [] S (some (.int r)) S := by
  intro n
  induction n with
  | zero =>
    intro x1 x2 S k39 k53 r h hk39 hk53
    exact absurd h (by rw [f_X5_firstMisfit_L13]; exact fun q => by cases q)
  | succ n ih =>
    intro x1 x2 S k39 k53 r h hk39 hk53
    rw [f_X5_firstMisfit_L13] at h
    refine z_iload_n 2 dX5_firstMisfit_13 rfl ?_
    refine z_bipush (v := 96) dX5_firstMisfit_14 rfl ?_
    refine z_icmp_ge (tgt := 53) dX5_firstMisfit_16 (by decide) (fun c2 => ?_) (fun c2 => ?_)
    · replace h := ip c2 h
      refine z_sub (lv' := []) [] rfl ?_
      exact hk53  h
    · replace h := ig c2 h
      refine z_iload_n 1 dX5_firstMisfit_19 rfl ?_
      refine z_aload_n 0 dX5_firstMisfit_20 rfl ?_
      refine z_get (v := .int (S.1 60 1)) dX5_firstMisfit_21 fl_5_15 kdl_60 rfl ?_
      refine z_icmp_ge (tgt := 53) dX5_firstMisfit_24 (by decide) (fun c3 => ?_) (fun c3 => ?_)
      · replace h := ip c3 h
        refine z_sub (lv' := []) [] rfl ?_
        exact hk53  h
      · replace h := ig c3 h
        refine z_aload_n 0 dX5_firstMisfit_27 rfl ?_
        refine z_iload_n 1 dX5_firstMisfit_28 rfl ?_
        obtain ⟨v4, hv4, h⟩ := ob h
        refine z_callV (as := [.int x1]) dX5_firstMisfit_29 ml_5_37 mv_X5_misfitOfStatement (t_X5_misfitOfStatement l hv4) kdl_60 ⟨by decide, rfl⟩ rfl rfl (Nat.le_of_ble_eq_true rfl) ⟨Nat.le_of_ble_eq_true rfl, Nat.le_of_ble_eq_true rfl⟩ rfl ?_
        refine z_istore_n (lv' := [(0, .ref 60), (1, .int x1), (2, .int x2), (3, .int v4)]) [1, 2, 3, 0] dX5_firstMisfit_32 (Nat.le_of_ble_eq_true rfl) rfl ?_
        refine z_iload_n 3 dX5_firstMisfit_33 rfl ?_
        refine z_bipush (v := (-9)) dX5_firstMisfit_34 rfl ?_
        refine z_icmp_eq (tgt := 41) dX5_firstMisfit_36 (by decide) (fun c5 => ?_) (fun c5 => ?_)
        · replace h := ip c5 h
          refine z_aload_n 0 dX5_firstMisfit_41 rfl ?_
          refine z_iload_n 1 dX5_firstMisfit_42 rfl ?_
          obtain ⟨v6, hv6, h⟩ := ob h
          refine z_callV (as := [.int x1]) dX5_firstMisfit_43 ml_5_40 mv_X5_behindStatement (t_X5_behindStatement l hv6) kdl_60 ⟨by decide, rfl⟩ rfl rfl (Nat.le_of_ble_eq_true rfl) ⟨Nat.le_of_ble_eq_true rfl, Nat.le_of_ble_eq_true rfl⟩ rfl ?_
          refine z_istore_n (lv' := [(0, .ref 60), (1, .int v6), (2, .int x2), (3, .int v4)]) [1, 0, 2, 3] dX5_firstMisfit_46 (Nat.le_of_ble_eq_true rfl) rfl ?_
          refine z_iinc (lv' := [(0, .ref 60), (1, .int v6), (2, .int (x2 + 1)), (3, .int v4)]) (v := x2 + 1) 2 [1, 2, 0, 3] dX5_firstMisfit_47 rfl rfl (Nat.le_of_ble_eq_true rfl) rfl ?_
          refine z_goto (tgt := 13) dX5_firstMisfit_50 (by decide) ?_
          refine z_sub (lv' := [(0, .ref 60), (1, .int v6), (2, .int (x2 + 1))]) [0, 1, 2] rfl ?_
          exact ih _ _ _ _ _ _ h hk39 hk53
        · replace h := ig c5 h
          refine z_sub (lv' := [(3, .int v4)]) [3] rfl ?_
          exact hk39 _ h
set_option maxHeartbeats 2000000 in
set_option maxRecDepth 20000 in
theorem t_X5_firstMisfit (l : Launch) {S : St}   {r : Int32} (h : f_X5_firstMisfit S = some r) : CT l yX5_firstMisfit M_X5_firstMisfit [.ref 60] S (some (.int r)) S := by
  rw [f_X5_firstMisfit] at h
  refine ct_of (lv := [(0, .ref 60)]) (by decide) rfl (Nat.le_of_ble_eq_true rfl) ?_
  refine z_aload_n 0 dX5_firstMisfit_0 rfl ?_
  refine z_get (v := .int (S.1 60 1)) dX5_firstMisfit_1 fl_5_15 kdl_60 rfl ?_
  refine z_if_ne (tgt := 9) dX5_firstMisfit_4 (by decide) (fun c1 => ?_) (fun c1 => ?_)
  · replace h := ig c1 h
    refine z_iconst (v := 0) dX5_firstMisfit_9 rfl ?_
    refine z_istore_n (lv' := [(0, .ref 60), (1, .int 0)]) [1, 0] dX5_firstMisfit_10 (Nat.le_of_ble_eq_true rfl) rfl ?_
    refine z_iconst (v := 0) dX5_firstMisfit_11 rfl ?_
    refine z_istore_n (lv' := [(0, .ref 60), (1, .int 0), (2, .int 0)]) [1, 2, 0] dX5_firstMisfit_12 (Nat.le_of_ble_eq_true rfl) rfl ?_
    refine z_sub (lv' := [(0, .ref 60), (1, .int 0), (2, .int 0)]) [0, 1, 2] rfl ?_
    refine t_X5_firstMisfit_L13 l _ _ _ _ _ _ _ h ?_ ?_
    · intro y7 h
      refine z_iload_n 0 dX5_firstMisfit_39 rfl ?_
      obtain rfl := Option.some.inj h
      exact z_iret dX5_firstMisfit_40 rfl rfl
    · intro h
      refine z_bipush (v := (-9)) dX5_firstMisfit_53 rfl ?_
      obtain rfl := Option.some.inj h
      exact z_iret dX5_firstMisfit_55 rfl rfl
  · replace h := ip c1 h
    refine z_iconst (v := 0) dX5_firstMisfit_7 rfl ?_
    obtain rfl := Option.some.inj h
    exact z_iret dX5_firstMisfit_8 rfl rfl
set_option maxHeartbeats 2000000 in
set_option maxRecDepth 20000 in
theorem t_X6_moreIfWashed (l : Launch) {S : St} {q0 : Nat} (hq0 : kd q0 = 6) {a1 : Int32} {r : Int32} (h : f_X6_moreIfWashed q0 a1 S = some r) : CT l yX6_moreIfWashed M_X6_moreIfWashed [.ref q0, .int a1] S (some (.int r)) S := by
  rw [f_X6_moreIfWashed] at h
  refine ct_of (lv := [(0, .ref q0), (1, .int a1)]) (by decide) rfl (Nat.le_of_ble_eq_true rfl) ?_
  refine z_aload_n 0 dX6_moreIfWashed_0 rfl ?_
  refine z_iload_n 1 dX6_moreIfWashed_1 rfl ?_
  obtain ⟨v1, hv1, h⟩ := ob h
  refine z_callV (as := [.int a1]) dX6_moreIfWashed_2 ml_6_35 mv_X6_gladIn (t_X6_gladIn l hq0 hv1) hq0 ⟨by decide, rfl⟩ rfl rfl (Nat.le_of_ble_eq_true rfl) ⟨Nat.le_of_ble_eq_true rfl, Nat.le_of_ble_eq_true rfl⟩ rfl ?_
  refine z_aload_n 0 dX6_moreIfWashed_5 rfl ?_
  refine z_iload_n 1 dX6_moreIfWashed_6 rfl ?_
  obtain ⟨v2, hv2, h⟩ := ob h
  refine z_callV (as := [.int a1]) dX6_moreIfWashed_7 ml_6_39 mv_X6_howGlad (t_X6_howGlad l hq0 hv2) hq0 ⟨by decide, rfl⟩ rfl rfl (Nat.le_of_ble_eq_true rfl) ⟨Nat.le_of_ble_eq_true rfl, Nat.le_of_ble_eq_true rfl⟩ rfl ?_
  refine z_isub dX6_moreIfWashed_10 ?_
  obtain rfl := Option.some.inj h
  exact z_iret dX6_moreIfWashed_11 rfl rfl
set_option maxHeartbeats 2000000 in
set_option maxRecDepth 20000 in
theorem t_X7_refuse (l : Launch) {S : St}  {a1 : Int32} {r : (Int32 × St)} (h : f_X7_refuse a1 S = some r) : CT l yX7_refuse M_X7_refuse [.ref 0, .int a1] S (some (.int r.1)) r.2 := by
  rw [f_X7_refuse] at h
  refine ct_of (lv := [(0, .ref 0), (1, .int a1)]) (by decide) rfl (Nat.le_of_ble_eq_true rfl) ?_
  refine z_iload_n 1 dX7_refuse_0 rfl ?_
  refine z_if_ge (tgt := 21) dX7_refuse_1 (by decide) (fun c1 => ?_) (fun c1 => ?_)
  · replace h := ip c1 h
    refine z_iload_n 1 dX7_refuse_21 rfl ?_
    obtain rfl := Option.some.inj h
    exact z_iret dX7_refuse_22 rfl rfl
  · replace h := ig c1 h
    refine z_iload_n 1 dX7_refuse_4 rfl ?_
    refine z_bipush (v := (-6)) dX7_refuse_5 rfl ?_
    refine z_icmp_lt (tgt := 21) dX7_refuse_7 (by decide) (fun c2 => ?_) (fun c2 => ?_)
    · replace h := ip c2 h
      refine z_iload_n 1 dX7_refuse_21 rfl ?_
      obtain rfl := Option.some.inj h
      exact z_iret dX7_refuse_22 rfl rfl
    · replace h := ig c2 h
      refine z_aload_n 0 dX7_refuse_10 rfl ?_
      refine z_get (v := .ref 73) dX7_refuse_11 fl_7_68 kdl_0 rfl ?_
      refine z_iload_n 1 dX7_refuse_14 rfl ?_
      refine z_ineg dX7_refuse_15 ?_
      refine z_dup2 dX7_refuse_16 rfl rfl ?_
      obtain ⟨c3, h⟩ := oi h
      refine z_iald dX7_refuse_17 kdl_73 (by decide) c3 ?_
      refine z_iconst (v := 1) dX7_refuse_18 rfl ?_
      refine z_iadd dX7_refuse_19 ?_
      obtain ⟨c4, h⟩ := oi h
      refine z_iast dX7_refuse_20 kdl_73 (by decide) c4 ?_
      refine z_iload_n 1 dX7_refuse_21 rfl ?_
      obtain rfl := Option.some.inj h
      exact z_iret dX7_refuse_22 rfl rfl
set_option maxHeartbeats 2000000 in
set_option maxRecDepth 20000 in
theorem t_X7_letter (l : Launch) {S : St}  {a1 : Int32} {r : (Int32 × St)} (h : f_X7_letter a1 S = some r) : CT l yX7_letter M_X7_letter [.ref 0, .int a1] S (some (.int r.1)) r.2 := by
  rw [f_X7_letter] at h
  refine ct_of (lv := [(0, .ref 0), (1, .int a1)]) (by decide) rfl (Nat.le_of_ble_eq_true rfl) ?_
  refine z_iload_n 1 dX7_letter_0 rfl ?_
  refine z_if_ge (tgt := 11) dX7_letter_1 (by decide) (fun c1 => ?_) (fun c1 => ?_)
  · replace h := ip c1 h
    refine z_iload_n 1 dX7_letter_11 rfl ?_
    refine z_sipush (v := 255) dX7_letter_12 rfl ?_
    refine z_icmp_gt (tgt := 28) dX7_letter_15 (by decide) (fun c2 => ?_) (fun c2 => ?_)
    · replace h := ip c2 h
      refine z_aload_n 0 dX7_letter_28 rfl ?_
      refine z_bipush (v := (-6)) dX7_letter_29 rfl ?_
      obtain ⟨z3, hz3, h⟩ := ob h
      refine z_callV (as := [.int (-6)]) dX7_letter_31 ml_7_71 mv_X7_refuse (t_X7_refuse l hz3) kdl_0 ⟨by decide, rfl⟩ rfl rfl (Nat.le_of_ble_eq_true rfl) ⟨Nat.le_of_ble_eq_true rfl, Nat.le_of_ble_eq_true rfl⟩ rfl ?_
      obtain rfl := Option.some.inj h
      exact z_iret dX7_letter_34 rfl rfl
    · replace h := ig c2 h
      refine z_aload_n 0 dX7_letter_18 rfl ?_
      refine z_get (v := .ref 60) dX7_letter_19 fl_7_32 kdl_0 rfl ?_
      obtain ⟨v4, hv4, h⟩ := ob h
      refine z_callV (as := []) dX7_letter_22 ml_7_75 mv_X5_isFull (t_X5_isFull l hv4) kdl_60 ⟨by decide, rfl⟩ rfl rfl (Nat.le_of_ble_eq_true rfl) ⟨Nat.le_of_ble_eq_true rfl, Nat.le_of_ble_eq_true rfl⟩ rfl ?_
      refine z_if_eq (tgt := 35) dX7_letter_25 (by decide) (fun c5 => ?_) (fun c5 => ?_)
      · replace h := ip c5 h
        refine z_aload_n 0 dX7_letter_35 rfl ?_
        refine z_get (v := .ref 60) dX7_letter_36 fl_7_32 kdl_0 rfl ?_
        refine z_iload_n 1 dX7_letter_39 rfl ?_
        obtain ⟨S6, hS6, h⟩ := ob h
        refine z_callV (as := [.int a1]) dX7_letter_40 ml_7_79 mv_X5_put (t_X5_put l hS6) kdl_60 ⟨by decide, rfl⟩ rfl rfl (Nat.le_of_ble_eq_true rfl) ⟨Nat.le_of_ble_eq_true rfl, Nat.le_of_ble_eq_true rfl⟩ rfl ?_
        refine z_aload_n 0 dX7_letter_43 rfl ?_
        refine z_get (v := .ref 60) dX7_letter_44 fl_7_32 kdl_0 rfl ?_
        refine z_get (v := .int (S6.1 60 1)) dX7_letter_47 fl_7_83 kdl_60 rfl ?_
        obtain rfl := Option.some.inj h
        exact z_iret dX7_letter_50 rfl rfl
      · replace h := ig c5 h
        refine z_aload_n 0 dX7_letter_28 rfl ?_
        refine z_bipush (v := (-6)) dX7_letter_29 rfl ?_
        obtain ⟨z7, hz7, h⟩ := ob h
        refine z_callV (as := [.int (-6)]) dX7_letter_31 ml_7_71 mv_X7_refuse (t_X7_refuse l hz7) kdl_0 ⟨by decide, rfl⟩ rfl rfl (Nat.le_of_ble_eq_true rfl) ⟨Nat.le_of_ble_eq_true rfl, Nat.le_of_ble_eq_true rfl⟩ rfl ?_
        obtain rfl := Option.some.inj h
        exact z_iret dX7_letter_34 rfl rfl
  · replace h := ig c1 h
    refine z_aload_n 0 dX7_letter_4 rfl ?_
    refine z_bipush (v := (-4)) dX7_letter_5 rfl ?_
    obtain ⟨z8, hz8, h⟩ := ob h
    refine z_callV (as := [.int (-4)]) dX7_letter_7 ml_7_71 mv_X7_refuse (t_X7_refuse l hz8) kdl_0 ⟨by decide, rfl⟩ rfl rfl (Nat.le_of_ble_eq_true rfl) ⟨Nat.le_of_ble_eq_true rfl, Nat.le_of_ble_eq_true rfl⟩ rfl ?_
    obtain rfl := Option.some.inj h
    exact z_iret dX7_letter_10 rfl rfl
set_option maxHeartbeats 2000000 in
set_option maxRecDepth 20000 in
theorem t_X7_tellStatement (l : Launch) {S : St}  {a1 : Int32} {r : (Int32 × St)} (h : f_X7_tellStatement a1 S = some r) : CT l yX7_tellStatement M_X7_tellStatement [.ref 0, .int a1] S (some (.int r.1)) r.2 := by
  rw [f_X7_tellStatement] at h
  refine ct_of (lv := [(0, .ref 0), (1, .int a1)]) (by decide) rfl (Nat.le_of_ble_eq_true rfl) ?_
  refine z_aload_n 0 dX7_tellStatement_0 rfl ?_
  refine z_get (v := .ref 60) dX7_tellStatement_1 fl_7_32 kdl_0 rfl ?_
  refine z_iload_n 1 dX7_tellStatement_4 rfl ?_
  refine z_iconst (v := 1) dX7_tellStatement_5 rfl ?_
  refine z_iadd dX7_tellStatement_6 ?_
  refine z_iconst (v := 1) dX7_tellStatement_7 rfl ?_
  obtain ⟨v1, hv1, h⟩ := ob h
  refine z_callV (as := [.int (a1 + 1), .int 1]) dX7_tellStatement_8 ml_7_298 mv_X5_number (t_X5_number l hv1) kdl_60 ⟨by decide, rfl⟩ rfl rfl (Nat.le_of_ble_eq_true rfl) ⟨Nat.le_of_ble_eq_true rfl, Nat.le_of_ble_eq_true rfl⟩ rfl ?_
  refine z_istore_n (lv' := [(0, .ref 0), (1, .int a1), (2, .int v1)]) [1, 2, 0] dX7_tellStatement_11 (Nat.le_of_ble_eq_true rfl) rfl ?_
  refine z_aload_n 0 dX7_tellStatement_12 rfl ?_
  refine z_get (v := .ref 60) dX7_tellStatement_13 fl_7_32 kdl_0 rfl ?_
  refine z_iload_n 1 dX7_tellStatement_16 rfl ?_
  obtain ⟨v2, hv2, h⟩ := ob h
  refine z_callV (as := [.int a1]) dX7_tellStatement_17 ml_7_301 mv_X5_letterAt (t_X5_letterAt l hv2) kdl_60 ⟨by decide, rfl⟩ rfl rfl (Nat.le_of_ble_eq_true rfl) ⟨Nat.le_of_ble_eq_true rfl, Nat.le_of_ble_eq_true rfl⟩ rfl ?_
  by_cases c3 : v2 = 100
  · replace h := ip c3 h
    refine z_tableIn (off := 257) (tgt := 277) dX7_tellStatement_20 (by rw [c3]; decide) (by rw [c3]; decide) (by rw [c3]; rfl) (by decide) ?_
    refine z_aload_n 0 dX7_tellStatement_277 rfl ?_
    refine z_get (v := .ref 39) dX7_tellStatement_278 fl_7_19 kdl_0 rfl ?_
    refine z_aload_n 0 dX7_tellStatement_281 rfl ?_
    refine z_get (v := .ref 60) dX7_tellStatement_282 fl_7_32 kdl_0 rfl ?_
    refine z_iload_n 1 dX7_tellStatement_285 rfl ?_
    refine z_iconst (v := 1) dX7_tellStatement_286 rfl ?_
    refine z_iadd dX7_tellStatement_287 ?_
    refine z_iconst (v := 2) dX7_tellStatement_288 rfl ?_
    obtain ⟨v4, hv4, h⟩ := ob h
    refine z_callV (as := [.int (a1 + 1), .int 2]) dX7_tellStatement_289 ml_7_298 mv_X5_number (t_X5_number l hv4) kdl_60 ⟨by decide, rfl⟩ rfl rfl (Nat.le_of_ble_eq_true rfl) ⟨Nat.le_of_ble_eq_true rfl, Nat.le_of_ble_eq_true rfl⟩ rfl ?_
    refine z_put (fk := 2) dX7_tellStatement_292 fl_7_151 fp_3_2 kdl_39 rfl rfl rfl (Nat.le_of_ble_eq_true rfl) ?_
    refine z_iconst (v := 1) dX7_tellStatement_295 rfl ?_
    obtain rfl := Option.some.inj h
    exact z_iret dX7_tellStatement_296 rfl rfl
  replace h := ig c3 h
  by_cases c5 : v2 = 103
  · replace h := ip c5 h
    refine z_tableIn (off := 133) (tgt := 153) dX7_tellStatement_20 (by rw [c5]; decide) (by rw [c5]; decide) (by rw [c5]; rfl) (by decide) ?_
    refine z_aload_n 0 dX7_tellStatement_153 rfl ?_
    refine z_get (v := .ref 39) dX7_tellStatement_154 fl_7_19 kdl_0 rfl ?_
    refine z_iload_n 2 dX7_tellStatement_157 rfl ?_
    refine z_aload_n 0 dX7_tellStatement_158 rfl ?_
    refine z_get (v := .ref 60) dX7_tellStatement_159 fl_7_32 kdl_0 rfl ?_
    refine z_iload_n 1 dX7_tellStatement_162 rfl ?_
    refine z_iconst (v := 2) dX7_tellStatement_163 rfl ?_
    refine z_iadd dX7_tellStatement_164 ?_
    refine z_iconst (v := 2) dX7_tellStatement_165 rfl ?_
    obtain ⟨v6, hv6, h⟩ := ob h
    refine z_callV (as := [.int (a1 + 2), .int 2]) dX7_tellStatement_166 ml_7_298 mv_X5_number (t_X5_number l hv6) kdl_60 ⟨by decide, rfl⟩ rfl rfl (Nat.le_of_ble_eq_true rfl) ⟨Nat.le_of_ble_eq_true rfl, Nat.le_of_ble_eq_true rfl⟩ rfl ?_
    refine z_aload_n 0 dX7_tellStatement_169 rfl ?_
    refine z_get (v := .ref 60) dX7_tellStatement_170 fl_7_32 kdl_0 rfl ?_
    refine z_iload_n 1 dX7_tellStatement_173 rfl ?_
    refine z_iconst (v := 2) dX7_tellStatement_174 rfl ?_
    refine z_iadd dX7_tellStatement_175 ?_
    refine z_iconst (v := 2) dX7_tellStatement_176 rfl ?_
    obtain ⟨v7, hv7, h⟩ := ob h
    refine z_callV (as := [.int (a1 + 2), .int 2]) dX7_tellStatement_177 ml_7_298 mv_X5_number (t_X5_number l hv7) kdl_60 ⟨by decide, rfl⟩ rfl rfl (Nat.le_of_ble_eq_true rfl) ⟨Nat.le_of_ble_eq_true rfl, Nat.le_of_ble_eq_true rfl⟩ rfl ?_
    refine z_aload_n 0 dX7_tellStatement_180 rfl ?_
    refine z_get (v := .ref 60) dX7_tellStatement_181 fl_7_32 kdl_0 rfl ?_
    refine z_iload_n 1 dX7_tellStatement_184 rfl ?_
    refine z_iconst (v := 4) dX7_tellStatement_185 rfl ?_
    refine z_iadd dX7_tellStatement_186 ?_
    refine z_iconst (v := 2) dX7_tellStatement_187 rfl ?_
    obtain ⟨v8, hv8, h⟩ := ob h
    refine z_callV (as := [.int (a1 + 4), .int 2]) dX7_tellStatement_188 ml_7_298 mv_X5_number (t_X5_number l hv8) kdl_60 ⟨by decide, rfl⟩ rfl rfl (Nat.le_of_ble_eq_true rfl) ⟨Nat.le_of_ble_eq_true rfl, Nat.le_of_ble_eq_true rfl⟩ rfl ?_
    obtain ⟨z9, hz9, h⟩ := ob h
    refine z_callV (as := [.int v1, .int v6, .int v7, .int v8]) dX7_tellStatement_191 ml_7_310 mv_X3_makeGlad (t_X3_makeGlad l kdl_39 hz9) kdl_39 ⟨by decide, rfl⟩ rfl rfl (Nat.le_of_ble_eq_true rfl) ⟨Nat.le_of_ble_eq_true rfl, Nat.le_of_ble_eq_true rfl⟩ rfl ?_
    obtain rfl := Option.some.inj h
    exact z_iret dX7_tellStatement_194 rfl (znb (b_X3_makeGlad hz9))
  replace h := ig c5 h
  by_cases c10 : v2 = 104
  · replace h := ip c10 h
    refine z_tableIn (off := 237) (tgt := 257) dX7_tellStatement_20 (by rw [c10]; decide) (by rw [c10]; decide) (by rw [c10]; rfl) (by decide) ?_
    refine z_aload_n 0 dX7_tellStatement_257 rfl ?_
    refine z_get (v := .ref 39) dX7_tellStatement_258 fl_7_19 kdl_0 rfl ?_
    refine z_iload_n 2 dX7_tellStatement_261 rfl ?_
    refine z_aload_n 0 dX7_tellStatement_262 rfl ?_
    refine z_get (v := .ref 60) dX7_tellStatement_263 fl_7_32 kdl_0 rfl ?_
    refine z_iload_n 1 dX7_tellStatement_266 rfl ?_
    refine z_iconst (v := 2) dX7_tellStatement_267 rfl ?_
    refine z_iadd dX7_tellStatement_268 ?_
    refine z_iconst (v := 1) dX7_tellStatement_269 rfl ?_
    obtain ⟨v11, hv11, h⟩ := ob h
    refine z_callV (as := [.int (a1 + 2), .int 1]) dX7_tellStatement_270 ml_7_298 mv_X5_number (t_X5_number l hv11) kdl_60 ⟨by decide, rfl⟩ rfl rfl (Nat.le_of_ble_eq_true rfl) ⟨Nat.le_of_ble_eq_true rfl, Nat.le_of_ble_eq_true rfl⟩ rfl ?_
    obtain ⟨z12, hz12, h⟩ := ob h
    refine z_callV (as := [.int v1, .int v11]) dX7_tellStatement_273 ml_7_145 mv_X3_turnHalves (t_X3_turnHalves l kdl_39 hz12) kdl_39 ⟨by decide, rfl⟩ rfl rfl (Nat.le_of_ble_eq_true rfl) ⟨Nat.le_of_ble_eq_true rfl, Nat.le_of_ble_eq_true rfl⟩ rfl ?_
    obtain rfl := Option.some.inj h
    exact z_iret dX7_tellStatement_276 rfl (znb (b_X3_turnHalves hz12))
  replace h := ig c10 h
  by_cases c13 : v2 = 115
  · replace h := ip c13 h
    refine z_tableIn (off := 277) (tgt := 297) dX7_tellStatement_20 (by rw [c13]; decide) (by rw [c13]; decide) (by rw [c13]; rfl) (by decide) ?_
    refine z_aload_n 0 dX7_tellStatement_297 rfl ?_
    refine z_get (v := .ref 39) dX7_tellStatement_298 fl_7_19 kdl_0 rfl ?_
    refine z_iload_n 2 dX7_tellStatement_301 rfl ?_
    refine z_aload_n 0 dX7_tellStatement_302 rfl ?_
    refine z_get (v := .ref 60) dX7_tellStatement_303 fl_7_32 kdl_0 rfl ?_
    refine z_iload_n 1 dX7_tellStatement_306 rfl ?_
    refine z_iconst (v := 2) dX7_tellStatement_307 rfl ?_
    refine z_iadd dX7_tellStatement_308 ?_
    refine z_iconst (v := 2) dX7_tellStatement_309 rfl ?_
    obtain ⟨v14, hv14, h⟩ := ob h
    refine z_callV (as := [.int (a1 + 2), .int 2]) dX7_tellStatement_310 ml_7_298 mv_X5_number (t_X5_number l hv14) kdl_60 ⟨by decide, rfl⟩ rfl rfl (Nat.le_of_ble_eq_true rfl) ⟨Nat.le_of_ble_eq_true rfl, Nat.le_of_ble_eq_true rfl⟩ rfl ?_
    refine z_aload_n 0 dX7_tellStatement_313 rfl ?_
    refine z_get (v := .ref 60) dX7_tellStatement_314 fl_7_32 kdl_0 rfl ?_
    refine z_iload_n 1 dX7_tellStatement_317 rfl ?_
    refine z_iconst (v := 4) dX7_tellStatement_318 rfl ?_
    refine z_iadd dX7_tellStatement_319 ?_
    refine z_iconst (v := 1) dX7_tellStatement_320 rfl ?_
    obtain ⟨v15, hv15, h⟩ := ob h
    refine z_callV (as := [.int (a1 + 4), .int 1]) dX7_tellStatement_321 ml_7_298 mv_X5_number (t_X5_number l hv15) kdl_60 ⟨by decide, rfl⟩ rfl rfl (Nat.le_of_ble_eq_true rfl) ⟨Nat.le_of_ble_eq_true rfl, Nat.le_of_ble_eq_true rfl⟩ rfl ?_
    obtain ⟨z16, hz16, h⟩ := ob h
    refine z_callV (as := [.int v1, .int v14, .int v15]) dX7_tellStatement_324 ml_7_157 mv_X3_glue (t_X3_glue l kdl_39 hz16) kdl_39 ⟨by decide, rfl⟩ rfl rfl (Nat.le_of_ble_eq_true rfl) ⟨Nat.le_of_ble_eq_true rfl, Nat.le_of_ble_eq_true rfl⟩ rfl ?_
    obtain rfl := Option.some.inj h
    exact z_iret dX7_tellStatement_327 rfl (znb (b_X3_glue hz16))
  replace h := ig c13 h
  by_cases c17 : v2 = 116
  · replace h := ip c17 h
    refine z_tableIn (off := 104) (tgt := 124) dX7_tellStatement_20 (by rw [c17]; decide) (by rw [c17]; decide) (by rw [c17]; rfl) (by decide) ?_
    refine z_aload_n 0 dX7_tellStatement_124 rfl ?_
    refine z_get (v := .ref 39) dX7_tellStatement_125 fl_7_19 kdl_0 rfl ?_
    refine z_aload_n 0 dX7_tellStatement_128 rfl ?_
    refine z_get (v := .ref 60) dX7_tellStatement_129 fl_7_32 kdl_0 rfl ?_
    refine z_iload_n 1 dX7_tellStatement_132 rfl ?_
    refine z_iconst (v := 1) dX7_tellStatement_133 rfl ?_
    refine z_iadd dX7_tellStatement_134 ?_
    obtain ⟨v18, hv18, h⟩ := ob h
    refine z_callV (as := [.int (a1 + 1)]) dX7_tellStatement_135 ml_7_304 mv_X5_kindAt (t_X5_kindAt l hv18) kdl_60 ⟨by decide, rfl⟩ rfl rfl (Nat.le_of_ble_eq_true rfl) ⟨Nat.le_of_ble_eq_true rfl, Nat.le_of_ble_eq_true rfl⟩ rfl ?_
    refine z_aload_n 0 dX7_tellStatement_138 rfl ?_
    refine z_get (v := .ref 60) dX7_tellStatement_139 fl_7_32 kdl_0 rfl ?_
    refine z_iload_n 1 dX7_tellStatement_142 rfl ?_
    refine z_iconst (v := 2) dX7_tellStatement_143 rfl ?_
    refine z_iadd dX7_tellStatement_144 ?_
    refine z_iconst (v := 1) dX7_tellStatement_145 rfl ?_
    obtain ⟨v19, hv19, h⟩ := ob h
    refine z_callV (as := [.int (a1 + 2), .int 1]) dX7_tellStatement_146 ml_7_298 mv_X5_number (t_X5_number l hv19) kdl_60 ⟨by decide, rfl⟩ rfl rfl (Nat.le_of_ble_eq_true rfl) ⟨Nat.le_of_ble_eq_true rfl, Nat.le_of_ble_eq_true rfl⟩ rfl ?_
    obtain ⟨z20, hz20, h⟩ := ob h
    refine z_callV (as := [.int v18, .int v19]) dX7_tellStatement_149 ml_7_307 mv_X3_add (t_X3_add l kdl_39 hz20) kdl_39 ⟨by decide, rfl⟩ rfl rfl (Nat.le_of_ble_eq_true rfl) ⟨Nat.le_of_ble_eq_true rfl, Nat.le_of_ble_eq_true rfl⟩ rfl ?_
    obtain rfl := Option.some.inj h
    exact z_iret dX7_tellStatement_152 rfl (znb (b_X3_add hz20))
  replace h := ig c17 h
  by_cases c21 : v2 = 118
  · replace h := ip c21 h
    refine z_tableIn (off := 175) (tgt := 195) dX7_tellStatement_20 (by rw [c21]; decide) (by rw [c21]; decide) (by rw [c21]; rfl) (by decide) ?_
    refine z_aload_n 0 dX7_tellStatement_195 rfl ?_
    refine z_get (v := .ref 39) dX7_tellStatement_196 fl_7_19 kdl_0 rfl ?_
    refine z_iload_n 2 dX7_tellStatement_199 rfl ?_
    refine z_aload_n 0 dX7_tellStatement_200 rfl ?_
    refine z_get (v := .ref 60) dX7_tellStatement_201 fl_7_32 kdl_0 rfl ?_
    refine z_iload_n 1 dX7_tellStatement_204 rfl ?_
    refine z_iconst (v := 2) dX7_tellStatement_205 rfl ?_
    refine z_iadd dX7_tellStatement_206 ?_
    refine z_iconst (v := 2) dX7_tellStatement_207 rfl ?_
    obtain ⟨v22, hv22, h⟩ := ob h
    refine z_callV (as := [.int (a1 + 2), .int 2]) dX7_tellStatement_208 ml_7_298 mv_X5_number (t_X5_number l hv22) kdl_60 ⟨by decide, rfl⟩ rfl rfl (Nat.le_of_ble_eq_true rfl) ⟨Nat.le_of_ble_eq_true rfl, Nat.le_of_ble_eq_true rfl⟩ rfl ?_
    refine z_aload_n 0 dX7_tellStatement_211 rfl ?_
    refine z_get (v := .ref 60) dX7_tellStatement_212 fl_7_32 kdl_0 rfl ?_
    refine z_iload_n 1 dX7_tellStatement_215 rfl ?_
    refine z_iconst (v := 4) dX7_tellStatement_216 rfl ?_
    refine z_iadd dX7_tellStatement_217 ?_
    refine z_iconst (v := 2) dX7_tellStatement_218 rfl ?_
    obtain ⟨v23, hv23, h⟩ := ob h
    refine z_callV (as := [.int (a1 + 4), .int 2]) dX7_tellStatement_219 ml_7_298 mv_X5_number (t_X5_number l hv23) kdl_60 ⟨by decide, rfl⟩ rfl rfl (Nat.le_of_ble_eq_true rfl) ⟨Nat.le_of_ble_eq_true rfl, Nat.le_of_ble_eq_true rfl⟩ rfl ?_
    refine z_aload_n 0 dX7_tellStatement_222 rfl ?_
    refine z_get (v := .ref 60) dX7_tellStatement_223 fl_7_32 kdl_0 rfl ?_
    refine z_iload_n 1 dX7_tellStatement_226 rfl ?_
    refine z_bipush (v := 6) dX7_tellStatement_227 rfl ?_
    refine z_iadd dX7_tellStatement_229 ?_
    refine z_iconst (v := 2) dX7_tellStatement_230 rfl ?_
    obtain ⟨v24, hv24, h⟩ := ob h
    refine z_callV (as := [.int (a1 + 6), .int 2]) dX7_tellStatement_231 ml_7_298 mv_X5_number (t_X5_number l hv24) kdl_60 ⟨by decide, rfl⟩ rfl rfl (Nat.le_of_ble_eq_true rfl) ⟨Nat.le_of_ble_eq_true rfl, Nat.le_of_ble_eq_true rfl⟩ rfl ?_
    obtain ⟨z25, hz25, h⟩ := ob h
    refine z_callV (as := [.int v1, .int v22, .int v23, .int v24]) dX7_tellStatement_234 ml_7_310 mv_X3_makeGlad (t_X3_makeGlad l kdl_39 hz25) kdl_39 ⟨by decide, rfl⟩ rfl rfl (Nat.le_of_ble_eq_true rfl) ⟨Nat.le_of_ble_eq_true rfl, Nat.le_of_ble_eq_true rfl⟩ rfl ?_
    obtain rfl := Option.some.inj h
    exact z_iret dX7_tellStatement_237 rfl (znb (b_X3_makeGlad hz25))
  replace h := ig c21 h
  by_cases c26 : v2 = 121
  · replace h := ip c26 h
    refine z_tableIn (off := 218) (tgt := 238) dX7_tellStatement_20 (by rw [c26]; decide) (by rw [c26]; decide) (by rw [c26]; rfl) (by decide) ?_
    refine z_aload_n 0 dX7_tellStatement_238 rfl ?_
    refine z_get (v := .ref 39) dX7_tellStatement_239 fl_7_19 kdl_0 rfl ?_
    refine z_aload_n 0 dX7_tellStatement_242 rfl ?_
    refine z_get (v := .ref 60) dX7_tellStatement_243 fl_7_32 kdl_0 rfl ?_
    refine z_iload_n 1 dX7_tellStatement_246 rfl ?_
    refine z_iconst (v := 1) dX7_tellStatement_247 rfl ?_
    refine z_iadd dX7_tellStatement_248 ?_
    refine z_iconst (v := 2) dX7_tellStatement_249 rfl ?_
    obtain ⟨v27, hv27, h⟩ := ob h
    refine z_callV (as := [.int (a1 + 1), .int 2]) dX7_tellStatement_250 ml_7_298 mv_X5_number (t_X5_number l hv27) kdl_60 ⟨by decide, rfl⟩ rfl rfl (Nat.le_of_ble_eq_true rfl) ⟨Nat.le_of_ble_eq_true rfl, Nat.le_of_ble_eq_true rfl⟩ rfl ?_
    obtain ⟨z28, hz28, h⟩ := ob h
    refine z_callV (as := [.int v27]) dX7_tellStatement_253 ml_7_313 mv_X3_moveTo (t_X3_moveTo l kdl_39 hz28) kdl_39 ⟨by decide, rfl⟩ rfl rfl (Nat.le_of_ble_eq_true rfl) ⟨Nat.le_of_ble_eq_true rfl, Nat.le_of_ble_eq_true rfl⟩ rfl ?_
    obtain rfl := Option.some.inj h
    exact z_iret dX7_tellStatement_256 rfl (znb (b_X3_moveTo hz28))
  replace h := ig c26 h
  refine z_tableG (tgt := 328) (n := 22) [100, 103, 104, 115, 116, 118, 121] dX7_tellStatement_20 (by decide) (by decide) (zrc (lv_neT c3 (by decide)) (zrc (lv_neT c5 (by decide)) (zrc (lv_neT c10 (by decide)) (zrc (lv_neT c13 (by decide)) (zrc (lv_neT c17 (by decide)) (zrc (lv_neT c21 (by decide)) (zrc (lv_neT c26 (by decide)) zrn))))))) (by decide) ?_
  refine z_iconst (v := 0) dX7_tellStatement_328 rfl ?_
  obtain rfl := Option.some.inj h
  exact z_iret dX7_tellStatement_329 rfl rfl
set_option maxHeartbeats 2000000 in
set_option maxRecDepth 20000 in
theorem t_X7_tellTrial_L15 (l : Launch)   : ∀ (n : Nat) (x1 : Int32) (x2 : Int32) (S : St) (k40 : Int32 → St → Option (Int32 × St)) (k61 : Int32 → St → Option (Int32 × St)) (r : (Int32 × St)), f_X7_tellTrial_L15 n x1 x2 S k40 k61 = some r → (∀ (e2 : Int32) (T : St), k40 e2 T = some r → Z l yX7_tellTrial M_X7_tellTrial 40 [(2, .int e2)] [] T (some (.int r.1)) r.2) → (∀ (e1 : Int32) (T : St), k61 e1 T = some r → Z l yX7_tellTrial M_X7_tellTrial 61 [(1, .int e1)] [] T (some (.int r.1)) r.2) → Z l yX7_tellTrial M_X7_tellTrial 15 [(0, .ref 0), (1, .int x1), (2, .int x2)] [] S (some (.int r.1)) r.2 := by
  intro n
  induction n with
  | zero =>
    intro x1 x2 S k40 k61 r h hk40 hk61
    exact absurd h (by rw [f_X7_tellTrial_L15]; exact fun q => by cases q)
  | succ n ih =>
    intro x1 x2 S k40 k61 r h hk40 hk61
    rw [f_X7_tellTrial_L15] at h
    refine z_iload_n 1 dX7_tellTrial_15 rfl ?_
    refine z_bipush (v := 96) dX7_tellTrial_16 rfl ?_
    refine z_icmp_ge (tgt := 61) dX7_tellTrial_18 (by decide) (fun c2 => ?_) (fun c2 => ?_)
    · replace h := ip c2 h
      refine z_sub (lv' := [(1, .int x1)]) [1] rfl ?_
      exact hk61 _ _ h
    · replace h := ig c2 h
      refine z_iload_n 2 dX7_tellTrial_21 rfl ?_
      refine z_aload_n 0 dX7_tellTrial_22 rfl ?_
      refine z_get (v := .ref 60) dX7_tellTrial_23 fl_7_32 kdl_0 rfl ?_
      refine z_get (v := .int (S.1 60 1)) dX7_tellTrial_26 fl_7_83 kdl_60 rfl ?_
      refine z_icmp_ge (tgt := 61) dX7_tellTrial_29 (by decide) (fun c3 => ?_) (fun c3 => ?_)
      · replace h := ip c3 h
        refine z_sub (lv' := [(1, .int x1)]) [1] rfl ?_
        exact hk61 _ _ h
      · replace h := ig c3 h
        refine z_aload_n 0 dX7_tellTrial_32 rfl ?_
        refine z_iload_n 2 dX7_tellTrial_33 rfl ?_
        obtain ⟨z4, hz4, h⟩ := ob h
        refine z_callV (as := [.int x2]) dX7_tellTrial_34 ml_7_292 mv_X7_tellStatement (t_X7_tellStatement l hz4) kdl_0 ⟨by decide, rfl⟩ rfl rfl (Nat.le_of_ble_eq_true rfl) ⟨Nat.le_of_ble_eq_true rfl, Nat.le_of_ble_eq_true rfl⟩ rfl ?_
        refine z_if_ne (tgt := 46) dX7_tellTrial_37 (by decide) (fun c5 => ?_) (fun c5 => ?_)
        · replace h := ig c5 h
          refine z_aload_n 0 dX7_tellTrial_46 rfl ?_
          refine z_get (v := .ref 60) dX7_tellTrial_47 fl_7_32 kdl_0 rfl ?_
          refine z_iload_n 2 dX7_tellTrial_50 rfl ?_
          obtain ⟨v6, hv6, h⟩ := ob h
          refine z_callV (as := [.int x2]) dX7_tellTrial_51 ml_7_295 mv_X5_behindStatement (t_X5_behindStatement l hv6) kdl_60 ⟨by decide, rfl⟩ rfl rfl (Nat.le_of_ble_eq_true rfl) ⟨Nat.le_of_ble_eq_true rfl, Nat.le_of_ble_eq_true rfl⟩ rfl ?_
          refine z_istore_n (lv' := [(0, .ref 0), (1, .int x1), (2, .int v6)]) [1, 2, 0] dX7_tellTrial_54 (Nat.le_of_ble_eq_true rfl) rfl ?_
          refine z_iinc (lv' := [(0, .ref 0), (1, .int (x1 + 1)), (2, .int v6)]) (v := x1 + 1) 1 [1, 0, 2] dX7_tellTrial_55 rfl rfl (Nat.le_of_ble_eq_true rfl) rfl ?_
          refine z_goto (tgt := 15) dX7_tellTrial_58 (by decide) ?_
          refine z_sub (lv' := [(0, .ref 0), (1, .int (x1 + 1)), (2, .int v6)]) [0, 1, 2] rfl ?_
          exact ih _ _ _ _ _ _ h hk40 hk61
        · replace h := ip c5 h
          refine z_sub (lv' := [(2, .int x2)]) [2] rfl ?_
          exact hk40 _ _ h
set_option maxHeartbeats 2000000 in
set_option maxRecDepth 20000 in
theorem t_X7_tellTrial (l : Launch) {S : St}   {r : (Int32 × St)} (h : f_X7_tellTrial S = some r) : CT l yX7_tellTrial M_X7_tellTrial [.ref 0] S (some (.int r.1)) r.2 := by
  rw [f_X7_tellTrial] at h
  refine ct_of (lv := [(0, .ref 0)]) (by decide) rfl (Nat.le_of_ble_eq_true rfl) ?_
  refine z_aload_n 0 dX7_tellTrial_0 rfl ?_
  refine z_get (v := .ref 39) dX7_tellTrial_1 fl_7_19 kdl_0 rfl ?_
  refine z_aload_n 0 dX7_tellTrial_4 rfl ?_
  refine z_get (v := .ref 1) dX7_tellTrial_5 fl_7_12 kdl_0 rfl ?_
  obtain ⟨S1, hS1, h⟩ := ob h
  refine z_callV (as := [.ref 1]) dX7_tellTrial_8 ml_7_94 mv_X3_copyFrom (t_X3_copyFrom l kdl_39 kdl_1 hS1) kdl_39 ⟨by decide, rfl⟩ rfl rfl (Nat.le_of_ble_eq_true rfl) ⟨Nat.le_of_ble_eq_true rfl, Nat.le_of_ble_eq_true rfl⟩ rfl ?_
  refine z_iconst (v := 0) dX7_tellTrial_11 rfl ?_
  refine z_istore_n (lv' := [(0, .ref 0), (1, .int 0)]) [1, 0] dX7_tellTrial_12 (Nat.le_of_ble_eq_true rfl) rfl ?_
  refine z_iconst (v := 0) dX7_tellTrial_13 rfl ?_
  refine z_istore_n (lv' := [(0, .ref 0), (1, .int 0), (2, .int 0)]) [1, 2, 0] dX7_tellTrial_14 (Nat.le_of_ble_eq_true rfl) rfl ?_
  refine z_sub (lv' := [(0, .ref 0), (1, .int 0), (2, .int 0)]) [0, 1, 2] rfl ?_
  refine t_X7_tellTrial_L15 l _ _ _ _ _ _ _ h ?_ ?_
  · intro y7 S8 h
    refine z_sipush (v := (-2000)) dX7_tellTrial_40 rfl ?_
    refine z_iload_n 0 dX7_tellTrial_43 rfl ?_
    refine z_isub dX7_tellTrial_44 ?_
    obtain rfl := Option.some.inj h
    exact z_iret dX7_tellTrial_45 rfl rfl
  · intro y9 S10 h
    refine z_iload_n 0 dX7_tellTrial_61 rfl ?_
    obtain rfl := Option.some.inj h
    exact z_iret dX7_tellTrial_62 rfl rfl
set_option maxHeartbeats 2000000 in
set_option maxRecDepth 20000 in
theorem t_X7_shop (l : Launch) {S : St}   {r : (Int32 × St)} (h : f_X7_shop S = some r) : CT l yX7_shop M_X7_shop [.ref 0] S (some (.int r.1)) r.2 := by
  rw [f_X7_shop] at h
  refine ct_of (lv := [(0, .ref 0)]) (by decide) rfl (Nat.le_of_ble_eq_true rfl) ?_
  refine z_aload_n 0 dX7_shop_0 rfl ?_
  refine z_get (v := .ref 60) dX7_shop_1 fl_7_32 kdl_0 rfl ?_
  obtain ⟨v1, hv1, h⟩ := ob h
  refine z_callV (as := []) dX7_shop_4 ml_7_87 mv_X5_firstMisfit (t_X5_firstMisfit l hv1) kdl_60 ⟨by decide, rfl⟩ rfl rfl (Nat.le_of_ble_eq_true rfl) ⟨Nat.le_of_ble_eq_true rfl, Nat.le_of_ble_eq_true rfl⟩ rfl ?_
  refine z_istore_n (lv' := [(0, .ref 0), (1, .int v1)]) [1, 0] dX7_shop_7 (Nat.le_of_ble_eq_true rfl) rfl ?_
  refine z_iload_n 1 dX7_shop_8 rfl ?_
  refine z_bipush (v := (-9)) dX7_shop_9 rfl ?_
  refine z_icmp_ne (tgt := 21) dX7_shop_11 (by decide) (fun c2 => ?_) (fun c2 => ?_)
  · replace h := ig c2 h
    refine z_sipush (v := (-1000)) dX7_shop_21 rfl ?_
    refine z_iload_n 1 dX7_shop_24 rfl ?_
    refine z_isub dX7_shop_25 ?_
    refine z_istore_n (lv' := [(0, .ref 0), (1, .int v1), (2, .int ((-1000) - v1))]) [1, 2, 0] dX7_shop_26 (Nat.le_of_ble_eq_true rfl) rfl ?_
    refine z_iload_n 2 dX7_shop_27 rfl ?_
    refine z_if_le (tgt := 42) dX7_shop_28 (by decide) (fun c3 => ?_) (fun c3 => ?_)
    · replace h := ip c3 h
      refine z_aload_n 0 dX7_shop_42 rfl ?_
      refine z_get (v := .ref 60) dX7_shop_43 fl_7_32 kdl_0 rfl ?_
      refine z_iconst (v := 0) dX7_shop_46 rfl ?_
      refine z_put (fk := 1) dX7_shop_47 fl_7_83 fp_5_1 kdl_60 rfl rfl rfl (Nat.le_of_ble_eq_true rfl) ?_
      refine z_iload_n 2 dX7_shop_50 rfl ?_
      obtain rfl := Option.some.inj h
      exact z_iret dX7_shop_51 rfl rfl
    · replace h := ig c3 h
      refine z_aload_n 0 dX7_shop_31 rfl ?_
      refine z_get (v := .ref 1) dX7_shop_32 fl_7_12 kdl_0 rfl ?_
      refine z_aload_n 0 dX7_shop_35 rfl ?_
      refine z_get (v := .ref 39) dX7_shop_36 fl_7_19 kdl_0 rfl ?_
      obtain ⟨S4, hS4, h⟩ := ob h
      refine z_callV (as := [.ref 39]) dX7_shop_39 ml_7_94 mv_X3_copyFrom (t_X3_copyFrom l kdl_1 kdl_39 hS4) kdl_1 ⟨by decide, rfl⟩ rfl rfl (Nat.le_of_ble_eq_true rfl) ⟨Nat.le_of_ble_eq_true rfl, Nat.le_of_ble_eq_true rfl⟩ rfl ?_
      refine z_aload_n 0 dX7_shop_42 rfl ?_
      refine z_get (v := .ref 60) dX7_shop_43 fl_7_32 kdl_0 rfl ?_
      refine z_iconst (v := 0) dX7_shop_46 rfl ?_
      refine z_put (fk := 1) dX7_shop_47 fl_7_83 fp_5_1 kdl_60 rfl rfl rfl (Nat.le_of_ble_eq_true rfl) ?_
      refine z_iload_n 2 dX7_shop_50 rfl ?_
      obtain rfl := Option.some.inj h
      exact z_iret dX7_shop_51 rfl rfl
  · replace h := ip c2 h
    refine z_aload_n 0 dX7_shop_14 rfl ?_
    obtain ⟨z5, hz5, h⟩ := ob h
    refine z_callV (as := []) dX7_shop_15 ml_7_91 mv_X7_tellTrial (t_X7_tellTrial l hz5) kdl_0 ⟨by decide, rfl⟩ rfl rfl (Nat.le_of_ble_eq_true rfl) ⟨Nat.le_of_ble_eq_true rfl, Nat.le_of_ble_eq_true rfl⟩ rfl ?_
    refine z_goto (tgt := 26) dX7_shop_18 (by decide) ?_
    refine z_istore_n (lv' := [(0, .ref 0), (1, .int v1), (2, .int z5.1)]) [1, 2, 0] dX7_shop_26 (Nat.le_of_ble_eq_true rfl) rfl ?_
    refine z_iload_n 2 dX7_shop_27 rfl ?_
    refine z_if_le (tgt := 42) dX7_shop_28 (by decide) (fun c6 => ?_) (fun c6 => ?_)
    · replace h := ip c6 h
      refine z_aload_n 0 dX7_shop_42 rfl ?_
      refine z_get (v := .ref 60) dX7_shop_43 fl_7_32 kdl_0 rfl ?_
      refine z_iconst (v := 0) dX7_shop_46 rfl ?_
      refine z_put (fk := 1) dX7_shop_47 fl_7_83 fp_5_1 kdl_60 rfl rfl rfl (Nat.le_of_ble_eq_true rfl) ?_
      refine z_iload_n 2 dX7_shop_50 rfl ?_
      obtain rfl := Option.some.inj h
      exact z_iret dX7_shop_51 rfl rfl
    · replace h := ig c6 h
      refine z_aload_n 0 dX7_shop_31 rfl ?_
      refine z_get (v := .ref 1) dX7_shop_32 fl_7_12 kdl_0 rfl ?_
      refine z_aload_n 0 dX7_shop_35 rfl ?_
      refine z_get (v := .ref 39) dX7_shop_36 fl_7_19 kdl_0 rfl ?_
      obtain ⟨S7, hS7, h⟩ := ob h
      refine z_callV (as := [.ref 39]) dX7_shop_39 ml_7_94 mv_X3_copyFrom (t_X3_copyFrom l kdl_1 kdl_39 hS7) kdl_1 ⟨by decide, rfl⟩ rfl rfl (Nat.le_of_ble_eq_true rfl) ⟨Nat.le_of_ble_eq_true rfl, Nat.le_of_ble_eq_true rfl⟩ rfl ?_
      refine z_aload_n 0 dX7_shop_42 rfl ?_
      refine z_get (v := .ref 60) dX7_shop_43 fl_7_32 kdl_0 rfl ?_
      refine z_iconst (v := 0) dX7_shop_46 rfl ?_
      refine z_put (fk := 1) dX7_shop_47 fl_7_83 fp_5_1 kdl_60 rfl rfl rfl (Nat.le_of_ble_eq_true rfl) ?_
      refine z_iload_n 2 dX7_shop_50 rfl ?_
      obtain rfl := Option.some.inj h
      exact z_iret dX7_shop_51 rfl rfl
set_option maxHeartbeats 2000000 in
set_option maxRecDepth 20000 in
theorem t_X7_thing (l : Launch) {S : St}  {a1 : Int32} {a2 : Int32} {r : (Int32 × St)} (h : f_X7_thing a1 a2 S = some r) : CT l yX7_thing M_X7_thing [.ref 0, .int a1, .int a2] S (some (.int r.1)) r.2 := by
  rw [f_X7_thing] at h
  refine ct_of (lv := [(0, .ref 0), (1, .int a1), (2, .int a2)]) (by decide) rfl (Nat.le_of_ble_eq_true rfl) ?_
  refine z_aload_n 0 dX7_thing_0 rfl ?_
  refine z_get (v := .ref 1) dX7_thing_1 fl_7_12 kdl_0 rfl ?_
  refine z_iload_n 1 dX7_thing_4 rfl ?_
  obtain ⟨v1, hv1, h⟩ := ob h
  refine z_callV (as := [.int a1]) dX7_thing_5 ml_7_98 mv_X3_lacks (t_X3_lacks l kdl_1 hv1) kdl_1 ⟨by decide, rfl⟩ rfl rfl (Nat.le_of_ble_eq_true rfl) ⟨Nat.le_of_ble_eq_true rfl, Nat.le_of_ble_eq_true rfl⟩ rfl ?_
  refine z_if_eq (tgt := 17) dX7_thing_8 (by decide) (fun c2 => ?_) (fun c2 => ?_)
  · replace h := ip c2 h
    refine z_aload_n 0 dX7_thing_17 rfl ?_
    refine z_get (v := .ref 1) dX7_thing_18 fl_7_12 kdl_0 rfl ?_
    refine z_iload_n 1 dX7_thing_21 rfl ?_
    obtain ⟨v3, hv3, h⟩ := ob h
    refine z_callV (as := [.int a1]) dX7_thing_22 ml_7_102 mv_X3_at (t_X3_at l kdl_1 hv3) kdl_1 ⟨by decide, rfl⟩ rfl rfl (Nat.le_of_ble_eq_true rfl) ⟨Nat.le_of_ble_eq_true rfl, Nat.le_of_ble_eq_true rfl⟩ rfl ?_
    refine z_astore_n (lv' := [(0, .ref 0), (1, .int a1), (2, .int a2), (3, .ref v3)]) [1, 2, 3, 0] dX7_thing_25 (Nat.le_of_ble_eq_true rfl) rfl ?_
    refine z_iload_n 2 dX7_thing_26 rfl ?_
    by_cases c4 : a2 = 0
    · replace h := ip c4 h
      refine z_tableIn (off := 33) (tgt := 60) dX7_thing_27 (by rw [c4]; decide) (by rw [c4]; decide) (by rw [c4]; rfl) (by decide) ?_
      refine z_aload_n 3 dX7_thing_60 rfl ?_
      refine z_get (v := .int (S.1 v3 0)) dX7_thing_61 fl_7_106 (kd_at kdl_1 hv3) rfl ?_
      obtain rfl := Option.some.inj h
      exact z_iret dX7_thing_64 rfl rfl
    replace h := ig c4 h
    by_cases c5 : a2 = 1
    · replace h := ip c5 h
      refine z_tableIn (off := 38) (tgt := 65) dX7_thing_27 (by rw [c5]; decide) (by rw [c5]; decide) (by rw [c5]; rfl) (by decide) ?_
      refine z_aload_n 3 dX7_thing_65 rfl ?_
      refine z_get (v := .int (S.1 v3 1)) dX7_thing_66 fl_7_109 (kd_at kdl_1 hv3) rfl ?_
      obtain rfl := Option.some.inj h
      exact z_iret dX7_thing_69 rfl rfl
    replace h := ig c5 h
    by_cases c6 : a2 = 2
    · replace h := ip c6 h
      refine z_tableIn (off := 43) (tgt := 70) dX7_thing_27 (by rw [c6]; decide) (by rw [c6]; decide) (by rw [c6]; rfl) (by decide) ?_
      refine z_aload_n 3 dX7_thing_70 rfl ?_
      refine z_get (v := .int (S.1 v3 2)) dX7_thing_71 fl_7_112 (kd_at kdl_1 hv3) rfl ?_
      obtain rfl := Option.some.inj h
      exact z_iret dX7_thing_74 rfl rfl
    replace h := ig c6 h
    by_cases c7 : a2 = 3
    · replace h := ip c7 h
      refine z_tableIn (off := 48) (tgt := 75) dX7_thing_27 (by rw [c7]; decide) (by rw [c7]; decide) (by rw [c7]; rfl) (by decide) ?_
      refine z_aload_n 3 dX7_thing_75 rfl ?_
      refine z_aload_n 0 dX7_thing_76 rfl ?_
      refine z_get (v := .ref 1) dX7_thing_77 fl_7_12 kdl_0 rfl ?_
      refine z_get (v := .int (S.1 1 1)) dX7_thing_80 fl_7_115 kdl_1 rfl ?_
      obtain ⟨v8, hv8, h⟩ := ob h
      refine z_callV (as := [.int (S.1 1 1)]) dX7_thing_83 ml_7_118 mv_X6_howGlad (t_X6_howGlad l (kd_at kdl_1 hv3) hv8) (kd_at kdl_1 hv3) ⟨by decide, rfl⟩ rfl rfl (Nat.le_of_ble_eq_true rfl) ⟨Nat.le_of_ble_eq_true rfl, Nat.le_of_ble_eq_true rfl⟩ rfl ?_
      obtain rfl := Option.some.inj h
      exact z_iret dX7_thing_86 rfl rfl
    replace h := ig c7 h
    by_cases c9 : a2 = 4
    · replace h := ip c9 h
      refine z_tableIn (off := 60) (tgt := 87) dX7_thing_27 (by rw [c9]; decide) (by rw [c9]; decide) (by rw [c9]; rfl) (by decide) ?_
      refine z_aload_n 3 dX7_thing_87 rfl ?_
      obtain ⟨v10, hv10, h⟩ := ob h
      refine z_callV (as := []) dX7_thing_88 ml_7_121 mv_X6_cost (t_X6_cost l (kd_at kdl_1 hv3) hv10) (kd_at kdl_1 hv3) ⟨by decide, rfl⟩ rfl rfl (Nat.le_of_ble_eq_true rfl) ⟨Nat.le_of_ble_eq_true rfl, Nat.le_of_ble_eq_true rfl⟩ rfl ?_
      obtain rfl := Option.some.inj h
      exact z_iret dX7_thing_91 rfl rfl
    replace h := ig c9 h
    refine z_tableG (tgt := 92) (n := 5) [0, 1, 2, 3, 4] dX7_thing_27 (by decide) (by decide) (zrc (lv_neT c4 (by decide)) (zrc (lv_neT c5 (by decide)) (zrc (lv_neT c6 (by decide)) (zrc (lv_neT c7 (by decide)) (zrc (lv_neT c9 (by decide)) zrn))))) (by decide) ?_
    refine z_aload_n 0 dX7_thing_92 rfl ?_
    refine z_bipush (v := (-2)) dX7_thing_93 rfl ?_
    obtain ⟨z11, hz11, h⟩ := ob h
    refine z_callV (as := [.int (-2)]) dX7_thing_95 ml_7_71 mv_X7_refuse (t_X7_refuse l hz11) kdl_0 ⟨by decide, rfl⟩ rfl rfl (Nat.le_of_ble_eq_true rfl) ⟨Nat.le_of_ble_eq_true rfl, Nat.le_of_ble_eq_true rfl⟩ rfl ?_
    obtain rfl := Option.some.inj h
    exact z_iret dX7_thing_98 rfl rfl
  · replace h := ig c2 h
    refine z_aload_n 0 dX7_thing_11 rfl ?_
    refine z_iconst (v := (-1)) dX7_thing_12 rfl ?_
    obtain ⟨z12, hz12, h⟩ := ob h
    refine z_callV (as := [.int (-1)]) dX7_thing_13 ml_7_71 mv_X7_refuse (t_X7_refuse l hz12) kdl_0 ⟨by decide, rfl⟩ rfl rfl (Nat.le_of_ble_eq_true rfl) ⟨Nat.le_of_ble_eq_true rfl, Nat.le_of_ble_eq_true rfl⟩ rfl ?_
    obtain rfl := Option.some.inj h
    exact z_iret dX7_thing_16 rfl rfl
set_option maxHeartbeats 2000000 in
set_option maxRecDepth 20000 in
theorem t_X7_glad (l : Launch) {S : St}  {a1 : Int32} {a2 : Int32} {r : (Int32 × St)} (h : f_X7_glad a1 a2 S = some r) : CT l yX7_glad M_X7_glad [.ref 0, .int a1, .int a2] S (some (.int r.1)) r.2 := by
  rw [f_X7_glad] at h
  refine ct_of (lv := [(0, .ref 0), (1, .int a1), (2, .int a2)]) (by decide) rfl (Nat.le_of_ble_eq_true rfl) ?_
  refine z_aload_n 0 dX7_glad_0 rfl ?_
  refine z_get (v := .ref 1) dX7_glad_1 fl_7_12 kdl_0 rfl ?_
  refine z_iload_n 1 dX7_glad_4 rfl ?_
  obtain ⟨v1, hv1, h⟩ := ob h
  refine z_callV (as := [.int a1]) dX7_glad_5 ml_7_98 mv_X3_lacks (t_X3_lacks l kdl_1 hv1) kdl_1 ⟨by decide, rfl⟩ rfl rfl (Nat.le_of_ble_eq_true rfl) ⟨Nat.le_of_ble_eq_true rfl, Nat.le_of_ble_eq_true rfl⟩ rfl ?_
  refine z_if_ne (tgt := 18) dX7_glad_8 (by decide) (fun c2 => ?_) (fun c2 => ?_)
  · replace h := ig c2 h
    refine z_aload_n 0 dX7_glad_18 rfl ?_
    refine z_iconst (v := (-1)) dX7_glad_19 rfl ?_
    obtain ⟨z3, hz3, h⟩ := ob h
    refine z_callV (as := [.int (-1)]) dX7_glad_20 ml_7_71 mv_X7_refuse (t_X7_refuse l hz3) kdl_0 ⟨by decide, rfl⟩ rfl rfl (Nat.le_of_ble_eq_true rfl) ⟨Nat.le_of_ble_eq_true rfl, Nat.le_of_ble_eq_true rfl⟩ rfl ?_
    obtain rfl := Option.some.inj h
    exact z_iret dX7_glad_23 rfl rfl
  · replace h := ip c2 h
    refine z_iload_n 2 dX7_glad_11 rfl ?_
    obtain ⟨v4, hv4, h⟩ := ob h
    refine z_callS (as := [.int a2]) dX7_glad_12 ml_7_124 ms_X7_noYear (t_X7_noYear l _ hv4) rfl rfl (Nat.le_of_ble_eq_true rfl) ⟨Nat.le_of_ble_eq_true rfl, Nat.le_of_ble_eq_true rfl⟩ rfl ?_
    refine z_if_eq (tgt := 24) dX7_glad_15 (by decide) (fun c5 => ?_) (fun c5 => ?_)
    · replace h := ip c5 h
      refine z_aload_n 0 dX7_glad_24 rfl ?_
      refine z_get (v := .ref 1) dX7_glad_25 fl_7_12 kdl_0 rfl ?_
      refine z_iload_n 1 dX7_glad_28 rfl ?_
      obtain ⟨v6, hv6, h⟩ := ob h
      refine z_callV (as := [.int a1]) dX7_glad_29 ml_7_102 mv_X3_at (t_X3_at l kdl_1 hv6) kdl_1 ⟨by decide, rfl⟩ rfl rfl (Nat.le_of_ble_eq_true rfl) ⟨Nat.le_of_ble_eq_true rfl, Nat.le_of_ble_eq_true rfl⟩ rfl ?_
      refine z_iload_n 2 dX7_glad_32 rfl ?_
      obtain ⟨v7, hv7, h⟩ := ob h
      refine z_callV (as := [.int a2]) dX7_glad_33 ml_7_127 mv_X6_gladIn (t_X6_gladIn l (kd_at kdl_1 hv6) hv7) (kd_at kdl_1 hv6) ⟨by decide, rfl⟩ rfl rfl (Nat.le_of_ble_eq_true rfl) ⟨Nat.le_of_ble_eq_true rfl, Nat.le_of_ble_eq_true rfl⟩ rfl ?_
      obtain rfl := Option.some.inj h
      exact z_iret dX7_glad_36 rfl rfl
    · replace h := ig c5 h
      refine z_aload_n 0 dX7_glad_18 rfl ?_
      refine z_iconst (v := (-1)) dX7_glad_19 rfl ?_
      obtain ⟨z8, hz8, h⟩ := ob h
      refine z_callV (as := [.int (-1)]) dX7_glad_20 ml_7_71 mv_X7_refuse (t_X7_refuse l hz8) kdl_0 ⟨by decide, rfl⟩ rfl rfl (Nat.le_of_ble_eq_true rfl) ⟨Nat.le_of_ble_eq_true rfl, Nat.le_of_ble_eq_true rfl⟩ rfl ?_
      obtain rfl := Option.some.inj h
      exact z_iret dX7_glad_23 rfl rfl
set_option maxHeartbeats 2000000 in
set_option maxRecDepth 20000 in
theorem t_X7_halves (l : Launch) {S : St}  {a1 : Int32} {a2 : Int32} {r : (Int32 × St)} (h : f_X7_halves a1 a2 S = some r) : CT l yX7_halves M_X7_halves [.ref 0, .int a1, .int a2] S (some (.int r.1)) r.2 := by
  rw [f_X7_halves] at h
  refine ct_of (lv := [(0, .ref 0), (1, .int a1), (2, .int a2)]) (by decide) rfl (Nat.le_of_ble_eq_true rfl) ?_
  refine z_aload_n 0 dX7_halves_0 rfl ?_
  refine z_get (v := .ref 1) dX7_halves_1 fl_7_12 kdl_0 rfl ?_
  refine z_iload_n 1 dX7_halves_4 rfl ?_
  refine z_iload_n 2 dX7_halves_5 rfl ?_
  obtain ⟨v1, hv1, h⟩ := ob h
  refine z_callV (as := [.int a1, .int a2]) dX7_halves_6 ml_7_130 mv_X3_lacksTwo (t_X3_lacksTwo l kdl_1 hv1) kdl_1 ⟨by decide, rfl⟩ rfl rfl (Nat.le_of_ble_eq_true rfl) ⟨Nat.le_of_ble_eq_true rfl, Nat.le_of_ble_eq_true rfl⟩ rfl ?_
  refine z_if_eq (tgt := 18) dX7_halves_9 (by decide) (fun c2 => ?_) (fun c2 => ?_)
  · replace h := ip c2 h
    refine z_aload_n 0 dX7_halves_18 rfl ?_
    refine z_get (v := .ref 1) dX7_halves_19 fl_7_12 kdl_0 rfl ?_
    refine z_iload_n 1 dX7_halves_22 rfl ?_
    refine z_iload_n 2 dX7_halves_23 rfl ?_
    obtain ⟨v3, hv3, h⟩ := ob h
    refine z_callV (as := [.int a1, .int a2]) dX7_halves_24 ml_7_134 mv_X3_areHalves (t_X3_areHalves l kdl_1 hv3) kdl_1 ⟨by decide, rfl⟩ rfl rfl (Nat.le_of_ble_eq_true rfl) ⟨Nat.le_of_ble_eq_true rfl, Nat.le_of_ble_eq_true rfl⟩ rfl ?_
    refine z_if_eq (tgt := 34) dX7_halves_27 (by decide) (fun c4 => ?_) (fun c4 => ?_)
    · replace h := ip c4 h
      refine z_iconst (v := 0) dX7_halves_34 rfl ?_
      obtain rfl := Option.some.inj h
      exact z_iret dX7_halves_35 rfl rfl
    · replace h := ig c4 h
      refine z_iconst (v := 1) dX7_halves_30 rfl ?_
      refine z_goto (tgt := 35) dX7_halves_31 (by decide) ?_
      obtain rfl := Option.some.inj h
      exact z_iret dX7_halves_35 rfl rfl
  · replace h := ig c2 h
    refine z_aload_n 0 dX7_halves_12 rfl ?_
    refine z_iconst (v := (-1)) dX7_halves_13 rfl ?_
    obtain ⟨z5, hz5, h⟩ := ob h
    refine z_callV (as := [.int (-1)]) dX7_halves_14 ml_7_71 mv_X7_refuse (t_X7_refuse l hz5) kdl_0 ⟨by decide, rfl⟩ rfl rfl (Nat.le_of_ble_eq_true rfl) ⟨Nat.le_of_ble_eq_true rfl, Nat.le_of_ble_eq_true rfl⟩ rfl ?_
    obtain rfl := Option.some.inj h
    exact z_iret dX7_halves_17 rfl rfl
set_option maxHeartbeats 2000000 in
set_option maxRecDepth 20000 in
theorem t_X7_outside (l : Launch) (S : St)  {a0 : Int32} {a1 : Int32} {a2 : Int32} {r : Int32} (h : f_X7_outside a0 a1 a2 = some r) : CT l yX7_outside M_X7_outside [.int a0, .int a1, .int a2] S (some (.int r)) S := by
  rw [f_X7_outside] at h
  refine ct_of (lv := [(0, .int a0), (1, .int a1), (2, .int a2)]) (by decide) rfl (Nat.le_of_ble_eq_true rfl) ?_
  refine z_iload_n 0 dX7_outside_0 rfl ?_
  refine z_iload_n 1 dX7_outside_1 rfl ?_
  refine z_icmp_ge (tgt := 8) dX7_outside_2 (by decide) (fun c1 => ?_) (fun c1 => ?_)
  · replace h := ip c1 h
    refine z_iload_n 0 dX7_outside_8 rfl ?_
    refine z_iload_n 2 dX7_outside_9 rfl ?_
    refine z_icmp_le (tgt := 18) dX7_outside_10 (by decide) (fun c2 => ?_) (fun c2 => ?_)
    · replace h := ip c2 h
      refine z_iconst (v := 0) dX7_outside_18 rfl ?_
      obtain rfl := Option.some.inj h
      exact z_iret dX7_outside_19 rfl rfl
    · replace h := ig c2 h
      refine z_bipush (v := (-6)) dX7_outside_13 rfl ?_
      refine z_goto (tgt := 19) dX7_outside_15 (by decide) ?_
      obtain rfl := Option.some.inj h
      exact z_iret dX7_outside_19 rfl rfl
  · replace h := ig c1 h
    refine z_bipush (v := (-4)) dX7_outside_5 rfl ?_
    obtain rfl := Option.some.inj h
    exact z_iret dX7_outside_7 rfl rfl
set_option maxHeartbeats 2000000 in
set_option maxRecDepth 20000 in
theorem t_X7_turn (l : Launch) {S : St}  {a1 : Int32} {a2 : Int32} {a3 : Int32} {r : (Int32 × St)} (h : f_X7_turn a1 a2 a3 S = some r) : CT l yX7_turn M_X7_turn [.ref 0, .int a1, .int a2, .int a3] S (some (.int r.1)) r.2 := by
  rw [f_X7_turn] at h
  refine ct_of (lv := [(0, .ref 0), (1, .int a1), (2, .int a2), (3, .int a3)]) (by decide) rfl (Nat.le_of_ble_eq_true rfl) ?_
  refine z_aload_n 0 dX7_turn_0 rfl ?_
  refine z_get (v := .ref 1) dX7_turn_1 fl_7_12 kdl_0 rfl ?_
  refine z_iload_n 1 dX7_turn_4 rfl ?_
  obtain ⟨v1, hv1, h⟩ := ob h
  refine z_callV (as := [.int a1]) dX7_turn_5 ml_7_98 mv_X3_lacks (t_X3_lacks l kdl_1 hv1) kdl_1 ⟨by decide, rfl⟩ rfl rfl (Nat.le_of_ble_eq_true rfl) ⟨Nat.le_of_ble_eq_true rfl, Nat.le_of_ble_eq_true rfl⟩ rfl ?_
  refine z_if_eq (tgt := 17) dX7_turn_8 (by decide) (fun c2 => ?_) (fun c2 => ?_)
  · replace h := ip c2 h
    refine z_iload_n 2 dX7_turn_17 rfl ?_
    refine z_if_lt (tgt := 26) dX7_turn_18 (by decide) (fun c3 => ?_) (fun c3 => ?_)
    · replace h := ip c3 h
      refine z_aload_n 0 dX7_turn_26 rfl ?_
      refine z_bipush (v := (-2)) dX7_turn_27 rfl ?_
      obtain ⟨z4, hz4, h⟩ := ob h
      refine z_callV (as := [.int (-2)]) dX7_turn_29 ml_7_71 mv_X7_refuse (t_X7_refuse l hz4) kdl_0 ⟨by decide, rfl⟩ rfl rfl (Nat.le_of_ble_eq_true rfl) ⟨Nat.le_of_ble_eq_true rfl, Nat.le_of_ble_eq_true rfl⟩ rfl ?_
      obtain rfl := Option.some.inj h
      exact z_iret dX7_turn_32 rfl rfl
    · replace h := ig c3 h
      refine z_iload_n 2 dX7_turn_21 rfl ?_
      refine z_iconst (v := 5) dX7_turn_22 rfl ?_
      refine z_icmp_le (tgt := 33) dX7_turn_23 (by decide) (fun c5 => ?_) (fun c5 => ?_)
      · replace h := ip c5 h
        refine z_iload_n 3 dX7_turn_33 rfl ?_
        refine z_iconst (v := 0) dX7_turn_34 rfl ?_
        refine z_bipush (v := 9) dX7_turn_35 rfl ?_
        obtain ⟨v6, hv6, h⟩ := ob h
        refine z_callS (as := [.int a3, .int 0, .int 9]) dX7_turn_37 ml_7_137 ms_X7_outside (t_X7_outside l _ hv6) rfl rfl (Nat.le_of_ble_eq_true rfl) ⟨Nat.le_of_ble_eq_true rfl, Nat.le_of_ble_eq_true rfl⟩ rfl ?_
        refine z_istore (lv' := [(0, .ref 0), (1, .int a1), (2, .int a2), (3, .int a3), (4, .int v6)]) [1, 2, 3, 4, 0] dX7_turn_40 (Nat.le_of_ble_eq_true rfl) rfl ?_
        refine z_iload 4 dX7_turn_42 rfl ?_
        refine z_if_eq (tgt := 54) dX7_turn_44 (by decide) (fun c7 => ?_) (fun c7 => ?_)
        · replace h := ip c7 h
          refine z_aload_n 0 dX7_turn_54 rfl ?_
          refine z_get (v := .ref 1) dX7_turn_55 fl_7_12 kdl_0 rfl ?_
          refine z_iload_n 1 dX7_turn_58 rfl ?_
          obtain ⟨v8, hv8, h⟩ := ob h
          refine z_callV (as := [.int a1]) dX7_turn_59 ml_7_102 mv_X3_at (t_X3_at l kdl_1 hv8) kdl_1 ⟨by decide, rfl⟩ rfl rfl (Nat.le_of_ble_eq_true rfl) ⟨Nat.le_of_ble_eq_true rfl, Nat.le_of_ble_eq_true rfl⟩ rfl ?_
          refine z_astore (lv' := [(0, .ref 0), (1, .int a1), (2, .int a2), (3, .int a3), (4, .int v6), (5, .ref v8)]) [1, 2, 3, 4, 5, 0] dX7_turn_62 (Nat.le_of_ble_eq_true rfl) rfl ?_
          refine z_bipush (v := 10) dX7_turn_64 rfl ?_
          refine z_aload 5 dX7_turn_66 rfl ?_
          refine z_get (v := .int (S.1 v8 0)) dX7_turn_68 fl_7_106 (kd_at kdl_1 hv8) rfl ?_
          refine z_imul dX7_turn_71 ?_
          refine z_aload 5 dX7_turn_72 rfl ?_
          refine z_get (v := .int (S.1 v8 1)) dX7_turn_74 fl_7_109 (kd_at kdl_1 hv8) rfl ?_
          refine z_iadd dX7_turn_77 ?_
          refine z_istore (lv' := [(0, .ref 0), (1, .int a1), (2, .int a2), (3, .int a3), (4, .int v6), (5, .ref v8), (6, .int ((10 * (S.1 v8 0)) + (S.1 v8 1)))]) [1, 2, 3, 4, 5, 6, 0] dX7_turn_78 (Nat.le_of_ble_eq_true rfl) rfl ?_
          refine z_aload 5 dX7_turn_80 rfl ?_
          refine z_iload_n 2 dX7_turn_82 rfl ?_
          refine z_put (fk := 0) dX7_turn_83 fl_7_106 fp_6_0 (kd_at kdl_1 hv8) rfl rfl rfl (Nat.le_of_ble_eq_true rfl) ?_
          refine z_aload 5 dX7_turn_86 rfl ?_
          refine z_iload_n 3 dX7_turn_88 rfl ?_
          refine z_put (fk := 1) dX7_turn_89 fl_7_109 fp_6_1 (kd_at kdl_1 hv8) rfl rfl rfl (Nat.le_of_ble_eq_true rfl) ?_
          refine z_iload 6 dX7_turn_92 rfl ?_
          obtain rfl := Option.some.inj h
          exact z_iret dX7_turn_94 rfl rfl
        · replace h := ig c7 h
          refine z_aload_n 0 dX7_turn_47 rfl ?_
          refine z_iload 4 dX7_turn_48 rfl ?_
          obtain ⟨z9, hz9, h⟩ := ob h
          refine z_callV (as := [.int v6]) dX7_turn_50 ml_7_71 mv_X7_refuse (t_X7_refuse l hz9) kdl_0 ⟨by decide, rfl⟩ rfl rfl (Nat.le_of_ble_eq_true rfl) ⟨Nat.le_of_ble_eq_true rfl, Nat.le_of_ble_eq_true rfl⟩ rfl ?_
          obtain rfl := Option.some.inj h
          exact z_iret dX7_turn_53 rfl rfl
      · replace h := ig c5 h
        refine z_aload_n 0 dX7_turn_26 rfl ?_
        refine z_bipush (v := (-2)) dX7_turn_27 rfl ?_
        obtain ⟨z10, hz10, h⟩ := ob h
        refine z_callV (as := [.int (-2)]) dX7_turn_29 ml_7_71 mv_X7_refuse (t_X7_refuse l hz10) kdl_0 ⟨by decide, rfl⟩ rfl rfl (Nat.le_of_ble_eq_true rfl) ⟨Nat.le_of_ble_eq_true rfl, Nat.le_of_ble_eq_true rfl⟩ rfl ?_
        obtain rfl := Option.some.inj h
        exact z_iret dX7_turn_32 rfl rfl
  · replace h := ig c2 h
    refine z_aload_n 0 dX7_turn_11 rfl ?_
    refine z_iconst (v := (-1)) dX7_turn_12 rfl ?_
    obtain ⟨z11, hz11, h⟩ := ob h
    refine z_callV (as := [.int (-1)]) dX7_turn_13 ml_7_71 mv_X7_refuse (t_X7_refuse l hz11) kdl_0 ⟨by decide, rfl⟩ rfl rfl (Nat.le_of_ble_eq_true rfl) ⟨Nat.le_of_ble_eq_true rfl, Nat.le_of_ble_eq_true rfl⟩ rfl ?_
    obtain rfl := Option.some.inj h
    exact z_iret dX7_turn_16 rfl rfl
set_option maxHeartbeats 2000000 in
set_option maxRecDepth 20000 in
theorem t_X7_makes (l : Launch) {S : St}  {a1 : Int32} {a2 : Int32} {a3 : Int32} {r : (Int32 × St)} (h : f_X7_makes a1 a2 a3 S = some r) : CT l yX7_makes M_X7_makes [.ref 0, .int a1, .int a2, .int a3] S (some (.int r.1)) r.2 := by
  rw [f_X7_makes] at h
  refine ct_of (lv := [(0, .ref 0), (1, .int a1), (2, .int a2), (3, .int a3)]) (by decide) rfl (Nat.le_of_ble_eq_true rfl) ?_
  refine z_aload_n 0 dX7_makes_0 rfl ?_
  refine z_get (v := .ref 1) dX7_makes_1 fl_7_12 kdl_0 rfl ?_
  refine z_iload_n 1 dX7_makes_4 rfl ?_
  obtain ⟨v1, hv1, h⟩ := ob h
  refine z_callV (as := [.int a1]) dX7_makes_5 ml_7_98 mv_X3_lacks (t_X3_lacks l kdl_1 hv1) kdl_1 ⟨by decide, rfl⟩ rfl rfl (Nat.le_of_ble_eq_true rfl) ⟨Nat.le_of_ble_eq_true rfl, Nat.le_of_ble_eq_true rfl⟩ rfl ?_
  refine z_if_ne (tgt := 18) dX7_makes_8 (by decide) (fun c2 => ?_) (fun c2 => ?_)
  · replace h := ig c2 h
    refine z_aload_n 0 dX7_makes_18 rfl ?_
    refine z_iconst (v := (-1)) dX7_makes_19 rfl ?_
    obtain ⟨z3, hz3, h⟩ := ob h
    refine z_callV (as := [.int (-1)]) dX7_makes_20 ml_7_71 mv_X7_refuse (t_X7_refuse l hz3) kdl_0 ⟨by decide, rfl⟩ rfl rfl (Nat.le_of_ble_eq_true rfl) ⟨Nat.le_of_ble_eq_true rfl, Nat.le_of_ble_eq_true rfl⟩ rfl ?_
    obtain rfl := Option.some.inj h
    exact z_iret dX7_makes_23 rfl rfl
  · replace h := ip c2 h
    refine z_iload_n 2 dX7_makes_11 rfl ?_
    obtain ⟨v4, hv4, h⟩ := ob h
    refine z_callS (as := [.int a2]) dX7_makes_12 ml_7_124 ms_X7_noYear (t_X7_noYear l _ hv4) rfl rfl (Nat.le_of_ble_eq_true rfl) ⟨Nat.le_of_ble_eq_true rfl, Nat.le_of_ble_eq_true rfl⟩ rfl ?_
    refine z_if_eq (tgt := 24) dX7_makes_15 (by decide) (fun c5 => ?_) (fun c5 => ?_)
    · replace h := ip c5 h
      refine z_iload_n 3 dX7_makes_24 rfl ?_
      refine z_iconst (v := 0) dX7_makes_25 rfl ?_
      refine z_bipush (v := 99) dX7_makes_26 rfl ?_
      obtain ⟨v6, hv6, h⟩ := ob h
      refine z_callS (as := [.int a3, .int 0, .int 99]) dX7_makes_28 ml_7_137 ms_X7_outside (t_X7_outside l _ hv6) rfl rfl (Nat.le_of_ble_eq_true rfl) ⟨Nat.le_of_ble_eq_true rfl, Nat.le_of_ble_eq_true rfl⟩ rfl ?_
      refine z_istore (lv' := [(0, .ref 0), (1, .int a1), (2, .int a2), (3, .int a3), (4, .int v6)]) [1, 2, 3, 4, 0] dX7_makes_31 (Nat.le_of_ble_eq_true rfl) rfl ?_
      refine z_iload 4 dX7_makes_33 rfl ?_
      refine z_if_eq (tgt := 45) dX7_makes_35 (by decide) (fun c7 => ?_) (fun c7 => ?_)
      · replace h := ip c7 h
        refine z_aload_n 0 dX7_makes_45 rfl ?_
        refine z_get (v := .ref 1) dX7_makes_46 fl_7_12 kdl_0 rfl ?_
        refine z_iload_n 1 dX7_makes_49 rfl ?_
        obtain ⟨v8, hv8, h⟩ := ob h
        refine z_callV (as := [.int a1]) dX7_makes_50 ml_7_102 mv_X3_at (t_X3_at l kdl_1 hv8) kdl_1 ⟨by decide, rfl⟩ rfl rfl (Nat.le_of_ble_eq_true rfl) ⟨Nat.le_of_ble_eq_true rfl, Nat.le_of_ble_eq_true rfl⟩ rfl ?_
        refine z_astore (lv' := [(0, .ref 0), (1, .int a1), (2, .int a2), (3, .int a3), (4, .int v6), (5, .ref v8)]) [1, 2, 3, 4, 5, 0] dX7_makes_53 (Nat.le_of_ble_eq_true rfl) rfl ?_
        refine z_aload 5 dX7_makes_55 rfl ?_
        refine z_iload_n 2 dX7_makes_57 rfl ?_
        obtain ⟨v9, hv9, h⟩ := ob h
        refine z_callV (as := [.int a2]) dX7_makes_58 ml_7_127 mv_X6_gladIn (t_X6_gladIn l (kd_at kdl_1 hv8) hv9) (kd_at kdl_1 hv8) ⟨by decide, rfl⟩ rfl rfl (Nat.le_of_ble_eq_true rfl) ⟨Nat.le_of_ble_eq_true rfl, Nat.le_of_ble_eq_true rfl⟩ rfl ?_
        refine z_istore (lv' := [(0, .ref 0), (1, .int a1), (2, .int a2), (3, .int a3), (4, .int v6), (5, .ref v8), (6, .int v9)]) [1, 2, 3, 4, 5, 6, 0] dX7_makes_61 (Nat.le_of_ble_eq_true rfl) rfl ?_
        refine z_aload 5 dX7_makes_63 rfl ?_
        refine z_iload_n 2 dX7_makes_65 rfl ?_
        refine z_iload_n 3 dX7_makes_66 rfl ?_
        obtain ⟨S10, hS10, h⟩ := ob h
        refine z_callV (as := [.int a2, .int a3]) dX7_makes_67 ml_7_141 mv_X6_makeGlad (t_X6_makeGlad l (kd_at kdl_1 hv8) hS10) (kd_at kdl_1 hv8) ⟨by decide, rfl⟩ rfl rfl (Nat.le_of_ble_eq_true rfl) ⟨Nat.le_of_ble_eq_true rfl, Nat.le_of_ble_eq_true rfl⟩ rfl ?_
        refine z_iload 6 dX7_makes_70 rfl ?_
        obtain rfl := Option.some.inj h
        exact z_iret dX7_makes_72 rfl rfl
      · replace h := ig c7 h
        refine z_aload_n 0 dX7_makes_38 rfl ?_
        refine z_iload 4 dX7_makes_39 rfl ?_
        obtain ⟨z11, hz11, h⟩ := ob h
        refine z_callV (as := [.int v6]) dX7_makes_41 ml_7_71 mv_X7_refuse (t_X7_refuse l hz11) kdl_0 ⟨by decide, rfl⟩ rfl rfl (Nat.le_of_ble_eq_true rfl) ⟨Nat.le_of_ble_eq_true rfl, Nat.le_of_ble_eq_true rfl⟩ rfl ?_
        obtain rfl := Option.some.inj h
        exact z_iret dX7_makes_44 rfl rfl
    · replace h := ig c5 h
      refine z_aload_n 0 dX7_makes_18 rfl ?_
      refine z_iconst (v := (-1)) dX7_makes_19 rfl ?_
      obtain ⟨z12, hz12, h⟩ := ob h
      refine z_callV (as := [.int (-1)]) dX7_makes_20 ml_7_71 mv_X7_refuse (t_X7_refuse l hz12) kdl_0 ⟨by decide, rfl⟩ rfl rfl (Nat.le_of_ble_eq_true rfl) ⟨Nat.le_of_ble_eq_true rfl, Nat.le_of_ble_eq_true rfl⟩ rfl ?_
      obtain rfl := Option.some.inj h
      exact z_iret dX7_makes_23 rfl rfl
set_option maxHeartbeats 2000000 in
set_option maxRecDepth 20000 in
theorem t_X7_pairs (l : Launch) {S : St}  {a1 : Int32} {a2 : Int32} {r : (Int32 × St)} (h : f_X7_pairs a1 a2 S = some r) : CT l yX7_pairs M_X7_pairs [.ref 0, .int a1, .int a2] S (some (.int r.1)) r.2 := by
  rw [f_X7_pairs] at h
  refine ct_of (lv := [(0, .ref 0), (1, .int a1), (2, .int a2)]) (by decide) rfl (Nat.le_of_ble_eq_true rfl) ?_
  refine z_aload_n 0 dX7_pairs_0 rfl ?_
  refine z_get (v := .ref 1) dX7_pairs_1 fl_7_12 kdl_0 rfl ?_
  refine z_iload_n 1 dX7_pairs_4 rfl ?_
  refine z_iload_n 2 dX7_pairs_5 rfl ?_
  obtain ⟨v1, hv1, h⟩ := ob h
  refine z_callV (as := [.int a1, .int a2]) dX7_pairs_6 ml_7_130 mv_X3_lacksTwo (t_X3_lacksTwo l kdl_1 hv1) kdl_1 ⟨by decide, rfl⟩ rfl rfl (Nat.le_of_ble_eq_true rfl) ⟨Nat.le_of_ble_eq_true rfl, Nat.le_of_ble_eq_true rfl⟩ rfl ?_
  refine z_if_eq (tgt := 18) dX7_pairs_9 (by decide) (fun c2 => ?_) (fun c2 => ?_)
  · replace h := ip c2 h
    refine z_aload_n 0 dX7_pairs_18 rfl ?_
    refine z_get (v := .ref 1) dX7_pairs_19 fl_7_12 kdl_0 rfl ?_
    refine z_iload_n 1 dX7_pairs_22 rfl ?_
    refine z_iload_n 2 dX7_pairs_23 rfl ?_
    obtain ⟨z3, hz3, h⟩ := ob h
    refine z_callV (as := [.int a1, .int a2]) dX7_pairs_24 ml_7_145 mv_X3_turnHalves (t_X3_turnHalves l kdl_1 hz3) kdl_1 ⟨by decide, rfl⟩ rfl rfl (Nat.le_of_ble_eq_true rfl) ⟨Nat.le_of_ble_eq_true rfl, Nat.le_of_ble_eq_true rfl⟩ rfl ?_
    refine z_pop dX7_pairs_27 rfl ?_
    refine z_aload_n 0 dX7_pairs_28 rfl ?_
    refine z_get (v := .ref 1) dX7_pairs_29 fl_7_12 kdl_0 rfl ?_
    refine z_iload_n 1 dX7_pairs_32 rfl ?_
    refine z_iload_n 2 dX7_pairs_33 rfl ?_
    obtain ⟨v4, hv4, h⟩ := ob h
    refine z_callV (as := [.int a1, .int a2]) dX7_pairs_34 ml_7_134 mv_X3_areHalves (t_X3_areHalves l kdl_1 hv4) kdl_1 ⟨by decide, rfl⟩ rfl rfl (Nat.le_of_ble_eq_true rfl) ⟨Nat.le_of_ble_eq_true rfl, Nat.le_of_ble_eq_true rfl⟩ rfl ?_
    refine z_if_eq (tgt := 44) dX7_pairs_37 (by decide) (fun c5 => ?_) (fun c5 => ?_)
    · replace h := ip c5 h
      refine z_iconst (v := 0) dX7_pairs_44 rfl ?_
      obtain rfl := Option.some.inj h
      exact z_iret dX7_pairs_45 rfl rfl
    · replace h := ig c5 h
      refine z_iconst (v := 1) dX7_pairs_40 rfl ?_
      refine z_goto (tgt := 45) dX7_pairs_41 (by decide) ?_
      obtain rfl := Option.some.inj h
      exact z_iret dX7_pairs_45 rfl rfl
  · replace h := ig c2 h
    refine z_aload_n 0 dX7_pairs_12 rfl ?_
    refine z_iconst (v := (-1)) dX7_pairs_13 rfl ?_
    obtain ⟨z6, hz6, h⟩ := ob h
    refine z_callV (as := [.int (-1)]) dX7_pairs_14 ml_7_71 mv_X7_refuse (t_X7_refuse l hz6) kdl_0 ⟨by decide, rfl⟩ rfl rfl (Nat.le_of_ble_eq_true rfl) ⟨Nat.le_of_ble_eq_true rfl, Nat.le_of_ble_eq_true rfl⟩ rfl ?_
    obtain rfl := Option.some.inj h
    exact z_iret dX7_pairs_17 rfl rfl
set_option maxHeartbeats 2000000 in
set_option maxRecDepth 20000 in
theorem t_X7_now (l : Launch) {S : St}  {a1 : Int32} {r : (Int32 × St)} (h : f_X7_now a1 S = some r) : CT l yX7_now M_X7_now [.ref 0, .int a1] S (some (.int r.1)) r.2 := by
  rw [f_X7_now] at h
  refine ct_of (lv := [(0, .ref 0), (1, .int a1)]) (by decide) rfl (Nat.le_of_ble_eq_true rfl) ?_
  refine z_iload_n 1 dX7_now_0 rfl ?_
  obtain ⟨v1, hv1, h⟩ := ob h
  refine z_callS (as := [.int a1]) dX7_now_1 ml_7_124 ms_X7_noYear (t_X7_noYear l _ hv1) rfl rfl (Nat.le_of_ble_eq_true rfl) ⟨Nat.le_of_ble_eq_true rfl, Nat.le_of_ble_eq_true rfl⟩ rfl ?_
  refine z_if_eq (tgt := 13) dX7_now_4 (by decide) (fun c2 => ?_) (fun c2 => ?_)
  · replace h := ip c2 h
    refine z_aload_n 0 dX7_now_13 rfl ?_
    refine z_get (v := .ref 1) dX7_now_14 fl_7_12 kdl_0 rfl ?_
    refine z_get (v := .int (S.1 1 1)) dX7_now_17 fl_7_115 kdl_1 rfl ?_
    refine z_istore_n (lv' := [(0, .ref 0), (1, .int a1), (2, .int (S.1 1 1))]) [1, 2, 0] dX7_now_20 (Nat.le_of_ble_eq_true rfl) rfl ?_
    refine z_aload_n 0 dX7_now_21 rfl ?_
    refine z_get (v := .ref 1) dX7_now_22 fl_7_12 kdl_0 rfl ?_
    refine z_iload_n 1 dX7_now_25 rfl ?_
    refine z_put (fk := 1) dX7_now_26 fl_7_115 fp_3_1 kdl_1 rfl rfl rfl (Nat.le_of_ble_eq_true rfl) ?_
    refine z_iload_n 2 dX7_now_29 rfl ?_
    obtain rfl := Option.some.inj h
    exact z_iret dX7_now_30 rfl rfl
  · replace h := ig c2 h
    refine z_aload_n 0 dX7_now_7 rfl ?_
    refine z_iconst (v := (-1)) dX7_now_8 rfl ?_
    obtain ⟨z3, hz3, h⟩ := ob h
    refine z_callV (as := [.int (-1)]) dX7_now_9 ml_7_71 mv_X7_refuse (t_X7_refuse l hz3) kdl_0 ⟨by decide, rfl⟩ rfl rfl (Nat.le_of_ble_eq_true rfl) ⟨Nat.le_of_ble_eq_true rfl, Nat.le_of_ble_eq_true rfl⟩ rfl ?_
    obtain rfl := Option.some.inj h
    exact z_iret dX7_now_12 rfl rfl
set_option maxHeartbeats 2000000 in
set_option maxRecDepth 20000 in
theorem t_X7_hands (l : Launch) {S : St}  {a1 : Int32} {r : (Int32 × St)} (h : f_X7_hands a1 S = some r) : CT l yX7_hands M_X7_hands [.ref 0, .int a1] S (some (.int r.1)) r.2 := by
  rw [f_X7_hands] at h
  refine ct_of (lv := [(0, .ref 0), (1, .int a1)]) (by decide) rfl (Nat.le_of_ble_eq_true rfl) ?_
  refine z_iload_n 1 dX7_hands_0 rfl ?_
  refine z_iconst (v := 1) dX7_hands_1 rfl ?_
  refine z_iconst (v := 4) dX7_hands_2 rfl ?_
  obtain ⟨v1, hv1, h⟩ := ob h
  refine z_callS (as := [.int a1, .int 1, .int 4]) dX7_hands_3 ml_7_137 ms_X7_outside (t_X7_outside l _ hv1) rfl rfl (Nat.le_of_ble_eq_true rfl) ⟨Nat.le_of_ble_eq_true rfl, Nat.le_of_ble_eq_true rfl⟩ rfl ?_
  refine z_istore_n (lv' := [(0, .ref 0), (1, .int a1), (2, .int v1)]) [1, 2, 0] dX7_hands_6 (Nat.le_of_ble_eq_true rfl) rfl ?_
  refine z_iload_n 2 dX7_hands_7 rfl ?_
  refine z_if_eq (tgt := 17) dX7_hands_8 (by decide) (fun c2 => ?_) (fun c2 => ?_)
  · replace h := ip c2 h
    refine z_aload_n 0 dX7_hands_17 rfl ?_
    refine z_get (v := .ref 1) dX7_hands_18 fl_7_12 kdl_0 rfl ?_
    refine z_get (v := .int (S.1 1 3)) dX7_hands_21 fl_7_148 kdl_1 rfl ?_
    refine z_istore_n (lv' := [(0, .ref 0), (1, .int a1), (2, .int v1), (3, .int (S.1 1 3))]) [1, 2, 3, 0] dX7_hands_24 (Nat.le_of_ble_eq_true rfl) rfl ?_
    refine z_aload_n 0 dX7_hands_25 rfl ?_
    refine z_get (v := .ref 1) dX7_hands_26 fl_7_12 kdl_0 rfl ?_
    refine z_iload_n 1 dX7_hands_29 rfl ?_
    refine z_put (fk := 3) dX7_hands_30 fl_7_148 fp_3_3 kdl_1 rfl rfl rfl (Nat.le_of_ble_eq_true rfl) ?_
    refine z_iload_n 3 dX7_hands_33 rfl ?_
    obtain rfl := Option.some.inj h
    exact z_iret dX7_hands_34 rfl rfl
  · replace h := ig c2 h
    refine z_aload_n 0 dX7_hands_11 rfl ?_
    refine z_iload_n 2 dX7_hands_12 rfl ?_
    obtain ⟨z3, hz3, h⟩ := ob h
    refine z_callV (as := [.int v1]) dX7_hands_13 ml_7_71 mv_X7_refuse (t_X7_refuse l hz3) kdl_0 ⟨by decide, rfl⟩ rfl rfl (Nat.le_of_ble_eq_true rfl) ⟨Nat.le_of_ble_eq_true rfl, Nat.le_of_ble_eq_true rfl⟩ rfl ?_
    obtain rfl := Option.some.inj h
    exact z_iret dX7_hands_16 rfl rfl
set_option maxHeartbeats 2000000 in
set_option maxRecDepth 20000 in
theorem t_X7_pours (l : Launch) {S : St}  {a1 : Int32} {r : (Int32 × St)} (h : f_X7_pours a1 S = some r) : CT l yX7_pours M_X7_pours [.ref 0, .int a1] S (some (.int r.1)) r.2 := by
  rw [f_X7_pours] at h
  refine ct_of (lv := [(0, .ref 0), (1, .int a1)]) (by decide) rfl (Nat.le_of_ble_eq_true rfl) ?_
  refine z_iload_n 1 dX7_pours_0 rfl ?_
  refine z_iconst (v := 0) dX7_pours_1 rfl ?_
  refine z_bipush (v := 99) dX7_pours_2 rfl ?_
  obtain ⟨v1, hv1, h⟩ := ob h
  refine z_callS (as := [.int a1, .int 0, .int 99]) dX7_pours_4 ml_7_137 ms_X7_outside (t_X7_outside l _ hv1) rfl rfl (Nat.le_of_ble_eq_true rfl) ⟨Nat.le_of_ble_eq_true rfl, Nat.le_of_ble_eq_true rfl⟩ rfl ?_
  refine z_istore_n (lv' := [(0, .ref 0), (1, .int a1), (2, .int v1)]) [1, 2, 0] dX7_pours_7 (Nat.le_of_ble_eq_true rfl) rfl ?_
  refine z_iload_n 2 dX7_pours_8 rfl ?_
  refine z_if_eq (tgt := 18) dX7_pours_9 (by decide) (fun c2 => ?_) (fun c2 => ?_)
  · replace h := ip c2 h
    refine z_aload_n 0 dX7_pours_18 rfl ?_
    refine z_get (v := .ref 1) dX7_pours_19 fl_7_12 kdl_0 rfl ?_
    refine z_get (v := .int (S.1 1 2)) dX7_pours_22 fl_7_151 kdl_1 rfl ?_
    refine z_istore_n (lv' := [(0, .ref 0), (1, .int a1), (2, .int v1), (3, .int (S.1 1 2))]) [1, 2, 3, 0] dX7_pours_25 (Nat.le_of_ble_eq_true rfl) rfl ?_
    refine z_aload_n 0 dX7_pours_26 rfl ?_
    refine z_get (v := .ref 1) dX7_pours_27 fl_7_12 kdl_0 rfl ?_
    refine z_iload_n 1 dX7_pours_30 rfl ?_
    refine z_put (fk := 2) dX7_pours_31 fl_7_151 fp_3_2 kdl_1 rfl rfl rfl (Nat.le_of_ble_eq_true rfl) ?_
    refine z_iload_n 3 dX7_pours_34 rfl ?_
    obtain rfl := Option.some.inj h
    exact z_iret dX7_pours_35 rfl rfl
  · replace h := ig c2 h
    refine z_aload_n 0 dX7_pours_12 rfl ?_
    refine z_iload_n 2 dX7_pours_13 rfl ?_
    obtain ⟨z3, hz3, h⟩ := ob h
    refine z_callV (as := [.int v1]) dX7_pours_14 ml_7_71 mv_X7_refuse (t_X7_refuse l hz3) kdl_0 ⟨by decide, rfl⟩ rfl rfl (Nat.le_of_ble_eq_true rfl) ⟨Nat.le_of_ble_eq_true rfl, Nat.le_of_ble_eq_true rfl⟩ rfl ?_
    obtain rfl := Option.some.inj h
    exact z_iret dX7_pours_17 rfl rfl
set_option maxHeartbeats 2000000 in
set_option maxRecDepth 20000 in
theorem t_X7_heldRefusal (l : Launch) {S : St}  {a1 : Int32} {a2 : Int32} {a3 : Int32} {r : Int32} (h : f_X7_heldRefusal a1 a2 a3 S = some r) : CT l yX7_heldRefusal M_X7_heldRefusal [.ref 0, .int a1, .int a2, .int a3] S (some (.int r)) S := by
  rw [f_X7_heldRefusal] at h
  refine ct_of (lv := [(0, .ref 0), (1, .int a1), (2, .int a2), (3, .int a3)]) (by decide) rfl (Nat.le_of_ble_eq_true rfl) ?_
  refine z_aload_n 0 dX7_heldRefusal_0 rfl ?_
  refine z_get (v := .ref 1) dX7_heldRefusal_1 fl_7_12 kdl_0 rfl ?_
  refine z_iload_n 1 dX7_heldRefusal_4 rfl ?_
  obtain ⟨v1, hv1, h⟩ := ob h
  refine z_callV (as := [.int a1]) dX7_heldRefusal_5 ml_7_98 mv_X3_lacks (t_X3_lacks l kdl_1 hv1) kdl_1 ⟨by decide, rfl⟩ rfl rfl (Nat.le_of_ble_eq_true rfl) ⟨Nat.le_of_ble_eq_true rfl, Nat.le_of_ble_eq_true rfl⟩ rfl ?_
  refine z_if_eq (tgt := 13) dX7_heldRefusal_8 (by decide) (fun c2 => ?_) (fun c2 => ?_)
  · replace h := ip c2 h
    refine z_iload_n 2 dX7_heldRefusal_13 rfl ?_
    refine z_if_lt (tgt := 21) dX7_heldRefusal_14 (by decide) (fun c3 => ?_) (fun c3 => ?_)
    · replace h := ip c3 h
      refine z_bipush (v := (-4)) dX7_heldRefusal_21 rfl ?_
      obtain rfl := Option.some.inj h
      exact z_iret dX7_heldRefusal_23 rfl rfl
    · replace h := ig c3 h
      refine z_iload_n 3 dX7_heldRefusal_17 rfl ?_
      refine z_if_ge (tgt := 24) dX7_heldRefusal_18 (by decide) (fun c4 => ?_) (fun c4 => ?_)
      · replace h := ip c4 h
        refine z_iload_n 2 dX7_heldRefusal_24 rfl ?_
        refine z_bipush (v := 99) dX7_heldRefusal_25 rfl ?_
        refine z_icmp_gt (tgt := 36) dX7_heldRefusal_27 (by decide) (fun c5 => ?_) (fun c5 => ?_)
        · replace h := ip c5 h
          refine z_bipush (v := (-6)) dX7_heldRefusal_36 rfl ?_
          refine z_goto (tgt := 42) dX7_heldRefusal_38 (by decide) ?_
          obtain rfl := Option.some.inj h
          exact z_iret dX7_heldRefusal_42 rfl rfl
        · replace h := ig c5 h
          refine z_iload_n 3 dX7_heldRefusal_30 rfl ?_
          refine z_bipush (v := 9) dX7_heldRefusal_31 rfl ?_
          refine z_icmp_le (tgt := 41) dX7_heldRefusal_33 (by decide) (fun c6 => ?_) (fun c6 => ?_)
          · replace h := ip c6 h
            refine z_iconst (v := 0) dX7_heldRefusal_41 rfl ?_
            obtain rfl := Option.some.inj h
            exact z_iret dX7_heldRefusal_42 rfl rfl
          · replace h := ig c6 h
            refine z_bipush (v := (-6)) dX7_heldRefusal_36 rfl ?_
            refine z_goto (tgt := 42) dX7_heldRefusal_38 (by decide) ?_
            obtain rfl := Option.some.inj h
            exact z_iret dX7_heldRefusal_42 rfl rfl
      · replace h := ig c4 h
        refine z_bipush (v := (-4)) dX7_heldRefusal_21 rfl ?_
        obtain rfl := Option.some.inj h
        exact z_iret dX7_heldRefusal_23 rfl rfl
  · replace h := ig c2 h
    refine z_iconst (v := (-1)) dX7_heldRefusal_11 rfl ?_
    obtain rfl := Option.some.inj h
    exact z_iret dX7_heldRefusal_12 rfl rfl
set_option maxHeartbeats 2000000 in
set_option maxRecDepth 20000 in
theorem t_X7_glues (l : Launch) {S : St}  {a1 : Int32} {a2 : Int32} {a3 : Int32} {r : (Int32 × St)} (h : f_X7_glues a1 a2 a3 S = some r) : CT l yX7_glues M_X7_glues [.ref 0, .int a1, .int a2, .int a3] S (some (.int r.1)) r.2 := by
  rw [f_X7_glues] at h
  refine ct_of (lv := [(0, .ref 0), (1, .int a1), (2, .int a2), (3, .int a3)]) (by decide) rfl (Nat.le_of_ble_eq_true rfl) ?_
  refine z_aload_n 0 dX7_glues_0 rfl ?_
  refine z_iload_n 1 dX7_glues_1 rfl ?_
  refine z_iload_n 2 dX7_glues_2 rfl ?_
  refine z_iload_n 3 dX7_glues_3 rfl ?_
  obtain ⟨v1, hv1, h⟩ := ob h
  refine z_callV (as := [.int a1, .int a2, .int a3]) dX7_glues_4 ml_7_154 mv_X7_heldRefusal (t_X7_heldRefusal l hv1) kdl_0 ⟨by decide, rfl⟩ rfl rfl (Nat.le_of_ble_eq_true rfl) ⟨Nat.le_of_ble_eq_true rfl, Nat.le_of_ble_eq_true rfl⟩ rfl ?_
  refine z_istore (lv' := [(0, .ref 0), (1, .int a1), (2, .int a2), (3, .int a3), (4, .int v1)]) [1, 2, 3, 4, 0] dX7_glues_7 (Nat.le_of_ble_eq_true rfl) rfl ?_
  refine z_iload 4 dX7_glues_9 rfl ?_
  refine z_if_eq (tgt := 21) dX7_glues_11 (by decide) (fun c2 => ?_) (fun c2 => ?_)
  · replace h := ip c2 h
    refine z_aload_n 0 dX7_glues_21 rfl ?_
    refine z_get (v := .ref 1) dX7_glues_22 fl_7_12 kdl_0 rfl ?_
    refine z_iload_n 1 dX7_glues_25 rfl ?_
    refine z_iload_n 2 dX7_glues_26 rfl ?_
    refine z_iload_n 3 dX7_glues_27 rfl ?_
    obtain ⟨z3, hz3, h⟩ := ob h
    refine z_callV (as := [.int a1, .int a2, .int a3]) dX7_glues_28 ml_7_157 mv_X3_glue (t_X3_glue l kdl_1 hz3) kdl_1 ⟨by decide, rfl⟩ rfl rfl (Nat.le_of_ble_eq_true rfl) ⟨Nat.le_of_ble_eq_true rfl, Nat.le_of_ble_eq_true rfl⟩ rfl ?_
    refine z_if_ne (tgt := 41) dX7_glues_31 (by decide) (fun c4 => ?_) (fun c4 => ?_)
    · replace h := ig c4 h
      refine z_aload_n 0 dX7_glues_41 rfl ?_
      refine z_get (v := .ref 1) dX7_glues_42 fl_7_12 kdl_0 rfl ?_
      refine z_iload_n 1 dX7_glues_45 rfl ?_
      obtain ⟨v5, hv5, h⟩ := ob h
      refine z_callV (as := [.int a1]) dX7_glues_46 ml_7_102 mv_X3_at (t_X3_at l kdl_1 hv5) kdl_1 ⟨by decide, rfl⟩ rfl rfl (Nat.le_of_ble_eq_true rfl) ⟨Nat.le_of_ble_eq_true rfl, Nat.le_of_ble_eq_true rfl⟩ rfl ?_
      refine z_get (v := .int (z3.2.1 v5 2)) dX7_glues_49 fl_7_112 (kd_at kdl_1 hv5) rfl ?_
      obtain rfl := Option.some.inj h
      exact z_iret dX7_glues_52 rfl rfl
    · replace h := ip c4 h
      refine z_aload_n 0 dX7_glues_34 rfl ?_
      refine z_bipush (v := (-3)) dX7_glues_35 rfl ?_
      obtain ⟨z6, hz6, h⟩ := ob h
      refine z_callV (as := [.int (-3)]) dX7_glues_37 ml_7_71 mv_X7_refuse (t_X7_refuse l hz6) kdl_0 ⟨by decide, rfl⟩ rfl rfl (Nat.le_of_ble_eq_true rfl) ⟨Nat.le_of_ble_eq_true rfl, Nat.le_of_ble_eq_true rfl⟩ rfl ?_
      obtain rfl := Option.some.inj h
      exact z_iret dX7_glues_40 rfl rfl
  · replace h := ig c2 h
    refine z_aload_n 0 dX7_glues_14 rfl ?_
    refine z_iload 4 dX7_glues_15 rfl ?_
    obtain ⟨z7, hz7, h⟩ := ob h
    refine z_callV (as := [.int v1]) dX7_glues_17 ml_7_71 mv_X7_refuse (t_X7_refuse l hz7) kdl_0 ⟨by decide, rfl⟩ rfl rfl (Nat.le_of_ble_eq_true rfl) ⟨Nat.le_of_ble_eq_true rfl, Nat.le_of_ble_eq_true rfl⟩ rfl ?_
    obtain rfl := Option.some.inj h
    exact z_iret dX7_glues_20 rfl rfl
set_option maxHeartbeats 2000000 in
set_option maxRecDepth 20000 in
theorem t_X7_washes (l : Launch) {S : St}  {a1 : Int32} {r : (Int32 × St)} (h : f_X7_washes a1 S = some r) : CT l yX7_washes M_X7_washes [.ref 0, .int a1] S (some (.int r.1)) r.2 := by
  rw [f_X7_washes] at h
  refine ct_of (lv := [(0, .ref 0), (1, .int a1)]) (by decide) rfl (Nat.le_of_ble_eq_true rfl) ?_
  refine z_aload_n 0 dX7_washes_0 rfl ?_
  refine z_get (v := .ref 1) dX7_washes_1 fl_7_12 kdl_0 rfl ?_
  refine z_iload_n 1 dX7_washes_4 rfl ?_
  obtain ⟨v1, hv1, h⟩ := ob h
  refine z_callV (as := [.int a1]) dX7_washes_5 ml_7_98 mv_X3_lacks (t_X3_lacks l kdl_1 hv1) kdl_1 ⟨by decide, rfl⟩ rfl rfl (Nat.le_of_ble_eq_true rfl) ⟨Nat.le_of_ble_eq_true rfl, Nat.le_of_ble_eq_true rfl⟩ rfl ?_
  refine z_if_eq (tgt := 17) dX7_washes_8 (by decide) (fun c2 => ?_) (fun c2 => ?_)
  · replace h := ip c2 h
    refine z_aload_n 0 dX7_washes_17 rfl ?_
    refine z_get (v := .ref 1) dX7_washes_18 fl_7_12 kdl_0 rfl ?_
    refine z_iload_n 1 dX7_washes_21 rfl ?_
    obtain ⟨v3, hv3, h⟩ := ob h
    refine z_callV (as := [.int a1]) dX7_washes_22 ml_7_102 mv_X3_at (t_X3_at l kdl_1 hv3) kdl_1 ⟨by decide, rfl⟩ rfl rfl (Nat.le_of_ble_eq_true rfl) ⟨Nat.le_of_ble_eq_true rfl, Nat.le_of_ble_eq_true rfl⟩ rfl ?_
    refine z_astore_n (lv' := [(0, .ref 0), (1, .int a1), (2, .ref v3)]) [1, 2, 0] dX7_washes_25 (Nat.le_of_ble_eq_true rfl) rfl ?_
    refine z_aload_n 2 dX7_washes_26 rfl ?_
    obtain ⟨v4, hv4, h⟩ := ob h
    refine z_callV (as := []) dX7_washes_27 ml_7_161 mv_X6_isSet (t_X6_isSet l (kd_at kdl_1 hv3) hv4) (kd_at kdl_1 hv3) ⟨by decide, rfl⟩ rfl rfl (Nat.le_of_ble_eq_true rfl) ⟨Nat.le_of_ble_eq_true rfl, Nat.le_of_ble_eq_true rfl⟩ rfl ?_
    refine z_if_ne (tgt := 40) dX7_washes_30 (by decide) (fun c5 => ?_) (fun c5 => ?_)
    · replace h := ig c5 h
      refine z_aload_n 2 dX7_washes_40 rfl ?_
      refine z_get (v := .int (S.1 v3 2)) dX7_washes_41 fl_7_112 (kd_at kdl_1 hv3) rfl ?_
      refine z_istore_n (lv' := [(0, .ref 0), (1, .int a1), (2, .ref v3), (3, .int (S.1 v3 2))]) [1, 2, 3, 0] dX7_washes_44 (Nat.le_of_ble_eq_true rfl) rfl ?_
      refine z_aload_n 2 dX7_washes_45 rfl ?_
      refine z_bipush (v := (-9)) dX7_washes_46 rfl ?_
      refine z_put (fk := 2) dX7_washes_48 fl_7_112 fp_6_2 (kd_at kdl_1 hv3) rfl rfl rfl (Nat.le_of_ble_eq_true rfl) ?_
      refine z_iload_n 3 dX7_washes_51 rfl ?_
      obtain rfl := Option.some.inj h
      exact z_iret dX7_washes_52 rfl rfl
    · replace h := ip c5 h
      refine z_aload_n 0 dX7_washes_33 rfl ?_
      refine z_bipush (v := (-3)) dX7_washes_34 rfl ?_
      obtain ⟨z6, hz6, h⟩ := ob h
      refine z_callV (as := [.int (-3)]) dX7_washes_36 ml_7_71 mv_X7_refuse (t_X7_refuse l hz6) kdl_0 ⟨by decide, rfl⟩ rfl rfl (Nat.le_of_ble_eq_true rfl) ⟨Nat.le_of_ble_eq_true rfl, Nat.le_of_ble_eq_true rfl⟩ rfl ?_
      obtain rfl := Option.some.inj h
      exact z_iret dX7_washes_39 rfl rfl
  · replace h := ig c2 h
    refine z_aload_n 0 dX7_washes_11 rfl ?_
    refine z_iconst (v := (-1)) dX7_washes_12 rfl ?_
    obtain ⟨z7, hz7, h⟩ := ob h
    refine z_callV (as := [.int (-1)]) dX7_washes_13 ml_7_71 mv_X7_refuse (t_X7_refuse l hz7) kdl_0 ⟨by decide, rfl⟩ rfl rfl (Nat.le_of_ble_eq_true rfl) ⟨Nat.le_of_ble_eq_true rfl, Nat.le_of_ble_eq_true rfl⟩ rfl ?_
    obtain rfl := Option.some.inj h
    exact z_iret dX7_washes_16 rfl rfl
