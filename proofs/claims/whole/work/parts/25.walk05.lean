set_option maxHeartbeats 2000000 in
set_option maxRecDepth 20000 in
theorem t_X8_reach (l : Launch) {S : St} {q0 : Nat} (hq0 : kd q0 = 17) {a1 : Int32} {a2 : Int32} {a3 : Int32} {r : Int32} (h : f_X8_reach q0 a1 a2 a3 S = some r) : CT l yX8_reach M_X8_reach [.ref q0, .int a1, .int a2, .int a3] S (some (.int r)) S := by
  rw [f_X8_reach] at h
  refine ct_of (lv := [(0, .ref q0), (1, .int a1), (2, .int a2), (3, .int a3)]) (by decide) rfl (Nat.le_of_ble_eq_true rfl) ?_
  refine z_iconst (v := 0) dX8_reach_0 rfl ?_
  refine z_iload_n 2 dX8_reach_1 rfl ?_
  refine z_iconst (v := 5) dX8_reach_2 rfl ?_
  refine z_idiv dX8_reach_3 (by decide) ?_
  refine z_iload_n 3 dX8_reach_4 rfl ?_
  refine z_isub dX8_reach_5 ?_
  obtain ⟨v1, hv1, h⟩ := ob h
  refine z_callS (as := [.int 0, .int ((a2 / 5) - a3)]) dX8_reach_6 ml_8_51 ms_X8_most (t_X8_most l _ hv1) rfl rfl (Nat.le_of_ble_eq_true rfl) ⟨Nat.le_of_ble_eq_true rfl, Nat.le_of_ble_eq_true rfl⟩ rfl ?_
  refine z_istore (lv' := [(0, .ref q0), (1, .int a1), (2, .int a2), (3, .int a3), (4, .int v1)]) [1, 2, 3, 4, 0] dX8_reach_9 (Nat.le_of_ble_eq_true rfl) rfl ?_
  refine z_aload_n 0 dX8_reach_11 rfl ?_
  refine z_iconst (v := 4) dX8_reach_12 rfl ?_
  refine z_iload_n 1 dX8_reach_13 rfl ?_
  refine z_iadd dX8_reach_14 ?_
  obtain ⟨c2, h⟩ := oi h
  refine z_iald dX8_reach_15 hq0 (by decide) c2 ?_
  refine z_istore (lv' := [(0, .ref q0), (1, .int a1), (2, .int a2), (3, .int a3), (4, .int v1), (5, .int (S.1 q0 (4 + a1).toNatClampNeg))]) [1, 2, 3, 4, 5, 0] dX8_reach_16 (Nat.le_of_ble_eq_true rfl) rfl ?_
  refine z_iload 5 dX8_reach_18 rfl ?_
  refine z_iconst (v := 2) dX8_reach_20 rfl ?_
  refine z_icmp_eq (tgt := 30) dX8_reach_21 (by decide) (fun c3 => ?_) (fun c3 => ?_)
  · replace h := ip c3 h
    refine z_iload 4 dX8_reach_30 rfl ?_
    refine z_aload_n 0 dX8_reach_32 rfl ?_
    refine z_bipush (v := 12) dX8_reach_33 rfl ?_
    refine z_iload_n 1 dX8_reach_35 rfl ?_
    refine z_iadd dX8_reach_36 ?_
    obtain ⟨c4, h⟩ := oi h
    refine z_iald dX8_reach_37 hq0 (by decide) c4 ?_
    refine z_iadd dX8_reach_38 ?_
    refine z_goto (tgt := 57) dX8_reach_39 (by decide) ?_
    obtain rfl := Option.some.inj h
    exact z_iret dX8_reach_57 rfl rfl
  · replace h := ig c3 h
    refine z_iload 5 dX8_reach_24 rfl ?_
    refine z_iconst (v := 5) dX8_reach_26 rfl ?_
    refine z_icmp_ne (tgt := 42) dX8_reach_27 (by decide) (fun c5 => ?_) (fun c5 => ?_)
    · replace h := ig c5 h
      refine z_iload 5 dX8_reach_42 rfl ?_
      refine z_iconst (v := 4) dX8_reach_44 rfl ?_
      refine z_icmp_ne (tgt := 55) dX8_reach_45 (by decide) (fun c6 => ?_) (fun c6 => ?_)
      · replace h := ig c6 h
        refine z_iload 4 dX8_reach_55 rfl ?_
        obtain rfl := Option.some.inj h
        exact z_iret dX8_reach_57 rfl rfl
      · replace h := ip c6 h
        refine z_iload 4 dX8_reach_48 rfl ?_
        refine z_iconst (v := 2) dX8_reach_50 rfl ?_
        refine z_idiv dX8_reach_51 (by decide) ?_
        refine z_goto (tgt := 57) dX8_reach_52 (by decide) ?_
        obtain rfl := Option.some.inj h
        exact z_iret dX8_reach_57 rfl rfl
    · replace h := ip c5 h
      refine z_iload 4 dX8_reach_30 rfl ?_
      refine z_aload_n 0 dX8_reach_32 rfl ?_
      refine z_bipush (v := 12) dX8_reach_33 rfl ?_
      refine z_iload_n 1 dX8_reach_35 rfl ?_
      refine z_iadd dX8_reach_36 ?_
      obtain ⟨c7, h⟩ := oi h
      refine z_iald dX8_reach_37 hq0 (by decide) c7 ?_
      refine z_iadd dX8_reach_38 ?_
      refine z_goto (tgt := 57) dX8_reach_39 (by decide) ?_
      obtain rfl := Option.some.inj h
      exact z_iret dX8_reach_57 rfl rfl
set_option maxHeartbeats 2000000 in
set_option maxRecDepth 20000 in
theorem t_X8_counts (l : Launch) {S : St} {q0 : Nat} (hq0 : kd q0 = 17) {a1 : Int32} {a2 : Int32} {r : Int32} (h : f_X8_counts q0 a1 a2 S = some r) : CT l yX8_counts M_X8_counts [.ref q0, .int a1, .int a2] S (some (.int r)) S := by
  rw [f_X8_counts] at h
  refine ct_of (lv := [(0, .ref q0), (1, .int a1), (2, .int a2)]) (by decide) rfl (Nat.le_of_ble_eq_true rfl) ?_
  refine z_aload_n 0 dX8_counts_0 rfl ?_
  refine z_iload_n 1 dX8_counts_1 rfl ?_
  refine z_iload_n 2 dX8_counts_2 rfl ?_
  obtain ⟨v1, hv1, h⟩ := ob h
  refine z_callS (as := [.int a1, .int a2]) dX8_counts_3 ml_8_55 ms_X8_at (t_X8_at l _ hv1) rfl rfl (Nat.le_of_ble_eq_true rfl) ⟨Nat.le_of_ble_eq_true rfl, Nat.le_of_ble_eq_true rfl⟩ rfl ?_
  obtain ⟨c2, h⟩ := oi h
  refine z_iald dX8_counts_6 hq0 (by decide) c2 ?_
  refine z_istore_n (lv' := [(0, .ref q0), (1, .int a1), (2, .int a2), (3, .int (S.1 q0 v1.toNatClampNeg))]) [1, 2, 3, 0] dX8_counts_7 (Nat.le_of_ble_eq_true rfl) rfl ?_
  refine z_aload_n 0 dX8_counts_8 rfl ?_
  refine z_iconst (v := 4) dX8_counts_9 rfl ?_
  refine z_iload_n 1 dX8_counts_10 rfl ?_
  refine z_iadd dX8_counts_11 ?_
  obtain ⟨c3, h⟩ := oi h
  refine z_iald dX8_counts_12 hq0 (by decide) c3 ?_
  refine z_istore (lv' := [(0, .ref q0), (1, .int a1), (2, .int a2), (3, .int (S.1 q0 v1.toNatClampNeg)), (4, .int (S.1 q0 (4 + a1).toNatClampNeg))]) [1, 2, 3, 4, 0] dX8_counts_13 (Nat.le_of_ble_eq_true rfl) rfl ?_
  refine z_iload 4 dX8_counts_15 rfl ?_
  refine z_iconst (v := 5) dX8_counts_17 rfl ?_
  refine z_icmp_ne (tgt := 26) dX8_counts_18 (by decide) (fun c4 => ?_) (fun c4 => ?_)
  · replace h := ig c4 h
    refine z_iload 4 dX8_counts_26 rfl ?_
    refine z_iconst (v := 3) dX8_counts_28 rfl ?_
    refine z_icmp_ne (tgt := 49) dX8_counts_29 (by decide) (fun c5 => ?_) (fun c5 => ?_)
    · replace h := ig c5 h
      refine z_iload_n 3 dX8_counts_49 rfl ?_
      obtain rfl := Option.some.inj h
      exact z_iret dX8_counts_50 rfl rfl
    · replace h := ip c5 h
      refine z_iload_n 3 dX8_counts_32 rfl ?_
      refine z_aload_n 0 dX8_counts_33 rfl ?_
      refine z_bipush (v := 12) dX8_counts_34 rfl ?_
      refine z_iload_n 1 dX8_counts_36 rfl ?_
      refine z_iadd dX8_counts_37 ?_
      obtain ⟨c6, h⟩ := oi h
      refine z_iald dX8_counts_38 hq0 (by decide) c6 ?_
      refine z_aload_n 0 dX8_counts_39 rfl ?_
      refine z_iconst (v := 1) dX8_counts_40 rfl ?_
      refine z_ialdK (j := 1) dX8_counts_41 hq0 (by decide) (by decide) (by decide) ?_
      refine z_iload_n 2 dX8_counts_42 rfl ?_
      refine z_isub dX8_counts_43 ?_
      refine z_imul dX8_counts_44 ?_
      refine z_isub dX8_counts_45 ?_
      refine z_goto (tgt := 50) dX8_counts_46 (by decide) ?_
      obtain rfl := Option.some.inj h
      exact z_iret dX8_counts_50 rfl rfl
  · replace h := ip c4 h
    refine z_iload_n 3 dX8_counts_21 rfl ?_
    refine z_ineg dX8_counts_22 ?_
    refine z_goto (tgt := 50) dX8_counts_23 (by decide) ?_
    obtain rfl := Option.some.inj h
    exact z_iret dX8_counts_50 rfl rfl
set_option maxHeartbeats 2000000 in
set_option maxRecDepth 20000 in
theorem t_X8_yearBy_L36 (l : Launch) {q0 : Nat} (hq0 : kd q0 = 17) : ∀ (n : Nat) (x1 : Int32) (x2 : Int32) (x3 : Int32) (x4 : Int32) (x5 : Int32) (S : St) (k92 : Int32 → Option Int32) (r : Int32), f_X8_yearBy_L36 n q0 x1 x2 x3 x4 x5 S k92 = some r → (∀ (e4 : Int32), k92 e4 = some r → Z l yX8_yearBy M_X8_yearBy 92 [(4, .int e4)] [] S (some (.int r)) S) → Z l yX8_yearBy M_X8_yearBy 36 [(0, .ref q0), (1, .int x1), (2, .int x2), (3, .int x3), (4, .int x4), (5, .int x5)] [] S (some (.int r)) S := by
  intro n
  induction n with
  | zero =>
    intro x1 x2 x3 x4 x5 S k92 r h hk92
    exact absurd h (by rw [f_X8_yearBy_L36]; exact fun q => by cases q)
  | succ n ih =>
    intro x1 x2 x3 x4 x5 S k92 r h hk92
    rw [f_X8_yearBy_L36] at h
    refine z_iload 5 dX8_yearBy_36 rfl ?_
    refine z_if_lt (tgt := 92) dX8_yearBy_38 (by decide) (fun c3 => ?_) (fun c3 => ?_)
    · replace h := ip c3 h
      refine z_sub (lv' := [(4, .int x4)]) [4] rfl ?_
      exact hk92 _ h
    · replace h := ig c3 h
      refine z_iload 5 dX8_yearBy_41 rfl ?_
      refine z_aload_n 0 dX8_yearBy_43 rfl ?_
      refine z_iconst (v := 1) dX8_yearBy_44 rfl ?_
      refine z_ialdK (j := 1) dX8_yearBy_45 hq0 (by decide) (by decide) (by decide) ?_
      refine z_iload_n 2 dX8_yearBy_46 rfl ?_
      refine z_isub dX8_yearBy_47 ?_
      refine z_icmp_lt (tgt := 92) dX8_yearBy_48 (by decide) (fun c4 => ?_) (fun c4 => ?_)
      · replace h := ip c4 h
        refine z_sub (lv' := [(4, .int x4)]) [4] rfl ?_
        exact hk92 _ h
      · replace h := ig c4 h
        refine z_aload_n 0 dX8_yearBy_51 rfl ?_
        refine z_iload_n 1 dX8_yearBy_52 rfl ?_
        refine z_iload 5 dX8_yearBy_53 rfl ?_
        obtain ⟨v5, hv5, h⟩ := ob h
        refine z_callS (as := [.ref q0, .int x1, .int x5]) dX8_yearBy_55 ml_8_58 ms_X8_counts (t_X8_counts l hq0 hv5) rfl rfl (Nat.le_of_ble_eq_true rfl) ⟨Nat.le_of_ble_eq_true rfl, Nat.le_of_ble_eq_true rfl⟩ rfl ?_
        refine z_aload_n 0 dX8_yearBy_58 rfl ?_
        refine z_iload_n 1 dX8_yearBy_59 rfl ?_
        refine z_iload 4 dX8_yearBy_60 rfl ?_
        obtain ⟨v6, hv6, h⟩ := ob h
        refine z_callS (as := [.ref q0, .int x1, .int x4]) dX8_yearBy_62 ml_8_58 ms_X8_counts (t_X8_counts l hq0 hv6) rfl rfl (Nat.le_of_ble_eq_true rfl) ⟨Nat.le_of_ble_eq_true rfl, Nat.le_of_ble_eq_true rfl⟩ rfl ?_
        refine z_isub dX8_yearBy_65 ?_
        refine z_istore (lv' := [(0, .ref q0), (1, .int x1), (2, .int x2), (3, .int x3), (4, .int x4), (5, .int x5), (6, .int (v5 - v6))]) [1, 2, 3, 4, 5, 6, 0] dX8_yearBy_66 (Nat.le_of_ble_eq_true rfl) rfl ?_
        refine z_iload 6 dX8_yearBy_68 rfl ?_
        refine z_if_gt (tgt := 82) dX8_yearBy_70 (by decide) (fun c7 => ?_) (fun c7 => ?_)
        · replace h := ip c7 h
          refine z_iload 5 dX8_yearBy_82 rfl ?_
          refine z_istore (lv' := [(0, .ref q0), (1, .int x1), (2, .int x2), (3, .int x3), (4, .int x5), (5, .int x5), (6, .int (v5 - v6))]) [1, 2, 3, 4, 0, 5, 6] dX8_yearBy_84 (Nat.le_of_ble_eq_true rfl) rfl ?_
          refine z_iinc (lv' := [(0, .ref q0), (1, .int x1), (2, .int x2), (3, .int x3), (4, .int x5), (5, .int (x5 + (-1))), (6, .int (v5 - v6))]) (v := x5 + (-1)) 5 [1, 2, 3, 4, 5, 0, 6] dX8_yearBy_86 rfl rfl (Nat.le_of_ble_eq_true rfl) rfl ?_
          refine z_goto (tgt := 36) dX8_yearBy_89 (by decide) ?_
          refine z_sub (lv' := [(0, .ref q0), (1, .int x1), (2, .int x2), (3, .int x3), (4, .int x5), (5, .int (x5 + (-1)))]) [0, 1, 2, 3, 4, 5] rfl ?_
          exact ih _ _ _ _ _ _ _ _ h hk92
        · replace h := ig c7 h
          refine z_iload 6 dX8_yearBy_73 rfl ?_
          refine z_if_ne (tgt := 86) dX8_yearBy_75 (by decide) (fun c8 => ?_) (fun c8 => ?_)
          · replace h := ig c8 h
            refine z_iinc (lv' := [(0, .ref q0), (1, .int x1), (2, .int x2), (3, .int x3), (4, .int x4), (5, .int (x5 + (-1))), (6, .int (v5 - v6))]) (v := x5 + (-1)) 5 [1, 2, 3, 4, 5, 0, 6] dX8_yearBy_86 rfl rfl (Nat.le_of_ble_eq_true rfl) rfl ?_
            refine z_goto (tgt := 36) dX8_yearBy_89 (by decide) ?_
            refine z_sub (lv' := [(0, .ref q0), (1, .int x1), (2, .int x2), (3, .int x3), (4, .int x4), (5, .int (x5 + (-1)))]) [0, 1, 2, 3, 4, 5] rfl ?_
            exact ih _ _ _ _ _ _ _ _ h hk92
          · replace h := ip c8 h
            refine z_iload_n 3 dX8_yearBy_78 rfl ?_
            refine z_if_eq (tgt := 86) dX8_yearBy_79 (by decide) (fun c9 => ?_) (fun c9 => ?_)
            · replace h := ip c9 h
              refine z_iinc (lv' := [(0, .ref q0), (1, .int x1), (2, .int x2), (3, .int x3), (4, .int x4), (5, .int (x5 + (-1))), (6, .int (v5 - v6))]) (v := x5 + (-1)) 5 [1, 2, 3, 4, 5, 0, 6] dX8_yearBy_86 rfl rfl (Nat.le_of_ble_eq_true rfl) rfl ?_
              refine z_goto (tgt := 36) dX8_yearBy_89 (by decide) ?_
              refine z_sub (lv' := [(0, .ref q0), (1, .int x1), (2, .int x2), (3, .int x3), (4, .int x4), (5, .int (x5 + (-1)))]) [0, 1, 2, 3, 4, 5] rfl ?_
              exact ih _ _ _ _ _ _ _ _ h hk92
            · replace h := ig c9 h
              refine z_iload 5 dX8_yearBy_82 rfl ?_
              refine z_istore (lv' := [(0, .ref q0), (1, .int x1), (2, .int x2), (3, .int x3), (4, .int x5), (5, .int x5), (6, .int (v5 - v6))]) [1, 2, 3, 4, 0, 5, 6] dX8_yearBy_84 (Nat.le_of_ble_eq_true rfl) rfl ?_
              refine z_iinc (lv' := [(0, .ref q0), (1, .int x1), (2, .int x2), (3, .int x3), (4, .int x5), (5, .int (x5 + (-1))), (6, .int (v5 - v6))]) (v := x5 + (-1)) 5 [1, 2, 3, 4, 5, 0, 6] dX8_yearBy_86 rfl rfl (Nat.le_of_ble_eq_true rfl) rfl ?_
              refine z_goto (tgt := 36) dX8_yearBy_89 (by decide) ?_
              refine z_sub (lv' := [(0, .ref q0), (1, .int x1), (2, .int x2), (3, .int x3), (4, .int x5), (5, .int (x5 + (-1)))]) [0, 1, 2, 3, 4, 5] rfl ?_
              exact ih _ _ _ _ _ _ _ _ h hk92
set_option maxHeartbeats 2000000 in
set_option maxRecDepth 20000 in
theorem t_X8_yearBy (l : Launch) {S : St} {q0 : Nat} (hq0 : kd q0 = 17) {a1 : Int32} {a2 : Int32} {r : Int32} (h : f_X8_yearBy q0 a1 a2 S = some r) : CT l yX8_yearBy M_X8_yearBy [.ref q0, .int a1, .int a2] S (some (.int r)) S := by
  rw [f_X8_yearBy] at h
  refine ct_of (lv := [(0, .ref q0), (1, .int a1), (2, .int a2)]) (by decide) rfl (Nat.le_of_ble_eq_true rfl) ?_
  refine z_aload_n 0 dX8_yearBy_0 rfl ?_
  refine z_iconst (v := 4) dX8_yearBy_1 rfl ?_
  refine z_iload_n 1 dX8_yearBy_2 rfl ?_
  refine z_iadd dX8_yearBy_3 ?_
  obtain ⟨c1, h⟩ := oi h
  refine z_iald dX8_yearBy_4 hq0 (by decide) c1 ?_
  refine z_iconst (v := 1) dX8_yearBy_5 rfl ?_
  refine z_icmp_eq (tgt := 18) dX8_yearBy_6 (by decide) (fun c2 => ?_) (fun c2 => ?_)
  · replace h := ip c2 h
    refine z_iconst (v := 1) dX8_yearBy_18 rfl ?_
    refine z_goto (tgt := 23) dX8_yearBy_19 (by decide) ?_
    refine z_istore_n (lv' := [(0, .ref q0), (1, .int a1), (2, .int a2), (3, .int 1)]) [1, 2, 3, 0] dX8_yearBy_23 (Nat.le_of_ble_eq_true rfl) rfl ?_
    refine z_aload_n 0 dX8_yearBy_24 rfl ?_
    refine z_iconst (v := 1) dX8_yearBy_25 rfl ?_
    refine z_ialdK (j := 1) dX8_yearBy_26 hq0 (by decide) (by decide) (by decide) ?_
    refine z_istore (lv' := [(0, .ref q0), (1, .int a1), (2, .int a2), (3, .int 1), (4, .int (S.1 q0 1))]) [1, 2, 3, 4, 0] dX8_yearBy_27 (Nat.le_of_ble_eq_true rfl) rfl ?_
    refine z_aload_n 0 dX8_yearBy_29 rfl ?_
    refine z_iconst (v := 1) dX8_yearBy_30 rfl ?_
    refine z_ialdK (j := 1) dX8_yearBy_31 hq0 (by decide) (by decide) (by decide) ?_
    refine z_iconst (v := 1) dX8_yearBy_32 rfl ?_
    refine z_isub dX8_yearBy_33 ?_
    refine z_istore (lv' := [(0, .ref q0), (1, .int a1), (2, .int a2), (3, .int 1), (4, .int (S.1 q0 1)), (5, .int ((S.1 q0 1) - 1))]) [1, 2, 3, 4, 5, 0] dX8_yearBy_34 (Nat.le_of_ble_eq_true rfl) rfl ?_
    refine z_sub (lv' := [(0, .ref q0), (1, .int a1), (2, .int a2), (3, .int 1), (4, .int (S.1 q0 1)), (5, .int ((S.1 q0 1) - 1))]) [0, 1, 2, 3, 4, 5] rfl ?_
    refine t_X8_yearBy_L36 l hq0 _ _ _ _ _ _ _ _ _ h ?_
    · intro y10 h
      refine z_iload 0 dX8_yearBy_92 rfl ?_
      obtain rfl := Option.some.inj h
      exact z_iret dX8_yearBy_94 rfl rfl
  · replace h := ig c2 h
    refine z_aload_n 0 dX8_yearBy_9 rfl ?_
    refine z_iconst (v := 4) dX8_yearBy_10 rfl ?_
    refine z_iload_n 1 dX8_yearBy_11 rfl ?_
    refine z_iadd dX8_yearBy_12 ?_
    obtain ⟨c11, h⟩ := oi h
    refine z_iald dX8_yearBy_13 hq0 (by decide) c11 ?_
    refine z_iconst (v := 3) dX8_yearBy_14 rfl ?_
    refine z_icmp_ne (tgt := 22) dX8_yearBy_15 (by decide) (fun c12 => ?_) (fun c12 => ?_)
    · replace h := ig c12 h
      refine z_iconst (v := 0) dX8_yearBy_22 rfl ?_
      refine z_istore_n (lv' := [(0, .ref q0), (1, .int a1), (2, .int a2), (3, .int 0)]) [1, 2, 3, 0] dX8_yearBy_23 (Nat.le_of_ble_eq_true rfl) rfl ?_
      refine z_aload_n 0 dX8_yearBy_24 rfl ?_
      refine z_iconst (v := 1) dX8_yearBy_25 rfl ?_
      refine z_ialdK (j := 1) dX8_yearBy_26 hq0 (by decide) (by decide) (by decide) ?_
      refine z_istore (lv' := [(0, .ref q0), (1, .int a1), (2, .int a2), (3, .int 0), (4, .int (S.1 q0 1))]) [1, 2, 3, 4, 0] dX8_yearBy_27 (Nat.le_of_ble_eq_true rfl) rfl ?_
      refine z_aload_n 0 dX8_yearBy_29 rfl ?_
      refine z_iconst (v := 1) dX8_yearBy_30 rfl ?_
      refine z_ialdK (j := 1) dX8_yearBy_31 hq0 (by decide) (by decide) (by decide) ?_
      refine z_iconst (v := 1) dX8_yearBy_32 rfl ?_
      refine z_isub dX8_yearBy_33 ?_
      refine z_istore (lv' := [(0, .ref q0), (1, .int a1), (2, .int a2), (3, .int 0), (4, .int (S.1 q0 1)), (5, .int ((S.1 q0 1) - 1))]) [1, 2, 3, 4, 5, 0] dX8_yearBy_34 (Nat.le_of_ble_eq_true rfl) rfl ?_
      refine z_sub (lv' := [(0, .ref q0), (1, .int a1), (2, .int a2), (3, .int 0), (4, .int (S.1 q0 1)), (5, .int ((S.1 q0 1) - 1))]) [0, 1, 2, 3, 4, 5] rfl ?_
      refine t_X8_yearBy_L36 l hq0 _ _ _ _ _ _ _ _ _ h ?_
      · intro y13 h
        refine z_iload 0 dX8_yearBy_92 rfl ?_
        obtain rfl := Option.some.inj h
        exact z_iret dX8_yearBy_94 rfl rfl
    · replace h := ip c12 h
      refine z_iconst (v := 1) dX8_yearBy_18 rfl ?_
      refine z_goto (tgt := 23) dX8_yearBy_19 (by decide) ?_
      refine z_istore_n (lv' := [(0, .ref q0), (1, .int a1), (2, .int a2), (3, .int 1)]) [1, 2, 3, 0] dX8_yearBy_23 (Nat.le_of_ble_eq_true rfl) rfl ?_
      refine z_aload_n 0 dX8_yearBy_24 rfl ?_
      refine z_iconst (v := 1) dX8_yearBy_25 rfl ?_
      refine z_ialdK (j := 1) dX8_yearBy_26 hq0 (by decide) (by decide) (by decide) ?_
      refine z_istore (lv' := [(0, .ref q0), (1, .int a1), (2, .int a2), (3, .int 1), (4, .int (S.1 q0 1))]) [1, 2, 3, 4, 0] dX8_yearBy_27 (Nat.le_of_ble_eq_true rfl) rfl ?_
      refine z_aload_n 0 dX8_yearBy_29 rfl ?_
      refine z_iconst (v := 1) dX8_yearBy_30 rfl ?_
      refine z_ialdK (j := 1) dX8_yearBy_31 hq0 (by decide) (by decide) (by decide) ?_
      refine z_iconst (v := 1) dX8_yearBy_32 rfl ?_
      refine z_isub dX8_yearBy_33 ?_
      refine z_istore (lv' := [(0, .ref q0), (1, .int a1), (2, .int a2), (3, .int 1), (4, .int (S.1 q0 1)), (5, .int ((S.1 q0 1) - 1))]) [1, 2, 3, 4, 5, 0] dX8_yearBy_34 (Nat.le_of_ble_eq_true rfl) rfl ?_
      refine z_sub (lv' := [(0, .ref q0), (1, .int a1), (2, .int a2), (3, .int 1), (4, .int (S.1 q0 1)), (5, .int ((S.1 q0 1) - 1))]) [0, 1, 2, 3, 4, 5] rfl ?_
      refine t_X8_yearBy_L36 l hq0 _ _ _ _ _ _ _ _ _ h ?_
      · intro y14 h
        refine z_iload 0 dX8_yearBy_92 rfl ?_
        obtain rfl := Option.some.inj h
        exact z_iret dX8_yearBy_94 rfl rfl
set_option maxHeartbeats 2000000 in
set_option maxRecDepth 20000 in
theorem t_X8_yearOf (l : Launch) {S : St} {q0 : Nat} (hq0 : kd q0 = 17) {a1 : Int32} {a2 : Int32} {a3 : Int32} {r : Int32} (h : f_X8_yearOf q0 a1 a2 a3 S = some r) : CT l yX8_yearOf M_X8_yearOf [.ref q0, .int a1, .int a2, .int a3] S (some (.int r)) S := by
  rw [f_X8_yearOf] at h
  refine ct_of (lv := [(0, .ref q0), (1, .int a1), (2, .int a2), (3, .int a3)]) (by decide) rfl (Nat.le_of_ble_eq_true rfl) ?_
  refine z_aload_n 0 dX8_yearOf_0 rfl ?_
  refine z_iload_n 1 dX8_yearOf_1 rfl ?_
  refine z_aload_n 0 dX8_yearOf_2 rfl ?_
  refine z_iload_n 1 dX8_yearOf_3 rfl ?_
  refine z_iload_n 2 dX8_yearOf_4 rfl ?_
  refine z_iload_n 3 dX8_yearOf_5 rfl ?_
  obtain ⟨v1, hv1, h⟩ := ob h
  refine z_callS (as := [.ref q0, .int a1, .int a2, .int a3]) dX8_yearOf_6 ml_8_62 ms_X8_reach (t_X8_reach l hq0 hv1) rfl rfl (Nat.le_of_ble_eq_true rfl) ⟨Nat.le_of_ble_eq_true rfl, Nat.le_of_ble_eq_true rfl⟩ rfl ?_
  obtain ⟨v2, hv2, h⟩ := ob h
  refine z_callS (as := [.ref q0, .int a1, .int v1]) dX8_yearOf_9 ml_8_66 ms_X8_yearBy (t_X8_yearBy l hq0 hv2) rfl rfl (Nat.le_of_ble_eq_true rfl) ⟨Nat.le_of_ble_eq_true rfl, Nat.le_of_ble_eq_true rfl⟩ rfl ?_
  obtain rfl := Option.some.inj h
  exact z_iret dX8_yearOf_12 rfl rfl
set_option maxHeartbeats 2000000 in
set_option maxRecDepth 20000 in
theorem t_X8_gladOf (l : Launch) {S : St} {q0 : Nat} (hq0 : kd q0 = 17) {a1 : Int32} {r : Int32} (h : f_X8_gladOf q0 a1 S = some r) : CT l yX8_gladOf M_X8_gladOf [.ref q0, .int a1] S (some (.int r)) S := by
  rw [f_X8_gladOf] at h
  refine ct_of (lv := [(0, .ref q0), (1, .int a1)]) (by decide) rfl (Nat.le_of_ble_eq_true rfl) ?_
  refine z_aload_n 0 dX8_gladOf_0 rfl ?_
  refine z_iload_n 1 dX8_gladOf_1 rfl ?_
  refine z_aload_n 0 dX8_gladOf_2 rfl ?_
  refine z_bipush (v := 20) dX8_gladOf_3 rfl ?_
  refine z_iload_n 1 dX8_gladOf_5 rfl ?_
  refine z_iadd dX8_gladOf_6 ?_
  obtain ⟨c1, h⟩ := oi h
  refine z_iald dX8_gladOf_7 hq0 (by decide) c1 ?_
  refine z_if_ge (tgt := 17) dX8_gladOf_8 (by decide) (fun c2 => ?_) (fun c2 => ?_)
  · replace h := ip c2 h
    refine z_aload_n 0 dX8_gladOf_17 rfl ?_
    refine z_bipush (v := 20) dX8_gladOf_18 rfl ?_
    refine z_iload_n 1 dX8_gladOf_20 rfl ?_
    refine z_iadd dX8_gladOf_21 ?_
    obtain ⟨c3, h⟩ := oi h
    refine z_iald dX8_gladOf_22 hq0 (by decide) c3 ?_
    obtain ⟨v4, hv4, h⟩ := ob h
    refine z_callS (as := [.int a1, .int (S.1 q0 (20 + a1).toNatClampNeg)]) dX8_gladOf_23 ml_8_55 ms_X8_at (t_X8_at l _ hv4) rfl rfl (Nat.le_of_ble_eq_true rfl) ⟨Nat.le_of_ble_eq_true rfl, Nat.le_of_ble_eq_true rfl⟩ rfl ?_
    obtain ⟨c5, h⟩ := oi h
    refine z_iald dX8_gladOf_26 hq0 (by decide) c5 ?_
    obtain rfl := Option.some.inj h
    exact z_iret dX8_gladOf_27 rfl rfl
  · replace h := ig c2 h
    refine z_aload_n 0 dX8_gladOf_11 rfl ?_
    refine z_iconst (v := 1) dX8_gladOf_12 rfl ?_
    refine z_ialdK (j := 1) dX8_gladOf_13 hq0 (by decide) (by decide) (by decide) ?_
    refine z_goto (tgt := 23) dX8_gladOf_14 (by decide) ?_
    obtain ⟨v6, hv6, h⟩ := ob h
    refine z_callS (as := [.int a1, .int (S.1 q0 1)]) dX8_gladOf_23 ml_8_55 ms_X8_at (t_X8_at l _ hv6) rfl rfl (Nat.le_of_ble_eq_true rfl) ⟨Nat.le_of_ble_eq_true rfl, Nat.le_of_ble_eq_true rfl⟩ rfl ?_
    obtain ⟨c7, h⟩ := oi h
    refine z_iald dX8_gladOf_26 hq0 (by decide) c7 ?_
    obtain rfl := Option.some.inj h
    exact z_iret dX8_gladOf_27 rfl rfl
set_option maxHeartbeats 2000000 in
set_option maxRecDepth 20000 in
theorem t_X8_gladAll_L4 (l : Launch) {q0 : Nat} (hq0 : kd q0 = 17) : ∀ (n : Nat) (x1 : Int32) (x2 : Int32) (S : St) (k25 : Int32 → Option Int32) (r : Int32), f_X8_gladAll_L4 n q0 x1 x2 S k25 = some r → (∀ (e1 : Int32), k25 e1 = some r → Z l yX8_gladAll M_X8_gladAll 25 [(1, .int e1)] [] S (some (.int r)) S) → Z l yX8_gladAll M_X8_gladAll 4 [(0, .ref q0), (1, .int x1), (2, .int x2)] [] S (some (.int r)) S := by
  intro n
  induction n with
  | zero =>
    intro x1 x2 S k25 r h hk25
    exact absurd h (by rw [f_X8_gladAll_L4]; exact fun q => by cases q)
  | succ n ih =>
    intro x1 x2 S k25 r h hk25
    rw [f_X8_gladAll_L4] at h
    refine z_iload_n 2 dX8_gladAll_4 rfl ?_
    refine z_aload_n 0 dX8_gladAll_5 rfl ?_
    refine z_iconst (v := 0) dX8_gladAll_6 rfl ?_
    refine z_ialdK (j := 0) dX8_gladAll_7 hq0 (by decide) (by decide) (by decide) ?_
    refine z_icmp_ge (tgt := 25) dX8_gladAll_8 (by decide) (fun c1 => ?_) (fun c1 => ?_)
    · replace h := ip c1 h
      refine z_sub (lv' := [(1, .int x1)]) [1] rfl ?_
      exact hk25 _ h
    · replace h := ig c1 h
      refine z_iload_n 1 dX8_gladAll_11 rfl ?_
      refine z_aload_n 0 dX8_gladAll_12 rfl ?_
      refine z_iload_n 2 dX8_gladAll_13 rfl ?_
      obtain ⟨v2, hv2, h⟩ := ob h
      refine z_callS (as := [.ref q0, .int x2]) dX8_gladAll_14 ml_8_69 ms_X8_gladOf (t_X8_gladOf l hq0 hv2) rfl rfl (Nat.le_of_ble_eq_true rfl) ⟨Nat.le_of_ble_eq_true rfl, Nat.le_of_ble_eq_true rfl⟩ rfl ?_
      refine z_iadd dX8_gladAll_17 ?_
      refine z_istore_n (lv' := [(0, .ref q0), (1, .int (x1 + v2)), (2, .int x2)]) [1, 0, 2] dX8_gladAll_18 (Nat.le_of_ble_eq_true rfl) rfl ?_
      refine z_iinc (lv' := [(0, .ref q0), (1, .int (x1 + v2)), (2, .int (x2 + 1))]) (v := x2 + 1) 2 [1, 2, 0] dX8_gladAll_19 rfl rfl (Nat.le_of_ble_eq_true rfl) rfl ?_
      refine z_goto (tgt := 4) dX8_gladAll_22 (by decide) ?_
      refine z_sub (lv' := [(0, .ref q0), (1, .int (x1 + v2)), (2, .int (x2 + 1))]) [0, 1, 2] rfl ?_
      exact ih _ _ _ _ _ h hk25
set_option maxHeartbeats 2000000 in
set_option maxRecDepth 20000 in
theorem t_X8_gladAll (l : Launch) {S : St} {q0 : Nat} (hq0 : kd q0 = 17)  {r : Int32} (h : f_X8_gladAll q0 S = some r) : CT l yX8_gladAll M_X8_gladAll [.ref q0] S (some (.int r)) S := by
  rw [f_X8_gladAll] at h
  refine ct_of (lv := [(0, .ref q0)]) (by decide) rfl (Nat.le_of_ble_eq_true rfl) ?_
  refine z_iconst (v := 0) dX8_gladAll_0 rfl ?_
  refine z_istore_n (lv' := [(0, .ref q0), (1, .int 0)]) [1, 0] dX8_gladAll_1 (Nat.le_of_ble_eq_true rfl) rfl ?_
  refine z_iconst (v := 0) dX8_gladAll_2 rfl ?_
  refine z_istore_n (lv' := [(0, .ref q0), (1, .int 0), (2, .int 0)]) [1, 2, 0] dX8_gladAll_3 (Nat.le_of_ble_eq_true rfl) rfl ?_
  refine z_sub (lv' := [(0, .ref q0), (1, .int 0), (2, .int 0)]) [0, 1, 2] rfl ?_
  refine t_X8_gladAll_L4 l hq0 _ _ _ _ _ _ h ?_
  · intro y3 h
    refine z_iload_n 0 dX8_gladAll_25 rfl ?_
    obtain rfl := Option.some.inj h
    exact z_iret dX8_gladAll_26 rfl rfl
set_option maxHeartbeats 2000000 in
set_option maxRecDepth 20000 in
theorem t_X8_fewestOf_L2 (l : Launch) {q0 : Nat} (hq0 : kd q0 = 17) : ∀ (n : Nat) (x1 : Int32) (x2 : Int32) (x3 : Int32) (S : St) (k19 : Int32 → Option Int32) (k27 : Unit → Option Int32) (r : Int32), f_X8_fewestOf_L2 n q0 x1 x2 x3 S k19 k27 = some r → (∀ (e3 : Int32), k19 e3 = some r → Z l yX8_fewestOf M_X8_fewestOf 19 [(3, .int e3)] [] S (some (.int r)) S) → (k27 () = some r → Z l yX8_fewestOf M_X8_fewestOf 27 [] [] S (some (.int r)) S) → Z l yX8_fewestOf M_X8_fewestOf 2 [(0, .ref q0), (1, .int x1), (2, .int x2), (3, .int x3)] [] S (some (.int r)) S := by
  intro n
  induction n with
  | zero =>
    intro x1 x2 x3 S k19 k27 r h hk19 hk27
    exact absurd h (by rw [f_X8_fewestOf_L2]; exact fun q => by cases q)
  | succ n ih =>
    intro x1 x2 x3 S k19 k27 r h hk19 hk27
    rw [f_X8_fewestOf_L2] at h
    refine z_iload_n 3 dX8_fewestOf_2 rfl ?_
    refine z_bipush (v := 99) dX8_fewestOf_3 rfl ?_
    refine z_icmp_gt (tgt := 27) dX8_fewestOf_5 (by decide) (fun c1 => ?_) (fun c1 => ?_)
    · replace h := ip c1 h
      refine z_sub (lv' := []) [] rfl ?_
      exact hk27  h
    · replace h := ig c1 h
      refine z_aload_n 0 dX8_fewestOf_8 rfl ?_
      refine z_iload_n 1 dX8_fewestOf_9 rfl ?_
      refine z_iload_n 3 dX8_fewestOf_10 rfl ?_
      refine z_iconst (v := 0) dX8_fewestOf_11 rfl ?_
      obtain ⟨v2, hv2, h⟩ := ob h
      refine z_callS (as := [.ref q0, .int x1, .int x3, .int 0]) dX8_fewestOf_12 ml_8_73 ms_X8_yearOf (t_X8_yearOf l hq0 hv2) rfl rfl (Nat.le_of_ble_eq_true rfl) ⟨Nat.le_of_ble_eq_true rfl, Nat.le_of_ble_eq_true rfl⟩ rfl ?_
      refine z_iload_n 2 dX8_fewestOf_15 rfl ?_
      refine z_icmp_ne (tgt := 21) dX8_fewestOf_16 (by decide) (fun c3 => ?_) (fun c3 => ?_)
      · replace h := ig c3 h
        refine z_iinc (lv' := [(0, .ref q0), (1, .int x1), (2, .int x2), (3, .int (x3 + 1))]) (v := x3 + 1) 3 [1, 2, 3, 0] dX8_fewestOf_21 rfl rfl (Nat.le_of_ble_eq_true rfl) rfl ?_
        refine z_goto (tgt := 2) dX8_fewestOf_24 (by decide) ?_
        refine z_sub (lv' := [(0, .ref q0), (1, .int x1), (2, .int x2), (3, .int (x3 + 1))]) [0, 1, 2, 3] rfl ?_
        exact ih _ _ _ _ _ _ _ h hk19 hk27
      · replace h := ip c3 h
        refine z_sub (lv' := [(3, .int x3)]) [3] rfl ?_
        exact hk19 _ h
set_option maxHeartbeats 2000000 in
set_option maxRecDepth 20000 in
theorem t_X8_fewestOf (l : Launch) {S : St} {q0 : Nat} (hq0 : kd q0 = 17) {a1 : Int32} {a2 : Int32} {r : Int32} (h : f_X8_fewestOf q0 a1 a2 S = some r) : CT l yX8_fewestOf M_X8_fewestOf [.ref q0, .int a1, .int a2] S (some (.int r)) S := by
  rw [f_X8_fewestOf] at h
  refine ct_of (lv := [(0, .ref q0), (1, .int a1), (2, .int a2)]) (by decide) rfl (Nat.le_of_ble_eq_true rfl) ?_
  refine z_iconst (v := 0) dX8_fewestOf_0 rfl ?_
  refine z_istore_n (lv' := [(0, .ref q0), (1, .int a1), (2, .int a2), (3, .int 0)]) [1, 2, 3, 0] dX8_fewestOf_1 (Nat.le_of_ble_eq_true rfl) rfl ?_
  refine z_sub (lv' := [(0, .ref q0), (1, .int a1), (2, .int a2), (3, .int 0)]) [0, 1, 2, 3] rfl ?_
  refine t_X8_fewestOf_L2 l hq0 _ _ _ _ _ _ _ _ h ?_ ?_
  · intro y4 h
    refine z_iload_n 0 dX8_fewestOf_19 rfl ?_
    obtain rfl := Option.some.inj h
    exact z_iret dX8_fewestOf_20 rfl rfl
  · intro h
    refine z_bipush (v := (-9)) dX8_fewestOf_27 rfl ?_
    obtain rfl := Option.some.inj h
    exact z_iret dX8_fewestOf_29 rfl rfl
set_option maxHeartbeats 2000000 in
set_option maxRecDepth 20000 in
theorem t_X8_letter (l : Launch) {S : St}  {a1 : Int32} {r : (Int32 × St)} (h : f_X8_letter a1 S = some r) : CT l yX8_letter M_X8_letter [.ref 74, .int a1] S (some (.int r.1)) r.2 := by
  rw [f_X8_letter] at h
  refine ct_of (lv := [(0, .ref 74), (1, .int a1)]) (by decide) rfl (Nat.le_of_ble_eq_true rfl) ?_
  refine z_iload_n 1 dX8_letter_0 rfl ?_
  refine z_if_ge (tgt := 11) dX8_letter_1 (by decide) (fun c1 => ?_) (fun c1 => ?_)
  · replace h := ip c1 h
    refine z_iload_n 1 dX8_letter_11 rfl ?_
    refine z_sipush (v := 255) dX8_letter_12 rfl ?_
    refine z_icmp_gt (tgt := 27) dX8_letter_15 (by decide) (fun c2 => ?_) (fun c2 => ?_)
    · replace h := ip c2 h
      refine z_aload_n 0 dX8_letter_27 rfl ?_
      refine z_bipush (v := (-6)) dX8_letter_28 rfl ?_
      obtain ⟨z3, hz3, h⟩ := ob h
      refine z_callV (as := [.int (-6)]) dX8_letter_30 ml_8_41 mv_X8_no (t_X8_no l hz3) kdl_74 ⟨by decide, rfl⟩ rfl rfl (Nat.le_of_ble_eq_true rfl) ⟨Nat.le_of_ble_eq_true rfl, Nat.le_of_ble_eq_true rfl⟩ rfl ?_
      obtain rfl := Option.some.inj h
      exact z_iret dX8_letter_33 rfl rfl
    · replace h := ig c2 h
      refine z_aload_n 0 dX8_letter_18 rfl ?_
      refine z_get (v := .int (S.1 74 8)) dX8_letter_19 fl_8_76 kdl_74 rfl ?_
      refine z_bipush (v := 96) dX8_letter_22 rfl ?_
      refine z_icmp_ne (tgt := 34) dX8_letter_24 (by decide) (fun c4 => ?_) (fun c4 => ?_)
      · replace h := ig c4 h
        refine z_aload_n 0 dX8_letter_34 rfl ?_
        refine z_get (v := .ref 79) dX8_letter_35 fl_8_22 kdl_74 rfl ?_
        refine z_aload_n 0 dX8_letter_38 rfl ?_
        refine z_get (v := .int (S.1 74 8)) dX8_letter_39 fl_8_76 kdl_74 rfl ?_
        refine z_iload_n 1 dX8_letter_42 rfl ?_
        obtain ⟨c5, h⟩ := oi h
        refine z_iast dX8_letter_43 kdl_79 (by decide) c5 ?_
        refine z_aload_n 0 dX8_letter_44 rfl ?_
        refine z_dup dX8_letter_45 rfl ?_
        refine z_get (v := .int ((up S 79 (S.1 74 8).toNatClampNeg a1).1 74 8)) dX8_letter_46 fl_8_76 kdl_74 rfl ?_
        refine z_iconst (v := 1) dX8_letter_49 rfl ?_
        refine z_iadd dX8_letter_50 ?_
        refine z_put (fk := 8) dX8_letter_51 fl_8_76 fp_8_8 kdl_74 rfl rfl rfl (Nat.le_of_ble_eq_true rfl) ?_
        refine z_aload_n 0 dX8_letter_54 rfl ?_
        refine z_get (v := .int ((up (up S 79 (S.1 74 8).toNatClampNeg a1) 74 8 (((up S 79 (S.1 74 8).toNatClampNeg a1).1 74 8) + 1)).1 74 8)) dX8_letter_55 fl_8_76 kdl_74 rfl ?_
        obtain rfl := Option.some.inj h
        exact z_iret dX8_letter_58 rfl rfl
      · replace h := ip c4 h
        refine z_aload_n 0 dX8_letter_27 rfl ?_
        refine z_bipush (v := (-6)) dX8_letter_28 rfl ?_
        obtain ⟨z6, hz6, h⟩ := ob h
        refine z_callV (as := [.int (-6)]) dX8_letter_30 ml_8_41 mv_X8_no (t_X8_no l hz6) kdl_74 ⟨by decide, rfl⟩ rfl rfl (Nat.le_of_ble_eq_true rfl) ⟨Nat.le_of_ble_eq_true rfl, Nat.le_of_ble_eq_true rfl⟩ rfl ?_
        obtain rfl := Option.some.inj h
        exact z_iret dX8_letter_33 rfl rfl
  · replace h := ig c1 h
    refine z_aload_n 0 dX8_letter_4 rfl ?_
    refine z_bipush (v := (-4)) dX8_letter_5 rfl ?_
    obtain ⟨z7, hz7, h⟩ := ob h
    refine z_callV (as := [.int (-4)]) dX8_letter_7 ml_8_41 mv_X8_no (t_X8_no l hz7) kdl_74 ⟨by decide, rfl⟩ rfl rfl (Nat.le_of_ble_eq_true rfl) ⟨Nat.le_of_ble_eq_true rfl, Nat.le_of_ble_eq_true rfl⟩ rfl ?_
    obtain rfl := Option.some.inj h
    exact z_iret dX8_letter_10 rfl rfl
set_option maxHeartbeats 2000000 in
set_option maxRecDepth 20000 in
theorem t_X8_here (l : Launch) {S : St}   {r : Int32} (h : f_X8_here S = some r) : CT l yX8_here M_X8_here [.ref 74] S (some (.int r)) S := by
  rw [f_X8_here] at h
  refine ct_of (lv := [(0, .ref 74)]) (by decide) rfl (Nat.le_of_ble_eq_true rfl) ?_
  refine z_aload_n 0 dX8_here_0 rfl ?_
  refine z_get (v := .int (S.1 74 10)) dX8_here_1 fl_8_80 kdl_74 rfl ?_
  refine z_aload_n 0 dX8_here_4 rfl ?_
  refine z_get (v := .int (S.1 74 8)) dX8_here_5 fl_8_76 kdl_74 rfl ?_
  refine z_icmp_ge (tgt := 23) dX8_here_8 (by decide) (fun c1 => ?_) (fun c1 => ?_)
  · replace h := ip c1 h
    refine z_iconst (v := (-1)) dX8_here_23 rfl ?_
    obtain rfl := Option.some.inj h
    exact z_iret dX8_here_24 rfl rfl
  · replace h := ig c1 h
    refine z_aload_n 0 dX8_here_11 rfl ?_
    refine z_get (v := .ref 79) dX8_here_12 fl_8_22 kdl_74 rfl ?_
    refine z_aload_n 0 dX8_here_15 rfl ?_
    refine z_get (v := .int (S.1 74 10)) dX8_here_16 fl_8_80 kdl_74 rfl ?_
    obtain ⟨c2, h⟩ := oi h
    refine z_iald dX8_here_19 kdl_79 (by decide) c2 ?_
    refine z_goto (tgt := 24) dX8_here_20 (by decide) ?_
    obtain rfl := Option.some.inj h
    exact z_iret dX8_here_24 rfl rfl
set_option maxHeartbeats 2000000 in
set_option maxRecDepth 20000 in
theorem t_X8_readsNumber_L9 (l : Launch)   : ∀ (n : Nat) (x1 : Int32) (x2 : Int32) (x3 : Int32) (S : St) (k28 : St → Option (Int32 × St)) (k69 : St → Option (Int32 × St)) (r : (Int32 × St)), f_X8_readsNumber_L9 n x1 x2 x3 S k28 k69 = some r → (∀ (T : St), k28 T = some r → Z l yX8_readsNumber M_X8_readsNumber 28 [] [] T (some (.int r.1)) r.2) → (∀ (T : St), k69 T = some r → Z l yX8_readsNumber M_X8_readsNumber 69 [] [] T (some (.int r.1)) r.2) → Z l yX8_readsNumber M_X8_readsNumber 9 [(0, .ref 74), (1, .int x1), (2, .int x2), (3, .int x3)] [] S (some (.int r.1)) r.2 := by
  intro n
  induction n with
  | zero =>
    intro x1 x2 x3 S k28 k69 r h hk28 hk69
    exact absurd h (by rw [f_X8_readsNumber_L9]; exact fun q => by cases q)
  | succ n ih =>
    intro x1 x2 x3 S k28 k69 r h hk28 hk69
    rw [f_X8_readsNumber_L9] at h
    refine z_iload_n 3 dX8_readsNumber_9 rfl ?_
    refine z_iload_n 2 dX8_readsNumber_10 rfl ?_
    refine z_icmp_ge (tgt := 69) dX8_readsNumber_11 (by decide) (fun c2 => ?_) (fun c2 => ?_)
    · replace h := ip c2 h
      refine z_sub (lv' := []) [] rfl ?_
      exact hk69 _ h
    · replace h := ig c2 h
      refine z_aload_n 0 dX8_readsNumber_14 rfl ?_
      obtain ⟨v3, hv3, h⟩ := ob h
      refine z_callV (as := []) dX8_readsNumber_15 ml_8_83 mv_X8_here (t_X8_here l hv3) kdl_74 ⟨by decide, rfl⟩ rfl rfl (Nat.le_of_ble_eq_true rfl) ⟨Nat.le_of_ble_eq_true rfl, Nat.le_of_ble_eq_true rfl⟩ rfl ?_
      refine z_bipush (v := 48) dX8_readsNumber_18 rfl ?_
      refine z_bipush (v := 57) dX8_readsNumber_20 rfl ?_
      obtain ⟨v4, hv4, h⟩ := ob h
      refine z_callS (as := [.int v3, .int 48, .int 57]) dX8_readsNumber_22 ml_8_47 ms_X8_isIn (t_X8_isIn l _ hv4) rfl rfl (Nat.le_of_ble_eq_true rfl) ⟨Nat.le_of_ble_eq_true rfl, Nat.le_of_ble_eq_true rfl⟩ rfl ?_
      refine z_if_ne (tgt := 30) dX8_readsNumber_25 (by decide) (fun c5 => ?_) (fun c5 => ?_)
      · replace h := ig c5 h
        refine z_aload_n 0 dX8_readsNumber_30 rfl ?_
        refine z_get (v := .ref 82) dX8_readsNumber_31 fl_8_31 kdl_74 rfl ?_
        refine z_iload_n 1 dX8_readsNumber_34 rfl ?_
        refine z_bipush (v := 10) dX8_readsNumber_35 rfl ?_
        refine z_aload_n 0 dX8_readsNumber_37 rfl ?_
        refine z_get (v := .ref 82) dX8_readsNumber_38 fl_8_31 kdl_74 rfl ?_
        refine z_iload_n 1 dX8_readsNumber_41 rfl ?_
        obtain ⟨c6, h⟩ := oi h
        refine z_iald dX8_readsNumber_42 kdl_82 (by decide) c6 ?_
        refine z_imul dX8_readsNumber_43 ?_
        refine z_aload_n 0 dX8_readsNumber_44 rfl ?_
        obtain ⟨v7, hv7, h⟩ := ob h
        refine z_callV (as := []) dX8_readsNumber_45 ml_8_83 mv_X8_here (t_X8_here l hv7) kdl_74 ⟨by decide, rfl⟩ rfl rfl (Nat.le_of_ble_eq_true rfl) ⟨Nat.le_of_ble_eq_true rfl, Nat.le_of_ble_eq_true rfl⟩ rfl ?_
        refine z_iadd dX8_readsNumber_48 ?_
        refine z_bipush (v := 48) dX8_readsNumber_49 rfl ?_
        refine z_isub dX8_readsNumber_51 ?_
        obtain ⟨c8, h⟩ := oi h
        refine z_iast dX8_readsNumber_52 kdl_82 (by decide) c8 ?_
        refine z_aload_n 0 dX8_readsNumber_53 rfl ?_
        refine z_dup dX8_readsNumber_54 rfl ?_
        refine z_get (v := .int ((up S 82 x1.toNatClampNeg (((10 * (S.1 82 x1.toNatClampNeg)) + v7) - 48)).1 74 10)) dX8_readsNumber_55 fl_8_80 kdl_74 rfl ?_
        refine z_iconst (v := 1) dX8_readsNumber_58 rfl ?_
        refine z_iadd dX8_readsNumber_59 ?_
        refine z_put (fk := 10) dX8_readsNumber_60 fl_8_80 fp_8_10 kdl_74 rfl rfl rfl (Nat.le_of_ble_eq_true rfl) ?_
        refine z_iinc (lv' := [(0, .ref 74), (1, .int x1), (2, .int x2), (3, .int (x3 + 1))]) (v := x3 + 1) 3 [1, 2, 3, 0] dX8_readsNumber_63 rfl rfl (Nat.le_of_ble_eq_true rfl) rfl ?_
        refine z_goto (tgt := 9) dX8_readsNumber_66 (by decide) ?_
        refine z_sub (lv' := [(0, .ref 74), (1, .int x1), (2, .int x2), (3, .int (x3 + 1))]) [0, 1, 2, 3] rfl ?_
        exact ih _ _ _ _ _ _ _ h hk28 hk69
      · replace h := ip c5 h
        refine z_sub (lv' := []) [] rfl ?_
        exact hk28 _ h
set_option maxHeartbeats 2000000 in
set_option maxRecDepth 20000 in
theorem t_X8_readsNumber (l : Launch) {S : St}  {a1 : Int32} {a2 : Int32} {r : (Int32 × St)} (h : f_X8_readsNumber a1 a2 S = some r) : CT l yX8_readsNumber M_X8_readsNumber [.ref 74, .int a1, .int a2] S (some (.int r.1)) r.2 := by
  rw [f_X8_readsNumber] at h
  refine ct_of (lv := [(0, .ref 74), (1, .int a1), (2, .int a2)]) (by decide) rfl (Nat.le_of_ble_eq_true rfl) ?_
  refine z_aload_n 0 dX8_readsNumber_0 rfl ?_
  refine z_get (v := .ref 82) dX8_readsNumber_1 fl_8_31 kdl_74 rfl ?_
  refine z_iload_n 1 dX8_readsNumber_4 rfl ?_
  refine z_iconst (v := 0) dX8_readsNumber_5 rfl ?_
  obtain ⟨c1, h⟩ := oi h
  refine z_iast dX8_readsNumber_6 kdl_82 (by decide) c1 ?_
  refine z_iconst (v := 0) dX8_readsNumber_7 rfl ?_
  refine z_istore_n (lv' := [(0, .ref 74), (1, .int a1), (2, .int a2), (3, .int 0)]) [1, 2, 3, 0] dX8_readsNumber_8 (Nat.le_of_ble_eq_true rfl) rfl ?_
  refine z_sub (lv' := [(0, .ref 74), (1, .int a1), (2, .int a2), (3, .int 0)]) [0, 1, 2, 3] rfl ?_
  refine t_X8_readsNumber_L9 l _ _ _ _ _ _ _ _ h ?_ ?_
  · intro S9 h
    refine z_iconst (v := 0) dX8_readsNumber_28 rfl ?_
    obtain rfl := Option.some.inj h
    exact z_iret dX8_readsNumber_29 rfl rfl
  · intro S10 h
    refine z_iconst (v := 1) dX8_readsNumber_69 rfl ?_
    obtain rfl := Option.some.inj h
    exact z_iret dX8_readsNumber_70 rfl rfl
set_option maxHeartbeats 2000000 in
set_option maxRecDepth 20000 in
theorem t_X8_kindBy (l : Launch) (S : St)  {a0 : Int32} {r : Int32} (h : f_X8_kindBy a0 = some r) : CT l yX8_kindBy M_X8_kindBy [.int a0] S (some (.int r)) S := by
  rw [f_X8_kindBy] at h
  refine ct_of (lv := [(0, .int a0)]) (by decide) rfl (Nat.le_of_ble_eq_true rfl) ?_
  refine z_iload_n 0 dX8_kindBy_0 rfl ?_
  by_cases c1 : a0 = 99
  · replace h := ip c1 h
    refine z_lookup (off := 61) (tgt := 62) dX8_kindBy_1 (by decide) (by rw [c1]; decide) (by decide) ?_
    refine z_iconst (v := 1) dX8_kindBy_62 rfl ?_
    obtain rfl := Option.some.inj h
    exact z_iret dX8_kindBy_63 rfl rfl
  replace h := ig c1 h
  by_cases c2 : a0 = 100
  · replace h := ip c2 h
    refine z_lookup (off := 63) (tgt := 64) dX8_kindBy_1 (by decide) (by rw [c2]; decide) (by decide) ?_
    refine z_iconst (v := 2) dX8_kindBy_64 rfl ?_
    obtain rfl := Option.some.inj h
    exact z_iret dX8_kindBy_65 rfl rfl
  replace h := ig c2 h
  by_cases c3 : a0 = 102
  · replace h := ip c3 h
    refine z_lookup (off := 67) (tgt := 68) dX8_kindBy_1 (by decide) (by rw [c3]; decide) (by decide) ?_
    refine z_iconst (v := 4) dX8_kindBy_68 rfl ?_
    obtain rfl := Option.some.inj h
    exact z_iret dX8_kindBy_69 rfl rfl
  replace h := ig c3 h
  by_cases c4 : a0 = 112
  · replace h := ip c4 h
    refine z_lookup (off := 65) (tgt := 66) dX8_kindBy_1 (by decide) (by rw [c4]; decide) (by decide) ?_
    refine z_iconst (v := 3) dX8_kindBy_66 rfl ?_
    obtain rfl := Option.some.inj h
    exact z_iret dX8_kindBy_67 rfl rfl
  replace h := ig c4 h
  by_cases c5 : a0 = 116
  · replace h := ip c5 h
    refine z_lookup (off := 59) (tgt := 60) dX8_kindBy_1 (by decide) (by rw [c5]; decide) (by decide) ?_
    refine z_iconst (v := 0) dX8_kindBy_60 rfl ?_
    obtain rfl := Option.some.inj h
    exact z_iret dX8_kindBy_61 rfl rfl
  replace h := ig c5 h
  by_cases c6 : a0 = 119
  · replace h := ip c6 h
    refine z_lookup (off := 69) (tgt := 70) dX8_kindBy_1 (by decide) (by rw [c6]; decide) (by decide) ?_
    refine z_iconst (v := 5) dX8_kindBy_70 rfl ?_
    obtain rfl := Option.some.inj h
    exact z_iret dX8_kindBy_71 rfl rfl
  replace h := ig c6 h
  refine z_lookup (off := 71) (tgt := 72) dX8_kindBy_1 (by decide) ((lv_osw c1 (by decide)).trans ((lv_osw c2 (by decide)).trans ((lv_osw c3 (by decide)).trans ((lv_osw c4 (by decide)).trans ((lv_osw c5 (by decide)).trans ((lv_osw c6 (by decide)).trans rfl)))))) (by decide) ?_
  refine z_bipush (v := (-9)) dX8_kindBy_72 rfl ?_
  obtain rfl := Option.some.inj h
  exact z_iret dX8_kindBy_74 rfl rfl
set_option maxHeartbeats 2000000 in
set_option maxRecDepth 20000 in
theorem t_X8_readsKind (l : Launch) {S : St}   {r : (Int32 × St)} (h : f_X8_readsKind S = some r) : CT l yX8_readsKind M_X8_readsKind [.ref 74] S (some (.int r.1)) r.2 := by
  rw [f_X8_readsKind] at h
  refine ct_of (lv := [(0, .ref 74)]) (by decide) rfl (Nat.le_of_ble_eq_true rfl) ?_
  refine z_aload_n 0 dX8_readsKind_0 rfl ?_
  refine z_get (v := .ref 82) dX8_readsKind_1 fl_8_31 kdl_74 rfl ?_
  refine z_iconst (v := 0) dX8_readsKind_4 rfl ?_
  refine z_aload_n 0 dX8_readsKind_5 rfl ?_
  obtain ⟨v1, hv1, h⟩ := ob h
  refine z_callV (as := []) dX8_readsKind_6 ml_8_83 mv_X8_here (t_X8_here l hv1) kdl_74 ⟨by decide, rfl⟩ rfl rfl (Nat.le_of_ble_eq_true rfl) ⟨Nat.le_of_ble_eq_true rfl, Nat.le_of_ble_eq_true rfl⟩ rfl ?_
  obtain ⟨v2, hv2, h⟩ := ob h
  refine z_callS (as := [.int v1]) dX8_readsKind_9 ml_8_87 ms_X8_kindBy (t_X8_kindBy l _ hv2) rfl rfl (Nat.le_of_ble_eq_true rfl) ⟨Nat.le_of_ble_eq_true rfl, Nat.le_of_ble_eq_true rfl⟩ rfl ?_
  refine z_iastK (j := 0) dX8_readsKind_12 kdl_82 (by decide) (by decide) (by decide) ?_
  refine z_aload_n 0 dX8_readsKind_13 rfl ?_
  refine z_dup dX8_readsKind_14 rfl ?_
  refine z_get (v := .int ((up S 82 0 v2).1 74 10)) dX8_readsKind_15 fl_8_80 kdl_74 rfl ?_
  refine z_aload_n 0 dX8_readsKind_18 rfl ?_
  refine z_get (v := .ref 82) dX8_readsKind_19 fl_8_31 kdl_74 rfl ?_
  refine z_iconst (v := 0) dX8_readsKind_22 rfl ?_
  refine z_ialdK (j := 0) dX8_readsKind_23 kdl_82 (by decide) (by decide) (by decide) ?_
  refine z_if_ge (tgt := 31) dX8_readsKind_24 (by decide) (fun c3 => ?_) (fun c3 => ?_)
  · replace h := ip c3 h
    refine z_iconst (v := 1) dX8_readsKind_31 rfl ?_
    refine z_iadd dX8_readsKind_32 ?_
    refine z_put (fk := 10) dX8_readsKind_33 fl_8_80 fp_8_10 kdl_74 rfl rfl rfl (Nat.le_of_ble_eq_true rfl) ?_
    refine z_aload_n 0 dX8_readsKind_36 rfl ?_
    refine z_get (v := .ref 82) dX8_readsKind_37 fl_8_31 kdl_74 rfl ?_
    refine z_iconst (v := 0) dX8_readsKind_40 rfl ?_
    refine z_ialdK (j := 0) dX8_readsKind_41 kdl_82 (by decide) (by decide) (by decide) ?_
    refine z_if_lt (tgt := 49) dX8_readsKind_42 (by decide) (fun c4 => ?_) (fun c4 => ?_)
    · replace h := ip c4 h
      refine z_iconst (v := 0) dX8_readsKind_49 rfl ?_
      obtain rfl := Option.some.inj h
      exact z_iret dX8_readsKind_50 rfl rfl
    · replace h := ig c4 h
      refine z_iconst (v := 1) dX8_readsKind_45 rfl ?_
      refine z_goto (tgt := 50) dX8_readsKind_46 (by decide) ?_
      obtain rfl := Option.some.inj h
      exact z_iret dX8_readsKind_50 rfl rfl
  · replace h := ig c3 h
    refine z_iconst (v := 0) dX8_readsKind_27 rfl ?_
    refine z_goto (tgt := 32) dX8_readsKind_28 (by decide) ?_
    refine z_iadd dX8_readsKind_32 ?_
    refine z_put (fk := 10) dX8_readsKind_33 fl_8_80 fp_8_10 kdl_74 rfl rfl rfl (Nat.le_of_ble_eq_true rfl) ?_
    refine z_aload_n 0 dX8_readsKind_36 rfl ?_
    refine z_get (v := .ref 82) dX8_readsKind_37 fl_8_31 kdl_74 rfl ?_
    refine z_iconst (v := 0) dX8_readsKind_40 rfl ?_
    refine z_ialdK (j := 0) dX8_readsKind_41 kdl_82 (by decide) (by decide) (by decide) ?_
    refine z_if_lt (tgt := 49) dX8_readsKind_42 (by decide) (fun c5 => ?_) (fun c5 => ?_)
    · replace h := ip c5 h
      refine z_iconst (v := 0) dX8_readsKind_49 rfl ?_
      obtain rfl := Option.some.inj h
      exact z_iret dX8_readsKind_50 rfl rfl
    · replace h := ig c5 h
      refine z_iconst (v := 1) dX8_readsKind_45 rfl ?_
      refine z_goto (tgt := 50) dX8_readsKind_46 (by decide) ?_
      obtain rfl := Option.some.inj h
      exact z_iret dX8_readsKind_50 rfl rfl
set_option maxHeartbeats 2000000 in
set_option maxRecDepth 20000 in
theorem t_X8_readsStatement (l : Launch) {S : St}   {r : (Int32 × St)} (h : f_X8_readsStatement S = some r) : CT l yX8_readsStatement M_X8_readsStatement [.ref 74] S (some (.int r.1)) r.2 := by
  rw [f_X8_readsStatement] at h
  refine ct_of (lv := [(0, .ref 74)]) (by decide) rfl (Nat.le_of_ble_eq_true rfl) ?_
  refine z_aload_n 0 dX8_readsStatement_0 rfl ?_
  obtain ⟨v1, hv1, h⟩ := ob h
  refine z_callV (as := []) dX8_readsStatement_1 ml_8_83 mv_X8_here (t_X8_here l hv1) kdl_74 ⟨by decide, rfl⟩ rfl rfl (Nat.le_of_ble_eq_true rfl) ⟨Nat.le_of_ble_eq_true rfl, Nat.le_of_ble_eq_true rfl⟩ rfl ?_
  refine z_istore_n (lv' := [(0, .ref 74), (1, .int v1)]) [1, 0] dX8_readsStatement_4 (Nat.le_of_ble_eq_true rfl) rfl ?_
  refine z_aload_n 0 dX8_readsStatement_5 rfl ?_
  refine z_dup dX8_readsStatement_6 rfl ?_
  refine z_get (v := .int (S.1 74 10)) dX8_readsStatement_7 fl_8_80 kdl_74 rfl ?_
  refine z_iconst (v := 1) dX8_readsStatement_10 rfl ?_
  refine z_iadd dX8_readsStatement_11 ?_
  refine z_put (fk := 10) dX8_readsStatement_12 fl_8_80 fp_8_10 kdl_74 rfl rfl rfl (Nat.le_of_ble_eq_true rfl) ?_
  refine z_iload_n 1 dX8_readsStatement_15 rfl ?_
  by_cases c2 : v1 = 100
  · replace h := ip c2 h
    refine z_tableIn (off := 222) (tgt := 238) dX8_readsStatement_16 (by rw [c2]; decide) (by rw [c2]; decide) (by rw [c2]; rfl) (by decide) ?_
    refine z_aload_n 0 dX8_readsStatement_238 rfl ?_
    refine z_iconst (v := 0) dX8_readsStatement_239 rfl ?_
    refine z_iconst (v := 2) dX8_readsStatement_240 rfl ?_
    obtain ⟨z3, hz3, h⟩ := ob h
    refine z_callV (as := [.int 0, .int 2]) dX8_readsStatement_241 ml_8_94 mv_X8_readsNumber (t_X8_readsNumber l hz3) kdl_74 ⟨by decide, rfl⟩ rfl rfl (Nat.le_of_ble_eq_true rfl) ⟨Nat.le_of_ble_eq_true rfl, Nat.le_of_ble_eq_true rfl⟩ rfl ?_
    refine z_istore_n (lv' := [(0, .ref 74), (1, .int v1), (2, .int z3.1)]) [1, 2, 0] dX8_readsStatement_244 (Nat.le_of_ble_eq_true rfl) rfl ?_
    refine z_goto (tgt := 323) dX8_readsStatement_245 (by decide) ?_
    refine z_iload_n 2 dX8_readsStatement_323 rfl ?_
    refine z_if_eq (tgt := 336) dX8_readsStatement_324 (by decide) (fun c4 => ?_) (fun c4 => ?_)
    · replace h := ip c4 h
      refine z_iconst (v := 0) dX8_readsStatement_336 rfl ?_
      obtain rfl := Option.some.inj h
      exact z_iret dX8_readsStatement_337 rfl rfl
    · replace h := ig c4 h
      refine z_aload_n 0 dX8_readsStatement_327 rfl ?_
      obtain ⟨v5, hv5, h⟩ := ob h
      refine z_callV (as := []) dX8_readsStatement_328 ml_8_83 mv_X8_here (t_X8_here l hv5) kdl_74 ⟨by decide, rfl⟩ rfl rfl (Nat.le_of_ble_eq_true rfl) ⟨Nat.le_of_ble_eq_true rfl, Nat.le_of_ble_eq_true rfl⟩ rfl ?_
      refine z_bipush (v := 59) dX8_readsStatement_331 rfl ?_
      refine z_icmp_eq (tgt := 338) dX8_readsStatement_333 (by decide) (fun c6 => ?_) (fun c6 => ?_)
      · replace h := ip c6 h
        refine z_aload_n 0 dX8_readsStatement_338 rfl ?_
        refine z_dup dX8_readsStatement_339 rfl ?_
        refine z_get (v := .int (z3.2.1 74 10)) dX8_readsStatement_340 fl_8_80 kdl_74 rfl ?_
        refine z_iconst (v := 1) dX8_readsStatement_343 rfl ?_
        refine z_iadd dX8_readsStatement_344 ?_
        refine z_put (fk := 10) dX8_readsStatement_345 fl_8_80 fp_8_10 kdl_74 rfl rfl rfl (Nat.le_of_ble_eq_true rfl) ?_
        refine z_iconst (v := 1) dX8_readsStatement_348 rfl ?_
        obtain rfl := Option.some.inj h
        exact z_iret dX8_readsStatement_349 rfl rfl
      · replace h := ig c6 h
        refine z_iconst (v := 0) dX8_readsStatement_336 rfl ?_
        obtain rfl := Option.some.inj h
        exact z_iret dX8_readsStatement_337 rfl rfl
  replace h := ig c2 h
  by_cases c7 : v1 = 103
  · replace h := ip c7 h
    refine z_tableIn (off := 129) (tgt := 145) dX8_readsStatement_16 (by rw [c7]; decide) (by rw [c7]; decide) (by rw [c7]; rfl) (by decide) ?_
    refine z_aload_n 0 dX8_readsStatement_145 rfl ?_
    refine z_iconst (v := 0) dX8_readsStatement_146 rfl ?_
    refine z_iconst (v := 1) dX8_readsStatement_147 rfl ?_
    obtain ⟨z8, hz8, h⟩ := ob h
    refine z_callV (as := [.int 0, .int 1]) dX8_readsStatement_148 ml_8_94 mv_X8_readsNumber (t_X8_readsNumber l hz8) kdl_74 ⟨by decide, rfl⟩ rfl rfl (Nat.le_of_ble_eq_true rfl) ⟨Nat.le_of_ble_eq_true rfl, Nat.le_of_ble_eq_true rfl⟩ rfl ?_
    refine z_if_eq (tgt := 176) dX8_readsStatement_151 (by decide) (fun c9 => ?_) (fun c9 => ?_)
    · replace h := ip c9 h
      refine z_iconst (v := 0) dX8_readsStatement_176 rfl ?_
      refine z_istore_n (lv' := [(0, .ref 74), (1, .int v1), (2, .int 0)]) [1, 2, 0] dX8_readsStatement_177 (Nat.le_of_ble_eq_true rfl) rfl ?_
      refine z_aload_n 0 dX8_readsStatement_178 rfl ?_
      refine z_get (v := .ref 82) dX8_readsStatement_179 fl_8_31 kdl_74 rfl ?_
      refine z_iconst (v := 2) dX8_readsStatement_182 rfl ?_
      refine z_aload_n 0 dX8_readsStatement_183 rfl ?_
      refine z_get (v := .ref 82) dX8_readsStatement_184 fl_8_31 kdl_74 rfl ?_
      refine z_iconst (v := 1) dX8_readsStatement_187 rfl ?_
      refine z_ialdK (j := 1) dX8_readsStatement_188 kdl_82 (by decide) (by decide) (by decide) ?_
      refine z_iastK (j := 2) dX8_readsStatement_189 kdl_82 (by decide) (by decide) (by decide) ?_
      refine z_goto (tgt := 323) dX8_readsStatement_190 (by decide) ?_
      refine z_iload_n 2 dX8_readsStatement_323 rfl ?_
      refine z_if_eq (tgt := 336) dX8_readsStatement_324 (by decide) (fun c10 => ?_) (fun c10 => ?_)
      · refine z_iconst (v := 0) dX8_readsStatement_336 rfl ?_
        obtain rfl := Option.some.inj h
        exact z_iret dX8_readsStatement_337 rfl rfl
      · first | exact absurd c10 (by decide) | exact absurd rfl c10
    · replace h := ig c9 h
      refine z_aload_n 0 dX8_readsStatement_154 rfl ?_
      refine z_iconst (v := 1) dX8_readsStatement_155 rfl ?_
      refine z_iconst (v := 2) dX8_readsStatement_156 rfl ?_
      obtain ⟨z11, hz11, h⟩ := ob h
      refine z_callV (as := [.int 1, .int 2]) dX8_readsStatement_157 ml_8_94 mv_X8_readsNumber (t_X8_readsNumber l hz11) kdl_74 ⟨by decide, rfl⟩ rfl rfl (Nat.le_of_ble_eq_true rfl) ⟨Nat.le_of_ble_eq_true rfl, Nat.le_of_ble_eq_true rfl⟩ rfl ?_
      refine z_if_eq (tgt := 176) dX8_readsStatement_160 (by decide) (fun c12 => ?_) (fun c12 => ?_)
      · replace h := ip c12 h
        refine z_iconst (v := 0) dX8_readsStatement_176 rfl ?_
        refine z_istore_n (lv' := [(0, .ref 74), (1, .int v1), (2, .int 0)]) [1, 2, 0] dX8_readsStatement_177 (Nat.le_of_ble_eq_true rfl) rfl ?_
        refine z_aload_n 0 dX8_readsStatement_178 rfl ?_
        refine z_get (v := .ref 82) dX8_readsStatement_179 fl_8_31 kdl_74 rfl ?_
        refine z_iconst (v := 2) dX8_readsStatement_182 rfl ?_
        refine z_aload_n 0 dX8_readsStatement_183 rfl ?_
        refine z_get (v := .ref 82) dX8_readsStatement_184 fl_8_31 kdl_74 rfl ?_
        refine z_iconst (v := 1) dX8_readsStatement_187 rfl ?_
        refine z_ialdK (j := 1) dX8_readsStatement_188 kdl_82 (by decide) (by decide) (by decide) ?_
        refine z_iastK (j := 2) dX8_readsStatement_189 kdl_82 (by decide) (by decide) (by decide) ?_
        refine z_goto (tgt := 323) dX8_readsStatement_190 (by decide) ?_
        refine z_iload_n 2 dX8_readsStatement_323 rfl ?_
        refine z_if_eq (tgt := 336) dX8_readsStatement_324 (by decide) (fun c13 => ?_) (fun c13 => ?_)
        · refine z_iconst (v := 0) dX8_readsStatement_336 rfl ?_
          obtain rfl := Option.some.inj h
          exact z_iret dX8_readsStatement_337 rfl rfl
        · first | exact absurd c13 (by decide) | exact absurd rfl c13
      · replace h := ig c12 h
        refine z_aload_n 0 dX8_readsStatement_163 rfl ?_
        refine z_iconst (v := 3) dX8_readsStatement_164 rfl ?_
        refine z_iconst (v := 2) dX8_readsStatement_165 rfl ?_
        obtain ⟨z14, hz14, h⟩ := ob h
        refine z_callV (as := [.int 3, .int 2]) dX8_readsStatement_166 ml_8_94 mv_X8_readsNumber (t_X8_readsNumber l hz14) kdl_74 ⟨by decide, rfl⟩ rfl rfl (Nat.le_of_ble_eq_true rfl) ⟨Nat.le_of_ble_eq_true rfl, Nat.le_of_ble_eq_true rfl⟩ rfl ?_
        refine z_if_eq (tgt := 176) dX8_readsStatement_169 (by decide) (fun c15 => ?_) (fun c15 => ?_)
        · replace h := ip c15 h
          refine z_iconst (v := 0) dX8_readsStatement_176 rfl ?_
          refine z_istore_n (lv' := [(0, .ref 74), (1, .int v1), (2, .int 0)]) [1, 2, 0] dX8_readsStatement_177 (Nat.le_of_ble_eq_true rfl) rfl ?_
          refine z_aload_n 0 dX8_readsStatement_178 rfl ?_
          refine z_get (v := .ref 82) dX8_readsStatement_179 fl_8_31 kdl_74 rfl ?_
          refine z_iconst (v := 2) dX8_readsStatement_182 rfl ?_
          refine z_aload_n 0 dX8_readsStatement_183 rfl ?_
          refine z_get (v := .ref 82) dX8_readsStatement_184 fl_8_31 kdl_74 rfl ?_
          refine z_iconst (v := 1) dX8_readsStatement_187 rfl ?_
          refine z_ialdK (j := 1) dX8_readsStatement_188 kdl_82 (by decide) (by decide) (by decide) ?_
          refine z_iastK (j := 2) dX8_readsStatement_189 kdl_82 (by decide) (by decide) (by decide) ?_
          refine z_goto (tgt := 323) dX8_readsStatement_190 (by decide) ?_
          refine z_iload_n 2 dX8_readsStatement_323 rfl ?_
          refine z_if_eq (tgt := 336) dX8_readsStatement_324 (by decide) (fun c16 => ?_) (fun c16 => ?_)
          · refine z_iconst (v := 0) dX8_readsStatement_336 rfl ?_
            obtain rfl := Option.some.inj h
            exact z_iret dX8_readsStatement_337 rfl rfl
          · first | exact absurd c16 (by decide) | exact absurd rfl c16
        · replace h := ig c15 h
          refine z_iconst (v := 1) dX8_readsStatement_172 rfl ?_
          refine z_goto (tgt := 177) dX8_readsStatement_173 (by decide) ?_
          refine z_istore_n (lv' := [(0, .ref 74), (1, .int v1), (2, .int 1)]) [1, 2, 0] dX8_readsStatement_177 (Nat.le_of_ble_eq_true rfl) rfl ?_
          refine z_aload_n 0 dX8_readsStatement_178 rfl ?_
          refine z_get (v := .ref 82) dX8_readsStatement_179 fl_8_31 kdl_74 rfl ?_
          refine z_iconst (v := 2) dX8_readsStatement_182 rfl ?_
          refine z_aload_n 0 dX8_readsStatement_183 rfl ?_
          refine z_get (v := .ref 82) dX8_readsStatement_184 fl_8_31 kdl_74 rfl ?_
          refine z_iconst (v := 1) dX8_readsStatement_187 rfl ?_
          refine z_ialdK (j := 1) dX8_readsStatement_188 kdl_82 (by decide) (by decide) (by decide) ?_
          refine z_iastK (j := 2) dX8_readsStatement_189 kdl_82 (by decide) (by decide) (by decide) ?_
          refine z_goto (tgt := 323) dX8_readsStatement_190 (by decide) ?_
          refine z_iload_n 2 dX8_readsStatement_323 rfl ?_
          refine z_if_eq (tgt := 336) dX8_readsStatement_324 (by decide) (fun c17 => ?_) (fun c17 => ?_)
          · first | exact absurd c17 (by decide) | exact absurd rfl c17
          · refine z_aload_n 0 dX8_readsStatement_327 rfl ?_
            obtain ⟨v18, hv18, h⟩ := ob h
            refine z_callV (as := []) dX8_readsStatement_328 ml_8_83 mv_X8_here (t_X8_here l hv18) kdl_74 ⟨by decide, rfl⟩ rfl rfl (Nat.le_of_ble_eq_true rfl) ⟨Nat.le_of_ble_eq_true rfl, Nat.le_of_ble_eq_true rfl⟩ rfl ?_
            refine z_bipush (v := 59) dX8_readsStatement_331 rfl ?_
            refine z_icmp_eq (tgt := 338) dX8_readsStatement_333 (by decide) (fun c19 => ?_) (fun c19 => ?_)
            · replace h := ip c19 h
              refine z_aload_n 0 dX8_readsStatement_338 rfl ?_
              refine z_dup dX8_readsStatement_339 rfl ?_
              refine z_get (v := .int ((up z14.2 82 2 (z14.2.1 82 1)).1 74 10)) dX8_readsStatement_340 fl_8_80 kdl_74 rfl ?_
              refine z_iconst (v := 1) dX8_readsStatement_343 rfl ?_
              refine z_iadd dX8_readsStatement_344 ?_
              refine z_put (fk := 10) dX8_readsStatement_345 fl_8_80 fp_8_10 kdl_74 rfl rfl rfl (Nat.le_of_ble_eq_true rfl) ?_
              refine z_iconst (v := 1) dX8_readsStatement_348 rfl ?_
              obtain rfl := Option.some.inj h
              exact z_iret dX8_readsStatement_349 rfl rfl
            · replace h := ig c19 h
              refine z_iconst (v := 0) dX8_readsStatement_336 rfl ?_
              obtain rfl := Option.some.inj h
              exact z_iret dX8_readsStatement_337 rfl rfl
  replace h := ig c7 h
  by_cases c20 : v1 = 104
  · replace h := ip c20 h
    refine z_tableIn (off := 232) (tgt := 248) dX8_readsStatement_16 (by rw [c20]; decide) (by rw [c20]; decide) (by rw [c20]; rfl) (by decide) ?_
    refine z_aload_n 0 dX8_readsStatement_248 rfl ?_
    refine z_iconst (v := 0) dX8_readsStatement_249 rfl ?_
    refine z_iconst (v := 1) dX8_readsStatement_250 rfl ?_
    obtain ⟨z21, hz21, h⟩ := ob h
    refine z_callV (as := [.int 0, .int 1]) dX8_readsStatement_251 ml_8_94 mv_X8_readsNumber (t_X8_readsNumber l hz21) kdl_74 ⟨by decide, rfl⟩ rfl rfl (Nat.le_of_ble_eq_true rfl) ⟨Nat.le_of_ble_eq_true rfl, Nat.le_of_ble_eq_true rfl⟩ rfl ?_
    refine z_if_eq (tgt := 270) dX8_readsStatement_254 (by decide) (fun c22 => ?_) (fun c22 => ?_)
    · replace h := ip c22 h
      refine z_iconst (v := 0) dX8_readsStatement_270 rfl ?_
      refine z_istore_n (lv' := [(0, .ref 74), (1, .int v1), (2, .int 0)]) [1, 2, 0] dX8_readsStatement_271 (Nat.le_of_ble_eq_true rfl) rfl ?_
      refine z_goto (tgt := 323) dX8_readsStatement_272 (by decide) ?_
      refine z_iload_n 2 dX8_readsStatement_323 rfl ?_
      refine z_if_eq (tgt := 336) dX8_readsStatement_324 (by decide) (fun c23 => ?_) (fun c23 => ?_)
      · refine z_iconst (v := 0) dX8_readsStatement_336 rfl ?_
        obtain rfl := Option.some.inj h
        exact z_iret dX8_readsStatement_337 rfl rfl
      · first | exact absurd c23 (by decide) | exact absurd rfl c23
    · replace h := ig c22 h
      refine z_aload_n 0 dX8_readsStatement_257 rfl ?_
      refine z_iconst (v := 1) dX8_readsStatement_258 rfl ?_
      refine z_iconst (v := 1) dX8_readsStatement_259 rfl ?_
      obtain ⟨z24, hz24, h⟩ := ob h
      refine z_callV (as := [.int 1, .int 1]) dX8_readsStatement_260 ml_8_94 mv_X8_readsNumber (t_X8_readsNumber l hz24) kdl_74 ⟨by decide, rfl⟩ rfl rfl (Nat.le_of_ble_eq_true rfl) ⟨Nat.le_of_ble_eq_true rfl, Nat.le_of_ble_eq_true rfl⟩ rfl ?_
      refine z_if_eq (tgt := 270) dX8_readsStatement_263 (by decide) (fun c25 => ?_) (fun c25 => ?_)
      · replace h := ip c25 h
        refine z_iconst (v := 0) dX8_readsStatement_270 rfl ?_
        refine z_istore_n (lv' := [(0, .ref 74), (1, .int v1), (2, .int 0)]) [1, 2, 0] dX8_readsStatement_271 (Nat.le_of_ble_eq_true rfl) rfl ?_
        refine z_goto (tgt := 323) dX8_readsStatement_272 (by decide) ?_
        refine z_iload_n 2 dX8_readsStatement_323 rfl ?_
        refine z_if_eq (tgt := 336) dX8_readsStatement_324 (by decide) (fun c26 => ?_) (fun c26 => ?_)
        · refine z_iconst (v := 0) dX8_readsStatement_336 rfl ?_
          obtain rfl := Option.some.inj h
          exact z_iret dX8_readsStatement_337 rfl rfl
        · first | exact absurd c26 (by decide) | exact absurd rfl c26
      · replace h := ig c25 h
        refine z_iconst (v := 1) dX8_readsStatement_266 rfl ?_
        refine z_goto (tgt := 271) dX8_readsStatement_267 (by decide) ?_
        refine z_istore_n (lv' := [(0, .ref 74), (1, .int v1), (2, .int 1)]) [1, 2, 0] dX8_readsStatement_271 (Nat.le_of_ble_eq_true rfl) rfl ?_
        refine z_goto (tgt := 323) dX8_readsStatement_272 (by decide) ?_
        refine z_iload_n 2 dX8_readsStatement_323 rfl ?_
        refine z_if_eq (tgt := 336) dX8_readsStatement_324 (by decide) (fun c27 => ?_) (fun c27 => ?_)
        · first | exact absurd c27 (by decide) | exact absurd rfl c27
        · refine z_aload_n 0 dX8_readsStatement_327 rfl ?_
          obtain ⟨v28, hv28, h⟩ := ob h
          refine z_callV (as := []) dX8_readsStatement_328 ml_8_83 mv_X8_here (t_X8_here l hv28) kdl_74 ⟨by decide, rfl⟩ rfl rfl (Nat.le_of_ble_eq_true rfl) ⟨Nat.le_of_ble_eq_true rfl, Nat.le_of_ble_eq_true rfl⟩ rfl ?_
          refine z_bipush (v := 59) dX8_readsStatement_331 rfl ?_
          refine z_icmp_eq (tgt := 338) dX8_readsStatement_333 (by decide) (fun c29 => ?_) (fun c29 => ?_)
          · replace h := ip c29 h
            refine z_aload_n 0 dX8_readsStatement_338 rfl ?_
            refine z_dup dX8_readsStatement_339 rfl ?_
            refine z_get (v := .int (z24.2.1 74 10)) dX8_readsStatement_340 fl_8_80 kdl_74 rfl ?_
            refine z_iconst (v := 1) dX8_readsStatement_343 rfl ?_
            refine z_iadd dX8_readsStatement_344 ?_
            refine z_put (fk := 10) dX8_readsStatement_345 fl_8_80 fp_8_10 kdl_74 rfl rfl rfl (Nat.le_of_ble_eq_true rfl) ?_
            refine z_iconst (v := 1) dX8_readsStatement_348 rfl ?_
            obtain rfl := Option.some.inj h
            exact z_iret dX8_readsStatement_349 rfl rfl
          · replace h := ig c29 h
            refine z_iconst (v := 0) dX8_readsStatement_336 rfl ?_
            obtain rfl := Option.some.inj h
            exact z_iret dX8_readsStatement_337 rfl rfl
  replace h := ig c20 h
  by_cases c30 : v1 = 115
  · replace h := ip c30 h
    refine z_tableIn (off := 259) (tgt := 275) dX8_readsStatement_16 (by rw [c30]; decide) (by rw [c30]; decide) (by rw [c30]; rfl) (by decide) ?_
    refine z_aload_n 0 dX8_readsStatement_275 rfl ?_
    refine z_iconst (v := 0) dX8_readsStatement_276 rfl ?_
    refine z_iconst (v := 1) dX8_readsStatement_277 rfl ?_
    obtain ⟨z31, hz31, h⟩ := ob h
    refine z_callV (as := [.int 0, .int 1]) dX8_readsStatement_278 ml_8_94 mv_X8_readsNumber (t_X8_readsNumber l hz31) kdl_74 ⟨by decide, rfl⟩ rfl rfl (Nat.le_of_ble_eq_true rfl) ⟨Nat.le_of_ble_eq_true rfl, Nat.le_of_ble_eq_true rfl⟩ rfl ?_
    refine z_if_eq (tgt := 306) dX8_readsStatement_281 (by decide) (fun c32 => ?_) (fun c32 => ?_)
    · replace h := ip c32 h
      refine z_iconst (v := 0) dX8_readsStatement_306 rfl ?_
      refine z_istore_n (lv' := [(0, .ref 74), (1, .int v1), (2, .int 0)]) [1, 2, 0] dX8_readsStatement_307 (Nat.le_of_ble_eq_true rfl) rfl ?_
      refine z_goto (tgt := 323) dX8_readsStatement_308 (by decide) ?_
      refine z_iload_n 2 dX8_readsStatement_323 rfl ?_
      refine z_if_eq (tgt := 336) dX8_readsStatement_324 (by decide) (fun c33 => ?_) (fun c33 => ?_)
      · refine z_iconst (v := 0) dX8_readsStatement_336 rfl ?_
        obtain rfl := Option.some.inj h
        exact z_iret dX8_readsStatement_337 rfl rfl
      · first | exact absurd c33 (by decide) | exact absurd rfl c33
    · replace h := ig c32 h
      refine z_aload_n 0 dX8_readsStatement_284 rfl ?_
      refine z_iconst (v := 1) dX8_readsStatement_285 rfl ?_
      refine z_iconst (v := 2) dX8_readsStatement_286 rfl ?_
      obtain ⟨z34, hz34, h⟩ := ob h
      refine z_callV (as := [.int 1, .int 2]) dX8_readsStatement_287 ml_8_94 mv_X8_readsNumber (t_X8_readsNumber l hz34) kdl_74 ⟨by decide, rfl⟩ rfl rfl (Nat.le_of_ble_eq_true rfl) ⟨Nat.le_of_ble_eq_true rfl, Nat.le_of_ble_eq_true rfl⟩ rfl ?_
      refine z_if_eq (tgt := 306) dX8_readsStatement_290 (by decide) (fun c35 => ?_) (fun c35 => ?_)
      · replace h := ip c35 h
        refine z_iconst (v := 0) dX8_readsStatement_306 rfl ?_
        refine z_istore_n (lv' := [(0, .ref 74), (1, .int v1), (2, .int 0)]) [1, 2, 0] dX8_readsStatement_307 (Nat.le_of_ble_eq_true rfl) rfl ?_
        refine z_goto (tgt := 323) dX8_readsStatement_308 (by decide) ?_
        refine z_iload_n 2 dX8_readsStatement_323 rfl ?_
        refine z_if_eq (tgt := 336) dX8_readsStatement_324 (by decide) (fun c36 => ?_) (fun c36 => ?_)
        · refine z_iconst (v := 0) dX8_readsStatement_336 rfl ?_
          obtain rfl := Option.some.inj h
          exact z_iret dX8_readsStatement_337 rfl rfl
        · first | exact absurd c36 (by decide) | exact absurd rfl c36
      · replace h := ig c35 h
        refine z_aload_n 0 dX8_readsStatement_293 rfl ?_
        refine z_iconst (v := 2) dX8_readsStatement_294 rfl ?_
        refine z_iconst (v := 1) dX8_readsStatement_295 rfl ?_
        obtain ⟨z37, hz37, h⟩ := ob h
        refine z_callV (as := [.int 2, .int 1]) dX8_readsStatement_296 ml_8_94 mv_X8_readsNumber (t_X8_readsNumber l hz37) kdl_74 ⟨by decide, rfl⟩ rfl rfl (Nat.le_of_ble_eq_true rfl) ⟨Nat.le_of_ble_eq_true rfl, Nat.le_of_ble_eq_true rfl⟩ rfl ?_
        refine z_if_eq (tgt := 306) dX8_readsStatement_299 (by decide) (fun c38 => ?_) (fun c38 => ?_)
        · replace h := ip c38 h
          refine z_iconst (v := 0) dX8_readsStatement_306 rfl ?_
          refine z_istore_n (lv' := [(0, .ref 74), (1, .int v1), (2, .int 0)]) [1, 2, 0] dX8_readsStatement_307 (Nat.le_of_ble_eq_true rfl) rfl ?_
          refine z_goto (tgt := 323) dX8_readsStatement_308 (by decide) ?_
          refine z_iload_n 2 dX8_readsStatement_323 rfl ?_
          refine z_if_eq (tgt := 336) dX8_readsStatement_324 (by decide) (fun c39 => ?_) (fun c39 => ?_)
          · refine z_iconst (v := 0) dX8_readsStatement_336 rfl ?_
            obtain rfl := Option.some.inj h
            exact z_iret dX8_readsStatement_337 rfl rfl
          · first | exact absurd c39 (by decide) | exact absurd rfl c39
        · replace h := ig c38 h
          refine z_iconst (v := 1) dX8_readsStatement_302 rfl ?_
          refine z_goto (tgt := 307) dX8_readsStatement_303 (by decide) ?_
          refine z_istore_n (lv' := [(0, .ref 74), (1, .int v1), (2, .int 1)]) [1, 2, 0] dX8_readsStatement_307 (Nat.le_of_ble_eq_true rfl) rfl ?_
          refine z_goto (tgt := 323) dX8_readsStatement_308 (by decide) ?_
          refine z_iload_n 2 dX8_readsStatement_323 rfl ?_
          refine z_if_eq (tgt := 336) dX8_readsStatement_324 (by decide) (fun c40 => ?_) (fun c40 => ?_)
          · first | exact absurd c40 (by decide) | exact absurd rfl c40
          · refine z_aload_n 0 dX8_readsStatement_327 rfl ?_
            obtain ⟨v41, hv41, h⟩ := ob h
            refine z_callV (as := []) dX8_readsStatement_328 ml_8_83 mv_X8_here (t_X8_here l hv41) kdl_74 ⟨by decide, rfl⟩ rfl rfl (Nat.le_of_ble_eq_true rfl) ⟨Nat.le_of_ble_eq_true rfl, Nat.le_of_ble_eq_true rfl⟩ rfl ?_
            refine z_bipush (v := 59) dX8_readsStatement_331 rfl ?_
            refine z_icmp_eq (tgt := 338) dX8_readsStatement_333 (by decide) (fun c42 => ?_) (fun c42 => ?_)
            · replace h := ip c42 h
              refine z_aload_n 0 dX8_readsStatement_338 rfl ?_
              refine z_dup dX8_readsStatement_339 rfl ?_
              refine z_get (v := .int (z37.2.1 74 10)) dX8_readsStatement_340 fl_8_80 kdl_74 rfl ?_
              refine z_iconst (v := 1) dX8_readsStatement_343 rfl ?_
              refine z_iadd dX8_readsStatement_344 ?_
              refine z_put (fk := 10) dX8_readsStatement_345 fl_8_80 fp_8_10 kdl_74 rfl rfl rfl (Nat.le_of_ble_eq_true rfl) ?_
              refine z_iconst (v := 1) dX8_readsStatement_348 rfl ?_
              obtain rfl := Option.some.inj h
              exact z_iret dX8_readsStatement_349 rfl rfl
            · replace h := ig c42 h
              refine z_iconst (v := 0) dX8_readsStatement_336 rfl ?_
              obtain rfl := Option.some.inj h
              exact z_iret dX8_readsStatement_337 rfl rfl
  replace h := ig c30 h
  by_cases c43 : v1 = 116
  · replace h := ip c43 h
    refine z_tableIn (off := 104) (tgt := 120) dX8_readsStatement_16 (by rw [c43]; decide) (by rw [c43]; decide) (by rw [c43]; rfl) (by decide) ?_
    refine z_aload_n 0 dX8_readsStatement_120 rfl ?_
    obtain ⟨z44, hz44, h⟩ := ob h
    refine z_callV (as := []) dX8_readsStatement_121 ml_8_90 mv_X8_readsKind (t_X8_readsKind l hz44) kdl_74 ⟨by decide, rfl⟩ rfl rfl (Nat.le_of_ble_eq_true rfl) ⟨Nat.le_of_ble_eq_true rfl, Nat.le_of_ble_eq_true rfl⟩ rfl ?_
    refine z_if_eq (tgt := 140) dX8_readsStatement_124 (by decide) (fun c45 => ?_) (fun c45 => ?_)
    · replace h := ip c45 h
      refine z_iconst (v := 0) dX8_readsStatement_140 rfl ?_
      refine z_istore_n (lv' := [(0, .ref 74), (1, .int v1), (2, .int 0)]) [1, 2, 0] dX8_readsStatement_141 (Nat.le_of_ble_eq_true rfl) rfl ?_
      refine z_goto (tgt := 323) dX8_readsStatement_142 (by decide) ?_
      refine z_iload_n 2 dX8_readsStatement_323 rfl ?_
      refine z_if_eq (tgt := 336) dX8_readsStatement_324 (by decide) (fun c46 => ?_) (fun c46 => ?_)
      · refine z_iconst (v := 0) dX8_readsStatement_336 rfl ?_
        obtain rfl := Option.some.inj h
        exact z_iret dX8_readsStatement_337 rfl rfl
      · first | exact absurd c46 (by decide) | exact absurd rfl c46
    · replace h := ig c45 h
      refine z_aload_n 0 dX8_readsStatement_127 rfl ?_
      refine z_iconst (v := 1) dX8_readsStatement_128 rfl ?_
      refine z_iconst (v := 1) dX8_readsStatement_129 rfl ?_
      obtain ⟨z47, hz47, h⟩ := ob h
      refine z_callV (as := [.int 1, .int 1]) dX8_readsStatement_130 ml_8_94 mv_X8_readsNumber (t_X8_readsNumber l hz47) kdl_74 ⟨by decide, rfl⟩ rfl rfl (Nat.le_of_ble_eq_true rfl) ⟨Nat.le_of_ble_eq_true rfl, Nat.le_of_ble_eq_true rfl⟩ rfl ?_
      refine z_if_eq (tgt := 140) dX8_readsStatement_133 (by decide) (fun c48 => ?_) (fun c48 => ?_)
      · replace h := ip c48 h
        refine z_iconst (v := 0) dX8_readsStatement_140 rfl ?_
        refine z_istore_n (lv' := [(0, .ref 74), (1, .int v1), (2, .int 0)]) [1, 2, 0] dX8_readsStatement_141 (Nat.le_of_ble_eq_true rfl) rfl ?_
        refine z_goto (tgt := 323) dX8_readsStatement_142 (by decide) ?_
        refine z_iload_n 2 dX8_readsStatement_323 rfl ?_
        refine z_if_eq (tgt := 336) dX8_readsStatement_324 (by decide) (fun c49 => ?_) (fun c49 => ?_)
        · refine z_iconst (v := 0) dX8_readsStatement_336 rfl ?_
          obtain rfl := Option.some.inj h
          exact z_iret dX8_readsStatement_337 rfl rfl
        · first | exact absurd c49 (by decide) | exact absurd rfl c49
      · replace h := ig c48 h
        refine z_iconst (v := 1) dX8_readsStatement_136 rfl ?_
        refine z_goto (tgt := 141) dX8_readsStatement_137 (by decide) ?_
        refine z_istore_n (lv' := [(0, .ref 74), (1, .int v1), (2, .int 1)]) [1, 2, 0] dX8_readsStatement_141 (Nat.le_of_ble_eq_true rfl) rfl ?_
        refine z_goto (tgt := 323) dX8_readsStatement_142 (by decide) ?_
        refine z_iload_n 2 dX8_readsStatement_323 rfl ?_
        refine z_if_eq (tgt := 336) dX8_readsStatement_324 (by decide) (fun c50 => ?_) (fun c50 => ?_)
        · first | exact absurd c50 (by decide) | exact absurd rfl c50
        · refine z_aload_n 0 dX8_readsStatement_327 rfl ?_
          obtain ⟨v51, hv51, h⟩ := ob h
          refine z_callV (as := []) dX8_readsStatement_328 ml_8_83 mv_X8_here (t_X8_here l hv51) kdl_74 ⟨by decide, rfl⟩ rfl rfl (Nat.le_of_ble_eq_true rfl) ⟨Nat.le_of_ble_eq_true rfl, Nat.le_of_ble_eq_true rfl⟩ rfl ?_
          refine z_bipush (v := 59) dX8_readsStatement_331 rfl ?_
          refine z_icmp_eq (tgt := 338) dX8_readsStatement_333 (by decide) (fun c52 => ?_) (fun c52 => ?_)
          · replace h := ip c52 h
            refine z_aload_n 0 dX8_readsStatement_338 rfl ?_
            refine z_dup dX8_readsStatement_339 rfl ?_
            refine z_get (v := .int (z47.2.1 74 10)) dX8_readsStatement_340 fl_8_80 kdl_74 rfl ?_
            refine z_iconst (v := 1) dX8_readsStatement_343 rfl ?_
            refine z_iadd dX8_readsStatement_344 ?_
            refine z_put (fk := 10) dX8_readsStatement_345 fl_8_80 fp_8_10 kdl_74 rfl rfl rfl (Nat.le_of_ble_eq_true rfl) ?_
            refine z_iconst (v := 1) dX8_readsStatement_348 rfl ?_
            obtain rfl := Option.some.inj h
            exact z_iret dX8_readsStatement_349 rfl rfl
          · replace h := ig c52 h
            refine z_iconst (v := 0) dX8_readsStatement_336 rfl ?_
            obtain rfl := Option.some.inj h
            exact z_iret dX8_readsStatement_337 rfl rfl
  replace h := ig c43 h
  by_cases c53 : v1 = 118
  · replace h := ip c53 h
    refine z_tableIn (off := 177) (tgt := 193) dX8_readsStatement_16 (by rw [c53]; decide) (by rw [c53]; decide) (by rw [c53]; rfl) (by decide) ?_
    refine z_aload_n 0 dX8_readsStatement_193 rfl ?_
    refine z_iconst (v := 0) dX8_readsStatement_194 rfl ?_
    refine z_iconst (v := 1) dX8_readsStatement_195 rfl ?_
    obtain ⟨z54, hz54, h⟩ := ob h
    refine z_callV (as := [.int 0, .int 1]) dX8_readsStatement_196 ml_8_94 mv_X8_readsNumber (t_X8_readsNumber l hz54) kdl_74 ⟨by decide, rfl⟩ rfl rfl (Nat.le_of_ble_eq_true rfl) ⟨Nat.le_of_ble_eq_true rfl, Nat.le_of_ble_eq_true rfl⟩ rfl ?_
    refine z_if_eq (tgt := 233) dX8_readsStatement_199 (by decide) (fun c55 => ?_) (fun c55 => ?_)
    · replace h := ip c55 h
      refine z_iconst (v := 0) dX8_readsStatement_233 rfl ?_
      refine z_istore_n (lv' := [(0, .ref 74), (1, .int v1), (2, .int 0)]) [1, 2, 0] dX8_readsStatement_234 (Nat.le_of_ble_eq_true rfl) rfl ?_
      refine z_goto (tgt := 323) dX8_readsStatement_235 (by decide) ?_
      refine z_iload_n 2 dX8_readsStatement_323 rfl ?_
      refine z_if_eq (tgt := 336) dX8_readsStatement_324 (by decide) (fun c56 => ?_) (fun c56 => ?_)
      · refine z_iconst (v := 0) dX8_readsStatement_336 rfl ?_
        obtain rfl := Option.some.inj h
        exact z_iret dX8_readsStatement_337 rfl rfl
      · first | exact absurd c56 (by decide) | exact absurd rfl c56
    · replace h := ig c55 h
      refine z_aload_n 0 dX8_readsStatement_202 rfl ?_
      refine z_iconst (v := 1) dX8_readsStatement_203 rfl ?_
      refine z_iconst (v := 2) dX8_readsStatement_204 rfl ?_
      obtain ⟨z57, hz57, h⟩ := ob h
      refine z_callV (as := [.int 1, .int 2]) dX8_readsStatement_205 ml_8_94 mv_X8_readsNumber (t_X8_readsNumber l hz57) kdl_74 ⟨by decide, rfl⟩ rfl rfl (Nat.le_of_ble_eq_true rfl) ⟨Nat.le_of_ble_eq_true rfl, Nat.le_of_ble_eq_true rfl⟩ rfl ?_
      refine z_if_eq (tgt := 233) dX8_readsStatement_208 (by decide) (fun c58 => ?_) (fun c58 => ?_)
      · replace h := ip c58 h
        refine z_iconst (v := 0) dX8_readsStatement_233 rfl ?_
        refine z_istore_n (lv' := [(0, .ref 74), (1, .int v1), (2, .int 0)]) [1, 2, 0] dX8_readsStatement_234 (Nat.le_of_ble_eq_true rfl) rfl ?_
        refine z_goto (tgt := 323) dX8_readsStatement_235 (by decide) ?_
        refine z_iload_n 2 dX8_readsStatement_323 rfl ?_
        refine z_if_eq (tgt := 336) dX8_readsStatement_324 (by decide) (fun c59 => ?_) (fun c59 => ?_)
        · refine z_iconst (v := 0) dX8_readsStatement_336 rfl ?_
          obtain rfl := Option.some.inj h
          exact z_iret dX8_readsStatement_337 rfl rfl
        · first | exact absurd c59 (by decide) | exact absurd rfl c59
      · replace h := ig c58 h
        refine z_aload_n 0 dX8_readsStatement_211 rfl ?_
        refine z_iconst (v := 2) dX8_readsStatement_212 rfl ?_
        refine z_iconst (v := 2) dX8_readsStatement_213 rfl ?_
        obtain ⟨z60, hz60, h⟩ := ob h
        refine z_callV (as := [.int 2, .int 2]) dX8_readsStatement_214 ml_8_94 mv_X8_readsNumber (t_X8_readsNumber l hz60) kdl_74 ⟨by decide, rfl⟩ rfl rfl (Nat.le_of_ble_eq_true rfl) ⟨Nat.le_of_ble_eq_true rfl, Nat.le_of_ble_eq_true rfl⟩ rfl ?_
        refine z_if_eq (tgt := 233) dX8_readsStatement_217 (by decide) (fun c61 => ?_) (fun c61 => ?_)
        · replace h := ip c61 h
          refine z_iconst (v := 0) dX8_readsStatement_233 rfl ?_
          refine z_istore_n (lv' := [(0, .ref 74), (1, .int v1), (2, .int 0)]) [1, 2, 0] dX8_readsStatement_234 (Nat.le_of_ble_eq_true rfl) rfl ?_
          refine z_goto (tgt := 323) dX8_readsStatement_235 (by decide) ?_
          refine z_iload_n 2 dX8_readsStatement_323 rfl ?_
          refine z_if_eq (tgt := 336) dX8_readsStatement_324 (by decide) (fun c62 => ?_) (fun c62 => ?_)
          · refine z_iconst (v := 0) dX8_readsStatement_336 rfl ?_
            obtain rfl := Option.some.inj h
            exact z_iret dX8_readsStatement_337 rfl rfl
          · first | exact absurd c62 (by decide) | exact absurd rfl c62
        · replace h := ig c61 h
          refine z_aload_n 0 dX8_readsStatement_220 rfl ?_
          refine z_iconst (v := 3) dX8_readsStatement_221 rfl ?_
          refine z_iconst (v := 2) dX8_readsStatement_222 rfl ?_
          obtain ⟨z63, hz63, h⟩ := ob h
          refine z_callV (as := [.int 3, .int 2]) dX8_readsStatement_223 ml_8_94 mv_X8_readsNumber (t_X8_readsNumber l hz63) kdl_74 ⟨by decide, rfl⟩ rfl rfl (Nat.le_of_ble_eq_true rfl) ⟨Nat.le_of_ble_eq_true rfl, Nat.le_of_ble_eq_true rfl⟩ rfl ?_
          refine z_if_eq (tgt := 233) dX8_readsStatement_226 (by decide) (fun c64 => ?_) (fun c64 => ?_)
          · replace h := ip c64 h
            refine z_iconst (v := 0) dX8_readsStatement_233 rfl ?_
            refine z_istore_n (lv' := [(0, .ref 74), (1, .int v1), (2, .int 0)]) [1, 2, 0] dX8_readsStatement_234 (Nat.le_of_ble_eq_true rfl) rfl ?_
            refine z_goto (tgt := 323) dX8_readsStatement_235 (by decide) ?_
            refine z_iload_n 2 dX8_readsStatement_323 rfl ?_
            refine z_if_eq (tgt := 336) dX8_readsStatement_324 (by decide) (fun c65 => ?_) (fun c65 => ?_)
            · refine z_iconst (v := 0) dX8_readsStatement_336 rfl ?_
              obtain rfl := Option.some.inj h
              exact z_iret dX8_readsStatement_337 rfl rfl
            · first | exact absurd c65 (by decide) | exact absurd rfl c65
          · replace h := ig c64 h
            refine z_iconst (v := 1) dX8_readsStatement_229 rfl ?_
            refine z_goto (tgt := 234) dX8_readsStatement_230 (by decide) ?_
            refine z_istore_n (lv' := [(0, .ref 74), (1, .int v1), (2, .int 1)]) [1, 2, 0] dX8_readsStatement_234 (Nat.le_of_ble_eq_true rfl) rfl ?_
            refine z_goto (tgt := 323) dX8_readsStatement_235 (by decide) ?_
            refine z_iload_n 2 dX8_readsStatement_323 rfl ?_
            refine z_if_eq (tgt := 336) dX8_readsStatement_324 (by decide) (fun c66 => ?_) (fun c66 => ?_)
            · first | exact absurd c66 (by decide) | exact absurd rfl c66
            · refine z_aload_n 0 dX8_readsStatement_327 rfl ?_
              obtain ⟨v67, hv67, h⟩ := ob h
              refine z_callV (as := []) dX8_readsStatement_328 ml_8_83 mv_X8_here (t_X8_here l hv67) kdl_74 ⟨by decide, rfl⟩ rfl rfl (Nat.le_of_ble_eq_true rfl) ⟨Nat.le_of_ble_eq_true rfl, Nat.le_of_ble_eq_true rfl⟩ rfl ?_
              refine z_bipush (v := 59) dX8_readsStatement_331 rfl ?_
              refine z_icmp_eq (tgt := 338) dX8_readsStatement_333 (by decide) (fun c68 => ?_) (fun c68 => ?_)
              · replace h := ip c68 h
                refine z_aload_n 0 dX8_readsStatement_338 rfl ?_
                refine z_dup dX8_readsStatement_339 rfl ?_
                refine z_get (v := .int (z63.2.1 74 10)) dX8_readsStatement_340 fl_8_80 kdl_74 rfl ?_
                refine z_iconst (v := 1) dX8_readsStatement_343 rfl ?_
                refine z_iadd dX8_readsStatement_344 ?_
                refine z_put (fk := 10) dX8_readsStatement_345 fl_8_80 fp_8_10 kdl_74 rfl rfl rfl (Nat.le_of_ble_eq_true rfl) ?_
                refine z_iconst (v := 1) dX8_readsStatement_348 rfl ?_
                obtain rfl := Option.some.inj h
                exact z_iret dX8_readsStatement_349 rfl rfl
              · replace h := ig c68 h
                refine z_iconst (v := 0) dX8_readsStatement_336 rfl ?_
                obtain rfl := Option.some.inj h
                exact z_iret dX8_readsStatement_337 rfl rfl
  replace h := ig c53 h
  by_cases c69 : v1 = 121
  · replace h := ip c69 h
    refine z_tableIn (off := 222) (tgt := 238) dX8_readsStatement_16 (by rw [c69]; decide) (by rw [c69]; decide) (by rw [c69]; rfl) (by decide) ?_
    refine z_aload_n 0 dX8_readsStatement_238 rfl ?_
    refine z_iconst (v := 0) dX8_readsStatement_239 rfl ?_
    refine z_iconst (v := 2) dX8_readsStatement_240 rfl ?_
    obtain ⟨z70, hz70, h⟩ := ob h
    refine z_callV (as := [.int 0, .int 2]) dX8_readsStatement_241 ml_8_94 mv_X8_readsNumber (t_X8_readsNumber l hz70) kdl_74 ⟨by decide, rfl⟩ rfl rfl (Nat.le_of_ble_eq_true rfl) ⟨Nat.le_of_ble_eq_true rfl, Nat.le_of_ble_eq_true rfl⟩ rfl ?_
    refine z_istore_n (lv' := [(0, .ref 74), (1, .int v1), (2, .int z70.1)]) [1, 2, 0] dX8_readsStatement_244 (Nat.le_of_ble_eq_true rfl) rfl ?_
    refine z_goto (tgt := 323) dX8_readsStatement_245 (by decide) ?_
    refine z_iload_n 2 dX8_readsStatement_323 rfl ?_
    refine z_if_eq (tgt := 336) dX8_readsStatement_324 (by decide) (fun c71 => ?_) (fun c71 => ?_)
    · replace h := ip c71 h
      refine z_iconst (v := 0) dX8_readsStatement_336 rfl ?_
      obtain rfl := Option.some.inj h
      exact z_iret dX8_readsStatement_337 rfl rfl
    · replace h := ig c71 h
      refine z_aload_n 0 dX8_readsStatement_327 rfl ?_
      obtain ⟨v72, hv72, h⟩ := ob h
      refine z_callV (as := []) dX8_readsStatement_328 ml_8_83 mv_X8_here (t_X8_here l hv72) kdl_74 ⟨by decide, rfl⟩ rfl rfl (Nat.le_of_ble_eq_true rfl) ⟨Nat.le_of_ble_eq_true rfl, Nat.le_of_ble_eq_true rfl⟩ rfl ?_
      refine z_bipush (v := 59) dX8_readsStatement_331 rfl ?_
      refine z_icmp_eq (tgt := 338) dX8_readsStatement_333 (by decide) (fun c73 => ?_) (fun c73 => ?_)
      · replace h := ip c73 h
        refine z_aload_n 0 dX8_readsStatement_338 rfl ?_
        refine z_dup dX8_readsStatement_339 rfl ?_
        refine z_get (v := .int (z70.2.1 74 10)) dX8_readsStatement_340 fl_8_80 kdl_74 rfl ?_
        refine z_iconst (v := 1) dX8_readsStatement_343 rfl ?_
        refine z_iadd dX8_readsStatement_344 ?_
        refine z_put (fk := 10) dX8_readsStatement_345 fl_8_80 fp_8_10 kdl_74 rfl rfl rfl (Nat.le_of_ble_eq_true rfl) ?_
        refine z_iconst (v := 1) dX8_readsStatement_348 rfl ?_
        obtain rfl := Option.some.inj h
        exact z_iret dX8_readsStatement_349 rfl rfl
      · replace h := ig c73 h
        refine z_iconst (v := 0) dX8_readsStatement_336 rfl ?_
        obtain rfl := Option.some.inj h
        exact z_iret dX8_readsStatement_337 rfl rfl
  replace h := ig c69 h
  refine z_tableG (tgt := 311) (n := 22) [100, 103, 104, 115, 116, 118, 121] dX8_readsStatement_16 (by decide) (by decide) (zrc (lv_neT c2 (by decide)) (zrc (lv_neT c7 (by decide)) (zrc (lv_neT c20 (by decide)) (zrc (lv_neT c30 (by decide)) (zrc (lv_neT c43 (by decide)) (zrc (lv_neT c53 (by decide)) (zrc (lv_neT c69 (by decide)) zrn))))))) (by decide) ?_
  refine z_aload_n 0 dX8_readsStatement_311 rfl ?_
  refine z_dup dX8_readsStatement_312 rfl ?_
  refine z_get (v := .int ((up S 74 10 ((S.1 74 10) + 1)).1 74 10)) dX8_readsStatement_313 fl_8_80 kdl_74 rfl ?_
  refine z_iconst (v := 1) dX8_readsStatement_316 rfl ?_
  refine z_isub dX8_readsStatement_317 ?_
  refine z_put (fk := 10) dX8_readsStatement_318 fl_8_80 fp_8_10 kdl_74 rfl rfl rfl (Nat.le_of_ble_eq_true rfl) ?_
  refine z_iconst (v := 0) dX8_readsStatement_321 rfl ?_
  obtain rfl := Option.some.inj h
  exact z_iret dX8_readsStatement_322 rfl rfl
set_option maxHeartbeats 2000000 in
set_option maxRecDepth 20000 in
theorem t_X8_turnsHalves (l : Launch) {S : St}  {a1 : Int32} {a2 : Int32} {r : St} (h : f_X8_turnsHalves a1 a2 S = some r) : CT l yX8_turnsHalves M_X8_turnsHalves [.ref 74, .int a1, .int a2] S none r := by
  rw [f_X8_turnsHalves] at h
  refine ct_of (lv := [(0, .ref 74), (1, .int a1), (2, .int a2)]) (by decide) rfl (Nat.le_of_ble_eq_true rfl) ?_
  refine z_aload_n 0 dX8_turnsHalves_0 rfl ?_
  refine z_get (v := .ref 75) dX8_turnsHalves_1 fl_8_9 kdl_74 rfl ?_
  refine z_bipush (v := 124) dX8_turnsHalves_4 rfl ?_
  refine z_iload_n 1 dX8_turnsHalves_6 rfl ?_
  refine z_iadd dX8_turnsHalves_7 ?_
  refine z_dup2 dX8_turnsHalves_8 rfl rfl ?_
  obtain ⟨c1, h⟩ := oi h
  refine z_iald dX8_turnsHalves_9 kdl_75 (by decide) c1 ?_
  refine z_iconst (v := 1) dX8_turnsHalves_10 rfl ?_
  refine z_iload_n 2 dX8_turnsHalves_11 rfl ?_
  refine z_ishl dX8_turnsHalves_12 ?_
  refine z_ixor dX8_turnsHalves_13 ?_
  obtain ⟨c2, h⟩ := oi h
  refine z_iast dX8_turnsHalves_14 kdl_75 (by decide) c2 ?_
  refine z_aload_n 0 dX8_turnsHalves_15 rfl ?_
  refine z_get (v := .ref 75) dX8_turnsHalves_16 fl_8_9 kdl_74 rfl ?_
  refine z_bipush (v := 124) dX8_turnsHalves_19 rfl ?_
  refine z_iload_n 2 dX8_turnsHalves_21 rfl ?_
  refine z_iadd dX8_turnsHalves_22 ?_
  refine z_dup2 dX8_turnsHalves_23 rfl rfl ?_
  obtain ⟨c3, h⟩ := oi h
  refine z_iald dX8_turnsHalves_24 kdl_75 (by decide) c3 ?_
  refine z_iconst (v := 1) dX8_turnsHalves_25 rfl ?_
  refine z_iload_n 1 dX8_turnsHalves_26 rfl ?_
  refine z_ishl dX8_turnsHalves_27 ?_
  refine z_ixor dX8_turnsHalves_28 ?_
  obtain ⟨c4, h⟩ := oi h
  refine z_iast dX8_turnsHalves_29 kdl_75 (by decide) c4 ?_
  obtain rfl := Option.some.inj h
  exact z_vret dX8_turnsHalves_30 rfl
set_option maxHeartbeats 2000000 in
set_option maxRecDepth 20000 in
theorem t_X8_canGlue (l : Launch) {S : St}  {a1 : Int32} {r : Int32} (h : f_X8_canGlue a1 S = some r) : CT l yX8_canGlue M_X8_canGlue [.ref 74, .int a1] S (some (.int r)) S := by
  rw [f_X8_canGlue] at h
  refine ct_of (lv := [(0, .ref 74), (1, .int a1)]) (by decide) rfl (Nat.le_of_ble_eq_true rfl) ?_
  refine z_aload_n 0 dX8_canGlue_0 rfl ?_
  refine z_get (v := .ref 75) dX8_canGlue_1 fl_8_9 kdl_74 rfl ?_
  refine z_bipush (v := 20) dX8_canGlue_4 rfl ?_
  refine z_iload_n 1 dX8_canGlue_6 rfl ?_
  refine z_iadd dX8_canGlue_7 ?_
  obtain ⟨c1, h⟩ := oi h
  refine z_iald dX8_canGlue_8 kdl_75 (by decide) c1 ?_
  refine z_if_ge (tgt := 33) dX8_canGlue_9 (by decide) (fun c2 => ?_) (fun c2 => ?_)
  · replace h := ip c2 h
    refine z_iconst (v := 0) dX8_canGlue_33 rfl ?_
    obtain rfl := Option.some.inj h
    exact z_iret dX8_canGlue_34 rfl rfl
  · replace h := ig c2 h
    refine z_aload_n 0 dX8_canGlue_12 rfl ?_
    refine z_get (v := .ref 75) dX8_canGlue_13 fl_8_9 kdl_74 rfl ?_
    refine z_iconst (v := 2) dX8_canGlue_16 rfl ?_
    refine z_ialdK (j := 2) dX8_canGlue_17 kdl_75 (by decide) (by decide) (by decide) ?_
    refine z_aload_n 0 dX8_canGlue_18 rfl ?_
    refine z_get (v := .ref 75) dX8_canGlue_19 fl_8_9 kdl_74 rfl ?_
    refine z_iload_n 1 dX8_canGlue_22 rfl ?_
    obtain ⟨v3, hv3, h⟩ := ob h
    refine z_callS (as := [.ref 75, .int a1]) dX8_canGlue_23 ml_8_98 ms_X8_cost (t_X8_cost l kdl_75 hv3) rfl rfl (Nat.le_of_ble_eq_true rfl) ⟨Nat.le_of_ble_eq_true rfl, Nat.le_of_ble_eq_true rfl⟩ rfl ?_
    refine z_icmp_lt (tgt := 33) dX8_canGlue_26 (by decide) (fun c4 => ?_) (fun c4 => ?_)
    · replace h := ip c4 h
      refine z_iconst (v := 0) dX8_canGlue_33 rfl ?_
      obtain rfl := Option.some.inj h
      exact z_iret dX8_canGlue_34 rfl rfl
    · replace h := ig c4 h
      refine z_iconst (v := 1) dX8_canGlue_29 rfl ?_
      refine z_goto (tgt := 34) dX8_canGlue_30 (by decide) ?_
      obtain rfl := Option.some.inj h
      exact z_iret dX8_canGlue_34 rfl rfl
set_option maxHeartbeats 2000000 in
set_option maxRecDepth 20000 in
theorem t_X8_gluesTo (l : Launch) {S : St}  {a1 : Int32} {a2 : Int32} {a3 : Int32} {r : (Int32 × St)} (h : f_X8_gluesTo a1 a2 a3 S = some r) : CT l yX8_gluesTo M_X8_gluesTo [.ref 74, .int a1, .int a2, .int a3] S (some (.int r.1)) r.2 := by
  rw [f_X8_gluesTo] at h
  refine ct_of (lv := [(0, .ref 74), (1, .int a1), (2, .int a2), (3, .int a3)]) (by decide) rfl (Nat.le_of_ble_eq_true rfl) ?_
  refine z_aload_n 0 dX8_gluesTo_0 rfl ?_
  refine z_get (v := .ref 75) dX8_gluesTo_1 fl_8_9 kdl_74 rfl ?_
  refine z_bipush (v := 20) dX8_gluesTo_4 rfl ?_
  refine z_iload_n 1 dX8_gluesTo_6 rfl ?_
  refine z_iadd dX8_gluesTo_7 ?_
  refine z_aload_n 0 dX8_gluesTo_8 rfl ?_
  refine z_get (v := .ref 75) dX8_gluesTo_9 fl_8_9 kdl_74 rfl ?_
  refine z_iload_n 1 dX8_gluesTo_12 rfl ?_
  refine z_iload_n 2 dX8_gluesTo_13 rfl ?_
  refine z_iload_n 3 dX8_gluesTo_14 rfl ?_
  obtain ⟨v1, hv1, h⟩ := ob h
  refine z_callS (as := [.ref 75, .int a1, .int a2, .int a3]) dX8_gluesTo_15 ml_8_73 ms_X8_yearOf (t_X8_yearOf l kdl_75 hv1) rfl rfl (Nat.le_of_ble_eq_true rfl) ⟨Nat.le_of_ble_eq_true rfl, Nat.le_of_ble_eq_true rfl⟩ rfl ?_
  obtain ⟨c2, h⟩ := oi h
  refine z_iast dX8_gluesTo_18 kdl_75 (by decide) c2 ?_
  refine z_aload_n 0 dX8_gluesTo_19 rfl ?_
  refine z_get (v := .ref 75) dX8_gluesTo_20 fl_8_9 kdl_74 rfl ?_
  refine z_iconst (v := 2) dX8_gluesTo_23 rfl ?_
  refine z_dup2 dX8_gluesTo_24 rfl rfl ?_
  refine z_ialdK (j := 2) dX8_gluesTo_25 kdl_75 (by decide) (by decide) (by decide) ?_
  refine z_aload_n 0 dX8_gluesTo_26 rfl ?_
  refine z_get (v := .ref 75) dX8_gluesTo_27 fl_8_9 kdl_74 rfl ?_
  refine z_iload_n 1 dX8_gluesTo_30 rfl ?_
  obtain ⟨v3, hv3, h⟩ := ob h
  refine z_callS (as := [.ref 75, .int a1]) dX8_gluesTo_31 ml_8_98 ms_X8_cost (t_X8_cost l kdl_75 hv3) rfl rfl (Nat.le_of_ble_eq_true rfl) ⟨Nat.le_of_ble_eq_true rfl, Nat.le_of_ble_eq_true rfl⟩ rfl ?_
  refine z_isub dX8_gluesTo_34 ?_
  refine z_iastK (j := 2) dX8_gluesTo_35 kdl_75 (by decide) (by decide) (by decide) ?_
  refine z_aload_n 0 dX8_gluesTo_36 rfl ?_
  refine z_get (v := .ref 75) dX8_gluesTo_37 fl_8_9 kdl_74 rfl ?_
  refine z_bipush (v := 20) dX8_gluesTo_40 rfl ?_
  refine z_iload_n 1 dX8_gluesTo_42 rfl ?_
  refine z_iadd dX8_gluesTo_43 ?_
  obtain ⟨c4, h⟩ := oi h
  refine z_iald dX8_gluesTo_44 kdl_75 (by decide) c4 ?_
  obtain rfl := Option.some.inj h
  exact z_iret dX8_gluesTo_45 rfl rfl
