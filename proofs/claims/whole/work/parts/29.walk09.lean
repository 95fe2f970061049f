set_option maxHeartbeats 2000000 in
set_option maxRecDepth 20000 in
theorem t_X8_whatWas_L87 (l : Launch)   : ∀ (n : Nat) (x1 : Int32) (x2 : Int32) (x3 : Int32) (x4 : Int32) (x5 : Int32) (x6 : Int32) (S : St) (k135 : Int32 → Option (Int32 × St)) (r : (Int32 × St)), f_X8_whatWas_L87 n x1 x2 x3 x4 x5 x6 S k135 = some r → (∀ (e5 : Int32), k135 e5 = some r → Z l yX8_whatWas M_X8_whatWas 135 [(0, .ref 74), (1, .int x1), (2, .int x2), (3, .int x3), (4, .int x4), (5, .int e5)] [] S (some (.int r.1)) r.2) → Z l yX8_whatWas M_X8_whatWas 87 [(0, .ref 74), (1, .int x1), (2, .int x2), (3, .int x3), (4, .int x4), (5, .int x5), (6, .int x6)] [] S (some (.int r.1)) r.2 := by
  intro n
  induction n with
  | zero =>
    intro x1 x2 x3 x4 x5 x6 S k135 r h hk135
    exact absurd h (by rw [f_X8_whatWas_L87]; exact fun q => by cases q)
  | succ n ih =>
    intro x1 x2 x3 x4 x5 x6 S k135 r h hk135
    rw [f_X8_whatWas_L87] at h
    refine z_iload 6 dX8_whatWas_87 rfl ?_
    refine z_aload_n 0 dX8_whatWas_89 rfl ?_
    refine z_get (v := .int (S.1 74 9)) dX8_whatWas_90 fl_8_193 kdl_74 rfl ?_
    refine z_icmp_ge (tgt := 135) dX8_whatWas_93 (by decide) (fun c10 => ?_) (fun c10 => ?_)
    · replace h := ip c10 h
      refine z_sub (lv' := [(0, .ref 74), (1, .int x1), (2, .int x2), (3, .int x3), (4, .int x4), (5, .int x5)]) [0, 1, 2, 3, 4, 5] rfl ?_
      exact hk135 _ h
    · replace h := ig c10 h
      refine z_iload 5 dX8_whatWas_96 rfl ?_
      refine z_aload_n 0 dX8_whatWas_98 rfl ?_
      refine z_get (v := .ref 76) dX8_whatWas_99 fl_8_13 kdl_74 rfl ?_
      refine z_iload_n 1 dX8_whatWas_102 rfl ?_
      refine z_iconst (v := 5) dX8_whatWas_103 rfl ?_
      refine z_iload 6 dX8_whatWas_104 rfl ?_
      refine z_imul dX8_whatWas_106 ?_
      refine z_iconst (v := 0) dX8_whatWas_107 rfl ?_
      obtain ⟨v11, hv11, h⟩ := ob h
      refine z_callS (as := [.ref 76, .int x1, .int (5 * x6), .int 0]) dX8_whatWas_108 ml_8_73 ms_X8_yearOf (t_X8_yearOf l kdl_76 hv11) rfl rfl (Nat.le_of_ble_eq_true rfl) ⟨Nat.le_of_ble_eq_true rfl, Nat.le_of_ble_eq_true rfl⟩ rfl ?_
      refine z_aload_n 0 dX8_whatWas_111 rfl ?_
      refine z_get (v := .ref 80) dX8_whatWas_112 fl_8_25 kdl_74 rfl ?_
      refine z_iload 6 dX8_whatWas_115 rfl ?_
      obtain ⟨c12, h⟩ := oi h
      refine z_iald dX8_whatWas_117 kdl_80 (by decide) c12 ?_
      refine z_icmp_ne (tgt := 125) dX8_whatWas_118 (by decide) (fun c13 => ?_) (fun c13 => ?_)
      · replace h := ig c13 h
        refine z_iconst (v := 0) dX8_whatWas_125 rfl ?_
        refine z_iand dX8_whatWas_126 ?_
        refine z_istore (lv' := [(0, .ref 74), (1, .int x1), (2, .int x2), (3, .int x3), (4, .int x4), (5, .int (x5 &&& 0)), (6, .int x6)]) [1, 2, 3, 4, 5, 0, 6] dX8_whatWas_127 (Nat.le_of_ble_eq_true rfl) rfl ?_
        refine z_iinc (lv' := [(0, .ref 74), (1, .int x1), (2, .int x2), (3, .int x3), (4, .int x4), (5, .int (x5 &&& 0)), (6, .int (x6 + 1))]) (v := x6 + 1) 6 [1, 2, 3, 4, 5, 6, 0] dX8_whatWas_129 rfl rfl (Nat.le_of_ble_eq_true rfl) rfl ?_
        refine z_goto (tgt := 87) dX8_whatWas_132 (by decide) ?_
        refine z_sub (lv' := [(0, .ref 74), (1, .int x1), (2, .int x2), (3, .int x3), (4, .int x4), (5, .int (x5 &&& 0)), (6, .int (x6 + 1))]) [0, 1, 2, 3, 4, 5, 6] rfl ?_
        exact ih _ _ _ _ _ _ _ _ _ h hk135
      · replace h := ip c13 h
        refine z_iconst (v := 1) dX8_whatWas_121 rfl ?_
        refine z_goto (tgt := 126) dX8_whatWas_122 (by decide) ?_
        refine z_iand dX8_whatWas_126 ?_
        refine z_istore (lv' := [(0, .ref 74), (1, .int x1), (2, .int x2), (3, .int x3), (4, .int x4), (5, .int (x5 &&& 1)), (6, .int x6)]) [1, 2, 3, 4, 5, 0, 6] dX8_whatWas_127 (Nat.le_of_ble_eq_true rfl) rfl ?_
        refine z_iinc (lv' := [(0, .ref 74), (1, .int x1), (2, .int x2), (3, .int x3), (4, .int x4), (5, .int (x5 &&& 1)), (6, .int (x6 + 1))]) (v := x6 + 1) 6 [1, 2, 3, 4, 5, 6, 0] dX8_whatWas_129 rfl rfl (Nat.le_of_ble_eq_true rfl) rfl ?_
        refine z_goto (tgt := 87) dX8_whatWas_132 (by decide) ?_
        refine z_sub (lv' := [(0, .ref 74), (1, .int x1), (2, .int x2), (3, .int x3), (4, .int x4), (5, .int (x5 &&& 1)), (6, .int (x6 + 1))]) [0, 1, 2, 3, 4, 5, 6] rfl ?_
        exact ih _ _ _ _ _ _ _ _ _ h hk135
set_option maxHeartbeats 2000000 in
set_option maxRecDepth 20000 in
theorem t_X8_whatWas_L35 (l : Launch)   : ∀ (n : Nat) (x1 : Int32) (x2 : Int32) (x3 : Int32) (x4 : Int32) (S : St) (k157 : Int32 → St → Option (Int32 × St)) (r : (Int32 × St)), f_X8_whatWas_L35 n x1 x2 x3 x4 S k157 = some r → (∀ (e3 : Int32) (T : St), k157 e3 T = some r → Z l yX8_whatWas M_X8_whatWas 157 [(3, .int e3)] [] T (some (.int r.1)) r.2) → Z l yX8_whatWas M_X8_whatWas 35 [(0, .ref 74), (1, .int x1), (2, .int x2), (3, .int x3), (4, .int x4)] [] S (some (.int r.1)) r.2 := by
  intro n
  induction n with
  | zero =>
    intro x1 x2 x3 x4 S k157 r h hk157
    exact absurd h (by rw [f_X8_whatWas_L35]; exact fun q => by cases q)
  | succ n ih =>
    intro x1 x2 x3 x4 S k157 r h hk157
    rw [f_X8_whatWas_L35] at h
    refine z_iload 4 dX8_whatWas_35 rfl ?_
    refine z_iload_n 2 dX8_whatWas_37 rfl ?_
    refine z_if_ne (tgt := 46) dX8_whatWas_38 (by decide) (fun c5 => ?_) (fun c5 => ?_)
    · replace h := ig c5 h
      refine z_bipush (v := 10) dX8_whatWas_46 rfl ?_
      refine z_icmp_ge (tgt := 157) dX8_whatWas_48 (by decide) (fun c6 => ?_) (fun c6 => ?_)
      · replace h := ip c6 h
        refine z_sub (lv' := [(3, .int x3)]) [3] rfl ?_
        exact hk157 _ _ h
      · replace h := ig c6 h
        refine z_aload_n 0 dX8_whatWas_51 rfl ?_
        refine z_get (v := .ref 75) dX8_whatWas_52 fl_8_9 kdl_74 rfl ?_
        refine z_aload_n 0 dX8_whatWas_55 rfl ?_
        refine z_get (v := .ref 76) dX8_whatWas_56 fl_8_13 kdl_74 rfl ?_
        obtain ⟨S7, hS7, h⟩ := ob h
        refine z_callS (as := [.ref 75, .ref 76]) dX8_whatWas_59 ml_8_122 ms_X8_lays (t_X8_lays l kdl_75 kdl_76 hS7) rfl rfl (Nat.le_of_ble_eq_true rfl) ⟨Nat.le_of_ble_eq_true rfl, Nat.le_of_ble_eq_true rfl⟩ rfl ?_
        refine z_aload_n 0 dX8_whatWas_62 rfl ?_
        refine z_get (v := .ref 76) dX8_whatWas_63 fl_8_13 kdl_74 rfl ?_
        refine z_iload_n 2 dX8_whatWas_66 rfl ?_
        refine z_if_ne (tgt := 74) dX8_whatWas_67 (by decide) (fun c8 => ?_) (fun c8 => ?_)
        · replace h := ig c8 h
          refine z_bipush (v := 12) dX8_whatWas_74 rfl ?_
          refine z_iload_n 1 dX8_whatWas_76 rfl ?_
          refine z_iadd dX8_whatWas_77 ?_
          refine z_iload 4 dX8_whatWas_78 rfl ?_
          obtain ⟨c9, h⟩ := oi h
          refine z_iast dX8_whatWas_80 kdl_76 (by decide) c9 ?_
          refine z_iconst (v := 1) dX8_whatWas_81 rfl ?_
          refine z_istore (lv' := [(0, .ref 74), (1, .int x1), (2, .int x2), (3, .int x3), (4, .int x4), (5, .int 1)]) [1, 2, 3, 4, 5, 0] dX8_whatWas_82 (Nat.le_of_ble_eq_true rfl) rfl ?_
          refine z_iconst (v := 0) dX8_whatWas_84 rfl ?_
          refine z_istore (lv' := [(0, .ref 74), (1, .int x1), (2, .int x2), (3, .int x3), (4, .int x4), (5, .int 1), (6, .int 0)]) [1, 2, 3, 4, 5, 6, 0] dX8_whatWas_85 (Nat.le_of_ble_eq_true rfl) rfl ?_
          refine z_sub (lv' := [(0, .ref 74), (1, .int x1), (2, .int x2), (3, .int x3), (4, .int x4), (5, .int 1), (6, .int 0)]) [0, 1, 2, 3, 4, 5, 6] rfl ?_
          refine t_X8_whatWas_L87 l _ _ _ _ _ _ _ _ _ _ h ?_
          · intro y14 h
            refine z_iload_n 3 dX8_whatWas_135 rfl ?_
            refine z_iload 5 dX8_whatWas_136 rfl ?_
            refine z_if_eq (tgt := 148) dX8_whatWas_138 (by decide) (fun c15 => ?_) (fun c15 => ?_)
            · replace h := ip c15 h
              refine z_iconst (v := 0) dX8_whatWas_148 rfl ?_
              refine z_ior dX8_whatWas_149 ?_
              refine z_istore_n (lv' := [(0, .ref 74), (1, .int x1), (2, .int x2), (3, .int (x3 ||| 0)), (4, .int x4), (5, .int y14)]) [1, 2, 3, 0, 4, 5] dX8_whatWas_150 (Nat.le_of_ble_eq_true rfl) rfl ?_
              refine z_iinc (lv' := [(0, .ref 74), (1, .int x1), (2, .int x2), (3, .int (x3 ||| 0)), (4, .int (x4 + 1)), (5, .int y14)]) (v := x4 + 1) 4 [1, 2, 3, 4, 0, 5] dX8_whatWas_151 rfl rfl (Nat.le_of_ble_eq_true rfl) rfl ?_
              refine z_goto (tgt := 35) dX8_whatWas_154 (by decide) ?_
              refine z_sub (lv' := [(0, .ref 74), (1, .int x1), (2, .int x2), (3, .int (x3 ||| 0)), (4, .int (x4 + 1))]) [0, 1, 2, 3, 4] rfl ?_
              exact ih _ _ _ _ _ _ _ h hk157
            · replace h := ig c15 h
              refine z_iconst (v := 1) dX8_whatWas_141 rfl ?_
              refine z_iload 4 dX8_whatWas_142 rfl ?_
              refine z_ishl dX8_whatWas_144 ?_
              refine z_goto (tgt := 149) dX8_whatWas_145 (by decide) ?_
              refine z_ior dX8_whatWas_149 ?_
              refine z_istore_n (lv' := [(0, .ref 74), (1, .int x1), (2, .int x2), (3, .int (x3 ||| (1 <<< (x4 &&& 31)))), (4, .int x4), (5, .int y14)]) [1, 2, 3, 0, 4, 5] dX8_whatWas_150 (Nat.le_of_ble_eq_true rfl) rfl ?_
              refine z_iinc (lv' := [(0, .ref 74), (1, .int x1), (2, .int x2), (3, .int (x3 ||| (1 <<< (x4 &&& 31)))), (4, .int (x4 + 1)), (5, .int y14)]) (v := x4 + 1) 4 [1, 2, 3, 4, 0, 5] dX8_whatWas_151 rfl rfl (Nat.le_of_ble_eq_true rfl) rfl ?_
              refine z_goto (tgt := 35) dX8_whatWas_154 (by decide) ?_
              refine z_sub (lv' := [(0, .ref 74), (1, .int x1), (2, .int x2), (3, .int (x3 ||| (1 <<< (x4 &&& 31)))), (4, .int (x4 + 1))]) [0, 1, 2, 3, 4] rfl ?_
              exact ih _ _ _ _ _ _ _ h hk157
        · replace h := ip c8 h
          refine z_iconst (v := 4) dX8_whatWas_70 rfl ?_
          refine z_goto (tgt := 76) dX8_whatWas_71 (by decide) ?_
          refine z_iload_n 1 dX8_whatWas_76 rfl ?_
          refine z_iadd dX8_whatWas_77 ?_
          refine z_iload 4 dX8_whatWas_78 rfl ?_
          obtain ⟨c16, h⟩ := oi h
          refine z_iast dX8_whatWas_80 kdl_76 (by decide) c16 ?_
          refine z_iconst (v := 1) dX8_whatWas_81 rfl ?_
          refine z_istore (lv' := [(0, .ref 74), (1, .int x1), (2, .int x2), (3, .int x3), (4, .int x4), (5, .int 1)]) [1, 2, 3, 4, 5, 0] dX8_whatWas_82 (Nat.le_of_ble_eq_true rfl) rfl ?_
          refine z_iconst (v := 0) dX8_whatWas_84 rfl ?_
          refine z_istore (lv' := [(0, .ref 74), (1, .int x1), (2, .int x2), (3, .int x3), (4, .int x4), (5, .int 1), (6, .int 0)]) [1, 2, 3, 4, 5, 6, 0] dX8_whatWas_85 (Nat.le_of_ble_eq_true rfl) rfl ?_
          refine z_sub (lv' := [(0, .ref 74), (1, .int x1), (2, .int x2), (3, .int x3), (4, .int x4), (5, .int 1), (6, .int 0)]) [0, 1, 2, 3, 4, 5, 6] rfl ?_
          refine t_X8_whatWas_L87 l _ _ _ _ _ _ _ _ _ _ h ?_
          · intro y17 h
            refine z_iload_n 3 dX8_whatWas_135 rfl ?_
            refine z_iload 5 dX8_whatWas_136 rfl ?_
            refine z_if_eq (tgt := 148) dX8_whatWas_138 (by decide) (fun c18 => ?_) (fun c18 => ?_)
            · replace h := ip c18 h
              refine z_iconst (v := 0) dX8_whatWas_148 rfl ?_
              refine z_ior dX8_whatWas_149 ?_
              refine z_istore_n (lv' := [(0, .ref 74), (1, .int x1), (2, .int x2), (3, .int (x3 ||| 0)), (4, .int x4), (5, .int y17)]) [1, 2, 3, 0, 4, 5] dX8_whatWas_150 (Nat.le_of_ble_eq_true rfl) rfl ?_
              refine z_iinc (lv' := [(0, .ref 74), (1, .int x1), (2, .int x2), (3, .int (x3 ||| 0)), (4, .int (x4 + 1)), (5, .int y17)]) (v := x4 + 1) 4 [1, 2, 3, 4, 0, 5] dX8_whatWas_151 rfl rfl (Nat.le_of_ble_eq_true rfl) rfl ?_
              refine z_goto (tgt := 35) dX8_whatWas_154 (by decide) ?_
              refine z_sub (lv' := [(0, .ref 74), (1, .int x1), (2, .int x2), (3, .int (x3 ||| 0)), (4, .int (x4 + 1))]) [0, 1, 2, 3, 4] rfl ?_
              exact ih _ _ _ _ _ _ _ h hk157
            · replace h := ig c18 h
              refine z_iconst (v := 1) dX8_whatWas_141 rfl ?_
              refine z_iload 4 dX8_whatWas_142 rfl ?_
              refine z_ishl dX8_whatWas_144 ?_
              refine z_goto (tgt := 149) dX8_whatWas_145 (by decide) ?_
              refine z_ior dX8_whatWas_149 ?_
              refine z_istore_n (lv' := [(0, .ref 74), (1, .int x1), (2, .int x2), (3, .int (x3 ||| (1 <<< (x4 &&& 31)))), (4, .int x4), (5, .int y17)]) [1, 2, 3, 0, 4, 5] dX8_whatWas_150 (Nat.le_of_ble_eq_true rfl) rfl ?_
              refine z_iinc (lv' := [(0, .ref 74), (1, .int x1), (2, .int x2), (3, .int (x3 ||| (1 <<< (x4 &&& 31)))), (4, .int (x4 + 1)), (5, .int y17)]) (v := x4 + 1) 4 [1, 2, 3, 4, 0, 5] dX8_whatWas_151 rfl rfl (Nat.le_of_ble_eq_true rfl) rfl ?_
              refine z_goto (tgt := 35) dX8_whatWas_154 (by decide) ?_
              refine z_sub (lv' := [(0, .ref 74), (1, .int x1), (2, .int x2), (3, .int (x3 ||| (1 <<< (x4 &&& 31)))), (4, .int (x4 + 1))]) [0, 1, 2, 3, 4] rfl ?_
              exact ih _ _ _ _ _ _ _ h hk157
    · replace h := ip c5 h
      refine z_bipush (v := 6) dX8_whatWas_41 rfl ?_
      refine z_goto (tgt := 48) dX8_whatWas_43 (by decide) ?_
      refine z_icmp_ge (tgt := 157) dX8_whatWas_48 (by decide) (fun c19 => ?_) (fun c19 => ?_)
      · replace h := ip c19 h
        refine z_sub (lv' := [(3, .int x3)]) [3] rfl ?_
        exact hk157 _ _ h
      · replace h := ig c19 h
        refine z_aload_n 0 dX8_whatWas_51 rfl ?_
        refine z_get (v := .ref 75) dX8_whatWas_52 fl_8_9 kdl_74 rfl ?_
        refine z_aload_n 0 dX8_whatWas_55 rfl ?_
        refine z_get (v := .ref 76) dX8_whatWas_56 fl_8_13 kdl_74 rfl ?_
        obtain ⟨S20, hS20, h⟩ := ob h
        refine z_callS (as := [.ref 75, .ref 76]) dX8_whatWas_59 ml_8_122 ms_X8_lays (t_X8_lays l kdl_75 kdl_76 hS20) rfl rfl (Nat.le_of_ble_eq_true rfl) ⟨Nat.le_of_ble_eq_true rfl, Nat.le_of_ble_eq_true rfl⟩ rfl ?_
        refine z_aload_n 0 dX8_whatWas_62 rfl ?_
        refine z_get (v := .ref 76) dX8_whatWas_63 fl_8_13 kdl_74 rfl ?_
        refine z_iload_n 2 dX8_whatWas_66 rfl ?_
        refine z_if_ne (tgt := 74) dX8_whatWas_67 (by decide) (fun c21 => ?_) (fun c21 => ?_)
        · replace h := ig c21 h
          refine z_bipush (v := 12) dX8_whatWas_74 rfl ?_
          refine z_iload_n 1 dX8_whatWas_76 rfl ?_
          refine z_iadd dX8_whatWas_77 ?_
          refine z_iload 4 dX8_whatWas_78 rfl ?_
          obtain ⟨c22, h⟩ := oi h
          refine z_iast dX8_whatWas_80 kdl_76 (by decide) c22 ?_
          refine z_iconst (v := 1) dX8_whatWas_81 rfl ?_
          refine z_istore (lv' := [(0, .ref 74), (1, .int x1), (2, .int x2), (3, .int x3), (4, .int x4), (5, .int 1)]) [1, 2, 3, 4, 5, 0] dX8_whatWas_82 (Nat.le_of_ble_eq_true rfl) rfl ?_
          refine z_iconst (v := 0) dX8_whatWas_84 rfl ?_
          refine z_istore (lv' := [(0, .ref 74), (1, .int x1), (2, .int x2), (3, .int x3), (4, .int x4), (5, .int 1), (6, .int 0)]) [1, 2, 3, 4, 5, 6, 0] dX8_whatWas_85 (Nat.le_of_ble_eq_true rfl) rfl ?_
          refine z_sub (lv' := [(0, .ref 74), (1, .int x1), (2, .int x2), (3, .int x3), (4, .int x4), (5, .int 1), (6, .int 0)]) [0, 1, 2, 3, 4, 5, 6] rfl ?_
          refine t_X8_whatWas_L87 l _ _ _ _ _ _ _ _ _ _ h ?_
          · intro y23 h
            refine z_iload_n 3 dX8_whatWas_135 rfl ?_
            refine z_iload 5 dX8_whatWas_136 rfl ?_
            refine z_if_eq (tgt := 148) dX8_whatWas_138 (by decide) (fun c24 => ?_) (fun c24 => ?_)
            · replace h := ip c24 h
              refine z_iconst (v := 0) dX8_whatWas_148 rfl ?_
              refine z_ior dX8_whatWas_149 ?_
              refine z_istore_n (lv' := [(0, .ref 74), (1, .int x1), (2, .int x2), (3, .int (x3 ||| 0)), (4, .int x4), (5, .int y23)]) [1, 2, 3, 0, 4, 5] dX8_whatWas_150 (Nat.le_of_ble_eq_true rfl) rfl ?_
              refine z_iinc (lv' := [(0, .ref 74), (1, .int x1), (2, .int x2), (3, .int (x3 ||| 0)), (4, .int (x4 + 1)), (5, .int y23)]) (v := x4 + 1) 4 [1, 2, 3, 4, 0, 5] dX8_whatWas_151 rfl rfl (Nat.le_of_ble_eq_true rfl) rfl ?_
              refine z_goto (tgt := 35) dX8_whatWas_154 (by decide) ?_
              refine z_sub (lv' := [(0, .ref 74), (1, .int x1), (2, .int x2), (3, .int (x3 ||| 0)), (4, .int (x4 + 1))]) [0, 1, 2, 3, 4] rfl ?_
              exact ih _ _ _ _ _ _ _ h hk157
            · replace h := ig c24 h
              refine z_iconst (v := 1) dX8_whatWas_141 rfl ?_
              refine z_iload 4 dX8_whatWas_142 rfl ?_
              refine z_ishl dX8_whatWas_144 ?_
              refine z_goto (tgt := 149) dX8_whatWas_145 (by decide) ?_
              refine z_ior dX8_whatWas_149 ?_
              refine z_istore_n (lv' := [(0, .ref 74), (1, .int x1), (2, .int x2), (3, .int (x3 ||| (1 <<< (x4 &&& 31)))), (4, .int x4), (5, .int y23)]) [1, 2, 3, 0, 4, 5] dX8_whatWas_150 (Nat.le_of_ble_eq_true rfl) rfl ?_
              refine z_iinc (lv' := [(0, .ref 74), (1, .int x1), (2, .int x2), (3, .int (x3 ||| (1 <<< (x4 &&& 31)))), (4, .int (x4 + 1)), (5, .int y23)]) (v := x4 + 1) 4 [1, 2, 3, 4, 0, 5] dX8_whatWas_151 rfl rfl (Nat.le_of_ble_eq_true rfl) rfl ?_
              refine z_goto (tgt := 35) dX8_whatWas_154 (by decide) ?_
              refine z_sub (lv' := [(0, .ref 74), (1, .int x1), (2, .int x2), (3, .int (x3 ||| (1 <<< (x4 &&& 31)))), (4, .int (x4 + 1))]) [0, 1, 2, 3, 4] rfl ?_
              exact ih _ _ _ _ _ _ _ h hk157
        · replace h := ip c21 h
          refine z_iconst (v := 4) dX8_whatWas_70 rfl ?_
          refine z_goto (tgt := 76) dX8_whatWas_71 (by decide) ?_
          refine z_iload_n 1 dX8_whatWas_76 rfl ?_
          refine z_iadd dX8_whatWas_77 ?_
          refine z_iload 4 dX8_whatWas_78 rfl ?_
          obtain ⟨c25, h⟩ := oi h
          refine z_iast dX8_whatWas_80 kdl_76 (by decide) c25 ?_
          refine z_iconst (v := 1) dX8_whatWas_81 rfl ?_
          refine z_istore (lv' := [(0, .ref 74), (1, .int x1), (2, .int x2), (3, .int x3), (4, .int x4), (5, .int 1)]) [1, 2, 3, 4, 5, 0] dX8_whatWas_82 (Nat.le_of_ble_eq_true rfl) rfl ?_
          refine z_iconst (v := 0) dX8_whatWas_84 rfl ?_
          refine z_istore (lv' := [(0, .ref 74), (1, .int x1), (2, .int x2), (3, .int x3), (4, .int x4), (5, .int 1), (6, .int 0)]) [1, 2, 3, 4, 5, 6, 0] dX8_whatWas_85 (Nat.le_of_ble_eq_true rfl) rfl ?_
          refine z_sub (lv' := [(0, .ref 74), (1, .int x1), (2, .int x2), (3, .int x3), (4, .int x4), (5, .int 1), (6, .int 0)]) [0, 1, 2, 3, 4, 5, 6] rfl ?_
          refine t_X8_whatWas_L87 l _ _ _ _ _ _ _ _ _ _ h ?_
          · intro y26 h
            refine z_iload_n 3 dX8_whatWas_135 rfl ?_
            refine z_iload 5 dX8_whatWas_136 rfl ?_
            refine z_if_eq (tgt := 148) dX8_whatWas_138 (by decide) (fun c27 => ?_) (fun c27 => ?_)
            · replace h := ip c27 h
              refine z_iconst (v := 0) dX8_whatWas_148 rfl ?_
              refine z_ior dX8_whatWas_149 ?_
              refine z_istore_n (lv' := [(0, .ref 74), (1, .int x1), (2, .int x2), (3, .int (x3 ||| 0)), (4, .int x4), (5, .int y26)]) [1, 2, 3, 0, 4, 5] dX8_whatWas_150 (Nat.le_of_ble_eq_true rfl) rfl ?_
              refine z_iinc (lv' := [(0, .ref 74), (1, .int x1), (2, .int x2), (3, .int (x3 ||| 0)), (4, .int (x4 + 1)), (5, .int y26)]) (v := x4 + 1) 4 [1, 2, 3, 4, 0, 5] dX8_whatWas_151 rfl rfl (Nat.le_of_ble_eq_true rfl) rfl ?_
              refine z_goto (tgt := 35) dX8_whatWas_154 (by decide) ?_
              refine z_sub (lv' := [(0, .ref 74), (1, .int x1), (2, .int x2), (3, .int (x3 ||| 0)), (4, .int (x4 + 1))]) [0, 1, 2, 3, 4] rfl ?_
              exact ih _ _ _ _ _ _ _ h hk157
            · replace h := ig c27 h
              refine z_iconst (v := 1) dX8_whatWas_141 rfl ?_
              refine z_iload 4 dX8_whatWas_142 rfl ?_
              refine z_ishl dX8_whatWas_144 ?_
              refine z_goto (tgt := 149) dX8_whatWas_145 (by decide) ?_
              refine z_ior dX8_whatWas_149 ?_
              refine z_istore_n (lv' := [(0, .ref 74), (1, .int x1), (2, .int x2), (3, .int (x3 ||| (1 <<< (x4 &&& 31)))), (4, .int x4), (5, .int y26)]) [1, 2, 3, 0, 4, 5] dX8_whatWas_150 (Nat.le_of_ble_eq_true rfl) rfl ?_
              refine z_iinc (lv' := [(0, .ref 74), (1, .int x1), (2, .int x2), (3, .int (x3 ||| (1 <<< (x4 &&& 31)))), (4, .int (x4 + 1)), (5, .int y26)]) (v := x4 + 1) 4 [1, 2, 3, 4, 0, 5] dX8_whatWas_151 rfl rfl (Nat.le_of_ble_eq_true rfl) rfl ?_
              refine z_goto (tgt := 35) dX8_whatWas_154 (by decide) ?_
              refine z_sub (lv' := [(0, .ref 74), (1, .int x1), (2, .int x2), (3, .int (x3 ||| (1 <<< (x4 &&& 31)))), (4, .int (x4 + 1))]) [0, 1, 2, 3, 4] rfl ?_
              exact ih _ _ _ _ _ _ _ h hk157
set_option maxHeartbeats 2000000 in
set_option maxRecDepth 20000 in
theorem t_X8_whatWas (l : Launch) {S : St}  {a1 : Int32} {a2 : Int32} {r : (Int32 × St)} (h : f_X8_whatWas a1 a2 S = some r) : CT l yX8_whatWas M_X8_whatWas [.ref 74, .int a1, .int a2] S (some (.int r.1)) r.2 := by
  rw [f_X8_whatWas] at h
  refine ct_of (lv := [(0, .ref 74), (1, .int a1), (2, .int a2)]) (by decide) rfl (Nat.le_of_ble_eq_true rfl) ?_
  refine z_aload_n 0 dX8_whatWas_0 rfl ?_
  refine z_iload_n 1 dX8_whatWas_1 rfl ?_
  obtain ⟨v1, hv1, h⟩ := ob h
  refine z_callV (as := [.int a1]) dX8_whatWas_2 ml_8_101 mv_X8_isThing (t_X8_isThing l hv1) kdl_74 ⟨by decide, rfl⟩ rfl rfl (Nat.le_of_ble_eq_true rfl) ⟨Nat.le_of_ble_eq_true rfl, Nat.le_of_ble_eq_true rfl⟩ rfl ?_
  refine z_if_ne (tgt := 14) dX8_whatWas_5 (by decide) (fun c2 => ?_) (fun c2 => ?_)
  · replace h := ig c2 h
    refine z_iload_n 2 dX8_whatWas_14 rfl ?_
    refine z_iconst (v := 0) dX8_whatWas_15 rfl ?_
    refine z_iconst (v := 1) dX8_whatWas_16 rfl ?_
    obtain ⟨v3, hv3, h⟩ := ob h
    refine z_callS (as := [.int a2, .int 0, .int 1]) dX8_whatWas_17 ml_8_47 ms_X8_isIn (t_X8_isIn l _ hv3) rfl rfl (Nat.le_of_ble_eq_true rfl) ⟨Nat.le_of_ble_eq_true rfl, Nat.le_of_ble_eq_true rfl⟩ rfl ?_
    refine z_if_ne (tgt := 30) dX8_whatWas_20 (by decide) (fun c4 => ?_) (fun c4 => ?_)
    · replace h := ig c4 h
      refine z_iconst (v := 0) dX8_whatWas_30 rfl ?_
      refine z_istore_n (lv' := [(0, .ref 74), (1, .int a1), (2, .int a2), (3, .int 0)]) [1, 2, 3, 0] dX8_whatWas_31 (Nat.le_of_ble_eq_true rfl) rfl ?_
      refine z_iconst (v := 0) dX8_whatWas_32 rfl ?_
      refine z_istore (lv' := [(0, .ref 74), (1, .int a1), (2, .int a2), (3, .int 0), (4, .int 0)]) [1, 2, 3, 4, 0] dX8_whatWas_33 (Nat.le_of_ble_eq_true rfl) rfl ?_
      refine z_sub (lv' := [(0, .ref 74), (1, .int a1), (2, .int a2), (3, .int 0), (4, .int 0)]) [0, 1, 2, 3, 4] rfl ?_
      refine t_X8_whatWas_L35 l _ _ _ _ _ _ _ _ h ?_
      · intro y28 S29 h
        refine z_iload_n 0 dX8_whatWas_157 rfl ?_
        obtain rfl := Option.some.inj h
        exact z_iret dX8_whatWas_158 rfl rfl
    · replace h := ip c4 h
      refine z_aload_n 0 dX8_whatWas_23 rfl ?_
      refine z_bipush (v := (-2)) dX8_whatWas_24 rfl ?_
      obtain ⟨z30, hz30, h⟩ := ob h
      refine z_callV (as := [.int (-2)]) dX8_whatWas_26 ml_8_41 mv_X8_no (t_X8_no l hz30) kdl_74 ⟨by decide, rfl⟩ rfl rfl (Nat.le_of_ble_eq_true rfl) ⟨Nat.le_of_ble_eq_true rfl, Nat.le_of_ble_eq_true rfl⟩ rfl ?_
      obtain rfl := Option.some.inj h
      exact z_iret dX8_whatWas_29 rfl rfl
  · replace h := ip c2 h
    refine z_aload_n 0 dX8_whatWas_8 rfl ?_
    refine z_iconst (v := (-1)) dX8_whatWas_9 rfl ?_
    obtain ⟨z31, hz31, h⟩ := ob h
    refine z_callV (as := [.int (-1)]) dX8_whatWas_10 ml_8_41 mv_X8_no (t_X8_no l hz31) kdl_74 ⟨by decide, rfl⟩ rfl rfl (Nat.le_of_ble_eq_true rfl) ⟨Nat.le_of_ble_eq_true rfl, Nat.le_of_ble_eq_true rfl⟩ rfl ?_
    obtain rfl := Option.some.inj h
    exact z_iret dX8_whatWas_13 rfl rfl
set_option maxHeartbeats 2000000 in
set_option maxRecDepth 20000 in
theorem t_X8_mended_L59 (l : Launch)   : ∀ (n : Nat) (x1 : Int32) (x2 : Int32) (x3 : Int32) (x4 : Int32) (S : St) (k92 : Int32 → St → Option (Int32 × St)) (k101 : St → Option (Int32 × St)) (r : (Int32 × St)), f_X8_mended_L59 n x1 x2 x3 x4 S k92 k101 = some r → (∀ (e4 : Int32) (T : St), k92 e4 T = some r → Z l yX8_mended M_X8_mended 92 [(4, .int e4)] [] T (some (.int r.1)) r.2) → (∀ (T : St), k101 T = some r → Z l yX8_mended M_X8_mended 101 [] [] T (some (.int r.1)) r.2) → Z l yX8_mended M_X8_mended 59 [(0, .ref 74), (1, .int x1), (2, .int x2), (3, .int x3), (4, .int x4)] [] S (some (.int r.1)) r.2 := by
  intro n
  induction n with
  | zero =>
    intro x1 x2 x3 x4 S k92 k101 r h hk92 hk101
    exact absurd h (by rw [f_X8_mended_L59]; exact fun q => by cases q)
  | succ n ih =>
    intro x1 x2 x3 x4 S k92 k101 r h hk92 hk101
    rw [f_X8_mended_L59] at h
    refine z_iload 4 dX8_mended_59 rfl ?_
    refine z_bipush (v := 99) dX8_mended_61 rfl ?_
    refine z_icmp_gt (tgt := 101) dX8_mended_63 (by decide) (fun c9 => ?_) (fun c9 => ?_)
    · replace h := ip c9 h
      refine z_sub (lv' := []) [] rfl ?_
      exact hk101 _ h
    · replace h := ig c9 h
      refine z_aload_n 0 dX8_mended_66 rfl ?_
      refine z_get (v := .ref 76) dX8_mended_67 fl_8_13 kdl_74 rfl ?_
      refine z_iload_n 1 dX8_mended_70 rfl ?_
      refine z_iload_n 2 dX8_mended_71 rfl ?_
      obtain ⟨v10, hv10, h⟩ := ob h
      refine z_callS (as := [.int x1, .int x2]) dX8_mended_72 ml_8_55 ms_X8_at (t_X8_at l _ hv10) rfl rfl (Nat.le_of_ble_eq_true rfl) ⟨Nat.le_of_ble_eq_true rfl, Nat.le_of_ble_eq_true rfl⟩ rfl ?_
      refine z_iload 4 dX8_mended_75 rfl ?_
      obtain ⟨c11, h⟩ := oi h
      refine z_iast dX8_mended_77 kdl_76 (by decide) c11 ?_
      refine z_aload_n 0 dX8_mended_78 rfl ?_
      refine z_get (v := .ref 76) dX8_mended_79 fl_8_13 kdl_74 rfl ?_
      refine z_iload_n 1 dX8_mended_82 rfl ?_
      refine z_iload_n 3 dX8_mended_83 rfl ?_
      refine z_iconst (v := 0) dX8_mended_84 rfl ?_
      obtain ⟨v12, hv12, h⟩ := ob h
      refine z_callS (as := [.ref 76, .int x1, .int x3, .int 0]) dX8_mended_85 ml_8_73 ms_X8_yearOf (t_X8_yearOf l kdl_76 hv12) rfl rfl (Nat.le_of_ble_eq_true rfl) ⟨Nat.le_of_ble_eq_true rfl, Nat.le_of_ble_eq_true rfl⟩ rfl ?_
      refine z_iload_n 2 dX8_mended_88 rfl ?_
      refine z_icmp_ne (tgt := 95) dX8_mended_89 (by decide) (fun c13 => ?_) (fun c13 => ?_)
      · replace h := ig c13 h
        refine z_iinc (lv' := [(0, .ref 74), (1, .int x1), (2, .int x2), (3, .int x3), (4, .int (x4 + 1))]) (v := x4 + 1) 4 [1, 2, 3, 4, 0] dX8_mended_95 rfl rfl (Nat.le_of_ble_eq_true rfl) rfl ?_
        refine z_goto (tgt := 59) dX8_mended_98 (by decide) ?_
        refine z_sub (lv' := [(0, .ref 74), (1, .int x1), (2, .int x2), (3, .int x3), (4, .int (x4 + 1))]) [0, 1, 2, 3, 4] rfl ?_
        exact ih _ _ _ _ _ _ _ _ h hk92 hk101
      · replace h := ip c13 h
        refine z_sub (lv' := [(4, .int x4)]) [4] rfl ?_
        exact hk92 _ _ h
set_option maxHeartbeats 2000000 in
set_option maxRecDepth 20000 in
theorem t_X8_mended (l : Launch) {S : St}  {a1 : Int32} {a2 : Int32} {a3 : Int32} {r : (Int32 × St)} (h : f_X8_mended a1 a2 a3 S = some r) : CT l yX8_mended M_X8_mended [.ref 74, .int a1, .int a2, .int a3] S (some (.int r.1)) r.2 := by
  rw [f_X8_mended] at h
  refine ct_of (lv := [(0, .ref 74), (1, .int a1), (2, .int a2), (3, .int a3)]) (by decide) rfl (Nat.le_of_ble_eq_true rfl) ?_
  refine z_aload_n 0 dX8_mended_0 rfl ?_
  refine z_iload_n 1 dX8_mended_1 rfl ?_
  obtain ⟨v1, hv1, h⟩ := ob h
  refine z_callV (as := [.int a1]) dX8_mended_2 ml_8_101 mv_X8_isThing (t_X8_isThing l hv1) kdl_74 ⟨by decide, rfl⟩ rfl rfl (Nat.le_of_ble_eq_true rfl) ⟨Nat.le_of_ble_eq_true rfl, Nat.le_of_ble_eq_true rfl⟩ rfl ?_
  refine z_if_eq (tgt := 15) dX8_mended_5 (by decide) (fun c2 => ?_) (fun c2 => ?_)
  · replace h := ip c2 h
    refine z_aload_n 0 dX8_mended_15 rfl ?_
    refine z_iconst (v := (-1)) dX8_mended_16 rfl ?_
    obtain ⟨z3, hz3, h⟩ := ob h
    refine z_callV (as := [.int (-1)]) dX8_mended_17 ml_8_41 mv_X8_no (t_X8_no l hz3) kdl_74 ⟨by decide, rfl⟩ rfl rfl (Nat.le_of_ble_eq_true rfl) ⟨Nat.le_of_ble_eq_true rfl, Nat.le_of_ble_eq_true rfl⟩ rfl ?_
    obtain rfl := Option.some.inj h
    exact z_iret dX8_mended_20 rfl rfl
  · replace h := ig c2 h
    refine z_iload_n 2 dX8_mended_8 rfl ?_
    obtain ⟨v4, hv4, h⟩ := ob h
    refine z_callS (as := [.int a2]) dX8_mended_9 ml_8_105 ms_X8_isYear (t_X8_isYear l _ hv4) rfl rfl (Nat.le_of_ble_eq_true rfl) ⟨Nat.le_of_ble_eq_true rfl, Nat.le_of_ble_eq_true rfl⟩ rfl ?_
    refine z_if_ne (tgt := 21) dX8_mended_12 (by decide) (fun c5 => ?_) (fun c5 => ?_)
    · replace h := ig c5 h
      refine z_iload_n 3 dX8_mended_21 rfl ?_
      refine z_if_ge (tgt := 32) dX8_mended_22 (by decide) (fun c6 => ?_) (fun c6 => ?_)
      · replace h := ip c6 h
        refine z_iload_n 3 dX8_mended_32 rfl ?_
        refine z_bipush (v := 99) dX8_mended_33 rfl ?_
        refine z_icmp_le (tgt := 45) dX8_mended_35 (by decide) (fun c7 => ?_) (fun c7 => ?_)
        · replace h := ip c7 h
          refine z_aload_n 0 dX8_mended_45 rfl ?_
          refine z_get (v := .ref 75) dX8_mended_46 fl_8_9 kdl_74 rfl ?_
          refine z_aload_n 0 dX8_mended_49 rfl ?_
          refine z_get (v := .ref 76) dX8_mended_50 fl_8_13 kdl_74 rfl ?_
          obtain ⟨S8, hS8, h⟩ := ob h
          refine z_callS (as := [.ref 75, .ref 76]) dX8_mended_53 ml_8_122 ms_X8_lays (t_X8_lays l kdl_75 kdl_76 hS8) rfl rfl (Nat.le_of_ble_eq_true rfl) ⟨Nat.le_of_ble_eq_true rfl, Nat.le_of_ble_eq_true rfl⟩ rfl ?_
          refine z_iconst (v := 0) dX8_mended_56 rfl ?_
          refine z_istore (lv' := [(0, .ref 74), (1, .int a1), (2, .int a2), (3, .int a3), (4, .int 0)]) [1, 2, 3, 4, 0] dX8_mended_57 (Nat.le_of_ble_eq_true rfl) rfl ?_
          refine z_sub (lv' := [(0, .ref 74), (1, .int a1), (2, .int a2), (3, .int a3), (4, .int 0)]) [0, 1, 2, 3, 4] rfl ?_
          refine t_X8_mended_L59 l _ _ _ _ _ _ _ _ _ h ?_ ?_
          · intro y14 S15 h
            refine z_iload 0 dX8_mended_92 rfl ?_
            obtain rfl := Option.some.inj h
            exact z_iret dX8_mended_94 rfl rfl
          · intro S16 h
            refine z_bipush (v := (-9)) dX8_mended_101 rfl ?_
            obtain rfl := Option.some.inj h
            exact z_iret dX8_mended_103 rfl rfl
        · replace h := ig c7 h
          refine z_aload_n 0 dX8_mended_38 rfl ?_
          refine z_bipush (v := (-6)) dX8_mended_39 rfl ?_
          obtain ⟨z17, hz17, h⟩ := ob h
          refine z_callV (as := [.int (-6)]) dX8_mended_41 ml_8_41 mv_X8_no (t_X8_no l hz17) kdl_74 ⟨by decide, rfl⟩ rfl rfl (Nat.le_of_ble_eq_true rfl) ⟨Nat.le_of_ble_eq_true rfl, Nat.le_of_ble_eq_true rfl⟩ rfl ?_
          obtain rfl := Option.some.inj h
          exact z_iret dX8_mended_44 rfl rfl
      · replace h := ig c6 h
        refine z_aload_n 0 dX8_mended_25 rfl ?_
        refine z_bipush (v := (-4)) dX8_mended_26 rfl ?_
        obtain ⟨z18, hz18, h⟩ := ob h
        refine z_callV (as := [.int (-4)]) dX8_mended_28 ml_8_41 mv_X8_no (t_X8_no l hz18) kdl_74 ⟨by decide, rfl⟩ rfl rfl (Nat.le_of_ble_eq_true rfl) ⟨Nat.le_of_ble_eq_true rfl, Nat.le_of_ble_eq_true rfl⟩ rfl ?_
        obtain rfl := Option.some.inj h
        exact z_iret dX8_mended_31 rfl rfl
    · replace h := ip c5 h
      refine z_aload_n 0 dX8_mended_15 rfl ?_
      refine z_iconst (v := (-1)) dX8_mended_16 rfl ?_
      obtain ⟨z19, hz19, h⟩ := ob h
      refine z_callV (as := [.int (-1)]) dX8_mended_17 ml_8_41 mv_X8_no (t_X8_no l hz19) kdl_74 ⟨by decide, rfl⟩ rfl rfl (Nat.le_of_ble_eq_true rfl) ⟨Nat.le_of_ble_eq_true rfl, Nat.le_of_ble_eq_true rfl⟩ rfl ?_
      obtain rfl := Option.some.inj h
      exact z_iret dX8_mended_20 rfl rfl
set_option maxHeartbeats 2000000 in
set_option maxRecDepth 20000 in
theorem t_X8_row (l : Launch) {S : St}  {a1 : Int32} {r : (Int32 × St)} (h : f_X8_row a1 S = some r) : CT l yX8_row M_X8_row [.ref 74, .int a1] S (some (.int r.1)) r.2 := by
  rw [f_X8_row] at h
  refine ct_of (lv := [(0, .ref 74), (1, .int a1)]) (by decide) rfl (Nat.le_of_ble_eq_true rfl) ?_
  refine z_iload_n 1 dX8_row_0 rfl ?_
  refine z_if_ge (tgt := 11) dX8_row_1 (by decide) (fun c1 => ?_) (fun c1 => ?_)
  · replace h := ip c1 h
    refine z_iload_n 1 dX8_row_11 rfl ?_
    refine z_bipush (v := 99) dX8_row_12 rfl ?_
    refine z_icmp_gt (tgt := 26) dX8_row_14 (by decide) (fun c2 => ?_) (fun c2 => ?_)
    · replace h := ip c2 h
      refine z_aload_n 0 dX8_row_26 rfl ?_
      refine z_bipush (v := (-6)) dX8_row_27 rfl ?_
      obtain ⟨z3, hz3, h⟩ := ob h
      refine z_callV (as := [.int (-6)]) dX8_row_29 ml_8_41 mv_X8_no (t_X8_no l hz3) kdl_74 ⟨by decide, rfl⟩ rfl rfl (Nat.le_of_ble_eq_true rfl) ⟨Nat.le_of_ble_eq_true rfl, Nat.le_of_ble_eq_true rfl⟩ rfl ?_
      obtain rfl := Option.some.inj h
      exact z_iret dX8_row_32 rfl rfl
    · replace h := ig c2 h
      refine z_aload_n 0 dX8_row_17 rfl ?_
      refine z_get (v := .int (S.1 74 9)) dX8_row_18 fl_8_193 kdl_74 rfl ?_
      refine z_bipush (v := 16) dX8_row_21 rfl ?_
      refine z_icmp_ne (tgt := 33) dX8_row_23 (by decide) (fun c4 => ?_) (fun c4 => ?_)
      · replace h := ig c4 h
        refine z_aload_n 0 dX8_row_33 rfl ?_
        refine z_get (v := .ref 80) dX8_row_34 fl_8_25 kdl_74 rfl ?_
        refine z_aload_n 0 dX8_row_37 rfl ?_
        refine z_get (v := .int (S.1 74 9)) dX8_row_38 fl_8_193 kdl_74 rfl ?_
        refine z_iload_n 1 dX8_row_41 rfl ?_
        obtain ⟨c5, h⟩ := oi h
        refine z_iast dX8_row_42 kdl_80 (by decide) c5 ?_
        refine z_aload_n 0 dX8_row_43 rfl ?_
        refine z_dup dX8_row_44 rfl ?_
        refine z_get (v := .int ((up S 80 (S.1 74 9).toNatClampNeg a1).1 74 9)) dX8_row_45 fl_8_193 kdl_74 rfl ?_
        refine z_iconst (v := 1) dX8_row_48 rfl ?_
        refine z_iadd dX8_row_49 ?_
        refine z_put (fk := 9) dX8_row_50 fl_8_193 fp_8_9 kdl_74 rfl rfl rfl (Nat.le_of_ble_eq_true rfl) ?_
        refine z_aload_n 0 dX8_row_53 rfl ?_
        refine z_get (v := .int ((up (up S 80 (S.1 74 9).toNatClampNeg a1) 74 9 (((up S 80 (S.1 74 9).toNatClampNeg a1).1 74 9) + 1)).1 74 9)) dX8_row_54 fl_8_193 kdl_74 rfl ?_
        obtain rfl := Option.some.inj h
        exact z_iret dX8_row_57 rfl rfl
      · replace h := ip c4 h
        refine z_aload_n 0 dX8_row_26 rfl ?_
        refine z_bipush (v := (-6)) dX8_row_27 rfl ?_
        obtain ⟨z6, hz6, h⟩ := ob h
        refine z_callV (as := [.int (-6)]) dX8_row_29 ml_8_41 mv_X8_no (t_X8_no l hz6) kdl_74 ⟨by decide, rfl⟩ rfl rfl (Nat.le_of_ble_eq_true rfl) ⟨Nat.le_of_ble_eq_true rfl, Nat.le_of_ble_eq_true rfl⟩ rfl ?_
        obtain rfl := Option.some.inj h
        exact z_iret dX8_row_32 rfl rfl
  · replace h := ig c1 h
    refine z_aload_n 0 dX8_row_4 rfl ?_
    refine z_bipush (v := (-4)) dX8_row_5 rfl ?_
    obtain ⟨z7, hz7, h⟩ := ob h
    refine z_callV (as := [.int (-4)]) dX8_row_7 ml_8_41 mv_X8_no (t_X8_no l hz7) kdl_74 ⟨by decide, rfl⟩ rfl rfl (Nat.le_of_ble_eq_true rfl) ⟨Nat.le_of_ble_eq_true rfl, Nat.le_of_ble_eq_true rfl⟩ rfl ?_
    obtain rfl := Option.some.inj h
    exact z_iret dX8_row_10 rfl rfl
set_option maxHeartbeats 2000000 in
set_option maxRecDepth 20000 in
theorem t_X8_judge_L26 (l : Launch)   : ∀ (n : Nat) (x1 : Int32) (x2 : Int32) (x3 : Int32) (S : St) (k56 : Int32 → Option (Int32 × St)) (k64 : Unit → Option (Int32 × St)) (r : (Int32 × St)), f_X8_judge_L26 n x1 x2 x3 S k56 k64 = some r → (∀ (e3 : Int32), k56 e3 = some r → Z l yX8_judge M_X8_judge 56 [(3, .int e3)] [] S (some (.int r.1)) r.2) → (k64 () = some r → Z l yX8_judge M_X8_judge 64 [] [] S (some (.int r.1)) r.2) → Z l yX8_judge M_X8_judge 26 [(0, .ref 74), (1, .int x1), (2, .int x2), (3, .int x3)] [] S (some (.int r.1)) r.2 := by
  intro n
  induction n with
  | zero =>
    intro x1 x2 x3 S k56 k64 r h hk56 hk64
    exact absurd h (by rw [f_X8_judge_L26]; exact fun q => by cases q)
  | succ n ih =>
    intro x1 x2 x3 S k56 k64 r h hk56 hk64
    rw [f_X8_judge_L26] at h
    refine z_iload_n 3 dX8_judge_26 rfl ?_
    refine z_iload_n 2 dX8_judge_27 rfl ?_
    refine z_icmp_ge (tgt := 64) dX8_judge_28 (by decide) (fun c3 => ?_) (fun c3 => ?_)
    · replace h := ip c3 h
      refine z_sub (lv' := []) [] rfl ?_
      exact hk64  h
    · replace h := ig c3 h
      refine z_iload_n 3 dX8_judge_31 rfl ?_
      refine z_bipush (v := 12) dX8_judge_32 rfl ?_
      refine z_icmp_ge (tgt := 56) dX8_judge_34 (by decide) (fun c4 => ?_) (fun c4 => ?_)
      · replace h := ip c4 h
        refine z_sub (lv' := [(3, .int x3)]) [3] rfl ?_
        exact hk56 _ h
      · replace h := ig c4 h
        refine z_aload_n 0 dX8_judge_37 rfl ?_
        refine z_get (v := .ref 75) dX8_judge_38 fl_8_9 kdl_74 rfl ?_
        refine z_iload_n 1 dX8_judge_41 rfl ?_
        refine z_iload_n 3 dX8_judge_42 rfl ?_
        obtain ⟨v5, hv5, h⟩ := ob h
        refine z_callS (as := [.int x1, .int x3]) dX8_judge_43 ml_8_55 ms_X8_at (t_X8_at l _ hv5) rfl rfl (Nat.le_of_ble_eq_true rfl) ⟨Nat.le_of_ble_eq_true rfl, Nat.le_of_ble_eq_true rfl⟩ rfl ?_
        obtain ⟨c6, h⟩ := oi h
        refine z_iald dX8_judge_46 kdl_75 (by decide) c6 ?_
        refine z_aload_n 0 dX8_judge_47 rfl ?_
        refine z_get (v := .ref 80) dX8_judge_48 fl_8_25 kdl_74 rfl ?_
        refine z_iload_n 3 dX8_judge_51 rfl ?_
        obtain ⟨c7, h⟩ := oi h
        refine z_iald dX8_judge_52 kdl_80 (by decide) c7 ?_
        refine z_icmp_eq (tgt := 58) dX8_judge_53 (by decide) (fun c8 => ?_) (fun c8 => ?_)
        · replace h := ip c8 h
          refine z_iinc (lv' := [(0, .ref 74), (1, .int x1), (2, .int x2), (3, .int (x3 + 1))]) (v := x3 + 1) 3 [1, 2, 3, 0] dX8_judge_58 rfl rfl (Nat.le_of_ble_eq_true rfl) rfl ?_
          refine z_goto (tgt := 26) dX8_judge_61 (by decide) ?_
          refine z_sub (lv' := [(0, .ref 74), (1, .int x1), (2, .int x2), (3, .int (x3 + 1))]) [0, 1, 2, 3] rfl ?_
          exact ih _ _ _ _ _ _ _ h hk56 hk64
        · replace h := ig c8 h
          refine z_sub (lv' := [(3, .int x3)]) [3] rfl ?_
          exact hk56 _ h
set_option maxHeartbeats 2000000 in
set_option maxRecDepth 20000 in
theorem t_X8_judge (l : Launch) {S : St}  {a1 : Int32} {r : (Int32 × St)} (h : f_X8_judge a1 S = some r) : CT l yX8_judge M_X8_judge [.ref 74, .int a1] S (some (.int r.1)) r.2 := by
  rw [f_X8_judge] at h
  refine ct_of (lv := [(0, .ref 74), (1, .int a1)]) (by decide) rfl (Nat.le_of_ble_eq_true rfl) ?_
  refine z_aload_n 0 dX8_judge_0 rfl ?_
  refine z_iload_n 1 dX8_judge_1 rfl ?_
  obtain ⟨v1, hv1, h⟩ := ob h
  refine z_callV (as := [.int a1]) dX8_judge_2 ml_8_101 mv_X8_isThing (t_X8_isThing l hv1) kdl_74 ⟨by decide, rfl⟩ rfl rfl (Nat.le_of_ble_eq_true rfl) ⟨Nat.le_of_ble_eq_true rfl, Nat.le_of_ble_eq_true rfl⟩ rfl ?_
  refine z_if_ne (tgt := 14) dX8_judge_5 (by decide) (fun c2 => ?_) (fun c2 => ?_)
  · replace h := ig c2 h
    refine z_aload_n 0 dX8_judge_14 rfl ?_
    refine z_get (v := .int (S.1 74 9)) dX8_judge_15 fl_8_193 kdl_74 rfl ?_
    refine z_istore_n (lv' := [(0, .ref 74), (1, .int a1), (2, .int (S.1 74 9))]) [1, 2, 0] dX8_judge_18 (Nat.le_of_ble_eq_true rfl) rfl ?_
    refine z_aload_n 0 dX8_judge_19 rfl ?_
    refine z_iconst (v := 0) dX8_judge_20 rfl ?_
    refine z_put (fk := 9) dX8_judge_21 fl_8_193 fp_8_9 kdl_74 rfl rfl rfl (Nat.le_of_ble_eq_true rfl) ?_
    refine z_iconst (v := 0) dX8_judge_24 rfl ?_
    refine z_istore_n (lv' := [(0, .ref 74), (1, .int a1), (2, .int (S.1 74 9)), (3, .int 0)]) [1, 2, 3, 0] dX8_judge_25 (Nat.le_of_ble_eq_true rfl) rfl ?_
    refine z_sub (lv' := [(0, .ref 74), (1, .int a1), (2, .int (S.1 74 9)), (3, .int 0)]) [0, 1, 2, 3] rfl ?_
    refine t_X8_judge_L26 l _ _ _ _ _ _ _ _ h ?_ ?_
    · intro y9 h
      refine z_iload_n 0 dX8_judge_56 rfl ?_
      obtain rfl := Option.some.inj h
      exact z_iret dX8_judge_57 rfl rfl
    · intro h
      refine z_bipush (v := (-9)) dX8_judge_64 rfl ?_
      obtain rfl := Option.some.inj h
      exact z_iret dX8_judge_66 rfl rfl
  · replace h := ip c2 h
    refine z_aload_n 0 dX8_judge_8 rfl ?_
    refine z_iconst (v := (-1)) dX8_judge_9 rfl ?_
    obtain ⟨z10, hz10, h⟩ := ob h
    refine z_callV (as := [.int (-1)]) dX8_judge_10 ml_8_41 mv_X8_no (t_X8_no l hz10) kdl_74 ⟨by decide, rfl⟩ rfl rfl (Nat.le_of_ble_eq_true rfl) ⟨Nat.le_of_ble_eq_true rfl, Nat.le_of_ble_eq_true rfl⟩ rfl ?_
    obtain rfl := Option.some.inj h
    exact z_iret dX8_judge_13 rfl rfl
set_option maxHeartbeats 2000000 in
set_option maxRecDepth 20000 in
theorem t_X8_clear (l : Launch) {S : St}   {r : (Int32 × St)} (h : f_X8_clear S = some r) : CT l yX8_clear M_X8_clear [.ref 74] S (some (.int r.1)) r.2 := by
  rw [f_X8_clear] at h
  refine ct_of (lv := [(0, .ref 74)]) (by decide) rfl (Nat.le_of_ble_eq_true rfl) ?_
  refine z_aload_n 0 dX8_clear_0 rfl ?_
  refine z_get (v := .int (S.1 74 9)) dX8_clear_1 fl_8_193 kdl_74 rfl ?_
  refine z_istore_n (lv' := [(0, .ref 74), (1, .int (S.1 74 9))]) [1, 0] dX8_clear_4 (Nat.le_of_ble_eq_true rfl) rfl ?_
  refine z_aload_n 0 dX8_clear_5 rfl ?_
  refine z_iconst (v := 0) dX8_clear_6 rfl ?_
  refine z_put (fk := 9) dX8_clear_7 fl_8_193 fp_8_9 kdl_74 rfl rfl rfl (Nat.le_of_ble_eq_true rfl) ?_
  refine z_iload_n 1 dX8_clear_10 rfl ?_
  obtain rfl := Option.some.inj h
  exact z_iret dX8_clear_11 rfl rfl
set_option maxHeartbeats 2000000 in
set_option maxRecDepth 20000 in
theorem t_X8_drawn (l : Launch) {S : St}  {a1 : Int32} {r : (Int32 × St)} (h : f_X8_drawn a1 S = some r) : CT l yX8_drawn M_X8_drawn [.ref 74, .int a1] S (some (.int r.1)) r.2 := by
  rw [f_X8_drawn] at h
  refine ct_of (lv := [(0, .ref 74), (1, .int a1)]) (by decide) rfl (Nat.le_of_ble_eq_true rfl) ?_
  refine z_aload_n 0 dX8_drawn_0 rfl ?_
  refine z_aload_n 0 dX8_drawn_1 rfl ?_
  refine z_get (v := .int (S.1 74 15)) dX8_drawn_2 fl_8_196 kdl_74 rfl ?_
  refine z_ldc cst_8_199 dX8_drawn_5 ?_
  refine z_imul dX8_drawn_7 ?_
  refine z_ldc cst_8_200 dX8_drawn_8 ?_
  refine z_iadd dX8_drawn_10 ?_
  refine z_put (fk := 15) dX8_drawn_11 fl_8_196 fp_8_15 kdl_74 rfl rfl rfl (Nat.le_of_ble_eq_true rfl) ?_
  refine z_aload_n 0 dX8_drawn_14 rfl ?_
  refine z_get (v := .int ((up S 74 15 (((S.1 74 15) * 1664525) + 1013904223)).1 74 15)) dX8_drawn_15 fl_8_196 kdl_74 rfl ?_
  refine z_ldc cst_8_201 dX8_drawn_18 ?_
  refine z_iand dX8_drawn_20 ?_
  refine z_sipush (v := 256) dX8_drawn_21 rfl ?_
  refine z_idiv dX8_drawn_24 (by decide) ?_
  refine z_iload_n 1 dX8_drawn_25 rfl ?_
  obtain ⟨c1, h⟩ := oi h
  refine z_irem dX8_drawn_26 c1 ?_
  obtain rfl := Option.some.inj h
  exact z_iret dX8_drawn_27 rfl rfl
set_option maxHeartbeats 2000000 in
set_option maxRecDepth 20000 in
theorem t_X8_lots_L72 (l : Launch)   : ∀ (n : Nat) (x1 : Int32) (x3 : Int32) (x4 : Int32) (x5 : Int32) (x6 : Int32) (S : St) (k139 : St → Option (Int32 × St)) (r : (Int32 × St)), f_X8_lots_L72 n x1 x3 x4 x5 x6 S k139 = some r → (∀ (T : St), k139 T = some r → Z l yX8_lots M_X8_lots 139 [(0, .ref 74), (1, .int x1), (3, .int x3), (4, .int x4), (5, .int x5)] [] T (some (.int r.1)) r.2) → Z l yX8_lots M_X8_lots 72 [(0, .ref 74), (1, .int x1), (3, .int x3), (4, .int x4), (5, .int x5), (6, .int x6)] [] S (some (.int r.1)) r.2 := by
  intro n
  induction n with
  | zero =>
    intro x1 x3 x4 x5 x6 S k139 r h hk139
    exact absurd h (by rw [f_X8_lots_L72]; exact fun q => by cases q)
  | succ n ih =>
    intro x1 x3 x4 x5 x6 S k139 r h hk139
    rw [f_X8_lots_L72] at h
    refine z_iload 5 dX8_lots_72 rfl ?_
    refine z_aload_n 0 dX8_lots_74 rfl ?_
    refine z_get (v := .ref 76) dX8_lots_75 fl_8_13 kdl_74 rfl ?_
    refine z_iconst (v := 0) dX8_lots_78 rfl ?_
    refine z_ialdK (j := 0) dX8_lots_79 kdl_76 (by decide) (by decide) (by decide) ?_
    refine z_icmp_ge (tgt := 139) dX8_lots_80 (by decide) (fun c7 => ?_) (fun c7 => ?_)
    · replace h := ip c7 h
      refine z_sub (lv' := [(0, .ref 74), (1, .int x1), (3, .int x3), (4, .int x4), (5, .int x5)]) [0, 1, 2, 3, 4] rfl ?_
      exact hk139 _ h
    · replace h := ig c7 h
      refine z_aload_n 0 dX8_lots_83 rfl ?_
      refine z_get (v := .ref 76) dX8_lots_84 fl_8_13 kdl_74 rfl ?_
      refine z_bipush (v := 20) dX8_lots_87 rfl ?_
      refine z_iload 5 dX8_lots_89 rfl ?_
      refine z_iadd dX8_lots_91 ?_
      obtain ⟨c8, h⟩ := oi h
      refine z_iald dX8_lots_92 kdl_76 (by decide) c8 ?_
      refine z_if_lt (tgt := 99) dX8_lots_93 (by decide) (fun c9 => ?_) (fun c9 => ?_)
      · replace h := ip c9 h
        refine z_aload_n 0 dX8_lots_99 rfl ?_
        refine z_bipush (v := 60) dX8_lots_100 rfl ?_
        obtain ⟨z10, hz10, h⟩ := ob h
        refine z_callV (as := [.int 60]) dX8_lots_102 ml_8_202 mv_X8_drawn (t_X8_drawn l hz10) kdl_74 ⟨by decide, rfl⟩ rfl rfl (Nat.le_of_ble_eq_true rfl) ⟨Nat.le_of_ble_eq_true rfl, Nat.le_of_ble_eq_true rfl⟩ rfl ?_
        refine z_istore (lv' := [(0, .ref 74), (1, .int x1), (3, .int x3), (4, .int x4), (5, .int x5), (6, .int x6), (7, .int z10.1)]) [1, 2, 3, 4, 5, 6, 0] dX8_lots_105 (Nat.le_of_ble_eq_true rfl) rfl ?_
        refine z_aload_n 0 dX8_lots_107 rfl ?_
        refine z_get (v := .ref 76) dX8_lots_108 fl_8_13 kdl_74 rfl ?_
        refine z_bipush (v := 20) dX8_lots_111 rfl ?_
        refine z_iload 5 dX8_lots_113 rfl ?_
        refine z_iadd dX8_lots_115 ?_
        refine z_aload_n 0 dX8_lots_116 rfl ?_
        refine z_get (v := .ref 76) dX8_lots_117 fl_8_13 kdl_74 rfl ?_
        refine z_iload 5 dX8_lots_120 rfl ?_
        refine z_iload 6 dX8_lots_122 rfl ?_
        refine z_aload_n 0 dX8_lots_124 rfl ?_
        refine z_iconst (v := 4) dX8_lots_125 rfl ?_
        obtain ⟨z11, hz11, h⟩ := ob h
        refine z_callV (as := [.int 4]) dX8_lots_126 ml_8_202 mv_X8_drawn (t_X8_drawn l hz11) kdl_74 ⟨by decide, rfl⟩ rfl rfl (Nat.le_of_ble_eq_true rfl) ⟨Nat.le_of_ble_eq_true rfl, Nat.le_of_ble_eq_true rfl⟩ rfl ?_
        obtain ⟨v12, hv12, h⟩ := ob h
        refine z_callS (as := [.ref 76, .int x6, .int z10.1, .int z11.1]) dX8_lots_129 ml_8_73 ms_X8_yearOf (t_X8_yearOf l kdl_76 hv12) rfl rfl (Nat.le_of_ble_eq_true rfl) ⟨Nat.le_of_ble_eq_true rfl, Nat.le_of_ble_eq_true rfl⟩ rfl ?_
        obtain ⟨c13, h⟩ := oi h
        refine z_iast dX8_lots_132 kdl_76 (by decide) c13 ?_
        refine z_iinc (lv' := [(0, .ref 74), (1, .int x1), (3, .int x3), (4, .int x4), (5, .int x5), (6, .int (x6 + 1)), (7, .int z10.1)]) (v := x6 + 1) 5 [1, 2, 3, 4, 5, 0, 6] dX8_lots_133 rfl rfl (Nat.le_of_ble_eq_true rfl) rfl ?_
        refine z_goto (tgt := 72) dX8_lots_136 (by decide) ?_
        refine z_sub (lv' := [(0, .ref 74), (1, .int x1), (3, .int x3), (4, .int x4), (5, .int x5), (6, .int (x6 + 1))]) [0, 1, 2, 3, 4, 5] rfl ?_
        exact ih _ _ _ _ _ _ _ _ h hk139
      · replace h := ig c9 h
        refine z_goto (tgt := 133) dX8_lots_96 (by decide) ?_
        refine z_iinc (lv' := [(0, .ref 74), (1, .int x1), (3, .int x3), (4, .int x4), (5, .int x5), (6, .int (x6 + 1))]) (v := x6 + 1) 5 [1, 2, 3, 4, 5, 0] dX8_lots_133 rfl rfl (Nat.le_of_ble_eq_true rfl) rfl ?_
        refine z_goto (tgt := 72) dX8_lots_136 (by decide) ?_
        refine z_sub (lv' := [(0, .ref 74), (1, .int x1), (3, .int x3), (4, .int x4), (5, .int x5), (6, .int (x6 + 1))]) [0, 1, 2, 3, 4, 5] rfl ?_
        exact ih _ _ _ _ _ _ _ _ h hk139
set_option maxHeartbeats 2000000 in
set_option maxRecDepth 20000 in
theorem t_X8_lots_L52 (l : Launch)   : ∀ (n : Nat) (x1 : Int32) (x3 : Int32) (x4 : Int32) (x5 : Int32) (S : St) (k172 : Int32 → St → Option (Int32 × St)) (r : (Int32 × St)), f_X8_lots_L52 n x1 x3 x4 x5 S k172 = some r → (∀ (e4 : Int32) (T : St), k172 e4 T = some r → Z l yX8_lots M_X8_lots 172 [(4, .int e4)] [] T (some (.int r.1)) r.2) → Z l yX8_lots M_X8_lots 52 [(0, .ref 74), (1, .int x1), (3, .int x3), (4, .int x4), (5, .int x5)] [] S (some (.int r.1)) r.2 := by
  intro n
  induction n with
  | zero =>
    intro x1 x3 x4 x5 S k172 r h hk172
    exact absurd h (by rw [f_X8_lots_L52]; exact fun q => by cases q)
  | succ n ih =>
    intro x1 x3 x4 x5 S k172 r h hk172
    rw [f_X8_lots_L52] at h
    refine z_iload 4 dX8_lots_52 rfl ?_
    refine z_iload_n 1 dX8_lots_54 rfl ?_
    refine z_icmp_ge (tgt := 172) dX8_lots_55 (by decide) (fun c5 => ?_) (fun c5 => ?_)
    · replace h := ip c5 h
      refine z_sub (lv' := [(4, .int x4)]) [3] rfl ?_
      exact hk172 _ _ h
    · replace h := ig c5 h
      refine z_aload_n 0 dX8_lots_58 rfl ?_
      refine z_get (v := .ref 75) dX8_lots_59 fl_8_9 kdl_74 rfl ?_
      refine z_aload_n 0 dX8_lots_62 rfl ?_
      refine z_get (v := .ref 76) dX8_lots_63 fl_8_13 kdl_74 rfl ?_
      obtain ⟨S6, hS6, h⟩ := ob h
      refine z_callS (as := [.ref 75, .ref 76]) dX8_lots_66 ml_8_122 ms_X8_lays (t_X8_lays l kdl_75 kdl_76 hS6) rfl rfl (Nat.le_of_ble_eq_true rfl) ⟨Nat.le_of_ble_eq_true rfl, Nat.le_of_ble_eq_true rfl⟩ rfl ?_
      refine z_iconst (v := 0) dX8_lots_69 rfl ?_
      refine z_istore (lv' := [(0, .ref 74), (1, .int x1), (3, .int x3), (4, .int x4), (5, .int x5), (6, .int 0)]) [1, 2, 3, 4, 5, 0] dX8_lots_70 (Nat.le_of_ble_eq_true rfl) rfl ?_
      refine z_sub (lv' := [(0, .ref 74), (1, .int x1), (3, .int x3), (4, .int x4), (5, .int x5), (6, .int 0)]) [0, 1, 2, 3, 4, 5] rfl ?_
      refine t_X8_lots_L72 l _ _ _ _ _ _ _ _ _ h ?_
      · intro S14 h
        refine z_iload 3 dX8_lots_139 rfl ?_
        refine z_iload_n 2 dX8_lots_141 rfl ?_
        refine z_if_ne (tgt := 155) dX8_lots_142 (by decide) (fun c15 => ?_) (fun c15 => ?_)
        · replace h := ig c15 h
          refine z_aload_n 0 dX8_lots_155 rfl ?_
          refine z_aload_n 0 dX8_lots_156 rfl ?_
          refine z_get (v := .ref 76) dX8_lots_157 fl_8_13 kdl_74 rfl ?_
          obtain ⟨v16, hv16, h⟩ := ob h
          refine z_callV (as := [.ref 76]) dX8_lots_160 ml_8_149 mv_X8_agreeMany (t_X8_agreeMany l kdl_76 hv16) kdl_74 ⟨by decide, rfl⟩ rfl rfl (Nat.le_of_ble_eq_true rfl) ⟨Nat.le_of_ble_eq_true rfl, Nat.le_of_ble_eq_true rfl⟩ rfl ?_
          refine z_iadd dX8_lots_163 ?_
          refine z_istore (lv' := [(0, .ref 74), (1, .int x1), (3, .int x3), (4, .int (x4 + v16)), (5, .int x5)]) [1, 2, 3, 0, 4] dX8_lots_164 (Nat.le_of_ble_eq_true rfl) rfl ?_
          refine z_iinc (lv' := [(0, .ref 74), (1, .int x1), (3, .int x3), (4, .int (x4 + v16)), (5, .int (x5 + 1))]) (v := x5 + 1) 4 [1, 2, 3, 4, 0] dX8_lots_166 rfl rfl (Nat.le_of_ble_eq_true rfl) rfl ?_
          refine z_goto (tgt := 52) dX8_lots_169 (by decide) ?_
          refine z_sub (lv' := [(0, .ref 74), (1, .int x1), (3, .int x3), (4, .int (x4 + v16)), (5, .int (x5 + 1))]) [0, 1, 2, 3, 4] rfl ?_
          exact ih _ _ _ _ _ _ _ h hk172
        · replace h := ip c15 h
          refine z_aload_n 0 dX8_lots_145 rfl ?_
          refine z_get (v := .ref 76) dX8_lots_146 fl_8_13 kdl_74 rfl ?_
          obtain ⟨v17, hv17, h⟩ := ob h
          refine z_callS (as := [.ref 76]) dX8_lots_149 ml_8_141 ms_X8_gladAll (t_X8_gladAll l kdl_76 hv17) rfl rfl (Nat.le_of_ble_eq_true rfl) ⟨Nat.le_of_ble_eq_true rfl, Nat.le_of_ble_eq_true rfl⟩ rfl ?_
          refine z_goto (tgt := 163) dX8_lots_152 (by decide) ?_
          refine z_iadd dX8_lots_163 ?_
          refine z_istore (lv' := [(0, .ref 74), (1, .int x1), (3, .int x3), (4, .int (x4 + v17)), (5, .int x5)]) [1, 2, 3, 0, 4] dX8_lots_164 (Nat.le_of_ble_eq_true rfl) rfl ?_
          refine z_iinc (lv' := [(0, .ref 74), (1, .int x1), (3, .int x3), (4, .int (x4 + v17)), (5, .int (x5 + 1))]) (v := x5 + 1) 4 [1, 2, 3, 4, 0] dX8_lots_166 rfl rfl (Nat.le_of_ble_eq_true rfl) rfl ?_
          refine z_goto (tgt := 52) dX8_lots_169 (by decide) ?_
          refine z_sub (lv' := [(0, .ref 74), (1, .int x1), (3, .int x3), (4, .int (x4 + v17)), (5, .int (x5 + 1))]) [0, 1, 2, 3, 4] rfl ?_
          exact ih _ _ _ _ _ _ _ h hk172
set_option maxHeartbeats 2000000 in
set_option maxRecDepth 20000 in
theorem t_X8_lots (l : Launch) {S : St}  {a1 : Int32} {a2 : Int32} {a3 : Int32} {r : (Int32 × St)} (h : f_X8_lots a1 a2 a3 S = some r) : CT l yX8_lots M_X8_lots [.ref 74, .int a1, .int a2, .int a3] S (some (.int r.1)) r.2 := by
  rw [f_X8_lots] at h
  refine ct_of (lv := [(0, .ref 74), (1, .int a1), (2, .int a2), (3, .int a3)]) (by decide) rfl (Nat.le_of_ble_eq_true rfl) ?_
  refine z_iload_n 1 dX8_lots_0 rfl ?_
  refine z_iconst (v := 1) dX8_lots_1 rfl ?_
  refine z_icmp_ge (tgt := 12) dX8_lots_2 (by decide) (fun c1 => ?_) (fun c1 => ?_)
  · replace h := ip c1 h
    refine z_iload_n 1 dX8_lots_12 rfl ?_
    refine z_bipush (v := 20) dX8_lots_13 rfl ?_
    refine z_icmp_le (tgt := 25) dX8_lots_15 (by decide) (fun c2 => ?_) (fun c2 => ?_)
    · replace h := ip c2 h
      refine z_iload_n 3 dX8_lots_25 rfl ?_
      refine z_iconst (v := 0) dX8_lots_26 rfl ?_
      refine z_iconst (v := 1) dX8_lots_27 rfl ?_
      obtain ⟨v3, hv3, h⟩ := ob h
      refine z_callS (as := [.int a3, .int 0, .int 1]) dX8_lots_28 ml_8_47 ms_X8_isIn (t_X8_isIn l _ hv3) rfl rfl (Nat.le_of_ble_eq_true rfl) ⟨Nat.le_of_ble_eq_true rfl, Nat.le_of_ble_eq_true rfl⟩ rfl ?_
      refine z_if_ne (tgt := 41) dX8_lots_31 (by decide) (fun c4 => ?_) (fun c4 => ?_)
      · replace h := ig c4 h
        refine z_aload_n 0 dX8_lots_41 rfl ?_
        refine z_iload_n 2 dX8_lots_42 rfl ?_
        refine z_put (fk := 15) dX8_lots_43 fl_8_196 fp_8_15 kdl_74 rfl rfl rfl (Nat.le_of_ble_eq_true rfl) ?_
        refine z_iconst (v := 0) dX8_lots_46 rfl ?_
        refine z_istore (lv' := [(0, .ref 74), (1, .int a1), (2, .int a2), (3, .int a3), (4, .int 0)]) [1, 2, 3, 4, 0] dX8_lots_47 (Nat.le_of_ble_eq_true rfl) rfl ?_
        refine z_iconst (v := 0) dX8_lots_49 rfl ?_
        refine z_istore (lv' := [(0, .ref 74), (1, .int a1), (2, .int a2), (3, .int a3), (4, .int 0), (5, .int 0)]) [1, 2, 3, 4, 5, 0] dX8_lots_50 (Nat.le_of_ble_eq_true rfl) rfl ?_
        refine z_sub (lv' := [(0, .ref 74), (1, .int a1), (3, .int a3), (4, .int 0), (5, .int 0)]) [0, 1, 3, 4, 5] rfl ?_
        refine t_X8_lots_L52 l _ _ _ _ _ _ _ _ h ?_
        · intro y18 S19 h
          refine z_iload 0 dX8_lots_172 rfl ?_
          obtain rfl := Option.some.inj h
          exact z_iret dX8_lots_174 rfl rfl
      · replace h := ip c4 h
        refine z_aload_n 0 dX8_lots_34 rfl ?_
        refine z_bipush (v := (-2)) dX8_lots_35 rfl ?_
        obtain ⟨z20, hz20, h⟩ := ob h
        refine z_callV (as := [.int (-2)]) dX8_lots_37 ml_8_41 mv_X8_no (t_X8_no l hz20) kdl_74 ⟨by decide, rfl⟩ rfl rfl (Nat.le_of_ble_eq_true rfl) ⟨Nat.le_of_ble_eq_true rfl, Nat.le_of_ble_eq_true rfl⟩ rfl ?_
        obtain rfl := Option.some.inj h
        exact z_iret dX8_lots_40 rfl rfl
    · replace h := ig c2 h
      refine z_aload_n 0 dX8_lots_18 rfl ?_
      refine z_bipush (v := (-6)) dX8_lots_19 rfl ?_
      obtain ⟨z21, hz21, h⟩ := ob h
      refine z_callV (as := [.int (-6)]) dX8_lots_21 ml_8_41 mv_X8_no (t_X8_no l hz21) kdl_74 ⟨by decide, rfl⟩ rfl rfl (Nat.le_of_ble_eq_true rfl) ⟨Nat.le_of_ble_eq_true rfl, Nat.le_of_ble_eq_true rfl⟩ rfl ?_
      obtain rfl := Option.some.inj h
      exact z_iret dX8_lots_24 rfl rfl
  · replace h := ig c1 h
    refine z_aload_n 0 dX8_lots_5 rfl ?_
    refine z_bipush (v := (-4)) dX8_lots_6 rfl ?_
    obtain ⟨z22, hz22, h⟩ := ob h
    refine z_callV (as := [.int (-4)]) dX8_lots_8 ml_8_41 mv_X8_no (t_X8_no l hz22) kdl_74 ⟨by decide, rfl⟩ rfl rfl (Nat.le_of_ble_eq_true rfl) ⟨Nat.le_of_ble_eq_true rfl, Nat.le_of_ble_eq_true rfl⟩ rfl ?_
    obtain rfl := Option.some.inj h
    exact z_iret dX8_lots_11 rfl rfl
set_option maxHeartbeats 2000000 in
set_option maxRecDepth 20000 in
theorem t_X8_image (l : Launch) {S : St}   {r : (Int32 × St)} (h : f_X8_image S = some r) : CT l yX8_image M_X8_image [.ref 74] S (some (.int r.1)) r.2 := by
  rw [f_X8_image] at h
  refine ct_of (lv := [(0, .ref 74)]) (by decide) rfl (Nat.le_of_ble_eq_true rfl) ?_
  refine z_aload_n 0 dX8_image_0 rfl ?_
  refine z_get (v := .ref 75) dX8_image_1 fl_8_9 kdl_74 rfl ?_
  refine z_aload_n 0 dX8_image_4 rfl ?_
  refine z_get (v := .ref 77) dX8_image_5 fl_8_16 kdl_74 rfl ?_
  obtain ⟨S1, hS1, h⟩ := ob h
  refine z_callS (as := [.ref 75, .ref 77]) dX8_image_8 ml_8_122 ms_X8_lays (t_X8_lays l kdl_75 kdl_77 hS1) rfl rfl (Nat.le_of_ble_eq_true rfl) ⟨Nat.le_of_ble_eq_true rfl, Nat.le_of_ble_eq_true rfl⟩ rfl ?_
  refine z_aload_n 0 dX8_image_11 rfl ?_
  refine z_iconst (v := 1) dX8_image_12 rfl ?_
  refine z_put (fk := 4) dX8_image_13 fl_8_205 fp_8_4 kdl_74 rfl rfl rfl (Nat.le_of_ble_eq_true rfl) ?_
  refine z_aload_n 0 dX8_image_16 rfl ?_
  refine z_get (v := .ref 75) dX8_image_17 fl_8_9 kdl_74 rfl ?_
  refine z_iconst (v := 1) dX8_image_20 rfl ?_
  refine z_ialdK (j := 1) dX8_image_21 kdl_75 (by decide) (by decide) (by decide) ?_
  obtain rfl := Option.some.inj h
  exact z_iret dX8_image_22 rfl rfl
set_option maxHeartbeats 2000000 in
set_option maxRecDepth 20000 in
theorem t_X8_on (l : Launch) {S : St}   {r : (Int32 × St)} (h : f_X8_on S = some r) : CT l yX8_on M_X8_on [.ref 74] S (some (.int r.1)) r.2 := by
  rw [f_X8_on] at h
  refine ct_of (lv := [(0, .ref 74)]) (by decide) rfl (Nat.le_of_ble_eq_true rfl) ?_
  refine z_aload_n 0 dX8_on_0 rfl ?_
  refine z_get (v := .int (S.1 74 4)) dX8_on_1 fl_8_205 kdl_74 rfl ?_
  refine z_if_ne (tgt := 14) dX8_on_4 (by decide) (fun c1 => ?_) (fun c1 => ?_)
  · replace h := ig c1 h
    refine z_aload_n 0 dX8_on_14 rfl ?_
    refine z_get (v := .ref 77) dX8_on_15 fl_8_16 kdl_74 rfl ?_
    refine z_aload_n 0 dX8_on_18 rfl ?_
    refine z_get (v := .ref 75) dX8_on_19 fl_8_9 kdl_74 rfl ?_
    obtain ⟨S2, hS2, h⟩ := ob h
    refine z_callS (as := [.ref 77, .ref 75]) dX8_on_22 ml_8_122 ms_X8_lays (t_X8_lays l kdl_77 kdl_75 hS2) rfl rfl (Nat.le_of_ble_eq_true rfl) ⟨Nat.le_of_ble_eq_true rfl, Nat.le_of_ble_eq_true rfl⟩ rfl ?_
    refine z_aload_n 0 dX8_on_25 rfl ?_
    refine z_get (v := .ref 75) dX8_on_26 fl_8_9 kdl_74 rfl ?_
    refine z_iconst (v := 1) dX8_on_29 rfl ?_
    refine z_ialdK (j := 1) dX8_on_30 kdl_75 (by decide) (by decide) (by decide) ?_
    obtain rfl := Option.some.inj h
    exact z_iret dX8_on_31 rfl rfl
  · replace h := ip c1 h
    refine z_aload_n 0 dX8_on_7 rfl ?_
    refine z_bipush (v := (-3)) dX8_on_8 rfl ?_
    obtain ⟨z3, hz3, h⟩ := ob h
    refine z_callV (as := [.int (-3)]) dX8_on_10 ml_8_41 mv_X8_no (t_X8_no l hz3) kdl_74 ⟨by decide, rfl⟩ rfl rfl (Nat.le_of_ble_eq_true rfl) ⟨Nat.le_of_ble_eq_true rfl, Nat.le_of_ble_eq_true rfl⟩ rfl ?_
    obtain rfl := Option.some.inj h
    exact z_iret dX8_on_13 rfl rfl
set_option maxHeartbeats 2000000 in
set_option maxRecDepth 20000 in
theorem t_X8_count_L81 (l : Launch)   : ∀ (n : Nat) (x2 : Int32) (x3 : Int32) (S : St) (k119 : Int32 → Option Int32) (r : Int32), f_X8_count_L81 n x2 x3 S k119 = some r → (∀ (e2 : Int32), k119 e2 = some r → Z l yX8_count M_X8_count 119 [(2, .int e2)] [] S (some (.int r)) S) → Z l yX8_count M_X8_count 81 [(0, .ref 74), (2, .int x2), (3, .int x3)] [] S (some (.int r)) S := by
  intro n
  induction n with
  | zero =>
    intro x2 x3 S k119 r h hk119
    exact absurd h (by rw [f_X8_count_L81]; exact fun q => by cases q)
  | succ n ih =>
    intro x2 x3 S k119 r h hk119
    rw [f_X8_count_L81] at h
    refine z_iload_n 2 dX8_count_81 rfl ?_
    refine z_aload_n 0 dX8_count_82 rfl ?_
    refine z_get (v := .ref 75) dX8_count_83 fl_8_9 kdl_74 rfl ?_
    refine z_iconst (v := 0) dX8_count_86 rfl ?_
    refine z_ialdK (j := 0) dX8_count_87 kdl_75 (by decide) (by decide) (by decide) ?_
    refine z_icmp_ge (tgt := 119) dX8_count_88 (by decide) (fun c12 => ?_) (fun c12 => ?_)
    · replace h := ip c12 h
      refine z_sub (lv' := [(2, .int x2)]) [1] rfl ?_
      exact hk119 _ h
    · replace h := ig c12 h
      refine z_iload_n 1 dX8_count_91 rfl ?_
      refine z_aload_n 0 dX8_count_92 rfl ?_
      refine z_get (v := .ref 75) dX8_count_93 fl_8_9 kdl_74 rfl ?_
      refine z_bipush (v := 20) dX8_count_96 rfl ?_
      refine z_iload_n 2 dX8_count_98 rfl ?_
      refine z_iadd dX8_count_99 ?_
      obtain ⟨c13, h⟩ := oi h
      refine z_iald dX8_count_100 kdl_75 (by decide) c13 ?_
      refine z_if_lt (tgt := 110) dX8_count_101 (by decide) (fun c14 => ?_) (fun c14 => ?_)
      · replace h := ip c14 h
        refine z_iconst (v := 0) dX8_count_110 rfl ?_
        refine z_ior dX8_count_111 ?_
        refine z_istore_n (lv' := [(0, .ref 74), (2, .int (x2 ||| 0)), (3, .int x3)]) [1, 0, 2] dX8_count_112 (Nat.le_of_ble_eq_true rfl) rfl ?_
        refine z_iinc (lv' := [(0, .ref 74), (2, .int (x2 ||| 0)), (3, .int (x3 + 1))]) (v := x3 + 1) 2 [1, 2, 0] dX8_count_113 rfl rfl (Nat.le_of_ble_eq_true rfl) rfl ?_
        refine z_goto (tgt := 81) dX8_count_116 (by decide) ?_
        refine z_sub (lv' := [(0, .ref 74), (2, .int (x2 ||| 0)), (3, .int (x3 + 1))]) [0, 1, 2] rfl ?_
        exact ih _ _ _ _ _ h hk119
      · replace h := ig c14 h
        refine z_iconst (v := 1) dX8_count_104 rfl ?_
        refine z_iload_n 2 dX8_count_105 rfl ?_
        refine z_ishl dX8_count_106 ?_
        refine z_goto (tgt := 111) dX8_count_107 (by decide) ?_
        refine z_ior dX8_count_111 ?_
        refine z_istore_n (lv' := [(0, .ref 74), (2, .int (x2 ||| (1 <<< (x3 &&& 31)))), (3, .int x3)]) [1, 0, 2] dX8_count_112 (Nat.le_of_ble_eq_true rfl) rfl ?_
        refine z_iinc (lv' := [(0, .ref 74), (2, .int (x2 ||| (1 <<< (x3 &&& 31)))), (3, .int (x3 + 1))]) (v := x3 + 1) 2 [1, 2, 0] dX8_count_113 rfl rfl (Nat.le_of_ble_eq_true rfl) rfl ?_
        refine z_goto (tgt := 81) dX8_count_116 (by decide) ?_
        refine z_sub (lv' := [(0, .ref 74), (2, .int (x2 ||| (1 <<< (x3 &&& 31)))), (3, .int (x3 + 1))]) [0, 1, 2] rfl ?_
        exact ih _ _ _ _ _ h hk119
set_option maxHeartbeats 2000000 in
set_option maxRecDepth 20000 in
theorem t_X8_count_L123 (l : Launch)   : ∀ (n : Nat) (x2 : Int32) (x3 : Int32) (S : St) (k154 : Int32 → Option Int32) (r : Int32), f_X8_count_L123 n x2 x3 S k154 = some r → (∀ (e2 : Int32), k154 e2 = some r → Z l yX8_count M_X8_count 154 [(2, .int e2)] [] S (some (.int r)) S) → Z l yX8_count M_X8_count 123 [(0, .ref 74), (2, .int x2), (3, .int x3)] [] S (some (.int r)) S := by
  intro n
  induction n with
  | zero =>
    intro x2 x3 S k154 r h hk154
    exact absurd h (by rw [f_X8_count_L123]; exact fun q => by cases q)
  | succ n ih =>
    intro x2 x3 S k154 r h hk154
    rw [f_X8_count_L123] at h
    refine z_iload_n 2 dX8_count_123 rfl ?_
    refine z_aload_n 0 dX8_count_124 rfl ?_
    refine z_get (v := .ref 75) dX8_count_125 fl_8_9 kdl_74 rfl ?_
    refine z_iconst (v := 0) dX8_count_128 rfl ?_
    refine z_ialdK (j := 0) dX8_count_129 kdl_75 (by decide) (by decide) (by decide) ?_
    refine z_icmp_ge (tgt := 154) dX8_count_130 (by decide) (fun c17 => ?_) (fun c17 => ?_)
    · replace h := ip c17 h
      refine z_sub (lv' := [(2, .int x2)]) [1] rfl ?_
      exact hk154 _ h
    · replace h := ig c17 h
      refine z_iload_n 1 dX8_count_133 rfl ?_
      refine z_aload_n 0 dX8_count_134 rfl ?_
      refine z_get (v := .ref 75) dX8_count_135 fl_8_9 kdl_74 rfl ?_
      refine z_bipush (v := 124) dX8_count_138 rfl ?_
      refine z_iload_n 2 dX8_count_140 rfl ?_
      refine z_iadd dX8_count_141 ?_
      obtain ⟨c18, h⟩ := oi h
      refine z_iald dX8_count_142 kdl_75 (by decide) c18 ?_
      obtain ⟨v19, hv19, h⟩ := ob h
      refine z_callS (as := [.int (S.1 75 (124 + x3).toNatClampNeg)]) dX8_count_143 ml_8_174 ms_X8_bits (t_X8_bits l _ hv19) rfl rfl (Nat.le_of_ble_eq_true rfl) ⟨Nat.le_of_ble_eq_true rfl, Nat.le_of_ble_eq_true rfl⟩ rfl ?_
      refine z_iadd dX8_count_146 ?_
      refine z_istore_n (lv' := [(0, .ref 74), (2, .int (x2 + v19)), (3, .int x3)]) [1, 0, 2] dX8_count_147 (Nat.le_of_ble_eq_true rfl) rfl ?_
      refine z_iinc (lv' := [(0, .ref 74), (2, .int (x2 + v19)), (3, .int (x3 + 1))]) (v := x3 + 1) 2 [1, 2, 0] dX8_count_148 rfl rfl (Nat.le_of_ble_eq_true rfl) rfl ?_
      refine z_goto (tgt := 123) dX8_count_151 (by decide) ?_
      refine z_sub (lv' := [(0, .ref 74), (2, .int (x2 + v19)), (3, .int (x3 + 1))]) [0, 1, 2] rfl ?_
      exact ih _ _ _ _ _ h hk154
set_option maxHeartbeats 2000000 in
set_option maxRecDepth 20000 in
theorem t_X8_count (l : Launch) {S : St}  {a1 : Int32} {r : Int32} (h : f_X8_count a1 S = some r) : CT l yX8_count M_X8_count [.ref 74, .int a1] S (some (.int r)) S := by
  rw [f_X8_count] at h
  refine ct_of (lv := [(0, .ref 74), (1, .int a1)]) (by decide) rfl (Nat.le_of_ble_eq_true rfl) ?_
  refine z_iload_n 1 dX8_count_0 rfl ?_
  refine z_bipush (v := 11) dX8_count_1 rfl ?_
  refine z_bipush (v := 16) dX8_count_3 rfl ?_
  obtain ⟨v1, hv1, h⟩ := ob h
  refine z_callS (as := [.int a1, .int 11, .int 16]) dX8_count_5 ml_8_47 ms_X8_isIn (t_X8_isIn l _ hv1) rfl rfl (Nat.le_of_ble_eq_true rfl) ⟨Nat.le_of_ble_eq_true rfl, Nat.le_of_ble_eq_true rfl⟩ rfl ?_
  refine z_if_eq (tgt := 21) dX8_count_8 (by decide) (fun c2 => ?_) (fun c2 => ?_)
  · replace h := ip c2 h
    refine z_iconst (v := 0) dX8_count_21 rfl ?_
    refine z_istore_n (lv' := [(0, .ref 74), (1, .int a1), (2, .int 0)]) [1, 2, 0] dX8_count_22 (Nat.le_of_ble_eq_true rfl) rfl ?_
    refine z_iload_n 1 dX8_count_23 rfl ?_
    by_cases c3 : a1 = 0
    · replace h := ip c3 h
      refine z_tableIn (off := 48) (tgt := 72) dX8_count_24 (by rw [c3]; decide) (by rw [c3]; decide) (by rw [c3]; rfl) (by decide) ?_
      refine z_aload_n 0 dX8_count_72 rfl ?_
      refine z_get (v := .ref 75) dX8_count_73 fl_8_9 kdl_74 rfl ?_
      refine z_iload_n 1 dX8_count_76 rfl ?_
      obtain ⟨c4, h⟩ := oi h
      refine z_iald dX8_count_77 kdl_75 (by decide) c4 ?_
      obtain rfl := Option.some.inj h
      exact z_iret dX8_count_78 rfl rfl
    replace h := ig c3 h
    by_cases c5 : a1 = 1
    · replace h := ip c5 h
      refine z_tableIn (off := 48) (tgt := 72) dX8_count_24 (by rw [c5]; decide) (by rw [c5]; decide) (by rw [c5]; rfl) (by decide) ?_
      refine z_aload_n 0 dX8_count_72 rfl ?_
      refine z_get (v := .ref 75) dX8_count_73 fl_8_9 kdl_74 rfl ?_
      refine z_iload_n 1 dX8_count_76 rfl ?_
      obtain ⟨c6, h⟩ := oi h
      refine z_iald dX8_count_77 kdl_75 (by decide) c6 ?_
      obtain rfl := Option.some.inj h
      exact z_iret dX8_count_78 rfl rfl
    replace h := ig c5 h
    by_cases c7 : a1 = 2
    · replace h := ip c7 h
      refine z_tableIn (off := 48) (tgt := 72) dX8_count_24 (by rw [c7]; decide) (by rw [c7]; decide) (by rw [c7]; rfl) (by decide) ?_
      refine z_aload_n 0 dX8_count_72 rfl ?_
      refine z_get (v := .ref 75) dX8_count_73 fl_8_9 kdl_74 rfl ?_
      refine z_iload_n 1 dX8_count_76 rfl ?_
      obtain ⟨c8, h⟩ := oi h
      refine z_iald dX8_count_77 kdl_75 (by decide) c8 ?_
      obtain rfl := Option.some.inj h
      exact z_iret dX8_count_78 rfl rfl
    replace h := ig c7 h
    by_cases c9 : a1 = 3
    · replace h := ip c9 h
      refine z_tableIn (off := 48) (tgt := 72) dX8_count_24 (by rw [c9]; decide) (by rw [c9]; decide) (by rw [c9]; rfl) (by decide) ?_
      refine z_aload_n 0 dX8_count_72 rfl ?_
      refine z_get (v := .ref 75) dX8_count_73 fl_8_9 kdl_74 rfl ?_
      refine z_iload_n 1 dX8_count_76 rfl ?_
      obtain ⟨c10, h⟩ := oi h
      refine z_iald dX8_count_77 kdl_75 (by decide) c10 ?_
      obtain rfl := Option.some.inj h
      exact z_iret dX8_count_78 rfl rfl
    replace h := ig c9 h
    by_cases c11 : a1 = 4
    · replace h := ip c11 h
      refine z_tableIn (off := 55) (tgt := 79) dX8_count_24 (by rw [c11]; decide) (by rw [c11]; decide) (by rw [c11]; rfl) (by decide) ?_
      refine z_iconst (v := 0) dX8_count_79 rfl ?_
      refine z_istore_n (lv' := [(0, .ref 74), (1, .int a1), (2, .int 0), (3, .int 0)]) [1, 2, 3, 0] dX8_count_80 (Nat.le_of_ble_eq_true rfl) rfl ?_
      refine z_sub (lv' := [(0, .ref 74), (2, .int 0), (3, .int 0)]) [0, 2, 3] rfl ?_
      refine t_X8_count_L81 l _ _ _ _ _ _ h ?_
      · intro y15 h
        refine z_iload_n 0 dX8_count_119 rfl ?_
        obtain rfl := Option.some.inj h
        exact z_iret dX8_count_120 rfl rfl
    replace h := ig c11 h
    by_cases c16 : a1 = 5
    · replace h := ip c16 h
      refine z_tableIn (off := 97) (tgt := 121) dX8_count_24 (by rw [c16]; decide) (by rw [c16]; decide) (by rw [c16]; rfl) (by decide) ?_
      refine z_iconst (v := 0) dX8_count_121 rfl ?_
      refine z_istore_n (lv' := [(0, .ref 74), (1, .int a1), (2, .int 0), (3, .int 0)]) [1, 2, 3, 0] dX8_count_122 (Nat.le_of_ble_eq_true rfl) rfl ?_
      refine z_sub (lv' := [(0, .ref 74), (2, .int 0), (3, .int 0)]) [0, 2, 3] rfl ?_
      refine t_X8_count_L123 l _ _ _ _ _ _ h ?_
      · intro y20 h
        refine z_iload_n 0 dX8_count_154 rfl ?_
        refine z_iconst (v := 2) dX8_count_155 rfl ?_
        refine z_idiv dX8_count_156 (by decide) ?_
        obtain rfl := Option.some.inj h
        exact z_iret dX8_count_157 rfl rfl
    replace h := ig c16 h
    by_cases c21 : a1 = 6
    · replace h := ip c21 h
      refine z_tableIn (off := 134) (tgt := 158) dX8_count_24 (by rw [c21]; decide) (by rw [c21]; decide) (by rw [c21]; rfl) (by decide) ?_
      refine z_aload_n 0 dX8_count_158 rfl ?_
      refine z_get (v := .int (S.1 74 9)) dX8_count_159 fl_8_193 kdl_74 rfl ?_
      obtain rfl := Option.some.inj h
      exact z_iret dX8_count_162 rfl rfl
    replace h := ig c21 h
    by_cases c22 : a1 = 7
    · replace h := ip c22 h
      refine z_tableIn (off := 139) (tgt := 163) dX8_count_24 (by rw [c22]; decide) (by rw [c22]; decide) (by rw [c22]; rfl) (by decide) ?_
      refine z_aload_n 0 dX8_count_163 rfl ?_
      refine z_get (v := .int (S.1 74 8)) dX8_count_164 fl_8_76 kdl_74 rfl ?_
      obtain rfl := Option.some.inj h
      exact z_iret dX8_count_167 rfl rfl
    replace h := ig c22 h
    refine z_tableG (tgt := 168) (n := 8) [0, 1, 2, 3, 4, 5, 6, 7] dX8_count_24 (by decide) (by decide) (zrc (lv_neT c3 (by decide)) (zrc (lv_neT c5 (by decide)) (zrc (lv_neT c7 (by decide)) (zrc (lv_neT c9 (by decide)) (zrc (lv_neT c11 (by decide)) (zrc (lv_neT c16 (by decide)) (zrc (lv_neT c21 (by decide)) (zrc (lv_neT c22 (by decide)) zrn)))))))) (by decide) ?_
    refine z_bipush (v := (-9)) dX8_count_168 rfl ?_
    obtain rfl := Option.some.inj h
    exact z_iret dX8_count_170 rfl rfl
  · replace h := ig c2 h
    refine z_aload_n 0 dX8_count_11 rfl ?_
    refine z_get (v := .ref 81) dX8_count_12 fl_8_28 kdl_74 rfl ?_
    refine z_iload_n 1 dX8_count_15 rfl ?_
    refine z_bipush (v := 10) dX8_count_16 rfl ?_
    refine z_isub dX8_count_18 ?_
    obtain ⟨c23, h⟩ := oi h
    refine z_iald dX8_count_19 kdl_81 (by decide) c23 ?_
    obtain rfl := Option.some.inj h
    exact z_iret dX8_count_20 rfl rfl
