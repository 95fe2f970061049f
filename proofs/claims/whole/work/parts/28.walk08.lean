set_option maxHeartbeats 2000000 in
set_option maxRecDepth 20000 in
theorem t_X8_queue_L26 (l : Launch)   : ∀ (n : Nat) (x1 : Int32) (x3 : Int32) (S : St) (k41 : St → Option (Int32 × St)) (r : (Int32 × St)), f_X8_queue_L26 n x1 x3 S k41 = some r → (∀ (T : St), k41 T = some r → Z l yX8_queue M_X8_queue 41 [(0, .ref 74), (1, .int x1), (2, .ref 83)] [] T (some (.int r.1)) r.2) → Z l yX8_queue M_X8_queue 26 [(0, .ref 74), (1, .int x1), (2, .ref 83), (3, .int x3)] [] S (some (.int r.1)) r.2 := by
  intro n
  induction n with
  | zero =>
    intro x1 x3 S k41 r h hk41
    exact absurd h (by rw [f_X8_queue_L26]; exact fun q => by cases q)
  | succ n ih =>
    intro x1 x3 S k41 r h hk41
    rw [f_X8_queue_L26] at h
    refine z_iload_n 3 dX8_queue_26 rfl ?_
    refine z_iconst (v := 4) dX8_queue_27 rfl ?_
    refine z_icmp_ge (tgt := 41) dX8_queue_28 (by decide) (fun c2 => ?_) (fun c2 => ?_)
    · replace h := ip c2 h
      refine z_sub (lv' := [(0, .ref 74), (1, .int x1), (2, .ref 83)]) [0, 1, 2] rfl ?_
      exact hk41 _ h
    · replace h := ig c2 h
      refine z_aload_n 2 dX8_queue_31 rfl ?_
      refine z_iload_n 3 dX8_queue_32 rfl ?_
      refine z_iconst (v := 0) dX8_queue_33 rfl ?_
      obtain ⟨c3, h⟩ := oi h
      refine z_iast dX8_queue_34 kdl_83 (by decide) c3 ?_
      refine z_iinc (lv' := [(0, .ref 74), (1, .int x1), (2, .ref 83), (3, .int (x3 + 1))]) (v := x3 + 1) 3 [1, 2, 3, 0] dX8_queue_35 rfl rfl (Nat.le_of_ble_eq_true rfl) rfl ?_
      refine z_goto (tgt := 26) dX8_queue_38 (by decide) ?_
      refine z_sub (lv' := [(0, .ref 74), (1, .int x1), (2, .ref 83), (3, .int (x3 + 1))]) [0, 1, 2, 3] rfl ?_
      exact ih _ _ _ _ _ h hk41
set_option maxHeartbeats 2000000 in
set_option maxRecDepth 20000 in
theorem t_X8_queue_L110 (l : Launch)   : ∀ (n : Nat) (x1 : Int32) (x3 : Int32) (x4 : Int32) (x5 : Int32) (x6 : Int32) (x7 : Int32) (x8 : Int32) (S : St) (k142 : Int32 → Option (Int32 × St)) (r : (Int32 × St)), f_X8_queue_L110 n x1 x3 x4 x5 x6 x7 x8 S k142 = some r → (∀ (e7 : Int32), k142 e7 = some r → Z l yX8_queue M_X8_queue 142 [(0, .ref 74), (1, .int x1), (2, .ref 83), (3, .int x3), (4, .int x4), (5, .int x5), (6, .int x6), (7, .int e7)] [] S (some (.int r.1)) r.2) → Z l yX8_queue M_X8_queue 110 [(0, .ref 74), (1, .int x1), (2, .ref 83), (3, .int x3), (4, .int x4), (5, .int x5), (6, .int x6), (7, .int x7), (8, .int x8)] [] S (some (.int r.1)) r.2 := by
  intro n
  induction n with
  | zero =>
    intro x1 x3 x4 x5 x6 x7 x8 S k142 r h hk142
    exact absurd h (by rw [f_X8_queue_L110]; exact fun q => by cases q)
  | succ n ih =>
    intro x1 x3 x4 x5 x6 x7 x8 S k142 r h hk142
    rw [f_X8_queue_L110] at h
    refine z_iload 8 dX8_queue_110 rfl ?_
    refine z_aload_n 0 dX8_queue_112 rfl ?_
    refine z_get (v := .ref 75) dX8_queue_113 fl_8_9 kdl_74 rfl ?_
    refine z_iconst (v := 3) dX8_queue_116 rfl ?_
    refine z_ialdK (j := 3) dX8_queue_117 kdl_75 (by decide) (by decide) (by decide) ?_
    refine z_icmp_ge (tgt := 142) dX8_queue_118 (by decide) (fun c11 => ?_) (fun c11 => ?_)
    · replace h := ip c11 h
      refine z_sub (lv' := [(0, .ref 74), (1, .int x1), (2, .ref 83), (3, .int x3), (4, .int x4), (5, .int x5), (6, .int x6), (7, .int x7)]) [0, 1, 2, 3, 4, 5, 6, 7] rfl ?_
      exact hk142 _ h
    · replace h := ig c11 h
      refine z_aload_n 2 dX8_queue_121 rfl ?_
      refine z_iload 8 dX8_queue_122 rfl ?_
      obtain ⟨c12, h⟩ := oi h
      refine z_iald dX8_queue_124 kdl_83 (by decide) c12 ?_
      refine z_aload_n 2 dX8_queue_125 rfl ?_
      refine z_iload 7 dX8_queue_126 rfl ?_
      obtain ⟨c13, h⟩ := oi h
      refine z_iald dX8_queue_128 kdl_83 (by decide) c13 ?_
      refine z_icmp_ge (tgt := 136) dX8_queue_129 (by decide) (fun c14 => ?_) (fun c14 => ?_)
      · replace h := ip c14 h
        refine z_iinc (lv' := [(0, .ref 74), (1, .int x1), (2, .ref 83), (3, .int x3), (4, .int x4), (5, .int x5), (6, .int x6), (7, .int x7), (8, .int (x8 + 1))]) (v := x8 + 1) 8 [1, 2, 3, 4, 5, 6, 7, 8, 0] dX8_queue_136 rfl rfl (Nat.le_of_ble_eq_true rfl) rfl ?_
        refine z_goto (tgt := 110) dX8_queue_139 (by decide) ?_
        refine z_sub (lv' := [(0, .ref 74), (1, .int x1), (2, .ref 83), (3, .int x3), (4, .int x4), (5, .int x5), (6, .int x6), (7, .int x7), (8, .int (x8 + 1))]) [0, 1, 2, 3, 4, 5, 6, 7, 8] rfl ?_
        exact ih _ _ _ _ _ _ _ _ _ _ h hk142
      · replace h := ig c14 h
        refine z_iload 8 dX8_queue_132 rfl ?_
        refine z_istore (lv' := [(0, .ref 74), (1, .int x1), (2, .ref 83), (3, .int x3), (4, .int x4), (5, .int x5), (6, .int x6), (7, .int x8), (8, .int x8)]) [1, 2, 3, 4, 5, 6, 7, 0, 8] dX8_queue_134 (Nat.le_of_ble_eq_true rfl) rfl ?_
        refine z_iinc (lv' := [(0, .ref 74), (1, .int x1), (2, .ref 83), (3, .int x3), (4, .int x4), (5, .int x5), (6, .int x6), (7, .int x8), (8, .int (x8 + 1))]) (v := x8 + 1) 8 [1, 2, 3, 4, 5, 6, 7, 8, 0] dX8_queue_136 rfl rfl (Nat.le_of_ble_eq_true rfl) rfl ?_
        refine z_goto (tgt := 110) dX8_queue_139 (by decide) ?_
        refine z_sub (lv' := [(0, .ref 74), (1, .int x1), (2, .ref 83), (3, .int x3), (4, .int x4), (5, .int x5), (6, .int x6), (7, .int x8), (8, .int (x8 + 1))]) [0, 1, 2, 3, 4, 5, 6, 7, 8] rfl ?_
        exact ih _ _ _ _ _ _ _ _ _ _ h hk142
set_option maxHeartbeats 2000000 in
set_option maxRecDepth 20000 in
theorem t_X8_queue_L50 (l : Launch)   : ∀ (n : Nat) (x1 : Int32) (x3 : Int32) (x4 : Int32) (x5 : Int32) (S : St) (k178 : Int32 → Int32 → St → Option (Int32 × St)) (r : (Int32 × St)), f_X8_queue_L50 n x1 x3 x4 x5 S k178 = some r → (∀ (e3 : Int32) (e4 : Int32) (T : St), k178 e3 e4 T = some r → Z l yX8_queue M_X8_queue 178 [(1, .int x1), (3, .int e3), (4, .int e4)] [] T (some (.int r.1)) r.2) → Z l yX8_queue M_X8_queue 50 [(0, .ref 74), (1, .int x1), (2, .ref 83), (3, .int x3), (4, .int x4), (5, .int x5)] [] S (some (.int r.1)) r.2 := by
  intro n
  induction n with
  | zero =>
    intro x1 x3 x4 x5 S k178 r h hk178
    exact absurd h (by rw [f_X8_queue_L50]; exact fun q => by cases q)
  | succ n ih =>
    intro x1 x3 x4 x5 S k178 r h hk178
    rw [f_X8_queue_L50] at h
    refine z_iload 5 dX8_queue_50 rfl ?_
    refine z_aload_n 0 dX8_queue_52 rfl ?_
    refine z_get (v := .ref 75) dX8_queue_53 fl_8_9 kdl_74 rfl ?_
    refine z_iconst (v := 0) dX8_queue_56 rfl ?_
    refine z_ialdK (j := 0) dX8_queue_57 kdl_75 (by decide) (by decide) (by decide) ?_
    refine z_icmp_ge (tgt := 178) dX8_queue_58 (by decide) (fun c5 => ?_) (fun c5 => ?_)
    · replace h := ip c5 h
      refine z_sub (lv' := [(1, .int x1), (3, .int x3), (4, .int x4)]) [1, 3, 4] rfl ?_
      exact hk178 _ _ _ h
    · replace h := ig c5 h
      refine z_aload_n 0 dX8_queue_61 rfl ?_
      refine z_get (v := .ref 75) dX8_queue_62 fl_8_9 kdl_74 rfl ?_
      refine z_bipush (v := 20) dX8_queue_65 rfl ?_
      refine z_iload 5 dX8_queue_67 rfl ?_
      refine z_iadd dX8_queue_69 ?_
      obtain ⟨c6, h⟩ := oi h
      refine z_iald dX8_queue_70 kdl_75 (by decide) c6 ?_
      refine z_if_lt (tgt := 79) dX8_queue_71 (by decide) (fun c7 => ?_) (fun c7 => ?_)
      · replace h := ip c7 h
        refine z_aload_n 0 dX8_queue_79 rfl ?_
        refine z_get (v := .ref 75) dX8_queue_80 fl_8_9 kdl_74 rfl ?_
        refine z_iload 5 dX8_queue_83 rfl ?_
        refine z_aload_n 0 dX8_queue_85 rfl ?_
        refine z_iload 5 dX8_queue_86 rfl ?_
        obtain ⟨v8, hv8, h⟩ := ob h
        refine z_callV (as := [.int x5]) dX8_queue_88 ml_8_158 mv_X8_gladdest (t_X8_gladdest l hv8) kdl_74 ⟨by decide, rfl⟩ rfl rfl (Nat.le_of_ble_eq_true rfl) ⟨Nat.le_of_ble_eq_true rfl, Nat.le_of_ble_eq_true rfl⟩ rfl ?_
        obtain ⟨v9, hv9, h⟩ := ob h
        refine z_callS (as := [.ref 75, .int x5, .int v8]) dX8_queue_91 ml_8_138 ms_X8_fewestOf (t_X8_fewestOf l kdl_75 hv9) rfl rfl (Nat.le_of_ble_eq_true rfl) ⟨Nat.le_of_ble_eq_true rfl, Nat.le_of_ble_eq_true rfl⟩ rfl ?_
        refine z_istore (lv' := [(0, .ref 74), (1, .int x1), (2, .ref 83), (3, .int x3), (4, .int x4), (5, .int x5), (6, .int v9)]) [1, 2, 3, 4, 5, 6, 0] dX8_queue_94 (Nat.le_of_ble_eq_true rfl) rfl ?_
        refine z_iload 6 dX8_queue_96 rfl ?_
        refine z_if_ge (tgt := 104) dX8_queue_98 (by decide) (fun c10 => ?_) (fun c10 => ?_)
        · replace h := ip c10 h
          refine z_iconst (v := 0) dX8_queue_104 rfl ?_
          refine z_istore (lv' := [(0, .ref 74), (1, .int x1), (2, .ref 83), (3, .int x3), (4, .int x4), (5, .int x5), (6, .int v9), (7, .int 0)]) [1, 2, 3, 4, 5, 6, 7, 0] dX8_queue_105 (Nat.le_of_ble_eq_true rfl) rfl ?_
          refine z_iconst (v := 1) dX8_queue_107 rfl ?_
          refine z_istore (lv' := [(0, .ref 74), (1, .int x1), (2, .ref 83), (3, .int x3), (4, .int x4), (5, .int x5), (6, .int v9), (7, .int 0), (8, .int 1)]) [1, 2, 3, 4, 5, 6, 7, 8, 0] dX8_queue_108 (Nat.le_of_ble_eq_true rfl) rfl ?_
          refine z_sub (lv' := [(0, .ref 74), (1, .int x1), (2, .ref 83), (3, .int x3), (4, .int x4), (5, .int x5), (6, .int v9), (7, .int 0), (8, .int 1)]) [0, 1, 2, 3, 4, 5, 6, 7, 8] rfl ?_
          refine t_X8_queue_L110 l _ _ _ _ _ _ _ _ _ _ _ h ?_
          · intro y15 h
            refine z_iload 5 dX8_queue_142 rfl ?_
            refine z_iload_n 1 dX8_queue_144 rfl ?_
            refine z_icmp_ne (tgt := 154) dX8_queue_145 (by decide) (fun c16 => ?_) (fun c16 => ?_)
            · replace h := ig c16 h
              refine z_aload_n 2 dX8_queue_154 rfl ?_
              refine z_iload 7 dX8_queue_155 rfl ?_
              refine z_dup2 dX8_queue_157 rfl rfl ?_
              obtain ⟨c17, h⟩ := oi h
              refine z_iald dX8_queue_158 kdl_83 (by decide) c17 ?_
              refine z_iload 6 dX8_queue_159 rfl ?_
              refine z_iadd dX8_queue_161 ?_
              obtain ⟨c18, h⟩ := oi h
              refine z_iast dX8_queue_162 kdl_83 (by decide) c18 ?_
              refine z_iload_n 3 dX8_queue_163 rfl ?_
              refine z_aload_n 2 dX8_queue_164 rfl ?_
              refine z_iload 7 dX8_queue_165 rfl ?_
              obtain ⟨c19, h⟩ := oi h
              refine z_iald dX8_queue_167 kdl_83 (by decide) c19 ?_
              obtain ⟨v20, hv20, h⟩ := ob h
              refine z_callS (as := [.int x3, .int ((up S 83 y15.toNatClampNeg ((S.1 83 y15.toNatClampNeg) + v9)).1 83 y15.toNatClampNeg)]) dX8_queue_168 ml_8_51 ms_X8_most (t_X8_most l _ hv20) rfl rfl (Nat.le_of_ble_eq_true rfl) ⟨Nat.le_of_ble_eq_true rfl, Nat.le_of_ble_eq_true rfl⟩ rfl ?_
              refine z_istore_n (lv' := [(0, .ref 74), (1, .int x1), (2, .ref 83), (3, .int v20), (4, .int x4), (5, .int x5), (6, .int v9), (7, .int y15)]) [1, 2, 3, 0, 4, 5, 6, 7] dX8_queue_171 (Nat.le_of_ble_eq_true rfl) rfl ?_
              refine z_iinc (lv' := [(0, .ref 74), (1, .int x1), (2, .ref 83), (3, .int v20), (4, .int x4), (5, .int (x5 + 1)), (6, .int v9), (7, .int y15)]) (v := x5 + 1) 5 [1, 2, 3, 4, 5, 0, 6, 7] dX8_queue_172 rfl rfl (Nat.le_of_ble_eq_true rfl) rfl ?_
              refine z_goto (tgt := 50) dX8_queue_175 (by decide) ?_
              refine z_sub (lv' := [(0, .ref 74), (1, .int x1), (2, .ref 83), (3, .int v20), (4, .int x4), (5, .int (x5 + 1))]) [0, 1, 2, 3, 4, 5] rfl ?_
              exact ih _ _ _ _ _ _ _ h hk178
            · replace h := ip c16 h
              refine z_aload_n 2 dX8_queue_148 rfl ?_
              refine z_iload 7 dX8_queue_149 rfl ?_
              obtain ⟨c21, h⟩ := oi h
              refine z_iald dX8_queue_151 kdl_83 (by decide) c21 ?_
              refine z_istore (lv' := [(0, .ref 74), (1, .int x1), (2, .ref 83), (3, .int x3), (4, .int (S.1 83 y15.toNatClampNeg)), (5, .int x5), (6, .int v9), (7, .int y15)]) [1, 2, 3, 4, 0, 5, 6, 7] dX8_queue_152 (Nat.le_of_ble_eq_true rfl) rfl ?_
              refine z_aload_n 2 dX8_queue_154 rfl ?_
              refine z_iload 7 dX8_queue_155 rfl ?_
              refine z_dup2 dX8_queue_157 rfl rfl ?_
              obtain ⟨c22, h⟩ := oi h
              refine z_iald dX8_queue_158 kdl_83 (by decide) c22 ?_
              refine z_iload 6 dX8_queue_159 rfl ?_
              refine z_iadd dX8_queue_161 ?_
              obtain ⟨c23, h⟩ := oi h
              refine z_iast dX8_queue_162 kdl_83 (by decide) c23 ?_
              refine z_iload_n 3 dX8_queue_163 rfl ?_
              refine z_aload_n 2 dX8_queue_164 rfl ?_
              refine z_iload 7 dX8_queue_165 rfl ?_
              obtain ⟨c24, h⟩ := oi h
              refine z_iald dX8_queue_167 kdl_83 (by decide) c24 ?_
              obtain ⟨v25, hv25, h⟩ := ob h
              refine z_callS (as := [.int x3, .int ((up S 83 y15.toNatClampNeg ((S.1 83 y15.toNatClampNeg) + v9)).1 83 y15.toNatClampNeg)]) dX8_queue_168 ml_8_51 ms_X8_most (t_X8_most l _ hv25) rfl rfl (Nat.le_of_ble_eq_true rfl) ⟨Nat.le_of_ble_eq_true rfl, Nat.le_of_ble_eq_true rfl⟩ rfl ?_
              refine z_istore_n (lv' := [(0, .ref 74), (1, .int x1), (2, .ref 83), (3, .int v25), (4, .int (S.1 83 y15.toNatClampNeg)), (5, .int x5), (6, .int v9), (7, .int y15)]) [1, 2, 3, 0, 4, 5, 6, 7] dX8_queue_171 (Nat.le_of_ble_eq_true rfl) rfl ?_
              refine z_iinc (lv' := [(0, .ref 74), (1, .int x1), (2, .ref 83), (3, .int v25), (4, .int (S.1 83 y15.toNatClampNeg)), (5, .int (x5 + 1)), (6, .int v9), (7, .int y15)]) (v := x5 + 1) 5 [1, 2, 3, 4, 5, 0, 6, 7] dX8_queue_172 rfl rfl (Nat.le_of_ble_eq_true rfl) rfl ?_
              refine z_goto (tgt := 50) dX8_queue_175 (by decide) ?_
              refine z_sub (lv' := [(0, .ref 74), (1, .int x1), (2, .ref 83), (3, .int v25), (4, .int (S.1 83 y15.toNatClampNeg)), (5, .int (x5 + 1))]) [0, 1, 2, 3, 4, 5] rfl ?_
              exact ih _ _ _ _ _ _ _ h hk178
        · replace h := ig c10 h
          refine z_goto (tgt := 172) dX8_queue_101 (by decide) ?_
          refine z_iinc (lv' := [(0, .ref 74), (1, .int x1), (2, .ref 83), (3, .int x3), (4, .int x4), (5, .int (x5 + 1)), (6, .int v9)]) (v := x5 + 1) 5 [1, 2, 3, 4, 5, 0, 6] dX8_queue_172 rfl rfl (Nat.le_of_ble_eq_true rfl) rfl ?_
          refine z_goto (tgt := 50) dX8_queue_175 (by decide) ?_
          refine z_sub (lv' := [(0, .ref 74), (1, .int x1), (2, .ref 83), (3, .int x3), (4, .int x4), (5, .int (x5 + 1))]) [0, 1, 2, 3, 4, 5] rfl ?_
          exact ih _ _ _ _ _ _ _ h hk178
      · replace h := ig c7 h
        refine z_bipush (v := (-9)) dX8_queue_74 rfl ?_
        refine z_goto (tgt := 94) dX8_queue_76 (by decide) ?_
        refine z_istore (lv' := [(0, .ref 74), (1, .int x1), (2, .ref 83), (3, .int x3), (4, .int x4), (5, .int x5), (6, .int (-9))]) [1, 2, 3, 4, 5, 6, 0] dX8_queue_94 (Nat.le_of_ble_eq_true rfl) rfl ?_
        refine z_iload 6 dX8_queue_96 rfl ?_
        refine z_if_ge (tgt := 104) dX8_queue_98 (by decide) (fun c26 => ?_) (fun c26 => ?_)
        · first | exact absurd c26 (by decide) | exact absurd rfl c26
        · refine z_goto (tgt := 172) dX8_queue_101 (by decide) ?_
          refine z_iinc (lv' := [(0, .ref 74), (1, .int x1), (2, .ref 83), (3, .int x3), (4, .int x4), (5, .int (x5 + 1)), (6, .int (-9))]) (v := x5 + 1) 5 [1, 2, 3, 4, 5, 0, 6] dX8_queue_172 rfl rfl (Nat.le_of_ble_eq_true rfl) rfl ?_
          refine z_goto (tgt := 50) dX8_queue_175 (by decide) ?_
          refine z_sub (lv' := [(0, .ref 74), (1, .int x1), (2, .ref 83), (3, .int x3), (4, .int x4), (5, .int (x5 + 1))]) [0, 1, 2, 3, 4, 5] rfl ?_
          exact ih _ _ _ _ _ _ _ h hk178
set_option maxHeartbeats 2000000 in
set_option maxRecDepth 20000 in
theorem t_X8_queue (l : Launch) {S : St}  {a1 : Int32} {r : (Int32 × St)} (h : f_X8_queue a1 S = some r) : CT l yX8_queue M_X8_queue [.ref 74, .int a1] S (some (.int r.1)) r.2 := by
  rw [f_X8_queue] at h
  refine ct_of (lv := [(0, .ref 74), (1, .int a1)]) (by decide) rfl (Nat.le_of_ble_eq_true rfl) ?_
  refine z_iload_n 1 dX8_queue_0 rfl ?_
  refine z_iconst (v := (-1)) dX8_queue_1 rfl ?_
  refine z_icmp_eq (tgt := 19) dX8_queue_2 (by decide) (fun c1 => ?_) (fun c1 => ?_)
  · replace h := ip c1 h
    refine z_aload_n 0 dX8_queue_19 rfl ?_
    refine z_get (v := .ref 83) dX8_queue_20 fl_8_34 kdl_74 rfl ?_
    refine z_astore_n (lv' := [(0, .ref 74), (1, .int a1), (2, .ref 83)]) [1, 2, 0] dX8_queue_23 (Nat.le_of_ble_eq_true rfl) rfl ?_
    refine z_iconst (v := 0) dX8_queue_24 rfl ?_
    refine z_istore_n (lv' := [(0, .ref 74), (1, .int a1), (2, .ref 83), (3, .int 0)]) [1, 2, 3, 0] dX8_queue_25 (Nat.le_of_ble_eq_true rfl) rfl ?_
    refine z_sub (lv' := [(0, .ref 74), (1, .int a1), (2, .ref 83), (3, .int 0)]) [0, 1, 2, 3] rfl ?_
    refine t_X8_queue_L26 l _ _ _ _ _ _ h ?_
    · intro S4 h
      refine z_iconst (v := 0) dX8_queue_41 rfl ?_
      refine z_istore_n (lv' := [(0, .ref 74), (1, .int a1), (2, .ref 83), (3, .int 0)]) [1, 2, 3, 0] dX8_queue_42 (Nat.le_of_ble_eq_true rfl) rfl ?_
      refine z_bipush (v := (-9)) dX8_queue_43 rfl ?_
      refine z_istore (lv' := [(0, .ref 74), (1, .int a1), (2, .ref 83), (3, .int 0), (4, .int (-9))]) [1, 2, 3, 4, 0] dX8_queue_45 (Nat.le_of_ble_eq_true rfl) rfl ?_
      refine z_iconst (v := 0) dX8_queue_47 rfl ?_
      refine z_istore (lv' := [(0, .ref 74), (1, .int a1), (2, .ref 83), (3, .int 0), (4, .int (-9)), (5, .int 0)]) [1, 2, 3, 4, 5, 0] dX8_queue_48 (Nat.le_of_ble_eq_true rfl) rfl ?_
      refine z_sub (lv' := [(0, .ref 74), (1, .int a1), (2, .ref 83), (3, .int 0), (4, .int (-9)), (5, .int 0)]) [0, 1, 2, 3, 4, 5] rfl ?_
      refine t_X8_queue_L50 l _ _ _ _ _ _ _ _ h ?_
      · intro y27 y28 S29 h
        refine z_iload_n 0 dX8_queue_178 rfl ?_
        refine z_if_ge (tgt := 186) dX8_queue_179 (by decide) (fun c30 => ?_) (fun c30 => ?_)
        · replace h := ip c30 h
          refine z_iload 2 dX8_queue_186 rfl ?_
          obtain rfl := Option.some.inj h
          exact z_iret dX8_queue_188 rfl rfl
        · replace h := ig c30 h
          refine z_iload_n 1 dX8_queue_182 rfl ?_
          refine z_goto (tgt := 188) dX8_queue_183 (by decide) ?_
          obtain rfl := Option.some.inj h
          exact z_iret dX8_queue_188 rfl rfl
  · replace h := ig c1 h
    refine z_aload_n 0 dX8_queue_5 rfl ?_
    refine z_iload_n 1 dX8_queue_6 rfl ?_
    obtain ⟨v31, hv31, h⟩ := ob h
    refine z_callV (as := [.int a1]) dX8_queue_7 ml_8_101 mv_X8_isThing (t_X8_isThing l hv31) kdl_74 ⟨by decide, rfl⟩ rfl rfl (Nat.le_of_ble_eq_true rfl) ⟨Nat.le_of_ble_eq_true rfl, Nat.le_of_ble_eq_true rfl⟩ rfl ?_
    refine z_if_ne (tgt := 19) dX8_queue_10 (by decide) (fun c32 => ?_) (fun c32 => ?_)
    · replace h := ig c32 h
      refine z_aload_n 0 dX8_queue_19 rfl ?_
      refine z_get (v := .ref 83) dX8_queue_20 fl_8_34 kdl_74 rfl ?_
      refine z_astore_n (lv' := [(0, .ref 74), (1, .int a1), (2, .ref 83)]) [1, 2, 0] dX8_queue_23 (Nat.le_of_ble_eq_true rfl) rfl ?_
      refine z_iconst (v := 0) dX8_queue_24 rfl ?_
      refine z_istore_n (lv' := [(0, .ref 74), (1, .int a1), (2, .ref 83), (3, .int 0)]) [1, 2, 3, 0] dX8_queue_25 (Nat.le_of_ble_eq_true rfl) rfl ?_
      refine z_sub (lv' := [(0, .ref 74), (1, .int a1), (2, .ref 83), (3, .int 0)]) [0, 1, 2, 3] rfl ?_
      refine t_X8_queue_L26 l _ _ _ _ _ _ h ?_
      · intro S33 h
        refine z_iconst (v := 0) dX8_queue_41 rfl ?_
        refine z_istore_n (lv' := [(0, .ref 74), (1, .int a1), (2, .ref 83), (3, .int 0)]) [1, 2, 3, 0] dX8_queue_42 (Nat.le_of_ble_eq_true rfl) rfl ?_
        refine z_bipush (v := (-9)) dX8_queue_43 rfl ?_
        refine z_istore (lv' := [(0, .ref 74), (1, .int a1), (2, .ref 83), (3, .int 0), (4, .int (-9))]) [1, 2, 3, 4, 0] dX8_queue_45 (Nat.le_of_ble_eq_true rfl) rfl ?_
        refine z_iconst (v := 0) dX8_queue_47 rfl ?_
        refine z_istore (lv' := [(0, .ref 74), (1, .int a1), (2, .ref 83), (3, .int 0), (4, .int (-9)), (5, .int 0)]) [1, 2, 3, 4, 5, 0] dX8_queue_48 (Nat.le_of_ble_eq_true rfl) rfl ?_
        refine z_sub (lv' := [(0, .ref 74), (1, .int a1), (2, .ref 83), (3, .int 0), (4, .int (-9)), (5, .int 0)]) [0, 1, 2, 3, 4, 5] rfl ?_
        refine t_X8_queue_L50 l _ _ _ _ _ _ _ _ h ?_
        · intro y34 y35 S36 h
          refine z_iload_n 0 dX8_queue_178 rfl ?_
          refine z_if_ge (tgt := 186) dX8_queue_179 (by decide) (fun c37 => ?_) (fun c37 => ?_)
          · replace h := ip c37 h
            refine z_iload 2 dX8_queue_186 rfl ?_
            obtain rfl := Option.some.inj h
            exact z_iret dX8_queue_188 rfl rfl
          · replace h := ig c37 h
            refine z_iload_n 1 dX8_queue_182 rfl ?_
            refine z_goto (tgt := 188) dX8_queue_183 (by decide) ?_
            obtain rfl := Option.some.inj h
            exact z_iret dX8_queue_188 rfl rfl
    · replace h := ip c32 h
      refine z_aload_n 0 dX8_queue_13 rfl ?_
      refine z_iconst (v := (-1)) dX8_queue_14 rfl ?_
      obtain ⟨z38, hz38, h⟩ := ob h
      refine z_callV (as := [.int (-1)]) dX8_queue_15 ml_8_41 mv_X8_no (t_X8_no l hz38) kdl_74 ⟨by decide, rfl⟩ rfl rfl (Nat.le_of_ble_eq_true rfl) ⟨Nat.le_of_ble_eq_true rfl, Nat.le_of_ble_eq_true rfl⟩ rfl ?_
      obtain rfl := Option.some.inj h
      exact z_iret dX8_queue_18 rfl rfl
set_option maxHeartbeats 2000000 in
set_option maxRecDepth 20000 in
theorem t_X8_oneMore (l : Launch) {S : St}   {r : (Int32 × St)} (h : f_X8_oneMore S = some r) : CT l yX8_oneMore M_X8_oneMore [.ref 74] S (some (.int r.1)) r.2 := by
  rw [f_X8_oneMore] at h
  refine ct_of (lv := [(0, .ref 74)]) (by decide) rfl (Nat.le_of_ble_eq_true rfl) ?_
  refine z_aload_n 0 dX8_oneMore_0 rfl ?_
  refine z_get (v := .ref 75) dX8_oneMore_1 fl_8_9 kdl_74 rfl ?_
  refine z_aload_n 0 dX8_oneMore_4 rfl ?_
  refine z_get (v := .ref 76) dX8_oneMore_5 fl_8_13 kdl_74 rfl ?_
  obtain ⟨S1, hS1, h⟩ := ob h
  refine z_callS (as := [.ref 75, .ref 76]) dX8_oneMore_8 ml_8_122 ms_X8_lays (t_X8_lays l kdl_75 kdl_76 hS1) rfl rfl (Nat.le_of_ble_eq_true rfl) ⟨Nat.le_of_ble_eq_true rfl, Nat.le_of_ble_eq_true rfl⟩ rfl ?_
  refine z_aload_n 0 dX8_oneMore_11 rfl ?_
  refine z_get (v := .ref 76) dX8_oneMore_12 fl_8_13 kdl_74 rfl ?_
  refine z_iconst (v := 1) dX8_oneMore_15 rfl ?_
  refine z_bipush (v := 11) dX8_oneMore_16 rfl ?_
  refine z_aload_n 0 dX8_oneMore_18 rfl ?_
  refine z_get (v := .ref 75) dX8_oneMore_19 fl_8_9 kdl_74 rfl ?_
  refine z_iconst (v := 1) dX8_oneMore_22 rfl ?_
  refine z_ialdK (j := 1) dX8_oneMore_23 kdl_75 (by decide) (by decide) (by decide) ?_
  refine z_iconst (v := 1) dX8_oneMore_24 rfl ?_
  refine z_iadd dX8_oneMore_25 ?_
  obtain ⟨v2, hv2, h⟩ := ob h
  refine z_callS (as := [.int 11, .int ((S1.1 75 1) + 1)]) dX8_oneMore_26 ml_8_161 ms_X8_least (t_X8_least l _ hv2) rfl rfl (Nat.le_of_ble_eq_true rfl) ⟨Nat.le_of_ble_eq_true rfl, Nat.le_of_ble_eq_true rfl⟩ rfl ?_
  refine z_iastK (j := 1) dX8_oneMore_29 kdl_76 (by decide) (by decide) (by decide) ?_
  refine z_aload_n 0 dX8_oneMore_30 rfl ?_
  refine z_get (v := .ref 76) dX8_oneMore_31 fl_8_13 kdl_74 rfl ?_
  obtain ⟨v3, hv3, h⟩ := ob h
  refine z_callS (as := [.ref 76]) dX8_oneMore_34 ml_8_141 ms_X8_gladAll (t_X8_gladAll l kdl_76 hv3) rfl rfl (Nat.le_of_ble_eq_true rfl) ⟨Nat.le_of_ble_eq_true rfl, Nat.le_of_ble_eq_true rfl⟩ rfl ?_
  obtain rfl := Option.some.inj h
  exact z_iret dX8_oneMore_37 rfl rfl
set_option maxHeartbeats 2000000 in
set_option maxRecDepth 20000 in
theorem t_X8_bestYear_L6 (l : Launch)   : ∀ (n : Nat) (x1 : Int32) (x2 : Int32) (x3 : Int32) (S : St) (k66 : Int32 → St → Option (Int32 × St)) (r : (Int32 × St)), f_X8_bestYear_L6 n x1 x2 x3 S k66 = some r → (∀ (e1 : Int32) (T : St), k66 e1 T = some r → Z l yX8_bestYear M_X8_bestYear 66 [(1, .int e1)] [] T (some (.int r.1)) r.2) → Z l yX8_bestYear M_X8_bestYear 6 [(0, .ref 74), (1, .int x1), (2, .int x2), (3, .int x3)] [] S (some (.int r.1)) r.2 := by
  intro n
  induction n with
  | zero =>
    intro x1 x2 x3 S k66 r h hk66
    exact absurd h (by rw [f_X8_bestYear_L6]; exact fun q => by cases q)
  | succ n ih =>
    intro x1 x2 x3 S k66 r h hk66
    rw [f_X8_bestYear_L6] at h
    refine z_iload_n 3 dX8_bestYear_6 rfl ?_
    refine z_bipush (v := 12) dX8_bestYear_7 rfl ?_
    refine z_icmp_ge (tgt := 66) dX8_bestYear_9 (by decide) (fun c1 => ?_) (fun c1 => ?_)
    · replace h := ip c1 h
      refine z_sub (lv' := [(1, .int x1)]) [1] rfl ?_
      exact hk66 _ _ h
    · replace h := ig c1 h
      refine z_aload_n 0 dX8_bestYear_12 rfl ?_
      refine z_get (v := .ref 75) dX8_bestYear_13 fl_8_9 kdl_74 rfl ?_
      refine z_aload_n 0 dX8_bestYear_16 rfl ?_
      refine z_get (v := .ref 76) dX8_bestYear_17 fl_8_13 kdl_74 rfl ?_
      obtain ⟨S2, hS2, h⟩ := ob h
      refine z_callS (as := [.ref 75, .ref 76]) dX8_bestYear_20 ml_8_122 ms_X8_lays (t_X8_lays l kdl_75 kdl_76 hS2) rfl rfl (Nat.le_of_ble_eq_true rfl) ⟨Nat.le_of_ble_eq_true rfl, Nat.le_of_ble_eq_true rfl⟩ rfl ?_
      refine z_aload_n 0 dX8_bestYear_23 rfl ?_
      refine z_get (v := .ref 76) dX8_bestYear_24 fl_8_13 kdl_74 rfl ?_
      refine z_iconst (v := 1) dX8_bestYear_27 rfl ?_
      refine z_iload_n 3 dX8_bestYear_28 rfl ?_
      refine z_iastK (j := 1) dX8_bestYear_29 kdl_76 (by decide) (by decide) (by decide) ?_
      refine z_aload_n 0 dX8_bestYear_30 rfl ?_
      refine z_aload_n 0 dX8_bestYear_31 rfl ?_
      refine z_get (v := .ref 76) dX8_bestYear_32 fl_8_13 kdl_74 rfl ?_
      refine z_aload_n 0 dX8_bestYear_35 rfl ?_
      refine z_get (v := .ref 76) dX8_bestYear_36 fl_8_13 kdl_74 rfl ?_
      refine z_iconst (v := 2) dX8_bestYear_39 rfl ?_
      refine z_ialdK (j := 2) dX8_bestYear_40 kdl_76 (by decide) (by decide) (by decide) ?_
      obtain ⟨z3, hz3, h⟩ := ob h
      refine z_callV (as := [.ref 76, .int ((up S2 76 1 x3).1 76 2)]) dX8_bestYear_41 ml_8_155 mv_X8_mostBy (t_X8_mostBy l kdl_76 hz3) kdl_74 ⟨by decide, rfl⟩ rfl rfl (Nat.le_of_ble_eq_true rfl) ⟨Nat.le_of_ble_eq_true rfl, Nat.le_of_ble_eq_true rfl⟩ rfl ?_
      refine z_istore (lv' := [(0, .ref 74), (1, .int x1), (2, .int x2), (3, .int x3), (4, .int z3.1)]) [1, 2, 3, 4, 0] dX8_bestYear_44 (Nat.le_of_ble_eq_true rfl) rfl ?_
      refine z_iload 4 dX8_bestYear_46 rfl ?_
      refine z_iload_n 2 dX8_bestYear_48 rfl ?_
      refine z_icmp_gt (tgt := 55) dX8_bestYear_49 (by decide) (fun c4 => ?_) (fun c4 => ?_)
      · replace h := ip c4 h
        refine z_iload_n 3 dX8_bestYear_55 rfl ?_
        refine z_istore_n (lv' := [(0, .ref 74), (1, .int x3), (2, .int x2), (3, .int x3), (4, .int z3.1)]) [1, 0, 2, 3, 4] dX8_bestYear_56 (Nat.le_of_ble_eq_true rfl) rfl ?_
        refine z_iload 4 dX8_bestYear_57 rfl ?_
        refine z_istore_n (lv' := [(0, .ref 74), (1, .int x3), (2, .int z3.1), (3, .int x3), (4, .int z3.1)]) [1, 2, 0, 3, 4] dX8_bestYear_59 (Nat.le_of_ble_eq_true rfl) rfl ?_
        refine z_iinc (lv' := [(0, .ref 74), (1, .int x3), (2, .int z3.1), (3, .int (x3 + 1)), (4, .int z3.1)]) (v := x3 + 1) 3 [1, 2, 3, 0, 4] dX8_bestYear_60 rfl rfl (Nat.le_of_ble_eq_true rfl) rfl ?_
        refine z_goto (tgt := 6) dX8_bestYear_63 (by decide) ?_
        refine z_sub (lv' := [(0, .ref 74), (1, .int x3), (2, .int z3.1), (3, .int (x3 + 1))]) [0, 1, 2, 3] rfl ?_
        exact ih _ _ _ _ _ _ h hk66
      · replace h := ig c4 h
        refine z_goto (tgt := 60) dX8_bestYear_52 (by decide) ?_
        refine z_iinc (lv' := [(0, .ref 74), (1, .int x1), (2, .int x2), (3, .int (x3 + 1)), (4, .int z3.1)]) (v := x3 + 1) 3 [1, 2, 3, 0, 4] dX8_bestYear_60 rfl rfl (Nat.le_of_ble_eq_true rfl) rfl ?_
        refine z_goto (tgt := 6) dX8_bestYear_63 (by decide) ?_
        refine z_sub (lv' := [(0, .ref 74), (1, .int x1), (2, .int x2), (3, .int (x3 + 1))]) [0, 1, 2, 3] rfl ?_
        exact ih _ _ _ _ _ _ h hk66
set_option maxHeartbeats 2000000 in
set_option maxRecDepth 20000 in
theorem t_X8_bestYear (l : Launch) {S : St}   {r : (Int32 × St)} (h : f_X8_bestYear S = some r) : CT l yX8_bestYear M_X8_bestYear [.ref 74] S (some (.int r.1)) r.2 := by
  rw [f_X8_bestYear] at h
  refine ct_of (lv := [(0, .ref 74)]) (by decide) rfl (Nat.le_of_ble_eq_true rfl) ?_
  refine z_iconst (v := 0) dX8_bestYear_0 rfl ?_
  refine z_istore_n (lv' := [(0, .ref 74), (1, .int 0)]) [1, 0] dX8_bestYear_1 (Nat.le_of_ble_eq_true rfl) rfl ?_
  refine z_iconst (v := (-1)) dX8_bestYear_2 rfl ?_
  refine z_istore_n (lv' := [(0, .ref 74), (1, .int 0), (2, .int (-1))]) [1, 2, 0] dX8_bestYear_3 (Nat.le_of_ble_eq_true rfl) rfl ?_
  refine z_iconst (v := 0) dX8_bestYear_4 rfl ?_
  refine z_istore_n (lv' := [(0, .ref 74), (1, .int 0), (2, .int (-1)), (3, .int 0)]) [1, 2, 3, 0] dX8_bestYear_5 (Nat.le_of_ble_eq_true rfl) rfl ?_
  refine z_sub (lv' := [(0, .ref 74), (1, .int 0), (2, .int (-1)), (3, .int 0)]) [0, 1, 2, 3] rfl ?_
  refine t_X8_bestYear_L6 l _ _ _ _ _ _ _ h ?_
  · intro y5 S6 h
    refine z_iload_n 0 dX8_bestYear_66 rfl ?_
    obtain rfl := Option.some.inj h
    exact z_iret dX8_bestYear_67 rfl rfl
set_option maxHeartbeats 2000000 in
set_option maxRecDepth 20000 in
theorem t_X8_waterOf (l : Launch) {S : St}  {a1 : Int32} {r : Int32} (h : f_X8_waterOf a1 S = some r) : CT l yX8_waterOf M_X8_waterOf [.ref 74, .int a1] S (some (.int r)) S := by
  rw [f_X8_waterOf] at h
  refine ct_of (lv := [(0, .ref 74), (1, .int a1)]) (by decide) rfl (Nat.le_of_ble_eq_true rfl) ?_
  refine z_aload_n 0 dX8_waterOf_0 rfl ?_
  refine z_get (v := .ref 75) dX8_waterOf_1 fl_8_9 kdl_74 rfl ?_
  refine z_iload_n 1 dX8_waterOf_4 rfl ?_
  refine z_aload_n 0 dX8_waterOf_5 rfl ?_
  refine z_get (v := .ref 75) dX8_waterOf_6 fl_8_9 kdl_74 rfl ?_
  refine z_iconst (v := 1) dX8_waterOf_9 rfl ?_
  refine z_ialdK (j := 1) dX8_waterOf_10 kdl_75 (by decide) (by decide) (by decide) ?_
  obtain ⟨v1, hv1, h⟩ := ob h
  refine z_callS (as := [.int a1, .int (S.1 75 1)]) dX8_waterOf_11 ml_8_55 ms_X8_at (t_X8_at l _ hv1) rfl rfl (Nat.le_of_ble_eq_true rfl) ⟨Nat.le_of_ble_eq_true rfl, Nat.le_of_ble_eq_true rfl⟩ rfl ?_
  obtain ⟨c2, h⟩ := oi h
  refine z_iald dX8_waterOf_14 kdl_75 (by decide) c2 ?_
  refine z_aload_n 0 dX8_waterOf_15 rfl ?_
  refine z_get (v := .ref 75) dX8_waterOf_16 fl_8_9 kdl_74 rfl ?_
  refine z_iload_n 1 dX8_waterOf_19 rfl ?_
  obtain ⟨v3, hv3, h⟩ := ob h
  refine z_callS (as := [.ref 75, .int a1]) dX8_waterOf_20 ml_8_69 ms_X8_gladOf (t_X8_gladOf l kdl_75 hv3) rfl rfl (Nat.le_of_ble_eq_true rfl) ⟨Nat.le_of_ble_eq_true rfl, Nat.le_of_ble_eq_true rfl⟩ rfl ?_
  refine z_isub dX8_waterOf_23 ?_
  obtain rfl := Option.some.inj h
  exact z_iret dX8_waterOf_24 rfl rfl
set_option maxHeartbeats 2000000 in
set_option maxRecDepth 20000 in
theorem t_X8_water (l : Launch) {S : St}  {a1 : Int32} {r : (Int32 × St)} (h : f_X8_water a1 S = some r) : CT l yX8_water M_X8_water [.ref 74, .int a1] S (some (.int r.1)) r.2 := by
  rw [f_X8_water] at h
  refine ct_of (lv := [(0, .ref 74), (1, .int a1)]) (by decide) rfl (Nat.le_of_ble_eq_true rfl) ?_
  refine z_aload_n 0 dX8_water_0 rfl ?_
  refine z_iload_n 1 dX8_water_1 rfl ?_
  obtain ⟨v1, hv1, h⟩ := ob h
  refine z_callV (as := [.int a1]) dX8_water_2 ml_8_101 mv_X8_isThing (t_X8_isThing l hv1) kdl_74 ⟨by decide, rfl⟩ rfl rfl (Nat.le_of_ble_eq_true rfl) ⟨Nat.le_of_ble_eq_true rfl, Nat.le_of_ble_eq_true rfl⟩ rfl ?_
  refine z_if_ne (tgt := 14) dX8_water_5 (by decide) (fun c2 => ?_) (fun c2 => ?_)
  · replace h := ig c2 h
    refine z_aload_n 0 dX8_water_14 rfl ?_
    refine z_get (v := .ref 75) dX8_water_15 fl_8_9 kdl_74 rfl ?_
    refine z_bipush (v := 20) dX8_water_18 rfl ?_
    refine z_iload_n 1 dX8_water_20 rfl ?_
    refine z_iadd dX8_water_21 ?_
    obtain ⟨c3, h⟩ := oi h
    refine z_iald dX8_water_22 kdl_75 (by decide) c3 ?_
    refine z_if_ge (tgt := 35) dX8_water_23 (by decide) (fun c4 => ?_) (fun c4 => ?_)
    · replace h := ip c4 h
      refine z_aload_n 0 dX8_water_35 rfl ?_
      refine z_iload_n 1 dX8_water_36 rfl ?_
      obtain ⟨v5, hv5, h⟩ := ob h
      refine z_callV (as := [.int a1]) dX8_water_37 ml_8_167 mv_X8_waterOf (t_X8_waterOf l hv5) kdl_74 ⟨by decide, rfl⟩ rfl rfl (Nat.le_of_ble_eq_true rfl) ⟨Nat.le_of_ble_eq_true rfl, Nat.le_of_ble_eq_true rfl⟩ rfl ?_
      obtain rfl := Option.some.inj h
      exact z_iret dX8_water_40 rfl rfl
    · replace h := ig c4 h
      refine z_aload_n 0 dX8_water_26 rfl ?_
      refine z_bipush (v := (-3)) dX8_water_27 rfl ?_
      obtain ⟨z6, hz6, h⟩ := ob h
      refine z_callV (as := [.int (-3)]) dX8_water_29 ml_8_164 mv_X8_noFar (t_X8_noFar l hz6) kdl_74 ⟨by decide, rfl⟩ rfl rfl (Nat.le_of_ble_eq_true rfl) ⟨Nat.le_of_ble_eq_true rfl, Nat.le_of_ble_eq_true rfl⟩ rfl ?_
      refine z_goto (tgt := 40) dX8_water_32 (by decide) ?_
      obtain rfl := Option.some.inj h
      exact z_iret dX8_water_40 rfl rfl
  · replace h := ip c2 h
    refine z_aload_n 0 dX8_water_8 rfl ?_
    refine z_iconst (v := (-1)) dX8_water_9 rfl ?_
    obtain ⟨z7, hz7, h⟩ := ob h
    refine z_callV (as := [.int (-1)]) dX8_water_10 ml_8_164 mv_X8_noFar (t_X8_noFar l hz7) kdl_74 ⟨by decide, rfl⟩ rfl rfl (Nat.le_of_ble_eq_true rfl) ⟨Nat.le_of_ble_eq_true rfl, Nat.le_of_ble_eq_true rfl⟩ rfl ?_
    obtain rfl := Option.some.inj h
    exact z_iret dX8_water_13 rfl rfl
set_option maxHeartbeats 2000000 in
set_option maxRecDepth 20000 in
theorem t_X8_bestWash_L7 (l : Launch)   : ∀ (n : Nat) (x1 : Int32) (x2 : Int32) (x3 : Int32) (S : St) (k43 : Int32 → Option Int32) (r : Int32), f_X8_bestWash_L7 n x1 x2 x3 S k43 = some r → (∀ (e1 : Int32), k43 e1 = some r → Z l yX8_bestWash M_X8_bestWash 43 [(1, .int e1)] [] S (some (.int r)) S) → Z l yX8_bestWash M_X8_bestWash 7 [(0, .ref 74), (1, .int x1), (2, .int x2), (3, .int x3)] [] S (some (.int r)) S := by
  intro n
  induction n with
  | zero =>
    intro x1 x2 x3 S k43 r h hk43
    exact absurd h (by rw [f_X8_bestWash_L7]; exact fun q => by cases q)
  | succ n ih =>
    intro x1 x2 x3 S k43 r h hk43
    rw [f_X8_bestWash_L7] at h
    refine z_iload_n 3 dX8_bestWash_7 rfl ?_
    refine z_aload_n 0 dX8_bestWash_8 rfl ?_
    refine z_get (v := .ref 75) dX8_bestWash_9 fl_8_9 kdl_74 rfl ?_
    refine z_iconst (v := 0) dX8_bestWash_12 rfl ?_
    refine z_ialdK (j := 0) dX8_bestWash_13 kdl_75 (by decide) (by decide) (by decide) ?_
    refine z_icmp_ge (tgt := 43) dX8_bestWash_14 (by decide) (fun c1 => ?_) (fun c1 => ?_)
    · replace h := ip c1 h
      refine z_sub (lv' := [(1, .int x1)]) [1] rfl ?_
      exact hk43 _ h
    · replace h := ig c1 h
      refine z_aload_n 0 dX8_bestWash_17 rfl ?_
      refine z_iload_n 3 dX8_bestWash_18 rfl ?_
      obtain ⟨v2, hv2, h⟩ := ob h
      refine z_callV (as := [.int x3]) dX8_bestWash_19 ml_8_167 mv_X8_waterOf (t_X8_waterOf l hv2) kdl_74 ⟨by decide, rfl⟩ rfl rfl (Nat.le_of_ble_eq_true rfl) ⟨Nat.le_of_ble_eq_true rfl, Nat.le_of_ble_eq_true rfl⟩ rfl ?_
      refine z_iload_n 2 dX8_bestWash_22 rfl ?_
      refine z_icmp_gt (tgt := 29) dX8_bestWash_23 (by decide) (fun c3 => ?_) (fun c3 => ?_)
      · replace h := ip c3 h
        refine z_iload_n 3 dX8_bestWash_29 rfl ?_
        refine z_istore_n (lv' := [(0, .ref 74), (1, .int x3), (2, .int x2), (3, .int x3)]) [1, 0, 2, 3] dX8_bestWash_30 (Nat.le_of_ble_eq_true rfl) rfl ?_
        refine z_aload_n 0 dX8_bestWash_31 rfl ?_
        refine z_iload_n 3 dX8_bestWash_32 rfl ?_
        obtain ⟨v4, hv4, h⟩ := ob h
        refine z_callV (as := [.int x3]) dX8_bestWash_33 ml_8_167 mv_X8_waterOf (t_X8_waterOf l hv4) kdl_74 ⟨by decide, rfl⟩ rfl rfl (Nat.le_of_ble_eq_true rfl) ⟨Nat.le_of_ble_eq_true rfl, Nat.le_of_ble_eq_true rfl⟩ rfl ?_
        refine z_istore_n (lv' := [(0, .ref 74), (1, .int x3), (2, .int v4), (3, .int x3)]) [1, 2, 0, 3] dX8_bestWash_36 (Nat.le_of_ble_eq_true rfl) rfl ?_
        refine z_iinc (lv' := [(0, .ref 74), (1, .int x3), (2, .int v4), (3, .int (x3 + 1))]) (v := x3 + 1) 3 [1, 2, 3, 0] dX8_bestWash_37 rfl rfl (Nat.le_of_ble_eq_true rfl) rfl ?_
        refine z_goto (tgt := 7) dX8_bestWash_40 (by decide) ?_
        refine z_sub (lv' := [(0, .ref 74), (1, .int x3), (2, .int v4), (3, .int (x3 + 1))]) [0, 1, 2, 3] rfl ?_
        exact ih _ _ _ _ _ _ h hk43
      · replace h := ig c3 h
        refine z_goto (tgt := 37) dX8_bestWash_26 (by decide) ?_
        refine z_iinc (lv' := [(0, .ref 74), (1, .int x1), (2, .int x2), (3, .int (x3 + 1))]) (v := x3 + 1) 3 [1, 2, 3, 0] dX8_bestWash_37 rfl rfl (Nat.le_of_ble_eq_true rfl) rfl ?_
        refine z_goto (tgt := 7) dX8_bestWash_40 (by decide) ?_
        refine z_sub (lv' := [(0, .ref 74), (1, .int x1), (2, .int x2), (3, .int (x3 + 1))]) [0, 1, 2, 3] rfl ?_
        exact ih _ _ _ _ _ _ h hk43
set_option maxHeartbeats 2000000 in
set_option maxRecDepth 20000 in
theorem t_X8_bestWash (l : Launch) {S : St}   {r : Int32} (h : f_X8_bestWash S = some r) : CT l yX8_bestWash M_X8_bestWash [.ref 74] S (some (.int r)) S := by
  rw [f_X8_bestWash] at h
  refine ct_of (lv := [(0, .ref 74)]) (by decide) rfl (Nat.le_of_ble_eq_true rfl) ?_
  refine z_bipush (v := (-9)) dX8_bestWash_0 rfl ?_
  refine z_istore_n (lv' := [(0, .ref 74), (1, .int (-9))]) [1, 0] dX8_bestWash_2 (Nat.le_of_ble_eq_true rfl) rfl ?_
  refine z_iconst (v := 0) dX8_bestWash_3 rfl ?_
  refine z_istore_n (lv' := [(0, .ref 74), (1, .int (-9)), (2, .int 0)]) [1, 2, 0] dX8_bestWash_4 (Nat.le_of_ble_eq_true rfl) rfl ?_
  refine z_iconst (v := 0) dX8_bestWash_5 rfl ?_
  refine z_istore_n (lv' := [(0, .ref 74), (1, .int (-9)), (2, .int 0), (3, .int 0)]) [1, 2, 3, 0] dX8_bestWash_6 (Nat.le_of_ble_eq_true rfl) rfl ?_
  refine z_sub (lv' := [(0, .ref 74), (1, .int (-9)), (2, .int 0), (3, .int 0)]) [0, 1, 2, 3] rfl ?_
  refine t_X8_bestWash_L7 l _ _ _ _ _ _ _ h ?_
  · intro y5 h
    refine z_iload_n 0 dX8_bestWash_43 rfl ?_
    obtain rfl := Option.some.inj h
    exact z_iret dX8_bestWash_44 rfl rfl
set_option maxHeartbeats 2000000 in
set_option maxRecDepth 20000 in
theorem t_X8_sour_L4 (l : Launch)   : ∀ (n : Nat) (x1 : Int32) (x2 : Int32) (S : St) (k38 : Int32 → Option Int32) (r : Int32), f_X8_sour_L4 n x1 x2 S k38 = some r → (∀ (e1 : Int32), k38 e1 = some r → Z l yX8_sour M_X8_sour 38 [(1, .int e1)] [] S (some (.int r)) S) → Z l yX8_sour M_X8_sour 4 [(0, .ref 74), (1, .int x1), (2, .int x2)] [] S (some (.int r)) S := by
  intro n
  induction n with
  | zero =>
    intro x1 x2 S k38 r h hk38
    exact absurd h (by rw [f_X8_sour_L4]; exact fun q => by cases q)
  | succ n ih =>
    intro x1 x2 S k38 r h hk38
    rw [f_X8_sour_L4] at h
    refine z_iload_n 2 dX8_sour_4 rfl ?_
    refine z_aload_n 0 dX8_sour_5 rfl ?_
    refine z_get (v := .ref 75) dX8_sour_6 fl_8_9 kdl_74 rfl ?_
    refine z_iconst (v := 0) dX8_sour_9 rfl ?_
    refine z_ialdK (j := 0) dX8_sour_10 kdl_75 (by decide) (by decide) (by decide) ?_
    refine z_icmp_ge (tgt := 38) dX8_sour_11 (by decide) (fun c1 => ?_) (fun c1 => ?_)
    · replace h := ip c1 h
      refine z_sub (lv' := [(1, .int x1)]) [1] rfl ?_
      exact hk38 _ h
    · replace h := ig c1 h
      refine z_iload_n 1 dX8_sour_14 rfl ?_
      refine z_aload_n 0 dX8_sour_15 rfl ?_
      refine z_iload_n 2 dX8_sour_16 rfl ?_
      obtain ⟨v2, hv2, h⟩ := ob h
      refine z_callV (as := [.int x2]) dX8_sour_17 ml_8_167 mv_X8_waterOf (t_X8_waterOf l hv2) kdl_74 ⟨by decide, rfl⟩ rfl rfl (Nat.le_of_ble_eq_true rfl) ⟨Nat.le_of_ble_eq_true rfl, Nat.le_of_ble_eq_true rfl⟩ rfl ?_
      refine z_if_le (tgt := 29) dX8_sour_20 (by decide) (fun c3 => ?_) (fun c3 => ?_)
      · replace h := ip c3 h
        refine z_iconst (v := 0) dX8_sour_29 rfl ?_
        refine z_ior dX8_sour_30 ?_
        refine z_istore_n (lv' := [(0, .ref 74), (1, .int (x1 ||| 0)), (2, .int x2)]) [1, 0, 2] dX8_sour_31 (Nat.le_of_ble_eq_true rfl) rfl ?_
        refine z_iinc (lv' := [(0, .ref 74), (1, .int (x1 ||| 0)), (2, .int (x2 + 1))]) (v := x2 + 1) 2 [1, 2, 0] dX8_sour_32 rfl rfl (Nat.le_of_ble_eq_true rfl) rfl ?_
        refine z_goto (tgt := 4) dX8_sour_35 (by decide) ?_
        refine z_sub (lv' := [(0, .ref 74), (1, .int (x1 ||| 0)), (2, .int (x2 + 1))]) [0, 1, 2] rfl ?_
        exact ih _ _ _ _ _ h hk38
      · replace h := ig c3 h
        refine z_iconst (v := 1) dX8_sour_23 rfl ?_
        refine z_iload_n 2 dX8_sour_24 rfl ?_
        refine z_ishl dX8_sour_25 ?_
        refine z_goto (tgt := 30) dX8_sour_26 (by decide) ?_
        refine z_ior dX8_sour_30 ?_
        refine z_istore_n (lv' := [(0, .ref 74), (1, .int (x1 ||| (1 <<< (x2 &&& 31)))), (2, .int x2)]) [1, 0, 2] dX8_sour_31 (Nat.le_of_ble_eq_true rfl) rfl ?_
        refine z_iinc (lv' := [(0, .ref 74), (1, .int (x1 ||| (1 <<< (x2 &&& 31)))), (2, .int (x2 + 1))]) (v := x2 + 1) 2 [1, 2, 0] dX8_sour_32 rfl rfl (Nat.le_of_ble_eq_true rfl) rfl ?_
        refine z_goto (tgt := 4) dX8_sour_35 (by decide) ?_
        refine z_sub (lv' := [(0, .ref 74), (1, .int (x1 ||| (1 <<< (x2 &&& 31)))), (2, .int (x2 + 1))]) [0, 1, 2] rfl ?_
        exact ih _ _ _ _ _ h hk38
set_option maxHeartbeats 2000000 in
set_option maxRecDepth 20000 in
theorem t_X8_sour (l : Launch) {S : St}   {r : Int32} (h : f_X8_sour S = some r) : CT l yX8_sour M_X8_sour [.ref 74] S (some (.int r)) S := by
  rw [f_X8_sour] at h
  refine ct_of (lv := [(0, .ref 74)]) (by decide) rfl (Nat.le_of_ble_eq_true rfl) ?_
  refine z_iconst (v := 0) dX8_sour_0 rfl ?_
  refine z_istore_n (lv' := [(0, .ref 74), (1, .int 0)]) [1, 0] dX8_sour_1 (Nat.le_of_ble_eq_true rfl) rfl ?_
  refine z_iconst (v := 0) dX8_sour_2 rfl ?_
  refine z_istore_n (lv' := [(0, .ref 74), (1, .int 0), (2, .int 0)]) [1, 2, 0] dX8_sour_3 (Nat.le_of_ble_eq_true rfl) rfl ?_
  refine z_sub (lv' := [(0, .ref 74), (1, .int 0), (2, .int 0)]) [0, 1, 2] rfl ?_
  refine t_X8_sour_L4 l _ _ _ _ _ _ h ?_
  · intro y4 h
    refine z_iload_n 0 dX8_sour_38 rfl ?_
    obtain rfl := Option.some.inj h
    exact z_iret dX8_sour_39 rfl rfl
set_option maxHeartbeats 2000000 in
set_option maxRecDepth 20000 in
theorem t_X8_regret (l : Launch) {S : St}  {a1 : Int32} {r : (Int32 × St)} (h : f_X8_regret a1 S = some r) : CT l yX8_regret M_X8_regret [.ref 74, .int a1] S (some (.int r.1)) r.2 := by
  rw [f_X8_regret] at h
  refine ct_of (lv := [(0, .ref 74), (1, .int a1)]) (by decide) rfl (Nat.le_of_ble_eq_true rfl) ?_
  refine z_aload_n 0 dX8_regret_0 rfl ?_
  refine z_iload_n 1 dX8_regret_1 rfl ?_
  obtain ⟨v1, hv1, h⟩ := ob h
  refine z_callV (as := [.int a1]) dX8_regret_2 ml_8_101 mv_X8_isThing (t_X8_isThing l hv1) kdl_74 ⟨by decide, rfl⟩ rfl rfl (Nat.le_of_ble_eq_true rfl) ⟨Nat.le_of_ble_eq_true rfl, Nat.le_of_ble_eq_true rfl⟩ rfl ?_
  refine z_if_eq (tgt := 38) dX8_regret_5 (by decide) (fun c2 => ?_) (fun c2 => ?_)
  · replace h := ip c2 h
    refine z_aload_n 0 dX8_regret_38 rfl ?_
    refine z_iconst (v := (-1)) dX8_regret_39 rfl ?_
    obtain ⟨z3, hz3, h⟩ := ob h
    refine z_callV (as := [.int (-1)]) dX8_regret_40 ml_8_41 mv_X8_no (t_X8_no l hz3) kdl_74 ⟨by decide, rfl⟩ rfl rfl (Nat.le_of_ble_eq_true rfl) ⟨Nat.le_of_ble_eq_true rfl, Nat.le_of_ble_eq_true rfl⟩ rfl ?_
    obtain rfl := Option.some.inj h
    exact z_iret dX8_regret_43 rfl rfl
  · replace h := ig c2 h
    refine z_iconst (v := 0) dX8_regret_8 rfl ?_
    refine z_aload_n 0 dX8_regret_9 rfl ?_
    refine z_get (v := .ref 75) dX8_regret_10 fl_8_9 kdl_74 rfl ?_
    refine z_iload_n 1 dX8_regret_13 rfl ?_
    refine z_aload_n 0 dX8_regret_14 rfl ?_
    refine z_iload_n 1 dX8_regret_15 rfl ?_
    obtain ⟨v4, hv4, h⟩ := ob h
    refine z_callV (as := [.int a1]) dX8_regret_16 ml_8_158 mv_X8_gladdest (t_X8_gladdest l hv4) kdl_74 ⟨by decide, rfl⟩ rfl rfl (Nat.le_of_ble_eq_true rfl) ⟨Nat.le_of_ble_eq_true rfl, Nat.le_of_ble_eq_true rfl⟩ rfl ?_
    obtain ⟨v5, hv5, h⟩ := ob h
    refine z_callS (as := [.int a1, .int v4]) dX8_regret_19 ml_8_55 ms_X8_at (t_X8_at l _ hv5) rfl rfl (Nat.le_of_ble_eq_true rfl) ⟨Nat.le_of_ble_eq_true rfl, Nat.le_of_ble_eq_true rfl⟩ rfl ?_
    obtain ⟨c6, h⟩ := oi h
    refine z_iald dX8_regret_22 kdl_75 (by decide) c6 ?_
    refine z_aload_n 0 dX8_regret_23 rfl ?_
    refine z_get (v := .ref 75) dX8_regret_24 fl_8_9 kdl_74 rfl ?_
    refine z_iload_n 1 dX8_regret_27 rfl ?_
    obtain ⟨v7, hv7, h⟩ := ob h
    refine z_callS (as := [.ref 75, .int a1]) dX8_regret_28 ml_8_69 ms_X8_gladOf (t_X8_gladOf l kdl_75 hv7) rfl rfl (Nat.le_of_ble_eq_true rfl) ⟨Nat.le_of_ble_eq_true rfl, Nat.le_of_ble_eq_true rfl⟩ rfl ?_
    refine z_isub dX8_regret_31 ?_
    obtain ⟨v8, hv8, h⟩ := ob h
    refine z_callS (as := [.int 0, .int ((S.1 75 v5.toNatClampNeg) - v7)]) dX8_regret_32 ml_8_51 ms_X8_most (t_X8_most l _ hv8) rfl rfl (Nat.le_of_ble_eq_true rfl) ⟨Nat.le_of_ble_eq_true rfl, Nat.le_of_ble_eq_true rfl⟩ rfl ?_
    refine z_goto (tgt := 43) dX8_regret_35 (by decide) ?_
    obtain rfl := Option.some.inj h
    exact z_iret dX8_regret_43 rfl rfl
set_option maxHeartbeats 2000000 in
set_option maxRecDepth 20000 in
theorem t_X8_two_L58 (l : Launch)   : ∀ (n : Nat) (x1 : Int32) (x2 : Int32) (x4 : Int32) (x5 : Int32) (x6 : Int32) (x7 : Int32) (x8 : Int32) (S : St) (k118 : Int32 → Option (Int32 × St)) (r : (Int32 × St)), f_X8_two_L58 n x1 x2 x4 x5 x6 x7 x8 S k118 = some r → (∀ (e7 : Int32), k118 e7 = some r → Z l yX8_two M_X8_two 118 [(0, .ref 74), (1, .int x1), (2, .int x2), (4, .int x4), (5, .int x5), (7, .int e7)] [] S (some (.int r.1)) r.2) → Z l yX8_two M_X8_two 58 [(0, .ref 74), (1, .int x1), (2, .int x2), (4, .int x4), (5, .int x5), (6, .int x6), (7, .int x7), (8, .int x8)] [] S (some (.int r.1)) r.2 := by
  intro n
  induction n with
  | zero =>
    intro x1 x2 x4 x5 x6 x7 x8 S k118 r h hk118
    exact absurd h (by rw [f_X8_two_L58]; exact fun q => by cases q)
  | succ n ih =>
    intro x1 x2 x4 x5 x6 x7 x8 S k118 r h hk118
    rw [f_X8_two_L58] at h
    refine z_iload 7 dX8_two_58 rfl ?_
    refine z_iconst (v := 5) dX8_two_60 rfl ?_
    refine z_icmp_ge (tgt := 118) dX8_two_61 (by decide) (fun c6 => ?_) (fun c6 => ?_)
    · replace h := ip c6 h
      refine z_sub (lv' := [(0, .ref 74), (1, .int x1), (2, .int x2), (4, .int x4), (5, .int x5), (7, .int x7)]) [0, 1, 2, 3, 4, 6] rfl ?_
      exact hk118 _ h
    · replace h := ig c6 h
      refine z_iload 6 dX8_two_64 rfl ?_
      refine z_aload_n 0 dX8_two_66 rfl ?_
      refine z_get (v := .ref 75) dX8_two_67 fl_8_9 kdl_74 rfl ?_
      refine z_iload_n 1 dX8_two_70 rfl ?_
      refine z_iload_n 2 dX8_two_71 rfl ?_
      refine z_iload 7 dX8_two_72 rfl ?_
      refine z_iload 4 dX8_two_74 rfl ?_
      refine z_iadd dX8_two_76 ?_
      obtain ⟨v7, hv7, h⟩ := ob h
      refine z_callS (as := [.ref 75, .int x1, .int x2, .int (x8 + x5)]) dX8_two_77 ml_8_73 ms_X8_yearOf (t_X8_yearOf l kdl_75 hv7) rfl rfl (Nat.le_of_ble_eq_true rfl) ⟨Nat.le_of_ble_eq_true rfl, Nat.le_of_ble_eq_true rfl⟩ rfl ?_
      refine z_iload 5 dX8_two_80 rfl ?_
      refine z_icmp_gt (tgt := 108) dX8_two_82 (by decide) (fun c8 => ?_) (fun c8 => ?_)
      · replace h := ip c8 h
        refine z_iconst (v := 0) dX8_two_108 rfl ?_
        refine z_iand dX8_two_109 ?_
        refine z_istore (lv' := [(0, .ref 74), (1, .int x1), (2, .int x2), (4, .int x4), (5, .int x5), (6, .int x6), (7, .int (x7 &&& 0)), (8, .int x8)]) [1, 2, 3, 4, 5, 6, 0, 7] dX8_two_110 (Nat.le_of_ble_eq_true rfl) rfl ?_
        refine z_iinc (lv' := [(0, .ref 74), (1, .int x1), (2, .int x2), (4, .int x4), (5, .int x5), (6, .int x6), (7, .int (x7 &&& 0)), (8, .int (x8 + 1))]) (v := x8 + 1) 7 [1, 2, 3, 4, 5, 6, 7, 0] dX8_two_112 rfl rfl (Nat.le_of_ble_eq_true rfl) rfl ?_
        refine z_goto (tgt := 58) dX8_two_115 (by decide) ?_
        refine z_sub (lv' := [(0, .ref 74), (1, .int x1), (2, .int x2), (4, .int x4), (5, .int x5), (6, .int x6), (7, .int (x7 &&& 0)), (8, .int (x8 + 1))]) [0, 1, 2, 3, 4, 5, 6, 7] rfl ?_
        exact ih _ _ _ _ _ _ _ _ _ _ h hk118
      · replace h := ig c8 h
        refine z_aload_n 0 dX8_two_85 rfl ?_
        refine z_get (v := .ref 75) dX8_two_86 fl_8_9 kdl_74 rfl ?_
        refine z_iload_n 1 dX8_two_89 rfl ?_
        refine z_iload_n 2 dX8_two_90 rfl ?_
        refine z_iload 3 dX8_two_91 rfl ?_
        refine z_iload 7 dX8_two_93 rfl ?_
        refine z_iadd dX8_two_95 ?_
        obtain ⟨v9, hv9, h⟩ := ob h
        refine z_callS (as := [.ref 75, .int x1, .int x2, .int (x4 + x8)]) dX8_two_96 ml_8_73 ms_X8_yearOf (t_X8_yearOf l kdl_75 hv9) rfl rfl (Nat.le_of_ble_eq_true rfl) ⟨Nat.le_of_ble_eq_true rfl, Nat.le_of_ble_eq_true rfl⟩ rfl ?_
        refine z_iload 5 dX8_two_99 rfl ?_
        refine z_icmp_lt (tgt := 108) dX8_two_101 (by decide) (fun c10 => ?_) (fun c10 => ?_)
        · replace h := ip c10 h
          refine z_iconst (v := 0) dX8_two_108 rfl ?_
          refine z_iand dX8_two_109 ?_
          refine z_istore (lv' := [(0, .ref 74), (1, .int x1), (2, .int x2), (4, .int x4), (5, .int x5), (6, .int x6), (7, .int (x7 &&& 0)), (8, .int x8)]) [1, 2, 3, 4, 5, 6, 0, 7] dX8_two_110 (Nat.le_of_ble_eq_true rfl) rfl ?_
          refine z_iinc (lv' := [(0, .ref 74), (1, .int x1), (2, .int x2), (4, .int x4), (5, .int x5), (6, .int x6), (7, .int (x7 &&& 0)), (8, .int (x8 + 1))]) (v := x8 + 1) 7 [1, 2, 3, 4, 5, 6, 7, 0] dX8_two_112 rfl rfl (Nat.le_of_ble_eq_true rfl) rfl ?_
          refine z_goto (tgt := 58) dX8_two_115 (by decide) ?_
          refine z_sub (lv' := [(0, .ref 74), (1, .int x1), (2, .int x2), (4, .int x4), (5, .int x5), (6, .int x6), (7, .int (x7 &&& 0)), (8, .int (x8 + 1))]) [0, 1, 2, 3, 4, 5, 6, 7] rfl ?_
          exact ih _ _ _ _ _ _ _ _ _ _ h hk118
        · replace h := ig c10 h
          refine z_iconst (v := 1) dX8_two_104 rfl ?_
          refine z_goto (tgt := 109) dX8_two_105 (by decide) ?_
          refine z_iand dX8_two_109 ?_
          refine z_istore (lv' := [(0, .ref 74), (1, .int x1), (2, .int x2), (4, .int x4), (5, .int x5), (6, .int x6), (7, .int (x7 &&& 1)), (8, .int x8)]) [1, 2, 3, 4, 5, 6, 0, 7] dX8_two_110 (Nat.le_of_ble_eq_true rfl) rfl ?_
          refine z_iinc (lv' := [(0, .ref 74), (1, .int x1), (2, .int x2), (4, .int x4), (5, .int x5), (6, .int x6), (7, .int (x7 &&& 1)), (8, .int (x8 + 1))]) (v := x8 + 1) 7 [1, 2, 3, 4, 5, 6, 7, 0] dX8_two_112 rfl rfl (Nat.le_of_ble_eq_true rfl) rfl ?_
          refine z_goto (tgt := 58) dX8_two_115 (by decide) ?_
          refine z_sub (lv' := [(0, .ref 74), (1, .int x1), (2, .int x2), (4, .int x4), (5, .int x5), (6, .int x6), (7, .int (x7 &&& 1)), (8, .int (x8 + 1))]) [0, 1, 2, 3, 4, 5, 6, 7] rfl ?_
          exact ih _ _ _ _ _ _ _ _ _ _ h hk118
set_option maxHeartbeats 2000000 in
set_option maxRecDepth 20000 in
theorem t_X8_two_L30 (l : Launch)   : ∀ (n : Nat) (x1 : Int32) (x2 : Int32) (x4 : Int32) (x5 : Int32) (S : St) (k123 : Int32 → Option (Int32 × St)) (k138 : Unit → Option (Int32 × St)) (r : (Int32 × St)), f_X8_two_L30 n x1 x2 x4 x5 S k123 k138 = some r → (∀ (e5 : Int32), k123 e5 = some r → Z l yX8_two M_X8_two 123 [(4, .int x4), (5, .int e5)] [] S (some (.int r.1)) r.2) → (k138 () = some r → Z l yX8_two M_X8_two 138 [(0, .ref 74), (1, .int x1), (2, .int x2), (4, .int x4)] [] S (some (.int r.1)) r.2) → Z l yX8_two M_X8_two 30 [(0, .ref 74), (1, .int x1), (2, .int x2), (4, .int x4), (5, .int x5)] [] S (some (.int r.1)) r.2 := by
  intro n
  induction n with
  | zero =>
    intro x1 x2 x4 x5 S k123 k138 r h hk123 hk138
    exact absurd h (by rw [f_X8_two_L30]; exact fun q => by cases q)
  | succ n ih =>
    intro x1 x2 x4 x5 S k123 k138 r h hk123 hk138
    rw [f_X8_two_L30] at h
    refine z_iload 4 dX8_two_30 rfl ?_
    refine z_iconst (v := 5) dX8_two_32 rfl ?_
    refine z_icmp_ge (tgt := 138) dX8_two_33 (by decide) (fun c4 => ?_) (fun c4 => ?_)
    · replace h := ip c4 h
      refine z_sub (lv' := [(0, .ref 74), (1, .int x1), (2, .int x2), (4, .int x4)]) [0, 1, 2, 3] rfl ?_
      exact hk138  h
    · replace h := ig c4 h
      refine z_aload_n 0 dX8_two_36 rfl ?_
      refine z_get (v := .ref 75) dX8_two_37 fl_8_9 kdl_74 rfl ?_
      refine z_iload_n 1 dX8_two_40 rfl ?_
      refine z_iload_n 2 dX8_two_41 rfl ?_
      refine z_iload 3 dX8_two_42 rfl ?_
      refine z_iload 4 dX8_two_44 rfl ?_
      refine z_iadd dX8_two_46 ?_
      obtain ⟨v5, hv5, h⟩ := ob h
      refine z_callS (as := [.ref 75, .int x1, .int x2, .int (x4 + x5)]) dX8_two_47 ml_8_73 ms_X8_yearOf (t_X8_yearOf l kdl_75 hv5) rfl rfl (Nat.le_of_ble_eq_true rfl) ⟨Nat.le_of_ble_eq_true rfl, Nat.le_of_ble_eq_true rfl⟩ rfl ?_
      refine z_istore (lv' := [(0, .ref 74), (1, .int x1), (2, .int x2), (4, .int x4), (5, .int x5), (6, .int v5)]) [1, 2, 3, 4, 5, 0] dX8_two_50 (Nat.le_of_ble_eq_true rfl) rfl ?_
      refine z_iconst (v := 1) dX8_two_52 rfl ?_
      refine z_istore (lv' := [(0, .ref 74), (1, .int x1), (2, .int x2), (4, .int x4), (5, .int x5), (6, .int v5), (7, .int 1)]) [1, 2, 3, 4, 5, 6, 0] dX8_two_53 (Nat.le_of_ble_eq_true rfl) rfl ?_
      refine z_iconst (v := 0) dX8_two_55 rfl ?_
      refine z_istore (lv' := [(0, .ref 74), (1, .int x1), (2, .int x2), (4, .int x4), (5, .int x5), (6, .int v5), (7, .int 1), (8, .int 0)]) [1, 2, 3, 4, 5, 6, 7, 0] dX8_two_56 (Nat.le_of_ble_eq_true rfl) rfl ?_
      refine z_sub (lv' := [(0, .ref 74), (1, .int x1), (2, .int x2), (4, .int x4), (5, .int x5), (6, .int v5), (7, .int 1), (8, .int 0)]) [0, 1, 2, 3, 4, 5, 6, 7] rfl ?_
      refine t_X8_two_L58 l _ _ _ _ _ _ _ _ _ _ _ h ?_
      · intro y11 h
        refine z_iload 5 dX8_two_118 rfl ?_
        refine z_if_eq (tgt := 132) dX8_two_120 (by decide) (fun c12 => ?_) (fun c12 => ?_)
        · replace h := ip c12 h
          refine z_iinc (lv' := [(0, .ref 74), (1, .int x1), (2, .int x2), (4, .int x4), (5, .int (x5 + 1)), (7, .int y11)]) (v := x5 + 1) 4 [1, 2, 3, 4, 0, 5] dX8_two_132 rfl rfl (Nat.le_of_ble_eq_true rfl) rfl ?_
          refine z_goto (tgt := 30) dX8_two_135 (by decide) ?_
          refine z_sub (lv' := [(0, .ref 74), (1, .int x1), (2, .int x2), (4, .int x4), (5, .int (x5 + 1))]) [0, 1, 2, 3, 4] rfl ?_
          exact ih _ _ _ _ _ _ _ _ h hk123 hk138
        · replace h := ig c12 h
          refine z_sub (lv' := [(4, .int x4), (5, .int x5)]) [3, 4] rfl ?_
          exact hk123 _ h
set_option maxHeartbeats 2000000 in
set_option maxRecDepth 20000 in
theorem t_X8_two_L21 (l : Launch)   : ∀ (n : Nat) (x1 : Int32) (x2 : Int32) (x4 : Int32) (S : St) (k123 : Int32 → Int32 → Option (Int32 × St)) (k144 : Unit → Option (Int32 × St)) (r : (Int32 × St)), f_X8_two_L21 n x1 x2 x4 S k123 k144 = some r → (∀ (e4 : Int32) (e5 : Int32), k123 e4 e5 = some r → Z l yX8_two M_X8_two 123 [(4, .int e4), (5, .int e5)] [] S (some (.int r.1)) r.2) → (k144 () = some r → Z l yX8_two M_X8_two 144 [] [] S (some (.int r.1)) r.2) → Z l yX8_two M_X8_two 21 [(0, .ref 74), (1, .int x1), (2, .int x2), (4, .int x4)] [] S (some (.int r.1)) r.2 := by
  intro n
  induction n with
  | zero =>
    intro x1 x2 x4 S k123 k144 r h hk123 hk144
    exact absurd h (by rw [f_X8_two_L21]; exact fun q => by cases q)
  | succ n ih =>
    intro x1 x2 x4 S k123 k144 r h hk123 hk144
    rw [f_X8_two_L21] at h
    refine z_iload 3 dX8_two_21 rfl ?_
    refine z_iconst (v := 5) dX8_two_23 rfl ?_
    refine z_icmp_ge (tgt := 144) dX8_two_24 (by decide) (fun c3 => ?_) (fun c3 => ?_)
    · replace h := ip c3 h
      refine z_sub (lv' := []) [] rfl ?_
      exact hk144  h
    · replace h := ig c3 h
      refine z_iconst (v := 0) dX8_two_27 rfl ?_
      refine z_istore (lv' := [(0, .ref 74), (1, .int x1), (2, .int x2), (4, .int x4), (5, .int 0)]) [1, 2, 3, 4, 0] dX8_two_28 (Nat.le_of_ble_eq_true rfl) rfl ?_
      refine z_sub (lv' := [(0, .ref 74), (1, .int x1), (2, .int x2), (4, .int x4), (5, .int 0)]) [0, 1, 2, 3, 4] rfl ?_
      refine t_X8_two_L30 l _ _ _ _ _ _ _ _ _ h ?_ ?_
      · intro y13 h
        refine z_sub (lv' := [(4, .int x4), (5, .int y13)]) [0, 1] rfl ?_
        exact hk123 _ _ h
      · intro h
        refine z_iinc (lv' := [(0, .ref 74), (1, .int x1), (2, .int x2), (4, .int (x4 + 1))]) (v := x4 + 1) 3 [1, 2, 3, 0] dX8_two_138 rfl rfl (Nat.le_of_ble_eq_true rfl) rfl ?_
        refine z_goto (tgt := 21) dX8_two_141 (by decide) ?_
        refine z_sub (lv' := [(0, .ref 74), (1, .int x1), (2, .int x2), (4, .int (x4 + 1))]) [0, 1, 2, 3] rfl ?_
        exact ih _ _ _ _ _ _ _ h hk123 hk144
set_option maxHeartbeats 2000000 in
set_option maxRecDepth 20000 in
theorem t_X8_two (l : Launch) {S : St}  {a1 : Int32} {a2 : Int32} {r : (Int32 × St)} (h : f_X8_two a1 a2 S = some r) : CT l yX8_two M_X8_two [.ref 74, .int a1, .int a2] S (some (.int r.1)) r.2 := by
  rw [f_X8_two] at h
  refine ct_of (lv := [(0, .ref 74), (1, .int a1), (2, .int a2)]) (by decide) rfl (Nat.le_of_ble_eq_true rfl) ?_
  refine z_aload_n 0 dX8_two_0 rfl ?_
  refine z_iload_n 1 dX8_two_1 rfl ?_
  refine z_iload_n 2 dX8_two_2 rfl ?_
  refine z_iconst (v := 0) dX8_two_3 rfl ?_
  obtain ⟨v1, hv1, h⟩ := ob h
  refine z_callV (as := [.int a1, .int a2, .int 0]) dX8_two_4 ml_8_132 mv_X8_wrongGlue (t_X8_wrongGlue l hv1) kdl_74 ⟨by decide, rfl⟩ rfl rfl (Nat.le_of_ble_eq_true rfl) ⟨Nat.le_of_ble_eq_true rfl, Nat.le_of_ble_eq_true rfl⟩ rfl ?_
  refine z_istore_n (lv' := [(0, .ref 74), (1, .int a1), (2, .int a2), (3, .int v1)]) [1, 2, 3, 0] dX8_two_7 (Nat.le_of_ble_eq_true rfl) rfl ?_
  refine z_iload_n 3 dX8_two_8 rfl ?_
  refine z_if_eq (tgt := 18) dX8_two_9 (by decide) (fun c2 => ?_) (fun c2 => ?_)
  · replace h := ip c2 h
    refine z_iconst (v := 0) dX8_two_18 rfl ?_
    refine z_istore (lv' := [(0, .ref 74), (1, .int a1), (2, .int a2), (3, .int v1), (4, .int 0)]) [1, 2, 3, 4, 0] dX8_two_19 (Nat.le_of_ble_eq_true rfl) rfl ?_
    refine z_sub (lv' := [(0, .ref 74), (1, .int a1), (2, .int a2), (4, .int 0)]) [0, 1, 2, 4] rfl ?_
    refine t_X8_two_L21 l _ _ _ _ _ _ _ _ h ?_ ?_
    · intro y14 y15 h
      refine z_bipush (v := 10) dX8_two_123 rfl ?_
      refine z_iload 0 dX8_two_125 rfl ?_
      refine z_imul dX8_two_127 ?_
      refine z_iload 1 dX8_two_128 rfl ?_
      refine z_iadd dX8_two_130 ?_
      obtain rfl := Option.some.inj h
      exact z_iret dX8_two_131 rfl rfl
    · intro h
      refine z_bipush (v := (-9)) dX8_two_144 rfl ?_
      obtain rfl := Option.some.inj h
      exact z_iret dX8_two_146 rfl rfl
  · replace h := ig c2 h
    refine z_aload_n 0 dX8_two_12 rfl ?_
    refine z_iload_n 3 dX8_two_13 rfl ?_
    obtain ⟨z16, hz16, h⟩ := ob h
    refine z_callV (as := [.int v1]) dX8_two_14 ml_8_41 mv_X8_no (t_X8_no l hz16) kdl_74 ⟨by decide, rfl⟩ rfl rfl (Nat.le_of_ble_eq_true rfl) ⟨Nat.le_of_ble_eq_true rfl, Nat.le_of_ble_eq_true rfl⟩ rfl ?_
    obtain rfl := Option.some.inj h
    exact z_iret dX8_two_17 rfl rfl
set_option maxHeartbeats 2000000 in
set_option maxRecDepth 20000 in
theorem t_X8_gcd_L6 (l : Launch)   (S : St) : ∀ (n : Nat) (x4 : Int64) (x6 : Int64) (k31 : Int64 → Option Int64) (r : Int64), f_X8_gcd_L6 n x4 x6 k31 = some r → (∀ (e4 : Int64), k31 e4 = some r → Z l yX8_gcd M_X8_gcd 31 [(4, .long e4)] [] S (some (.long r)) S) → Z l yX8_gcd M_X8_gcd 6 [(4, .long x4), (6, .long x6)] [] S (some (.long r)) S := by
  intro n
  induction n with
  | zero =>
    intro x4 x6 k31 r h hk31
    exact absurd h (by rw [f_X8_gcd_L6]; exact fun q => by cases q)
  | succ n ih =>
    intro x4 x6 k31 r h hk31
    rw [f_X8_gcd_L6] at h
    refine z_lload 1 dX8_gcd_6 rfl ?_
    refine z_lconst (v := 0) dX8_gcd_8 rfl ?_
    refine z_lcmp dX8_gcd_9 ?_
    refine z_if_eq (tgt := 31) dX8_gcd_10 (by decide) (fun c1 => ?_) (fun c1 => ?_)
    · replace h := ip c1 h
      refine z_sub (lv' := [(4, .long x4)]) [0] rfl ?_
      exact hk31 _ h
    · replace h := ig c1 h
      refine z_lload 0 dX8_gcd_13 rfl ?_
      refine z_lload 1 dX8_gcd_15 rfl ?_
      obtain ⟨c2, h⟩ := oi h
      refine z_lrem dX8_gcd_17 c2 ?_
      refine z_lstore (lv' := [(4, .long x4), (6, .long x6), (8, .long (x4 - x4 / x6 * x6))]) [1, 2, 0] dX8_gcd_18 (Nat.le_of_ble_eq_true rfl) rfl ?_
      refine z_lload 1 dX8_gcd_20 rfl ?_
      refine z_lstore (lv' := [(4, .long x6), (6, .long x6), (8, .long (x4 - x4 / x6 * x6))]) [0, 1, 2] dX8_gcd_22 (Nat.le_of_ble_eq_true rfl) rfl ?_
      refine z_lload 2 dX8_gcd_24 rfl ?_
      refine z_lstore (lv' := [(4, .long x6), (6, .long (x4 - x4 / x6 * x6)), (8, .long (x4 - x4 / x6 * x6))]) [1, 0, 2] dX8_gcd_26 (Nat.le_of_ble_eq_true rfl) rfl ?_
      refine z_goto (tgt := 6) dX8_gcd_28 (by decide) ?_
      refine z_sub (lv' := [(4, .long x6), (6, .long (x4 - x4 / x6 * x6))]) [0, 1] rfl ?_
      exact ih _ _ _ _ h hk31
set_option maxHeartbeats 2000000 in
set_option maxRecDepth 20000 in
theorem t_X8_gcd (l : Launch) (S : St)  {a0 : Int64} {a2 : Int64} {r : Int64} (h : f_X8_gcd a0 a2 = some r) : CT l yX8_gcd M_X8_gcd [.long a0, .long a2] S (some (.long r)) S := by
  rw [f_X8_gcd] at h
  refine ct_of (lv := [(0, .long a0), (2, .long a2)]) (by decide) rfl (Nat.le_of_ble_eq_true rfl) ?_
  refine z_lload_n 0 dX8_gcd_0 rfl ?_
  refine z_lstore (lv' := [(0, .long a0), (2, .long a2), (4, .long a0)]) [1, 2, 0] dX8_gcd_1 (Nat.le_of_ble_eq_true rfl) rfl ?_
  refine z_lload_n 1 dX8_gcd_3 rfl ?_
  refine z_lstore (lv' := [(0, .long a0), (2, .long a2), (4, .long a0), (6, .long a2)]) [1, 2, 3, 0] dX8_gcd_4 (Nat.le_of_ble_eq_true rfl) rfl ?_
  refine z_sub (lv' := [(4, .long a0), (6, .long a2)]) [2, 3] rfl ?_
  refine t_X8_gcd_L6 l _ _ _ _ _ _ h ?_
  · intro y3 h
    refine z_lload 0 dX8_gcd_31 rfl ?_
    obtain rfl := Option.some.inj h
    exact z_lret dX8_gcd_33 rfl
set_option maxHeartbeats 2000000 in
set_option maxRecDepth 20000 in
theorem t_X8_partOf (l : Launch) (S : St)  {a0 : Int64} {a2 : Int64} {a4 : Int32} {r : Int64} (h : f_X8_partOf a0 a2 a4 = some r) : CT l yX8_partOf M_X8_partOf [.long a0, .long a2, .int a4] S (some (.long r)) S := by
  rw [f_X8_partOf] at h
  refine ct_of (lv := [(0, .long a0), (2, .long a2), (4, .int a4)]) (by decide) rfl (Nat.le_of_ble_eq_true rfl) ?_
  refine z_lload_n 0 dX8_partOf_0 rfl ?_
  refine z_lconst (v := 0) dX8_partOf_1 rfl ?_
  refine z_lcmp dX8_partOf_2 ?_
  refine z_if_ne (tgt := 10) dX8_partOf_3 (by decide) (fun c1 => ?_) (fun c1 => ?_)
  · replace h := ig c1 h
    refine z_iload 2 dX8_partOf_10 rfl ?_
    refine z_if_ne (tgt := 19) dX8_partOf_12 (by decide) (fun c2 => ?_) (fun c2 => ?_)
    · replace h := ig c2 h
      refine z_lload_n 1 dX8_partOf_19 rfl ?_
      refine z_lload_n 0 dX8_partOf_20 rfl ?_
      refine z_lload_n 1 dX8_partOf_21 rfl ?_
      obtain ⟨v3, hv3, h⟩ := ob h
      refine z_callS (as := [.long a0, .long a2]) dX8_partOf_22 ml_8_170 ms_X8_gcd (t_X8_gcd l _ hv3) rfl rfl (Nat.le_of_ble_eq_true rfl) ⟨Nat.le_of_ble_eq_true rfl, Nat.le_of_ble_eq_true rfl⟩ rfl ?_
      obtain ⟨c4, h⟩ := oi h
      refine z_ldiv dX8_partOf_25 c4 ?_
      obtain rfl := Option.some.inj h
      exact z_lret dX8_partOf_26 rfl
    · replace h := ip c2 h
      refine z_lload_n 0 dX8_partOf_15 rfl ?_
      refine z_goto (tgt := 20) dX8_partOf_16 (by decide) ?_
      refine z_lload_n 0 dX8_partOf_20 rfl ?_
      refine z_lload_n 1 dX8_partOf_21 rfl ?_
      obtain ⟨v5, hv5, h⟩ := ob h
      refine z_callS (as := [.long a0, .long a2]) dX8_partOf_22 ml_8_170 ms_X8_gcd (t_X8_gcd l _ hv5) rfl rfl (Nat.le_of_ble_eq_true rfl) ⟨Nat.le_of_ble_eq_true rfl, Nat.le_of_ble_eq_true rfl⟩ rfl ?_
      obtain ⟨c6, h⟩ := oi h
      refine z_ldiv dX8_partOf_25 c6 ?_
      obtain rfl := Option.some.inj h
      exact z_lret dX8_partOf_26 rfl
  · replace h := ip c1 h
    refine z_iload 2 dX8_partOf_6 rfl ?_
    refine z_i2l dX8_partOf_8 ?_
    obtain rfl := Option.some.inj h
    exact z_lret dX8_partOf_9 rfl
set_option maxHeartbeats 2000000 in
set_option maxRecDepth 20000 in
theorem t_X8_slips_L24 (l : Launch)   : ∀ (n : Nat) (x1 : Int32) (x2 : Int32) (x3 : Int32) (x4 : Int32) (x5 : Int64) (x7 : Int32) (x8 : Int64) (x10 : Int32) (S : St) (k45 : Int64 → Option Int64) (r : Int64), f_X8_slips_L24 n x1 x2 x3 x4 x5 x7 x8 x10 S k45 = some r → (∀ (e8 : Int64), k45 e8 = some r → Z l yX8_slips M_X8_slips 45 [(0, .ref 74), (1, .int x1), (2, .int x2), (3, .int x3), (4, .int x4), (5, .long x5), (7, .int x7), (8, .long e8)] [] S (some (.long r)) S) → Z l yX8_slips M_X8_slips 24 [(0, .ref 74), (1, .int x1), (2, .int x2), (3, .int x3), (4, .int x4), (5, .long x5), (7, .int x7), (8, .long x8), (10, .int x10)] [] S (some (.long r)) S := by
  intro n
  induction n with
  | zero =>
    intro x1 x2 x3 x4 x5 x7 x8 x10 S k45 r h hk45
    exact absurd h (by rw [f_X8_slips_L24]; exact fun q => by cases q)
  | succ n ih =>
    intro x1 x2 x3 x4 x5 x7 x8 x10 S k45 r h hk45
    rw [f_X8_slips_L24] at h
    refine z_iload 8 dX8_slips_24 rfl ?_
    refine z_iload_n 2 dX8_slips_26 rfl ?_
    refine z_icmp_ge (tgt := 45) dX8_slips_27 (by decide) (fun c3 => ?_) (fun c3 => ?_)
    · replace h := ip c3 h
      refine z_sub (lv' := [(0, .ref 74), (1, .int x1), (2, .int x2), (3, .int x3), (4, .int x4), (5, .long x5), (7, .int x7), (8, .long x8)]) [0, 1, 2, 3, 4, 5, 6, 7] rfl ?_
      exact hk45 _ h
    · replace h := ig c3 h
      refine z_lload 7 dX8_slips_30 rfl ?_
      refine z_iload_n 3 dX8_slips_32 rfl ?_
      refine z_iconst (v := 1) dX8_slips_33 rfl ?_
      refine z_isub dX8_slips_34 ?_
      refine z_i2l dX8_slips_35 ?_
      refine z_lmul dX8_slips_36 ?_
      refine z_lstore (lv' := [(0, .ref 74), (1, .int x1), (2, .int x2), (3, .int x3), (4, .int x4), (5, .long x5), (7, .int x7), (8, .long (x8 * ((x3 - 1).toInt64))), (10, .int x10)]) [1, 2, 3, 4, 5, 6, 7, 0, 8] dX8_slips_37 (Nat.le_of_ble_eq_true rfl) rfl ?_
      refine z_iinc (lv' := [(0, .ref 74), (1, .int x1), (2, .int x2), (3, .int x3), (4, .int x4), (5, .long x5), (7, .int x7), (8, .long (x8 * ((x3 - 1).toInt64))), (10, .int (x10 + 1))]) (v := x10 + 1) 8 [1, 2, 3, 4, 5, 6, 7, 8, 0] dX8_slips_39 rfl rfl (Nat.le_of_ble_eq_true rfl) rfl ?_
      refine z_goto (tgt := 24) dX8_slips_42 (by decide) ?_
      refine z_sub (lv' := [(0, .ref 74), (1, .int x1), (2, .int x2), (3, .int x3), (4, .int x4), (5, .long x5), (7, .int x7), (8, .long (x8 * ((x3 - 1).toInt64))), (10, .int (x10 + 1))]) [0, 1, 2, 3, 4, 5, 6, 7, 8] rfl ?_
      exact ih _ _ _ _ _ _ _ _ _ _ _ h hk45
set_option maxHeartbeats 2000000 in
set_option maxRecDepth 20000 in
theorem t_X8_slips_L6 (l : Launch)   : ∀ (n : Nat) (x1 : Int32) (x2 : Int32) (x3 : Int32) (x4 : Int32) (x5 : Int64) (x7 : Int32) (S : St) (k112 : Int64 → Option Int64) (r : Int64), f_X8_slips_L6 n x1 x2 x3 x4 x5 x7 S k112 = some r → (∀ (e5 : Int64), k112 e5 = some r → Z l yX8_slips M_X8_slips 112 [(5, .long e5)] [] S (some (.long r)) S) → Z l yX8_slips M_X8_slips 6 [(0, .ref 74), (1, .int x1), (2, .int x2), (3, .int x3), (4, .int x4), (5, .long x5), (7, .int x7)] [] S (some (.long r)) S := by
  intro n
  induction n with
  | zero =>
    intro x1 x2 x3 x4 x5 x7 S k112 r h hk112
    exact absurd h (by rw [f_X8_slips_L6]; exact fun q => by cases q)
  | succ n ih =>
    intro x1 x2 x3 x4 x5 x7 S k112 r h hk112
    rw [f_X8_slips_L6] at h
    refine z_iload 6 dX8_slips_6 rfl ?_
    refine z_iconst (v := 1) dX8_slips_8 rfl ?_
    refine z_iload_n 2 dX8_slips_9 rfl ?_
    refine z_ishl dX8_slips_10 ?_
    refine z_icmp_ge (tgt := 112) dX8_slips_11 (by decide) (fun c1 => ?_) (fun c1 => ?_)
    · replace h := ip c1 h
      refine z_sub (lv' := [(5, .long x5)]) [5] rfl ?_
      exact hk112 _ h
    · replace h := ig c1 h
      refine z_lconst (v := 1) dX8_slips_14 rfl ?_
      refine z_lstore (lv' := [(0, .ref 74), (1, .int x1), (2, .int x2), (3, .int x3), (4, .int x4), (5, .long x5), (7, .int x7), (8, .long 1)]) [1, 2, 3, 4, 5, 6, 7, 0] dX8_slips_15 (Nat.le_of_ble_eq_true rfl) rfl ?_
      refine z_iload 6 dX8_slips_17 rfl ?_
      obtain ⟨v2, hv2, h⟩ := ob h
      refine z_callS (as := [.int x7]) dX8_slips_19 ml_8_174 ms_X8_bits (t_X8_bits l _ hv2) rfl rfl (Nat.le_of_ble_eq_true rfl) ⟨Nat.le_of_ble_eq_true rfl, Nat.le_of_ble_eq_true rfl⟩ rfl ?_
      refine z_istore (lv' := [(0, .ref 74), (1, .int x1), (2, .int x2), (3, .int x3), (4, .int x4), (5, .long x5), (7, .int x7), (8, .long 1), (10, .int v2)]) [1, 2, 3, 4, 5, 6, 7, 8, 0] dX8_slips_22 (Nat.le_of_ble_eq_true rfl) rfl ?_
      refine z_sub (lv' := [(0, .ref 74), (1, .int x1), (2, .int x2), (3, .int x3), (4, .int x4), (5, .long x5), (7, .int x7), (8, .long 1), (10, .int v2)]) [0, 1, 2, 3, 4, 5, 6, 7, 8] rfl ?_
      refine t_X8_slips_L24 l _ _ _ _ _ _ _ _ _ _ _ _ h ?_
      · intro y4 h
        refine z_aload_n 0 dX8_slips_45 rfl ?_
        refine z_get (v := .ref 75) dX8_slips_46 fl_8_9 kdl_74 rfl ?_
        refine z_iload_n 1 dX8_slips_49 rfl ?_
        refine z_iconst (v := 5) dX8_slips_50 rfl ?_
        refine z_iload_n 2 dX8_slips_51 rfl ?_
        refine z_iload 6 dX8_slips_52 rfl ?_
        obtain ⟨v5, hv5, h⟩ := ob h
        refine z_callS (as := [.int x7]) dX8_slips_54 ml_8_174 ms_X8_bits (t_X8_bits l _ hv5) rfl rfl (Nat.le_of_ble_eq_true rfl) ⟨Nat.le_of_ble_eq_true rfl, Nat.le_of_ble_eq_true rfl⟩ rfl ?_
        refine z_isub dX8_slips_57 ?_
        refine z_imul dX8_slips_58 ?_
        refine z_iconst (v := 0) dX8_slips_59 rfl ?_
        obtain ⟨v6, hv6, h⟩ := ob h
        refine z_callS (as := [.ref 75, .int x1, .int (5 * (x2 - v5)), .int 0]) dX8_slips_60 ml_8_73 ms_X8_yearOf (t_X8_yearOf l kdl_75 hv6) rfl rfl (Nat.le_of_ble_eq_true rfl) ⟨Nat.le_of_ble_eq_true rfl, Nat.le_of_ble_eq_true rfl⟩ rfl ?_
        refine z_istore (lv' := [(0, .ref 74), (1, .int x1), (2, .int x2), (3, .int x3), (4, .int x4), (5, .long x5), (7, .int x7), (8, .long y4), (10, .int v6)]) [1, 2, 3, 4, 5, 6, 7, 8, 0] dX8_slips_63 (Nat.le_of_ble_eq_true rfl) rfl ?_
        refine z_lload 5 dX8_slips_65 rfl ?_
        refine z_iload 4 dX8_slips_67 rfl ?_
        refine z_if_ge (tgt := 90) dX8_slips_69 (by decide) (fun c7 => ?_) (fun c7 => ?_)
        · replace h := ip c7 h
          refine z_iload 8 dX8_slips_90 rfl ?_
          refine z_iload 4 dX8_slips_92 rfl ?_
          refine z_icmp_ne (tgt := 102) dX8_slips_94 (by decide) (fun c8 => ?_) (fun c8 => ?_)
          · replace h := ig c8 h
            refine z_lconst (v := 0) dX8_slips_102 rfl ?_
            refine z_ladd dX8_slips_103 ?_
            refine z_lstore (lv' := [(0, .ref 74), (1, .int x1), (2, .int x2), (3, .int x3), (4, .int x4), (5, .long (x5 + 0)), (7, .int x7), (8, .long y4), (10, .int v6)]) [1, 2, 3, 4, 5, 0, 6, 7, 8] dX8_slips_104 (Nat.le_of_ble_eq_true rfl) rfl ?_
            refine z_iinc (lv' := [(0, .ref 74), (1, .int x1), (2, .int x2), (3, .int x3), (4, .int x4), (5, .long (x5 + 0)), (7, .int (x7 + 1)), (8, .long y4), (10, .int v6)]) (v := x7 + 1) 6 [1, 2, 3, 4, 5, 6, 0, 7, 8] dX8_slips_106 rfl rfl (Nat.le_of_ble_eq_true rfl) rfl ?_
            refine z_goto (tgt := 6) dX8_slips_109 (by decide) ?_
            refine z_sub (lv' := [(0, .ref 74), (1, .int x1), (2, .int x2), (3, .int x3), (4, .int x4), (5, .long (x5 + 0)), (7, .int (x7 + 1))]) [0, 1, 2, 3, 4, 5, 6] rfl ?_
            exact ih _ _ _ _ _ _ _ _ _ h hk112
          · replace h := ip c8 h
            refine z_lload 7 dX8_slips_97 rfl ?_
            refine z_goto (tgt := 103) dX8_slips_99 (by decide) ?_
            refine z_ladd dX8_slips_103 ?_
            refine z_lstore (lv' := [(0, .ref 74), (1, .int x1), (2, .int x2), (3, .int x3), (4, .int x4), (5, .long (x5 + y4)), (7, .int x7), (8, .long y4), (10, .int v6)]) [1, 2, 3, 4, 5, 0, 6, 7, 8] dX8_slips_104 (Nat.le_of_ble_eq_true rfl) rfl ?_
            refine z_iinc (lv' := [(0, .ref 74), (1, .int x1), (2, .int x2), (3, .int x3), (4, .int x4), (5, .long (x5 + y4)), (7, .int (x7 + 1)), (8, .long y4), (10, .int v6)]) (v := x7 + 1) 6 [1, 2, 3, 4, 5, 6, 0, 7, 8] dX8_slips_106 rfl rfl (Nat.le_of_ble_eq_true rfl) rfl ?_
            refine z_goto (tgt := 6) dX8_slips_109 (by decide) ?_
            refine z_sub (lv' := [(0, .ref 74), (1, .int x1), (2, .int x2), (3, .int x3), (4, .int x4), (5, .long (x5 + y4)), (7, .int (x7 + 1))]) [0, 1, 2, 3, 4, 5, 6] rfl ?_
            exact ih _ _ _ _ _ _ _ _ _ h hk112
        · replace h := ig c7 h
          refine z_lload 7 dX8_slips_72 rfl ?_
          refine z_aload_n 0 dX8_slips_74 rfl ?_
          refine z_get (v := .ref 75) dX8_slips_75 fl_8_9 kdl_74 rfl ?_
          refine z_iload_n 1 dX8_slips_78 rfl ?_
          refine z_iload 8 dX8_slips_79 rfl ?_
          obtain ⟨v9, hv9, h⟩ := ob h
          refine z_callS (as := [.int x1, .int v6]) dX8_slips_81 ml_8_55 ms_X8_at (t_X8_at l _ hv9) rfl rfl (Nat.le_of_ble_eq_true rfl) ⟨Nat.le_of_ble_eq_true rfl, Nat.le_of_ble_eq_true rfl⟩ rfl ?_
          obtain ⟨c10, h⟩ := oi h
          refine z_iald dX8_slips_84 kdl_75 (by decide) c10 ?_
          refine z_i2l dX8_slips_85 ?_
          refine z_lmul dX8_slips_86 ?_
          refine z_goto (tgt := 103) dX8_slips_87 (by decide) ?_
          refine z_ladd dX8_slips_103 ?_
          refine z_lstore (lv' := [(0, .ref 74), (1, .int x1), (2, .int x2), (3, .int x3), (4, .int x4), (5, .long (x5 + (y4 * ((S.1 75 v9.toNatClampNeg).toInt64)))), (7, .int x7), (8, .long y4), (10, .int v6)]) [1, 2, 3, 4, 5, 0, 6, 7, 8] dX8_slips_104 (Nat.le_of_ble_eq_true rfl) rfl ?_
          refine z_iinc (lv' := [(0, .ref 74), (1, .int x1), (2, .int x2), (3, .int x3), (4, .int x4), (5, .long (x5 + (y4 * ((S.1 75 v9.toNatClampNeg).toInt64)))), (7, .int (x7 + 1)), (8, .long y4), (10, .int v6)]) (v := x7 + 1) 6 [1, 2, 3, 4, 5, 6, 0, 7, 8] dX8_slips_106 rfl rfl (Nat.le_of_ble_eq_true rfl) rfl ?_
          refine z_goto (tgt := 6) dX8_slips_109 (by decide) ?_
          refine z_sub (lv' := [(0, .ref 74), (1, .int x1), (2, .int x2), (3, .int x3), (4, .int x4), (5, .long (x5 + (y4 * ((S.1 75 v9.toNatClampNeg).toInt64)))), (7, .int (x7 + 1))]) [0, 1, 2, 3, 4, 5, 6] rfl ?_
          exact ih _ _ _ _ _ _ _ _ _ h hk112
set_option maxHeartbeats 2000000 in
set_option maxRecDepth 20000 in
theorem t_X8_slips (l : Launch) {S : St}  {a1 : Int32} {a2 : Int32} {a3 : Int32} {a4 : Int32} {r : Int64} (h : f_X8_slips a1 a2 a3 a4 S = some r) : CT l yX8_slips M_X8_slips [.ref 74, .int a1, .int a2, .int a3, .int a4] S (some (.long r)) S := by
  rw [f_X8_slips] at h
  refine ct_of (lv := [(0, .ref 74), (1, .int a1), (2, .int a2), (3, .int a3), (4, .int a4)]) (by decide) rfl (Nat.le_of_ble_eq_true rfl) ?_
  refine z_lconst (v := 0) dX8_slips_0 rfl ?_
  refine z_lstore (lv' := [(0, .ref 74), (1, .int a1), (2, .int a2), (3, .int a3), (4, .int a4), (5, .long 0)]) [1, 2, 3, 4, 5, 0] dX8_slips_1 (Nat.le_of_ble_eq_true rfl) rfl ?_
  refine z_iconst (v := 0) dX8_slips_3 rfl ?_
  refine z_istore (lv' := [(0, .ref 74), (1, .int a1), (2, .int a2), (3, .int a3), (4, .int a4), (5, .long 0), (7, .int 0)]) [1, 2, 3, 4, 5, 6, 0] dX8_slips_4 (Nat.le_of_ble_eq_true rfl) rfl ?_
  refine z_sub (lv' := [(0, .ref 74), (1, .int a1), (2, .int a2), (3, .int a3), (4, .int a4), (5, .long 0), (7, .int 0)]) [0, 1, 2, 3, 4, 5, 6] rfl ?_
  refine t_X8_slips_L6 l _ _ _ _ _ _ _ _ _ _ h ?_
  · intro y11 h
    refine z_lload 0 dX8_slips_112 rfl ?_
    obtain rfl := Option.some.inj h
    exact z_lret dX8_slips_114 rfl
set_option maxHeartbeats 2000000 in
set_option maxRecDepth 20000 in
theorem t_X8_power_L5 (l : Launch)   (S : St) : ∀ (n : Nat) (x0 : Int32) (x1 : Int32) (x2 : Int64) (x4 : Int32) (k22 : Int64 → Option Int64) (r : Int64), f_X8_power_L5 n x0 x1 x2 x4 k22 = some r → (∀ (e2 : Int64), k22 e2 = some r → Z l yX8_power M_X8_power 22 [(2, .long e2)] [] S (some (.long r)) S) → Z l yX8_power M_X8_power 5 [(0, .int x0), (1, .int x1), (2, .long x2), (4, .int x4)] [] S (some (.long r)) S := by
  intro n
  induction n with
  | zero =>
    intro x0 x1 x2 x4 k22 r h hk22
    exact absurd h (by rw [f_X8_power_L5]; exact fun q => by cases q)
  | succ n ih =>
    intro x0 x1 x2 x4 k22 r h hk22
    rw [f_X8_power_L5] at h
    refine z_iload 3 dX8_power_5 rfl ?_
    refine z_iload_n 1 dX8_power_7 rfl ?_
    refine z_icmp_ge (tgt := 22) dX8_power_8 (by decide) (fun c1 => ?_) (fun c1 => ?_)
    · replace h := ip c1 h
      refine z_sub (lv' := [(2, .long x2)]) [2] rfl ?_
      exact hk22 _ h
    · replace h := ig c1 h
      refine z_lload_n 2 dX8_power_11 rfl ?_
      refine z_iload_n 0 dX8_power_12 rfl ?_
      refine z_i2l dX8_power_13 ?_
      refine z_lmul dX8_power_14 ?_
      refine z_lstore_n (lv' := [(0, .int x0), (1, .int x1), (2, .long (x2 * x0.toInt64)), (4, .int x4)]) [1, 2, 0, 3] dX8_power_15 (Nat.le_of_ble_eq_true rfl) rfl ?_
      refine z_iinc (lv' := [(0, .int x0), (1, .int x1), (2, .long (x2 * x0.toInt64)), (4, .int (x4 + 1))]) (v := x4 + 1) 3 [1, 2, 3, 0] dX8_power_16 rfl rfl (Nat.le_of_ble_eq_true rfl) rfl ?_
      refine z_goto (tgt := 5) dX8_power_19 (by decide) ?_
      refine z_sub (lv' := [(0, .int x0), (1, .int x1), (2, .long (x2 * x0.toInt64)), (4, .int (x4 + 1))]) [0, 1, 2, 3] rfl ?_
      exact ih _ _ _ _ _ _ h hk22
set_option maxHeartbeats 2000000 in
set_option maxRecDepth 20000 in
theorem t_X8_power (l : Launch) (S : St)  {a0 : Int32} {a1 : Int32} {r : Int64} (h : f_X8_power a0 a1 = some r) : CT l yX8_power M_X8_power [.int a0, .int a1] S (some (.long r)) S := by
  rw [f_X8_power] at h
  refine ct_of (lv := [(0, .int a0), (1, .int a1)]) (by decide) rfl (Nat.le_of_ble_eq_true rfl) ?_
  refine z_lconst (v := 1) dX8_power_0 rfl ?_
  refine z_lstore_n (lv' := [(0, .int a0), (1, .int a1), (2, .long 1)]) [1, 2, 0] dX8_power_1 (Nat.le_of_ble_eq_true rfl) rfl ?_
  refine z_iconst (v := 0) dX8_power_2 rfl ?_
  refine z_istore (lv' := [(0, .int a0), (1, .int a1), (2, .long 1), (4, .int 0)]) [1, 2, 3, 0] dX8_power_3 (Nat.le_of_ble_eq_true rfl) rfl ?_
  refine z_sub (lv' := [(0, .int a0), (1, .int a1), (2, .long 1), (4, .int 0)]) [0, 1, 2, 3] rfl ?_
  refine t_X8_power_L5 l _ _ _ _ _ _ _ _ h ?_
  · intro y2 h
    refine z_lload_n 0 dX8_power_22 rfl ?_
    obtain rfl := Option.some.inj h
    exact z_lret dX8_power_23 rfl
set_option maxHeartbeats 2000000 in
set_option maxRecDepth 20000 in
theorem t_X8_slip (l : Launch) {S : St}  {a1 : Int32} {a2 : Int32} {a3 : Int32} {a4 : Int32} {a5 : Int32} {r : (Int64 × St)} (h : f_X8_slip a1 a2 a3 a4 a5 S = some r) : CT l yX8_slip M_X8_slip [.ref 74, .int a1, .int a2, .int a3, .int a4, .int a5] S (some (.long r.1)) r.2 := by
  rw [f_X8_slip] at h
  refine ct_of (lv := [(0, .ref 74), (1, .int a1), (2, .int a2), (3, .int a3), (4, .int a4), (5, .int a5)]) (by decide) rfl (Nat.le_of_ble_eq_true rfl) ?_
  refine z_aload_n 0 dX8_slip_0 rfl ?_
  refine z_iload_n 1 dX8_slip_1 rfl ?_
  obtain ⟨v1, hv1, h⟩ := ob h
  refine z_callV (as := [.int a1]) dX8_slip_2 ml_8_101 mv_X8_isThing (t_X8_isThing l hv1) kdl_74 ⟨by decide, rfl⟩ rfl rfl (Nat.le_of_ble_eq_true rfl) ⟨Nat.le_of_ble_eq_true rfl, Nat.le_of_ble_eq_true rfl⟩ rfl ?_
  refine z_if_eq (tgt := 16) dX8_slip_5 (by decide) (fun c2 => ?_) (fun c2 => ?_)
  · replace h := ip c2 h
    refine z_aload_n 0 dX8_slip_16 rfl ?_
    refine z_iconst (v := (-1)) dX8_slip_17 rfl ?_
    obtain ⟨z3, hz3, h⟩ := ob h
    refine z_callV (as := [.int (-1)]) dX8_slip_18 ml_8_177 mv_X8_noWide (t_X8_noWide l hz3) kdl_74 ⟨by decide, rfl⟩ rfl rfl (Nat.le_of_ble_eq_true rfl) ⟨Nat.le_of_ble_eq_true rfl, Nat.le_of_ble_eq_true rfl⟩ rfl ?_
    obtain rfl := Option.some.inj h
    exact z_lret dX8_slip_21 rfl
  · replace h := ig c2 h
    refine z_iload 4 dX8_slip_8 rfl ?_
    obtain ⟨v4, hv4, h⟩ := ob h
    refine z_callS (as := [.int a4]) dX8_slip_10 ml_8_105 ms_X8_isYear (t_X8_isYear l _ hv4) rfl rfl (Nat.le_of_ble_eq_true rfl) ⟨Nat.le_of_ble_eq_true rfl, Nat.le_of_ble_eq_true rfl⟩ rfl ?_
    refine z_if_ne (tgt := 22) dX8_slip_13 (by decide) (fun c5 => ?_) (fun c5 => ?_)
    · replace h := ig c5 h
      refine z_iload_n 2 dX8_slip_22 rfl ?_
      refine z_if_lt (tgt := 31) dX8_slip_23 (by decide) (fun c6 => ?_) (fun c6 => ?_)
      · replace h := ip c6 h
        refine z_aload_n 0 dX8_slip_31 rfl ?_
        refine z_bipush (v := (-4)) dX8_slip_32 rfl ?_
        obtain ⟨z7, hz7, h⟩ := ob h
        refine z_callV (as := [.int (-4)]) dX8_slip_34 ml_8_177 mv_X8_noWide (t_X8_noWide l hz7) kdl_74 ⟨by decide, rfl⟩ rfl rfl (Nat.le_of_ble_eq_true rfl) ⟨Nat.le_of_ble_eq_true rfl, Nat.le_of_ble_eq_true rfl⟩ rfl ?_
        obtain rfl := Option.some.inj h
        exact z_lret dX8_slip_37 rfl
      · replace h := ig c6 h
        refine z_iload_n 3 dX8_slip_26 rfl ?_
        refine z_iconst (v := 2) dX8_slip_27 rfl ?_
        refine z_icmp_ge (tgt := 38) dX8_slip_28 (by decide) (fun c8 => ?_) (fun c8 => ?_)
        · replace h := ip c8 h
          refine z_iload_n 2 dX8_slip_38 rfl ?_
          refine z_bipush (v := 8) dX8_slip_39 rfl ?_
          refine z_icmp_gt (tgt := 50) dX8_slip_41 (by decide) (fun c9 => ?_) (fun c9 => ?_)
          · replace h := ip c9 h
            refine z_aload_n 0 dX8_slip_50 rfl ?_
            refine z_bipush (v := (-6)) dX8_slip_51 rfl ?_
            obtain ⟨z10, hz10, h⟩ := ob h
            refine z_callV (as := [.int (-6)]) dX8_slip_53 ml_8_177 mv_X8_noWide (t_X8_noWide l hz10) kdl_74 ⟨by decide, rfl⟩ rfl rfl (Nat.le_of_ble_eq_true rfl) ⟨Nat.le_of_ble_eq_true rfl, Nat.le_of_ble_eq_true rfl⟩ rfl ?_
            obtain rfl := Option.some.inj h
            exact z_lret dX8_slip_56 rfl
          · replace h := ig c9 h
            refine z_iload_n 3 dX8_slip_44 rfl ?_
            refine z_bipush (v := 20) dX8_slip_45 rfl ?_
            refine z_icmp_le (tgt := 57) dX8_slip_47 (by decide) (fun c11 => ?_) (fun c11 => ?_)
            · replace h := ip c11 h
              refine z_iload 5 dX8_slip_57 rfl ?_
              refine z_iconst (v := 0) dX8_slip_59 rfl ?_
              refine z_iconst (v := 1) dX8_slip_60 rfl ?_
              obtain ⟨v12, hv12, h⟩ := ob h
              refine z_callS (as := [.int a5, .int 0, .int 1]) dX8_slip_61 ml_8_47 ms_X8_isIn (t_X8_isIn l _ hv12) rfl rfl (Nat.le_of_ble_eq_true rfl) ⟨Nat.le_of_ble_eq_true rfl, Nat.le_of_ble_eq_true rfl⟩ rfl ?_
              refine z_if_ne (tgt := 74) dX8_slip_64 (by decide) (fun c13 => ?_) (fun c13 => ?_)
              · replace h := ig c13 h
                refine z_aload_n 0 dX8_slip_74 rfl ?_
                refine z_iload_n 1 dX8_slip_75 rfl ?_
                refine z_iload_n 2 dX8_slip_76 rfl ?_
                refine z_iload_n 3 dX8_slip_77 rfl ?_
                refine z_iload 4 dX8_slip_78 rfl ?_
                obtain ⟨v14, hv14, h⟩ := ob h
                refine z_callV (as := [.int a1, .int a2, .int a3, .int a4]) dX8_slip_80 ml_8_181 mv_X8_slips (t_X8_slips l hv14) kdl_74 ⟨by decide, rfl⟩ rfl rfl (Nat.le_of_ble_eq_true rfl) ⟨Nat.le_of_ble_eq_true rfl, Nat.le_of_ble_eq_true rfl⟩ rfl ?_
                refine z_iload_n 3 dX8_slip_83 rfl ?_
                refine z_iload_n 2 dX8_slip_84 rfl ?_
                obtain ⟨v15, hv15, h⟩ := ob h
                refine z_callS (as := [.int a3, .int a2]) dX8_slip_85 ml_8_185 ms_X8_power (t_X8_power l _ hv15) rfl rfl (Nat.le_of_ble_eq_true rfl) ⟨Nat.le_of_ble_eq_true rfl, Nat.le_of_ble_eq_true rfl⟩ rfl ?_
                refine z_iload 5 dX8_slip_88 rfl ?_
                obtain ⟨v16, hv16, h⟩ := ob h
                refine z_callS (as := [.long v14, .long v15, .int a5]) dX8_slip_90 ml_8_189 ms_X8_partOf (t_X8_partOf l _ hv16) rfl rfl (Nat.le_of_ble_eq_true rfl) ⟨Nat.le_of_ble_eq_true rfl, Nat.le_of_ble_eq_true rfl⟩ rfl ?_
                obtain rfl := Option.some.inj h
                exact z_lret dX8_slip_93 rfl
              · replace h := ip c13 h
                refine z_aload_n 0 dX8_slip_67 rfl ?_
                refine z_bipush (v := (-2)) dX8_slip_68 rfl ?_
                obtain ⟨z17, hz17, h⟩ := ob h
                refine z_callV (as := [.int (-2)]) dX8_slip_70 ml_8_177 mv_X8_noWide (t_X8_noWide l hz17) kdl_74 ⟨by decide, rfl⟩ rfl rfl (Nat.le_of_ble_eq_true rfl) ⟨Nat.le_of_ble_eq_true rfl, Nat.le_of_ble_eq_true rfl⟩ rfl ?_
                obtain rfl := Option.some.inj h
                exact z_lret dX8_slip_73 rfl
            · replace h := ig c11 h
              refine z_aload_n 0 dX8_slip_50 rfl ?_
              refine z_bipush (v := (-6)) dX8_slip_51 rfl ?_
              obtain ⟨z18, hz18, h⟩ := ob h
              refine z_callV (as := [.int (-6)]) dX8_slip_53 ml_8_177 mv_X8_noWide (t_X8_noWide l hz18) kdl_74 ⟨by decide, rfl⟩ rfl rfl (Nat.le_of_ble_eq_true rfl) ⟨Nat.le_of_ble_eq_true rfl, Nat.le_of_ble_eq_true rfl⟩ rfl ?_
              obtain rfl := Option.some.inj h
              exact z_lret dX8_slip_56 rfl
        · replace h := ig c8 h
          refine z_aload_n 0 dX8_slip_31 rfl ?_
          refine z_bipush (v := (-4)) dX8_slip_32 rfl ?_
          obtain ⟨z19, hz19, h⟩ := ob h
          refine z_callV (as := [.int (-4)]) dX8_slip_34 ml_8_177 mv_X8_noWide (t_X8_noWide l hz19) kdl_74 ⟨by decide, rfl⟩ rfl rfl (Nat.le_of_ble_eq_true rfl) ⟨Nat.le_of_ble_eq_true rfl, Nat.le_of_ble_eq_true rfl⟩ rfl ?_
          obtain rfl := Option.some.inj h
          exact z_lret dX8_slip_37 rfl
    · replace h := ip c5 h
      refine z_aload_n 0 dX8_slip_16 rfl ?_
      refine z_iconst (v := (-1)) dX8_slip_17 rfl ?_
      obtain ⟨z20, hz20, h⟩ := ob h
      refine z_callV (as := [.int (-1)]) dX8_slip_18 ml_8_177 mv_X8_noWide (t_X8_noWide l hz20) kdl_74 ⟨by decide, rfl⟩ rfl rfl (Nat.le_of_ble_eq_true rfl) ⟨Nat.le_of_ble_eq_true rfl, Nat.le_of_ble_eq_true rfl⟩ rfl ?_
      obtain rfl := Option.some.inj h
      exact z_lret dX8_slip_21 rfl
set_option maxHeartbeats 2000000 in
set_option maxRecDepth 20000 in
theorem t_X8_mean (l : Launch) {S : St}  {a1 : Int32} {a2 : Int32} {a3 : Int32} {a4 : Int32} {r : (Int64 × St)} (h : f_X8_mean a1 a2 a3 a4 S = some r) : CT l yX8_mean M_X8_mean [.ref 74, .int a1, .int a2, .int a3, .int a4] S (some (.long r.1)) r.2 := by
  rw [f_X8_mean] at h
  refine ct_of (lv := [(0, .ref 74), (1, .int a1), (2, .int a2), (3, .int a3), (4, .int a4)]) (by decide) rfl (Nat.le_of_ble_eq_true rfl) ?_
  refine z_aload_n 0 dX8_mean_0 rfl ?_
  refine z_iload_n 1 dX8_mean_1 rfl ?_
  obtain ⟨v1, hv1, h⟩ := ob h
  refine z_callV (as := [.int a1]) dX8_mean_2 ml_8_101 mv_X8_isThing (t_X8_isThing l hv1) kdl_74 ⟨by decide, rfl⟩ rfl rfl (Nat.le_of_ble_eq_true rfl) ⟨Nat.le_of_ble_eq_true rfl, Nat.le_of_ble_eq_true rfl⟩ rfl ?_
  refine z_if_ne (tgt := 14) dX8_mean_5 (by decide) (fun c2 => ?_) (fun c2 => ?_)
  · replace h := ig c2 h
    refine z_iload_n 2 dX8_mean_14 rfl ?_
    refine z_if_lt (tgt := 23) dX8_mean_15 (by decide) (fun c3 => ?_) (fun c3 => ?_)
    · replace h := ip c3 h
      refine z_aload_n 0 dX8_mean_23 rfl ?_
      refine z_bipush (v := (-4)) dX8_mean_24 rfl ?_
      obtain ⟨z4, hz4, h⟩ := ob h
      refine z_callV (as := [.int (-4)]) dX8_mean_26 ml_8_177 mv_X8_noWide (t_X8_noWide l hz4) kdl_74 ⟨by decide, rfl⟩ rfl rfl (Nat.le_of_ble_eq_true rfl) ⟨Nat.le_of_ble_eq_true rfl, Nat.le_of_ble_eq_true rfl⟩ rfl ?_
      obtain rfl := Option.some.inj h
      exact z_lret dX8_mean_29 rfl
    · replace h := ig c3 h
      refine z_iload_n 3 dX8_mean_18 rfl ?_
      refine z_iconst (v := 2) dX8_mean_19 rfl ?_
      refine z_icmp_ge (tgt := 30) dX8_mean_20 (by decide) (fun c5 => ?_) (fun c5 => ?_)
      · replace h := ip c5 h
        refine z_iload_n 2 dX8_mean_30 rfl ?_
        refine z_bipush (v := 8) dX8_mean_31 rfl ?_
        refine z_icmp_gt (tgt := 42) dX8_mean_33 (by decide) (fun c6 => ?_) (fun c6 => ?_)
        · replace h := ip c6 h
          refine z_aload_n 0 dX8_mean_42 rfl ?_
          refine z_bipush (v := (-6)) dX8_mean_43 rfl ?_
          obtain ⟨z7, hz7, h⟩ := ob h
          refine z_callV (as := [.int (-6)]) dX8_mean_45 ml_8_177 mv_X8_noWide (t_X8_noWide l hz7) kdl_74 ⟨by decide, rfl⟩ rfl rfl (Nat.le_of_ble_eq_true rfl) ⟨Nat.le_of_ble_eq_true rfl, Nat.le_of_ble_eq_true rfl⟩ rfl ?_
          obtain rfl := Option.some.inj h
          exact z_lret dX8_mean_48 rfl
        · replace h := ig c6 h
          refine z_iload_n 3 dX8_mean_36 rfl ?_
          refine z_bipush (v := 20) dX8_mean_37 rfl ?_
          refine z_icmp_le (tgt := 49) dX8_mean_39 (by decide) (fun c8 => ?_) (fun c8 => ?_)
          · replace h := ip c8 h
            refine z_iload 4 dX8_mean_49 rfl ?_
            refine z_iconst (v := 0) dX8_mean_51 rfl ?_
            refine z_iconst (v := 1) dX8_mean_52 rfl ?_
            obtain ⟨v9, hv9, h⟩ := ob h
            refine z_callS (as := [.int a4, .int 0, .int 1]) dX8_mean_53 ml_8_47 ms_X8_isIn (t_X8_isIn l _ hv9) rfl rfl (Nat.le_of_ble_eq_true rfl) ⟨Nat.le_of_ble_eq_true rfl, Nat.le_of_ble_eq_true rfl⟩ rfl ?_
            refine z_if_ne (tgt := 66) dX8_mean_56 (by decide) (fun c10 => ?_) (fun c10 => ?_)
            · replace h := ig c10 h
              refine z_aload_n 0 dX8_mean_66 rfl ?_
              refine z_iload_n 1 dX8_mean_67 rfl ?_
              refine z_iload_n 2 dX8_mean_68 rfl ?_
              refine z_iload_n 3 dX8_mean_69 rfl ?_
              refine z_iconst (v := (-1)) dX8_mean_70 rfl ?_
              obtain ⟨v11, hv11, h⟩ := ob h
              refine z_callV (as := [.int a1, .int a2, .int a3, .int (-1)]) dX8_mean_71 ml_8_181 mv_X8_slips (t_X8_slips l hv11) kdl_74 ⟨by decide, rfl⟩ rfl rfl (Nat.le_of_ble_eq_true rfl) ⟨Nat.le_of_ble_eq_true rfl, Nat.le_of_ble_eq_true rfl⟩ rfl ?_
              refine z_iload_n 3 dX8_mean_74 rfl ?_
              refine z_iload_n 2 dX8_mean_75 rfl ?_
              obtain ⟨v12, hv12, h⟩ := ob h
              refine z_callS (as := [.int a3, .int a2]) dX8_mean_76 ml_8_185 ms_X8_power (t_X8_power l _ hv12) rfl rfl (Nat.le_of_ble_eq_true rfl) ⟨Nat.le_of_ble_eq_true rfl, Nat.le_of_ble_eq_true rfl⟩ rfl ?_
              refine z_iload 4 dX8_mean_79 rfl ?_
              obtain ⟨v13, hv13, h⟩ := ob h
              refine z_callS (as := [.long v11, .long v12, .int a4]) dX8_mean_81 ml_8_189 ms_X8_partOf (t_X8_partOf l _ hv13) rfl rfl (Nat.le_of_ble_eq_true rfl) ⟨Nat.le_of_ble_eq_true rfl, Nat.le_of_ble_eq_true rfl⟩ rfl ?_
              obtain rfl := Option.some.inj h
              exact z_lret dX8_mean_84 rfl
            · replace h := ip c10 h
              refine z_aload_n 0 dX8_mean_59 rfl ?_
              refine z_bipush (v := (-2)) dX8_mean_60 rfl ?_
              obtain ⟨z14, hz14, h⟩ := ob h
              refine z_callV (as := [.int (-2)]) dX8_mean_62 ml_8_177 mv_X8_noWide (t_X8_noWide l hz14) kdl_74 ⟨by decide, rfl⟩ rfl rfl (Nat.le_of_ble_eq_true rfl) ⟨Nat.le_of_ble_eq_true rfl, Nat.le_of_ble_eq_true rfl⟩ rfl ?_
              obtain rfl := Option.some.inj h
              exact z_lret dX8_mean_65 rfl
          · replace h := ig c8 h
            refine z_aload_n 0 dX8_mean_42 rfl ?_
            refine z_bipush (v := (-6)) dX8_mean_43 rfl ?_
            obtain ⟨z15, hz15, h⟩ := ob h
            refine z_callV (as := [.int (-6)]) dX8_mean_45 ml_8_177 mv_X8_noWide (t_X8_noWide l hz15) kdl_74 ⟨by decide, rfl⟩ rfl rfl (Nat.le_of_ble_eq_true rfl) ⟨Nat.le_of_ble_eq_true rfl, Nat.le_of_ble_eq_true rfl⟩ rfl ?_
            obtain rfl := Option.some.inj h
            exact z_lret dX8_mean_48 rfl
      · replace h := ig c5 h
        refine z_aload_n 0 dX8_mean_23 rfl ?_
        refine z_bipush (v := (-4)) dX8_mean_24 rfl ?_
        obtain ⟨z16, hz16, h⟩ := ob h
        refine z_callV (as := [.int (-4)]) dX8_mean_26 ml_8_177 mv_X8_noWide (t_X8_noWide l hz16) kdl_74 ⟨by decide, rfl⟩ rfl rfl (Nat.le_of_ble_eq_true rfl) ⟨Nat.le_of_ble_eq_true rfl, Nat.le_of_ble_eq_true rfl⟩ rfl ?_
        obtain rfl := Option.some.inj h
        exact z_lret dX8_mean_29 rfl
  · replace h := ip c2 h
    refine z_aload_n 0 dX8_mean_8 rfl ?_
    refine z_iconst (v := (-1)) dX8_mean_9 rfl ?_
    obtain ⟨z17, hz17, h⟩ := ob h
    refine z_callV (as := [.int (-1)]) dX8_mean_10 ml_8_177 mv_X8_noWide (t_X8_noWide l hz17) kdl_74 ⟨by decide, rfl⟩ rfl rfl (Nat.le_of_ble_eq_true rfl) ⟨Nat.le_of_ble_eq_true rfl, Nat.le_of_ble_eq_true rfl⟩ rfl ?_
    obtain rfl := Option.some.inj h
    exact z_lret dX8_mean_13 rfl
