set_option maxHeartbeats 2000000 in
set_option maxRecDepth 20000 in
theorem t_X8_isDone_L225 (l : Launch)   : ∀ (n : Nat) (x2 : Int32) (x4 : Int32) (S : St) (k259 : St → Option (Int32 × St)) (r : (Int32 × St)), f_X8_isDone_L225 n x2 x4 S k259 = some r → (∀ (T : St), k259 T = some r → Z l yX8_isDone M_X8_isDone 259 [] [] T (some (.int r.1)) r.2) → Z l yX8_isDone M_X8_isDone 225 [(0, .ref 74), (2, .int x2), (4, .int x4)] [] S (some (.int r.1)) r.2 := by
  intro n
  induction n with
  | zero =>
    intro x2 x4 S k259 r h hk259
    exact absurd h (by rw [f_X8_isDone_L225]; exact fun q => by cases q)
  | succ n ih =>
    intro x2 x4 S k259 r h hk259
    rw [f_X8_isDone_L225] at h
    refine z_iload 2 dX8_isDone_225 rfl ?_
    refine z_aload_n 0 dX8_isDone_227 rfl ?_
    refine z_get (v := .ref 82) dX8_isDone_228 fl_8_31 kdl_74 rfl ?_
    refine z_iconst (v := 2) dX8_isDone_231 rfl ?_
    refine z_ialdK (j := 2) dX8_isDone_232 kdl_82 (by decide) (by decide) (by decide) ?_
    refine z_icmp_gt (tgt := 259) dX8_isDone_233 (by decide) (fun c8 => ?_) (fun c8 => ?_)
    · replace h := ip c8 h
      refine z_sub (lv' := []) [] rfl ?_
      exact hk259 _ h
    · replace h := ig c8 h
      refine z_aload_n 0 dX8_isDone_236 rfl ?_
      refine z_get (v := .ref 75) dX8_isDone_237 fl_8_9 kdl_74 rfl ?_
      refine z_iload_n 1 dX8_isDone_240 rfl ?_
      refine z_iload 2 dX8_isDone_241 rfl ?_
      obtain ⟨v9, hv9, h⟩ := ob h
      refine z_callS (as := [.int x2, .int x4]) dX8_isDone_243 ml_8_55 ms_X8_at (t_X8_at l _ hv9) rfl rfl (Nat.le_of_ble_eq_true rfl) ⟨Nat.le_of_ble_eq_true rfl, Nat.le_of_ble_eq_true rfl⟩ rfl ?_
      refine z_aload_n 0 dX8_isDone_246 rfl ?_
      refine z_get (v := .ref 82) dX8_isDone_247 fl_8_31 kdl_74 rfl ?_
      refine z_iconst (v := 3) dX8_isDone_250 rfl ?_
      refine z_ialdK (j := 3) dX8_isDone_251 kdl_82 (by decide) (by decide) (by decide) ?_
      obtain ⟨c10, h⟩ := oi h
      refine z_iast dX8_isDone_252 kdl_75 (by decide) c10 ?_
      refine z_iinc (lv' := [(0, .ref 74), (2, .int x2), (4, .int (x4 + 1))]) (v := x4 + 1) 2 [1, 2, 0] dX8_isDone_253 rfl rfl (Nat.le_of_ble_eq_true rfl) rfl ?_
      refine z_goto (tgt := 225) dX8_isDone_256 (by decide) ?_
      refine z_sub (lv' := [(0, .ref 74), (2, .int x2), (4, .int (x4 + 1))]) [0, 1, 2] rfl ?_
      exact ih _ _ _ _ _ h hk259
set_option maxHeartbeats 2000000 in
set_option maxRecDepth 20000 in
theorem t_X8_isDone_L133 (l : Launch)   : ∀ (n : Nat) (x4 : Int32) (S : St) (k163 : St → Option (Int32 × St)) (r : (Int32 × St)), f_X8_isDone_L133 n x4 S k163 = some r → (∀ (T : St), k163 T = some r → Z l yX8_isDone M_X8_isDone 163 [(0, .ref 74)] [] T (some (.int r.1)) r.2) → Z l yX8_isDone M_X8_isDone 133 [(0, .ref 74), (4, .int x4)] [] S (some (.int r.1)) r.2 := by
  intro n
  induction n with
  | zero =>
    intro x4 S k163 r h hk163
    exact absurd h (by rw [f_X8_isDone_L133]; exact fun q => by cases q)
  | succ n ih =>
    intro x4 S k163 r h hk163
    rw [f_X8_isDone_L133] at h
    refine z_iload 1 dX8_isDone_133 rfl ?_
    refine z_bipush (v := 12) dX8_isDone_135 rfl ?_
    refine z_icmp_ge (tgt := 163) dX8_isDone_137 (by decide) (fun c24 => ?_) (fun c24 => ?_)
    · replace h := ip c24 h
      refine z_sub (lv' := [(0, .ref 74)]) [0] rfl ?_
      exact hk163 _ h
    · replace h := ig c24 h
      refine z_aload_n 0 dX8_isDone_140 rfl ?_
      refine z_get (v := .ref 75) dX8_isDone_141 fl_8_9 kdl_74 rfl ?_
      refine z_aload_n 0 dX8_isDone_144 rfl ?_
      refine z_get (v := .ref 75) dX8_isDone_145 fl_8_9 kdl_74 rfl ?_
      refine z_iconst (v := 0) dX8_isDone_148 rfl ?_
      refine z_ialdK (j := 0) dX8_isDone_149 kdl_75 (by decide) (by decide) (by decide) ?_
      refine z_iload 1 dX8_isDone_150 rfl ?_
      obtain ⟨v25, hv25, h⟩ := ob h
      refine z_callS (as := [.int (S.1 75 0), .int x4]) dX8_isDone_152 ml_8_55 ms_X8_at (t_X8_at l _ hv25) rfl rfl (Nat.le_of_ble_eq_true rfl) ⟨Nat.le_of_ble_eq_true rfl, Nat.le_of_ble_eq_true rfl⟩ rfl ?_
      refine z_iconst (v := 0) dX8_isDone_155 rfl ?_
      obtain ⟨c26, h⟩ := oi h
      refine z_iast dX8_isDone_156 kdl_75 (by decide) c26 ?_
      refine z_iinc (lv' := [(0, .ref 74), (4, .int (x4 + 1))]) (v := x4 + 1) 1 [1, 0] dX8_isDone_157 rfl rfl (Nat.le_of_ble_eq_true rfl) rfl ?_
      refine z_goto (tgt := 133) dX8_isDone_160 (by decide) ?_
      refine z_sub (lv' := [(0, .ref 74), (4, .int (x4 + 1))]) [0, 1] rfl ?_
      exact ih _ _ _ _ h hk163
set_option maxHeartbeats 2000000 in
set_option maxRecDepth 20000 in
theorem t_X8_isDone (l : Launch) {S : St}  {a1 : Int32} {r : (Int32 × St)} (h : f_X8_isDone a1 S = some r) : CT l yX8_isDone M_X8_isDone [.ref 74, .int a1] S (some (.int r.1)) r.2 := by
  rw [f_X8_isDone] at h
  refine ct_of (lv := [(0, .ref 74), (1, .int a1)]) (by decide) rfl (Nat.le_of_ble_eq_true rfl) ?_
  refine z_aload_n 0 dX8_isDone_0 rfl ?_
  refine z_get (v := .ref 82) dX8_isDone_1 fl_8_31 kdl_74 rfl ?_
  refine z_iconst (v := 0) dX8_isDone_4 rfl ?_
  refine z_ialdK (j := 0) dX8_isDone_5 kdl_82 (by decide) (by decide) (by decide) ?_
  refine z_istore_n (lv' := [(0, .ref 74), (1, .int a1), (2, .int (S.1 82 0))]) [1, 2, 0] dX8_isDone_6 (Nat.le_of_ble_eq_true rfl) rfl ?_
  refine z_aload_n 0 dX8_isDone_7 rfl ?_
  refine z_get (v := .ref 82) dX8_isDone_8 fl_8_31 kdl_74 rfl ?_
  refine z_iconst (v := 1) dX8_isDone_11 rfl ?_
  refine z_ialdK (j := 1) dX8_isDone_12 kdl_82 (by decide) (by decide) (by decide) ?_
  refine z_istore_n (lv' := [(0, .ref 74), (1, .int a1), (2, .int (S.1 82 0)), (3, .int (S.1 82 1))]) [1, 2, 3, 0] dX8_isDone_13 (Nat.le_of_ble_eq_true rfl) rfl ?_
  refine z_iload_n 1 dX8_isDone_14 rfl ?_
  by_cases c1 : a1 = 100
  · replace h := ip c1 h
    refine z_lookup (off := 289) (tgt := 304) dX8_isDone_15 (by decide) (by rw [c1]; decide) (by decide) ?_
    refine z_aload_n 0 dX8_isDone_304 rfl ?_
    refine z_get (v := .ref 75) dX8_isDone_305 fl_8_9 kdl_74 rfl ?_
    refine z_iconst (v := 2) dX8_isDone_308 rfl ?_
    refine z_iload_n 2 dX8_isDone_309 rfl ?_
    refine z_iastK (j := 2) dX8_isDone_310 kdl_75 (by decide) (by decide) (by decide) ?_
    refine z_iconst (v := 1) dX8_isDone_311 rfl ?_
    obtain rfl := Option.some.inj h
    exact z_iret dX8_isDone_312 rfl rfl
  replace h := ig c1 h
  by_cases c2 : a1 = 103
  · replace h := ip c2 h
    refine z_lookup (off := 175) (tgt := 190) dX8_isDone_15 (by decide) (by rw [c2]; decide) (by decide) ?_
    refine z_aload_n 0 dX8_isDone_190 rfl ?_
    refine z_iload_n 2 dX8_isDone_191 rfl ?_
    obtain ⟨v3, hv3, h⟩ := ob h
    refine z_callV (as := [.int (S.1 82 0)]) dX8_isDone_192 ml_8_101 mv_X8_isThing (t_X8_isThing l hv3) kdl_74 ⟨by decide, rfl⟩ rfl rfl (Nat.le_of_ble_eq_true rfl) ⟨Nat.le_of_ble_eq_true rfl, Nat.le_of_ble_eq_true rfl⟩ rfl ?_
    refine z_if_eq (tgt := 220) dX8_isDone_195 (by decide) (fun c4 => ?_) (fun c4 => ?_)
    · replace h := ip c4 h
      refine z_iconst (v := 0) dX8_isDone_220 rfl ?_
      obtain rfl := Option.some.inj h
      exact z_iret dX8_isDone_221 rfl rfl
    · replace h := ig c4 h
      refine z_iload_n 3 dX8_isDone_198 rfl ?_
      refine z_aload_n 0 dX8_isDone_199 rfl ?_
      refine z_get (v := .ref 82) dX8_isDone_200 fl_8_31 kdl_74 rfl ?_
      refine z_iconst (v := 2) dX8_isDone_203 rfl ?_
      refine z_ialdK (j := 2) dX8_isDone_204 kdl_82 (by decide) (by decide) (by decide) ?_
      refine z_icmp_gt (tgt := 220) dX8_isDone_205 (by decide) (fun c5 => ?_) (fun c5 => ?_)
      · replace h := ip c5 h
        refine z_iconst (v := 0) dX8_isDone_220 rfl ?_
        obtain rfl := Option.some.inj h
        exact z_iret dX8_isDone_221 rfl rfl
      · replace h := ig c5 h
        refine z_aload_n 0 dX8_isDone_208 rfl ?_
        refine z_get (v := .ref 82) dX8_isDone_209 fl_8_31 kdl_74 rfl ?_
        refine z_iconst (v := 2) dX8_isDone_212 rfl ?_
        refine z_ialdK (j := 2) dX8_isDone_213 kdl_82 (by decide) (by decide) (by decide) ?_
        obtain ⟨v6, hv6, h⟩ := ob h
        refine z_callS (as := [.int (S.1 82 2)]) dX8_isDone_214 ml_8_105 ms_X8_isYear (t_X8_isYear l _ hv6) rfl rfl (Nat.le_of_ble_eq_true rfl) ⟨Nat.le_of_ble_eq_true rfl, Nat.le_of_ble_eq_true rfl⟩ rfl ?_
        refine z_if_ne (tgt := 222) dX8_isDone_217 (by decide) (fun c7 => ?_) (fun c7 => ?_)
        · replace h := ig c7 h
          refine z_iload_n 3 dX8_isDone_222 rfl ?_
          refine z_istore (lv' := [(0, .ref 74), (1, .int a1), (2, .int (S.1 82 0)), (3, .int (S.1 82 1)), (4, .int (S.1 82 1))]) [1, 2, 3, 4, 0] dX8_isDone_223 (Nat.le_of_ble_eq_true rfl) rfl ?_
          refine z_sub (lv' := [(0, .ref 74), (2, .int (S.1 82 0)), (4, .int (S.1 82 1))]) [0, 2, 4] rfl ?_
          refine t_X8_isDone_L225 l _ _ _ _ _ _ h ?_
          · intro S11 h
            refine z_iconst (v := 1) dX8_isDone_259 rfl ?_
            obtain rfl := Option.some.inj h
            exact z_iret dX8_isDone_260 rfl rfl
        · replace h := ip c7 h
          refine z_iconst (v := 0) dX8_isDone_220 rfl ?_
          obtain rfl := Option.some.inj h
          exact z_iret dX8_isDone_221 rfl rfl
  replace h := ig c2 h
  by_cases c12 : a1 = 104
  · replace h := ip c12 h
    refine z_lookup (off := 258) (tgt := 273) dX8_isDone_15 (by decide) (by rw [c12]; decide) (by decide) ?_
    refine z_aload_n 0 dX8_isDone_273 rfl ?_
    refine z_iload_n 2 dX8_isDone_274 rfl ?_
    obtain ⟨v13, hv13, h⟩ := ob h
    refine z_callV (as := [.int (S.1 82 0)]) dX8_isDone_275 ml_8_101 mv_X8_isThing (t_X8_isThing l hv13) kdl_74 ⟨by decide, rfl⟩ rfl rfl (Nat.le_of_ble_eq_true rfl) ⟨Nat.le_of_ble_eq_true rfl, Nat.le_of_ble_eq_true rfl⟩ rfl ?_
    refine z_if_eq (tgt := 294) dX8_isDone_278 (by decide) (fun c14 => ?_) (fun c14 => ?_)
    · replace h := ip c14 h
      refine z_iconst (v := 0) dX8_isDone_294 rfl ?_
      obtain rfl := Option.some.inj h
      exact z_iret dX8_isDone_295 rfl rfl
    · replace h := ig c14 h
      refine z_aload_n 0 dX8_isDone_281 rfl ?_
      refine z_iload_n 3 dX8_isDone_282 rfl ?_
      obtain ⟨v15, hv15, h⟩ := ob h
      refine z_callV (as := [.int (S.1 82 1)]) dX8_isDone_283 ml_8_101 mv_X8_isThing (t_X8_isThing l hv15) kdl_74 ⟨by decide, rfl⟩ rfl rfl (Nat.le_of_ble_eq_true rfl) ⟨Nat.le_of_ble_eq_true rfl, Nat.le_of_ble_eq_true rfl⟩ rfl ?_
      refine z_if_eq (tgt := 294) dX8_isDone_286 (by decide) (fun c16 => ?_) (fun c16 => ?_)
      · replace h := ip c16 h
        refine z_iconst (v := 0) dX8_isDone_294 rfl ?_
        obtain rfl := Option.some.inj h
        exact z_iret dX8_isDone_295 rfl rfl
      · replace h := ig c16 h
        refine z_iload_n 2 dX8_isDone_289 rfl ?_
        refine z_iload_n 3 dX8_isDone_290 rfl ?_
        refine z_icmp_ne (tgt := 296) dX8_isDone_291 (by decide) (fun c17 => ?_) (fun c17 => ?_)
        · replace h := ig c17 h
          refine z_aload_n 0 dX8_isDone_296 rfl ?_
          refine z_iload_n 2 dX8_isDone_297 rfl ?_
          refine z_iload_n 3 dX8_isDone_298 rfl ?_
          obtain ⟨S18, hS18, h⟩ := ob h
          refine z_callV (as := [.int (S.1 82 0), .int (S.1 82 1)]) dX8_isDone_299 ml_8_108 mv_X8_turnsHalves (t_X8_turnsHalves l hS18) kdl_74 ⟨by decide, rfl⟩ rfl rfl (Nat.le_of_ble_eq_true rfl) ⟨Nat.le_of_ble_eq_true rfl, Nat.le_of_ble_eq_true rfl⟩ rfl ?_
          refine z_iconst (v := 1) dX8_isDone_302 rfl ?_
          obtain rfl := Option.some.inj h
          exact z_iret dX8_isDone_303 rfl rfl
        · replace h := ip c17 h
          refine z_iconst (v := 0) dX8_isDone_294 rfl ?_
          obtain rfl := Option.some.inj h
          exact z_iret dX8_isDone_295 rfl rfl
  replace h := ig c12 h
  by_cases c19 : a1 = 116
  · replace h := ip c19 h
    refine z_lookup (off := 57) (tgt := 72) dX8_isDone_15 (by decide) (by rw [c19]; decide) (by decide) ?_
    refine z_aload_n 0 dX8_isDone_72 rfl ?_
    refine z_get (v := .ref 75) dX8_isDone_73 fl_8_9 kdl_74 rfl ?_
    refine z_iconst (v := 0) dX8_isDone_76 rfl ?_
    refine z_ialdK (j := 0) dX8_isDone_77 kdl_75 (by decide) (by decide) (by decide) ?_
    refine z_bipush (v := 8) dX8_isDone_78 rfl ?_
    refine z_icmp_ne (tgt := 85) dX8_isDone_80 (by decide) (fun c20 => ?_) (fun c20 => ?_)
    · replace h := ig c20 h
      refine z_aload_n 0 dX8_isDone_85 rfl ?_
      refine z_get (v := .ref 75) dX8_isDone_86 fl_8_9 kdl_74 rfl ?_
      refine z_iconst (v := 4) dX8_isDone_89 rfl ?_
      refine z_aload_n 0 dX8_isDone_90 rfl ?_
      refine z_get (v := .ref 75) dX8_isDone_91 fl_8_9 kdl_74 rfl ?_
      refine z_iconst (v := 0) dX8_isDone_94 rfl ?_
      refine z_ialdK (j := 0) dX8_isDone_95 kdl_75 (by decide) (by decide) (by decide) ?_
      refine z_iadd dX8_isDone_96 ?_
      refine z_iload_n 2 dX8_isDone_97 rfl ?_
      obtain ⟨c21, h⟩ := oi h
      refine z_iast dX8_isDone_98 kdl_75 (by decide) c21 ?_
      refine z_aload_n 0 dX8_isDone_99 rfl ?_
      refine z_get (v := .ref 75) dX8_isDone_100 fl_8_9 kdl_74 rfl ?_
      refine z_bipush (v := 12) dX8_isDone_103 rfl ?_
      refine z_aload_n 0 dX8_isDone_105 rfl ?_
      refine z_get (v := .ref 75) dX8_isDone_106 fl_8_9 kdl_74 rfl ?_
      refine z_iconst (v := 0) dX8_isDone_109 rfl ?_
      refine z_ialdK (j := 0) dX8_isDone_110 kdl_75 (by decide) (by decide) (by decide) ?_
      refine z_iadd dX8_isDone_111 ?_
      refine z_iload_n 3 dX8_isDone_112 rfl ?_
      obtain ⟨c22, h⟩ := oi h
      refine z_iast dX8_isDone_113 kdl_75 (by decide) c22 ?_
      refine z_aload_n 0 dX8_isDone_114 rfl ?_
      refine z_get (v := .ref 75) dX8_isDone_115 fl_8_9 kdl_74 rfl ?_
      refine z_bipush (v := 20) dX8_isDone_118 rfl ?_
      refine z_aload_n 0 dX8_isDone_120 rfl ?_
      refine z_get (v := .ref 75) dX8_isDone_121 fl_8_9 kdl_74 rfl ?_
      refine z_iconst (v := 0) dX8_isDone_124 rfl ?_
      refine z_ialdK (j := 0) dX8_isDone_125 kdl_75 (by decide) (by decide) (by decide) ?_
      refine z_iadd dX8_isDone_126 ?_
      refine z_bipush (v := (-9)) dX8_isDone_127 rfl ?_
      obtain ⟨c23, h⟩ := oi h
      refine z_iast dX8_isDone_129 kdl_75 (by decide) c23 ?_
      refine z_iconst (v := 0) dX8_isDone_130 rfl ?_
      refine z_istore (lv' := [(0, .ref 74), (1, .int a1), (2, .int (S.1 82 0)), (3, .int (S.1 82 1)), (4, .int 0)]) [1, 2, 3, 4, 0] dX8_isDone_131 (Nat.le_of_ble_eq_true rfl) rfl ?_
      refine z_sub (lv' := [(0, .ref 74), (4, .int 0)]) [0, 4] rfl ?_
      refine t_X8_isDone_L133 l _ _ _ _ _ h ?_
      · intro S27 h
        refine z_aload_n 0 dX8_isDone_163 rfl ?_
        refine z_get (v := .ref 75) dX8_isDone_164 fl_8_9 kdl_74 rfl ?_
        refine z_bipush (v := 124) dX8_isDone_167 rfl ?_
        refine z_aload_n 0 dX8_isDone_169 rfl ?_
        refine z_get (v := .ref 75) dX8_isDone_170 fl_8_9 kdl_74 rfl ?_
        refine z_iconst (v := 0) dX8_isDone_173 rfl ?_
        refine z_ialdK (j := 0) dX8_isDone_174 kdl_75 (by decide) (by decide) (by decide) ?_
        refine z_iadd dX8_isDone_175 ?_
        refine z_iconst (v := 0) dX8_isDone_176 rfl ?_
        obtain ⟨c28, h⟩ := oi h
        refine z_iast dX8_isDone_177 kdl_75 (by decide) c28 ?_
        refine z_aload_n 0 dX8_isDone_178 rfl ?_
        refine z_get (v := .ref 75) dX8_isDone_179 fl_8_9 kdl_74 rfl ?_
        refine z_iconst (v := 0) dX8_isDone_182 rfl ?_
        refine z_dup2 dX8_isDone_183 rfl rfl ?_
        refine z_ialdK (j := 0) dX8_isDone_184 kdl_75 (by decide) (by decide) (by decide) ?_
        refine z_iconst (v := 1) dX8_isDone_185 rfl ?_
        refine z_iadd dX8_isDone_186 ?_
        refine z_iastK (j := 0) dX8_isDone_187 kdl_75 (by decide) (by decide) (by decide) ?_
        refine z_iconst (v := 1) dX8_isDone_188 rfl ?_
        obtain rfl := Option.some.inj h
        exact z_iret dX8_isDone_189 rfl rfl
    · replace h := ip c20 h
      refine z_iconst (v := 0) dX8_isDone_83 rfl ?_
      obtain rfl := Option.some.inj h
      exact z_iret dX8_isDone_84 rfl rfl
  replace h := ig c19 h
  by_cases c29 : a1 = 118
  · replace h := ip c29 h
    refine z_lookup (off := 175) (tgt := 190) dX8_isDone_15 (by decide) (by rw [c29]; decide) (by decide) ?_
    refine z_aload_n 0 dX8_isDone_190 rfl ?_
    refine z_iload_n 2 dX8_isDone_191 rfl ?_
    obtain ⟨v30, hv30, h⟩ := ob h
    refine z_callV (as := [.int (S.1 82 0)]) dX8_isDone_192 ml_8_101 mv_X8_isThing (t_X8_isThing l hv30) kdl_74 ⟨by decide, rfl⟩ rfl rfl (Nat.le_of_ble_eq_true rfl) ⟨Nat.le_of_ble_eq_true rfl, Nat.le_of_ble_eq_true rfl⟩ rfl ?_
    refine z_if_eq (tgt := 220) dX8_isDone_195 (by decide) (fun c31 => ?_) (fun c31 => ?_)
    · replace h := ip c31 h
      refine z_iconst (v := 0) dX8_isDone_220 rfl ?_
      obtain rfl := Option.some.inj h
      exact z_iret dX8_isDone_221 rfl rfl
    · replace h := ig c31 h
      refine z_iload_n 3 dX8_isDone_198 rfl ?_
      refine z_aload_n 0 dX8_isDone_199 rfl ?_
      refine z_get (v := .ref 82) dX8_isDone_200 fl_8_31 kdl_74 rfl ?_
      refine z_iconst (v := 2) dX8_isDone_203 rfl ?_
      refine z_ialdK (j := 2) dX8_isDone_204 kdl_82 (by decide) (by decide) (by decide) ?_
      refine z_icmp_gt (tgt := 220) dX8_isDone_205 (by decide) (fun c32 => ?_) (fun c32 => ?_)
      · replace h := ip c32 h
        refine z_iconst (v := 0) dX8_isDone_220 rfl ?_
        obtain rfl := Option.some.inj h
        exact z_iret dX8_isDone_221 rfl rfl
      · replace h := ig c32 h
        refine z_aload_n 0 dX8_isDone_208 rfl ?_
        refine z_get (v := .ref 82) dX8_isDone_209 fl_8_31 kdl_74 rfl ?_
        refine z_iconst (v := 2) dX8_isDone_212 rfl ?_
        refine z_ialdK (j := 2) dX8_isDone_213 kdl_82 (by decide) (by decide) (by decide) ?_
        obtain ⟨v33, hv33, h⟩ := ob h
        refine z_callS (as := [.int (S.1 82 2)]) dX8_isDone_214 ml_8_105 ms_X8_isYear (t_X8_isYear l _ hv33) rfl rfl (Nat.le_of_ble_eq_true rfl) ⟨Nat.le_of_ble_eq_true rfl, Nat.le_of_ble_eq_true rfl⟩ rfl ?_
        refine z_if_ne (tgt := 222) dX8_isDone_217 (by decide) (fun c34 => ?_) (fun c34 => ?_)
        · replace h := ig c34 h
          refine z_iload_n 3 dX8_isDone_222 rfl ?_
          refine z_istore (lv' := [(0, .ref 74), (1, .int a1), (2, .int (S.1 82 0)), (3, .int (S.1 82 1)), (4, .int (S.1 82 1))]) [1, 2, 3, 4, 0] dX8_isDone_223 (Nat.le_of_ble_eq_true rfl) rfl ?_
          refine z_sub (lv' := [(0, .ref 74), (2, .int (S.1 82 0)), (4, .int (S.1 82 1))]) [0, 2, 4] rfl ?_
          refine t_X8_isDone_L225 l _ _ _ _ _ _ h ?_
          · intro S35 h
            refine z_iconst (v := 1) dX8_isDone_259 rfl ?_
            obtain rfl := Option.some.inj h
            exact z_iret dX8_isDone_260 rfl rfl
        · replace h := ip c34 h
          refine z_iconst (v := 0) dX8_isDone_220 rfl ?_
          obtain rfl := Option.some.inj h
          exact z_iret dX8_isDone_221 rfl rfl
  replace h := ig c29 h
  by_cases c36 : a1 = 121
  · replace h := ip c36 h
    refine z_lookup (off := 246) (tgt := 261) dX8_isDone_15 (by decide) (by rw [c36]; decide) (by decide) ?_
    refine z_aload_n 0 dX8_isDone_261 rfl ?_
    refine z_get (v := .ref 75) dX8_isDone_262 fl_8_9 kdl_74 rfl ?_
    refine z_iconst (v := 1) dX8_isDone_265 rfl ?_
    refine z_iload_n 2 dX8_isDone_266 rfl ?_
    refine z_iastK (j := 1) dX8_isDone_267 kdl_75 (by decide) (by decide) (by decide) ?_
    refine z_iload_n 2 dX8_isDone_268 rfl ?_
    obtain ⟨v37, hv37, h⟩ := ob h
    refine z_callS (as := [.int (S.1 82 0)]) dX8_isDone_269 ml_8_105 ms_X8_isYear (t_X8_isYear l _ hv37) rfl rfl (Nat.le_of_ble_eq_true rfl) ⟨Nat.le_of_ble_eq_true rfl, Nat.le_of_ble_eq_true rfl⟩ rfl ?_
    obtain rfl := Option.some.inj h
    exact z_iret dX8_isDone_272 rfl (znb (b_X8_isYear hv37))
  replace h := ig c36 h
  refine z_lookup (off := 298) (tgt := 313) dX8_isDone_15 (by decide) ((lv_osw c1 (by decide)).trans ((lv_osw c2 (by decide)).trans ((lv_osw c12 (by decide)).trans ((lv_osw c19 (by decide)).trans ((lv_osw c29 (by decide)).trans ((lv_osw c36 (by decide)).trans rfl)))))) (by decide) ?_
  refine z_aload_n 0 dX8_isDone_313 rfl ?_
  refine z_iload_n 2 dX8_isDone_314 rfl ?_
  obtain ⟨v38, hv38, h⟩ := ob h
  refine z_callV (as := [.int (S.1 82 0)]) dX8_isDone_315 ml_8_101 mv_X8_isThing (t_X8_isThing l hv38) kdl_74 ⟨by decide, rfl⟩ rfl rfl (Nat.le_of_ble_eq_true rfl) ⟨Nat.le_of_ble_eq_true rfl, Nat.le_of_ble_eq_true rfl⟩ rfl ?_
  refine z_if_eq (tgt := 329) dX8_isDone_318 (by decide) (fun c39 => ?_) (fun c39 => ?_)
  · replace h := ip c39 h
    refine z_iconst (v := 0) dX8_isDone_329 rfl ?_
    obtain rfl := Option.some.inj h
    exact z_iret dX8_isDone_330 rfl rfl
  · replace h := ig c39 h
    refine z_aload_n 0 dX8_isDone_321 rfl ?_
    refine z_iload_n 2 dX8_isDone_322 rfl ?_
    obtain ⟨v40, hv40, h⟩ := ob h
    refine z_callV (as := [.int (S.1 82 0)]) dX8_isDone_323 ml_8_112 mv_X8_canGlue (t_X8_canGlue l hv40) kdl_74 ⟨by decide, rfl⟩ rfl rfl (Nat.le_of_ble_eq_true rfl) ⟨Nat.le_of_ble_eq_true rfl, Nat.le_of_ble_eq_true rfl⟩ rfl ?_
    refine z_if_ne (tgt := 331) dX8_isDone_326 (by decide) (fun c41 => ?_) (fun c41 => ?_)
    · replace h := ig c41 h
      refine z_aload_n 0 dX8_isDone_331 rfl ?_
      refine z_iload_n 2 dX8_isDone_332 rfl ?_
      refine z_iload_n 3 dX8_isDone_333 rfl ?_
      refine z_aload_n 0 dX8_isDone_334 rfl ?_
      refine z_get (v := .ref 82) dX8_isDone_335 fl_8_31 kdl_74 rfl ?_
      refine z_iconst (v := 2) dX8_isDone_338 rfl ?_
      refine z_ialdK (j := 2) dX8_isDone_339 kdl_82 (by decide) (by decide) (by decide) ?_
      obtain ⟨z42, hz42, h⟩ := ob h
      refine z_callV (as := [.int (S.1 82 0), .int (S.1 82 1), .int (S.1 82 2)]) dX8_isDone_340 ml_8_115 mv_X8_gluesTo (t_X8_gluesTo l hz42) kdl_74 ⟨by decide, rfl⟩ rfl rfl (Nat.le_of_ble_eq_true rfl) ⟨Nat.le_of_ble_eq_true rfl, Nat.le_of_ble_eq_true rfl⟩ rfl ?_
      refine z_istore (lv' := [(0, .ref 74), (1, .int a1), (2, .int (S.1 82 0)), (3, .int (S.1 82 1)), (4, .int z42.1)]) [1, 2, 3, 4, 0] dX8_isDone_343 (Nat.le_of_ble_eq_true rfl) rfl ?_
      refine z_iconst (v := 1) dX8_isDone_345 rfl ?_
      obtain rfl := Option.some.inj h
      exact z_iret dX8_isDone_346 rfl rfl
    · replace h := ip c41 h
      refine z_iconst (v := 0) dX8_isDone_329 rfl ?_
      obtain rfl := Option.some.inj h
      exact z_iret dX8_isDone_330 rfl rfl
set_option maxHeartbeats 2000000 in
set_option maxRecDepth 20000 in
theorem t_X8_shop_L10 (l : Launch)   : ∀ (n : Nat) (x1 : Int32) (x2 : Int32) (S : St) (k46 : Int32 → Int32 → St → Option (Int32 × St)) (r : (Int32 × St)), f_X8_shop_L10 n x1 x2 S k46 = some r → (∀ (e1 : Int32) (e2 : Int32) (T : St), k46 e1 e2 T = some r → Z l yX8_shop M_X8_shop 46 [(0, .ref 74), (1, .int e1), (2, .int e2)] [] T (some (.int r.1)) r.2) → Z l yX8_shop M_X8_shop 10 [(0, .ref 74), (1, .int x1), (2, .int x2)] [] S (some (.int r.1)) r.2 := by
  intro n
  induction n with
  | zero =>
    intro x1 x2 S k46 r h hk46
    exact absurd h (by rw [f_X8_shop_L10]; exact fun q => by cases q)
  | succ n ih =>
    intro x1 x2 S k46 r h hk46
    rw [f_X8_shop_L10] at h
    refine z_aload_n 0 dX8_shop_10 rfl ?_
    obtain ⟨z1, hz1, h⟩ := ob h
    refine z_callV (as := []) dX8_shop_11 ml_8_119 mv_X8_readsStatement (t_X8_readsStatement l hz1) kdl_74 ⟨by decide, rfl⟩ rfl rfl (Nat.le_of_ble_eq_true rfl) ⟨Nat.le_of_ble_eq_true rfl, Nat.le_of_ble_eq_true rfl⟩ rfl ?_
    refine z_if_ne (tgt := 26) dX8_shop_14 (by decide) (fun c2 => ?_) (fun c2 => ?_)
    · replace h := ig c2 h
      refine z_iinc (lv' := [(0, .ref 74), (1, .int (x1 + 1)), (2, .int x2)]) (v := x1 + 1) 1 [1, 0, 2] dX8_shop_26 rfl rfl (Nat.le_of_ble_eq_true rfl) rfl ?_
      refine z_iload_n 2 dX8_shop_29 rfl ?_
      refine z_bipush (v := (-9)) dX8_shop_30 rfl ?_
      refine z_icmp_ne (tgt := 46) dX8_shop_32 (by decide) (fun c3 => ?_) (fun c3 => ?_)
      · replace h := ig c3 h
        refine z_sub (lv' := [(0, .ref 74), (1, .int (x1 + 1)), (2, .int x2)]) [0, 1, 2] rfl ?_
        exact hk46 _ _ _ h
      · replace h := ip c3 h
        refine z_aload_n 0 dX8_shop_35 rfl ?_
        refine z_get (v := .int (z1.2.1 74 10)) dX8_shop_36 fl_8_80 kdl_74 rfl ?_
        refine z_aload_n 0 dX8_shop_39 rfl ?_
        refine z_get (v := .int (z1.2.1 74 8)) dX8_shop_40 fl_8_76 kdl_74 rfl ?_
        refine z_icmp_lt (tgt := 10) dX8_shop_43 (by decide) (fun c4 => ?_) (fun c4 => ?_)
        · replace h := ip c4 h
          refine z_sub (lv' := [(0, .ref 74), (1, .int (x1 + 1)), (2, .int x2)]) [0, 1, 2] rfl ?_
          exact ih _ _ _ _ _ h hk46
        · replace h := ig c4 h
          refine z_sub (lv' := [(0, .ref 74), (1, .int (x1 + 1)), (2, .int x2)]) [0, 1, 2] rfl ?_
          exact hk46 _ _ _ h
    · replace h := ip c2 h
      refine z_sipush (v := (-1000)) dX8_shop_17 rfl ?_
      refine z_aload_n 0 dX8_shop_20 rfl ?_
      refine z_get (v := .int (z1.2.1 74 10)) dX8_shop_21 fl_8_80 kdl_74 rfl ?_
      refine z_isub dX8_shop_24 ?_
      refine z_istore_n (lv' := [(0, .ref 74), (1, .int x1), (2, .int ((-1000) - (z1.2.1 74 10)))]) [1, 2, 0] dX8_shop_25 (Nat.le_of_ble_eq_true rfl) rfl ?_
      refine z_iinc (lv' := [(0, .ref 74), (1, .int (x1 + 1)), (2, .int ((-1000) - (z1.2.1 74 10)))]) (v := x1 + 1) 1 [1, 0, 2] dX8_shop_26 rfl rfl (Nat.le_of_ble_eq_true rfl) rfl ?_
      refine z_iload_n 2 dX8_shop_29 rfl ?_
      refine z_bipush (v := (-9)) dX8_shop_30 rfl ?_
      refine z_icmp_ne (tgt := 46) dX8_shop_32 (by decide) (fun c5 => ?_) (fun c5 => ?_)
      · replace h := ig c5 h
        refine z_sub (lv' := [(0, .ref 74), (1, .int (x1 + 1)), (2, .int ((-1000) - (z1.2.1 74 10)))]) [0, 1, 2] rfl ?_
        exact hk46 _ _ _ h
      · replace h := ip c5 h
        refine z_aload_n 0 dX8_shop_35 rfl ?_
        refine z_get (v := .int (z1.2.1 74 10)) dX8_shop_36 fl_8_80 kdl_74 rfl ?_
        refine z_aload_n 0 dX8_shop_39 rfl ?_
        refine z_get (v := .int (z1.2.1 74 8)) dX8_shop_40 fl_8_76 kdl_74 rfl ?_
        refine z_icmp_lt (tgt := 10) dX8_shop_43 (by decide) (fun c6 => ?_) (fun c6 => ?_)
        · replace h := ip c6 h
          refine z_sub (lv' := [(0, .ref 74), (1, .int (x1 + 1)), (2, .int ((-1000) - (z1.2.1 74 10)))]) [0, 1, 2] rfl ?_
          exact ih _ _ _ _ _ h hk46
        · replace h := ig c6 h
          refine z_sub (lv' := [(0, .ref 74), (1, .int (x1 + 1)), (2, .int ((-1000) - (z1.2.1 74 10)))]) [0, 1, 2] rfl ?_
          exact hk46 _ _ _ h
set_option maxHeartbeats 2000000 in
set_option maxRecDepth 20000 in
theorem t_X8_shop_L62 (l : Launch)   : ∀ (n : Nat) (x1 : Int32) (x2 : Int32) (S : St) (k128 : Int32 → St → Option (Int32 × St)) (r : (Int32 × St)), f_X8_shop_L62 n x1 x2 S k128 = some r → (∀ (e2 : Int32) (T : St), k128 e2 T = some r → Z l yX8_shop M_X8_shop 128 [(0, .ref 74), (1, .int x1), (2, .int e2)] [] T (some (.int r.1)) r.2) → Z l yX8_shop M_X8_shop 62 [(0, .ref 74), (1, .int x1), (2, .int x2)] [] S (some (.int r.1)) r.2 := by
  intro n
  induction n with
  | zero =>
    intro x1 x2 S k128 r h hk128
    exact absurd h (by rw [f_X8_shop_L62]; exact fun q => by cases q)
  | succ n ih =>
    intro x1 x2 S k128 r h hk128
    rw [f_X8_shop_L62] at h
    refine z_iload_n 2 dX8_shop_62 rfl ?_
    refine z_bipush (v := (-9)) dX8_shop_63 rfl ?_
    refine z_icmp_ne (tgt := 128) dX8_shop_65 (by decide) (fun c11 => ?_) (fun c11 => ?_)
    · replace h := ig c11 h
      refine z_sub (lv' := [(0, .ref 74), (1, .int x1), (2, .int x2)]) [0, 1, 2] rfl ?_
      exact hk128 _ _ h
    · replace h := ip c11 h
      refine z_aload_n 0 dX8_shop_68 rfl ?_
      refine z_get (v := .int (S.1 74 10)) dX8_shop_69 fl_8_80 kdl_74 rfl ?_
      refine z_aload_n 0 dX8_shop_72 rfl ?_
      refine z_get (v := .int (S.1 74 8)) dX8_shop_73 fl_8_76 kdl_74 rfl ?_
      refine z_icmp_ge (tgt := 128) dX8_shop_76 (by decide) (fun c12 => ?_) (fun c12 => ?_)
      · replace h := ip c12 h
        refine z_sub (lv' := [(0, .ref 74), (1, .int x1), (2, .int x2)]) [0, 1, 2] rfl ?_
        exact hk128 _ _ h
      · replace h := ig c12 h
        refine z_aload_n 0 dX8_shop_79 rfl ?_
        refine z_get (v := .int (S.1 74 10)) dX8_shop_80 fl_8_80 kdl_74 rfl ?_
        refine z_istore_n (lv' := [(0, .ref 74), (1, .int x1), (2, .int x2), (3, .int (S.1 74 10))]) [1, 2, 3, 0] dX8_shop_83 (Nat.le_of_ble_eq_true rfl) rfl ?_
        refine z_aload_n 0 dX8_shop_84 rfl ?_
        obtain ⟨v13, hv13, h⟩ := ob h
        refine z_callV (as := []) dX8_shop_85 ml_8_83 mv_X8_here (t_X8_here l hv13) kdl_74 ⟨by decide, rfl⟩ rfl rfl (Nat.le_of_ble_eq_true rfl) ⟨Nat.le_of_ble_eq_true rfl, Nat.le_of_ble_eq_true rfl⟩ rfl ?_
        refine z_istore (lv' := [(0, .ref 74), (1, .int x1), (2, .int x2), (3, .int (S.1 74 10)), (4, .int v13)]) [1, 2, 3, 4, 0] dX8_shop_88 (Nat.le_of_ble_eq_true rfl) rfl ?_
        refine z_aload_n 0 dX8_shop_90 rfl ?_
        obtain ⟨z14, hz14, h⟩ := ob h
        refine z_callV (as := []) dX8_shop_91 ml_8_119 mv_X8_readsStatement (t_X8_readsStatement l hz14) kdl_74 ⟨by decide, rfl⟩ rfl rfl (Nat.le_of_ble_eq_true rfl) ⟨Nat.le_of_ble_eq_true rfl, Nat.le_of_ble_eq_true rfl⟩ rfl ?_
        refine z_istore (lv' := [(0, .ref 74), (1, .int x1), (2, .int x2), (3, .int (S.1 74 10)), (4, .int v13), (5, .int z14.1)]) [1, 2, 3, 4, 5, 0] dX8_shop_94 (Nat.le_of_ble_eq_true rfl) rfl ?_
        refine z_aload_n 0 dX8_shop_96 rfl ?_
        refine z_iload 4 dX8_shop_97 rfl ?_
        obtain ⟨z15, hz15, h⟩ := ob h
        refine z_callV (as := [.int v13]) dX8_shop_99 ml_8_126 mv_X8_isDone (t_X8_isDone l hz15) kdl_74 ⟨by decide, rfl⟩ rfl rfl (Nat.le_of_ble_eq_true rfl) ⟨Nat.le_of_ble_eq_true rfl, Nat.le_of_ble_eq_true rfl⟩ rfl ?_
        refine z_if_eq (tgt := 108) dX8_shop_102 (by decide) (fun c16 => ?_) (fun c16 => ?_)
        · replace h := ip c16 h
          refine z_sipush (v := (-2000)) dX8_shop_108 rfl ?_
          refine z_iload_n 3 dX8_shop_111 rfl ?_
          refine z_isub dX8_shop_112 ?_
          refine z_istore_n (lv' := [(0, .ref 74), (1, .int x1), (2, .int ((-2000) - (S.1 74 10))), (3, .int (S.1 74 10)), (4, .int v13), (5, .int z14.1)]) [1, 2, 0, 3, 4, 5] dX8_shop_113 (Nat.le_of_ble_eq_true rfl) rfl ?_
          refine z_aload_n 0 dX8_shop_114 rfl ?_
          refine z_get (v := .ref 78) dX8_shop_115 fl_8_19 kdl_74 rfl ?_
          refine z_aload_n 0 dX8_shop_118 rfl ?_
          refine z_get (v := .ref 75) dX8_shop_119 fl_8_9 kdl_74 rfl ?_
          obtain ⟨S17, hS17, h⟩ := ob h
          refine z_callS (as := [.ref 78, .ref 75]) dX8_shop_122 ml_8_122 ms_X8_lays (t_X8_lays l kdl_78 kdl_75 hS17) rfl rfl (Nat.le_of_ble_eq_true rfl) ⟨Nat.le_of_ble_eq_true rfl, Nat.le_of_ble_eq_true rfl⟩ rfl ?_
          refine z_goto (tgt := 62) dX8_shop_125 (by decide) ?_
          refine z_sub (lv' := [(0, .ref 74), (1, .int x1), (2, .int ((-2000) - (S.1 74 10)))]) [0, 1, 2] rfl ?_
          exact ih _ _ _ _ _ h hk128
        · replace h := ig c16 h
          refine z_goto (tgt := 62) dX8_shop_105 (by decide) ?_
          refine z_sub (lv' := [(0, .ref 74), (1, .int x1), (2, .int x2)]) [0, 1, 2] rfl ?_
          exact ih _ _ _ _ _ h hk128
set_option maxHeartbeats 2000000 in
set_option maxRecDepth 20000 in
theorem t_X8_shop (l : Launch) {S : St}   {r : (Int32 × St)} (h : f_X8_shop S = some r) : CT l yX8_shop M_X8_shop [.ref 74] S (some (.int r.1)) r.2 := by
  rw [f_X8_shop] at h
  refine ct_of (lv := [(0, .ref 74)]) (by decide) rfl (Nat.le_of_ble_eq_true rfl) ?_
  refine z_aload_n 0 dX8_shop_0 rfl ?_
  refine z_iconst (v := 0) dX8_shop_1 rfl ?_
  refine z_put (fk := 10) dX8_shop_2 fl_8_80 fp_8_10 kdl_74 rfl rfl rfl (Nat.le_of_ble_eq_true rfl) ?_
  refine z_iconst (v := 0) dX8_shop_5 rfl ?_
  refine z_istore_n (lv' := [(0, .ref 74), (1, .int 0)]) [1, 0] dX8_shop_6 (Nat.le_of_ble_eq_true rfl) rfl ?_
  refine z_bipush (v := (-9)) dX8_shop_7 rfl ?_
  refine z_istore_n (lv' := [(0, .ref 74), (1, .int 0), (2, .int (-9))]) [1, 2, 0] dX8_shop_9 (Nat.le_of_ble_eq_true rfl) rfl ?_
  refine z_sub (lv' := [(0, .ref 74), (1, .int 0), (2, .int (-9))]) [0, 1, 2] rfl ?_
  refine t_X8_shop_L10 l _ _ _ _ _ _ h ?_
  · intro y7 y8 S9 h
    refine z_aload_n 0 dX8_shop_46 rfl ?_
    refine z_get (v := .ref 75) dX8_shop_47 fl_8_9 kdl_74 rfl ?_
    refine z_aload_n 0 dX8_shop_50 rfl ?_
    refine z_get (v := .ref 78) dX8_shop_51 fl_8_19 kdl_74 rfl ?_
    obtain ⟨S10, hS10, h⟩ := ob h
    refine z_callS (as := [.ref 75, .ref 78]) dX8_shop_54 ml_8_122 ms_X8_lays (t_X8_lays l kdl_75 kdl_78 hS10) rfl rfl (Nat.le_of_ble_eq_true rfl) ⟨Nat.le_of_ble_eq_true rfl, Nat.le_of_ble_eq_true rfl⟩ rfl ?_
    refine z_aload_n 0 dX8_shop_57 rfl ?_
    refine z_iconst (v := 0) dX8_shop_58 rfl ?_
    refine z_put (fk := 10) dX8_shop_59 fl_8_80 fp_8_10 kdl_74 rfl rfl rfl (Nat.le_of_ble_eq_true rfl) ?_
    refine z_sub (lv' := [(0, .ref 74), (1, .int y7), (2, .int y8)]) [0, 1, 2] rfl ?_
    refine t_X8_shop_L62 l _ _ _ _ _ _ h ?_
    · intro y18 S19 h
      refine z_aload_n 0 dX8_shop_128 rfl ?_
      refine z_iconst (v := 0) dX8_shop_129 rfl ?_
      refine z_put (fk := 8) dX8_shop_130 fl_8_76 fp_8_8 kdl_74 rfl rfl rfl (Nat.le_of_ble_eq_true rfl) ?_
      refine z_iload_n 2 dX8_shop_133 rfl ?_
      refine z_bipush (v := (-9)) dX8_shop_134 rfl ?_
      refine z_icmp_ne (tgt := 143) dX8_shop_136 (by decide) (fun c20 => ?_) (fun c20 => ?_)
      · replace h := ig c20 h
        refine z_iload_n 2 dX8_shop_143 rfl ?_
        obtain rfl := Option.some.inj h
        exact z_iret dX8_shop_144 rfl rfl
      · replace h := ip c20 h
        refine z_iload_n 1 dX8_shop_139 rfl ?_
        refine z_goto (tgt := 144) dX8_shop_140 (by decide) ?_
        obtain rfl := Option.some.inj h
        exact z_iret dX8_shop_144 rfl rfl
set_option maxHeartbeats 2000000 in
set_option maxRecDepth 20000 in
theorem t_X8_thing (l : Launch) {S : St}  {a1 : Int32} {a2 : Int32} {r : (Int32 × St)} (h : f_X8_thing a1 a2 S = some r) : CT l yX8_thing M_X8_thing [.ref 74, .int a1, .int a2] S (some (.int r.1)) r.2 := by
  rw [f_X8_thing] at h
  refine ct_of (lv := [(0, .ref 74), (1, .int a1), (2, .int a2)]) (by decide) rfl (Nat.le_of_ble_eq_true rfl) ?_
  refine z_aload_n 0 dX8_thing_0 rfl ?_
  refine z_iload_n 1 dX8_thing_1 rfl ?_
  obtain ⟨v1, hv1, h⟩ := ob h
  refine z_callV (as := [.int a1]) dX8_thing_2 ml_8_101 mv_X8_isThing (t_X8_isThing l hv1) kdl_74 ⟨by decide, rfl⟩ rfl rfl (Nat.le_of_ble_eq_true rfl) ⟨Nat.le_of_ble_eq_true rfl, Nat.le_of_ble_eq_true rfl⟩ rfl ?_
  refine z_if_ne (tgt := 14) dX8_thing_5 (by decide) (fun c2 => ?_) (fun c2 => ?_)
  · replace h := ig c2 h
    refine z_iload_n 2 dX8_thing_14 rfl ?_
    by_cases c3 : a2 = 0
    · replace h := ip c3 h
      refine z_tableIn (off := 33) (tgt := 48) dX8_thing_15 (by rw [c3]; decide) (by rw [c3]; decide) (by rw [c3]; rfl) (by decide) ?_
      refine z_aload_n 0 dX8_thing_48 rfl ?_
      refine z_get (v := .ref 75) dX8_thing_49 fl_8_9 kdl_74 rfl ?_
      refine z_iconst (v := 4) dX8_thing_52 rfl ?_
      refine z_iload_n 1 dX8_thing_53 rfl ?_
      refine z_iadd dX8_thing_54 ?_
      obtain ⟨c4, h⟩ := oi h
      refine z_iald dX8_thing_55 kdl_75 (by decide) c4 ?_
      obtain rfl := Option.some.inj h
      exact z_iret dX8_thing_56 rfl rfl
    replace h := ig c3 h
    by_cases c5 : a2 = 1
    · replace h := ip c5 h
      refine z_tableIn (off := 42) (tgt := 57) dX8_thing_15 (by rw [c5]; decide) (by rw [c5]; decide) (by rw [c5]; rfl) (by decide) ?_
      refine z_aload_n 0 dX8_thing_57 rfl ?_
      refine z_get (v := .ref 75) dX8_thing_58 fl_8_9 kdl_74 rfl ?_
      refine z_bipush (v := 12) dX8_thing_61 rfl ?_
      refine z_iload_n 1 dX8_thing_63 rfl ?_
      refine z_iadd dX8_thing_64 ?_
      obtain ⟨c6, h⟩ := oi h
      refine z_iald dX8_thing_65 kdl_75 (by decide) c6 ?_
      obtain rfl := Option.some.inj h
      exact z_iret dX8_thing_66 rfl rfl
    replace h := ig c5 h
    by_cases c7 : a2 = 2
    · replace h := ip c7 h
      refine z_tableIn (off := 52) (tgt := 67) dX8_thing_15 (by rw [c7]; decide) (by rw [c7]; decide) (by rw [c7]; rfl) (by decide) ?_
      refine z_aload_n 0 dX8_thing_67 rfl ?_
      refine z_get (v := .ref 75) dX8_thing_68 fl_8_9 kdl_74 rfl ?_
      refine z_bipush (v := 20) dX8_thing_71 rfl ?_
      refine z_iload_n 1 dX8_thing_73 rfl ?_
      refine z_iadd dX8_thing_74 ?_
      obtain ⟨c8, h⟩ := oi h
      refine z_iald dX8_thing_75 kdl_75 (by decide) c8 ?_
      obtain rfl := Option.some.inj h
      exact z_iret dX8_thing_76 rfl rfl
    replace h := ig c7 h
    by_cases c9 : a2 = 3
    · replace h := ip c9 h
      refine z_tableIn (off := 62) (tgt := 77) dX8_thing_15 (by rw [c9]; decide) (by rw [c9]; decide) (by rw [c9]; rfl) (by decide) ?_
      refine z_aload_n 0 dX8_thing_77 rfl ?_
      refine z_get (v := .ref 75) dX8_thing_78 fl_8_9 kdl_74 rfl ?_
      refine z_iload_n 1 dX8_thing_81 rfl ?_
      obtain ⟨v10, hv10, h⟩ := ob h
      refine z_callS (as := [.ref 75, .int a1]) dX8_thing_82 ml_8_69 ms_X8_gladOf (t_X8_gladOf l kdl_75 hv10) rfl rfl (Nat.le_of_ble_eq_true rfl) ⟨Nat.le_of_ble_eq_true rfl, Nat.le_of_ble_eq_true rfl⟩ rfl ?_
      obtain rfl := Option.some.inj h
      exact z_iret dX8_thing_85 rfl rfl
    replace h := ig c9 h
    by_cases c11 : a2 = 4
    · replace h := ip c11 h
      refine z_tableIn (off := 71) (tgt := 86) dX8_thing_15 (by rw [c11]; decide) (by rw [c11]; decide) (by rw [c11]; rfl) (by decide) ?_
      refine z_aload_n 0 dX8_thing_86 rfl ?_
      refine z_get (v := .ref 75) dX8_thing_87 fl_8_9 kdl_74 rfl ?_
      refine z_iload_n 1 dX8_thing_90 rfl ?_
      obtain ⟨v12, hv12, h⟩ := ob h
      refine z_callS (as := [.ref 75, .int a1]) dX8_thing_91 ml_8_98 ms_X8_cost (t_X8_cost l kdl_75 hv12) rfl rfl (Nat.le_of_ble_eq_true rfl) ⟨Nat.le_of_ble_eq_true rfl, Nat.le_of_ble_eq_true rfl⟩ rfl ?_
      obtain rfl := Option.some.inj h
      exact z_iret dX8_thing_94 rfl rfl
    replace h := ig c11 h
    refine z_tableG (tgt := 95) (n := 5) [0, 1, 2, 3, 4] dX8_thing_15 (by decide) (by decide) (zrc (lv_neT c3 (by decide)) (zrc (lv_neT c5 (by decide)) (zrc (lv_neT c7 (by decide)) (zrc (lv_neT c9 (by decide)) (zrc (lv_neT c11 (by decide)) zrn))))) (by decide) ?_
    refine z_aload_n 0 dX8_thing_95 rfl ?_
    refine z_bipush (v := (-2)) dX8_thing_96 rfl ?_
    obtain ⟨z13, hz13, h⟩ := ob h
    refine z_callV (as := [.int (-2)]) dX8_thing_98 ml_8_41 mv_X8_no (t_X8_no l hz13) kdl_74 ⟨by decide, rfl⟩ rfl rfl (Nat.le_of_ble_eq_true rfl) ⟨Nat.le_of_ble_eq_true rfl, Nat.le_of_ble_eq_true rfl⟩ rfl ?_
    obtain rfl := Option.some.inj h
    exact z_iret dX8_thing_101 rfl rfl
  · replace h := ip c2 h
    refine z_aload_n 0 dX8_thing_8 rfl ?_
    refine z_iconst (v := (-1)) dX8_thing_9 rfl ?_
    obtain ⟨z14, hz14, h⟩ := ob h
    refine z_callV (as := [.int (-1)]) dX8_thing_10 ml_8_41 mv_X8_no (t_X8_no l hz14) kdl_74 ⟨by decide, rfl⟩ rfl rfl (Nat.le_of_ble_eq_true rfl) ⟨Nat.le_of_ble_eq_true rfl, Nat.le_of_ble_eq_true rfl⟩ rfl ?_
    obtain rfl := Option.some.inj h
    exact z_iret dX8_thing_13 rfl rfl
set_option maxHeartbeats 2000000 in
set_option maxRecDepth 20000 in
theorem t_X8_glad (l : Launch) {S : St}  {a1 : Int32} {a2 : Int32} {r : (Int32 × St)} (h : f_X8_glad a1 a2 S = some r) : CT l yX8_glad M_X8_glad [.ref 74, .int a1, .int a2] S (some (.int r.1)) r.2 := by
  rw [f_X8_glad] at h
  refine ct_of (lv := [(0, .ref 74), (1, .int a1), (2, .int a2)]) (by decide) rfl (Nat.le_of_ble_eq_true rfl) ?_
  refine z_aload_n 0 dX8_glad_0 rfl ?_
  refine z_iload_n 1 dX8_glad_1 rfl ?_
  obtain ⟨v1, hv1, h⟩ := ob h
  refine z_callV (as := [.int a1]) dX8_glad_2 ml_8_101 mv_X8_isThing (t_X8_isThing l hv1) kdl_74 ⟨by decide, rfl⟩ rfl rfl (Nat.le_of_ble_eq_true rfl) ⟨Nat.le_of_ble_eq_true rfl, Nat.le_of_ble_eq_true rfl⟩ rfl ?_
  refine z_if_eq (tgt := 28) dX8_glad_5 (by decide) (fun c2 => ?_) (fun c2 => ?_)
  · replace h := ip c2 h
    refine z_aload_n 0 dX8_glad_28 rfl ?_
    refine z_iconst (v := (-1)) dX8_glad_29 rfl ?_
    obtain ⟨z3, hz3, h⟩ := ob h
    refine z_callV (as := [.int (-1)]) dX8_glad_30 ml_8_41 mv_X8_no (t_X8_no l hz3) kdl_74 ⟨by decide, rfl⟩ rfl rfl (Nat.le_of_ble_eq_true rfl) ⟨Nat.le_of_ble_eq_true rfl, Nat.le_of_ble_eq_true rfl⟩ rfl ?_
    obtain rfl := Option.some.inj h
    exact z_iret dX8_glad_33 rfl rfl
  · replace h := ig c2 h
    refine z_iload_n 2 dX8_glad_8 rfl ?_
    obtain ⟨v4, hv4, h⟩ := ob h
    refine z_callS (as := [.int a2]) dX8_glad_9 ml_8_105 ms_X8_isYear (t_X8_isYear l _ hv4) rfl rfl (Nat.le_of_ble_eq_true rfl) ⟨Nat.le_of_ble_eq_true rfl, Nat.le_of_ble_eq_true rfl⟩ rfl ?_
    refine z_if_eq (tgt := 28) dX8_glad_12 (by decide) (fun c5 => ?_) (fun c5 => ?_)
    · replace h := ip c5 h
      refine z_aload_n 0 dX8_glad_28 rfl ?_
      refine z_iconst (v := (-1)) dX8_glad_29 rfl ?_
      obtain ⟨z6, hz6, h⟩ := ob h
      refine z_callV (as := [.int (-1)]) dX8_glad_30 ml_8_41 mv_X8_no (t_X8_no l hz6) kdl_74 ⟨by decide, rfl⟩ rfl rfl (Nat.le_of_ble_eq_true rfl) ⟨Nat.le_of_ble_eq_true rfl, Nat.le_of_ble_eq_true rfl⟩ rfl ?_
      obtain rfl := Option.some.inj h
      exact z_iret dX8_glad_33 rfl rfl
    · replace h := ig c5 h
      refine z_aload_n 0 dX8_glad_15 rfl ?_
      refine z_get (v := .ref 75) dX8_glad_16 fl_8_9 kdl_74 rfl ?_
      refine z_iload_n 1 dX8_glad_19 rfl ?_
      refine z_iload_n 2 dX8_glad_20 rfl ?_
      obtain ⟨v7, hv7, h⟩ := ob h
      refine z_callS (as := [.int a1, .int a2]) dX8_glad_21 ml_8_55 ms_X8_at (t_X8_at l _ hv7) rfl rfl (Nat.le_of_ble_eq_true rfl) ⟨Nat.le_of_ble_eq_true rfl, Nat.le_of_ble_eq_true rfl⟩ rfl ?_
      obtain ⟨c8, h⟩ := oi h
      refine z_iald dX8_glad_24 kdl_75 (by decide) c8 ?_
      refine z_goto (tgt := 33) dX8_glad_25 (by decide) ?_
      obtain rfl := Option.some.inj h
      exact z_iret dX8_glad_33 rfl rfl
set_option maxHeartbeats 2000000 in
set_option maxRecDepth 20000 in
theorem t_X8_areTwo (l : Launch) {S : St}  {a1 : Int32} {a2 : Int32} {r : Int32} (h : f_X8_areTwo a1 a2 S = some r) : CT l yX8_areTwo M_X8_areTwo [.ref 74, .int a1, .int a2] S (some (.int r)) S := by
  rw [f_X8_areTwo] at h
  refine ct_of (lv := [(0, .ref 74), (1, .int a1), (2, .int a2)]) (by decide) rfl (Nat.le_of_ble_eq_true rfl) ?_
  refine z_aload_n 0 dX8_areTwo_0 rfl ?_
  refine z_iload_n 1 dX8_areTwo_1 rfl ?_
  obtain ⟨v1, hv1, h⟩ := ob h
  refine z_callV (as := [.int a1]) dX8_areTwo_2 ml_8_101 mv_X8_isThing (t_X8_isThing l hv1) kdl_74 ⟨by decide, rfl⟩ rfl rfl (Nat.le_of_ble_eq_true rfl) ⟨Nat.le_of_ble_eq_true rfl, Nat.le_of_ble_eq_true rfl⟩ rfl ?_
  refine z_if_eq (tgt := 25) dX8_areTwo_5 (by decide) (fun c2 => ?_) (fun c2 => ?_)
  · replace h := ip c2 h
    refine z_iconst (v := 0) dX8_areTwo_25 rfl ?_
    obtain rfl := Option.some.inj h
    exact z_iret dX8_areTwo_26 rfl rfl
  · replace h := ig c2 h
    refine z_aload_n 0 dX8_areTwo_8 rfl ?_
    refine z_iload_n 2 dX8_areTwo_9 rfl ?_
    obtain ⟨v3, hv3, h⟩ := ob h
    refine z_callV (as := [.int a2]) dX8_areTwo_10 ml_8_101 mv_X8_isThing (t_X8_isThing l hv3) kdl_74 ⟨by decide, rfl⟩ rfl rfl (Nat.le_of_ble_eq_true rfl) ⟨Nat.le_of_ble_eq_true rfl, Nat.le_of_ble_eq_true rfl⟩ rfl ?_
    refine z_if_eq (tgt := 25) dX8_areTwo_13 (by decide) (fun c4 => ?_) (fun c4 => ?_)
    · replace h := ip c4 h
      refine z_iconst (v := 0) dX8_areTwo_25 rfl ?_
      obtain rfl := Option.some.inj h
      exact z_iret dX8_areTwo_26 rfl rfl
    · replace h := ig c4 h
      refine z_iload_n 1 dX8_areTwo_16 rfl ?_
      refine z_iload_n 2 dX8_areTwo_17 rfl ?_
      refine z_icmp_eq (tgt := 25) dX8_areTwo_18 (by decide) (fun c5 => ?_) (fun c5 => ?_)
      · replace h := ip c5 h
        refine z_iconst (v := 0) dX8_areTwo_25 rfl ?_
        obtain rfl := Option.some.inj h
        exact z_iret dX8_areTwo_26 rfl rfl
      · replace h := ig c5 h
        refine z_iconst (v := 1) dX8_areTwo_21 rfl ?_
        refine z_goto (tgt := 26) dX8_areTwo_22 (by decide) ?_
        obtain rfl := Option.some.inj h
        exact z_iret dX8_areTwo_26 rfl rfl
set_option maxHeartbeats 2000000 in
set_option maxRecDepth 20000 in
theorem t_X8_halves (l : Launch) {S : St}  {a1 : Int32} {a2 : Int32} {r : (Int32 × St)} (h : f_X8_halves a1 a2 S = some r) : CT l yX8_halves M_X8_halves [.ref 74, .int a1, .int a2] S (some (.int r.1)) r.2 := by
  rw [f_X8_halves] at h
  refine ct_of (lv := [(0, .ref 74), (1, .int a1), (2, .int a2)]) (by decide) rfl (Nat.le_of_ble_eq_true rfl) ?_
  refine z_aload_n 0 dX8_halves_0 rfl ?_
  refine z_iload_n 1 dX8_halves_1 rfl ?_
  refine z_iload_n 2 dX8_halves_2 rfl ?_
  obtain ⟨v1, hv1, h⟩ := ob h
  refine z_callV (as := [.int a1, .int a2]) dX8_halves_3 ml_8_129 mv_X8_areTwo (t_X8_areTwo l hv1) kdl_74 ⟨by decide, rfl⟩ rfl rfl (Nat.le_of_ble_eq_true rfl) ⟨Nat.le_of_ble_eq_true rfl, Nat.le_of_ble_eq_true rfl⟩ rfl ?_
  refine z_if_eq (tgt := 25) dX8_halves_6 (by decide) (fun c2 => ?_) (fun c2 => ?_)
  · replace h := ip c2 h
    refine z_aload_n 0 dX8_halves_25 rfl ?_
    refine z_iconst (v := (-1)) dX8_halves_26 rfl ?_
    obtain ⟨z3, hz3, h⟩ := ob h
    refine z_callV (as := [.int (-1)]) dX8_halves_27 ml_8_41 mv_X8_no (t_X8_no l hz3) kdl_74 ⟨by decide, rfl⟩ rfl rfl (Nat.le_of_ble_eq_true rfl) ⟨Nat.le_of_ble_eq_true rfl, Nat.le_of_ble_eq_true rfl⟩ rfl ?_
    obtain rfl := Option.some.inj h
    exact z_iret dX8_halves_30 rfl rfl
  · replace h := ig c2 h
    refine z_aload_n 0 dX8_halves_9 rfl ?_
    refine z_get (v := .ref 75) dX8_halves_10 fl_8_9 kdl_74 rfl ?_
    refine z_bipush (v := 124) dX8_halves_13 rfl ?_
    refine z_iload_n 1 dX8_halves_15 rfl ?_
    refine z_iadd dX8_halves_16 ?_
    obtain ⟨c4, h⟩ := oi h
    refine z_iald dX8_halves_17 kdl_75 (by decide) c4 ?_
    refine z_iload_n 2 dX8_halves_18 rfl ?_
    refine z_ishr dX8_halves_19 ?_
    refine z_iconst (v := 1) dX8_halves_20 rfl ?_
    refine z_iand dX8_halves_21 ?_
    refine z_goto (tgt := 30) dX8_halves_22 (by decide) ?_
    obtain rfl := Option.some.inj h
    exact z_iret dX8_halves_30 rfl rfl
set_option maxHeartbeats 2000000 in
set_option maxRecDepth 20000 in
theorem t_X8_turn (l : Launch) {S : St}  {a1 : Int32} {a2 : Int32} {a3 : Int32} {r : (Int32 × St)} (h : f_X8_turn a1 a2 a3 S = some r) : CT l yX8_turn M_X8_turn [.ref 74, .int a1, .int a2, .int a3] S (some (.int r.1)) r.2 := by
  rw [f_X8_turn] at h
  refine ct_of (lv := [(0, .ref 74), (1, .int a1), (2, .int a2), (3, .int a3)]) (by decide) rfl (Nat.le_of_ble_eq_true rfl) ?_
  refine z_aload_n 0 dX8_turn_0 rfl ?_
  refine z_iload_n 1 dX8_turn_1 rfl ?_
  obtain ⟨v1, hv1, h⟩ := ob h
  refine z_callV (as := [.int a1]) dX8_turn_2 ml_8_101 mv_X8_isThing (t_X8_isThing l hv1) kdl_74 ⟨by decide, rfl⟩ rfl rfl (Nat.le_of_ble_eq_true rfl) ⟨Nat.le_of_ble_eq_true rfl, Nat.le_of_ble_eq_true rfl⟩ rfl ?_
  refine z_if_ne (tgt := 14) dX8_turn_5 (by decide) (fun c2 => ?_) (fun c2 => ?_)
  · replace h := ig c2 h
    refine z_iload_n 2 dX8_turn_14 rfl ?_
    refine z_iconst (v := 0) dX8_turn_15 rfl ?_
    refine z_iconst (v := 5) dX8_turn_16 rfl ?_
    obtain ⟨v3, hv3, h⟩ := ob h
    refine z_callS (as := [.int a2, .int 0, .int 5]) dX8_turn_17 ml_8_47 ms_X8_isIn (t_X8_isIn l _ hv3) rfl rfl (Nat.le_of_ble_eq_true rfl) ⟨Nat.le_of_ble_eq_true rfl, Nat.le_of_ble_eq_true rfl⟩ rfl ?_
    refine z_if_ne (tgt := 30) dX8_turn_20 (by decide) (fun c4 => ?_) (fun c4 => ?_)
    · replace h := ig c4 h
      refine z_iload_n 3 dX8_turn_30 rfl ?_
      refine z_if_ge (tgt := 41) dX8_turn_31 (by decide) (fun c5 => ?_) (fun c5 => ?_)
      · replace h := ip c5 h
        refine z_iload_n 3 dX8_turn_41 rfl ?_
        refine z_bipush (v := 9) dX8_turn_42 rfl ?_
        refine z_icmp_le (tgt := 54) dX8_turn_44 (by decide) (fun c6 => ?_) (fun c6 => ?_)
        · replace h := ip c6 h
          refine z_bipush (v := 10) dX8_turn_54 rfl ?_
          refine z_aload_n 0 dX8_turn_56 rfl ?_
          refine z_get (v := .ref 75) dX8_turn_57 fl_8_9 kdl_74 rfl ?_
          refine z_iconst (v := 4) dX8_turn_60 rfl ?_
          refine z_iload_n 1 dX8_turn_61 rfl ?_
          refine z_iadd dX8_turn_62 ?_
          obtain ⟨c7, h⟩ := oi h
          refine z_iald dX8_turn_63 kdl_75 (by decide) c7 ?_
          refine z_imul dX8_turn_64 ?_
          refine z_aload_n 0 dX8_turn_65 rfl ?_
          refine z_get (v := .ref 75) dX8_turn_66 fl_8_9 kdl_74 rfl ?_
          refine z_bipush (v := 12) dX8_turn_69 rfl ?_
          refine z_iload_n 1 dX8_turn_71 rfl ?_
          refine z_iadd dX8_turn_72 ?_
          obtain ⟨c8, h⟩ := oi h
          refine z_iald dX8_turn_73 kdl_75 (by decide) c8 ?_
          refine z_iadd dX8_turn_74 ?_
          refine z_istore (lv' := [(0, .ref 74), (1, .int a1), (2, .int a2), (3, .int a3), (4, .int ((10 * (S.1 75 (4 + a1).toNatClampNeg)) + (S.1 75 (12 + a1).toNatClampNeg)))]) [1, 2, 3, 4, 0] dX8_turn_75 (Nat.le_of_ble_eq_true rfl) rfl ?_
          refine z_aload_n 0 dX8_turn_77 rfl ?_
          refine z_get (v := .ref 75) dX8_turn_78 fl_8_9 kdl_74 rfl ?_
          refine z_iconst (v := 4) dX8_turn_81 rfl ?_
          refine z_iload_n 1 dX8_turn_82 rfl ?_
          refine z_iadd dX8_turn_83 ?_
          refine z_iload_n 2 dX8_turn_84 rfl ?_
          obtain ⟨c9, h⟩ := oi h
          refine z_iast dX8_turn_85 kdl_75 (by decide) c9 ?_
          refine z_aload_n 0 dX8_turn_86 rfl ?_
          refine z_get (v := .ref 75) dX8_turn_87 fl_8_9 kdl_74 rfl ?_
          refine z_bipush (v := 12) dX8_turn_90 rfl ?_
          refine z_iload_n 1 dX8_turn_92 rfl ?_
          refine z_iadd dX8_turn_93 ?_
          refine z_iload_n 3 dX8_turn_94 rfl ?_
          obtain ⟨c10, h⟩ := oi h
          refine z_iast dX8_turn_95 kdl_75 (by decide) c10 ?_
          refine z_iload 4 dX8_turn_96 rfl ?_
          obtain rfl := Option.some.inj h
          exact z_iret dX8_turn_98 rfl rfl
        · replace h := ig c6 h
          refine z_aload_n 0 dX8_turn_47 rfl ?_
          refine z_bipush (v := (-6)) dX8_turn_48 rfl ?_
          obtain ⟨z11, hz11, h⟩ := ob h
          refine z_callV (as := [.int (-6)]) dX8_turn_50 ml_8_41 mv_X8_no (t_X8_no l hz11) kdl_74 ⟨by decide, rfl⟩ rfl rfl (Nat.le_of_ble_eq_true rfl) ⟨Nat.le_of_ble_eq_true rfl, Nat.le_of_ble_eq_true rfl⟩ rfl ?_
          obtain rfl := Option.some.inj h
          exact z_iret dX8_turn_53 rfl rfl
      · replace h := ig c5 h
        refine z_aload_n 0 dX8_turn_34 rfl ?_
        refine z_bipush (v := (-4)) dX8_turn_35 rfl ?_
        obtain ⟨z12, hz12, h⟩ := ob h
        refine z_callV (as := [.int (-4)]) dX8_turn_37 ml_8_41 mv_X8_no (t_X8_no l hz12) kdl_74 ⟨by decide, rfl⟩ rfl rfl (Nat.le_of_ble_eq_true rfl) ⟨Nat.le_of_ble_eq_true rfl, Nat.le_of_ble_eq_true rfl⟩ rfl ?_
        obtain rfl := Option.some.inj h
        exact z_iret dX8_turn_40 rfl rfl
    · replace h := ip c4 h
      refine z_aload_n 0 dX8_turn_23 rfl ?_
      refine z_bipush (v := (-2)) dX8_turn_24 rfl ?_
      obtain ⟨z13, hz13, h⟩ := ob h
      refine z_callV (as := [.int (-2)]) dX8_turn_26 ml_8_41 mv_X8_no (t_X8_no l hz13) kdl_74 ⟨by decide, rfl⟩ rfl rfl (Nat.le_of_ble_eq_true rfl) ⟨Nat.le_of_ble_eq_true rfl, Nat.le_of_ble_eq_true rfl⟩ rfl ?_
      obtain rfl := Option.some.inj h
      exact z_iret dX8_turn_29 rfl rfl
  · replace h := ip c2 h
    refine z_aload_n 0 dX8_turn_8 rfl ?_
    refine z_iconst (v := (-1)) dX8_turn_9 rfl ?_
    obtain ⟨z14, hz14, h⟩ := ob h
    refine z_callV (as := [.int (-1)]) dX8_turn_10 ml_8_41 mv_X8_no (t_X8_no l hz14) kdl_74 ⟨by decide, rfl⟩ rfl rfl (Nat.le_of_ble_eq_true rfl) ⟨Nat.le_of_ble_eq_true rfl, Nat.le_of_ble_eq_true rfl⟩ rfl ?_
    obtain rfl := Option.some.inj h
    exact z_iret dX8_turn_13 rfl rfl
set_option maxHeartbeats 2000000 in
set_option maxRecDepth 20000 in
theorem t_X8_makes (l : Launch) {S : St}  {a1 : Int32} {a2 : Int32} {a3 : Int32} {r : (Int32 × St)} (h : f_X8_makes a1 a2 a3 S = some r) : CT l yX8_makes M_X8_makes [.ref 74, .int a1, .int a2, .int a3] S (some (.int r.1)) r.2 := by
  rw [f_X8_makes] at h
  refine ct_of (lv := [(0, .ref 74), (1, .int a1), (2, .int a2), (3, .int a3)]) (by decide) rfl (Nat.le_of_ble_eq_true rfl) ?_
  refine z_aload_n 0 dX8_makes_0 rfl ?_
  refine z_iload_n 1 dX8_makes_1 rfl ?_
  obtain ⟨v1, hv1, h⟩ := ob h
  refine z_callV (as := [.int a1]) dX8_makes_2 ml_8_101 mv_X8_isThing (t_X8_isThing l hv1) kdl_74 ⟨by decide, rfl⟩ rfl rfl (Nat.le_of_ble_eq_true rfl) ⟨Nat.le_of_ble_eq_true rfl, Nat.le_of_ble_eq_true rfl⟩ rfl ?_
  refine z_if_eq (tgt := 15) dX8_makes_5 (by decide) (fun c2 => ?_) (fun c2 => ?_)
  · replace h := ip c2 h
    refine z_aload_n 0 dX8_makes_15 rfl ?_
    refine z_iconst (v := (-1)) dX8_makes_16 rfl ?_
    obtain ⟨z3, hz3, h⟩ := ob h
    refine z_callV (as := [.int (-1)]) dX8_makes_17 ml_8_41 mv_X8_no (t_X8_no l hz3) kdl_74 ⟨by decide, rfl⟩ rfl rfl (Nat.le_of_ble_eq_true rfl) ⟨Nat.le_of_ble_eq_true rfl, Nat.le_of_ble_eq_true rfl⟩ rfl ?_
    obtain rfl := Option.some.inj h
    exact z_iret dX8_makes_20 rfl rfl
  · replace h := ig c2 h
    refine z_iload_n 2 dX8_makes_8 rfl ?_
    obtain ⟨v4, hv4, h⟩ := ob h
    refine z_callS (as := [.int a2]) dX8_makes_9 ml_8_105 ms_X8_isYear (t_X8_isYear l _ hv4) rfl rfl (Nat.le_of_ble_eq_true rfl) ⟨Nat.le_of_ble_eq_true rfl, Nat.le_of_ble_eq_true rfl⟩ rfl ?_
    refine z_if_ne (tgt := 21) dX8_makes_12 (by decide) (fun c5 => ?_) (fun c5 => ?_)
    · replace h := ig c5 h
      refine z_iload_n 3 dX8_makes_21 rfl ?_
      refine z_if_ge (tgt := 32) dX8_makes_22 (by decide) (fun c6 => ?_) (fun c6 => ?_)
      · replace h := ip c6 h
        refine z_iload_n 3 dX8_makes_32 rfl ?_
        refine z_bipush (v := 99) dX8_makes_33 rfl ?_
        refine z_icmp_le (tgt := 45) dX8_makes_35 (by decide) (fun c7 => ?_) (fun c7 => ?_)
        · replace h := ip c7 h
          refine z_aload_n 0 dX8_makes_45 rfl ?_
          refine z_get (v := .ref 75) dX8_makes_46 fl_8_9 kdl_74 rfl ?_
          refine z_iload_n 1 dX8_makes_49 rfl ?_
          refine z_iload_n 2 dX8_makes_50 rfl ?_
          obtain ⟨v8, hv8, h⟩ := ob h
          refine z_callS (as := [.int a1, .int a2]) dX8_makes_51 ml_8_55 ms_X8_at (t_X8_at l _ hv8) rfl rfl (Nat.le_of_ble_eq_true rfl) ⟨Nat.le_of_ble_eq_true rfl, Nat.le_of_ble_eq_true rfl⟩ rfl ?_
          obtain ⟨c9, h⟩ := oi h
          refine z_iald dX8_makes_54 kdl_75 (by decide) c9 ?_
          refine z_istore (lv' := [(0, .ref 74), (1, .int a1), (2, .int a2), (3, .int a3), (4, .int (S.1 75 v8.toNatClampNeg))]) [1, 2, 3, 4, 0] dX8_makes_55 (Nat.le_of_ble_eq_true rfl) rfl ?_
          refine z_aload_n 0 dX8_makes_57 rfl ?_
          refine z_get (v := .ref 75) dX8_makes_58 fl_8_9 kdl_74 rfl ?_
          refine z_iload_n 1 dX8_makes_61 rfl ?_
          refine z_iload_n 2 dX8_makes_62 rfl ?_
          obtain ⟨v10, hv10, h⟩ := ob h
          refine z_callS (as := [.int a1, .int a2]) dX8_makes_63 ml_8_55 ms_X8_at (t_X8_at l _ hv10) rfl rfl (Nat.le_of_ble_eq_true rfl) ⟨Nat.le_of_ble_eq_true rfl, Nat.le_of_ble_eq_true rfl⟩ rfl ?_
          refine z_iload_n 3 dX8_makes_66 rfl ?_
          obtain ⟨c11, h⟩ := oi h
          refine z_iast dX8_makes_67 kdl_75 (by decide) c11 ?_
          refine z_iload 4 dX8_makes_68 rfl ?_
          obtain rfl := Option.some.inj h
          exact z_iret dX8_makes_70 rfl rfl
        · replace h := ig c7 h
          refine z_aload_n 0 dX8_makes_38 rfl ?_
          refine z_bipush (v := (-6)) dX8_makes_39 rfl ?_
          obtain ⟨z12, hz12, h⟩ := ob h
          refine z_callV (as := [.int (-6)]) dX8_makes_41 ml_8_41 mv_X8_no (t_X8_no l hz12) kdl_74 ⟨by decide, rfl⟩ rfl rfl (Nat.le_of_ble_eq_true rfl) ⟨Nat.le_of_ble_eq_true rfl, Nat.le_of_ble_eq_true rfl⟩ rfl ?_
          obtain rfl := Option.some.inj h
          exact z_iret dX8_makes_44 rfl rfl
      · replace h := ig c6 h
        refine z_aload_n 0 dX8_makes_25 rfl ?_
        refine z_bipush (v := (-4)) dX8_makes_26 rfl ?_
        obtain ⟨z13, hz13, h⟩ := ob h
        refine z_callV (as := [.int (-4)]) dX8_makes_28 ml_8_41 mv_X8_no (t_X8_no l hz13) kdl_74 ⟨by decide, rfl⟩ rfl rfl (Nat.le_of_ble_eq_true rfl) ⟨Nat.le_of_ble_eq_true rfl, Nat.le_of_ble_eq_true rfl⟩ rfl ?_
        obtain rfl := Option.some.inj h
        exact z_iret dX8_makes_31 rfl rfl
    · replace h := ip c5 h
      refine z_aload_n 0 dX8_makes_15 rfl ?_
      refine z_iconst (v := (-1)) dX8_makes_16 rfl ?_
      obtain ⟨z14, hz14, h⟩ := ob h
      refine z_callV (as := [.int (-1)]) dX8_makes_17 ml_8_41 mv_X8_no (t_X8_no l hz14) kdl_74 ⟨by decide, rfl⟩ rfl rfl (Nat.le_of_ble_eq_true rfl) ⟨Nat.le_of_ble_eq_true rfl, Nat.le_of_ble_eq_true rfl⟩ rfl ?_
      obtain rfl := Option.some.inj h
      exact z_iret dX8_makes_20 rfl rfl
set_option maxHeartbeats 2000000 in
set_option maxRecDepth 20000 in
theorem t_X8_pairs (l : Launch) {S : St}  {a1 : Int32} {a2 : Int32} {r : (Int32 × St)} (h : f_X8_pairs a1 a2 S = some r) : CT l yX8_pairs M_X8_pairs [.ref 74, .int a1, .int a2] S (some (.int r.1)) r.2 := by
  rw [f_X8_pairs] at h
  refine ct_of (lv := [(0, .ref 74), (1, .int a1), (2, .int a2)]) (by decide) rfl (Nat.le_of_ble_eq_true rfl) ?_
  refine z_aload_n 0 dX8_pairs_0 rfl ?_
  refine z_iload_n 1 dX8_pairs_1 rfl ?_
  refine z_iload_n 2 dX8_pairs_2 rfl ?_
  obtain ⟨v1, hv1, h⟩ := ob h
  refine z_callV (as := [.int a1, .int a2]) dX8_pairs_3 ml_8_129 mv_X8_areTwo (t_X8_areTwo l hv1) kdl_74 ⟨by decide, rfl⟩ rfl rfl (Nat.le_of_ble_eq_true rfl) ⟨Nat.le_of_ble_eq_true rfl, Nat.le_of_ble_eq_true rfl⟩ rfl ?_
  refine z_if_ne (tgt := 15) dX8_pairs_6 (by decide) (fun c2 => ?_) (fun c2 => ?_)
  · replace h := ig c2 h
    refine z_aload_n 0 dX8_pairs_15 rfl ?_
    refine z_iload_n 1 dX8_pairs_16 rfl ?_
    refine z_iload_n 2 dX8_pairs_17 rfl ?_
    obtain ⟨S3, hS3, h⟩ := ob h
    refine z_callV (as := [.int a1, .int a2]) dX8_pairs_18 ml_8_108 mv_X8_turnsHalves (t_X8_turnsHalves l hS3) kdl_74 ⟨by decide, rfl⟩ rfl rfl (Nat.le_of_ble_eq_true rfl) ⟨Nat.le_of_ble_eq_true rfl, Nat.le_of_ble_eq_true rfl⟩ rfl ?_
    refine z_aload_n 0 dX8_pairs_21 rfl ?_
    refine z_get (v := .ref 75) dX8_pairs_22 fl_8_9 kdl_74 rfl ?_
    refine z_bipush (v := 124) dX8_pairs_25 rfl ?_
    refine z_iload_n 1 dX8_pairs_27 rfl ?_
    refine z_iadd dX8_pairs_28 ?_
    obtain ⟨c4, h⟩ := oi h
    refine z_iald dX8_pairs_29 kdl_75 (by decide) c4 ?_
    refine z_iload_n 2 dX8_pairs_30 rfl ?_
    refine z_ishr dX8_pairs_31 ?_
    refine z_iconst (v := 1) dX8_pairs_32 rfl ?_
    refine z_iand dX8_pairs_33 ?_
    obtain rfl := Option.some.inj h
    exact z_iret dX8_pairs_34 rfl rfl
  · replace h := ip c2 h
    refine z_aload_n 0 dX8_pairs_9 rfl ?_
    refine z_iconst (v := (-1)) dX8_pairs_10 rfl ?_
    obtain ⟨z5, hz5, h⟩ := ob h
    refine z_callV (as := [.int (-1)]) dX8_pairs_11 ml_8_41 mv_X8_no (t_X8_no l hz5) kdl_74 ⟨by decide, rfl⟩ rfl rfl (Nat.le_of_ble_eq_true rfl) ⟨Nat.le_of_ble_eq_true rfl, Nat.le_of_ble_eq_true rfl⟩ rfl ?_
    obtain rfl := Option.some.inj h
    exact z_iret dX8_pairs_14 rfl rfl
set_option maxHeartbeats 2000000 in
set_option maxRecDepth 20000 in
theorem t_X8_now (l : Launch) {S : St}  {a1 : Int32} {r : (Int32 × St)} (h : f_X8_now a1 S = some r) : CT l yX8_now M_X8_now [.ref 74, .int a1] S (some (.int r.1)) r.2 := by
  rw [f_X8_now] at h
  refine ct_of (lv := [(0, .ref 74), (1, .int a1)]) (by decide) rfl (Nat.le_of_ble_eq_true rfl) ?_
  refine z_iload_n 1 dX8_now_0 rfl ?_
  obtain ⟨v1, hv1, h⟩ := ob h
  refine z_callS (as := [.int a1]) dX8_now_1 ml_8_105 ms_X8_isYear (t_X8_isYear l _ hv1) rfl rfl (Nat.le_of_ble_eq_true rfl) ⟨Nat.le_of_ble_eq_true rfl, Nat.le_of_ble_eq_true rfl⟩ rfl ?_
  refine z_if_ne (tgt := 13) dX8_now_4 (by decide) (fun c2 => ?_) (fun c2 => ?_)
  · replace h := ig c2 h
    refine z_aload_n 0 dX8_now_13 rfl ?_
    refine z_get (v := .ref 75) dX8_now_14 fl_8_9 kdl_74 rfl ?_
    refine z_iconst (v := 1) dX8_now_17 rfl ?_
    refine z_ialdK (j := 1) dX8_now_18 kdl_75 (by decide) (by decide) (by decide) ?_
    refine z_istore_n (lv' := [(0, .ref 74), (1, .int a1), (2, .int (S.1 75 1))]) [1, 2, 0] dX8_now_19 (Nat.le_of_ble_eq_true rfl) rfl ?_
    refine z_aload_n 0 dX8_now_20 rfl ?_
    refine z_get (v := .ref 75) dX8_now_21 fl_8_9 kdl_74 rfl ?_
    refine z_iconst (v := 1) dX8_now_24 rfl ?_
    refine z_iload_n 1 dX8_now_25 rfl ?_
    refine z_iastK (j := 1) dX8_now_26 kdl_75 (by decide) (by decide) (by decide) ?_
    refine z_iload_n 2 dX8_now_27 rfl ?_
    obtain rfl := Option.some.inj h
    exact z_iret dX8_now_28 rfl rfl
  · replace h := ip c2 h
    refine z_aload_n 0 dX8_now_7 rfl ?_
    refine z_iconst (v := (-1)) dX8_now_8 rfl ?_
    obtain ⟨z3, hz3, h⟩ := ob h
    refine z_callV (as := [.int (-1)]) dX8_now_9 ml_8_41 mv_X8_no (t_X8_no l hz3) kdl_74 ⟨by decide, rfl⟩ rfl rfl (Nat.le_of_ble_eq_true rfl) ⟨Nat.le_of_ble_eq_true rfl, Nat.le_of_ble_eq_true rfl⟩ rfl ?_
    obtain rfl := Option.some.inj h
    exact z_iret dX8_now_12 rfl rfl
set_option maxHeartbeats 2000000 in
set_option maxRecDepth 20000 in
theorem t_X8_hands (l : Launch) {S : St}  {a1 : Int32} {r : (Int32 × St)} (h : f_X8_hands a1 S = some r) : CT l yX8_hands M_X8_hands [.ref 74, .int a1] S (some (.int r.1)) r.2 := by
  rw [f_X8_hands] at h
  refine ct_of (lv := [(0, .ref 74), (1, .int a1)]) (by decide) rfl (Nat.le_of_ble_eq_true rfl) ?_
  refine z_iload_n 1 dX8_hands_0 rfl ?_
  refine z_iconst (v := 1) dX8_hands_1 rfl ?_
  refine z_icmp_ge (tgt := 12) dX8_hands_2 (by decide) (fun c1 => ?_) (fun c1 => ?_)
  · replace h := ip c1 h
    refine z_iload_n 1 dX8_hands_12 rfl ?_
    refine z_iconst (v := 4) dX8_hands_13 rfl ?_
    refine z_icmp_le (tgt := 24) dX8_hands_14 (by decide) (fun c2 => ?_) (fun c2 => ?_)
    · replace h := ip c2 h
      refine z_aload_n 0 dX8_hands_24 rfl ?_
      refine z_get (v := .ref 75) dX8_hands_25 fl_8_9 kdl_74 rfl ?_
      refine z_iconst (v := 3) dX8_hands_28 rfl ?_
      refine z_ialdK (j := 3) dX8_hands_29 kdl_75 (by decide) (by decide) (by decide) ?_
      refine z_istore_n (lv' := [(0, .ref 74), (1, .int a1), (2, .int (S.1 75 3))]) [1, 2, 0] dX8_hands_30 (Nat.le_of_ble_eq_true rfl) rfl ?_
      refine z_aload_n 0 dX8_hands_31 rfl ?_
      refine z_get (v := .ref 75) dX8_hands_32 fl_8_9 kdl_74 rfl ?_
      refine z_iconst (v := 3) dX8_hands_35 rfl ?_
      refine z_iload_n 1 dX8_hands_36 rfl ?_
      refine z_iastK (j := 3) dX8_hands_37 kdl_75 (by decide) (by decide) (by decide) ?_
      refine z_iload_n 2 dX8_hands_38 rfl ?_
      obtain rfl := Option.some.inj h
      exact z_iret dX8_hands_39 rfl rfl
    · replace h := ig c2 h
      refine z_aload_n 0 dX8_hands_17 rfl ?_
      refine z_bipush (v := (-6)) dX8_hands_18 rfl ?_
      obtain ⟨z3, hz3, h⟩ := ob h
      refine z_callV (as := [.int (-6)]) dX8_hands_20 ml_8_41 mv_X8_no (t_X8_no l hz3) kdl_74 ⟨by decide, rfl⟩ rfl rfl (Nat.le_of_ble_eq_true rfl) ⟨Nat.le_of_ble_eq_true rfl, Nat.le_of_ble_eq_true rfl⟩ rfl ?_
      obtain rfl := Option.some.inj h
      exact z_iret dX8_hands_23 rfl rfl
  · replace h := ig c1 h
    refine z_aload_n 0 dX8_hands_5 rfl ?_
    refine z_bipush (v := (-4)) dX8_hands_6 rfl ?_
    obtain ⟨z4, hz4, h⟩ := ob h
    refine z_callV (as := [.int (-4)]) dX8_hands_8 ml_8_41 mv_X8_no (t_X8_no l hz4) kdl_74 ⟨by decide, rfl⟩ rfl rfl (Nat.le_of_ble_eq_true rfl) ⟨Nat.le_of_ble_eq_true rfl, Nat.le_of_ble_eq_true rfl⟩ rfl ?_
    obtain rfl := Option.some.inj h
    exact z_iret dX8_hands_11 rfl rfl
set_option maxHeartbeats 2000000 in
set_option maxRecDepth 20000 in
theorem t_X8_pours (l : Launch) {S : St}  {a1 : Int32} {r : (Int32 × St)} (h : f_X8_pours a1 S = some r) : CT l yX8_pours M_X8_pours [.ref 74, .int a1] S (some (.int r.1)) r.2 := by
  rw [f_X8_pours] at h
  refine ct_of (lv := [(0, .ref 74), (1, .int a1)]) (by decide) rfl (Nat.le_of_ble_eq_true rfl) ?_
  refine z_iload_n 1 dX8_pours_0 rfl ?_
  refine z_if_ge (tgt := 11) dX8_pours_1 (by decide) (fun c1 => ?_) (fun c1 => ?_)
  · replace h := ip c1 h
    refine z_iload_n 1 dX8_pours_11 rfl ?_
    refine z_bipush (v := 99) dX8_pours_12 rfl ?_
    refine z_icmp_le (tgt := 24) dX8_pours_14 (by decide) (fun c2 => ?_) (fun c2 => ?_)
    · replace h := ip c2 h
      refine z_aload_n 0 dX8_pours_24 rfl ?_
      refine z_get (v := .ref 75) dX8_pours_25 fl_8_9 kdl_74 rfl ?_
      refine z_iconst (v := 2) dX8_pours_28 rfl ?_
      refine z_ialdK (j := 2) dX8_pours_29 kdl_75 (by decide) (by decide) (by decide) ?_
      refine z_istore_n (lv' := [(0, .ref 74), (1, .int a1), (2, .int (S.1 75 2))]) [1, 2, 0] dX8_pours_30 (Nat.le_of_ble_eq_true rfl) rfl ?_
      refine z_aload_n 0 dX8_pours_31 rfl ?_
      refine z_get (v := .ref 75) dX8_pours_32 fl_8_9 kdl_74 rfl ?_
      refine z_iconst (v := 2) dX8_pours_35 rfl ?_
      refine z_iload_n 1 dX8_pours_36 rfl ?_
      refine z_iastK (j := 2) dX8_pours_37 kdl_75 (by decide) (by decide) (by decide) ?_
      refine z_iload_n 2 dX8_pours_38 rfl ?_
      obtain rfl := Option.some.inj h
      exact z_iret dX8_pours_39 rfl rfl
    · replace h := ig c2 h
      refine z_aload_n 0 dX8_pours_17 rfl ?_
      refine z_bipush (v := (-6)) dX8_pours_18 rfl ?_
      obtain ⟨z3, hz3, h⟩ := ob h
      refine z_callV (as := [.int (-6)]) dX8_pours_20 ml_8_41 mv_X8_no (t_X8_no l hz3) kdl_74 ⟨by decide, rfl⟩ rfl rfl (Nat.le_of_ble_eq_true rfl) ⟨Nat.le_of_ble_eq_true rfl, Nat.le_of_ble_eq_true rfl⟩ rfl ?_
      obtain rfl := Option.some.inj h
      exact z_iret dX8_pours_23 rfl rfl
  · replace h := ig c1 h
    refine z_aload_n 0 dX8_pours_4 rfl ?_
    refine z_bipush (v := (-4)) dX8_pours_5 rfl ?_
    obtain ⟨z4, hz4, h⟩ := ob h
    refine z_callV (as := [.int (-4)]) dX8_pours_7 ml_8_41 mv_X8_no (t_X8_no l hz4) kdl_74 ⟨by decide, rfl⟩ rfl rfl (Nat.le_of_ble_eq_true rfl) ⟨Nat.le_of_ble_eq_true rfl, Nat.le_of_ble_eq_true rfl⟩ rfl ?_
    obtain rfl := Option.some.inj h
    exact z_iret dX8_pours_10 rfl rfl
set_option maxHeartbeats 2000000 in
set_option maxRecDepth 20000 in
theorem t_X8_wrongGlue (l : Launch) {S : St}  {a1 : Int32} {a2 : Int32} {a3 : Int32} {r : Int32} (h : f_X8_wrongGlue a1 a2 a3 S = some r) : CT l yX8_wrongGlue M_X8_wrongGlue [.ref 74, .int a1, .int a2, .int a3] S (some (.int r)) S := by
  rw [f_X8_wrongGlue] at h
  refine ct_of (lv := [(0, .ref 74), (1, .int a1), (2, .int a2), (3, .int a3)]) (by decide) rfl (Nat.le_of_ble_eq_true rfl) ?_
  refine z_aload_n 0 dX8_wrongGlue_0 rfl ?_
  refine z_iload_n 1 dX8_wrongGlue_1 rfl ?_
  obtain ⟨v1, hv1, h⟩ := ob h
  refine z_callV (as := [.int a1]) dX8_wrongGlue_2 ml_8_101 mv_X8_isThing (t_X8_isThing l hv1) kdl_74 ⟨by decide, rfl⟩ rfl rfl (Nat.le_of_ble_eq_true rfl) ⟨Nat.le_of_ble_eq_true rfl, Nat.le_of_ble_eq_true rfl⟩ rfl ?_
  refine z_if_ne (tgt := 12) dX8_wrongGlue_5 (by decide) (fun c2 => ?_) (fun c2 => ?_)
  · replace h := ig c2 h
    refine z_iload_n 2 dX8_wrongGlue_12 rfl ?_
    refine z_if_lt (tgt := 20) dX8_wrongGlue_13 (by decide) (fun c3 => ?_) (fun c3 => ?_)
    · replace h := ip c3 h
      refine z_bipush (v := (-4)) dX8_wrongGlue_20 rfl ?_
      refine z_goto (tgt := 43) dX8_wrongGlue_22 (by decide) ?_
      obtain rfl := Option.some.inj h
      exact z_iret dX8_wrongGlue_43 rfl rfl
    · replace h := ig c3 h
      refine z_iload_n 3 dX8_wrongGlue_16 rfl ?_
      refine z_if_ge (tgt := 25) dX8_wrongGlue_17 (by decide) (fun c4 => ?_) (fun c4 => ?_)
      · replace h := ip c4 h
        refine z_iload_n 2 dX8_wrongGlue_25 rfl ?_
        refine z_bipush (v := 99) dX8_wrongGlue_26 rfl ?_
        refine z_icmp_gt (tgt := 37) dX8_wrongGlue_28 (by decide) (fun c5 => ?_) (fun c5 => ?_)
        · replace h := ip c5 h
          refine z_bipush (v := (-6)) dX8_wrongGlue_37 rfl ?_
          refine z_goto (tgt := 43) dX8_wrongGlue_39 (by decide) ?_
          obtain rfl := Option.some.inj h
          exact z_iret dX8_wrongGlue_43 rfl rfl
        · replace h := ig c5 h
          refine z_iload_n 3 dX8_wrongGlue_31 rfl ?_
          refine z_bipush (v := 9) dX8_wrongGlue_32 rfl ?_
          refine z_icmp_le (tgt := 42) dX8_wrongGlue_34 (by decide) (fun c6 => ?_) (fun c6 => ?_)
          · replace h := ip c6 h
            refine z_iconst (v := 0) dX8_wrongGlue_42 rfl ?_
            obtain rfl := Option.some.inj h
            exact z_iret dX8_wrongGlue_43 rfl rfl
          · replace h := ig c6 h
            refine z_bipush (v := (-6)) dX8_wrongGlue_37 rfl ?_
            refine z_goto (tgt := 43) dX8_wrongGlue_39 (by decide) ?_
            obtain rfl := Option.some.inj h
            exact z_iret dX8_wrongGlue_43 rfl rfl
      · replace h := ig c4 h
        refine z_bipush (v := (-4)) dX8_wrongGlue_20 rfl ?_
        refine z_goto (tgt := 43) dX8_wrongGlue_22 (by decide) ?_
        obtain rfl := Option.some.inj h
        exact z_iret dX8_wrongGlue_43 rfl rfl
  · replace h := ip c2 h
    refine z_iconst (v := (-1)) dX8_wrongGlue_8 rfl ?_
    refine z_goto (tgt := 43) dX8_wrongGlue_9 (by decide) ?_
    obtain rfl := Option.some.inj h
    exact z_iret dX8_wrongGlue_43 rfl rfl
set_option maxHeartbeats 2000000 in
set_option maxRecDepth 20000 in
theorem t_X8_glues (l : Launch) {S : St}  {a1 : Int32} {a2 : Int32} {a3 : Int32} {r : (Int32 × St)} (h : f_X8_glues a1 a2 a3 S = some r) : CT l yX8_glues M_X8_glues [.ref 74, .int a1, .int a2, .int a3] S (some (.int r.1)) r.2 := by
  rw [f_X8_glues] at h
  refine ct_of (lv := [(0, .ref 74), (1, .int a1), (2, .int a2), (3, .int a3)]) (by decide) rfl (Nat.le_of_ble_eq_true rfl) ?_
  refine z_aload_n 0 dX8_glues_0 rfl ?_
  refine z_iload_n 1 dX8_glues_1 rfl ?_
  refine z_iload_n 2 dX8_glues_2 rfl ?_
  refine z_iload_n 3 dX8_glues_3 rfl ?_
  obtain ⟨v1, hv1, h⟩ := ob h
  refine z_callV (as := [.int a1, .int a2, .int a3]) dX8_glues_4 ml_8_132 mv_X8_wrongGlue (t_X8_wrongGlue l hv1) kdl_74 ⟨by decide, rfl⟩ rfl rfl (Nat.le_of_ble_eq_true rfl) ⟨Nat.le_of_ble_eq_true rfl, Nat.le_of_ble_eq_true rfl⟩ rfl ?_
  refine z_istore (lv' := [(0, .ref 74), (1, .int a1), (2, .int a2), (3, .int a3), (4, .int v1)]) [1, 2, 3, 4, 0] dX8_glues_7 (Nat.le_of_ble_eq_true rfl) rfl ?_
  refine z_iload 4 dX8_glues_9 rfl ?_
  refine z_if_ne (tgt := 26) dX8_glues_11 (by decide) (fun c2 => ?_) (fun c2 => ?_)
  · replace h := ig c2 h
    refine z_iload 4 dX8_glues_26 rfl ?_
    refine z_if_eq (tgt := 40) dX8_glues_28 (by decide) (fun c3 => ?_) (fun c3 => ?_)
    · replace h := ip c3 h
      refine z_aload_n 0 dX8_glues_40 rfl ?_
      refine z_iload_n 1 dX8_glues_41 rfl ?_
      refine z_iload_n 2 dX8_glues_42 rfl ?_
      refine z_iload_n 3 dX8_glues_43 rfl ?_
      obtain ⟨z4, hz4, h⟩ := ob h
      refine z_callV (as := [.int a1, .int a2, .int a3]) dX8_glues_44 ml_8_115 mv_X8_gluesTo (t_X8_gluesTo l hz4) kdl_74 ⟨by decide, rfl⟩ rfl rfl (Nat.le_of_ble_eq_true rfl) ⟨Nat.le_of_ble_eq_true rfl, Nat.le_of_ble_eq_true rfl⟩ rfl ?_
      obtain rfl := Option.some.inj h
      exact z_iret dX8_glues_47 rfl rfl
    · replace h := ig c3 h
      refine z_aload_n 0 dX8_glues_31 rfl ?_
      refine z_iload 4 dX8_glues_32 rfl ?_
      obtain ⟨z5, hz5, h⟩ := ob h
      refine z_callV (as := [.int v1]) dX8_glues_34 ml_8_41 mv_X8_no (t_X8_no l hz5) kdl_74 ⟨by decide, rfl⟩ rfl rfl (Nat.le_of_ble_eq_true rfl) ⟨Nat.le_of_ble_eq_true rfl, Nat.le_of_ble_eq_true rfl⟩ rfl ?_
      refine z_goto (tgt := 47) dX8_glues_37 (by decide) ?_
      obtain rfl := Option.some.inj h
      exact z_iret dX8_glues_47 rfl rfl
  · replace h := ip c2 h
    refine z_aload_n 0 dX8_glues_14 rfl ?_
    refine z_iload_n 1 dX8_glues_15 rfl ?_
    obtain ⟨v6, hv6, h⟩ := ob h
    refine z_callV (as := [.int a1]) dX8_glues_16 ml_8_112 mv_X8_canGlue (t_X8_canGlue l hv6) kdl_74 ⟨by decide, rfl⟩ rfl rfl (Nat.le_of_ble_eq_true rfl) ⟨Nat.le_of_ble_eq_true rfl, Nat.le_of_ble_eq_true rfl⟩ rfl ?_
    refine z_if_ne (tgt := 26) dX8_glues_19 (by decide) (fun c7 => ?_) (fun c7 => ?_)
    · replace h := ig c7 h
      refine z_iload 4 dX8_glues_26 rfl ?_
      refine z_if_eq (tgt := 40) dX8_glues_28 (by decide) (fun c8 => ?_) (fun c8 => ?_)
      · replace h := ip c8 h
        refine z_aload_n 0 dX8_glues_40 rfl ?_
        refine z_iload_n 1 dX8_glues_41 rfl ?_
        refine z_iload_n 2 dX8_glues_42 rfl ?_
        refine z_iload_n 3 dX8_glues_43 rfl ?_
        obtain ⟨z9, hz9, h⟩ := ob h
        refine z_callV (as := [.int a1, .int a2, .int a3]) dX8_glues_44 ml_8_115 mv_X8_gluesTo (t_X8_gluesTo l hz9) kdl_74 ⟨by decide, rfl⟩ rfl rfl (Nat.le_of_ble_eq_true rfl) ⟨Nat.le_of_ble_eq_true rfl, Nat.le_of_ble_eq_true rfl⟩ rfl ?_
        obtain rfl := Option.some.inj h
        exact z_iret dX8_glues_47 rfl rfl
      · replace h := ig c8 h
        refine z_aload_n 0 dX8_glues_31 rfl ?_
        refine z_iload 4 dX8_glues_32 rfl ?_
        obtain ⟨z10, hz10, h⟩ := ob h
        refine z_callV (as := [.int v1]) dX8_glues_34 ml_8_41 mv_X8_no (t_X8_no l hz10) kdl_74 ⟨by decide, rfl⟩ rfl rfl (Nat.le_of_ble_eq_true rfl) ⟨Nat.le_of_ble_eq_true rfl, Nat.le_of_ble_eq_true rfl⟩ rfl ?_
        refine z_goto (tgt := 47) dX8_glues_37 (by decide) ?_
        obtain rfl := Option.some.inj h
        exact z_iret dX8_glues_47 rfl rfl
    · replace h := ip c7 h
      refine z_bipush (v := (-3)) dX8_glues_22 rfl ?_
      refine z_istore (lv' := [(0, .ref 74), (1, .int a1), (2, .int a2), (3, .int a3), (4, .int (-3))]) [1, 2, 3, 4, 0] dX8_glues_24 (Nat.le_of_ble_eq_true rfl) rfl ?_
      refine z_iload 4 dX8_glues_26 rfl ?_
      refine z_if_eq (tgt := 40) dX8_glues_28 (by decide) (fun c11 => ?_) (fun c11 => ?_)
      · first | exact absurd c11 (by decide) | exact absurd rfl c11
      · refine z_aload_n 0 dX8_glues_31 rfl ?_
        refine z_iload 4 dX8_glues_32 rfl ?_
        obtain ⟨z12, hz12, h⟩ := ob h
        refine z_callV (as := [.int (-3)]) dX8_glues_34 ml_8_41 mv_X8_no (t_X8_no l hz12) kdl_74 ⟨by decide, rfl⟩ rfl rfl (Nat.le_of_ble_eq_true rfl) ⟨Nat.le_of_ble_eq_true rfl, Nat.le_of_ble_eq_true rfl⟩ rfl ?_
        refine z_goto (tgt := 47) dX8_glues_37 (by decide) ?_
        obtain rfl := Option.some.inj h
        exact z_iret dX8_glues_47 rfl rfl
set_option maxHeartbeats 2000000 in
set_option maxRecDepth 20000 in
theorem t_X8_washes (l : Launch) {S : St}  {a1 : Int32} {r : (Int32 × St)} (h : f_X8_washes a1 S = some r) : CT l yX8_washes M_X8_washes [.ref 74, .int a1] S (some (.int r.1)) r.2 := by
  rw [f_X8_washes] at h
  refine ct_of (lv := [(0, .ref 74), (1, .int a1)]) (by decide) rfl (Nat.le_of_ble_eq_true rfl) ?_
  refine z_aload_n 0 dX8_washes_0 rfl ?_
  refine z_iload_n 1 dX8_washes_1 rfl ?_
  obtain ⟨v1, hv1, h⟩ := ob h
  refine z_callV (as := [.int a1]) dX8_washes_2 ml_8_101 mv_X8_isThing (t_X8_isThing l hv1) kdl_74 ⟨by decide, rfl⟩ rfl rfl (Nat.le_of_ble_eq_true rfl) ⟨Nat.le_of_ble_eq_true rfl, Nat.le_of_ble_eq_true rfl⟩ rfl ?_
  refine z_if_ne (tgt := 14) dX8_washes_5 (by decide) (fun c2 => ?_) (fun c2 => ?_)
  · replace h := ig c2 h
    refine z_aload_n 0 dX8_washes_14 rfl ?_
    refine z_get (v := .ref 75) dX8_washes_15 fl_8_9 kdl_74 rfl ?_
    refine z_bipush (v := 20) dX8_washes_18 rfl ?_
    refine z_iload_n 1 dX8_washes_20 rfl ?_
    refine z_iadd dX8_washes_21 ?_
    obtain ⟨c3, h⟩ := oi h
    refine z_iald dX8_washes_22 kdl_75 (by decide) c3 ?_
    refine z_istore_n (lv' := [(0, .ref 74), (1, .int a1), (2, .int (S.1 75 (20 + a1).toNatClampNeg))]) [1, 2, 0] dX8_washes_23 (Nat.le_of_ble_eq_true rfl) rfl ?_
    refine z_iload_n 2 dX8_washes_24 rfl ?_
    refine z_if_ge (tgt := 35) dX8_washes_25 (by decide) (fun c4 => ?_) (fun c4 => ?_)
    · replace h := ip c4 h
      refine z_aload_n 0 dX8_washes_35 rfl ?_
      refine z_get (v := .ref 75) dX8_washes_36 fl_8_9 kdl_74 rfl ?_
      refine z_bipush (v := 20) dX8_washes_39 rfl ?_
      refine z_iload_n 1 dX8_washes_41 rfl ?_
      refine z_iadd dX8_washes_42 ?_
      refine z_bipush (v := (-9)) dX8_washes_43 rfl ?_
      obtain ⟨c5, h⟩ := oi h
      refine z_iast dX8_washes_45 kdl_75 (by decide) c5 ?_
      refine z_iload_n 2 dX8_washes_46 rfl ?_
      obtain rfl := Option.some.inj h
      exact z_iret dX8_washes_47 rfl rfl
    · replace h := ig c4 h
      refine z_aload_n 0 dX8_washes_28 rfl ?_
      refine z_bipush (v := (-3)) dX8_washes_29 rfl ?_
      obtain ⟨z6, hz6, h⟩ := ob h
      refine z_callV (as := [.int (-3)]) dX8_washes_31 ml_8_41 mv_X8_no (t_X8_no l hz6) kdl_74 ⟨by decide, rfl⟩ rfl rfl (Nat.le_of_ble_eq_true rfl) ⟨Nat.le_of_ble_eq_true rfl, Nat.le_of_ble_eq_true rfl⟩ rfl ?_
      obtain rfl := Option.some.inj h
      exact z_iret dX8_washes_34 rfl rfl
  · replace h := ip c2 h
    refine z_aload_n 0 dX8_washes_8 rfl ?_
    refine z_iconst (v := (-1)) dX8_washes_9 rfl ?_
    obtain ⟨z7, hz7, h⟩ := ob h
    refine z_callV (as := [.int (-1)]) dX8_washes_10 ml_8_41 mv_X8_no (t_X8_no l hz7) kdl_74 ⟨by decide, rfl⟩ rfl rfl (Nat.le_of_ble_eq_true rfl) ⟨Nat.le_of_ble_eq_true rfl, Nat.le_of_ble_eq_true rfl⟩ rfl ?_
    obtain rfl := Option.some.inj h
    exact z_iret dX8_washes_13 rfl rfl
set_option maxHeartbeats 2000000 in
set_option maxRecDepth 20000 in
theorem t_X8_would (l : Launch) {S : St}  {a1 : Int32} {a2 : Int32} {a3 : Int32} {a4 : Int32} {r : (Int32 × St)} (h : f_X8_would a1 a2 a3 a4 S = some r) : CT l yX8_would M_X8_would [.ref 74, .int a1, .int a2, .int a3, .int a4] S (some (.int r.1)) r.2 := by
  rw [f_X8_would] at h
  refine ct_of (lv := [(0, .ref 74), (1, .int a1), (2, .int a2), (3, .int a3), (4, .int a4)]) (by decide) rfl (Nat.le_of_ble_eq_true rfl) ?_
  refine z_aload_n 0 dX8_would_0 rfl ?_
  refine z_iload_n 1 dX8_would_1 rfl ?_
  refine z_iload_n 2 dX8_would_2 rfl ?_
  refine z_iload_n 3 dX8_would_3 rfl ?_
  obtain ⟨v1, hv1, h⟩ := ob h
  refine z_callV (as := [.int a1, .int a2, .int a3]) dX8_would_4 ml_8_132 mv_X8_wrongGlue (t_X8_wrongGlue l hv1) kdl_74 ⟨by decide, rfl⟩ rfl rfl (Nat.le_of_ble_eq_true rfl) ⟨Nat.le_of_ble_eq_true rfl, Nat.le_of_ble_eq_true rfl⟩ rfl ?_
  refine z_istore (lv' := [(0, .ref 74), (1, .int a1), (2, .int a2), (3, .int a3), (4, .int a4), (5, .int v1)]) [1, 2, 3, 4, 5, 0] dX8_would_7 (Nat.le_of_ble_eq_true rfl) rfl ?_
  refine z_iload 5 dX8_would_9 rfl ?_
  refine z_if_ne (tgt := 28) dX8_would_11 (by decide) (fun c2 => ?_) (fun c2 => ?_)
  · replace h := ig c2 h
    refine z_iload 5 dX8_would_28 rfl ?_
    refine z_if_eq (tgt := 40) dX8_would_30 (by decide) (fun c3 => ?_) (fun c3 => ?_)
    · replace h := ip c3 h
      refine z_aload_n 0 dX8_would_40 rfl ?_
      refine z_get (v := .ref 75) dX8_would_41 fl_8_9 kdl_74 rfl ?_
      refine z_iload_n 1 dX8_would_44 rfl ?_
      refine z_iload_n 2 dX8_would_45 rfl ?_
      refine z_iload_n 3 dX8_would_46 rfl ?_
      obtain ⟨v4, hv4, h⟩ := ob h
      refine z_callS (as := [.ref 75, .int a1, .int a2, .int a3]) dX8_would_47 ml_8_73 ms_X8_yearOf (t_X8_yearOf l kdl_75 hv4) rfl rfl (Nat.le_of_ble_eq_true rfl) ⟨Nat.le_of_ble_eq_true rfl, Nat.le_of_ble_eq_true rfl⟩ rfl ?_
      refine z_istore (lv' := [(0, .ref 74), (1, .int a1), (2, .int a2), (3, .int a3), (4, .int a4), (5, .int v1), (6, .int v4)]) [1, 2, 3, 4, 5, 6, 0] dX8_would_50 (Nat.le_of_ble_eq_true rfl) rfl ?_
      refine z_iload 4 dX8_would_52 rfl ?_
      refine z_if_ne (tgt := 62) dX8_would_54 (by decide) (fun c5 => ?_) (fun c5 => ?_)
      · replace h := ig c5 h
        refine z_iload 4 dX8_would_62 rfl ?_
        refine z_iconst (v := 1) dX8_would_64 rfl ?_
        refine z_icmp_ne (tgt := 81) dX8_would_65 (by decide) (fun c6 => ?_) (fun c6 => ?_)
        · replace h := ig c6 h
          refine z_aload_n 0 dX8_would_81 rfl ?_
          refine z_get (v := .ref 75) dX8_would_82 fl_8_9 kdl_74 rfl ?_
          refine z_iload_n 1 dX8_would_85 rfl ?_
          refine z_iload 6 dX8_would_86 rfl ?_
          obtain ⟨v7, hv7, h⟩ := ob h
          refine z_callS (as := [.int a1, .int v4]) dX8_would_88 ml_8_55 ms_X8_at (t_X8_at l _ hv7) rfl rfl (Nat.le_of_ble_eq_true rfl) ⟨Nat.le_of_ble_eq_true rfl, Nat.le_of_ble_eq_true rfl⟩ rfl ?_
          obtain ⟨c8, h⟩ := oi h
          refine z_iald dX8_would_91 kdl_75 (by decide) c8 ?_
          obtain rfl := Option.some.inj h
          exact z_iret dX8_would_92 rfl rfl
        · replace h := ip c6 h
          refine z_aload_n 0 dX8_would_68 rfl ?_
          refine z_get (v := .ref 75) dX8_would_69 fl_8_9 kdl_74 rfl ?_
          refine z_iload_n 1 dX8_would_72 rfl ?_
          refine z_iload_n 2 dX8_would_73 rfl ?_
          refine z_iload_n 3 dX8_would_74 rfl ?_
          obtain ⟨v9, hv9, h⟩ := ob h
          refine z_callS (as := [.ref 75, .int a1, .int a2, .int a3]) dX8_would_75 ml_8_62 ms_X8_reach (t_X8_reach l kdl_75 hv9) rfl rfl (Nat.le_of_ble_eq_true rfl) ⟨Nat.le_of_ble_eq_true rfl, Nat.le_of_ble_eq_true rfl⟩ rfl ?_
          refine z_goto (tgt := 92) dX8_would_78 (by decide) ?_
          obtain rfl := Option.some.inj h
          exact z_iret dX8_would_92 rfl rfl
      · replace h := ip c5 h
        refine z_iload 6 dX8_would_57 rfl ?_
        refine z_goto (tgt := 92) dX8_would_59 (by decide) ?_
        obtain rfl := Option.some.inj h
        exact z_iret dX8_would_92 rfl rfl
    · replace h := ig c3 h
      refine z_aload_n 0 dX8_would_33 rfl ?_
      refine z_iload 5 dX8_would_34 rfl ?_
      obtain ⟨z10, hz10, h⟩ := ob h
      refine z_callV (as := [.int v1]) dX8_would_36 ml_8_41 mv_X8_no (t_X8_no l hz10) kdl_74 ⟨by decide, rfl⟩ rfl rfl (Nat.le_of_ble_eq_true rfl) ⟨Nat.le_of_ble_eq_true rfl, Nat.le_of_ble_eq_true rfl⟩ rfl ?_
      obtain rfl := Option.some.inj h
      exact z_iret dX8_would_39 rfl rfl
  · replace h := ip c2 h
    refine z_iload 4 dX8_would_14 rfl ?_
    refine z_iconst (v := 0) dX8_would_16 rfl ?_
    refine z_iconst (v := 2) dX8_would_17 rfl ?_
    obtain ⟨v11, hv11, h⟩ := ob h
    refine z_callS (as := [.int a4, .int 0, .int 2]) dX8_would_18 ml_8_47 ms_X8_isIn (t_X8_isIn l _ hv11) rfl rfl (Nat.le_of_ble_eq_true rfl) ⟨Nat.le_of_ble_eq_true rfl, Nat.le_of_ble_eq_true rfl⟩ rfl ?_
    refine z_if_ne (tgt := 28) dX8_would_21 (by decide) (fun c12 => ?_) (fun c12 => ?_)
    · replace h := ig c12 h
      refine z_iload 5 dX8_would_28 rfl ?_
      refine z_if_eq (tgt := 40) dX8_would_30 (by decide) (fun c13 => ?_) (fun c13 => ?_)
      · replace h := ip c13 h
        refine z_aload_n 0 dX8_would_40 rfl ?_
        refine z_get (v := .ref 75) dX8_would_41 fl_8_9 kdl_74 rfl ?_
        refine z_iload_n 1 dX8_would_44 rfl ?_
        refine z_iload_n 2 dX8_would_45 rfl ?_
        refine z_iload_n 3 dX8_would_46 rfl ?_
        obtain ⟨v14, hv14, h⟩ := ob h
        refine z_callS (as := [.ref 75, .int a1, .int a2, .int a3]) dX8_would_47 ml_8_73 ms_X8_yearOf (t_X8_yearOf l kdl_75 hv14) rfl rfl (Nat.le_of_ble_eq_true rfl) ⟨Nat.le_of_ble_eq_true rfl, Nat.le_of_ble_eq_true rfl⟩ rfl ?_
        refine z_istore (lv' := [(0, .ref 74), (1, .int a1), (2, .int a2), (3, .int a3), (4, .int a4), (5, .int v1), (6, .int v14)]) [1, 2, 3, 4, 5, 6, 0] dX8_would_50 (Nat.le_of_ble_eq_true rfl) rfl ?_
        refine z_iload 4 dX8_would_52 rfl ?_
        refine z_if_ne (tgt := 62) dX8_would_54 (by decide) (fun c15 => ?_) (fun c15 => ?_)
        · replace h := ig c15 h
          refine z_iload 4 dX8_would_62 rfl ?_
          refine z_iconst (v := 1) dX8_would_64 rfl ?_
          refine z_icmp_ne (tgt := 81) dX8_would_65 (by decide) (fun c16 => ?_) (fun c16 => ?_)
          · replace h := ig c16 h
            refine z_aload_n 0 dX8_would_81 rfl ?_
            refine z_get (v := .ref 75) dX8_would_82 fl_8_9 kdl_74 rfl ?_
            refine z_iload_n 1 dX8_would_85 rfl ?_
            refine z_iload 6 dX8_would_86 rfl ?_
            obtain ⟨v17, hv17, h⟩ := ob h
            refine z_callS (as := [.int a1, .int v14]) dX8_would_88 ml_8_55 ms_X8_at (t_X8_at l _ hv17) rfl rfl (Nat.le_of_ble_eq_true rfl) ⟨Nat.le_of_ble_eq_true rfl, Nat.le_of_ble_eq_true rfl⟩ rfl ?_
            obtain ⟨c18, h⟩ := oi h
            refine z_iald dX8_would_91 kdl_75 (by decide) c18 ?_
            obtain rfl := Option.some.inj h
            exact z_iret dX8_would_92 rfl rfl
          · replace h := ip c16 h
            refine z_aload_n 0 dX8_would_68 rfl ?_
            refine z_get (v := .ref 75) dX8_would_69 fl_8_9 kdl_74 rfl ?_
            refine z_iload_n 1 dX8_would_72 rfl ?_
            refine z_iload_n 2 dX8_would_73 rfl ?_
            refine z_iload_n 3 dX8_would_74 rfl ?_
            obtain ⟨v19, hv19, h⟩ := ob h
            refine z_callS (as := [.ref 75, .int a1, .int a2, .int a3]) dX8_would_75 ml_8_62 ms_X8_reach (t_X8_reach l kdl_75 hv19) rfl rfl (Nat.le_of_ble_eq_true rfl) ⟨Nat.le_of_ble_eq_true rfl, Nat.le_of_ble_eq_true rfl⟩ rfl ?_
            refine z_goto (tgt := 92) dX8_would_78 (by decide) ?_
            obtain rfl := Option.some.inj h
            exact z_iret dX8_would_92 rfl rfl
        · replace h := ip c15 h
          refine z_iload 6 dX8_would_57 rfl ?_
          refine z_goto (tgt := 92) dX8_would_59 (by decide) ?_
          obtain rfl := Option.some.inj h
          exact z_iret dX8_would_92 rfl rfl
      · replace h := ig c13 h
        refine z_aload_n 0 dX8_would_33 rfl ?_
        refine z_iload 5 dX8_would_34 rfl ?_
        obtain ⟨z20, hz20, h⟩ := ob h
        refine z_callV (as := [.int v1]) dX8_would_36 ml_8_41 mv_X8_no (t_X8_no l hz20) kdl_74 ⟨by decide, rfl⟩ rfl rfl (Nat.le_of_ble_eq_true rfl) ⟨Nat.le_of_ble_eq_true rfl, Nat.le_of_ble_eq_true rfl⟩ rfl ?_
        obtain rfl := Option.some.inj h
        exact z_iret dX8_would_39 rfl rfl
    · replace h := ip c12 h
      refine z_bipush (v := (-2)) dX8_would_24 rfl ?_
      refine z_istore (lv' := [(0, .ref 74), (1, .int a1), (2, .int a2), (3, .int a3), (4, .int a4), (5, .int (-2))]) [1, 2, 3, 4, 5, 0] dX8_would_26 (Nat.le_of_ble_eq_true rfl) rfl ?_
      refine z_iload 5 dX8_would_28 rfl ?_
      refine z_if_eq (tgt := 40) dX8_would_30 (by decide) (fun c21 => ?_) (fun c21 => ?_)
      · first | exact absurd c21 (by decide) | exact absurd rfl c21
      · refine z_aload_n 0 dX8_would_33 rfl ?_
        refine z_iload 5 dX8_would_34 rfl ?_
        obtain ⟨z22, hz22, h⟩ := ob h
        refine z_callV (as := [.int (-2)]) dX8_would_36 ml_8_41 mv_X8_no (t_X8_no l hz22) kdl_74 ⟨by decide, rfl⟩ rfl rfl (Nat.le_of_ble_eq_true rfl) ⟨Nat.le_of_ble_eq_true rfl, Nat.le_of_ble_eq_true rfl⟩ rfl ?_
        obtain rfl := Option.some.inj h
        exact z_iret dX8_would_39 rfl rfl
