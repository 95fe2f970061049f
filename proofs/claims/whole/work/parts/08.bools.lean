-- ===== places that are written numbers =====
section ZK
variable {l : Launch} {y : MethodName} {M : zM} {pc : Nat} {lv : List (Nat × Value)} {st : List Value} {S : St} {w : Option Value} {S' : St}
theorem z_ialdK {q k0 j : Nat} {i : Int32} (d : decode M.2.1 pc = .ok (.iaload, 1)) (hk : kd q = k0) (hc : ¬ k0 < 9 ∧ k0 < 20) (hin : ¬ (i < 0 ∨ il k0 ≤ i.toNatClampNeg)) (hj : i.toNatClampNeg = j) (k : Z l y M (pc + 1) lv (.int (S.1 q j) :: st) S w S') : Z l y M pc lv (.int i :: .ref q :: st) S w S' := by
  subst hj
  exact z_iald d hk hc hin k
theorem z_iastK {q k0 j : Nat} {i x : Int32} (d : decode M.2.1 pc = .ok (.iastore, 1)) (hk : kd q = k0) (hc : ¬ k0 < 9 ∧ k0 < 20) (hin : ¬ (i < 0 ∨ il k0 ≤ i.toNatClampNeg)) (hj : i.toNatClampNeg = j) (k : Z l y M (pc + 1) lv st (up S q j x) w S') : Z l y M pc lv (.int x :: .int i :: .ref q :: st) S w S' := by
  subst hj
  exact z_iast d hk hc hin k
theorem z_laldK {q j : Nat} {i : Int32} (d : decode M.2.1 pc = .ok (.laload, 1)) (hk : kd q = 21) (hin : ¬ (i < 0 ∨ 9 ≤ i.toNatClampNeg)) (hj : i.toNatClampNeg = j) (k : Z l y M (pc + 1) lv (.long (S.2 j) :: st) S w S') : Z l y M pc lv (.int i :: .ref q :: st) S w S' := by
  subst hj
  exact z_lald d hk hin k
theorem z_lastK {q j : Nat} {i : Int32} {x : Int64} (d : decode M.2.1 pc = .ok (.lastore, 1)) (hk : kd q = 21) (hin : ¬ (i < 0 ∨ 9 ≤ i.toNatClampNeg)) (hj : i.toNatClampNeg = j) (k : Z l y M (pc + 1) lv st (upL S j x) w S') : Z l y M pc lv (.long x :: .int i :: .ref q :: st) S w S' := by
  subst hj
  exact z_last d hk hin k
theorem z_copyK {idx q0 q1 k0 j0 j1 j2 : Nat} {sp dp n : Int32} (d : decode M.2.1 pc = .ok (.invokestatic idx, 3)) (ml : zcp y.cls idx) (h0 : kd q0 = k0) (h1 : kd q1 = k0) (hc : ¬ k0 < 9 ∧ k0 < 20) (hne : q0 ≠ q1) (g1 : ¬ sp < 0) (g2 : ¬ dp < 0) (g3 : ¬ n < 0) (e0 : sp.toNatClampNeg = j0) (e1 : dp.toNatClampNeg = j1) (e2 : n.toNatClampNeg = j2) (g4 : j0 + j2 ≤ il k0) (g5 : j1 + j2 ≤ il k0) (hf : 1 ≤ M.2.2.2.2.1) (hcat : (st.map Value.category).sum + (nativeFrameWords "java/lang/System" "arraycopy" 5 + 11) ≤ M.2.2.2.2.2)
    (k : Z l y M (pc + 3) lv st (upc S q0 q1 j0 j1 j2) w S') : Z l y M pc lv (.int n :: .int dp :: .ref q1 :: .int sp :: .ref q0 :: st) S w S' := by
  subst e0
  subst e1
  subst e2
  exact z_copy d ml h0 h1 hc hne g1 g2 g3 g4 g5 hf hcat k
end ZK
-- ===== answers that are booleans =====
theorem b_X8_isIn {a b c z : Int32} (h : f_X8_isIn a b c = some z) : z = 0 ∨ z = 1 := by
  rw [f_X8_isIn] at h
  by_cases c1 : a < b
  · obtain rfl := Option.some.inj (ip c1 h); exact Or.inl rfl
  · replace h := ig c1 h
    by_cases c2 : c < a
    · obtain rfl := Option.some.inj (ip c2 h); exact Or.inl rfl
    · obtain rfl := Option.some.inj (ig c2 h); exact Or.inr rfl
theorem b_X8_isYear {a z : Int32} (h : f_X8_isYear a = some z) : z = 0 ∨ z = 1 := by
  rw [f_X8_isYear] at h
  obtain ⟨v, hv, h⟩ := ob h
  obtain rfl := Option.some.inj h
  exact b_X8_isIn hv
theorem b_X3_add {q : Nat} {a b : Int32} {S : St} {z : Int32 × St} (h : f_X3_add q a b S = some z) : z.1 = 0 ∨ z.1 = 1 := by
  rw [f_X3_add] at h
  by_cases c1 : S.1 q 0 < 8
  · obtain ⟨v, _, h⟩ := ob (ip c1 h)
    obtain ⟨T, _, h⟩ := ob h
    obtain rfl := Option.some.inj h
    exact Or.inr rfl
  · obtain rfl := Option.some.inj (ig c1 h); exact Or.inl rfl
theorem b_X3_moveTo {q : Nat} {a : Int32} {S : St} {z : Int32 × St} (h : f_X3_moveTo q a S = some z) : z.1 = 0 ∨ z.1 = 1 := by
  rw [f_X3_moveTo] at h
  obtain ⟨v, _, h⟩ := ob h
  by_cases c1 : v = 0
  · obtain rfl := Option.some.inj (ip c1 h); exact Or.inr rfl
  · obtain rfl := Option.some.inj (ig c1 h); exact Or.inl rfl
theorem b_X3_turnHalves {q : Nat} {a b : Int32} {S : St} {z : Int32 × St} (h : f_X3_turnHalves q a b S = some z) : z.1 = 0 ∨ z.1 = 1 := by
  rw [f_X3_turnHalves] at h
  obtain ⟨v, _, h⟩ := ob h
  by_cases c1 : v = 0
  · obtain ⟨_, h⟩ := oi (ip c1 h)
    obtain ⟨_, h⟩ := oi h
    obtain ⟨_, h⟩ := oi h
    obtain ⟨_, h⟩ := oi h
    obtain rfl := Option.some.inj h
    exact Or.inr rfl
  · obtain rfl := Option.some.inj (ig c1 h); exact Or.inl rfl
theorem b_X3_glue {q : Nat} {a b c : Int32} {S : St} {z : Int32 × St} (h : f_X3_glue q a b c S = some z) : z.1 = 0 ∨ z.1 = 1 := by
  rw [f_X3_glue] at h
  obtain ⟨v1, _, h⟩ := ob h
  by_cases c1 : v1 = 0
  · obtain ⟨v3, _, h⟩ := ob (ip c1 h)
    obtain ⟨v4, _, h⟩ := ob h
    by_cases c2 : v4 = 0
    · obtain ⟨v6, _, h⟩ := ob (ip c2 h)
      obtain ⟨v7, _, h⟩ := ob h
      by_cases c3 : v7 ≤ S.1 q 2
      · obtain ⟨v9, _, h⟩ := ob (ip c3 h)
        obtain ⟨v10, _, h⟩ := ob h
        obtain ⟨v11, _, h⟩ := ob h
        obtain ⟨v12, _, h⟩ := ob h
        obtain ⟨v13, _, h⟩ := ob h
        obtain rfl := Option.some.inj h
        exact Or.inr rfl
      · obtain rfl := Option.some.inj (ig c3 h); exact Or.inl rfl
    · obtain rfl := Option.some.inj (ig c2 h); exact Or.inl rfl
  · obtain rfl := Option.some.inj (ig c1 h); exact Or.inl rfl
theorem b_X3_makeGlad_L {q : Nat} {a b c : Int32} : ∀ (n : Nat) (x : Int32) (S : St) (z : Int32 × St), f_X3_makeGlad_L32 n q a b c x S (fun T => some (1, T)) = some z → z.1 = 0 ∨ z.1 = 1 := by
  intro n
  induction n with
  | zero => intro x S z h; rw [f_X3_makeGlad_L32] at h; cases h
  | succ n ih =>
    intro x S z h
    rw [f_X3_makeGlad_L32] at h
    by_cases c1 : b < x
    · obtain rfl := Option.some.inj (ip c1 h)
      exact Or.inr rfl
    · obtain ⟨v, _, h⟩ := ob (ig c1 h)
      obtain ⟨T, _, h⟩ := ob h
      exact ih _ _ _ h
theorem b_X3_makeGlad {q : Nat} {a b c d : Int32} {S : St} {z : Int32 × St} (h : f_X3_makeGlad q a b c d S = some z) : z.1 = 0 ∨ z.1 = 1 := by
  rw [f_X3_makeGlad] at h
  obtain ⟨v1, _, h⟩ := ob h
  by_cases c1 : v1 = 0
  · obtain ⟨v2, _, h⟩ := ob (ip c1 h)
    by_cases c2 : v2 = 0
    · obtain ⟨v3, _, h⟩ := ob (ip c2 h)
      by_cases c3 : v3 = 0
      · replace h := ip c3 h
        by_cases c4 : b ≤ c
        · exact b_X3_makeGlad_L _ _ _ _ (ip c4 h)
        · obtain rfl := Option.some.inj (ig c4 h); exact Or.inl rfl
      · obtain rfl := Option.some.inj (ig c3 h); exact Or.inl rfl
    · obtain rfl := Option.some.inj (ig c2 h); exact Or.inl rfl
  · obtain rfl := Option.some.inj (ig c1 h); exact Or.inl rfl
-- ===== by hand: the place of a letter =====
theorem t_X5_kindAt (l : Launch) {S : St} {a1 : Int32} {r : Int32} (h : f_X5_kindAt a1 S = some r) : CT l yX5_kindAt M_X5_kindAt [.ref 60, .int a1] S (some (.int r)) S := by
  exact tk_kindAt l h
