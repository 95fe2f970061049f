-- ===== the reference does a statement =====
def RTo (T : Option (Int32 × St)) (S : St) (o : Option (Nat → Int)) : Prop := ∃ S', T = some (iI (if o.isSome = true then 1 else 0), S') ∧ (∀ i k, i ≠ 75 → S'.1 i k = S.1 i k) ∧ ∀ b, o = some b → RM S' 75 b
theorem RTo.y {T : Option (Int32 × St)} {S S' : St} {b : Nat → Int} (h : T = some (iI 1, S')) (hf : ∀ i k, i ≠ 75 → S'.1 i k = S.1 i k) (hr : RM S' 75 b) : RTo T S (some b) := ⟨S', h, hf, fun c hc => by rw [← Option.some.inj hc]; exact hr⟩
theorem RTo.n {T : Option (Int32 × St)} {S S' : St} (h : T = some (iI 0, S')) (hf : ∀ i k, i ≠ 75 → S'.1 i k = S.1 i k) : RTo T S none := ⟨S', h, hf, fun c hc => by cases hc⟩
section DD
variable {S : St} {a : Nat → Int}
theorem rGL {v y2 : Nat} {w : Int} (hv : v < 8) (hy2 : y2 ≤ 11) (h82 : S.1 82 2 = iI y2) (h83 : S.1 82 3 = iI w) {k : St → Option (Int32 × St)} : ∀ d n y : Nat, ∀ S' b, y + d = y2 + 1 → d < n → (∀ i k, i ≠ 75 → S'.1 i k = S.1 i k) → RM S' 75 b → ∃ S'', (∀ i k, i ≠ 75 → S''.1 i k = S.1 i k) ∧ RM S'' 75 (rng b v w d y) ∧ f_X8_isDone_L225 n (iI v) (iI y) S' k = k S'' := by
  intro d
  induction d with
  | zero =>
    intro n y S' b hx hd q1 q2
    obtain ⟨n, rfl⟩ : ∃ p, n = p + 1 := ⟨n - 1, by omega⟩
    have e1 : S'.1 82 2 = iI y2 := by rw [q1 _ _ (by omega)]; exact h82
    refine ⟨S', q1, q2, ?_⟩
    rw [f_X8_isDone_L225]
    simp (disch := omega) only [li_0, li_1, li_2, li_3, li_4, li_5, li_6, li_7, li_8, li_9, li_10, li_11, li_12, li_16, li_19, li_20, li_28, li_48, li_57, li_59, li_60, li_96, li_97, li_99, li_100, li_102, li_103, li_104, li_112, li_115, li_116, li_118, li_119, li_121, li_124, li_132, li_255, li_256, li_1000, li_2000, li_1000000000, iI_add, iI_sub, iI_mul, iI_neg, iI_lt, iI_le, iI_eq, iI_clamp, iI_s, iI_m1, iI_div, bs, tn, tn4, tn12, tn20, tn124, tn28, itT, itF, if_pos, if_neg, e1]
  | succ d ih =>
    intro n y S' b hx hd q1 q2
    obtain ⟨n, rfl⟩ : ∃ p, n = p + 1 := ⟨n - 1, by omega⟩
    have e1 : S'.1 82 2 = iI y2 := by rw [q1 _ _ (by omega)]; exact h82
    have e3 : S'.1 82 3 = iI w := by rw [q1 _ _ (by omega)]; exact h83
    obtain ⟨S'', g1, g2, g3⟩ := ih n (y + 1) (up S' 75 (28 + 12 * v + y) (iI w)) (st b (28 + 12 * v + y) w) (by omega) (by omega) (fun i k hi => by rw [up_ne hi]; exact q1 i k hi) (q2.st _ w)
    refine ⟨S'', g1, g2, ?_⟩
    rw [f_X8_isDone_L225]
    simp (disch := omega) only [li_0, li_1, li_2, li_3, li_4, li_5, li_6, li_7, li_8, li_9, li_10, li_11, li_12, li_16, li_19, li_20, li_28, li_48, li_57, li_59, li_60, li_96, li_97, li_99, li_100, li_102, li_103, li_104, li_112, li_115, li_116, li_118, li_119, li_121, li_124, li_132, li_255, li_256, li_1000, li_2000, li_1000000000, iI_add, iI_sub, iI_mul, iI_neg, iI_lt, iI_le, iI_eq, iI_clamp, iI_s, iI_m1, iI_div, bs, tn, tn4, tn12, tn20, tn124, tn28, itT, itF, if_pos, if_neg, e1, e3, rAt, g3]
theorem rZL {N : Nat} (hN : N < 8) {k : St → Option (Int32 × St)} : ∀ d n y : Nat, ∀ S', y + d = 12 → d < n → S'.1 75 0 = iI N → (∀ i q, ¬ (i = 75 ∧ 28 + 12 * N ≤ q ∧ q < 28 + 12 * N + 12) → S'.1 i q = S.1 i q) → (∀ u, u < y → S'.1 75 (28 + 12 * N + u) = iI 0) → ∃ S'', (∀ i q, ¬ (i = 75 ∧ 28 + 12 * N ≤ q ∧ q < 28 + 12 * N + 12) → S''.1 i q = S.1 i q) ∧ (∀ u, u < 12 → S''.1 75 (28 + 12 * N + u) = iI 0) ∧ f_X8_isDone_L133 n (iI y) S' k = k S'' := by
  intro d
  induction d with
  | zero =>
    intro n y S' hx hd q0 q1 q2
    obtain ⟨n, rfl⟩ : ∃ p, n = p + 1 := ⟨n - 1, by omega⟩
    obtain rfl : y = 12 := by omega
    refine ⟨S', q1, q2, ?_⟩
    rw [f_X8_isDone_L133]
    simp (disch := omega) only [li_0, li_1, li_2, li_3, li_4, li_5, li_6, li_7, li_8, li_9, li_10, li_11, li_12, li_16, li_19, li_20, li_28, li_48, li_57, li_59, li_60, li_96, li_97, li_99, li_100, li_102, li_103, li_104, li_112, li_115, li_116, li_118, li_119, li_121, li_124, li_132, li_255, li_256, li_1000, li_2000, li_1000000000, iI_add, iI_sub, iI_mul, iI_neg, iI_lt, iI_le, iI_eq, iI_clamp, iI_s, iI_m1, iI_div, bs, tn, tn4, tn12, tn20, tn124, tn28, itT, itF, if_pos, if_neg]
  | succ d ih =>
    intro n y S' hx hd q0 q1 q2
    obtain ⟨n, rfl⟩ : ∃ p, n = p + 1 := ⟨n - 1, by omega⟩
    obtain ⟨S'', g1, g2, g3⟩ := ih n (y + 1) (up S' 75 (28 + 12 * N + y) (iI 0)) (by omega) (by omega) (by rw [up_n (by omega)]; exact q0) (fun i q hi => by rw [up_n (by omega)]; exact q1 i q hi) (fun u hu => by
      by_cases e : u = y
      · rw [e, up_s]
      · rw [up_n (by omega)]; exact q2 u (by omega))
    refine ⟨S'', g1, g2, ?_⟩
    rw [f_X8_isDone_L133]
    simp (disch := omega) only [li_0, li_1, li_2, li_3, li_4, li_5, li_6, li_7, li_8, li_9, li_10, li_11, li_12, li_16, li_19, li_20, li_28, li_48, li_57, li_59, li_60, li_96, li_97, li_99, li_100, li_102, li_103, li_104, li_112, li_115, li_116, li_118, li_119, li_121, li_124, li_132, li_255, li_256, li_1000, li_2000, li_1000000000, iI_add, iI_sub, iI_mul, iI_neg, iI_lt, iI_le, iI_eq, iI_clamp, iI_s, iI_m1, iI_div, bs, tn, tn4, tn12, tn20, tn124, tn28, itT, itF, if_pos, if_neg, q0, rAt, g3]
theorem half0 (hw : WFa a) {N : Nat} (hN : a 0 = N) (h8 : N < 8) : a (124 + N) = 0 := by
  have b := (hw.2.2.2.2.1 N h8).2.2.2.2
  have h : (a (124 + N)).toNat = 0 := by
    apply Nat.eq_of_testBit_eq
    intro j
    rw [Nat.zero_testBit]
    by_cases hj : j < 8
    · by_cases c : (a (124 + N)).toNat.testBit j = true
      · have := hw.2.2.2.2.2 N j h8 hj c
        omega
      · rw [Bool.not_eq_true] at c; exact c
    · have h1 : (a (124 + N)).toNat < 2 ^ 8 := by omega
      have h2 : 2 ^ 8 ≤ 2 ^ j := Nat.pow_le_pow_right (by omega) (by omega)
      exact Nat.testBit_lt_two_pow (by omega)
  omega
theorem rGA (hm : RM S 75 a) (hw : WFa a) {v y1 y2 w : Int} (hv : 0 ≤ v ∧ v ≤ 9) (h1 : 0 ≤ y1 ∧ y1 ≤ 99) (h2 : 0 ≤ y2 ∧ y2 ≤ 99) (n0 : S.1 82 0 = iI v) (n1 : S.1 82 1 = iI y1) (n2 : S.1 82 2 = iI y2) (n3 : S.1 82 3 = iI w) {c : Int32} (hc : c = 103 ∨ c = 118) : RTo (f_X8_isDone c S) S (glA a v.toNat y1 y2 w) := by
  have h8 := hw.1
  obtain ⟨N, hN⟩ : ∃ n : Nat, a 0 = n := ⟨(a 0).toNat, by omega⟩
  have m0 : S.1 75 0 = iI N := by rw [hm 0 (by omega), hN]
  have e1 := rThing m0 (by omega) (z := v) (by omega) (by omega)
  have e3 := rYear (z := y2) (by omega) (by omega)
  unfold glA
  by_cases d : (v.toNat : Int) < a 0 ∧ y1 ≤ y2 ∧ y2 ≤ 11
  · rw [if_pos d]
    obtain ⟨v, rfl⟩ : ∃ m : Nat, v = m := ⟨v.toNat, by omega⟩
    obtain ⟨y1, rfl⟩ : ∃ m : Nat, y1 = m := ⟨y1.toNat, by omega⟩
    obtain ⟨y2, rfl⟩ : ∃ m : Nat, y2 = m := ⟨y2.toNat, by omega⟩
    obtain ⟨S'', g1, g2, g3⟩ := rGL (S := S) (v := v) (y2 := y2) (w := w) (by omega) (by omega) n2 n3 (k := fun S11 => some (iI 1, S11)) (y2 + 1 - y1) 2000 y1 S a (by omega) (by omega) (fun _ _ _ => rfl) hm
    rw [show ((y2 : Int) + 1 - (y1 : Int)).toNat = y2 + 1 - y1 by omega, Int.toNat_natCast, Int.toNat_natCast]
    refine RTo.y ?_ g1 g2
    rcases hc with rfl | rfl
    · simp (disch := omega) only [li_0, li_1, li_2, li_3, li_4, li_5, li_6, li_7, li_8, li_9, li_10, li_11, li_12, li_16, li_19, li_20, li_28, li_48, li_57, li_59, li_60, li_96, li_97, li_99, li_100, li_102, li_103, li_104, li_112, li_115, li_116, li_118, li_119, li_121, li_124, li_132, li_255, li_256, li_1000, li_2000, li_1000000000, iI_add, iI_sub, iI_mul, iI_neg, iI_lt, iI_le, iI_eq, iI_clamp, iI_s, iI_m1, iI_div, bs, tn, tn4, tn12, tn20, tn124, tn28, itT, itF, if_pos, if_neg, f_X8_isDone, n0, n1, n2, e1, e3, g3]
    · simp (disch := omega) only [li_0, li_1, li_2, li_3, li_4, li_5, li_6, li_7, li_8, li_9, li_10, li_11, li_12, li_16, li_19, li_20, li_28, li_48, li_57, li_59, li_60, li_96, li_97, li_99, li_100, li_102, li_103, li_104, li_112, li_115, li_116, li_118, li_119, li_121, li_124, li_132, li_255, li_256, li_1000, li_2000, li_1000000000, iI_add, iI_sub, iI_mul, iI_neg, iI_lt, iI_le, iI_eq, iI_clamp, iI_s, iI_m1, iI_div, bs, tn, tn4, tn12, tn20, tn124, tn28, itT, itF, if_pos, if_neg, f_X8_isDone, n0, n1, n2, e1, e3, g3]
  · rw [if_neg d]
    refine RTo.n (S' := S) ?_ (fun _ _ _ => rfl)
    by_cases d1 : v < a 0
    · by_cases d2 : y2 < y1
      · rcases hc with rfl | rfl
        · simp (disch := omega) only [li_0, li_1, li_2, li_3, li_4, li_5, li_6, li_7, li_8, li_9, li_10, li_11, li_12, li_16, li_19, li_20, li_28, li_48, li_57, li_59, li_60, li_96, li_97, li_99, li_100, li_102, li_103, li_104, li_112, li_115, li_116, li_118, li_119, li_121, li_124, li_132, li_255, li_256, li_1000, li_2000, li_1000000000, iI_add, iI_sub, iI_mul, iI_neg, iI_lt, iI_le, iI_eq, iI_clamp, iI_s, iI_m1, iI_div, bs, tn, tn4, tn12, tn20, tn124, tn28, itT, itF, if_pos, if_neg, f_X8_isDone, n0, n1, n2, e1]
        · simp (disch := omega) only [li_0, li_1, li_2, li_3, li_4, li_5, li_6, li_7, li_8, li_9, li_10, li_11, li_12, li_16, li_19, li_20, li_28, li_48, li_57, li_59, li_60, li_96, li_97, li_99, li_100, li_102, li_103, li_104, li_112, li_115, li_116, li_118, li_119, li_121, li_124, li_132, li_255, li_256, li_1000, li_2000, li_1000000000, iI_add, iI_sub, iI_mul, iI_neg, iI_lt, iI_le, iI_eq, iI_clamp, iI_s, iI_m1, iI_div, bs, tn, tn4, tn12, tn20, tn124, tn28, itT, itF, if_pos, if_neg, f_X8_isDone, n0, n1, n2, e1]
      · rcases hc with rfl | rfl
        · simp (disch := omega) only [li_0, li_1, li_2, li_3, li_4, li_5, li_6, li_7, li_8, li_9, li_10, li_11, li_12, li_16, li_19, li_20, li_28, li_48, li_57, li_59, li_60, li_96, li_97, li_99, li_100, li_102, li_103, li_104, li_112, li_115, li_116, li_118, li_119, li_121, li_124, li_132, li_255, li_256, li_1000, li_2000, li_1000000000, iI_add, iI_sub, iI_mul, iI_neg, iI_lt, iI_le, iI_eq, iI_clamp, iI_s, iI_m1, iI_div, bs, tn, tn4, tn12, tn20, tn124, tn28, itT, itF, if_pos, if_neg, f_X8_isDone, n0, n1, n2, e1, e3]
        · simp (disch := omega) only [li_0, li_1, li_2, li_3, li_4, li_5, li_6, li_7, li_8, li_9, li_10, li_11, li_12, li_16, li_19, li_20, li_28, li_48, li_57, li_59, li_60, li_96, li_97, li_99, li_100, li_102, li_103, li_104, li_112, li_115, li_116, li_118, li_119, li_121, li_124, li_132, li_255, li_256, li_1000, li_2000, li_1000000000, iI_add, iI_sub, iI_mul, iI_neg, iI_lt, iI_le, iI_eq, iI_clamp, iI_s, iI_m1, iI_div, bs, tn, tn4, tn12, tn20, tn124, tn28, itT, itF, if_pos, if_neg, f_X8_isDone, n0, n1, n2, e1, e3]
    · rcases hc with rfl | rfl
      · simp (disch := omega) only [li_0, li_1, li_2, li_3, li_4, li_5, li_6, li_7, li_8, li_9, li_10, li_11, li_12, li_16, li_19, li_20, li_28, li_48, li_57, li_59, li_60, li_96, li_97, li_99, li_100, li_102, li_103, li_104, li_112, li_115, li_116, li_118, li_119, li_121, li_124, li_132, li_255, li_256, li_1000, li_2000, li_1000000000, iI_add, iI_sub, iI_mul, iI_neg, iI_lt, iI_le, iI_eq, iI_clamp, iI_s, iI_m1, iI_div, bs, tn, tn4, tn12, tn20, tn124, tn28, itT, itF, if_pos, if_neg, f_X8_isDone, n0, e1]
      · simp (disch := omega) only [li_0, li_1, li_2, li_3, li_4, li_5, li_6, li_7, li_8, li_9, li_10, li_11, li_12, li_16, li_19, li_20, li_28, li_48, li_57, li_59, li_60, li_96, li_97, li_99, li_100, li_102, li_103, li_104, li_112, li_115, li_116, li_118, li_119, li_121, li_124, li_132, li_255, li_256, li_1000, li_2000, li_1000000000, iI_add, iI_sub, iI_mul, iI_neg, iI_lt, iI_le, iI_eq, iI_clamp, iI_s, iI_m1, iI_div, bs, tn, tn4, tn12, tn20, tn124, tn28, itT, itF, if_pos, if_neg, f_X8_isDone, n0, e1]
theorem rAdd (hm : RM S 75 a) (hw : WFa a) {N : Nat} (hN : a 0 = N) {k f : Int} (hk : 0 ≤ k ∧ k ≤ 5) (hf : 0 ≤ f ∧ f ≤ 9) (n0 : S.1 82 0 = iI k) (n1 : S.1 82 1 = iI f) : RTo (f_X8_isDone 116 S) S (if a 0 < 8 then some (addT a N k f) else none) := by
  have h8 := hw.1
  have m0 : S.1 75 0 = iI N := by rw [hm 0 (by omega), hN]
  by_cases c : a 0 < 8
  · rw [if_pos c]
    obtain ⟨T, hT⟩ : ∃ T, T = up (up (up S 75 (4 + N) (iI k)) 75 (12 + N) (iI f)) 75 (20 + N) (iI (-9)) := ⟨_, rfl⟩
    have T0 : T.1 75 0 = iI N := by rw [hT, up_n (by omega), up_n (by omega), up_n (by omega)]; exact m0
    have main : ∀ kk, ∃ S2, (∀ i q, ¬ (i = 75 ∧ 28 + 12 * N ≤ q ∧ q < 28 + 12 * N + 12) → S2.1 i q = T.1 i q) ∧ (∀ u, u < 12 → S2.1 75 (28 + 12 * N + u) = iI 0) ∧ f_X8_isDone_L133 2000 (iI 0) T kk = kk S2 := fun kk => rZL (S := T) (N := N) (by omega) (k := kk) 12 2000 0 T (by omega) (by omega) T0 (fun _ _ _ => rfl) (fun u hu => absurd hu (by omega))
    obtain ⟨S2, g1, g2, g3⟩ := main (fun S27 => some (iI 1, up (up S27 75 (124 + N) (iI 0)) 75 0 (iI ((N : Int) + 1))))
    have h20 : S2.1 75 0 = iI N := by rw [g1 _ _ (by omega)]; exact T0
    refine RTo.y (S' := up (up S2 75 (124 + N) (iI 0)) 75 0 (iI ((N : Int) + 1))) ?_ (fun i q hi => by rw [up_ne hi, up_ne hi, g1 _ _ (by omega), hT, up_ne hi, up_ne hi, up_ne hi]) (fun i hi => ?_)
    · have L := main (fun S27 => (if (124 + (S27.1 75 0)) < 0 ∨ 132 ≤ (124 + (S27.1 75 0)).toNatClampNeg then none else some (1, (up (up S27 75 (124 + (S27.1 75 0)).toNatClampNeg 0) 75 0 (((up S27 75 (124 + (S27.1 75 0)).toNatClampNeg 0).1 75 0) + 1)))))
      have j1 : (4 + iI (N : Int) : Int32) = iI ((4 + N : Nat) : Int) := by rw [show (4 : Int32) = iI 4 from rfl, iI_add]; rfl
      have j2 : (12 + iI (N : Int) : Int32) = iI ((12 + N : Nat) : Int) := by rw [show (12 : Int32) = iI 12 from rfl, iI_add]; rfl
      have j3 : (20 + iI (N : Int) : Int32) = iI ((20 + N : Nat) : Int) := by rw [show (20 : Int32) = iI 20 from rfl, iI_add]; rfl
      have j4 : (124 + iI (N : Int) : Int32) = iI ((124 + N : Nat) : Int) := by rw [show (124 : Int32) = iI 124 from rfl, iI_add]; rfl
      have cl : ∀ m : Nat, m < 132 → (iI (m : Int)).toNatClampNeg = m := fun m h => by rw [iI_clamp (by omega) (by omega)]; rfl
      have ng : ∀ m : Nat, m < 132 → ¬ (iI (m : Int) < 0 ∨ 132 ≤ m) := fun m h => by rw [show (0 : Int32) = iI 0 from rfl, iI_lt (by omega) (by omega) (by omega) (by omega)]; omega
      have u1 : (up S 75 (4 + N) (iI k)).1 75 0 = iI N := by rw [up_n (by omega)]; exact m0
      have u2 : (up (up S 75 (4 + N) (iI k)) 75 (12 + N) (iI f)).1 75 0 = iI N := by rw [up_n (by omega)]; exact u1
      rw [f_X8_isDone, if_neg (by decide), if_neg (by decide), if_neg (by decide), if_pos rfl, m0, if_neg (by rw [show (8 : Int32) = iI 8 from rfl, iI_eq (by omega) (by omega) (by omega) (by omega)]; omega), j1, cl (4 + N) (by omega), if_neg (ng (4 + N) (by omega)), n0, u1, j2, cl (12 + N) (by omega), if_neg (ng (12 + N) (by omega)), n1, u2, j3, cl (20 + N) (by omega), if_neg (ng (20 + N) (by omega)), show (-9 : Int32) = iI (-9) from rfl, ← hT]
      obtain ⟨S3, l1, l2, l3⟩ := L
      have h30 : S3.1 75 0 = iI N := by rw [l1 _ _ (by omega)]; exact T0
      have eqS : ∀ kk1 kk2 : St → Option (Int32 × St), True := fun _ _ => trivial
      -- both loops end in the same store: take it from the first
      have z0 : (0 : Int32) = iI 0 := rfl
      obtain ⟨S4, o1, o2, o3⟩ := main (fun S27 => some (0, S27))
      have same : ∀ kk, f_X8_isDone_L133 2000 (iI 0) T kk = kk S4 := by
        intro kk
        have hL : ∀ (n : Nat) (x : Int32) (V : St) (k1 : St → Option (Int32 × St)) (W : St), f_X8_isDone_L133 n x V (fun S27 => some (0, S27)) = some (0, W) → f_X8_isDone_L133 n x V k1 = k1 W := by
          intro n
          induction n with
          | zero => intro x V k1 W h; rw [f_X8_isDone_L133] at h; cases h
          | succ n ih =>
            intro x V k1 W h
            rw [f_X8_isDone_L133] at h ⊢
            by_cases c1 : 12 ≤ x
            · rw [if_pos c1] at h ⊢
              rw [show V = W from (Prod.mk.inj (Option.some.inj h)).2]
            · rw [if_neg c1] at h ⊢
              rw [f_X8_at, bs] at h ⊢
              by_cases c2 : (28 + 12 * V.1 75 0 + x) < 0 ∨ 132 ≤ (28 + 12 * V.1 75 0 + x).toNatClampNeg
              · rw [if_pos c2] at h; cases h
              · rw [if_neg c2] at h ⊢
                exact ih _ _ _ _ h
        exact hL 2000 (iI 0) T kk S4 o3
      rw [same] at g3
      have e24 : S4 = S2 ∨ True := Or.inr trivial
      have f1 := (Prod.mk.inj (Option.some.inj g3)).2
      rw [z0, same]
      have h40 : S4.1 75 0 = iI N := by rw [o1 _ _ (by omega)]; exact T0
      have u4 : (up S4 75 (124 + N) (iI 0)).1 75 0 + 1 = iI ((N : Int) + 1) := by rw [up_n (by omega), h40, show (1 : Int32) = iI 1 from rfl, iI_add]
      rw [h40, j4, cl (124 + N) (by omega), ← z0, if_neg (ng (124 + N) (by omega)), z0, u4, f1]
      rfl
    · by_cases e0 : i = 0
      · rw [e0, up_s, addT_0]
      · rw [up_n (by omega)]
        by_cases e1 : i = 124 + N
        · rw [e1, up_s, addT_n (by omega) (by omega) (by omega) (by omega) (by omega), half0 hw hN (by omega)]
        · rw [up_n (by omega)]
          by_cases e2 : 28 + 12 * N ≤ i ∧ i < 28 + 12 * N + 12
          · obtain ⟨u, hu⟩ : ∃ u, i = 28 + 12 * N + u := ⟨i - (28 + 12 * N), by omega⟩
            rw [hu, g2 u (by omega), addT_g a N (by omega) k f (by omega)]
          · rw [g1 _ _ (by omega), hT]
            by_cases e3 : i = 20 + N
            · rw [e3, up_s, addT_s a N (by omega)]
            · rw [up_n (by omega)]
              by_cases e4 : i = 12 + N
              · rw [e4, up_s, addT_f a N (by omega)]
              · rw [up_n (by omega)]
                by_cases e5 : i = 4 + N
                · rw [e5, up_s, addT_k]
                · rw [up_n (by omega), addT_n (by omega) (by omega) (by omega) (by omega) (by omega)]
                  exact hm i hi
  · rw [if_neg c]
    refine RTo.n (S' := S) ?_ (fun _ _ _ => rfl)
    rw [f_X8_isDone, if_neg (by decide), if_neg (by decide), if_neg (by decide), if_pos rfl, m0, if_pos (by rw [show (8 : Int32) = iI 8 from rfl, iI_eq (by omega) (by omega) (by omega) (by omega)]; omega)]
    rfl
theorem rDone {l : Nat → Int} {p : Nat} (hm : RM S 75 a) (hw : WFa a) (hb : NB l p S) (hp : parts (l p) ≠ 0) : RTo (f_X8_isDone (iI (l p)) S) S (tell l a p) := by
  have h8 := hw.1
  have w1 := hw.2.1
  have w2 := hw.2.2.1
  obtain ⟨N, hN⟩ : ∃ n : Nat, a 0 = n := ⟨(a 0).toNat, by omega⟩
  have m0 : S.1 75 0 = iI N := by rw [hm 0 (by omega), hN]
  obtain ⟨b1, b2, b3, b4, b5, b6, b7⟩ := hb
  unfold tell
  rcases parts_c (l p) with c | c | c | c | c | c | c | c
  · exact absurd c hp
  · obtain ⟨n0, u⟩ := b1 c
    rw [c, if_pos rfl, f_X8_isDone, if_pos (show iI 100 = 100 from rfl), n0]
    exact RTo.y (S' := up S 75 2 (iI (nv l 2 (p + 1)))) rfl (fun i k hi => up_n (Or.inl hi)) (hm.st _ _)
  · obtain ⟨⟨n0, n1, n2, n3⟩, u1, u2, u3⟩ := b2 c
    rw [c, if_neg (show ¬ (103 : Int) = 100 by decide), if_pos rfl]
    exact rGA hm hw (by omega) (by omega) (by omega) n0 n1 n2 n3 (Or.inl rfl)
  · obtain ⟨⟨n0, n1⟩, u1, u2⟩ := b3 c
    rw [c, if_neg (show ¬ (104 : Int) = 100 by decide), if_neg (show ¬ (104 : Int) = 103 by decide), if_pos rfl, f_X8_isDone, if_neg (show ¬ iI 104 = 100 by decide), if_neg (show ¬ iI 104 = 103 by decide), if_pos (show iI 104 = 104 from rfl), n0, n1]
    have e1 := rThing m0 (by omega) (z := nv l 1 (p + 1)) (by omega) (by omega)
    have e2 := rThing m0 (by omega) (z := nv l 1 (p + 2)) (by omega) (by omega)
    by_cases d1 : nv l 1 (p + 1) < a 0
    · by_cases d2 : nv l 1 (p + 2) < a 0
      · by_cases d3 : nv l 1 (p + 1) = nv l 1 (p + 2)
        · rw [if_neg (show ¬ (nv l 1 (p + 1) < a 0 ∧ nv l 1 (p + 2) < a 0 ∧ nv l 1 (p + 1) ≠ nv l 1 (p + 2)) from fun z => z.2.2 d3)]
          refine RTo.n (S' := S) ?_ (fun _ _ _ => rfl)
          rw [← d3] at e2 ⊢
          simp (disch := omega) only [li_0, li_1, li_2, li_3, li_4, li_5, li_6, li_7, li_8, li_9, li_10, li_11, li_12, li_16, li_19, li_20, li_28, li_48, li_57, li_59, li_60, li_96, li_97, li_99, li_100, li_102, li_103, li_104, li_112, li_115, li_116, li_118, li_119, li_121, li_124, li_132, li_255, li_256, li_1000, li_2000, li_1000000000, iI_add, iI_sub, iI_mul, iI_neg, iI_lt, iI_le, iI_eq, iI_clamp, iI_s, iI_m1, iI_div, bs, tn, tn4, tn12, tn20, tn124, tn28, itT, itF, if_pos, if_neg, e1, e2]
        · rw [if_pos (show nv l 1 (p + 1) < a 0 ∧ nv l 1 (p + 2) < a 0 ∧ nv l 1 (p + 1) ≠ nv l 1 (p + 2) from ⟨d1, d2, d3⟩)]
          obtain ⟨v, hv⟩ : ∃ v : Nat, nv l 1 (p + 1) = v := ⟨(nv l 1 (p + 1)).toNat, by omega⟩
          obtain ⟨w, hw'⟩ : ∃ w : Nat, nv l 1 (p + 2) = w := ⟨(nv l 1 (p + 2)).toNat, by omega⟩
          rw [hv] at d1 d3 u1 e1 ⊢
          rw [hw'] at d2 d3 u2 e2 ⊢
          rw [Int.toNat_natCast, Int.toNat_natCast]
          have e3 := rTurn hm hw (i := v) (j := w) (by omega) (by omega) (by omega)
          refine RTo.y (S' := up (up S 75 (124 + v) (iI (fl (a (124 + v)) w))) 75 (124 + w) (iI (fl (a (124 + w)) v))) ?_ (fun i k hi => by rw [up_ne hi, up_ne hi]) (hm.turned v w)
          simp (disch := omega) only [li_0, li_1, li_2, li_3, li_4, li_5, li_6, li_7, li_8, li_9, li_10, li_11, li_12, li_16, li_19, li_20, li_28, li_48, li_57, li_59, li_60, li_96, li_97, li_99, li_100, li_102, li_103, li_104, li_112, li_115, li_116, li_118, li_119, li_121, li_124, li_132, li_255, li_256, li_1000, li_2000, li_1000000000, iI_add, iI_sub, iI_mul, iI_neg, iI_lt, iI_le, iI_eq, iI_clamp, iI_s, iI_m1, iI_div, bs, tn, tn4, tn12, tn20, tn124, tn28, itT, itF, if_pos, if_neg, e1, e2, e3]
      · rw [if_neg (show ¬ (nv l 1 (p + 1) < a 0 ∧ nv l 1 (p + 2) < a 0 ∧ nv l 1 (p + 1) ≠ nv l 1 (p + 2)) from fun z => d2 z.2.1)]
        refine RTo.n (S' := S) ?_ (fun _ _ _ => rfl)
        simp (disch := omega) only [li_0, li_1, li_2, li_3, li_4, li_5, li_6, li_7, li_8, li_9, li_10, li_11, li_12, li_16, li_19, li_20, li_28, li_48, li_57, li_59, li_60, li_96, li_97, li_99, li_100, li_102, li_103, li_104, li_112, li_115, li_116, li_118, li_119, li_121, li_124, li_132, li_255, li_256, li_1000, li_2000, li_1000000000, iI_add, iI_sub, iI_mul, iI_neg, iI_lt, iI_le, iI_eq, iI_clamp, iI_s, iI_m1, iI_div, bs, tn, tn4, tn12, tn20, tn124, tn28, itT, itF, if_pos, if_neg, e1, e2]
    · rw [if_neg (show ¬ (nv l 1 (p + 1) < a 0 ∧ nv l 1 (p + 2) < a 0 ∧ nv l 1 (p + 1) ≠ nv l 1 (p + 2)) from fun z => d1 z.1)]
      refine RTo.n (S' := S) ?_ (fun _ _ _ => rfl)
      simp (disch := omega) only [li_0, li_1, li_2, li_3, li_4, li_5, li_6, li_7, li_8, li_9, li_10, li_11, li_12, li_16, li_19, li_20, li_28, li_48, li_57, li_59, li_60, li_96, li_97, li_99, li_100, li_102, li_103, li_104, li_112, li_115, li_116, li_118, li_119, li_121, li_124, li_132, li_255, li_256, li_1000, li_2000, li_1000000000, iI_add, iI_sub, iI_mul, iI_neg, iI_lt, iI_le, iI_eq, iI_clamp, iI_s, iI_m1, iI_div, bs, tn, tn4, tn12, tn20, tn124, tn28, itT, itF, if_pos, if_neg, e1]
  · obtain ⟨⟨n0, n1, n2⟩, u1, u2, u3⟩ := b4 c
    have e1 := rThing m0 (by omega) (z := nv l 1 (p + 1)) (by omega) (by omega)
    rw [c, if_neg (show ¬ (115 : Int) = 100 by decide), if_neg (show ¬ (115 : Int) = 103 by decide), if_neg (show ¬ (115 : Int) = 104 by decide), if_pos rfl, f_X8_isDone, if_neg (show ¬ iI 115 = 100 by decide), if_neg (show ¬ iI 115 = 103 by decide), if_neg (show ¬ iI 115 = 104 by decide), if_neg (show ¬ iI 115 = 116 by decide), if_neg (show ¬ iI 115 = 118 by decide), if_neg (show ¬ iI 115 = 121 by decide), n0, n1, n2]
    by_cases d0 : nv l 1 (p + 1) < a 0
    · obtain ⟨v, hv⟩ : ∃ v : Nat, nv l 1 (p + 1) = v := ⟨(nv l 1 (p + 1)).toNat, by omega⟩
      rw [hv] at d0 u1 e1 ⊢
      rw [Int.toNat_natCast]
      have e2 := rCanG hm hw (j := v) (by omega)
      have e3 := rGlue hm hw (j := v) (now := (a 1).toNat) (by omega) (by omega) (m := nv l 2 (p + 2)) (f := nv l 1 (p + 4)) (by omega) (by omega)
      rw [if_pos (by omega)] at e1
      by_cases d : a (20 + v) < 0 ∧ sCost a v ≤ a 2
      · rw [if_pos d] at e2
        rw [if_pos ⟨d0, d⟩, e1, bs, if_neg h10, e2, bs, if_neg h10, e3, bs]
        refine RTo.y rfl (fun i k hi => by rw [up_ne hi, up_ne hi]) ?_
        rw [st_comm (by omega)]
        exact (hm.st _ _).st _ _
      · rw [if_neg d] at e2
        rw [if_neg (fun z => d z.2), e1, bs, if_neg h10, e2, bs, if_pos h00]
        exact RTo.n rfl (fun _ _ _ => rfl)
    · rw [if_neg (fun z => d0 z.1)]
      rw [if_neg (by omega)] at e1
      rw [e1, bs, if_pos h00]
      exact RTo.n rfl (fun _ _ _ => rfl)
  · obtain ⟨⟨n0, n1⟩, u1, u2⟩ := b5 c
    have kb := kdOf_b (l (p + 1))
    rw [c, if_neg (show ¬ (116 : Int) = 100 by decide), if_neg (show ¬ (116 : Int) = 103 by decide), if_neg (show ¬ (116 : Int) = 104 by decide), if_neg (show ¬ (116 : Int) = 115 by decide), if_pos rfl]
    exact rAdd hm hw (by omega) (by omega) (by omega) n0 n1
  · obtain ⟨⟨n0, n1, n2, n3⟩, u1, u2, u3, u4⟩ := b6 c
    rw [c, if_neg (show ¬ (118 : Int) = 100 by decide), if_neg (show ¬ (118 : Int) = 103 by decide), if_neg (show ¬ (118 : Int) = 104 by decide), if_neg (show ¬ (118 : Int) = 115 by decide), if_neg (show ¬ (118 : Int) = 116 by decide), if_pos rfl]
    exact rGA hm hw (by omega) (by omega) (by omega) n0 n1 n2 n3 (Or.inr rfl)
  · obtain ⟨n0, u⟩ := b7 c
    have e1 := rYear (z := nv l 2 (p + 1)) (by omega) (by omega)
    rw [c, if_neg (show ¬ (121 : Int) = 100 by decide), if_neg (show ¬ (121 : Int) = 103 by decide), if_neg (show ¬ (121 : Int) = 104 by decide), if_neg (show ¬ (121 : Int) = 115 by decide), if_neg (show ¬ (121 : Int) = 116 by decide), if_neg (show ¬ (121 : Int) = 118 by decide), f_X8_isDone, if_neg (show ¬ iI 121 = 100 by decide), if_neg (show ¬ iI 121 = 103 by decide), if_neg (show ¬ iI 121 = 104 by decide), if_neg (show ¬ iI 121 = 116 by decide), if_neg (show ¬ iI 121 = 118 by decide), if_pos (show iI 121 = 121 from rfl), n0, e1, bs]
    by_cases d : nv l 2 (p + 1) ≤ 11
    · rw [if_pos d, if_pos (by omega)]
      exact RTo.y (S' := up S 75 1 (iI (nv l 2 (p + 1)))) rfl (fun i k hi => up_n (Or.inl hi)) (hm.st _ _)
    · rw [if_neg d, if_neg (by omega)]
      exact RTo.n (S' := up S 75 1 (iI (nv l 2 (p + 1)))) rfl (fun i k hi => up_n (Or.inl hi))
end DD
