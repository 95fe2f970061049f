-- ===== counting halves twice =====
theorem sSum_congr {f g : Nat → Int} : ∀ n, (∀ x, x < n → f x = g x) → sSum f n = sSum g n := by
  intro n
  induction n with
  | zero => intro _; rfl
  | succ n ih =>
    intro h
    rw [sSum, sSum, ih (fun x hx => h x (by omega)), h n (by omega)]
theorem sSum_add (f g : Nat → Int) : ∀ n, sSum (fun x => f x + g x) n = sSum f n + sSum g n := by
  intro n
  induction n with
  | zero => rfl
  | succ n ih =>
    rw [sSum, sSum, sSum, ih]
    omega
theorem sSum_out {f : Nat → Nat → Int} : ∀ M, (∀ i j, i < M → j < M → f i j = f j i) → (∀ i, i < M → f i i = 0) → sSum (fun i => sSum (f i) M) M = 2 * out2 f M M := by
  intro M
  induction M with
  | zero => intro _ _; rfl
  | succ M ih =>
    intro hs h0
    have h1 := ih (fun i j hi hj => hs i j (by omega) (by omega)) (fun i hi => h0 i (by omega))
    have h2 : sSum (fun i => sSum (f i) (M + 1)) M = sSum (fun i => sSum (f i) M) M + sSum (fun i => f i M) M := sSum_add (fun i => sSum (f i) M) (fun i => f i M) M
    have h3 : sSum (fun i => in2 f i (M + 1)) M = sSum (fun i => in2 f i M) M + sSum (fun i => f i M) M := by
      rw [← sSum_add]
      exact sSum_congr M (fun x hx => in2_s f hx)
    have h4 : sSum (f M) M = sSum (fun i => f i M) M := sSum_congr M (fun x hx => hs M x (by omega) (by omega))
    have h5 := in2_0 f M (M + 1) (by omega)
    have h6 := h0 M (by omega)
    have h7 : out2 f (M + 1) (M + 1) = sSum (fun i => in2 f i (M + 1)) M + in2 f M (M + 1) := rfl
    have h8 : sSum (fun i => sSum (f i) (M + 1)) (M + 1) = sSum (fun i => sSum (f i) (M + 1)) M + (sSum (f M) M + f M M) := rfl
    have h9 : out2 f M M = sSum (fun i => in2 f i M) M := rfl
    omega
theorem hb_bit (a : Nat → Int) (i j : Nat) : hb a i j = 1 ↔ bitI (a (124 + i)) j = true := by
  unfold hb bitI
  rw [Nat.testBit_eq_decide_div_mod_eq, decide_eq_true_eq]
theorem hb_sym {a : Nat → Int} (hw : WFa a) {i j : Nat} (hi : i < 8) (hj : j < 8) : hb a i j = hb a j i := by
  have h1 := hb_bit a i j
  have h2 := hb_bit a j i
  rw [bit_sym hw hi hj] at h1
  have h3 := hb_le a i j
  have h4 := hb_le a j i
  by_cases c : hb a i j = 1
  · rw [c, h2.mpr (h1.mp c)]
  · have c2 : ¬ hb a j i = 1 := fun z => c (h1.mpr (h2.mp z))
    omega
theorem hb_self {a : Nat → Int} (hw : WFa a) {i : Nat} (hi : i < 8) : hb a i i = 0 := by
  have h3 := hb_le a i i
  by_cases c : hb a i i = 1
  · exact absurd rfl (hw.2.2.2.2.2 i i hi hi ((hb_bit a i i).mp c)).2.1
  · omega
theorem hb_out {a : Nat → Int} (hw : WFa a) {N : Nat} (hN : a 0 = N) {i j : Nat} (hi : i < 8) (hj : N ≤ j) : hb a i j = 0 := by
  have h3 := hb_le a i j
  by_cases c8 : j < 8
  · by_cases c : hb a i j = 1
    · have := (hw.2.2.2.2.2 i j hi c8 ((hb_bit a i j).mp c)).2.2.2
      omega
    · omega
  · have b := (hw.2.2.2.2.1 i hi).2.2.2.2
    unfold hb
    have h1 : (a (124 + i)).toNat < 2 ^ 8 := by omega
    have h2 : 2 ^ 8 ≤ 2 ^ j := Nat.pow_le_pow_right (by omega) (by omega)
    rw [Nat.div_eq_of_lt (by omega)]
theorem sSum_tail {f : Nat → Int} {N : Nat} : ∀ d, (∀ x, N ≤ x → f x = 0) → sSum f (N + d) = sSum f N := by
  intro d
  induction d with
  | zero => intro _; rfl
  | succ d ih =>
    intro h
    show sSum f (N + d) + f (N + d) = _
    rw [ih h, h _ (by omega), Int.add_zero]
theorem hb_sum {a : Nat → Int} (hw : WFa a) {N : Nat} (hN : a 0 = N) : sSum (fun x => sSum (fun b => (hb a x b : Int)) 12) N = 2 * out2 (fun i j => (hb a i j : Int)) N N := by
  have h8 := hw.1
  rw [← sSum_out N (fun i j hi hj => by show (hb a i j : Int) = (hb a j i : Int); rw [hb_sym hw (by omega) (by omega)]) (fun i hi => by show (hb a i i : Int) = 0; rw [hb_self hw (by omega)]; rfl)]
  refine sSum_congr N (fun x hx => ?_)
  have e : 12 = N + (12 - N) := by omega
  rw [e]
  exact sSum_tail (12 - N) (fun y hy => by show (hb a x y : Int) = 0; rw [hb_out hw hN (by omega) hy]; rfl)
theorem rSetL {S : St} {a : Nat → Int} {N : Nat} (hm : ∀ k, k < 132 → S.1 75 k = iI (a k)) (hw : WFa a) (hN : a 0 = N) {k : Int32 → Option Int32} :
    ∀ d n x : Nat, x + d = N → d < n → f_X8_count_L81 n (sSet a x) (iI x) S k = k (sSet a N) := by
  have h8 := hw.1
  have e0 : S.1 75 0 = iI N := by rw [hm 0 (by omega), hN]
  intro d
  induction d with
  | zero =>
    intro n x hx hd
    obtain ⟨n, rfl⟩ : ∃ p, n = p + 1 := ⟨n - 1, by omega⟩
    obtain rfl : x = N := by omega
    rw [f_X8_count_L81]
    simp (disch := omega) only [li_0, li_1, li_2, li_3, li_4, li_5, li_6, li_7, li_8, li_9, li_10, li_11, li_12, li_16, li_19, li_20, li_28, li_48, li_57, li_59, li_60, li_96, li_97, li_99, li_100, li_102, li_103, li_104, li_112, li_115, li_116, li_118, li_119, li_121, li_124, li_132, li_255, li_256, li_1000, li_2000, li_1000000000, iI_add, iI_sub, iI_mul, iI_neg, iI_lt, iI_le, iI_eq, iI_clamp, iI_s, iI_m1, iI_div, bs, tn, tn4, tn12, tn20, tn124, tn28, itT, itF, if_pos, if_neg, e0]
  | succ d ih =>
    intro n x hx hd
    obtain ⟨n, rfl⟩ : ∃ p, n = p + 1 := ⟨n - 1, by omega⟩
    have i1 := ih n (x + 1) (by omega) (by omega)
    have k1 := (hw.t (j := x) (by omega)).2.2.1
    rw [sSet] at i1
    rw [f_X8_count_L81]
    by_cases c : a (20 + x) < 0
    · rw [if_pos c] at i1
      simp (disch := omega) only [li_0, li_1, li_2, li_3, li_4, li_5, li_6, li_7, li_8, li_9, li_10, li_11, li_12, li_16, li_19, li_20, li_28, li_48, li_57, li_59, li_60, li_96, li_97, li_99, li_100, li_102, li_103, li_104, li_112, li_115, li_116, li_118, li_119, li_121, li_124, li_132, li_255, li_256, li_1000, li_2000, li_1000000000, iI_add, iI_sub, iI_mul, iI_neg, iI_lt, iI_le, iI_eq, iI_clamp, iI_s, iI_m1, iI_div, bs, tn, tn4, tn12, tn20, tn124, tn28, itT, itF, if_pos, if_neg, e0, hm, iI_or0, i1]
    · rw [if_neg c] at i1
      simp (disch := omega) only [li_0, li_1, li_2, li_3, li_4, li_5, li_6, li_7, li_8, li_9, li_10, li_11, li_12, li_16, li_19, li_20, li_28, li_48, li_57, li_59, li_60, li_96, li_97, li_99, li_100, li_102, li_103, li_104, li_112, li_115, li_116, li_118, li_119, li_121, li_124, li_132, li_255, li_256, li_1000, li_2000, li_1000000000, iI_add, iI_sub, iI_mul, iI_neg, iI_lt, iI_le, iI_eq, iI_clamp, iI_s, iI_m1, iI_div, bs, tn, tn4, tn12, tn20, tn124, tn28, itT, itF, if_pos, if_neg, e0, hm, i1]
theorem rHalfL {S : St} {a : Nat → Int} {N : Nat} (hm : ∀ k, k < 132 → S.1 75 k = iI (a k)) (hw : WFa a) (hN : a 0 = N) {k : Int32 → Option Int32} :
    ∀ d n x : Nat, x + d = N → d < n → f_X8_count_L123 n (iI (sSum (fun x => sSum (fun b => (hb a x b : Int)) 12) x)) (iI x) S k = k (iI (sSum (fun x => sSum (fun b => (hb a x b : Int)) 12) N)) := by
  have h8 := hw.1
  have e0 : S.1 75 0 = iI N := by rw [hm 0 (by omega), hN]
  intro d
  induction d with
  | zero =>
    intro n x hx hd
    obtain ⟨n, rfl⟩ : ∃ p, n = p + 1 := ⟨n - 1, by omega⟩
    obtain rfl : x = N := by omega
    rw [f_X8_count_L123]
    simp (disch := omega) only [li_0, li_1, li_2, li_3, li_4, li_5, li_6, li_7, li_8, li_9, li_10, li_11, li_12, li_16, li_19, li_20, li_28, li_48, li_57, li_59, li_60, li_96, li_97, li_99, li_100, li_102, li_103, li_104, li_112, li_115, li_116, li_118, li_119, li_121, li_124, li_132, li_255, li_256, li_1000, li_2000, li_1000000000, iI_add, iI_sub, iI_mul, iI_neg, iI_lt, iI_le, iI_eq, iI_clamp, iI_s, iI_m1, iI_div, bs, tn, tn4, tn12, tn20, tn124, tn28, itT, itF, if_pos, if_neg, e0]
  | succ d ih =>
    intro n x hx hd
    obtain ⟨n, rfl⟩ : ∃ p, n = p + 1 := ⟨n - 1, by omega⟩
    have i1 := ih n (x + 1) (by omega) (by omega)
    have b := (hw.2.2.2.2.1 x (by omega)).2.2.2.2
    have e1 : f_X8_bits (iI (a (124 + x))) = some (iI (sSum (fun b => (hb a x b : Int)) 12)) := rBits b.1 (by omega)
    have e2 := hm (124 + x) (by omega)
    rw [sSum] at i1
    rw [f_X8_count_L123]
    simp (disch := omega) only [li_0, li_1, li_2, li_3, li_4, li_5, li_6, li_7, li_8, li_9, li_10, li_11, li_12, li_16, li_19, li_20, li_28, li_48, li_57, li_59, li_60, li_96, li_97, li_99, li_100, li_102, li_103, li_104, li_112, li_115, li_116, li_118, li_119, li_121, li_124, li_132, li_255, li_256, li_1000, li_2000, li_1000000000, iI_add, iI_sub, iI_mul, iI_neg, iI_lt, iI_le, iI_eq, iI_clamp, iI_s, iI_m1, iI_div, bs, tn, tn4, tn12, tn20, tn124, tn28, itT, itF, if_pos, if_neg, e0, e2, e1, i1]
theorem out2_b {a : Nat → Int} {N : Nat} (h8 : N ≤ 8) : 0 ≤ out2 (fun i j => (hb a i j : Int)) N N ∧ out2 (fun i j => (hb a i j : Int)) N N ≤ 64 := by
  have h1 : ∀ i, 0 ≤ in2 (fun i j => (hb a i j : Int)) i N ∧ in2 (fun i j => (hb a i j : Int)) i N ≤ 1 * N := fun i =>
    sSum_b (n := 0) (by omega) N (fun y hy => by
      show 0 ≤ (if i < y then (hb a i y : Int) else 0) ∧ (if i < y then (hb a i y : Int) else 0) ≤ 1
      have := hb_le a i y
      split <;> omega)
  have h2 := sSum_b (f := fun i => in2 (fun i j => (hb a i j : Int)) i N) (B := 8) (n := 0) (by omega) N (fun y hy => by have := h1 y; omega)
  unfold out2
  omega
theorem e_count {S : St} (hS : Inv S) (a1 : Int32) : ∃ (z1 : Int32) (z2 : Int32), f_X7_count a1 S = some z1 ∧ f_X8_count a1 S = some z2 ∧ z1 = z2 ∧ Inv S := by
  obtain ⟨⟨a, hw, hc, hm0⟩, -⟩ := id hS
  have hm : ∀ k, k < 132 → S.1 75 k = iI (a k) := hm0
  have h8 := hw.1
  have w1 := hw.2.1
  have w2 := hw.2.2.1
  have w3 := hw.2.2.2.1
  obtain ⟨now, hnow⟩ : ∃ n : Nat, a 1 = n := ⟨(a 1).toNat, by omega⟩
  obtain ⟨N, hN⟩ : ∃ n : Nat, a 0 = n := ⟨(a 0).toNat, by omega⟩
  have hn : now ≤ 11 := by omega
  have hN8 : N ≤ 8 := by omega
  have p1 : S.1 1 1 = iI now := by rw [hc.1 1 (by omega), hnow]
  have p0 : S.1 1 0 = iI N := by rw [hc.1 0 (by omega), hN]
  have m0 : S.1 75 0 = iI N := by rw [hm 0 (by omega), hN]
  have m1 : S.1 75 1 = iI now := by rw [hm 1 (by omega), hnow]
  obtain ⟨x, x1, x2, rfl⟩ := iI_any a1
  obtain ⟨_, ⟨tn', t1, t2, t3, t4⟩, ⟨rn', r1, r2, r3, r4⟩, hno, _⟩ := id hS
  have g0 := rIn (x := x) (l := 11) (u := 16) x1 x2 (by omega) (by omega) (by omega) (by omega)
  by_cases c : 11 ≤ x ∧ x ≤ 16
  · obtain ⟨m, hm'⟩ : ∃ m : Nat, m = (x - 10).toNat := ⟨_, rfl⟩
    have e := hno m (by omega)
    exact ⟨S.1 73 m, S.1 73 m, by simp (disch := omega) only [li_0, li_1, li_2, li_3, li_4, li_5, li_6, li_7, li_8, li_9, li_10, li_11, li_12, li_16, li_19, li_20, li_28, li_48, li_57, li_59, li_60, li_96, li_97, li_99, li_100, li_102, li_103, li_104, li_112, li_115, li_116, li_118, li_119, li_121, li_124, li_132, li_255, li_256, li_1000, li_2000, li_1000000000, iI_add, iI_sub, iI_mul, iI_neg, iI_lt, iI_le, iI_eq, iI_clamp, iI_s, iI_m1, iI_div, bs, tn, tn4, tn12, tn20, tn124, tn28, itT, itF, if_pos, if_neg, f_X7_count, ← hm'], by simp (disch := omega) only [li_0, li_1, li_2, li_3, li_4, li_5, li_6, li_7, li_8, li_9, li_10, li_11, li_12, li_16, li_19, li_20, li_28, li_48, li_57, li_59, li_60, li_96, li_97, li_99, li_100, li_102, li_103, li_104, li_112, li_115, li_116, li_118, li_119, li_121, li_124, li_132, li_255, li_256, li_1000, li_2000, li_1000000000, iI_add, iI_sub, iI_mul, iI_neg, iI_lt, iI_le, iI_eq, iI_clamp, iI_s, iI_m1, iI_div, bs, tn, tn4, tn12, tn20, tn124, tn28, itT, itF, if_pos, if_neg, f_X8_count, g0, ← hm', e], rfl, hS⟩
  · have g0' : f_X8_isIn (iI x) (iI 11) (iI 16) = some (iI 0) := by rw [g0, if_neg c]
    by_cases c0 : x = 0
    · subst c0
      exact ⟨iI N, iI N, by simp (disch := omega) only [li_0, li_1, li_2, li_3, li_4, li_5, li_6, li_7, li_8, li_9, li_10, li_11, li_12, li_16, li_19, li_20, li_28, li_48, li_57, li_59, li_60, li_96, li_97, li_99, li_100, li_102, li_103, li_104, li_112, li_115, li_116, li_118, li_119, li_121, li_124, li_132, li_255, li_256, li_1000, li_2000, li_1000000000, iI_add, iI_sub, iI_mul, iI_neg, iI_lt, iI_le, iI_eq, iI_clamp, iI_s, iI_m1, iI_div, bs, tn, tn4, tn12, tn20, tn124, tn28, itT, itF, if_pos, if_neg, f_X7_count, p0], by simp (disch := omega) only [li_0, li_1, li_2, li_3, li_4, li_5, li_6, li_7, li_8, li_9, li_10, li_11, li_12, li_16, li_19, li_20, li_28, li_48, li_57, li_59, li_60, li_96, li_97, li_99, li_100, li_102, li_103, li_104, li_112, li_115, li_116, li_118, li_119, li_121, li_124, li_132, li_255, li_256, li_1000, li_2000, li_1000000000, iI_add, iI_sub, iI_mul, iI_neg, iI_lt, iI_le, iI_eq, iI_clamp, iI_s, iI_m1, iI_div, bs, tn, tn4, tn12, tn20, tn124, tn28, itT, itF, if_pos, if_neg, f_X8_count, g0', show Int.toNat 0 = 0 from rfl, m0], rfl, hS⟩
    · by_cases c1 : x = 1
      · subst c1
        exact ⟨iI now, iI now, by simp (disch := omega) only [li_0, li_1, li_2, li_3, li_4, li_5, li_6, li_7, li_8, li_9, li_10, li_11, li_12, li_16, li_19, li_20, li_28, li_48, li_57, li_59, li_60, li_96, li_97, li_99, li_100, li_102, li_103, li_104, li_112, li_115, li_116, li_118, li_119, li_121, li_124, li_132, li_255, li_256, li_1000, li_2000, li_1000000000, iI_add, iI_sub, iI_mul, iI_neg, iI_lt, iI_le, iI_eq, iI_clamp, iI_s, iI_m1, iI_div, bs, tn, tn4, tn12, tn20, tn124, tn28, itT, itF, if_pos, if_neg, f_X7_count, p1], by simp (disch := omega) only [li_0, li_1, li_2, li_3, li_4, li_5, li_6, li_7, li_8, li_9, li_10, li_11, li_12, li_16, li_19, li_20, li_28, li_48, li_57, li_59, li_60, li_96, li_97, li_99, li_100, li_102, li_103, li_104, li_112, li_115, li_116, li_118, li_119, li_121, li_124, li_132, li_255, li_256, li_1000, li_2000, li_1000000000, iI_add, iI_sub, iI_mul, iI_neg, iI_lt, iI_le, iI_eq, iI_clamp, iI_s, iI_m1, iI_div, bs, tn, tn4, tn12, tn20, tn124, tn28, itT, itF, if_pos, if_neg, f_X8_count, g0', show Int.toNat 1 = 1 from rfl, m1], rfl, hS⟩
      · by_cases c2 : x = 2
        · subst c2
          have e := hc.1 2 (by omega)
          exact ⟨iI (a 2), iI (a 2), by simp (disch := omega) only [li_0, li_1, li_2, li_3, li_4, li_5, li_6, li_7, li_8, li_9, li_10, li_11, li_12, li_16, li_19, li_20, li_28, li_48, li_57, li_59, li_60, li_96, li_97, li_99, li_100, li_102, li_103, li_104, li_112, li_115, li_116, li_118, li_119, li_121, li_124, li_132, li_255, li_256, li_1000, li_2000, li_1000000000, iI_add, iI_sub, iI_mul, iI_neg, iI_lt, iI_le, iI_eq, iI_clamp, iI_s, iI_m1, iI_div, bs, tn, tn4, tn12, tn20, tn124, tn28, itT, itF, if_pos, if_neg, f_X7_count, e], by simp (disch := omega) only [li_0, li_1, li_2, li_3, li_4, li_5, li_6, li_7, li_8, li_9, li_10, li_11, li_12, li_16, li_19, li_20, li_28, li_48, li_57, li_59, li_60, li_96, li_97, li_99, li_100, li_102, li_103, li_104, li_112, li_115, li_116, li_118, li_119, li_121, li_124, li_132, li_255, li_256, li_1000, li_2000, li_1000000000, iI_add, iI_sub, iI_mul, iI_neg, iI_lt, iI_le, iI_eq, iI_clamp, iI_s, iI_m1, iI_div, bs, tn, tn4, tn12, tn20, tn124, tn28, itT, itF, if_pos, if_neg, f_X8_count, g0', show Int.toNat 2 = 2 from rfl, hm], rfl, hS⟩
        · by_cases c3 : x = 3
          · subst c3
            have e := hc.1 3 (by omega)
            exact ⟨iI (a 3), iI (a 3), by simp (disch := omega) only [li_0, li_1, li_2, li_3, li_4, li_5, li_6, li_7, li_8, li_9, li_10, li_11, li_12, li_16, li_19, li_20, li_28, li_48, li_57, li_59, li_60, li_96, li_97, li_99, li_100, li_102, li_103, li_104, li_112, li_115, li_116, li_118, li_119, li_121, li_124, li_132, li_255, li_256, li_1000, li_2000, li_1000000000, iI_add, iI_sub, iI_mul, iI_neg, iI_lt, iI_le, iI_eq, iI_clamp, iI_s, iI_m1, iI_div, bs, tn, tn4, tn12, tn20, tn124, tn28, itT, itF, if_pos, if_neg, f_X7_count, e], by simp (disch := omega) only [li_0, li_1, li_2, li_3, li_4, li_5, li_6, li_7, li_8, li_9, li_10, li_11, li_12, li_16, li_19, li_20, li_28, li_48, li_57, li_59, li_60, li_96, li_97, li_99, li_100, li_102, li_103, li_104, li_112, li_115, li_116, li_118, li_119, li_121, li_124, li_132, li_255, li_256, li_1000, li_2000, li_1000000000, iI_add, iI_sub, iI_mul, iI_neg, iI_lt, iI_le, iI_eq, iI_clamp, iI_s, iI_m1, iI_div, bs, tn, tn4, tn12, tn20, tn124, tn28, itT, itF, if_pos, if_neg, f_X8_count, g0', show Int.toNat 3 = 3 from rfl, hm], rfl, hS⟩
          · by_cases c4 : x = 4
            · subst c4
              have e := cSetBits hc hw hN
              have g : f_X8_count_L81 2000 (iI 0) (iI 0) S (fun y15 => some y15) = some (sSet a N) := rSetL hm hw hN N 2000 0 (by omega) (by omega)
              exact ⟨sSet a N, sSet a N, by simp (disch := omega) only [li_0, li_1, li_2, li_3, li_4, li_5, li_6, li_7, li_8, li_9, li_10, li_11, li_12, li_16, li_19, li_20, li_28, li_48, li_57, li_59, li_60, li_96, li_97, li_99, li_100, li_102, li_103, li_104, li_112, li_115, li_116, li_118, li_119, li_121, li_124, li_132, li_255, li_256, li_1000, li_2000, li_1000000000, iI_add, iI_sub, iI_mul, iI_neg, iI_lt, iI_le, iI_eq, iI_clamp, iI_s, iI_m1, iI_div, bs, tn, tn4, tn12, tn20, tn124, tn28, itT, itF, if_pos, if_neg, f_X7_count, e], by simp (disch := omega) only [li_0, li_1, li_2, li_3, li_4, li_5, li_6, li_7, li_8, li_9, li_10, li_11, li_12, li_16, li_19, li_20, li_28, li_48, li_57, li_59, li_60, li_96, li_97, li_99, li_100, li_102, li_103, li_104, li_112, li_115, li_116, li_118, li_119, li_121, li_124, li_132, li_255, li_256, li_1000, li_2000, li_1000000000, iI_add, iI_sub, iI_mul, iI_neg, iI_lt, iI_le, iI_eq, iI_clamp, iI_s, iI_m1, iI_div, bs, tn, tn4, tn12, tn20, tn124, tn28, itT, itF, if_pos, if_neg, f_X8_count, g0', g], rfl, hS⟩
            · by_cases c5 : x = 5
              · subst c5
                have e := cHalf hc hw hN
                have g : f_X8_count_L123 2000 (iI 0) (iI 0) S (fun y20 => some (y20 / iI 2)) = some (iI (sSum (fun x => sSum (fun b => (hb a x b : Int)) 12) N) / iI 2) := rHalfL hm hw hN (k := fun y20 => some (y20 / iI 2)) N 2000 0 (by omega) (by omega)
                have b := out2_b (a := a) hN8
                rw [hb_sum hw hN, iI_div (by omega) (by omega) (by omega) (by omega), show 2 * out2 (fun i j => (hb a i j : Int)) N N / 2 = out2 (fun i j => (hb a i j : Int)) N N by omega] at g
                exact ⟨iI (out2 (fun i j => (hb a i j : Int)) N N), iI (out2 (fun i j => (hb a i j : Int)) N N), by simp (disch := omega) only [li_0, li_1, li_2, li_3, li_4, li_5, li_6, li_7, li_8, li_9, li_10, li_11, li_12, li_16, li_19, li_20, li_28, li_48, li_57, li_59, li_60, li_96, li_97, li_99, li_100, li_102, li_103, li_104, li_112, li_115, li_116, li_118, li_119, li_121, li_124, li_132, li_255, li_256, li_1000, li_2000, li_1000000000, iI_add, iI_sub, iI_mul, iI_neg, iI_lt, iI_le, iI_eq, iI_clamp, iI_s, iI_m1, iI_div, bs, tn, tn4, tn12, tn20, tn124, tn28, itT, itF, if_pos, if_neg, f_X7_count, e], by simp (disch := omega) only [li_0, li_1, li_2, li_3, li_4, li_5, li_6, li_7, li_8, li_9, li_10, li_11, li_12, li_16, li_19, li_20, li_28, li_48, li_57, li_59, li_60, li_96, li_97, li_99, li_100, li_102, li_103, li_104, li_112, li_115, li_116, li_118, li_119, li_121, li_124, li_132, li_255, li_256, li_1000, li_2000, li_1000000000, iI_add, iI_sub, iI_mul, iI_neg, iI_lt, iI_le, iI_eq, iI_clamp, iI_s, iI_m1, iI_div, bs, tn, tn4, tn12, tn20, tn124, tn28, itT, itF, if_pos, if_neg, f_X8_count, g0', g], rfl, hS⟩
              · by_cases c6 : x = 6
                · subst c6
                  exact ⟨iI rn', iI rn', by simp (disch := omega) only [li_0, li_1, li_2, li_3, li_4, li_5, li_6, li_7, li_8, li_9, li_10, li_11, li_12, li_16, li_19, li_20, li_28, li_48, li_57, li_59, li_60, li_96, li_97, li_99, li_100, li_102, li_103, li_104, li_112, li_115, li_116, li_118, li_119, li_121, li_124, li_132, li_255, li_256, li_1000, li_2000, li_1000000000, iI_add, iI_sub, iI_mul, iI_neg, iI_lt, iI_le, iI_eq, iI_clamp, iI_s, iI_m1, iI_div, bs, tn, tn4, tn12, tn20, tn124, tn28, itT, itF, if_pos, if_neg, f_X7_count, r2], by simp (disch := omega) only [li_0, li_1, li_2, li_3, li_4, li_5, li_6, li_7, li_8, li_9, li_10, li_11, li_12, li_16, li_19, li_20, li_28, li_48, li_57, li_59, li_60, li_96, li_97, li_99, li_100, li_102, li_103, li_104, li_112, li_115, li_116, li_118, li_119, li_121, li_124, li_132, li_255, li_256, li_1000, li_2000, li_1000000000, iI_add, iI_sub, iI_mul, iI_neg, iI_lt, iI_le, iI_eq, iI_clamp, iI_s, iI_m1, iI_div, bs, tn, tn4, tn12, tn20, tn124, tn28, itT, itF, if_pos, if_neg, f_X8_count, g0', r3], rfl, hS⟩
                · by_cases c7 : x = 7
                  · subst c7
                    exact ⟨iI tn', iI tn', by simp (disch := omega) only [li_0, li_1, li_2, li_3, li_4, li_5, li_6, li_7, li_8, li_9, li_10, li_11, li_12, li_16, li_19, li_20, li_28, li_48, li_57, li_59, li_60, li_96, li_97, li_99, li_100, li_102, li_103, li_104, li_112, li_115, li_116, li_118, li_119, li_121, li_124, li_132, li_255, li_256, li_1000, li_2000, li_1000000000, iI_add, iI_sub, iI_mul, iI_neg, iI_lt, iI_le, iI_eq, iI_clamp, iI_s, iI_m1, iI_div, bs, tn, tn4, tn12, tn20, tn124, tn28, itT, itF, if_pos, if_neg, f_X7_count, t2], by simp (disch := omega) only [li_0, li_1, li_2, li_3, li_4, li_5, li_6, li_7, li_8, li_9, li_10, li_11, li_12, li_16, li_19, li_20, li_28, li_48, li_57, li_59, li_60, li_96, li_97, li_99, li_100, li_102, li_103, li_104, li_112, li_115, li_116, li_118, li_119, li_121, li_124, li_132, li_255, li_256, li_1000, li_2000, li_1000000000, iI_add, iI_sub, iI_mul, iI_neg, iI_lt, iI_le, iI_eq, iI_clamp, iI_s, iI_m1, iI_div, bs, tn, tn4, tn12, tn20, tn124, tn28, itT, itF, if_pos, if_neg, f_X8_count, g0', t3], rfl, hS⟩
                  · refine ⟨iI (-9), iI (-9), ?_, by simp (disch := omega) only [li_0, li_1, li_2, li_3, li_4, li_5, li_6, li_7, li_8, li_9, li_10, li_11, li_12, li_16, li_19, li_20, li_28, li_48, li_57, li_59, li_60, li_96, li_97, li_99, li_100, li_102, li_103, li_104, li_112, li_115, li_116, li_118, li_119, li_121, li_124, li_132, li_255, li_256, li_1000, li_2000, li_1000000000, iI_add, iI_sub, iI_mul, iI_neg, iI_lt, iI_le, iI_eq, iI_clamp, iI_s, iI_m1, iI_div, bs, tn, tn4, tn12, tn20, tn124, tn28, itT, itF, if_pos, if_neg, f_X8_count, g0'], rfl, hS⟩
                    by_cases c8 : x < 11
                    · simp (disch := omega) only [li_0, li_1, li_2, li_3, li_4, li_5, li_6, li_7, li_8, li_9, li_10, li_11, li_12, li_16, li_19, li_20, li_28, li_48, li_57, li_59, li_60, li_96, li_97, li_99, li_100, li_102, li_103, li_104, li_112, li_115, li_116, li_118, li_119, li_121, li_124, li_132, li_255, li_256, li_1000, li_2000, li_1000000000, iI_add, iI_sub, iI_mul, iI_neg, iI_lt, iI_le, iI_eq, iI_clamp, iI_s, iI_m1, iI_div, bs, tn, tn4, tn12, tn20, tn124, tn28, itT, itF, if_pos, if_neg, f_X7_count]
                    · simp (disch := omega) only [li_0, li_1, li_2, li_3, li_4, li_5, li_6, li_7, li_8, li_9, li_10, li_11, li_12, li_16, li_19, li_20, li_28, li_48, li_57, li_59, li_60, li_96, li_97, li_99, li_100, li_102, li_103, li_104, li_112, li_115, li_116, li_118, li_119, li_121, li_124, li_132, li_255, li_256, li_1000, li_2000, li_1000000000, iI_add, iI_sub, iI_mul, iI_neg, iI_lt, iI_le, iI_eq, iI_clamp, iI_s, iI_m1, iI_div, bs, tn, tn4, tn12, tn20, tn124, tn28, itT, itF, if_pos, if_neg, f_X7_count]
