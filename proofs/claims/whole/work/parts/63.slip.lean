-- ===== the class' ways =====
theorem upL_1 (S : St) (k : Nat) (x : Int64) : (upL S k x).1 = S.1 := rfl
theorem upL_s {S : St} {k : Nat} {x : Int64} : (upL S k x).2 k = x := if_pos rfl
theorem upL_n {S : St} {k j : Nat} {x : Int64} (h : j ≠ k) : (upL S k x).2 j = S.2 j := if_neg h
theorem cW0 {F : Nat → Nat → Int32} {a1 a2 : Int32} {k : St → Option St} : ∀ d n x : Nat, ∀ S' : St, x + d = 9 → 1 ≤ x → d < n → S'.1 = F → (∀ c, 1 ≤ c → c < x → S'.2 c = lI 0) → ∃ S'', S''.1 = F ∧ (∀ c, 1 ≤ c → c < 9 → S''.2 c = lI 0) ∧ f_X4_weigh_L2 n a1 a2 (iI x) S' k = k S'' := by
  intro d
  induction d with
  | zero =>
    intro n x S' hx _ hd h1 h2
    obtain ⟨n, rfl⟩ : ∃ p, n = p + 1 := ⟨n - 1, by omega⟩
    obtain rfl : x = 9 := by omega
    refine ⟨S', h1, h2, ?_⟩
    rw [f_X4_weigh_L2]
    simp (disch := omega) only [li_0, li_1, li_2, li_3, li_4, li_5, li_6, li_7, li_8, li_9, li_10, li_11, li_12, li_16, li_19, li_20, li_28, li_48, li_57, li_59, li_60, li_96, li_97, li_99, li_100, li_102, li_103, li_104, li_112, li_115, li_116, li_118, li_119, li_121, li_124, li_132, li_255, li_256, li_1000, li_2000, li_1000000000, iI_add, iI_sub, iI_mul, iI_neg, iI_lt, iI_le, iI_eq, iI_clamp, iI_s, iI_m1, iI_div, bs, tn, tn4, tn12, tn20, tn124, tn28, itT, itF, if_pos, if_neg]
  | succ d ih =>
    intro n x S' hx hx1 hd h1 h2
    obtain ⟨n, rfl⟩ : ∃ p, n = p + 1 := ⟨n - 1, by omega⟩
    obtain ⟨S'', g1, g2, g3⟩ := ih n (x + 1) (upL S' x 0) (by omega) (by omega) (by omega) h1 (fun c h3 h4 => by
      by_cases e : c = x
      · rw [e, upL_s]; rfl
      · rw [upL_n e]; exact h2 c h3 (by omega))
    refine ⟨S'', g1, g2, ?_⟩
    rw [f_X4_weigh_L2]
    simp (disch := omega) only [li_0, li_1, li_2, li_3, li_4, li_5, li_6, li_7, li_8, li_9, li_10, li_11, li_12, li_16, li_19, li_20, li_28, li_48, li_57, li_59, li_60, li_96, li_97, li_99, li_100, li_102, li_103, li_104, li_112, li_115, li_116, li_118, li_119, li_121, li_124, li_132, li_255, li_256, li_1000, li_2000, li_1000000000, iI_add, iI_sub, iI_mul, iI_neg, iI_lt, iI_le, iI_eq, iI_clamp, iI_s, iI_m1, iI_div, bs, tn, tn4, tn12, tn20, tn124, tn28, itT, itF, if_pos, if_neg, g3]
theorem cW1 {F : Nat → Nat → Int32} {n0 r : Nat} {t : Int} (ht : 2 ≤ t ∧ t ≤ 20) {x1 x3 : Int32} {k : St → Option St} : ∀ m n : Nat, ∀ S' : St, m ≤ 8 → m < n → S'.1 = F → (∀ c, c ≤ m → S'.2 c = lI (wW (t - 1) r c)) → (∀ c, m < c → c < 9 → S'.2 c = lI (wW (t - 1) (r + 1) c)) → ∃ S'', S''.1 = F ∧ (∀ c, c < 9 → S''.2 c = lI (wW (t - 1) (r + 1) c)) ∧ f_X4_weigh_L39 n x1 (iI t) x3 (iI m) S' k = k S'' := by
  intro m
  induction m with
  | zero =>
    intro n S' hm hd h1 h2 h3
    obtain ⟨n, rfl⟩ : ∃ p, n = p + 1 := ⟨n - 1, by omega⟩
    refine ⟨S', h1, fun c hc => ?_, ?_⟩
    · by_cases e : c = 0
      · rw [e]; exact h2 0 (by omega)
      · exact h3 c (by omega) hc
    · rw [f_X4_weigh_L39]
      simp (disch := omega) only [li_0, li_1, li_2, li_3, li_4, li_5, li_6, li_7, li_8, li_9, li_10, li_11, li_12, li_16, li_19, li_20, li_28, li_48, li_57, li_59, li_60, li_96, li_97, li_99, li_100, li_102, li_103, li_104, li_112, li_115, li_116, li_118, li_119, li_121, li_124, li_132, li_255, li_256, li_1000, li_2000, li_1000000000, iI_add, iI_sub, iI_mul, iI_neg, iI_lt, iI_le, iI_eq, iI_clamp, iI_s, iI_m1, iI_div, bs, tn, tn4, tn12, tn20, tn124, tn28, itT, itF, if_pos, if_neg]
  | succ m ih =>
    intro n S' hm hd h1 h2 h3
    obtain ⟨n, rfl⟩ : ∃ p, n = p + 1 := ⟨n - 1, by omega⟩
    have e : ((m + 1 : Nat) : Int) - 1 = (m : Int) := by omega
    have l1 := iI_l (z := t - 1) (by omega) (by omega)
    have e1 := h2 m (by omega)
    have e2 := h2 (m + 1) (by omega)
    have eW : lI (wW (t - 1) r (m + 1)) + lI (wW (t - 1) r m) * lI (t - 1) = lI (wW (t - 1) (r + 1) (m + 1)) := by rw [lI_mul, lI_add]; rfl
    obtain ⟨S'', g1, g2, g3⟩ := ih n (upL S' (m + 1) (lI (wW (t - 1) (r + 1) (m + 1)))) (by omega) (by omega) h1 (fun c hc => by rw [upL_n (by omega)]; exact h2 c (by omega)) (fun c h4 h5 => by
      by_cases e : c = m + 1
      · rw [e, upL_s]
      · rw [upL_n e]; exact h3 c (by omega) h5)
    refine ⟨S'', g1, g2, ?_⟩
    rw [f_X4_weigh_L39]
    simp (disch := omega) only [li_0, li_1, li_2, li_3, li_4, li_5, li_6, li_7, li_8, li_9, li_10, li_11, li_12, li_16, li_19, li_20, li_28, li_48, li_57, li_59, li_60, li_96, li_97, li_99, li_100, li_102, li_103, li_104, li_112, li_115, li_116, li_118, li_119, li_121, li_124, li_132, li_255, li_256, li_1000, li_2000, li_1000000000, iI_add, iI_sub, iI_mul, iI_neg, iI_lt, iI_le, iI_eq, iI_clamp, iI_s, iI_m1, iI_div, bs, tn, tn4, tn12, tn20, tn124, tn28, itT, itF, if_pos, if_neg, e, l1, e1, e2, eW, g3]
theorem cW2 {F : Nat → Nat → Int32} {N : Nat} (hN : N ≤ 8) {t : Int} (ht : 2 ≤ t ∧ t ≤ 20) {k : St → Option St} : ∀ d n r : Nat, ∀ S' : St, r + d = N → d < n → S'.1 = F → (∀ c, c < 9 → S'.2 c = lI (wW (t - 1) r c)) → ∃ S'', S''.1 = F ∧ (∀ c, c < 9 → S''.2 c = lI (wW (t - 1) N c)) ∧ f_X4_weigh_L30 n (iI N) (iI t) (iI r) S' k = k S'' := by
  intro d
  induction d with
  | zero =>
    intro n r S' hx hd h1 h2
    obtain ⟨n, rfl⟩ : ∃ p, n = p + 1 := ⟨n - 1, by omega⟩
    obtain rfl : r = N := by omega
    refine ⟨S', h1, h2, ?_⟩
    rw [f_X4_weigh_L30]
    simp (disch := omega) only [li_0, li_1, li_2, li_3, li_4, li_5, li_6, li_7, li_8, li_9, li_10, li_11, li_12, li_16, li_19, li_20, li_28, li_48, li_57, li_59, li_60, li_96, li_97, li_99, li_100, li_102, li_103, li_104, li_112, li_115, li_116, li_118, li_119, li_121, li_124, li_132, li_255, li_256, li_1000, li_2000, li_1000000000, iI_add, iI_sub, iI_mul, iI_neg, iI_lt, iI_le, iI_eq, iI_clamp, iI_s, iI_m1, iI_div, bs, tn, tn4, tn12, tn20, tn124, tn28, itT, itF, if_pos, if_neg]
  | succ d ih =>
    intro n r S' hx hd h1 h2
    obtain ⟨n, rfl⟩ : ∃ p, n = p + 1 := ⟨n - 1, by omega⟩
    obtain ⟨S1, c1, c2, c3⟩ := cW1 (F := F) (n0 := 0) (r := r) ht (x1 := iI N) (x3 := iI r) (k := fun S9 => f_X4_weigh_L30 n (iI N) (iI t) (iI ((r + 1 : Nat) : Int)) S9 k) 8 2000 S' (by omega) (by omega) h1 (fun c hc => h2 c (by omega)) (fun c h3 h4 => absurd h3 (by omega))
    obtain ⟨S'', g1, g2, g3⟩ := ih n (r + 1) S1 (by omega) (by omega) c1 c2
    refine ⟨S'', g1, g2, ?_⟩
    rw [f_X4_weigh_L30]
    simp (disch := omega) only [li_0, li_1, li_2, li_3, li_4, li_5, li_6, li_7, li_8, li_9, li_10, li_11, li_12, li_16, li_19, li_20, li_28, li_48, li_57, li_59, li_60, li_96, li_97, li_99, li_100, li_102, li_103, li_104, li_112, li_115, li_116, li_118, li_119, li_121, li_124, li_132, li_255, li_256, li_1000, li_2000, li_1000000000, iI_add, iI_sub, iI_mul, iI_neg, iI_lt, iI_le, iI_eq, iI_clamp, iI_s, iI_m1, iI_div, bs, tn, tn4, tn12, tn20, tn124, tn28, itT, itF, if_pos, if_neg]
    exact c3.trans g3
theorem cWays (S : St) {N : Nat} (hN : N ≤ 8) {t : Int} (ht : 2 ≤ t ∧ t ≤ 20) : ∃ S', f_X4_weigh (iI N) (iI t) S = some S' ∧ S'.1 = S.1 ∧ ∀ c, c < 9 → S'.2 c = lI (wW (t - 1) N c) := by
  obtain ⟨S1, c1, c2, c3⟩ := cW0 (F := S.1) (a1 := iI N) (a2 := iI t) (k := fun S3 => f_X4_weigh_L30 2000 (iI N) (iI t) (iI 0) (upL S3 0 1) (fun s => some s)) 8 2000 1 S (by omega) (by omega) (by omega) rfl (fun c h1 h2 => absurd h1 (by omega))
  obtain ⟨S2, d1, d2, d3⟩ := cW2 (F := S.1) hN ht (k := fun s => some s) N 2000 0 (upL S1 0 1) (by omega) (by omega) c1 (fun c hc => by
    by_cases e : c = 0
    · rw [e, upL_s]; rfl
    · rw [upL_n e, c2 c (by omega) hc]
      obtain ⟨c, rfl⟩ : ∃ p, c = p + 1 := ⟨c - 1, by omega⟩
      rfl)
  refine ⟨S2, ?_, d1, d2⟩
  rw [f_X4_weigh]
  exact c3.trans d3
section WS
variable {S : St} {W : Nat → Int}
theorem cAW (hW : ∀ c, c < 9 → S.2 c = lI (W c)) {k : Int64 → Option Int64} : ∀ d n x : Nat, x + d = 9 → d < n → f_X4_allWays_L4 n (lI (sSum (fun c => W c * 1) x)) (iI x) S k = k (lI (sSum (fun c => W c * 1) 9)) := by
  intro d
  induction d with
  | zero =>
    intro n x hx hd
    obtain ⟨n, rfl⟩ : ∃ p, n = p + 1 := ⟨n - 1, by omega⟩
    obtain rfl : x = 9 := by omega
    rw [f_X4_allWays_L4]
    simp (disch := omega) only [li_0, li_1, li_2, li_3, li_4, li_5, li_6, li_7, li_8, li_9, li_10, li_11, li_12, li_16, li_19, li_20, li_28, li_48, li_57, li_59, li_60, li_96, li_97, li_99, li_100, li_102, li_103, li_104, li_112, li_115, li_116, li_118, li_119, li_121, li_124, li_132, li_255, li_256, li_1000, li_2000, li_1000000000, iI_add, iI_sub, iI_mul, iI_neg, iI_lt, iI_le, iI_eq, iI_clamp, iI_s, iI_m1, iI_div, bs, tn, tn4, tn12, tn20, tn124, tn28, itT, itF, if_pos, if_neg]
  | succ d ih =>
    intro n x hx hd
    obtain ⟨n, rfl⟩ : ∃ p, n = p + 1 := ⟨n - 1, by omega⟩
    have i1 := ih n (x + 1) (by omega) (by omega)
    have e1 := hW x (by omega)
    rw [sSum, Int.mul_one] at i1
    rw [f_X4_allWays_L4]
    simp (disch := omega) only [li_0, li_1, li_2, li_3, li_4, li_5, li_6, li_7, li_8, li_9, li_10, li_11, li_12, li_16, li_19, li_20, li_28, li_48, li_57, li_59, li_60, li_96, li_97, li_99, li_100, li_102, li_103, li_104, li_112, li_115, li_116, li_118, li_119, li_121, li_124, li_132, li_255, li_256, li_1000, li_2000, li_1000000000, iI_add, iI_sub, iI_mul, iI_neg, iI_lt, iI_le, iI_eq, iI_clamp, iI_s, iI_m1, iI_div, bs, tn, tn4, tn12, tn20, tn124, tn28, itT, itF, if_pos, if_neg, e1, lI_add, i1]
theorem cAWs (hW : ∀ c, c < 9 → S.2 c = lI (W c)) : f_X4_allWays S = some (lI (sSum (fun c => W c * 1) 9)) := by
  have i := cAW hW (k := fun y => some y) 9 2000 0 (by omega) (by omega)
  rw [f_X4_allWays]
  exact i
variable {t : Nat} {a : Nat → Int} {j now : Nat}
theorem cWI (ht : RT S t a j) (hw : WT a j) (hn : now ≤ 11) (hW : ∀ c, c < 9 → S.2 c = lI (W c)) {y : Nat} (hy : y ≤ 11) {k : Int64 → Option Int64} : ∀ d n x : Nat, x + d = 9 → d < n → f_X4_waysInto_L6 n t (iI y) (iI now) (lI (sSum (fun c => W c * (if sY a j now (5 * (c : Int)) 0 = y then 1 else 0)) x)) (iI x) S k = k (lI (sSum (fun c => W c * (if sY a j now (5 * (c : Int)) 0 = y then 1 else 0)) 9)) := by
  intro d
  induction d with
  | zero =>
    intro n x hx hd
    obtain ⟨n, rfl⟩ : ∃ p, n = p + 1 := ⟨n - 1, by omega⟩
    obtain rfl : x = 9 := by omega
    rw [f_X4_waysInto_L6]
    simp (disch := omega) only [li_0, li_1, li_2, li_3, li_4, li_5, li_6, li_7, li_8, li_9, li_10, li_11, li_12, li_16, li_19, li_20, li_28, li_48, li_57, li_59, li_60, li_96, li_97, li_99, li_100, li_102, li_103, li_104, li_112, li_115, li_116, li_118, li_119, li_121, li_124, li_132, li_255, li_256, li_1000, li_2000, li_1000000000, iI_add, iI_sub, iI_mul, iI_neg, iI_lt, iI_le, iI_eq, iI_clamp, iI_s, iI_m1, iI_div, bs, tn, tn4, tn12, tn20, tn124, tn28, itT, itF, if_pos, if_neg]
  | succ d ih =>
    intro n x hx hd
    obtain ⟨n, rfl⟩ : ∃ p, n = p + 1 := ⟨n - 1, by omega⟩
    have i1 := ih n (x + 1) (by omega) (by omega)
    have e1 := hW x (by omega)
    have ec : (x : Int) * 5 = 5 * (x : Int) := Int.mul_comm _ _
    have e2 := cY ht hw hn (m := 5 * (x : Int)) (f := 0) (by omega) (by omega)
    have yb := sY_le a j now (5 * (x : Int)) 0
    have z0 : (0 : Int64) = lI 0 := rfl
    rw [sSum] at i1
    rw [f_X4_waysInto_L6, z0]
    by_cases c : sY a j now (5 * (x : Int)) 0 = y
    · rw [if_pos c, Int.mul_one] at i1
      simp (disch := omega) only [li_0, li_1, li_2, li_3, li_4, li_5, li_6, li_7, li_8, li_9, li_10, li_11, li_12, li_16, li_19, li_20, li_28, li_48, li_57, li_59, li_60, li_96, li_97, li_99, li_100, li_102, li_103, li_104, li_112, li_115, li_116, li_118, li_119, li_121, li_124, li_132, li_255, li_256, li_1000, li_2000, li_1000000000, iI_add, iI_sub, iI_mul, iI_neg, iI_lt, iI_le, iI_eq, iI_clamp, iI_s, iI_m1, iI_div, bs, tn, tn4, tn12, tn20, tn124, tn28, itT, itF, if_pos, if_neg, ec, e2, e1, lI_add, i1]
    · rw [if_neg c, Int.mul_zero] at i1
      simp (disch := omega) only [li_0, li_1, li_2, li_3, li_4, li_5, li_6, li_7, li_8, li_9, li_10, li_11, li_12, li_16, li_19, li_20, li_28, li_48, li_57, li_59, li_60, li_96, li_97, li_99, li_100, li_102, li_103, li_104, li_112, li_115, li_116, li_118, li_119, li_121, li_124, li_132, li_255, li_256, li_1000, li_2000, li_1000000000, iI_add, iI_sub, iI_mul, iI_neg, iI_lt, iI_le, iI_eq, iI_clamp, iI_s, iI_m1, iI_div, bs, tn, tn4, tn12, tn20, tn124, tn28, itT, itF, if_pos, if_neg, ec, e2, e1, lI_add, i1]
theorem cWIs (ht : RT S t a j) (hw : WT a j) (hn : now ≤ 11) (hW : ∀ c, c < 9 → S.2 c = lI (W c)) {y : Nat} (hy : y ≤ 11) : f_X4_waysInto t (iI y) (iI now) S = some (lI (sSum (fun c => W c * (if sY a j now (5 * (c : Int)) 0 = y then 1 else 0)) 9)) := by
  have i := cWI ht hw hn hW hy (k := fun y => some y) 9 2000 0 (by omega) (by omega)
  rw [f_X4_waysInto]
  exact i
theorem cGA (ht : RT S t a j) (hw : WT a j) (hn : now ≤ 11) (hW : ∀ c, c < 9 → S.2 c = lI (W c)) {k : Int64 → Option Int64} : ∀ d n x : Nat, x + d = 9 → d < n → f_X4_gladOfAll_L5 n t (iI now) (lI (sSum (fun c => W c * gY a j now c) x)) (iI x) S k = k (lI (sSum (fun c => W c * gY a j now c) 9)) := by
  intro d
  induction d with
  | zero =>
    intro n x hx hd
    obtain ⟨n, rfl⟩ : ∃ p, n = p + 1 := ⟨n - 1, by omega⟩
    obtain rfl : x = 9 := by omega
    rw [f_X4_gladOfAll_L5]
    simp (disch := omega) only [li_0, li_1, li_2, li_3, li_4, li_5, li_6, li_7, li_8, li_9, li_10, li_11, li_12, li_16, li_19, li_20, li_28, li_48, li_57, li_59, li_60, li_96, li_97, li_99, li_100, li_102, li_103, li_104, li_112, li_115, li_116, li_118, li_119, li_121, li_124, li_132, li_255, li_256, li_1000, li_2000, li_1000000000, iI_add, iI_sub, iI_mul, iI_neg, iI_lt, iI_le, iI_eq, iI_clamp, iI_s, iI_m1, iI_div, bs, tn, tn4, tn12, tn20, tn124, tn28, itT, itF, if_pos, if_neg]
  | succ d ih =>
    intro n x hx hd
    obtain ⟨n, rfl⟩ : ∃ p, n = p + 1 := ⟨n - 1, by omega⟩
    have i1 := ih n (x + 1) (by omega) (by omega)
    have e1 := hW x (by omega)
    have ec : (x : Int) * 5 = 5 * (x : Int) := Int.mul_comm _ _
    have e2 := cY ht hw hn (m := 5 * (x : Int)) (f := 0) (by omega) (by omega)
    have yb := sY_le a j now (5 * (x : Int)) 0
    have e3 : f_X6_gladIn t (iI (sY a j now (5 * (x : Int)) 0)) S = some (iI (gY a j now x)) := cG ht (by omega)
    have gb := gY_b hw hn x
    have e4 := iI_l (z := gY a j now x) (by omega) (by omega)
    rw [sSum] at i1
    rw [f_X4_gladOfAll_L5]
    simp (disch := omega) only [li_0, li_1, li_2, li_3, li_4, li_5, li_6, li_7, li_8, li_9, li_10, li_11, li_12, li_16, li_19, li_20, li_28, li_48, li_57, li_59, li_60, li_96, li_97, li_99, li_100, li_102, li_103, li_104, li_112, li_115, li_116, li_118, li_119, li_121, li_124, li_132, li_255, li_256, li_1000, li_2000, li_1000000000, iI_add, iI_sub, iI_mul, iI_neg, iI_lt, iI_le, iI_eq, iI_clamp, iI_s, iI_m1, iI_div, bs, tn, tn4, tn12, tn20, tn124, tn28, itT, itF, if_pos, if_neg, ec, e2, e1, e3, e4, lI_mul, lI_add, i1]
theorem cGAs (ht : RT S t a j) (hw : WT a j) (hn : now ≤ 11) (hW : ∀ c, c < 9 → S.2 c = lI (W c)) : f_X4_gladOfAll t (iI now) S = some (lI (sSum (fun c => W c * gY a j now c) 9)) := by
  have i := cGA ht hw hn hW (k := fun y => some y) 9 2000 0 (by omega) (by omega)
  rw [f_X4_gladOfAll]
  exact i
end WS
-- ===== the reference's slips =====
section RSL
variable {S : St} {a : Nat → Int} {j now : Nat}
theorem rPw {t : Int} {N b : Nat} (ht : 2 ≤ t ∧ t ≤ 20) (hN : N ≤ 8) {x1 x4 x7 : Int32} {x5 : Int64} {k : Int64 → Option Int64} : ∀ d n x : Nat, x + d = N → b ≤ x → d < n → f_X8_slips_L24 n x1 (iI N) (iI t) x4 x5 x7 (lI ((t - 1) ^ (x - b))) (iI x) S k = k (lI ((t - 1) ^ (N - b))) := by
  intro d
  induction d with
  | zero =>
    intro n x hx hb hd
    obtain ⟨n, rfl⟩ : ∃ p, n = p + 1 := ⟨n - 1, by omega⟩
    obtain rfl : x = N := by omega
    rw [f_X8_slips_L24]
    simp (disch := omega) only [li_0, li_1, li_2, li_3, li_4, li_5, li_6, li_7, li_8, li_9, li_10, li_11, li_12, li_16, li_19, li_20, li_28, li_48, li_57, li_59, li_60, li_96, li_97, li_99, li_100, li_102, li_103, li_104, li_112, li_115, li_116, li_118, li_119, li_121, li_124, li_132, li_255, li_256, li_1000, li_2000, li_1000000000, iI_add, iI_sub, iI_mul, iI_neg, iI_lt, iI_le, iI_eq, iI_clamp, iI_s, iI_m1, iI_div, bs, tn, tn4, tn12, tn20, tn124, tn28, itT, itF, if_pos, if_neg]
  | succ d ih =>
    intro n x hx hb hd
    obtain ⟨n, rfl⟩ : ∃ p, n = p + 1 := ⟨n - 1, by omega⟩
    have i1 := ih n (x + 1) (by omega) (by omega) (by omega)
    have e1 := iI_l (z := t - 1) (by omega) (by omega)
    rw [show x + 1 - b = (x - b) + 1 by omega, Int.pow_succ] at i1
    rw [f_X8_slips_L24]
    simp (disch := omega) only [li_0, li_1, li_2, li_3, li_4, li_5, li_6, li_7, li_8, li_9, li_10, li_11, li_12, li_16, li_19, li_20, li_28, li_48, li_57, li_59, li_60, li_96, li_97, li_99, li_100, li_102, li_103, li_104, li_112, li_115, li_116, li_118, li_119, li_121, li_124, li_132, li_255, li_256, li_1000, li_2000, li_1000000000, iI_add, iI_sub, iI_mul, iI_neg, iI_lt, iI_le, iI_eq, iI_clamp, iI_s, iI_m1, iI_div, bs, tn, tn4, tn12, tn20, tn124, tn28, itT, itF, if_pos, if_neg, e1, lI_mul, i1]
def sH (a : Nat → Int) (j now : Nat) (y : Int) (c : Nat) : Int := if 0 ≤ y then (if (sY a j now (5 * (c : Int)) 0 : Int) = y then 1 else 0) else gY a j now c
theorem rSlL (hm : ∀ k, k < 132 → S.1 75 k = iI (a k)) (hj : j < 8) (hw : WT a j) (hn : now ≤ 11) (hn1 : a 1 = now) {t : Int} {N : Nat} (ht : 2 ≤ t ∧ t ≤ 20) (hN : N ≤ 8) {y : Int} (hy : y = -1 ∨ (0 ≤ y ∧ y ≤ 11)) {k : Int64 → Option Int64} :
    ∀ d n x : Nat, x + d = 2 ^ N → d < n → f_X8_slips_L6 n (iI j) (iI N) (iI t) (iI y) (lI (sSum (fun m => (t - 1) ^ (N - popN m N) * sH a j now y (N - popN m N)) x)) (iI x) S k = k (lI (mW N (fun c => (t - 1) ^ c * sH a j now y c))) := by
  have p8 : 2 ^ N ≤ 2 ^ 8 := Nat.pow_le_pow_right (by omega) hN
  have p9 : (2 : Nat) ^ 8 = 256 := rfl
  have p1 : 0 < 2 ^ N := Nat.two_pow_pos N
  intro d
  induction d with
  | zero =>
    intro n x hx hd
    obtain ⟨n, rfl⟩ : ∃ p, n = p + 1 := ⟨n - 1, by omega⟩
    obtain rfl : x = 2 ^ N := by omega
    rw [f_X8_slips_L6, show (1 : Int32) = iI 1 from rfl, iI_shl (by omega), if_pos (by rw [iI_le (by omega) (by omega) (by omega) (by omega)]; omega)]
    rfl
  | succ d ih =>
    intro n x hx hd
    obtain ⟨n, rfl⟩ : ∃ p, n = p + 1 := ⟨n - 1, by omega⟩
    have i1 := ih n (x + 1) (by omega) (by omega)
    have hxN : x < 2 ^ N := by omega
    have e1 : f_X8_bits (iI x) = some (iI (popN x N)) := by
      have h := rBits (A := (x : Int)) (by omega) (by omega)
      rw [Int.toNat_natCast, popN_sum, show 12 = N + (12 - N) by omega, popN_hi hxN] at h
      exact h
    have pl := popN_le x N
    have e2 : ∀ x5 k, f_X8_slips_L24 2000 (iI j) (iI N) (iI t) (iI y) x5 (iI x) (lI 1) (iI (popN x N)) S k = k (lI ((t - 1) ^ (N - popN x N))) := fun x5 k => by
      have h := rPw (S := S) (t := t) (N := N) (b := popN x N) ht hN (x1 := iI j) (x4 := iI y) (x7 := iI x) (x5 := x5) (k := k) (N - popN x N) 2000 (popN x N) (by omega) (Nat.le_refl _) (by omega)
      rw [Nat.sub_self, Int.pow_zero] at h
      exact h
    obtain ⟨c, hc⟩ : ∃ c, c = N - popN x N := ⟨_, rfl⟩
    have ec : 5 * ((N : Int) - (popN x N : Int)) = 5 * (c : Int) := by omega
    have e3 : f_X8_yearOf 75 (iI j) (iI (5 * (c : Int))) (iI 0) S = some (iI (sY a j now (5 * (c : Int)) 0)) := rY hm hj hw hn hn1 (by omega) (by omega)
    obtain ⟨Y, hY⟩ : ∃ Y, Y = sY a j now (5 * (c : Int)) 0 := ⟨_, rfl⟩
    have yb : Y ≤ now := by rw [hY]; exact sY_le a j now _ 0
    have e4 : S.1 75 (28 + 12 * j + Y) = iI (gY a j now c) := by rw [hm _ (by omega), hY]; rfl
    have gb := gY_b hw hn c
    have e5 := iI_l (z := gY a j now c) (by omega) (by omega)
    have z1 : (1 : Int64) = lI 1 := rfl
    have z0 : (0 : Int64) = lI 0 := rfl
    have y1 : (1 : Int32) = iI 1 := rfl
    have y0 : (0 : Int32) = iI 0 := rfl
    have y5 : (5 : Int32) = iI 5 := rfl
    have hlt : ¬ iI ((2 ^ N : Nat) : Int) ≤ iI (x : Int) := by rw [iI_le (by omega) (by omega) (by omega) (by omega)]; omega
    have j4 : (iI (x : Int) + iI 1 : Int32) = iI ((x + 1 : Nat) : Int) := by rw [iI_add]; rfl
    have j9 : (iI (28 + 12 * (j : Int) + (Y : Int))).toNatClampNeg = 28 + 12 * j + Y := by rw [iI_clamp (by omega) (by omega)]; omega
    have j10 : ¬ (iI (28 + 12 * (j : Int) + (Y : Int)) < iI 0 ∨ 132 ≤ 28 + 12 * j + Y) := by rw [iI_lt (by omega) (by omega) (by omega) (by omega)]; omega
    rw [← hY] at e3
    rw [← hc] at e2
    rw [sSum] at i1
    rw [← hc] at i1
    rw [f_X8_slips_L6, y1, iI_shl (by omega), if_neg hlt, e1, bs, z1, e2, bs, y0, y5, iI_sub, iI_mul, ec, e3, bs, j4, z0]
    by_cases c1 : 0 ≤ y
    · rw [if_pos (by rw [iI_le (by omega) (by omega) (by omega) (by omega)]; omega)]
      by_cases c2 : (Y : Int) = y
      · have eH : sH a j now y c = 1 := by
          unfold sH
          rw [if_pos c1, ← hY, if_pos c2]
        rw [eH, Int.mul_one] at i1
        rw [if_pos (by rw [c2]), lI_add]
        exact i1
      · have eH : sH a j now y c = 0 := by
          unfold sH
          rw [if_pos c1, ← hY, if_neg c2]
        rw [eH, Int.mul_zero] at i1
        rw [if_neg (by rw [iI_eq (by omega) (by omega) (by omega) (by omega)]; exact c2), lI_add]
        exact i1
    · have eH : sH a j now y c = gY a j now c := if_neg c1
      rw [eH] at i1
      rw [if_neg (by rw [iI_le (by omega) (by omega) (by omega) (by omega)]; omega), rAt, bs, j9, if_neg j10, e4, e5, lI_mul, lI_add]
      exact i1
theorem rSl (hm : ∀ k, k < 132 → S.1 75 k = iI (a k)) (hj : j < 8) (hw : WT a j) (hn : now ≤ 11) (hn1 : a 1 = now) {t : Int} {N : Nat} (ht : 2 ≤ t ∧ t ≤ 20) (hN : N ≤ 8) {y : Int} (hy : y = -1 ∨ (0 ≤ y ∧ y ≤ 11)) :
    f_X8_slips (iI j) (iI N) (iI t) (iI y) S = some (lI (sW (t - 1) N (sH a j now y))) := by
  have p8 : 2 ^ N ≤ 2 ^ 8 := Nat.pow_le_pow_right (by omega) hN
  have p9 : (2 : Nat) ^ 8 = 256 := rfl
  have i := rSlL hm hj hw hn hn1 ht hN hy (k := fun y => some y) (2 ^ N) 2000 0 (by omega) (by omega)
  rw [mW_sW (t - 1) N hN] at i
  rw [f_X8_slips]
  exact i
end RSL
theorem rPowL {t : Int} (ht : 2 ≤ t ∧ t ≤ 20) {N : Nat} (hN : N ≤ 8) {k : Int64 → Option Int64} : ∀ d n x : Nat, x + d = N → d < n → f_X8_power_L5 n (iI t) (iI N) (lI (t ^ x)) (iI x) k = k (lI (t ^ N)) := by
  intro d
  induction d with
  | zero =>
    intro n x hx hd
    obtain ⟨n, rfl⟩ : ∃ p, n = p + 1 := ⟨n - 1, by omega⟩
    obtain rfl : x = N := by omega
    rw [f_X8_power_L5]
    simp (disch := omega) only [li_0, li_1, li_2, li_3, li_4, li_5, li_6, li_7, li_8, li_9, li_10, li_11, li_12, li_16, li_19, li_20, li_28, li_48, li_57, li_59, li_60, li_96, li_97, li_99, li_100, li_102, li_103, li_104, li_112, li_115, li_116, li_118, li_119, li_121, li_124, li_132, li_255, li_256, li_1000, li_2000, li_1000000000, iI_add, iI_sub, iI_mul, iI_neg, iI_lt, iI_le, iI_eq, iI_clamp, iI_s, iI_m1, iI_div, bs, tn, tn4, tn12, tn20, tn124, tn28, itT, itF, if_pos, if_neg]
  | succ d ih =>
    intro n x hx hd
    obtain ⟨n, rfl⟩ : ∃ p, n = p + 1 := ⟨n - 1, by omega⟩
    have i1 := ih n (x + 1) (by omega) (by omega)
    have e1 := iI_l (z := t) (by omega) (by omega)
    rw [Int.pow_succ] at i1
    rw [f_X8_power_L5]
    simp (disch := omega) only [li_0, li_1, li_2, li_3, li_4, li_5, li_6, li_7, li_8, li_9, li_10, li_11, li_12, li_16, li_19, li_20, li_28, li_48, li_57, li_59, li_60, li_96, li_97, li_99, li_100, li_102, li_103, li_104, li_112, li_115, li_116, li_118, li_119, li_121, li_124, li_132, li_255, li_256, li_1000, li_2000, li_1000000000, iI_add, iI_sub, iI_mul, iI_neg, iI_lt, iI_le, iI_eq, iI_clamp, iI_s, iI_m1, iI_div, bs, tn, tn4, tn12, tn20, tn124, tn28, itT, itF, if_pos, if_neg, e1, lI_mul, i1]
theorem rPow {t : Int} (ht : 2 ≤ t ∧ t ≤ 20) {N : Nat} (hN : N ≤ 8) : f_X8_power (iI t) (iI N) = some (lI (t ^ N)) := by
  have i := rPowL ht hN (k := fun y => some y) N 2000 0 (by omega) (by omega)
  rw [Int.pow_zero] at i
  rw [f_X8_power]
  exact i
-- ===== the part of a fraction =====
theorem gcdL {k k' : Int64 → Option Int64} : ∀ e x y n n' c : Nat, y < 2 ^ e → e ≤ 62 → x < 2 ^ 62 → (1 ≤ x ∨ 1 ≤ y) → 2 * e + 2 ≤ n → 2 * e + 2 ≤ n' → c + 2 * e + 2 ≤ 999 →
    ∃ g : Nat, 1 ≤ g ∧ g < 2 ^ 62 ∧ f_X7_commonDivisor_L9 n (lI x) (lI y) (iI c) k = k (lI g) ∧ f_X8_gcd_L6 n' (lI x) (lI y) k' = k' (lI g) := by
  have p62 : (2 : Nat) ^ 62 = 4611686018427387904 := rfl
  have stop : ∀ x n n' c : Nat, x < 2 ^ 62 → 1 ≤ n → 1 ≤ n' → c ≤ 999 → f_X7_commonDivisor_L9 n (lI x) (lI ((0 : Nat) : Int)) (iI c) k = k (lI x) ∧ f_X8_gcd_L6 n' (lI x) (lI ((0 : Nat) : Int)) k' = k' (lI x) := by
    intro x n n' c hx h1 h2 h3
    obtain ⟨n, rfl⟩ : ∃ p, n = p + 1 := ⟨n - 1, by omega⟩
    obtain ⟨n', rfl⟩ : ∃ p, n' = p + 1 := ⟨n' - 1, by omega⟩
    have e0 : lg_cmp (lI ((0 : Nat) : Int)) 0 = 0 := (lg_cmp_eq _ _).mpr rfl
    rw [f_X7_commonDivisor_L9, f_X8_gcd_L6, if_neg (by rw [show (1000 : Int32) = iI 1000 from rfl, iI_le (by omega) (by omega) (by omega) (by omega)]; omega), if_pos e0, if_pos e0]
    exact ⟨rfl, rfl⟩
  have step : ∀ x y n n' c : Nat, x < 2 ^ 62 → y < 2 ^ 62 → 1 ≤ y → c ≤ 999 → f_X7_commonDivisor_L9 (n + 1) (lI x) (lI y) (iI c) k = f_X7_commonDivisor_L9 n (lI y) (lI ((x % y : Nat) : Int)) (iI ((c + 1 : Nat) : Int)) k ∧ f_X8_gcd_L6 (n' + 1) (lI x) (lI y) k' = f_X8_gcd_L6 n' (lI y) (lI ((x % y : Nat) : Int)) k' := by
    intro x y n n' c hx hy h1 h3
    have ey : ¬ lI (y : Int) = 0 := by
      rw [show (0 : Int64) = lI 0 from rfl, lI_eq (by omega) (by omega) (by omega) (by omega)]; omega
    have e0 : ¬ lg_cmp (lI (y : Int)) 0 = 0 := fun z => ey ((lg_cmp_eq _ _).mp z)
    have ed : lI (x : Int) - lI (x : Int) / lI (y : Int) * lI (y : Int) = lI ((x % y : Nat) : Int) := by
      rw [lI_div (by omega) (by omega) (by omega) (by omega), lI_mul, lI_sub]
      congr 1
      have h := Int.emod_add_mul_ediv (x : Int) (y : Int)
      rw [Int.natCast_emod]
      rw [Int.mul_comm] at h
      omega
    have j4 : (iI (c : Int) + 1 : Int32) = iI ((c + 1 : Nat) : Int) := by rw [show (1 : Int32) = iI 1 from rfl, iI_add]; rfl
    rw [f_X7_commonDivisor_L9, f_X8_gcd_L6, if_neg (by rw [show (1000 : Int32) = iI 1000 from rfl, iI_le (by omega) (by omega) (by omega) (by omega)]; omega), if_neg e0, if_neg e0, if_neg ey, if_neg ey, ed, j4]
    exact ⟨rfl, rfl⟩
  intro e
  induction e with
  | zero =>
    intro x y n n' c hy _ hx h0 h1 h2 h3
    have hy0 : y = 0 := by
      rw [Nat.pow_zero] at hy; omega
    subst hy0
    obtain ⟨s1, s2⟩ := stop x n n' c hx (by omega) (by omega) (by omega)
    exact ⟨x, by omega, hx, s1, s2⟩
  | succ e ih =>
    intro x y n n' c hy he hx h0 h1 h2 h3
    have hy62 : y < 2 ^ 62 := Nat.lt_of_lt_of_le hy (Nat.pow_le_pow_right (by omega) he)
    by_cases c0 : y = 0
    · subst c0
      obtain ⟨s1, s2⟩ := stop x n n' c hx (by omega) (by omega) (by omega)
      exact ⟨x, by omega, hx, s1, s2⟩
    · obtain ⟨n, rfl⟩ : ∃ p, n = p + 1 := ⟨n - 1, by omega⟩
      obtain ⟨n', rfl⟩ : ∃ p, n' = p + 1 := ⟨n' - 1, by omega⟩
      obtain ⟨a1, a2⟩ := step x y n n' c hx hy62 (by omega) (by omega)
      have hr : x % y < y := Nat.mod_lt _ (by omega)
      rw [a1, a2]
      by_cases c1 : x % y = 0
      · rw [c1]
        obtain ⟨s1, s2⟩ := stop y n n' (c + 1) hy62 (by omega) (by omega) (by omega)
        exact ⟨y, by omega, hy62, s1, s2⟩
      · obtain ⟨n, rfl⟩ : ∃ p, n = p + 1 := ⟨n - 1, by omega⟩
        obtain ⟨n', rfl⟩ : ∃ p, n' = p + 1 := ⟨n' - 1, by omega⟩
        obtain ⟨b1, b2⟩ := step y (x % y) n n' (c + 1) hy62 (by omega) (by omega) (by omega)
        rw [b1, b2]
        have h5 : y % (x % y) < x % y := Nat.mod_lt _ (by omega)
        have h6 : y % (x % y) ≤ y - x % y := by
          rw [Nat.mod_eq_sub_mod (by omega)]
          exact Nat.mod_le _ _
        have h7 : 2 ^ (e + 1) = 2 ^ e + 2 ^ e := by rw [Nat.pow_succ]; omega
        exact ih (x % y) (y % (x % y)) n n' (c + 1 + 1) (by omega) (by omega) (by omega) (by omega) (by omega) (by omega) (by omega)
theorem part_eq {x y : Nat} (hx : x < 2 ^ 62) (hy : y < 2 ^ 62) (h1 : 1 ≤ y) {p : Int} (hp : p = 0 ∨ p = 1) : ∃ v : Int64, f_X7_partOf (lI x) (lI y) (iI p) = some v ∧ f_X8_partOf (lI x) (lI y) (iI p) = some v := by
  have p62 : (2 : Nat) ^ 62 = 4611686018427387904 := rfl
  obtain ⟨g, g1, g2, g3, g4⟩ := gcdL (k := fun y4 => some y4) (k' := fun y3 => some y3) 62 x y 2000 2000 0 hy (Nat.le_refl _) hx (Or.inr h1) (by omega) (by omega) (by omega)
  have e1 : f_X7_commonDivisor (lI x) (lI y) = some (lI g) := g3
  have e2 : f_X8_gcd (lI x) (lI y) = some (lI g) := g4
  have eg : ¬ lI (g : Int) = 0 := by
    rw [show (0 : Int64) = lI 0 from rfl, lI_eq (by omega) (by omega) (by omega) (by omega)]; omega
  have eg1 : 0 ≤ lg_cmp (lI (g : Int)) 1 := (lg_cmp_ge _ _).mpr (by rw [show (1 : Int64) = lI 1 from rfl, lI_le (by omega) (by omega) (by omega) (by omega)]; omega)
  have q1 : ¬ iI 1 = 0 := by decide
  have q0 : iI 0 = 0 := rfl
  by_cases c : x = 0
  · subst c
    -- nothing over y: the divisor is y
    obtain ⟨g', u1, u2, u3, u4⟩ := gcdL (k := fun y4 => some y4) (k' := fun y3 => some y3) 0 y 0 1999 1999 1 (by decide) (by omega) hy (Or.inl h1) (by omega) (by omega) (by omega)
    have s1 : f_X7_commonDivisor_L9 2000 (lI ((0 : Nat) : Int)) (lI y) (iI ((0 : Nat) : Int)) (fun y4 => some y4) = some (lI y) := by
      have ey : ¬ lI (y : Int) = 0 := by
        rw [show (0 : Int64) = lI 0 from rfl, lI_eq (by omega) (by omega) (by omega) (by omega)]; omega
      have e0 : ¬ lg_cmp (lI (y : Int)) 0 = 0 := fun z => ey ((lg_cmp_eq _ _).mp z)
      have ed : lI ((0 : Nat) : Int) - lI ((0 : Nat) : Int) / lI (y : Int) * lI (y : Int) = lI 0 := by
        rw [lI_div (by omega) (by omega) (by omega) (by omega), lI_mul, lI_sub]
        congr 1
        rw [show ((0 : Nat) : Int) = 0 from rfl, Int.zero_ediv, Int.zero_mul]
        rfl
      rw [show 2000 = 1998 + 1 + 1 from rfl, f_X7_commonDivisor_L9, if_neg (by decide), if_neg e0, if_neg ey, ed, f_X7_commonDivisor_L9, if_neg (by decide), if_pos (by decide)]
    have e3 : f_X7_commonDivisor (lI ((0 : Nat) : Int)) (lI y) = some (lI y) := s1
    rw [e3] at e1
    have e4 : lI (y : Int) = lI (g : Int) := Option.some.inj e1
    have e5 : lI ((0 : Nat) : Int) / lI (g : Int) = lI 0 := by
      rw [lI_div (by omega) (by omega) (by omega) (by omega)]
      rw [show ((0 : Nat) : Int) = 0 from rfl, Int.zero_ediv]
    have e6 : lI (y : Int) / lI (g : Int) = lI 1 := by
      rw [e4, lI_div (by omega) (by omega) (by omega) (by omega), Int.ediv_self (by omega)]
    have ec : lg_cmp (lI ((0 : Nat) : Int)) 0 = 0 := (lg_cmp_eq _ _).mpr rfl
    refine ⟨lI p, ?_, ?_⟩
    · rw [f_X7_partOf, e3, e4, bs, if_pos eg1]
      rcases hp with rfl | rfl
      · rw [if_pos q0, if_neg eg, e5]
      · rw [if_neg q1, if_neg eg, ← e4, e4] 
        rw [e4] at e6
        rw [e6]
    · rw [f_X8_partOf, if_pos ec, iI_l (by omega) (by omega)]
  · have ex : ¬ lI (x : Int) = 0 := by
      rw [show (0 : Int64) = lI 0 from rfl, lI_eq (by omega) (by omega) (by omega) (by omega)]; omega
    have e0 : ¬ lg_cmp (lI (x : Int)) 0 = 0 := fun z => ex ((lg_cmp_eq _ _).mp z)
    rcases hp with rfl | rfl
    · refine ⟨lI x / lI g, ?_, ?_⟩
      · rw [f_X7_partOf, e1, bs, if_pos eg1, if_pos q0, if_neg eg]
      · rw [f_X8_partOf, if_neg e0, if_pos q0, e2, bs, if_neg eg]
    · refine ⟨lI y / lI g, ?_, ?_⟩
      · rw [f_X7_partOf, e1, bs, if_pos eg1, if_neg q1, if_neg eg]
      · rw [f_X8_partOf, if_neg e0, if_neg q1, e2, bs, if_neg eg]
