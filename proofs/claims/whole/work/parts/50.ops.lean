-- ===== calls of one thing =====
theorem e_noF {S : St} (hS : Inv S) {x1 : Option (Int32 × St)} {g : St → Option (Int32 × St)} (v : Int) (c : Nat) (hc : 1 ≤ c ∧ c ≤ 6) (hv : v = -(c : Int)) (h1 : x1 = (f_X7_refuse (iI v) S).bind fun z => some (iI 1000000000 - z.1, z.2)) (h2 : ∀ S1 : St, S1.1 75 = S.1 75 → g S1 = f_X8_noFar (iI v) S1) : ∃ z1 z2, x1 = some z1 ∧ g z1.2 = some z2 ∧ z1.1 = z2.1 ∧ Inv z2.2 := by
  rw [cRef hc hv] at h1
  have h3 := h2 (up S 73 c (S.1 73 c + iI 1)) (up_ne (by omega))
  rw [f_X8_noFar, rNo hc hv] at h3
  exact e_mk h1 h3 (hS.no hc)
def sWash (a : Nat → Int) (j now : Nat) : Int := sG a j now - sHow a j now
theorem sWash_b {a : Nat → Int} {j now : Nat} (hw : WT a j) (hn : now ≤ 11) : -99 ≤ sWash a j now ∧ sWash a j now ≤ 99 := by
  have h1 := sG_b hw (y := now) (by omega)
  have h2 := sHow_b hw hn
  unfold sWash
  omega
theorem cMore {S : St} {t : Nat} {a : Nat → Int} {j : Nat} (h : RT S t a j) (hw : WT a j) {now : Nat} (hn : now ≤ 11) : f_X6_moreIfWashed t (iI now) S = some (iI (sWash a j now)) := by
  have e1 := cG h (y := now) (by omega)
  have e2 := cHow h hw hn
  simp (disch := omega) only [li_0, li_1, li_2, li_3, li_4, li_5, li_6, li_7, li_8, li_9, li_10, li_11, li_12, li_16, li_19, li_20, li_28, li_48, li_57, li_59, li_60, li_96, li_97, li_99, li_100, li_102, li_103, li_104, li_112, li_115, li_116, li_118, li_119, li_121, li_124, li_132, li_255, li_256, li_1000, li_2000, li_1000000000, iI_add, iI_sub, iI_mul, iI_neg, iI_lt, iI_le, iI_eq, iI_clamp, iI_s, iI_m1, iI_div, bs, tn, tn4, tn12, tn20, tn124, tn28, itT, itF, if_pos, if_neg, f_X6_moreIfWashed, e1, e2, sWash]
theorem rWater {S : St} {a : Nat → Int} {j now : Nat} (hm : ∀ k, k < 132 → S.1 75 k = iI (a k)) (hj : j < 8) (hw : WT a j) (hn : now ≤ 11) (hn1 : a 1 = now) : f_X8_waterOf (iI j) S = some (iI (sWash a j now)) := by
  have hm1 : S.1 75 1 = iI now := by rw [hm 1 (by omega), hn1]
  have e1 : S.1 75 (28 + 12 * j + now) = iI (sG a j now) := hm _ (by omega)
  have e2 := rHow hm hj hw hn hn1
  simp (disch := omega) only [li_0, li_1, li_2, li_3, li_4, li_5, li_6, li_7, li_8, li_9, li_10, li_11, li_12, li_16, li_19, li_20, li_28, li_48, li_57, li_59, li_60, li_96, li_97, li_99, li_100, li_102, li_103, li_104, li_112, li_115, li_116, li_118, li_119, li_121, li_124, li_132, li_255, li_256, li_1000, li_2000, li_1000000000, iI_add, iI_sub, iI_mul, iI_neg, iI_lt, iI_le, iI_eq, iI_clamp, iI_s, iI_m1, iI_div, bs, tn, tn4, tn12, tn20, tn124, tn28, itT, itF, if_pos, if_neg, f_X8_waterOf, hm1, rAt, e1, e2, sWash]
theorem e_water {S : St} (hS : Inv S) (a1 : Int32) : ∃ (z1 : Int32 × St) (z2 : Int32 × St), f_X7_water a1 S = some z1 ∧ f_X8_water a1 z1.2 = some z2 ∧ z1.1 = z2.1 ∧ Inv z2.2 := by
  obtain ⟨⟨a, hw, hc, hm0⟩, -⟩ := id hS
  have hm : ∀ k, k < 132 → S.1 75 k = iI (a k) := hm0
  have h8 := hw.1
  have w1 := hw.2.1
  have w2 := hw.2.2.1
  have w3 := hw.2.2.2.1
  obtain ⟨now, hnow⟩ : ∃ n : Nat, a 1 = n := ⟨(a 1).toNat, by omega⟩
  obtain ⟨N, hN⟩ : ∃ n : Nat, a 0 = n := ⟨(a 0).toNat, by omega⟩
  have hn : now ≤ 11 := by omega
  have hN8 : N ≤ 8 := by omega
  have p1 : S.1 1 1 = iI now := by rw [hc.1 1 (by omega), hnow]
  have p0 : S.1 1 0 = iI N := by rw [hc.1 0 (by omega), hN]
  have m0 : S.1 75 0 = iI N := by rw [hm 0 (by omega), hN]
  have m1 : S.1 75 1 = iI now := by rw [hm 1 (by omega), hnow]
  obtain ⟨x, x1, x2, rfl⟩ := iI_any a1
  have e1 := cLacks hc hw x1 x2
  have g1 := rThing m0 hN8 x1 x2
  by_cases c : 0 ≤ x ∧ x < a 0
  · obtain ⟨j, rfl⟩ : ∃ n : Nat, x = n := ⟨x.toNat, by omega⟩
    have ht := hc.t (j := j) (by omega) (by omega)
    have hwt := hw.t (j := j) (by omega)
    have e2 := cAt (S := S) (q := 1) (j := j) (by omega)
    have k := hwt.2.2.1
    have e3 := cSet ht hwt
    by_cases c1 : a (20 + j) < 0
    · exact e_noF hS (-3) 3 (by omega) (by omega) (by simp (disch := omega) only [li_0, li_1, li_2, li_3, li_4, li_5, li_6, li_7, li_8, li_9, li_10, li_11, li_12, li_16, li_19, li_20, li_28, li_48, li_57, li_59, li_60, li_96, li_97, li_99, li_100, li_102, li_103, li_104, li_112, li_115, li_116, li_118, li_119, li_121, li_124, li_132, li_255, li_256, li_1000, li_2000, li_1000000000, iI_add, iI_sub, iI_mul, iI_neg, iI_lt, iI_le, iI_eq, iI_clamp, iI_s, iI_m1, iI_div, bs, tn, tn4, tn12, tn20, tn124, tn28, itT, itF, if_pos, if_neg, f_X7_water, e1, e2, e3]) (fun S1 q1 => by
        have hmm : ∀ k, k < 132 → S1.1 75 k = iI (a k) := fun k hk => by rw [q1]; exact hm k hk
        have g1 := rThing (S := S1) (by rw [q1]; exact m0) hN8 x1 x2
        simp (disch := omega) only [li_0, li_1, li_2, li_3, li_4, li_5, li_6, li_7, li_8, li_9, li_10, li_11, li_12, li_16, li_19, li_20, li_28, li_48, li_57, li_59, li_60, li_96, li_97, li_99, li_100, li_102, li_103, li_104, li_112, li_115, li_116, li_118, li_119, li_121, li_124, li_132, li_255, li_256, li_1000, li_2000, li_1000000000, iI_add, iI_sub, iI_mul, iI_neg, iI_lt, iI_le, iI_eq, iI_clamp, iI_s, iI_m1, iI_div, bs, tn, tn4, tn12, tn20, tn124, tn28, itT, itF, if_pos, if_neg, f_X8_water, g1, hmm, bse])
    · have e4 := cMore ht hwt hn
      have g4 := rWater hm (by omega) hwt hn hnow
      exact e_mk (v := iI (sWash a j now)) (S1 := S) (S2 := S) (by simp (disch := omega) only [li_0, li_1, li_2, li_3, li_4, li_5, li_6, li_7, li_8, li_9, li_10, li_11, li_12, li_16, li_19, li_20, li_28, li_48, li_57, li_59, li_60, li_96, li_97, li_99, li_100, li_102, li_103, li_104, li_112, li_115, li_116, li_118, li_119, li_121, li_124, li_132, li_255, li_256, li_1000, li_2000, li_1000000000, iI_add, iI_sub, iI_mul, iI_neg, iI_lt, iI_le, iI_eq, iI_clamp, iI_s, iI_m1, iI_div, bs, tn, tn4, tn12, tn20, tn124, tn28, itT, itF, if_pos, if_neg, f_X7_water, e1, e2, e3, p1, e4]) (by simp (disch := omega) only [li_0, li_1, li_2, li_3, li_4, li_5, li_6, li_7, li_8, li_9, li_10, li_11, li_12, li_16, li_19, li_20, li_28, li_48, li_57, li_59, li_60, li_96, li_97, li_99, li_100, li_102, li_103, li_104, li_112, li_115, li_116, li_118, li_119, li_121, li_124, li_132, li_255, li_256, li_1000, li_2000, li_1000000000, iI_add, iI_sub, iI_mul, iI_neg, iI_lt, iI_le, iI_eq, iI_clamp, iI_s, iI_m1, iI_div, bs, tn, tn4, tn12, tn20, tn124, tn28, itT, itF, if_pos, if_neg, f_X8_water, g1, hm, g4]) hS
  · exact e_noF hS (-1) 1 (by omega) (by omega) (by simp (disch := omega) only [li_0, li_1, li_2, li_3, li_4, li_5, li_6, li_7, li_8, li_9, li_10, li_11, li_12, li_16, li_19, li_20, li_28, li_48, li_57, li_59, li_60, li_96, li_97, li_99, li_100, li_102, li_103, li_104, li_112, li_115, li_116, li_118, li_119, li_121, li_124, li_132, li_255, li_256, li_1000, li_2000, li_1000000000, iI_add, iI_sub, iI_mul, iI_neg, iI_lt, iI_le, iI_eq, iI_clamp, iI_s, iI_m1, iI_div, bs, tn, tn4, tn12, tn20, tn124, tn28, itT, itF, if_pos, if_neg, f_X7_water, e1]) (fun S1 q1 => by
      have g1 := rThing (S := S1) (by rw [q1]; exact m0) hN8 x1 x2
      simp (disch := omega) only [li_0, li_1, li_2, li_3, li_4, li_5, li_6, li_7, li_8, li_9, li_10, li_11, li_12, li_16, li_19, li_20, li_28, li_48, li_57, li_59, li_60, li_96, li_97, li_99, li_100, li_102, li_103, li_104, li_112, li_115, li_116, li_118, li_119, li_121, li_124, li_132, li_255, li_256, li_1000, li_2000, li_1000000000, iI_add, iI_sub, iI_mul, iI_neg, iI_lt, iI_le, iI_eq, iI_clamp, iI_s, iI_m1, iI_div, bs, tn, tn4, tn12, tn20, tn124, tn28, itT, itF, if_pos, if_neg, f_X8_water, g1, bse])
theorem cRegret {S : St} {a : Nat → Int} {j now : Nat} (hc : RC S 1 a) (hw : WFa a) (hj : j < 8) (hs : (j : Int) < a 0) (hn : now ≤ 11) (p1 : S.1 1 1 = iI now) : f_X7_regret (iI j) S = some (iI (if 0 < sG a j (sGY a j now) - sHow a j now then sG a j (sGY a j now) - sHow a j now else 0), S) := by
  have h8 := hw.1
  have ht := hc.t hj hs
  have hwt := hw.t hj
  have e1 : f_X3_lacks 1 (iI j) S = some (iI 0) := by rw [cLacks hc hw (by omega) (by omega), if_pos (by omega)]
  have e2 := cAt (S := S) (q := 1) hj
  have e3 := cGY ht hwt hn
  have yb := sGY_le a j now
  have e4 := cG ht (y := sGY a j now) (by omega)
  have e5 := cHow ht hwt hn
  have b1 := sG_b hwt (y := sGY a j now) (by omega)
  have b2 := sHow_b hwt hn
  rw [f_X7_regret, e1, bs, if_pos (show iI 0 = 0 from rfl), e2, bs, p1, e3, bs, e4, bs, e5, bs]
  by_cases c1 : 0 < sG a j (sGY a j now) - sHow a j now
  · simp (disch := omega) only [li_0, li_1, li_2, li_3, li_4, li_5, li_6, li_7, li_8, li_9, li_10, li_11, li_12, li_16, li_19, li_20, li_28, li_48, li_57, li_59, li_60, li_96, li_97, li_99, li_100, li_102, li_103, li_104, li_112, li_115, li_116, li_118, li_119, li_121, li_124, li_132, li_255, li_256, li_1000, li_2000, li_1000000000, iI_add, iI_sub, iI_mul, iI_neg, iI_lt, iI_le, iI_eq, iI_clamp, iI_s, iI_m1, iI_div, bs, tn, tn4, tn12, tn20, tn124, tn28, itT, itF, if_pos, if_neg]
  · simp (disch := omega) only [li_0, li_1, li_2, li_3, li_4, li_5, li_6, li_7, li_8, li_9, li_10, li_11, li_12, li_16, li_19, li_20, li_28, li_48, li_57, li_59, li_60, li_96, li_97, li_99, li_100, li_102, li_103, li_104, li_112, li_115, li_116, li_118, li_119, li_121, li_124, li_132, li_255, li_256, li_1000, li_2000, li_1000000000, iI_add, iI_sub, iI_mul, iI_neg, iI_lt, iI_le, iI_eq, iI_clamp, iI_s, iI_m1, iI_div, bs, tn, tn4, tn12, tn20, tn124, tn28, itT, itF, if_pos, if_neg]
theorem rRegret {S : St} {a : Nat → Int} {j now N : Nat} (hm : ∀ k, k < 132 → S.1 75 k = iI (a k)) (hw : WFa a) (hN : a 0 = N) (hj : j < 8) (hs : j < N) (hn : now ≤ 11) (hn1 : a 1 = now) : f_X8_regret (iI j) S = some (iI (if 0 < sG a j (sGY a j now) - sHow a j now then sG a j (sGY a j now) - sHow a j now else 0), S) := by
  have h8 := hw.1
  have hwt := hw.t hj
  have m0 : S.1 75 0 = iI N := by rw [hm 0 (by omega), hN]
  have g1 : f_X8_isThing (iI j) S = some (iI 1) := by rw [rThing m0 (by omega) (by omega) (by omega), if_pos (by omega)]
  have yb := sGY_le a j now
  have g3 := rGY hm hj hwt hn hn1
  have g4 : S.1 75 (28 + 12 * j + sGY a j now) = iI (sG a j (sGY a j now)) := hm _ (by omega)
  have g5 := rHow hm hj hwt hn hn1
  have b1 := sG_b hwt (y := sGY a j now) (by omega)
  have b2 := sHow_b hwt hn
  have g6 := rMost (x := 0) (y := sG a j (sGY a j now) - sHow a j now) (by omega) (by omega) (by omega) (by omega)
  have e6 : (if 0 < sG a j (sGY a j now) - sHow a j now then sG a j (sGY a j now) - sHow a j now else 0) = (if 0 ≤ sG a j (sGY a j now) - sHow a j now then sG a j (sGY a j now) - sHow a j now else 0) := by
    by_cases c1 : 0 < sG a j (sGY a j now) - sHow a j now
    · rw [if_pos c1, if_pos (by omega)]
    · rw [if_neg c1]
      by_cases c2 : 0 ≤ sG a j (sGY a j now) - sHow a j now
      · rw [if_pos c2]; omega
      · rw [if_neg c2]
  rw [e6, f_X8_regret, g1, bs, if_neg (by decide), g3, bs, rAt, bs]
  simp (disch := omega) only [li_0, li_1, li_2, li_3, li_4, li_5, li_6, li_7, li_8, li_9, li_10, li_11, li_12, li_16, li_19, li_20, li_28, li_48, li_57, li_59, li_60, li_96, li_97, li_99, li_100, li_102, li_103, li_104, li_112, li_115, li_116, li_118, li_119, li_121, li_124, li_132, li_255, li_256, li_1000, li_2000, li_1000000000, iI_add, iI_sub, iI_mul, iI_neg, iI_lt, iI_le, iI_eq, iI_clamp, iI_s, iI_m1, iI_div, bs, tn, tn4, tn12, tn20, tn124, tn28, itT, itF, if_pos, if_neg, g4, g5, g6]
theorem e_regret {S : St} (hS : Inv S) (a1 : Int32) : ∃ (z1 : Int32 × St) (z2 : Int32 × St), f_X7_regret a1 S = some z1 ∧ f_X8_regret a1 z1.2 = some z2 ∧ z1.1 = z2.1 ∧ Inv z2.2 := by
  obtain ⟨⟨a, hw, hc, hm0⟩, -⟩ := id hS
  have hm : ∀ k, k < 132 → S.1 75 k = iI (a k) := hm0
  have h8 := hw.1
  have w1 := hw.2.1
  have w2 := hw.2.2.1
  have w3 := hw.2.2.2.1
  obtain ⟨now, hnow⟩ : ∃ n : Nat, a 1 = n := ⟨(a 1).toNat, by omega⟩
  obtain ⟨N, hN⟩ : ∃ n : Nat, a 0 = n := ⟨(a 0).toNat, by omega⟩
  have hn : now ≤ 11 := by omega
  have hN8 : N ≤ 8 := by omega
  have p1 : S.1 1 1 = iI now := by rw [hc.1 1 (by omega), hnow]
  have p0 : S.1 1 0 = iI N := by rw [hc.1 0 (by omega), hN]
  have m0 : S.1 75 0 = iI N := by rw [hm 0 (by omega), hN]
  have m1 : S.1 75 1 = iI now := by rw [hm 1 (by omega), hnow]
  obtain ⟨x, x1, x2, rfl⟩ := iI_any a1
  have e1 := cLacks hc hw x1 x2
  by_cases c : 0 ≤ x ∧ x < a 0
  · obtain ⟨j, rfl⟩ : ∃ n : Nat, x = n := ⟨x.toNat, by omega⟩
    have ht := hc.t (j := j) (by omega) (by omega)
    have hwt := hw.t (j := j) (by omega)
    have e2 := cAt (S := S) (q := 1) (j := j) (by omega)
    exact e_mk (cRegret hc hw (j := j) (by omega) (by omega) hn p1) (rRegret hm hw hN (j := j) (by omega) (by omega) hn hnow) hS
  · exact e_no hS (-1) 1 (by omega) (by omega) (by simp (disch := omega) only [li_0, li_1, li_2, li_3, li_4, li_5, li_6, li_7, li_8, li_9, li_10, li_11, li_12, li_16, li_19, li_20, li_28, li_48, li_57, li_59, li_60, li_96, li_97, li_99, li_100, li_102, li_103, li_104, li_112, li_115, li_116, li_118, li_119, li_121, li_124, li_132, li_255, li_256, li_1000, li_2000, li_1000000000, iI_add, iI_sub, iI_mul, iI_neg, iI_lt, iI_le, iI_eq, iI_clamp, iI_s, iI_m1, iI_div, bs, tn, tn4, tn12, tn20, tn124, tn28, itT, itF, if_pos, if_neg, f_X7_regret, e1, bse]) (fun S1 q1 q2 => by
      have g1 := rThing (S := S1) (by rw [q1]; exact m0) hN8 x1 x2
      simp (disch := omega) only [li_0, li_1, li_2, li_3, li_4, li_5, li_6, li_7, li_8, li_9, li_10, li_11, li_12, li_16, li_19, li_20, li_28, li_48, li_57, li_59, li_60, li_96, li_97, li_99, li_100, li_102, li_103, li_104, li_112, li_115, li_116, li_118, li_119, li_121, li_124, li_132, li_255, li_256, li_1000, li_2000, li_1000000000, iI_add, iI_sub, iI_mul, iI_neg, iI_lt, iI_le, iI_eq, iI_clamp, iI_s, iI_m1, iI_div, bs, tn, tn4, tn12, tn20, tn124, tn28, itT, itF, if_pos, if_neg, f_X8_regret, g1, bse])
theorem cCanL {S : St} {a : Nat → Int} {j now : Nat} (hc : RC S 1 a) (hw : WFa a) (hj : j < 8) (hs : (j : Int) < a 0) (hn : now ≤ 11) (p1 : S.1 1 1 = iI now) {k : Int32 → Option (Int32 × St)} :
    ∀ d n u : Nat, u + d = 20 → d < n → f_X7_can_L21 n (iI j) (sCan a j now u) (iI u) S k = k (sCan a j now 20) := by
  intro d
  induction d with
  | zero =>
    intro n u hu hd
    obtain ⟨n, rfl⟩ : ∃ p, n = p + 1 := ⟨n - 1, by omega⟩
    obtain rfl : u = 20 := by omega
    rw [f_X7_can_L21]
    simp (disch := omega) only [li_0, li_1, li_2, li_3, li_4, li_5, li_6, li_7, li_8, li_9, li_10, li_11, li_12, li_16, li_19, li_20, li_28, li_48, li_57, li_59, li_60, li_96, li_97, li_99, li_100, li_102, li_103, li_104, li_112, li_115, li_116, li_118, li_119, li_121, li_124, li_132, li_255, li_256, li_1000, li_2000, li_1000000000, iI_add, iI_sub, iI_mul, iI_neg, iI_lt, iI_le, iI_eq, iI_clamp, iI_s, iI_m1, iI_div, bs, tn, tn4, tn12, tn20, tn124, tn28, itT, itF, if_pos, if_neg]
  | succ d ih =>
    intro n u hu hd
    obtain ⟨n, rfl⟩ : ∃ p, n = p + 1 := ⟨n - 1, by omega⟩
    have e0 := cY (hc.t hj hs) (hw.t hj) hn (m := 5 * (u : Int)) (f := 0) (by omega) (by omega)
    have ec : (u : Int) * 5 = 5 * (u : Int) := Int.mul_comm _ _
    have e2 := cAt (S := S) (q := 1) hj
    have i1 := ih n (u + 1) (by omega) (by omega)
    rw [sCan] at i1
    rw [f_X7_can_L21]
    simp (disch := omega) only [li_0, li_1, li_2, li_3, li_4, li_5, li_6, li_7, li_8, li_9, li_10, li_11, li_12, li_16, li_19, li_20, li_28, li_48, li_57, li_59, li_60, li_96, li_97, li_99, li_100, li_102, li_103, li_104, li_112, li_115, li_116, li_118, li_119, li_121, li_124, li_132, li_255, li_256, li_1000, li_2000, li_1000000000, iI_add, iI_sub, iI_mul, iI_neg, iI_lt, iI_le, iI_eq, iI_clamp, iI_s, iI_m1, iI_div, bs, tn, tn4, tn12, tn20, tn124, tn28, itT, itF, if_pos, if_neg, ec, e2, p1, e0, i1]
theorem e_can {S : St} (hS : Inv S) (a1 : Int32) : ∃ (z1 : Int32 × St) (z2 : Int32 × St), f_X7_can a1 S = some z1 ∧ f_X8_can a1 z1.2 = some z2 ∧ z1.1 = z2.1 ∧ Inv z2.2 := by
  obtain ⟨⟨a, hw, hc, hm0⟩, -⟩ := id hS
  have hm : ∀ k, k < 132 → S.1 75 k = iI (a k) := hm0
  have h8 := hw.1
  have w1 := hw.2.1
  have w2 := hw.2.2.1
  have w3 := hw.2.2.2.1
  obtain ⟨now, hnow⟩ : ∃ n : Nat, a 1 = n := ⟨(a 1).toNat, by omega⟩
  obtain ⟨N, hN⟩ : ∃ n : Nat, a 0 = n := ⟨(a 0).toNat, by omega⟩
  have hn : now ≤ 11 := by omega
  have hN8 : N ≤ 8 := by omega
  have p1 : S.1 1 1 = iI now := by rw [hc.1 1 (by omega), hnow]
  have p0 : S.1 1 0 = iI N := by rw [hc.1 0 (by omega), hN]
  have m0 : S.1 75 0 = iI N := by rw [hm 0 (by omega), hN]
  have m1 : S.1 75 1 = iI now := by rw [hm 1 (by omega), hnow]
  obtain ⟨x, x1, x2, rfl⟩ := iI_any a1
  have e1 := cLacks hc hw x1 x2
  have g1 := rThing m0 hN8 x1 x2
  by_cases c : 0 ≤ x ∧ x < a 0
  · obtain ⟨j, rfl⟩ : ∃ n : Nat, x = n := ⟨x.toNat, by omega⟩
    have ht := hc.t (j := j) (by omega) (by omega)
    have hwt := hw.t (j := j) (by omega)
    have e2 := cAt (S := S) (q := 1) (j := j) (by omega)
    have e3 : f_X7_can_L21 2000 (iI j) (iI 0) (iI 0) S (fun y6 => some (y6, S)) = some (sCan a j now 20, S) := cCanL hc hw (by omega) (by omega) hn p1 20 2000 0 (by omega) (by omega)
    have g3 := rCan hm (by omega) hwt hn hnow
    exact e_mk (v := sCan a j now 20) (S1 := S) (S2 := S) (by simp (disch := omega) only [li_0, li_1, li_2, li_3, li_4, li_5, li_6, li_7, li_8, li_9, li_10, li_11, li_12, li_16, li_19, li_20, li_28, li_48, li_57, li_59, li_60, li_96, li_97, li_99, li_100, li_102, li_103, li_104, li_112, li_115, li_116, li_118, li_119, li_121, li_124, li_132, li_255, li_256, li_1000, li_2000, li_1000000000, iI_add, iI_sub, iI_mul, iI_neg, iI_lt, iI_le, iI_eq, iI_clamp, iI_s, iI_m1, iI_div, bs, tn, tn4, tn12, tn20, tn124, tn28, itT, itF, if_pos, if_neg, f_X7_can, e1, e3]) (by simp (disch := omega) only [li_0, li_1, li_2, li_3, li_4, li_5, li_6, li_7, li_8, li_9, li_10, li_11, li_12, li_16, li_19, li_20, li_28, li_48, li_57, li_59, li_60, li_96, li_97, li_99, li_100, li_102, li_103, li_104, li_112, li_115, li_116, li_118, li_119, li_121, li_124, li_132, li_255, li_256, li_1000, li_2000, li_1000000000, iI_add, iI_sub, iI_mul, iI_neg, iI_lt, iI_le, iI_eq, iI_clamp, iI_s, iI_m1, iI_div, bs, tn, tn4, tn12, tn20, tn124, tn28, itT, itF, if_pos, if_neg, f_X8_can, g1, g3]) hS
  · exact e_no hS (-1) 1 (by omega) (by omega) (by simp (disch := omega) only [li_0, li_1, li_2, li_3, li_4, li_5, li_6, li_7, li_8, li_9, li_10, li_11, li_12, li_16, li_19, li_20, li_28, li_48, li_57, li_59, li_60, li_96, li_97, li_99, li_100, li_102, li_103, li_104, li_112, li_115, li_116, li_118, li_119, li_121, li_124, li_132, li_255, li_256, li_1000, li_2000, li_1000000000, iI_add, iI_sub, iI_mul, iI_neg, iI_lt, iI_le, iI_eq, iI_clamp, iI_s, iI_m1, iI_div, bs, tn, tn4, tn12, tn20, tn124, tn28, itT, itF, if_pos, if_neg, f_X7_can, e1, bse]) (fun S1 q1 q2 => by
      have g1 := rThing (S := S1) (by rw [q1]; exact m0) hN8 x1 x2
      simp (disch := omega) only [li_0, li_1, li_2, li_3, li_4, li_5, li_6, li_7, li_8, li_9, li_10, li_11, li_12, li_16, li_19, li_20, li_28, li_48, li_57, li_59, li_60, li_96, li_97, li_99, li_100, li_102, li_103, li_104, li_112, li_115, li_116, li_118, li_119, li_121, li_124, li_132, li_255, li_256, li_1000, li_2000, li_1000000000, iI_add, iI_sub, iI_mul, iI_neg, iI_lt, iI_le, iI_eq, iI_clamp, iI_s, iI_m1, iI_div, bs, tn, tn4, tn12, tn20, tn124, tn28, itT, itF, if_pos, if_neg, f_X8_can, g1, bse])
theorem e_fewest {S : St} (hS : Inv S) (a1 : Int32) (a2 : Int32) : ∃ (z1 : Int32 × St) (z2 : Int32 × St), f_X7_fewest a1 a2 S = some z1 ∧ f_X8_fewest a1 a2 z1.2 = some z2 ∧ z1.1 = z2.1 ∧ Inv z2.2 := by
  obtain ⟨⟨a, hw, hc, hm0⟩, -⟩ := id hS
  have hm : ∀ k, k < 132 → S.1 75 k = iI (a k) := hm0
  have h8 := hw.1
  have w1 := hw.2.1
  have w2 := hw.2.2.1
  have w3 := hw.2.2.2.1
  obtain ⟨now, hnow⟩ : ∃ n : Nat, a 1 = n := ⟨(a 1).toNat, by omega⟩
  obtain ⟨N, hN⟩ : ∃ n : Nat, a 0 = n := ⟨(a 0).toNat, by omega⟩
  have hn : now ≤ 11 := by omega
  have hN8 : N ≤ 8 := by omega
  have p1 : S.1 1 1 = iI now := by rw [hc.1 1 (by omega), hnow]
  have p0 : S.1 1 0 = iI N := by rw [hc.1 0 (by omega), hN]
  have m0 : S.1 75 0 = iI N := by rw [hm 0 (by omega), hN]
  have m1 : S.1 75 1 = iI now := by rw [hm 1 (by omega), hnow]
  obtain ⟨x, x1, x2, rfl⟩ := iI_any a1
  obtain ⟨y, y1, y2, rfl⟩ := iI_any a2
  have e1 := cLacks hc hw x1 x2
  have g1 := rThing m0 hN8 x1 x2
  have e3 := cNo y1 y2
  have g3 := rYear y1 y2
  by_cases c : 0 ≤ x ∧ x < a 0
  · obtain ⟨j, rfl⟩ : ∃ n : Nat, x = n := ⟨x.toNat, by omega⟩
    have ht := hc.t (j := j) (by omega) (by omega)
    have hwt := hw.t (j := j) (by omega)
    have e2 := cAt (S := S) (q := 1) (j := j) (by omega)
    by_cases cy : 0 ≤ y ∧ y < 12
    · obtain ⟨u, rfl⟩ : ∃ n : Nat, y = n := ⟨y.toNat, by omega⟩
      have e4 := cFew ht hwt hn (y := u) (by omega)
      have g4 := rFew hm (by omega) hwt hn hnow (y := u) (by omega)
      exact e_mk (v := iI (sFw a j now u)) (S1 := S) (S2 := S) (by simp (disch := omega) only [li_0, li_1, li_2, li_3, li_4, li_5, li_6, li_7, li_8, li_9, li_10, li_11, li_12, li_16, li_19, li_20, li_28, li_48, li_57, li_59, li_60, li_96, li_97, li_99, li_100, li_102, li_103, li_104, li_112, li_115, li_116, li_118, li_119, li_121, li_124, li_132, li_255, li_256, li_1000, li_2000, li_1000000000, iI_add, iI_sub, iI_mul, iI_neg, iI_lt, iI_le, iI_eq, iI_clamp, iI_s, iI_m1, iI_div, bs, tn, tn4, tn12, tn20, tn124, tn28, itT, itF, if_pos, if_neg, f_X7_fewest, e1, e2, e3, p1, e4]) (by simp (disch := omega) only [li_0, li_1, li_2, li_3, li_4, li_5, li_6, li_7, li_8, li_9, li_10, li_11, li_12, li_16, li_19, li_20, li_28, li_48, li_57, li_59, li_60, li_96, li_97, li_99, li_100, li_102, li_103, li_104, li_112, li_115, li_116, li_118, li_119, li_121, li_124, li_132, li_255, li_256, li_1000, li_2000, li_1000000000, iI_add, iI_sub, iI_mul, iI_neg, iI_lt, iI_le, iI_eq, iI_clamp, iI_s, iI_m1, iI_div, bs, tn, tn4, tn12, tn20, tn124, tn28, itT, itF, if_pos, if_neg, f_X8_fewest, g1, g3, g4]) hS
    · exact e_no hS (-1) 1 (by omega) (by omega) (by simp (disch := omega) only [li_0, li_1, li_2, li_3, li_4, li_5, li_6, li_7, li_8, li_9, li_10, li_11, li_12, li_16, li_19, li_20, li_28, li_48, li_57, li_59, li_60, li_96, li_97, li_99, li_100, li_102, li_103, li_104, li_112, li_115, li_116, li_118, li_119, li_121, li_124, li_132, li_255, li_256, li_1000, li_2000, li_1000000000, iI_add, iI_sub, iI_mul, iI_neg, iI_lt, iI_le, iI_eq, iI_clamp, iI_s, iI_m1, iI_div, bs, tn, tn4, tn12, tn20, tn124, tn28, itT, itF, if_pos, if_neg, f_X7_fewest, e1, e3, bse]) (fun S1 q1 q2 => by
        have g1 := rThing (S := S1) (by rw [q1]; exact m0) hN8 x1 x2
        simp (disch := omega) only [li_0, li_1, li_2, li_3, li_4, li_5, li_6, li_7, li_8, li_9, li_10, li_11, li_12, li_16, li_19, li_20, li_28, li_48, li_57, li_59, li_60, li_96, li_97, li_99, li_100, li_102, li_103, li_104, li_112, li_115, li_116, li_118, li_119, li_121, li_124, li_132, li_255, li_256, li_1000, li_2000, li_1000000000, iI_add, iI_sub, iI_mul, iI_neg, iI_lt, iI_le, iI_eq, iI_clamp, iI_s, iI_m1, iI_div, bs, tn, tn4, tn12, tn20, tn124, tn28, itT, itF, if_pos, if_neg, f_X8_fewest, g1, g3, bse])
  · exact e_no hS (-1) 1 (by omega) (by omega) (by simp (disch := omega) only [li_0, li_1, li_2, li_3, li_4, li_5, li_6, li_7, li_8, li_9, li_10, li_11, li_12, li_16, li_19, li_20, li_28, li_48, li_57, li_59, li_60, li_96, li_97, li_99, li_100, li_102, li_103, li_104, li_112, li_115, li_116, li_118, li_119, li_121, li_124, li_132, li_255, li_256, li_1000, li_2000, li_1000000000, iI_add, iI_sub, iI_mul, iI_neg, iI_lt, iI_le, iI_eq, iI_clamp, iI_s, iI_m1, iI_div, bs, tn, tn4, tn12, tn20, tn124, tn28, itT, itF, if_pos, if_neg, f_X7_fewest, e1, bse]) (fun S1 q1 q2 => by
      have g1 := rThing (S := S1) (by rw [q1]; exact m0) hN8 x1 x2
      simp (disch := omega) only [li_0, li_1, li_2, li_3, li_4, li_5, li_6, li_7, li_8, li_9, li_10, li_11, li_12, li_16, li_19, li_20, li_28, li_48, li_57, li_59, li_60, li_96, li_97, li_99, li_100, li_102, li_103, li_104, li_112, li_115, li_116, li_118, li_119, li_121, li_124, li_132, li_255, li_256, li_1000, li_2000, li_1000000000, iI_add, iI_sub, iI_mul, iI_neg, iI_lt, iI_le, iI_eq, iI_clamp, iI_s, iI_m1, iI_div, bs, tn, tn4, tn12, tn20, tn124, tn28, itT, itF, if_pos, if_neg, f_X8_fewest, g1, bse])
-- ===== calls of all things =====
theorem e_gladness {S : St} (hS : Inv S)  : ∃ (z1 : Int32) (z2 : Int32), f_X7_gladness S = some z1 ∧ f_X8_gladness S = some z2 ∧ z1 = z2 ∧ Inv S := by
  obtain ⟨⟨a, hw, hc, hm0⟩, -⟩ := id hS
  have hm : ∀ k, k < 132 → S.1 75 k = iI (a k) := hm0
  have h8 := hw.1
  have w1 := hw.2.1
  have w2 := hw.2.2.1
  have w3 := hw.2.2.2.1
  obtain ⟨now, hnow⟩ : ∃ n : Nat, a 1 = n := ⟨(a 1).toNat, by omega⟩
  obtain ⟨N, hN⟩ : ∃ n : Nat, a 0 = n := ⟨(a 0).toNat, by omega⟩
  have hn : now ≤ 11 := by omega
  have hN8 : N ≤ 8 := by omega
  have p1 : S.1 1 1 = iI now := by rw [hc.1 1 (by omega), hnow]
  have p0 : S.1 1 0 = iI N := by rw [hc.1 0 (by omega), hN]
  have m0 : S.1 75 0 = iI N := by rw [hm 0 (by omega), hN]
  have m1 : S.1 75 1 = iI now := by rw [hm 1 (by omega), hnow]
  have e1 := cAll hc hw hN hn
  have g1 := rAll hm (fun j hj => hw.t (by omega)) hN hN8 hn hnow
  exact ⟨iI (sAll a N now), iI (sAll a N now), by simp (disch := omega) only [li_0, li_1, li_2, li_3, li_4, li_5, li_6, li_7, li_8, li_9, li_10, li_11, li_12, li_16, li_19, li_20, li_28, li_48, li_57, li_59, li_60, li_96, li_97, li_99, li_100, li_102, li_103, li_104, li_112, li_115, li_116, li_118, li_119, li_121, li_124, li_132, li_255, li_256, li_1000, li_2000, li_1000000000, iI_add, iI_sub, iI_mul, iI_neg, iI_lt, iI_le, iI_eq, iI_clamp, iI_s, iI_m1, iI_div, bs, tn, tn4, tn12, tn20, tn124, tn28, itT, itF, if_pos, if_neg, f_X7_gladness, p1, e1], by simp (disch := omega) only [li_0, li_1, li_2, li_3, li_4, li_5, li_6, li_7, li_8, li_9, li_10, li_11, li_12, li_16, li_19, li_20, li_28, li_48, li_57, li_59, li_60, li_96, li_97, li_99, li_100, li_102, li_103, li_104, li_112, li_115, li_116, li_118, li_119, li_121, li_124, li_132, li_255, li_256, li_1000, li_2000, li_1000000000, iI_add, iI_sub, iI_mul, iI_neg, iI_lt, iI_le, iI_eq, iI_clamp, iI_s, iI_m1, iI_div, bs, tn, tn4, tn12, tn20, tn124, tn28, itT, itF, if_pos, if_neg, f_X8_gladness, g1], rfl, hS⟩
theorem sG_st1 (a : Nat → Int) (v : Int) (j y : Nat) : sG (st a 1 v) j y = sG a j y := st_n (by omega)
theorem sHow_st1 (a : Nat → Int) (v : Int) (j now : Nat) : sHow (st a 1 v) j now = sHow a j now := by
  unfold sHow
  rw [st_n (by omega), sG_st1, sG_st1]
theorem sAll_st1 (a : Nat → Int) (v : Int) (N now : Nat) : sAll (st a 1 v) N now = sAll a N now := by
  unfold sAll
  congr 1
  funext j
  exact sHow_st1 a v j now
theorem e_oneMore {S : St} (hS : Inv S)  : ∃ (z1 : Int32) (z2 : Int32 × St), f_X7_oneMore S = some z1 ∧ f_X8_oneMore S = some z2 ∧ z1 = z2.1 ∧ Inv z2.2 := by
  obtain ⟨⟨a, hw, hc, hm0⟩, -⟩ := id hS
  have hm : ∀ k, k < 132 → S.1 75 k = iI (a k) := hm0
  have h8 := hw.1
  have w1 := hw.2.1
  have w2 := hw.2.2.1
  have w3 := hw.2.2.2.1
  obtain ⟨now, hnow⟩ : ∃ n : Nat, a 1 = n := ⟨(a 1).toNat, by omega⟩
  obtain ⟨N, hN⟩ : ∃ n : Nat, a 0 = n := ⟨(a 0).toNat, by omega⟩
  have hn : now ≤ 11 := by omega
  have hN8 : N ≤ 8 := by omega
  have p1 : S.1 1 1 = iI now := by rw [hc.1 1 (by omega), hnow]
  have p0 : S.1 1 0 = iI N := by rw [hc.1 0 (by omega), hN]
  have m0 : S.1 75 0 = iI N := by rw [hm 0 (by omega), hN]
  have m1 : S.1 75 1 = iI now := by rw [hm 1 (by omega), hnow]
  obtain ⟨nx, hnx⟩ : ∃ nx : Nat, nx = if 11 < now + 1 then 11 else now + 1 := ⟨_, rfl⟩
  have hx : nx ≤ 11 := by rw [hnx]; split <;> omega
  have e0 : (if (11 : Int32) < (iI now + 1) then 11 else iI now + 1) = iI nx := by
    rw [hnx]
    by_cases c : 11 < now + 1
    · simp (disch := omega) only [li_0, li_1, li_2, li_3, li_4, li_5, li_6, li_7, li_8, li_9, li_10, li_11, li_12, li_16, li_19, li_20, li_28, li_48, li_57, li_59, li_60, li_96, li_97, li_99, li_100, li_102, li_103, li_104, li_112, li_115, li_116, li_118, li_119, li_121, li_124, li_132, li_255, li_256, li_1000, li_2000, li_1000000000, iI_add, iI_sub, iI_mul, iI_neg, iI_lt, iI_le, iI_eq, iI_clamp, iI_s, iI_m1, iI_div, bs, tn, tn4, tn12, tn20, tn124, tn28, itT, itF, if_pos, if_neg]
      rfl
    · simp (disch := omega) only [li_0, li_1, li_2, li_3, li_4, li_5, li_6, li_7, li_8, li_9, li_10, li_11, li_12, li_16, li_19, li_20, li_28, li_48, li_57, li_59, li_60, li_96, li_97, li_99, li_100, li_102, li_103, li_104, li_112, li_115, li_116, li_118, li_119, li_121, li_124, li_132, li_255, li_256, li_1000, li_2000, li_1000000000, iI_add, iI_sub, iI_mul, iI_neg, iI_lt, iI_le, iI_eq, iI_clamp, iI_s, iI_m1, iI_div, bs, tn, tn4, tn12, tn20, tn124, tn28, itT, itF, if_pos, if_neg]
  have e1 := cAll hc hw hN hx
  obtain ⟨S1, d1, d2, d3⟩ := rLays (q0 := 75) (q1 := 76) (by omega) S
  have f0 : f_X8_least 11 (iI now + 1) = some (iI nx) := by
    rw [hnx]
    by_cases c : 11 < now + 1
    · simp (disch := omega) only [li_0, li_1, li_2, li_3, li_4, li_5, li_6, li_7, li_8, li_9, li_10, li_11, li_12, li_16, li_19, li_20, li_28, li_48, li_57, li_59, li_60, li_96, li_97, li_99, li_100, li_102, li_103, li_104, li_112, li_115, li_116, li_118, li_119, li_121, li_124, li_132, li_255, li_256, li_1000, li_2000, li_1000000000, iI_add, iI_sub, iI_mul, iI_neg, iI_lt, iI_le, iI_eq, iI_clamp, iI_s, iI_m1, iI_div, bs, tn, tn4, tn12, tn20, tn124, tn28, itT, itF, if_pos, if_neg, f_X8_least]
      rfl
    · simp (disch := omega) only [li_0, li_1, li_2, li_3, li_4, li_5, li_6, li_7, li_8, li_9, li_10, li_11, li_12, li_16, li_19, li_20, li_28, li_48, li_57, li_59, li_60, li_96, li_97, li_99, li_100, li_102, li_103, li_104, li_112, li_115, li_116, li_118, li_119, li_121, li_124, li_132, li_255, li_256, li_1000, li_2000, li_1000000000, iI_add, iI_sub, iI_mul, iI_neg, iI_lt, iI_le, iI_eq, iI_clamp, iI_s, iI_m1, iI_div, bs, tn, tn4, tn12, tn20, tn124, tn28, itT, itF, if_pos, if_neg, f_X8_least]
  have f1 : S1.1 75 1 = iI now := by rw [d2 _ _ (by omega)]; exact m1
  have hm6 : RM S1 76 a := fun k hk => by rw [d3 k hk]; exact hm k hk
  have hm7 : RM (up S1 76 1 (iI nx)) 76 (st a 1 nx) := hm6.st 1 nx
  have hw7 : WFa (st a 1 nx) := hw.st0 (by omega)
  have g1 := rAll hm7 (N := N) (fun j hj => hw7.t (by omega)) (by rw [st_n (by omega)]; exact hN) hN8 hx (st_s _ _ _)
  rw [sAll_st1] at g1
  refine ⟨iI (sAll a N nx), (iI (sAll a N nx), up S1 76 1 (iI nx)), ?_, ?_, rfl, ?_⟩
  · rw [f_X7_oneMore, p1, e0, e1]
    rfl
  · rw [f_X8_oneMore, d1, bs, f1, f0, bs, g1]
    rfl
  · refine hS.sm (fun i k h => ?_)
    unfold scr at h
    rw [up_n (by omega), d2 _ _ (by omega)]
def sBW (f : Nat → Int) : Nat → Int × Int
  | 0 => (-9, 0)
  | x + 1 => if (sBW f x).2 < f x then ((x : Int), f x) else sBW f x
theorem sBW_b (f : Nat → Int) : ∀ x, (∀ y, y < x → f y ≤ 99) → 0 ≤ (sBW f x).2 ∧ (sBW f x).2 ≤ 99 := by
  intro x
  induction x with
  | zero => intro _; exact ⟨Int.le_refl _, by show (0 : Int) ≤ 99; omega⟩
  | succ x ih =>
    intro h
    have h1 := ih (fun y hy => h y (by omega))
    have h2 := h x (by omega)
    rw [sBW]
    split
    · show 0 ≤ f x ∧ f x ≤ 99
      omega
    · exact h1
theorem cBWL {S : St} {a : Nat → Int} {N now : Nat} (hc : RC S 1 a) (hw : WFa a) (hN : a 0 = N) (hn : now ≤ 11) (p1 : S.1 1 1 = iI now) {k : Int32 → Option Int32} :
    ∀ d n x : Nat, x + d = N → d < n → f_X7_bestWash_L7 n (iI (sBW (fun j => sWash a j now) x).1) (iI (sBW (fun j => sWash a j now) x).2) (iI x) S k = k (iI (sBW (fun j => sWash a j now) N).1) := by
  have h8 := hw.1
  have e0 : S.1 1 0 = iI N := by rw [hc.1 0 (by omega), hN]
  intro d
  induction d with
  | zero =>
    intro n x hx hd
    obtain ⟨n, rfl⟩ : ∃ p, n = p + 1 := ⟨n - 1, by omega⟩
    obtain rfl : x = N := by omega
    rw [f_X7_bestWash_L7]
    simp (disch := omega) only [li_0, li_1, li_2, li_3, li_4, li_5, li_6, li_7, li_8, li_9, li_10, li_11, li_12, li_16, li_19, li_20, li_28, li_48, li_57, li_59, li_60, li_96, li_97, li_99, li_100, li_102, li_103, li_104, li_112, li_115, li_116, li_118, li_119, li_121, li_124, li_132, li_255, li_256, li_1000, li_2000, li_1000000000, iI_add, iI_sub, iI_mul, iI_neg, iI_lt, iI_le, iI_eq, iI_clamp, iI_s, iI_m1, iI_div, bs, tn, tn4, tn12, tn20, tn124, tn28, itT, itF, if_pos, if_neg, e0]
  | succ d ih =>
    intro n x hx hd
    obtain ⟨n, rfl⟩ : ∃ p, n = p + 1 := ⟨n - 1, by omega⟩
    have i1 := ih n (x + 1) (by omega) (by omega)
    have e1 := cAt (S := S) (q := 1) (j := x) (by omega)
    have e2 := cMore (hc.t (j := x) (by omega) (by omega)) (hw.t (by omega)) hn
    have b1 := sWash_b (hw.t (j := x) (by omega)) hn
    have b2 := sBW_b (fun j => sWash a j now) x (fun y hy => (sWash_b (hw.t (j := y) (by omega)) hn).2)
    rw [sBW] at i1
    rw [f_X7_bestWash_L7]
    by_cases c : (sBW (fun j => sWash a j now) x).2 < sWash a x now
    · rw [if_pos c] at i1
      simp (disch := omega) only [li_0, li_1, li_2, li_3, li_4, li_5, li_6, li_7, li_8, li_9, li_10, li_11, li_12, li_16, li_19, li_20, li_28, li_48, li_57, li_59, li_60, li_96, li_97, li_99, li_100, li_102, li_103, li_104, li_112, li_115, li_116, li_118, li_119, li_121, li_124, li_132, li_255, li_256, li_1000, li_2000, li_1000000000, iI_add, iI_sub, iI_mul, iI_neg, iI_lt, iI_le, iI_eq, iI_clamp, iI_s, iI_m1, iI_div, bs, tn, tn4, tn12, tn20, tn124, tn28, itT, itF, if_pos, if_neg, e0, e1, p1, e2, i1]
    · rw [if_neg c] at i1
      simp (disch := omega) only [li_0, li_1, li_2, li_3, li_4, li_5, li_6, li_7, li_8, li_9, li_10, li_11, li_12, li_16, li_19, li_20, li_28, li_48, li_57, li_59, li_60, li_96, li_97, li_99, li_100, li_102, li_103, li_104, li_112, li_115, li_116, li_118, li_119, li_121, li_124, li_132, li_255, li_256, li_1000, li_2000, li_1000000000, iI_add, iI_sub, iI_mul, iI_neg, iI_lt, iI_le, iI_eq, iI_clamp, iI_s, iI_m1, iI_div, bs, tn, tn4, tn12, tn20, tn124, tn28, itT, itF, if_pos, if_neg, e0, e1, p1, e2, i1]
theorem rBWL {S : St} {a : Nat → Int} {N now : Nat} (hm : ∀ k, k < 132 → S.1 75 k = iI (a k)) (hw : WFa a) (hN : a 0 = N) (hn : now ≤ 11) (hn1 : a 1 = now) {k : Int32 → Option Int32} :
    ∀ d n x : Nat, x + d = N → d < n → f_X8_bestWash_L7 n (iI (sBW (fun j => sWash a j now) x).1) (iI (sBW (fun j => sWash a j now) x).2) (iI x) S k = k (iI (sBW (fun j => sWash a j now) N).1) := by
  have h8 := hw.1
  have e0 : S.1 75 0 = iI N := by rw [hm 0 (by omega), hN]
  intro d
  induction d with
  | zero =>
    intro n x hx hd
    obtain ⟨n, rfl⟩ : ∃ p, n = p + 1 := ⟨n - 1, by omega⟩
    obtain rfl : x = N := by omega
    rw [f_X8_bestWash_L7]
    simp (disch := omega) only [li_0, li_1, li_2, li_3, li_4, li_5, li_6, li_7, li_8, li_9, li_10, li_11, li_12, li_16, li_19, li_20, li_28, li_48, li_57, li_59, li_60, li_96, li_97, li_99, li_100, li_102, li_103, li_104, li_112, li_115, li_116, li_118, li_119, li_121, li_124, li_132, li_255, li_256, li_1000, li_2000, li_1000000000, iI_add, iI_sub, iI_mul, iI_neg, iI_lt, iI_le, iI_eq, iI_clamp, iI_s, iI_m1, iI_div, bs, tn, tn4, tn12, tn20, tn124, tn28, itT, itF, if_pos, if_neg, e0]
  | succ d ih =>
    intro n x hx hd
    obtain ⟨n, rfl⟩ : ∃ p, n = p + 1 := ⟨n - 1, by omega⟩
    have i1 := ih n (x + 1) (by omega) (by omega)
    have e2 := rWater hm (j := x) (by omega) (hw.t (by omega)) hn hn1
    have b1 := sWash_b (hw.t (j := x) (by omega)) hn
    have b2 := sBW_b (fun j => sWash a j now) x (fun y hy => (sWash_b (hw.t (j := y) (by omega)) hn).2)
    rw [sBW] at i1
    rw [f_X8_bestWash_L7]
    by_cases c : (sBW (fun j => sWash a j now) x).2 < sWash a x now
    · rw [if_pos c] at i1
      simp (disch := omega) only [li_0, li_1, li_2, li_3, li_4, li_5, li_6, li_7, li_8, li_9, li_10, li_11, li_12, li_16, li_19, li_20, li_28, li_48, li_57, li_59, li_60, li_96, li_97, li_99, li_100, li_102, li_103, li_104, li_112, li_115, li_116, li_118, li_119, li_121, li_124, li_132, li_255, li_256, li_1000, li_2000, li_1000000000, iI_add, iI_sub, iI_mul, iI_neg, iI_lt, iI_le, iI_eq, iI_clamp, iI_s, iI_m1, iI_div, bs, tn, tn4, tn12, tn20, tn124, tn28, itT, itF, if_pos, if_neg, e0, e2, i1]
    · rw [if_neg c] at i1
      simp (disch := omega) only [li_0, li_1, li_2, li_3, li_4, li_5, li_6, li_7, li_8, li_9, li_10, li_11, li_12, li_16, li_19, li_20, li_28, li_48, li_57, li_59, li_60, li_96, li_97, li_99, li_100, li_102, li_103, li_104, li_112, li_115, li_116, li_118, li_119, li_121, li_124, li_132, li_255, li_256, li_1000, li_2000, li_1000000000, iI_add, iI_sub, iI_mul, iI_neg, iI_lt, iI_le, iI_eq, iI_clamp, iI_s, iI_m1, iI_div, bs, tn, tn4, tn12, tn20, tn124, tn28, itT, itF, if_pos, if_neg, e0, e2, i1]
theorem e_bestWash {S : St} (hS : Inv S)  : ∃ (z1 : Int32) (z2 : Int32), f_X7_bestWash S = some z1 ∧ f_X8_bestWash S = some z2 ∧ z1 = z2 ∧ Inv S := by
  obtain ⟨⟨a, hw, hc, hm0⟩, -⟩ := id hS
  have hm : ∀ k, k < 132 → S.1 75 k = iI (a k) := hm0
  have h8 := hw.1
  have w1 := hw.2.1
  have w2 := hw.2.2.1
  have w3 := hw.2.2.2.1
  obtain ⟨now, hnow⟩ : ∃ n : Nat, a 1 = n := ⟨(a 1).toNat, by omega⟩
  obtain ⟨N, hN⟩ : ∃ n : Nat, a 0 = n := ⟨(a 0).toNat, by omega⟩
  have hn : now ≤ 11 := by omega
  have hN8 : N ≤ 8 := by omega
  have p1 : S.1 1 1 = iI now := by rw [hc.1 1 (by omega), hnow]
  have p0 : S.1 1 0 = iI N := by rw [hc.1 0 (by omega), hN]
  have m0 : S.1 75 0 = iI N := by rw [hm 0 (by omega), hN]
  have m1 : S.1 75 1 = iI now := by rw [hm 1 (by omega), hnow]
  have e1 : f_X7_bestWash_L7 2000 (iI (-9)) (iI 0) (iI 0) S (fun y => some y) = some (iI (sBW (fun j => sWash a j now) N).1) := cBWL hc hw hN hn p1 N 2000 0 (by omega) (by omega)
  have g1 : f_X8_bestWash_L7 2000 (iI (-9)) (iI 0) (iI 0) S (fun y => some y) = some (iI (sBW (fun j => sWash a j now) N).1) := rBWL hm hw hN hn hnow N 2000 0 (by omega) (by omega)
  exact ⟨_, _, by simp (disch := omega) only [li_0, li_1, li_2, li_3, li_4, li_5, li_6, li_7, li_8, li_9, li_10, li_11, li_12, li_16, li_19, li_20, li_28, li_48, li_57, li_59, li_60, li_96, li_97, li_99, li_100, li_102, li_103, li_104, li_112, li_115, li_116, li_118, li_119, li_121, li_124, li_132, li_255, li_256, li_1000, li_2000, li_1000000000, iI_add, iI_sub, iI_mul, iI_neg, iI_lt, iI_le, iI_eq, iI_clamp, iI_s, iI_m1, iI_div, bs, tn, tn4, tn12, tn20, tn124, tn28, itT, itF, if_pos, if_neg, f_X7_bestWash, e1]; rfl, by simp (disch := omega) only [li_0, li_1, li_2, li_3, li_4, li_5, li_6, li_7, li_8, li_9, li_10, li_11, li_12, li_16, li_19, li_20, li_28, li_48, li_57, li_59, li_60, li_96, li_97, li_99, li_100, li_102, li_103, li_104, li_112, li_115, li_116, li_118, li_119, li_121, li_124, li_132, li_255, li_256, li_1000, li_2000, li_1000000000, iI_add, iI_sub, iI_mul, iI_neg, iI_lt, iI_le, iI_eq, iI_clamp, iI_s, iI_m1, iI_div, bs, tn, tn4, tn12, tn20, tn124, tn28, itT, itF, if_pos, if_neg, f_X8_bestWash, g1], rfl, hS⟩
def sSour (f : Nat → Int) : Nat → Int32
  | 0 => iI 0
  | x + 1 => if f x ≤ 0 then sSour f x else sSour f x ||| (iI 1 <<< (iI (x : Int) &&& 31))
theorem cSourL {S : St} {a : Nat → Int} {N now : Nat} (hc : RC S 1 a) (hw : WFa a) (hN : a 0 = N) (hn : now ≤ 11) (p1 : S.1 1 1 = iI now) {k : Int32 → Option Int32} :
    ∀ d n x : Nat, x + d = N → d < n → f_X7_sour_L4 n (sSour (fun j => sWash a j now) x) (iI x) S k = k (sSour (fun j => sWash a j now) N) := by
  have h8 := hw.1
  have e0 : S.1 1 0 = iI N := by rw [hc.1 0 (by omega), hN]
  intro d
  induction d with
  | zero =>
    intro n x hx hd
    obtain ⟨n, rfl⟩ : ∃ p, n = p + 1 := ⟨n - 1, by omega⟩
    obtain rfl : x = N := by omega
    rw [f_X7_sour_L4]
    simp (disch := omega) only [li_0, li_1, li_2, li_3, li_4, li_5, li_6, li_7, li_8, li_9, li_10, li_11, li_12, li_16, li_19, li_20, li_28, li_48, li_57, li_59, li_60, li_96, li_97, li_99, li_100, li_102, li_103, li_104, li_112, li_115, li_116, li_118, li_119, li_121, li_124, li_132, li_255, li_256, li_1000, li_2000, li_1000000000, iI_add, iI_sub, iI_mul, iI_neg, iI_lt, iI_le, iI_eq, iI_clamp, iI_s, iI_m1, iI_div, bs, tn, tn4, tn12, tn20, tn124, tn28, itT, itF, if_pos, if_neg, e0]
  | succ d ih =>
    intro n x hx hd
    obtain ⟨n, rfl⟩ : ∃ p, n = p + 1 := ⟨n - 1, by omega⟩
    have i1 := ih n (x + 1) (by omega) (by omega)
    have e1 := cAt (S := S) (q := 1) (j := x) (by omega)
    have e2 := cMore (hc.t (j := x) (by omega) (by omega)) (hw.t (by omega)) hn
    have b1 := sWash_b (hw.t (j := x) (by omega)) hn
    rw [sSour] at i1
    rw [f_X7_sour_L4]
    by_cases c : sWash a x now ≤ 0
    · rw [if_pos c] at i1
      simp (disch := omega) only [li_0, li_1, li_2, li_3, li_4, li_5, li_6, li_7, li_8, li_9, li_10, li_11, li_12, li_16, li_19, li_20, li_28, li_48, li_57, li_59, li_60, li_96, li_97, li_99, li_100, li_102, li_103, li_104, li_112, li_115, li_116, li_118, li_119, li_121, li_124, li_132, li_255, li_256, li_1000, li_2000, li_1000000000, iI_add, iI_sub, iI_mul, iI_neg, iI_lt, iI_le, iI_eq, iI_clamp, iI_s, iI_m1, iI_div, bs, tn, tn4, tn12, tn20, tn124, tn28, itT, itF, if_pos, if_neg, e0, e1, p1, e2, i1]
    · rw [if_neg c] at i1
      simp (disch := omega) only [li_0, li_1, li_2, li_3, li_4, li_5, li_6, li_7, li_8, li_9, li_10, li_11, li_12, li_16, li_19, li_20, li_28, li_48, li_57, li_59, li_60, li_96, li_97, li_99, li_100, li_102, li_103, li_104, li_112, li_115, li_116, li_118, li_119, li_121, li_124, li_132, li_255, li_256, li_1000, li_2000, li_1000000000, iI_add, iI_sub, iI_mul, iI_neg, iI_lt, iI_le, iI_eq, iI_clamp, iI_s, iI_m1, iI_div, bs, tn, tn4, tn12, tn20, tn124, tn28, itT, itF, if_pos, if_neg, e0, e1, p1, e2, i1]
theorem rSourL {S : St} {a : Nat → Int} {N now : Nat} (hm : ∀ k, k < 132 → S.1 75 k = iI (a k)) (hw : WFa a) (hN : a 0 = N) (hn : now ≤ 11) (hn1 : a 1 = now) {k : Int32 → Option Int32} :
    ∀ d n x : Nat, x + d = N → d < n → f_X8_sour_L4 n (sSour (fun j => sWash a j now) x) (iI x) S k = k (sSour (fun j => sWash a j now) N) := by
  have h8 := hw.1
  have e0 : S.1 75 0 = iI N := by rw [hm 0 (by omega), hN]
  intro d
  induction d with
  | zero =>
    intro n x hx hd
    obtain ⟨n, rfl⟩ : ∃ p, n = p + 1 := ⟨n - 1, by omega⟩
    obtain rfl : x = N := by omega
    rw [f_X8_sour_L4]
    simp (disch := omega) only [li_0, li_1, li_2, li_3, li_4, li_5, li_6, li_7, li_8, li_9, li_10, li_11, li_12, li_16, li_19, li_20, li_28, li_48, li_57, li_59, li_60, li_96, li_97, li_99, li_100, li_102, li_103, li_104, li_112, li_115, li_116, li_118, li_119, li_121, li_124, li_132, li_255, li_256, li_1000, li_2000, li_1000000000, iI_add, iI_sub, iI_mul, iI_neg, iI_lt, iI_le, iI_eq, iI_clamp, iI_s, iI_m1, iI_div, bs, tn, tn4, tn12, tn20, tn124, tn28, itT, itF, if_pos, if_neg, e0]
  | succ d ih =>
    intro n x hx hd
    obtain ⟨n, rfl⟩ : ∃ p, n = p + 1 := ⟨n - 1, by omega⟩
    have i1 := ih n (x + 1) (by omega) (by omega)
    have e2 := rWater hm (j := x) (by omega) (hw.t (by omega)) hn hn1
    have b1 := sWash_b (hw.t (j := x) (by omega)) hn
    rw [sSour] at i1
    rw [f_X8_sour_L4]
    by_cases c : sWash a x now ≤ 0
    · rw [if_pos c] at i1
      simp (disch := omega) only [li_0, li_1, li_2, li_3, li_4, li_5, li_6, li_7, li_8, li_9, li_10, li_11, li_12, li_16, li_19, li_20, li_28, li_48, li_57, li_59, li_60, li_96, li_97, li_99, li_100, li_102, li_103, li_104, li_112, li_115, li_116, li_118, li_119, li_121, li_124, li_132, li_255, li_256, li_1000, li_2000, li_1000000000, iI_add, iI_sub, iI_mul, iI_neg, iI_lt, iI_le, iI_eq, iI_clamp, iI_s, iI_m1, iI_div, bs, tn, tn4, tn12, tn20, tn124, tn28, itT, itF, if_pos, if_neg, e0, e2, iI_or0, i1]
    · rw [if_neg c] at i1
      simp (disch := omega) only [li_0, li_1, li_2, li_3, li_4, li_5, li_6, li_7, li_8, li_9, li_10, li_11, li_12, li_16, li_19, li_20, li_28, li_48, li_57, li_59, li_60, li_96, li_97, li_99, li_100, li_102, li_103, li_104, li_112, li_115, li_116, li_118, li_119, li_121, li_124, li_132, li_255, li_256, li_1000, li_2000, li_1000000000, iI_add, iI_sub, iI_mul, iI_neg, iI_lt, iI_le, iI_eq, iI_clamp, iI_s, iI_m1, iI_div, bs, tn, tn4, tn12, tn20, tn124, tn28, itT, itF, if_pos, if_neg, e0, e2, i1]
theorem e_sour {S : St} (hS : Inv S)  : ∃ (z1 : Int32) (z2 : Int32), f_X7_sour S = some z1 ∧ f_X8_sour S = some z2 ∧ z1 = z2 ∧ Inv S := by
  obtain ⟨⟨a, hw, hc, hm0⟩, -⟩ := id hS
  have hm : ∀ k, k < 132 → S.1 75 k = iI (a k) := hm0
  have h8 := hw.1
  have w1 := hw.2.1
  have w2 := hw.2.2.1
  have w3 := hw.2.2.2.1
  obtain ⟨now, hnow⟩ : ∃ n : Nat, a 1 = n := ⟨(a 1).toNat, by omega⟩
  obtain ⟨N, hN⟩ : ∃ n : Nat, a 0 = n := ⟨(a 0).toNat, by omega⟩
  have hn : now ≤ 11 := by omega
  have hN8 : N ≤ 8 := by omega
  have p1 : S.1 1 1 = iI now := by rw [hc.1 1 (by omega), hnow]
  have p0 : S.1 1 0 = iI N := by rw [hc.1 0 (by omega), hN]
  have m0 : S.1 75 0 = iI N := by rw [hm 0 (by omega), hN]
  have m1 : S.1 75 1 = iI now := by rw [hm 1 (by omega), hnow]
  have e1 : f_X7_sour_L4 2000 (iI 0) (iI 0) S (fun y => some y) = some (sSour (fun j => sWash a j now) N) := cSourL hc hw hN hn p1 N 2000 0 (by omega) (by omega)
  have g1 : f_X8_sour_L4 2000 (iI 0) (iI 0) S (fun y => some y) = some (sSour (fun j => sWash a j now) N) := rSourL hm hw hN hn hnow N 2000 0 (by omega) (by omega)
  exact ⟨_, _, by simp (disch := omega) only [li_0, li_1, li_2, li_3, li_4, li_5, li_6, li_7, li_8, li_9, li_10, li_11, li_12, li_16, li_19, li_20, li_28, li_48, li_57, li_59, li_60, li_96, li_97, li_99, li_100, li_102, li_103, li_104, li_112, li_115, li_116, li_118, li_119, li_121, li_124, li_132, li_255, li_256, li_1000, li_2000, li_1000000000, iI_add, iI_sub, iI_mul, iI_neg, iI_lt, iI_le, iI_eq, iI_clamp, iI_s, iI_m1, iI_div, bs, tn, tn4, tn12, tn20, tn124, tn28, itT, itF, if_pos, if_neg, f_X7_sour, e1]; rfl, by simp (disch := omega) only [li_0, li_1, li_2, li_3, li_4, li_5, li_6, li_7, li_8, li_9, li_10, li_11, li_12, li_16, li_19, li_20, li_28, li_48, li_57, li_59, li_60, li_96, li_97, li_99, li_100, li_102, li_103, li_104, li_112, li_115, li_116, li_118, li_119, li_121, li_124, li_132, li_255, li_256, li_1000, li_2000, li_1000000000, iI_add, iI_sub, iI_mul, iI_neg, iI_lt, iI_le, iI_eq, iI_clamp, iI_s, iI_m1, iI_div, bs, tn, tn4, tn12, tn20, tn124, tn28, itT, itF, if_pos, if_neg, f_X8_sour, g1], rfl, hS⟩
