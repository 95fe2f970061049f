-- ===== mended =====
def mdP (a : Nat → Int) (j now y : Nat) (m : Int) (v : Nat) : Bool := decide (sY (st a (28 + 12 * j + y) (v : Int)) j now m 0 = y)
theorem cMdL {S : St} {a : Nat → Int} {j now y : Nat} (hw : WFa a) (hj : j < 8) (hn : now ≤ 11) (hy : y < 12) {m : Int} (h1 : 0 ≤ m ∧ m ≤ 99) (p1 : S.1 1 1 = iI now) {k : Int32 → St → Option (Int32 × St)} {k9 : St → Option (Int32 × St)} :
    ∀ d n v : Nat, ∀ S' : St, v + d = 100 → d < n → (∀ i k, i ≠ 59 → S'.1 i k = S.1 i k) → (S'.1 58 0 = iI (a (4 + j)) ∧ S'.1 58 1 = iI (a (12 + j)) ∧ S'.1 58 2 = iI (a (20 + j)) ∧ ∀ u, u < 12 → u ≠ y → S'.1 59 u = iI (a (28 + 12 * j + u))) →
    ∃ S'', (∀ i k, i ≠ 59 → S''.1 i k = S.1 i k) ∧ f_X7_mended_L63 n (iI y) (iI m) (iI v) S' k k9 = if sFst (mdP a j now y m) d v < 0 then k9 S'' else k (iI (sFst (mdP a j now y m) d v)) S'' := by
  intro d
  induction d with
  | zero =>
    intro n v S' hx hd q1 q2
    obtain ⟨n, rfl⟩ : ∃ p, n = p + 1 := ⟨n - 1, by omega⟩
    refine ⟨S', q1, ?_⟩
    rw [f_X7_mended_L63, sFst]
    simp (disch := omega) only [li_0, li_1, li_2, li_3, li_4, li_5, li_6, li_7, li_8, li_9, li_10, li_11, li_12, li_16, li_19, li_20, li_28, li_48, li_57, li_59, li_60, li_96, li_97, li_99, li_100, li_102, li_103, li_104, li_112, li_115, li_116, li_118, li_119, li_121, li_124, li_132, li_255, li_256, li_1000, li_2000, li_1000000000, iI_add, iI_sub, iI_mul, iI_neg, iI_lt, iI_le, iI_eq, iI_clamp, iI_s, iI_m1, iI_div, bs, tn, tn4, tn12, tn20, tn124, tn28, itT, itF, if_pos, if_neg]
  | succ d ih =>
    intro n v S' hx hd q1 q2
    obtain ⟨n, rfl⟩ : ∃ p, n = p + 1 := ⟨n - 1, by omega⟩
    have hw2 : WFa (st a (28 + 12 * j + y) (v : Int)) := hw.stg hj hy (by omega)
    have ht : RT (up S' 59 y (iI v)) 58 (st a (28 + 12 * j + y) (v : Int)) j := by
      refine ⟨?_, ?_, ?_, fun u hu => ?_⟩
      · rw [up_ne (by omega), st_n (by omega)]; exact q2.1
      · rw [up_ne (by omega), st_n (by omega)]; exact q2.2.1
      · rw [up_ne (by omega), st_n (by omega)]; exact q2.2.2.1
      · by_cases e : u = y
        · rw [e, up_s, st_s]
        · rw [up_n (Or.inr e), st_n (by omega)]; exact q2.2.2.2 u hu e
    have e1 := cY ht (hw2.t hj) hn (m := m) (f := 0) (by omega) (by omega)
    have yb := sY_le (st a (28 + 12 * j + y) (v : Int)) j now m 0
    have e2 : (up S' 59 y (iI v)).1 1 1 = iI now := by rw [up_ne (by omega), q1 _ _ (by omega)]; exact p1
    have e3 : f_X6_makeGlad 58 (iI y) (iI v) S' = some (up S' 59 y (iI v)) := by simp (disch := omega) only [li_0, li_1, li_2, li_3, li_4, li_5, li_6, li_7, li_8, li_9, li_10, li_11, li_12, li_16, li_19, li_20, li_28, li_48, li_57, li_59, li_60, li_96, li_97, li_99, li_100, li_102, li_103, li_104, li_112, li_115, li_116, li_118, li_119, li_121, li_124, li_132, li_255, li_256, li_1000, li_2000, li_1000000000, iI_add, iI_sub, iI_mul, iI_neg, iI_lt, iI_le, iI_eq, iI_clamp, iI_s, iI_m1, iI_div, bs, tn, tn4, tn12, tn20, tn124, tn28, itT, itF, if_pos, if_neg, f_X6_makeGlad]
    obtain ⟨S'', g1, g2⟩ := ih n (v + 1) (up S' 59 y (iI v)) (by omega) (by omega) (fun i k hi => by rw [up_ne hi]; exact q1 i k hi) (by
      refine ⟨?_, ?_, ?_, fun u hu e => ?_⟩
      · rw [up_ne (by omega)]; exact q2.1
      · rw [up_ne (by omega)]; exact q2.2.1
      · rw [up_ne (by omega)]; exact q2.2.2.1
      · rw [up_n (Or.inr e)]; exact q2.2.2.2 u hu e)
    have e5 : sFst (mdP a j now y m) (d + 1) v = if decide (sY (st a (28 + 12 * j + y) (v : Int)) j now m 0 = y) = true then (v : Int) else sFst (mdP a j now y m) d (v + 1) := rfl
    by_cases c : sY (st a (28 + 12 * j + y) (v : Int)) j now m 0 = y
    · refine ⟨up S' 59 y (iI v), fun i k hi => by rw [up_ne hi]; exact q1 i k hi, ?_⟩
      rw [f_X7_mended_L63, e5]
      simp (disch := omega) only [li_0, li_1, li_2, li_3, li_4, li_5, li_6, li_7, li_8, li_9, li_10, li_11, li_12, li_16, li_19, li_20, li_28, li_48, li_57, li_59, li_60, li_96, li_97, li_99, li_100, li_102, li_103, li_104, li_112, li_115, li_116, li_118, li_119, li_121, li_124, li_132, li_255, li_256, li_1000, li_2000, li_1000000000, iI_add, iI_sub, iI_mul, iI_neg, iI_lt, iI_le, iI_eq, iI_clamp, iI_s, iI_m1, iI_div, bs, tn, tn4, tn12, tn20, tn124, tn28, itT, itF, if_pos, if_neg, e3, e2, e1, decide_eq_true_eq]
    · refine ⟨S'', g1, ?_⟩
      rw [f_X7_mended_L63, e5]
      simp (disch := omega) only [li_0, li_1, li_2, li_3, li_4, li_5, li_6, li_7, li_8, li_9, li_10, li_11, li_12, li_16, li_19, li_20, li_28, li_48, li_57, li_59, li_60, li_96, li_97, li_99, li_100, li_102, li_103, li_104, li_112, li_115, li_116, li_118, li_119, li_121, li_124, li_132, li_255, li_256, li_1000, li_2000, li_1000000000, iI_add, iI_sub, iI_mul, iI_neg, iI_lt, iI_le, iI_eq, iI_clamp, iI_s, iI_m1, iI_div, bs, tn, tn4, tn12, tn20, tn124, tn28, itT, itF, if_pos, if_neg, e3, e2, e1, g2, decide_eq_true_eq]
theorem rMdL {S : St} {a : Nat → Int} {j now y : Nat} (hw : WFa a) (hj : j < 8) (hn : now ≤ 11) (hn1 : a 1 = now) (hy : y < 12) {m : Int} (h1 : 0 ≤ m ∧ m ≤ 99) {k : Int32 → St → Option (Int32 × St)} {k9 : St → Option (Int32 × St)} :
    ∀ d n v : Nat, ∀ S' : St, v + d = 100 → d < n → (∀ i k, i ≠ 76 → S'.1 i k = S.1 i k) → (∀ k, k < 132 → k ≠ 28 + 12 * j + y → S'.1 76 k = iI (a k)) →
    ∃ S'', (∀ i k, i ≠ 76 → S''.1 i k = S.1 i k) ∧ f_X8_mended_L59 n (iI j) (iI y) (iI m) (iI v) S' k k9 = if sFst (mdP a j now y m) d v < 0 then k9 S'' else k (iI (sFst (mdP a j now y m) d v)) S'' := by
  intro d
  induction d with
  | zero =>
    intro n v S' hx hd q1 q2
    obtain ⟨n, rfl⟩ : ∃ p, n = p + 1 := ⟨n - 1, by omega⟩
    refine ⟨S', q1, ?_⟩
    rw [f_X8_mended_L59, sFst]
    simp (disch := omega) only [li_0, li_1, li_2, li_3, li_4, li_5, li_6, li_7, li_8, li_9, li_10, li_11, li_12, li_16, li_19, li_20, li_28, li_48, li_57, li_59, li_60, li_96, li_97, li_99, li_100, li_102, li_103, li_104, li_112, li_115, li_116, li_118, li_119, li_121, li_124, li_132, li_255, li_256, li_1000, li_2000, li_1000000000, iI_add, iI_sub, iI_mul, iI_neg, iI_lt, iI_le, iI_eq, iI_clamp, iI_s, iI_m1, iI_div, bs, tn, tn4, tn12, tn20, tn124, tn28, itT, itF, if_pos, if_neg]
  | succ d ih =>
    intro n v S' hx hd q1 q2
    obtain ⟨n, rfl⟩ : ∃ p, n = p + 1 := ⟨n - 1, by omega⟩
    have hw2 : WFa (st a (28 + 12 * j + y) (v : Int)) := hw.stg hj hy (by omega)
    have hm2 : ∀ k, k < 132 → (up S' 76 (28 + 12 * j + y) (iI v)).1 76 k = iI (st a (28 + 12 * j + y) (v : Int) k) := fun k hk => by
      by_cases e : k = 28 + 12 * j + y
      · rw [e, up_s, st_s]
      · rw [up_n (Or.inr e), st_n e]; exact q2 k hk e
    have e1 := rY hm2 hj (hw2.t hj) hn (by rw [st_n (by omega)]; exact hn1) (m := m) (f := 0) (by omega) (by omega)
    have yb := sY_le (st a (28 + 12 * j + y) (v : Int)) j now m 0
    obtain ⟨S'', g1, g2⟩ := ih n (v + 1) (up S' 76 (28 + 12 * j + y) (iI v)) (by omega) (by omega) (fun i k hi => by rw [up_ne hi]; exact q1 i k hi) (fun k hk e => by rw [up_n (Or.inr e)]; exact q2 k hk e)
    have e5 : sFst (mdP a j now y m) (d + 1) v = if decide (sY (st a (28 + 12 * j + y) (v : Int)) j now m 0 = y) = true then (v : Int) else sFst (mdP a j now y m) d (v + 1) := rfl
    by_cases c : sY (st a (28 + 12 * j + y) (v : Int)) j now m 0 = y
    · refine ⟨up S' 76 (28 + 12 * j + y) (iI v), fun i k hi => by rw [up_ne hi]; exact q1 i k hi, ?_⟩
      rw [f_X8_mended_L59, e5]
      simp (disch := omega) only [li_0, li_1, li_2, li_3, li_4, li_5, li_6, li_7, li_8, li_9, li_10, li_11, li_12, li_16, li_19, li_20, li_28, li_48, li_57, li_59, li_60, li_96, li_97, li_99, li_100, li_102, li_103, li_104, li_112, li_115, li_116, li_118, li_119, li_121, li_124, li_132, li_255, li_256, li_1000, li_2000, li_1000000000, iI_add, iI_sub, iI_mul, iI_neg, iI_lt, iI_le, iI_eq, iI_clamp, iI_s, iI_m1, iI_div, bs, tn, tn4, tn12, tn20, tn124, tn28, itT, itF, if_pos, if_neg, rAt, e1, decide_eq_true_eq]
    · refine ⟨S'', g1, ?_⟩
      rw [f_X8_mended_L59, e5]
      simp (disch := omega) only [li_0, li_1, li_2, li_3, li_4, li_5, li_6, li_7, li_8, li_9, li_10, li_11, li_12, li_16, li_19, li_20, li_28, li_48, li_57, li_59, li_60, li_96, li_97, li_99, li_100, li_102, li_103, li_104, li_112, li_115, li_116, li_118, li_119, li_121, li_124, li_132, li_255, li_256, li_1000, li_2000, li_1000000000, iI_add, iI_sub, iI_mul, iI_neg, iI_lt, iI_le, iI_eq, iI_clamp, iI_s, iI_m1, iI_div, bs, tn, tn4, tn12, tn20, tn124, tn28, itT, itF, if_pos, if_neg, rAt, e1, g2, decide_eq_true_eq]
theorem e_mended {S : St} (hS : Inv S) (a1 : Int32) (a2 : Int32) (a3 : Int32) : ∃ (z1 : Int32 × St) (z2 : Int32 × St), f_X7_mended a1 a2 a3 S = some z1 ∧ f_X8_mended a1 a2 a3 z1.2 = some z2 ∧ z1.1 = z2.1 ∧ Inv z2.2 := by
  obtain ⟨⟨a, hw, hc, hm0⟩, -⟩ := id hS
  have hm : ∀ k, k < 132 → S.1 75 k = iI (a k) := hm0
  have h8 := hw.1
  have w1 := hw.2.1
  have w2 := hw.2.2.1
  have w3 := hw.2.2.2.1
  obtain ⟨now, hnow⟩ : ∃ n : Nat, a 1 = n := ⟨(a 1).toNat, by omega⟩
  obtain ⟨N, hN⟩ : ∃ n : Nat, a 0 = n := ⟨(a 0).toNat, by omega⟩
  have hn : now ≤ 11 := by omega
  have hN8 : N ≤ 8 := by omega
  have p1 : S.1 1 1 = iI now := by rw [hc.1 1 (by omega), hnow]
  have p0 : S.1 1 0 = iI N := by rw [hc.1 0 (by omega), hN]
  have m0 : S.1 75 0 = iI N := by rw [hm 0 (by omega), hN]
  have m1 : S.1 75 1 = iI now := by rw [hm 1 (by omega), hnow]
  obtain ⟨x, x1, x2, rfl⟩ := iI_any a1
  obtain ⟨y, y1, y2, rfl⟩ := iI_any a2
  obtain ⟨z, z1, z2, rfl⟩ := iI_any a3
  have e1 := cLacks hc hw x1 x2
  have e3 := cOut (z := z) (l := 0) (u := 99) z1 z2 (by omega) (by omega) (by omega) (by omega)
  have e4 := cNo y1 y2
  have g4 := rYear y1 y2
  by_cases c : 0 ≤ x ∧ x < a 0
  · obtain ⟨j, rfl⟩ : ∃ n : Nat, x = n := ⟨x.toNat, by omega⟩
    have ht := hc.t (j := j) (by omega) (by omega)
    have hwt := hw.t (j := j) (by omega)
    have e2 := cAt (S := S) (q := 1) (j := j) (by omega)
    by_cases c1 : 0 ≤ y ∧ y < 12
    · by_cases c2 : z < 0
      · exact e_no hS (-4) 4 (by omega) (by omega) (by simp (disch := omega) only [li_0, li_1, li_2, li_3, li_4, li_5, li_6, li_7, li_8, li_9, li_10, li_11, li_12, li_16, li_19, li_20, li_28, li_48, li_57, li_59, li_60, li_96, li_97, li_99, li_100, li_102, li_103, li_104, li_112, li_115, li_116, li_118, li_119, li_121, li_124, li_132, li_255, li_256, li_1000, li_2000, li_1000000000, iI_add, iI_sub, iI_mul, iI_neg, iI_lt, iI_le, iI_eq, iI_clamp, iI_s, iI_m1, iI_div, bs, tn, tn4, tn12, tn20, tn124, tn28, itT, itF, if_pos, if_neg, f_X7_mended, e1, e3, e4, bse]) (fun S1 q1 q2 => by
          have g1 := rThing (S := S1) (by rw [q1]; exact m0) hN8 x1 x2
          simp (disch := omega) only [li_0, li_1, li_2, li_3, li_4, li_5, li_6, li_7, li_8, li_9, li_10, li_11, li_12, li_16, li_19, li_20, li_28, li_48, li_57, li_59, li_60, li_96, li_97, li_99, li_100, li_102, li_103, li_104, li_112, li_115, li_116, li_118, li_119, li_121, li_124, li_132, li_255, li_256, li_1000, li_2000, li_1000000000, iI_add, iI_sub, iI_mul, iI_neg, iI_lt, iI_le, iI_eq, iI_clamp, iI_s, iI_m1, iI_div, bs, tn, tn4, tn12, tn20, tn124, tn28, itT, itF, if_pos, if_neg, f_X8_mended, g1, g4, bse])
      · by_cases c3 : 99 < z
        · exact e_no hS (-6) 6 (by omega) (by omega) (by simp (disch := omega) only [li_0, li_1, li_2, li_3, li_4, li_5, li_6, li_7, li_8, li_9, li_10, li_11, li_12, li_16, li_19, li_20, li_28, li_48, li_57, li_59, li_60, li_96, li_97, li_99, li_100, li_102, li_103, li_104, li_112, li_115, li_116, li_118, li_119, li_121, li_124, li_132, li_255, li_256, li_1000, li_2000, li_1000000000, iI_add, iI_sub, iI_mul, iI_neg, iI_lt, iI_le, iI_eq, iI_clamp, iI_s, iI_m1, iI_div, bs, tn, tn4, tn12, tn20, tn124, tn28, itT, itF, if_pos, if_neg, f_X7_mended, e1, e3, e4, bse]) (fun S1 q1 q2 => by
            have g1 := rThing (S := S1) (by rw [q1]; exact m0) hN8 x1 x2
            simp (disch := omega) only [li_0, li_1, li_2, li_3, li_4, li_5, li_6, li_7, li_8, li_9, li_10, li_11, li_12, li_16, li_19, li_20, li_28, li_48, li_57, li_59, li_60, li_96, li_97, li_99, li_100, li_102, li_103, li_104, li_112, li_115, li_116, li_118, li_119, li_121, li_124, li_132, li_255, li_256, li_1000, li_2000, li_1000000000, iI_add, iI_sub, iI_mul, iI_neg, iI_lt, iI_le, iI_eq, iI_clamp, iI_s, iI_m1, iI_div, bs, tn, tn4, tn12, tn20, tn124, tn28, itT, itF, if_pos, if_neg, f_X8_mended, g1, g4, bse])
        · obtain ⟨u, rfl⟩ : ∃ n : Nat, y = n := ⟨y.toNat, by omega⟩
          obtain ⟨S1, c4, c5, c6, c7⟩ := cCopyT (q0 := 58) (q1 := 1 + 1 + 2 + 2 * j) (by omega) (by omega) (by omega) S
          obtain ⟨S2, d1, d2⟩ := cMdL (S := S1) (a := a) (j := j) (now := now) (y := u) hw (by omega) hn (by omega) (m := z) (by omega) (by rw [c5 _ _ (by omega) (by omega)]; exact p1) (k := fun y14 S15 => some (y14, S15)) (k9 := fun S16 => some (iI (-9), S16)) 100 2000 0 S1 (by omega) (by omega) (fun _ _ _ => rfl) ⟨by rw [c6 0 (by omega)]; exact ht.1, by rw [c6 1 (by omega)]; exact ht.2.1, by rw [c6 2 (by omega)]; exact ht.2.2.1, fun v hv _ => by rw [c7 v hv]; exact ht.2.2.2 v hv⟩
          have hm2 : ∀ k, k < 132 → S2.1 75 k = iI (a k) := fun k hk => by rw [d1 _ _ (by omega), c5 _ _ (by omega) (by omega)]; exact hm k hk
          have g1 := rThing (S := S2) (by rw [hm2 0 (by omega), hN]) hN8 x1 x2
          obtain ⟨S3, l1, l2, l3⟩ := rLays (q0 := 75) (q1 := 76) (by omega) S2
          obtain ⟨S4, f1, f2⟩ := rMdL (S := S3) (a := a) (j := j) (now := now) (y := u) hw (by omega) hn hnow (by omega) (m := z) (by omega) (k := fun y14 S15 => some (y14, S15)) (k9 := fun S16 => some (iI (-9), S16)) 100 2000 0 S3 (by omega) (by omega) (fun _ _ _ => rfl) (fun k hk _ => by rw [l3 k hk]; exact hm2 k hk)
          have i9 : Inv S4 := hS.sm (fun i k hs => by
            unfold scr at hs
            rw [f1 _ _ (by omega), l2 _ _ (by omega), d1 _ _ (by omega), c5 _ _ (by omega) (by omega)])
          have d3 : f_X7_mended_L63 2000 (iI u) (iI z) (iI 0) S1 (fun y14 S15 => some (y14, S15)) (fun S16 => some (iI (-9), S16)) = if sFst (mdP a j now u z) 100 0 < 0 then some (iI (-9), S2) else some (iI (sFst (mdP a j now u z) 100 0), S2) := d2
          have f3 : f_X8_mended_L59 2000 (iI j) (iI u) (iI z) (iI 0) S3 (fun y14 S15 => some (y14, S15)) (fun S16 => some (iI (-9), S16)) = if sFst (mdP a j now u z) 100 0 < 0 then some (iI (-9), S4) else some (iI (sFst (mdP a j now u z) 100 0), S4) := f2
          by_cases cc : sFst (mdP a j now u z) 100 0 < 0
          · rw [if_pos cc] at d3 f3
            exact e_mk (by simp (disch := omega) only [li_0, li_1, li_2, li_3, li_4, li_5, li_6, li_7, li_8, li_9, li_10, li_11, li_12, li_16, li_19, li_20, li_28, li_48, li_57, li_59, li_60, li_96, li_97, li_99, li_100, li_102, li_103, li_104, li_112, li_115, li_116, li_118, li_119, li_121, li_124, li_132, li_255, li_256, li_1000, li_2000, li_1000000000, iI_add, iI_sub, iI_mul, iI_neg, iI_lt, iI_le, iI_eq, iI_clamp, iI_s, iI_m1, iI_div, bs, tn, tn4, tn12, tn20, tn124, tn28, itT, itF, if_pos, if_neg, f_X7_mended, e1, e2, e3, e4, c4, d3]; rfl) (by simp (disch := omega) only [li_0, li_1, li_2, li_3, li_4, li_5, li_6, li_7, li_8, li_9, li_10, li_11, li_12, li_16, li_19, li_20, li_28, li_48, li_57, li_59, li_60, li_96, li_97, li_99, li_100, li_102, li_103, li_104, li_112, li_115, li_116, li_118, li_119, li_121, li_124, li_132, li_255, li_256, li_1000, li_2000, li_1000000000, iI_add, iI_sub, iI_mul, iI_neg, iI_lt, iI_le, iI_eq, iI_clamp, iI_s, iI_m1, iI_div, bs, tn, tn4, tn12, tn20, tn124, tn28, itT, itF, if_pos, if_neg, f_X8_mended, g1, g4, l1, f3]) i9
          · rw [if_neg cc] at d3 f3
            exact e_mk (by simp (disch := omega) only [li_0, li_1, li_2, li_3, li_4, li_5, li_6, li_7, li_8, li_9, li_10, li_11, li_12, li_16, li_19, li_20, li_28, li_48, li_57, li_59, li_60, li_96, li_97, li_99, li_100, li_102, li_103, li_104, li_112, li_115, li_116, li_118, li_119, li_121, li_124, li_132, li_255, li_256, li_1000, li_2000, li_1000000000, iI_add, iI_sub, iI_mul, iI_neg, iI_lt, iI_le, iI_eq, iI_clamp, iI_s, iI_m1, iI_div, bs, tn, tn4, tn12, tn20, tn124, tn28, itT, itF, if_pos, if_neg, f_X7_mended, e1, e2, e3, e4, c4, d3]; rfl) (by simp (disch := omega) only [li_0, li_1, li_2, li_3, li_4, li_5, li_6, li_7, li_8, li_9, li_10, li_11, li_12, li_16, li_19, li_20, li_28, li_48, li_57, li_59, li_60, li_96, li_97, li_99, li_100, li_102, li_103, li_104, li_112, li_115, li_116, li_118, li_119, li_121, li_124, li_132, li_255, li_256, li_1000, li_2000, li_1000000000, iI_add, iI_sub, iI_mul, iI_neg, iI_lt, iI_le, iI_eq, iI_clamp, iI_s, iI_m1, iI_div, bs, tn, tn4, tn12, tn20, tn124, tn28, itT, itF, if_pos, if_neg, f_X8_mended, g1, g4, l1, f3]) i9
    · exact e_no hS (-1) 1 (by omega) (by omega) (by simp (disch := omega) only [li_0, li_1, li_2, li_3, li_4, li_5, li_6, li_7, li_8, li_9, li_10, li_11, li_12, li_16, li_19, li_20, li_28, li_48, li_57, li_59, li_60, li_96, li_97, li_99, li_100, li_102, li_103, li_104, li_112, li_115, li_116, li_118, li_119, li_121, li_124, li_132, li_255, li_256, li_1000, li_2000, li_1000000000, iI_add, iI_sub, iI_mul, iI_neg, iI_lt, iI_le, iI_eq, iI_clamp, iI_s, iI_m1, iI_div, bs, tn, tn4, tn12, tn20, tn124, tn28, itT, itF, if_pos, if_neg, f_X7_mended, e1, e4, bse]) (fun S1 q1 q2 => by
        have g1 := rThing (S := S1) (by rw [q1]; exact m0) hN8 x1 x2
        simp (disch := omega) only [li_0, li_1, li_2, li_3, li_4, li_5, li_6, li_7, li_8, li_9, li_10, li_11, li_12, li_16, li_19, li_20, li_28, li_48, li_57, li_59, li_60, li_96, li_97, li_99, li_100, li_102, li_103, li_104, li_112, li_115, li_116, li_118, li_119, li_121, li_124, li_132, li_255, li_256, li_1000, li_2000, li_1000000000, iI_add, iI_sub, iI_mul, iI_neg, iI_lt, iI_le, iI_eq, iI_clamp, iI_s, iI_m1, iI_div, bs, tn, tn4, tn12, tn20, tn124, tn28, itT, itF, if_pos, if_neg, f_X8_mended, g1, g4, bse])
  · exact e_no hS (-1) 1 (by omega) (by omega) (by simp (disch := omega) only [li_0, li_1, li_2, li_3, li_4, li_5, li_6, li_7, li_8, li_9, li_10, li_11, li_12, li_16, li_19, li_20, li_28, li_48, li_57, li_59, li_60, li_96, li_97, li_99, li_100, li_102, li_103, li_104, li_112, li_115, li_116, li_118, li_119, li_121, li_124, li_132, li_255, li_256, li_1000, li_2000, li_1000000000, iI_add, iI_sub, iI_mul, iI_neg, iI_lt, iI_le, iI_eq, iI_clamp, iI_s, iI_m1, iI_div, bs, tn, tn4, tn12, tn20, tn124, tn28, itT, itF, if_pos, if_neg, f_X7_mended, e1, bse]) (fun S1 q1 q2 => by
      have g1 := rThing (S := S1) (by rw [q1]; exact m0) hN8 x1 x2
      simp (disch := omega) only [li_0, li_1, li_2, li_3, li_4, li_5, li_6, li_7, li_8, li_9, li_10, li_11, li_12, li_16, li_19, li_20, li_28, li_48, li_57, li_59, li_60, li_96, li_97, li_99, li_100, li_102, li_103, li_104, li_112, li_115, li_116, li_118, li_119, li_121, li_124, li_132, li_255, li_256, li_1000, li_2000, li_1000000000, iI_add, iI_sub, iI_mul, iI_neg, iI_lt, iI_le, iI_eq, iI_clamp, iI_s, iI_m1, iI_div, bs, tn, tn4, tn12, tn20, tn124, tn28, itT, itF, if_pos, if_neg, f_X8_mended, g1, bse])
-- ===== what kind a thing was =====
def sAT (g : Nat → Int32) (f : Nat → Nat) : Nat → Nat → Bool
  | 0, _ => true
  | d + 1, x => if g x = iI (f x) then sAT g f d (x + 1) else false
def sWW (p : Nat → Bool) : Nat → Int32
  | 0 => iI 0
  | v + 1 => if p v = true then sWW p v ||| (iI 1 <<< (iI (v : Int) &&& 31)) else sWW p v
theorem cTells {S : St} {t : Nat} {a : Nat → Int} {j : Nat} (h : RT S t a j) (hw : WT a j) {now : Nat} (hn : now ≤ 11) {N : Nat} (hN : N ≤ 16) (hl : S.1 62 1 = iI N) {g : Nat → Int32} (hg : ∀ x, x < N → S.1 63 x = g x) {k k9 : Unit → Option Int32} :
    ∀ d n x : Nat, x + d = N → d < n → f_X2_tellsYearsOf_L2 n t (iI now) (iI x) S k k9 = if sAT g (fun x => sY a j now (5 * (x : Int)) 0) d x = true then k9 () else k () := by
  intro d
  induction d with
  | zero =>
    intro n x hx hd
    obtain ⟨n, rfl⟩ : ∃ p, n = p + 1 := ⟨n - 1, by omega⟩
    rw [f_X2_tellsYearsOf_L2, sAT]
    simp (disch := omega) only [li_0, li_1, li_2, li_3, li_4, li_5, li_6, li_7, li_8, li_9, li_10, li_11, li_12, li_16, li_19, li_20, li_28, li_48, li_57, li_59, li_60, li_96, li_97, li_99, li_100, li_102, li_103, li_104, li_112, li_115, li_116, li_118, li_119, li_121, li_124, li_132, li_255, li_256, li_1000, li_2000, li_1000000000, iI_add, iI_sub, iI_mul, iI_neg, iI_lt, iI_le, iI_eq, iI_clamp, iI_s, iI_m1, iI_div, bs, tn, tn4, tn12, tn20, tn124, tn28, itT, itF, if_pos, if_neg, hl]
  | succ d ih =>
    intro n x hx hd
    obtain ⟨n, rfl⟩ : ∃ p, n = p + 1 := ⟨n - 1, by omega⟩
    have i1 := ih n (x + 1) (by omega) (by omega)
    have e1 := cY h hw hn (m := 5 * (x : Int)) (f := 0) (by omega) (by omega)
    have ec : (x : Int) * 5 = 5 * (x : Int) := Int.mul_comm _ _
    have e2 := hg x (by omega)
    rw [f_X2_tellsYearsOf_L2, sAT]
    by_cases c : g x = iI (sY a j now (5 * (x : Int)) 0)
    · simp (disch := omega) only [li_0, li_1, li_2, li_3, li_4, li_5, li_6, li_7, li_8, li_9, li_10, li_11, li_12, li_16, li_19, li_20, li_28, li_48, li_57, li_59, li_60, li_96, li_97, li_99, li_100, li_102, li_103, li_104, li_112, li_115, li_116, li_118, li_119, li_121, li_124, li_132, li_255, li_256, li_1000, li_2000, li_1000000000, iI_add, iI_sub, iI_mul, iI_neg, iI_lt, iI_le, iI_eq, iI_clamp, iI_s, iI_m1, iI_div, bs, tn, tn4, tn12, tn20, tn124, tn28, itT, itF, if_pos, if_neg, hl, ec, e1, e2, c, i1]
    · simp (disch := omega) only [li_0, li_1, li_2, li_3, li_4, li_5, li_6, li_7, li_8, li_9, li_10, li_11, li_12, li_16, li_19, li_20, li_28, li_48, li_57, li_59, li_60, li_96, li_97, li_99, li_100, li_102, li_103, li_104, li_112, li_115, li_116, li_118, li_119, li_121, li_124, li_132, li_255, li_256, li_1000, li_2000, li_1000000000, iI_add, iI_sub, iI_mul, iI_neg, iI_lt, iI_le, iI_eq, iI_clamp, iI_s, iI_m1, iI_div, bs, tn, tn4, tn12, tn20, tn124, tn28, itT, itF, if_pos, if_neg, hl, ec, e1, e2, c, Bool.false_eq_true]
theorem cTell {S : St} {t : Nat} {a : Nat → Int} {j : Nat} (h : RT S t a j) (hw : WT a j) {now : Nat} (hn : now ≤ 11) {N : Nat} (hN : N ≤ 16) (hl : S.1 62 1 = iI N) {g : Nat → Int32} (hg : ∀ x, x < N → S.1 63 x = g x) :
    f_X2_tellsYearsOf t (iI now) S = some (iI (if sAT g (fun x => sY a j now (5 * (x : Int)) 0) N 0 = true then 1 else 0)) := by
  have i : f_X2_tellsYearsOf_L2 2000 t (iI now) (iI 0) S (fun _ => some (iI 0)) (fun _ => some (iI 1)) = _ := cTells h hw hn hN hl hg N 2000 0 (by omega) (by omega)
  rw [f_X2_tellsYearsOf]
  by_cases c : sAT g (fun x => sY a j now (5 * (x : Int)) 0) N 0 = true
  · rw [if_pos c] at i ⊢
    exact i
  · rw [if_neg c] at i ⊢
    exact i
/-- thing j with another kind (w = 0) or another figure (w = 1) -/
def wwA (a : Nat → Int) (j : Nat) (w : Nat) (v : Nat) : Nat → Int := st a (4 + 8 * w + j) (v : Int)
def wwP (a : Nat → Int) (j now : Nat) (g : Nat → Int32) (N : Nat) (w v : Nat) : Bool := sAT g (fun x => sY (wwA a j w v) j now (5 * (x : Int)) 0) N 0
theorem cWW {S : St} {a : Nat → Int} {j now N M : Nat} (hw : WFa a) (hj : j < 8) (hn : now ≤ 11) (p1 : S.1 1 1 = iI now) (hN : N ≤ 16) (hl : S.1 62 1 = iI N) {g : Nat → Int32} (hg : ∀ x, x < N → S.1 63 x = g x) {w : Nat} (hM : (w = 0 ∧ M = 5) ∨ (w = 1 ∧ M = 9)) {k : Int32 → St → Option (Int32 × St)} :
    ∀ d n v : Nat, ∀ S' : St, v + d = M + 1 → d < n → (∀ i k, i ≠ 58 → S'.1 i k = S.1 i k) → (∀ c, c < 3 → c ≠ w → S'.1 58 c = iI (a (4 + 8 * c + j))) → (∀ u, u < 12 → S'.1 59 u = iI (a (28 + 12 * j + u))) →
    ∃ S'', (∀ i k, i ≠ 58 → S''.1 i k = S.1 i k) ∧ f_X7_whatWas_L63 n (iI w) (iI M) (sWW (wwP a j now g N w) v) (iI v) S' k = k (sWW (wwP a j now g N w) (M + 1)) S'' := by
  intro d
  induction d with
  | zero =>
    intro n v S' hx hd q1 q2 q3
    obtain ⟨n, rfl⟩ : ∃ p, n = p + 1 := ⟨n - 1, by omega⟩
    obtain rfl : v = M + 1 := by omega
    refine ⟨S', q1, ?_⟩
    rw [f_X7_whatWas_L63]
    simp (disch := omega) only [li_0, li_1, li_2, li_3, li_4, li_5, li_6, li_7, li_8, li_9, li_10, li_11, li_12, li_16, li_19, li_20, li_28, li_48, li_57, li_59, li_60, li_96, li_97, li_99, li_100, li_102, li_103, li_104, li_112, li_115, li_116, li_118, li_119, li_121, li_124, li_132, li_255, li_256, li_1000, li_2000, li_1000000000, iI_add, iI_sub, iI_mul, iI_neg, iI_lt, iI_le, iI_eq, iI_clamp, iI_s, iI_m1, iI_div, bs, tn, tn4, tn12, tn20, tn124, tn28, itT, itF, if_pos, if_neg]
  | succ d ih =>
    intro n v S' hx hd q1 q2 q3
    obtain ⟨n, rfl⟩ : ∃ p, n = p + 1 := ⟨n - 1, by omega⟩
    have hw2 : WFa (wwA a j w v) := hw.stt hj (by omega)
    have ht : RT (up S' 58 w (iI v)) 58 (wwA a j w v) j := by
      refine ⟨?_, ?_, ?_, fun u hu => ?_⟩
      · by_cases e : w = 0
        · subst e
          rw [up_s]
          show _ = iI (st a (4 + 8 * 0 + j) (v : Int) (4 + j))
          rw [show 4 + 8 * 0 + j = 4 + j by omega, st_s]
        · rw [up_n (by omega)]
          show _ = iI (st a (4 + 8 * w + j) (v : Int) (4 + j))
          rw [st_n (by omega)]
          have := q2 0 (by omega) (by omega)
          rw [show 4 + 8 * 0 + j = 4 + j by omega] at this
          exact this
      · by_cases e : w = 1
        · subst e
          rw [up_s]
          show _ = iI (st a (4 + 8 * 1 + j) (v : Int) (12 + j))
          rw [show 4 + 8 * 1 + j = 12 + j by omega, st_s]
        · rw [up_n (by omega)]
          show _ = iI (st a (4 + 8 * w + j) (v : Int) (12 + j))
          rw [st_n (by omega)]
          have := q2 1 (by omega) (by omega)
          rw [show 4 + 8 * 1 + j = 12 + j by omega] at this
          exact this
      · rw [up_n (by omega)]
        show _ = iI (st a (4 + 8 * w + j) (v : Int) (20 + j))
        rw [st_n (by omega)]
        have := q2 2 (by omega) (by omega)
        rw [show 4 + 8 * 2 + j = 20 + j by omega] at this
        exact this
      · rw [up_ne (by omega)]
        show _ = iI (st a (4 + 8 * w + j) (v : Int) (28 + 12 * j + u))
        rw [st_n (by omega)]
        exact q3 u hu
    have e2 : (up S' 58 w (iI v)).1 1 1 = iI now := by rw [up_ne (by omega), q1 _ _ (by omega)]; exact p1
    have e1 := cTell ht (hw2.t hj) hn hN (by rw [up_ne (by omega), q1 _ _ (by omega)]; exact hl) (g := g) (fun x hx => by rw [up_ne (by omega), q1 _ _ (by omega)]; exact hg x hx)
    have eP : sAT g (fun x => sY (wwA a j w v) j now (5 * (x : Int)) 0) N 0 = wwP a j now g N w v := rfl
    rw [eP] at e1
    obtain ⟨S'', g1, g2⟩ := ih n (v + 1) (up S' 58 w (iI v)) (by omega) (by omega) (fun i k hi => by rw [up_ne hi]; exact q1 i k hi) (fun c hc e => by rw [up_n (Or.inr e)]; exact q2 c hc e) (fun u hu => by rw [up_ne (by omega)]; exact q3 u hu)
    refine ⟨S'', g1, ?_⟩
    rw [sWW] at g2
    rw [f_X7_whatWas_L63]
    by_cases c : wwP a j now g N w v = true
    · rw [if_pos c] at g2 e1
      rcases hM with ⟨rfl, rfl⟩ | ⟨rfl, rfl⟩
      · have e3 : ((0 : Nat) : Int) = 0 := rfl
        rw [e3] at g2 ⊢
        simp (disch := omega) only [li_0, li_1, li_2, li_3, li_4, li_5, li_6, li_7, li_8, li_9, li_10, li_11, li_12, li_16, li_19, li_20, li_28, li_48, li_57, li_59, li_60, li_96, li_97, li_99, li_100, li_102, li_103, li_104, li_112, li_115, li_116, li_118, li_119, li_121, li_124, li_132, li_255, li_256, li_1000, li_2000, li_1000000000, iI_add, iI_sub, iI_mul, iI_neg, iI_lt, iI_le, iI_eq, iI_clamp, iI_s, iI_m1, iI_div, bs, tn, tn4, tn12, tn20, tn124, tn28, itT, itF, if_pos, if_neg, e2, e1, g2]
      · have e3 : ((1 : Nat) : Int) = 1 := rfl
        rw [e3] at g2 ⊢
        simp (disch := omega) only [li_0, li_1, li_2, li_3, li_4, li_5, li_6, li_7, li_8, li_9, li_10, li_11, li_12, li_16, li_19, li_20, li_28, li_48, li_57, li_59, li_60, li_96, li_97, li_99, li_100, li_102, li_103, li_104, li_112, li_115, li_116, li_118, li_119, li_121, li_124, li_132, li_255, li_256, li_1000, li_2000, li_1000000000, iI_add, iI_sub, iI_mul, iI_neg, iI_lt, iI_le, iI_eq, iI_clamp, iI_s, iI_m1, iI_div, bs, tn, tn4, tn12, tn20, tn124, tn28, itT, itF, if_pos, if_neg, e2, e1, g2]
    · rw [if_neg c] at g2 e1
      rcases hM with ⟨rfl, rfl⟩ | ⟨rfl, rfl⟩
      · have e3 : ((0 : Nat) : Int) = 0 := rfl
        rw [e3] at g2 ⊢
        simp (disch := omega) only [li_0, li_1, li_2, li_3, li_4, li_5, li_6, li_7, li_8, li_9, li_10, li_11, li_12, li_16, li_19, li_20, li_28, li_48, li_57, li_59, li_60, li_96, li_97, li_99, li_100, li_102, li_103, li_104, li_112, li_115, li_116, li_118, li_119, li_121, li_124, li_132, li_255, li_256, li_1000, li_2000, li_1000000000, iI_add, iI_sub, iI_mul, iI_neg, iI_lt, iI_le, iI_eq, iI_clamp, iI_s, iI_m1, iI_div, bs, tn, tn4, tn12, tn20, tn124, tn28, itT, itF, if_pos, if_neg, e2, e1, g2]
      · have e3 : ((1 : Nat) : Int) = 1 := rfl
        rw [e3] at g2 ⊢
        simp (disch := omega) only [li_0, li_1, li_2, li_3, li_4, li_5, li_6, li_7, li_8, li_9, li_10, li_11, li_12, li_16, li_19, li_20, li_28, li_48, li_57, li_59, li_60, li_96, li_97, li_99, li_100, li_102, li_103, li_104, li_112, li_115, li_116, li_118, li_119, li_121, li_124, li_132, li_255, li_256, li_1000, li_2000, li_1000000000, iI_add, iI_sub, iI_mul, iI_neg, iI_lt, iI_le, iI_eq, iI_clamp, iI_s, iI_m1, iI_div, bs, tn, tn4, tn12, tn20, tn124, tn28, itT, itF, if_pos, if_neg, e2, e1, g2]
theorem rTells {S : St} {a : Nat → Int} {j : Nat} (hm : ∀ k, k < 132 → S.1 76 k = iI (a k)) (hj : j < 8) (hw : WT a j) {now : Nat} (hn : now ≤ 11) (hn1 : a 1 = now) {N : Nat} (hN : N ≤ 16) (hl : S.1 74 9 = iI N) {g : Nat → Int32} (hg : ∀ x, x < N → S.1 80 x = g x) {y2 y3 y4 : Int32} {k : Int32 → Option (Int32 × St)} :
    ∀ d n x : Nat, x + d = N → d < n → (f_X8_whatWas_L87 n (iI j) y2 y3 y4 (iI 0) (iI x) S k = k (iI 0)) ∧ (f_X8_whatWas_L87 n (iI j) y2 y3 y4 (iI 1) (iI x) S k = k (iI (if sAT g (fun x => sY a j now (5 * (x : Int)) 0) d x = true then 1 else 0))) := by
  have a00 : (iI 0 &&& iI 0 : Int32) = iI 0 := by decide
  have a01 : (iI 0 &&& iI 1 : Int32) = iI 0 := by decide
  have a10 : (iI 1 &&& iI 0 : Int32) = iI 0 := by decide
  have a11 : (iI 1 &&& iI 1 : Int32) = iI 1 := by decide
  intro d
  induction d with
  | zero =>
    intro n x hx hd
    obtain ⟨n, rfl⟩ : ∃ p, n = p + 1 := ⟨n - 1, by omega⟩
    rw [f_X8_whatWas_L87, f_X8_whatWas_L87, sAT]
    exact ⟨by simp (disch := omega) only [li_0, li_1, li_2, li_3, li_4, li_5, li_6, li_7, li_8, li_9, li_10, li_11, li_12, li_16, li_19, li_20, li_28, li_48, li_57, li_59, li_60, li_96, li_97, li_99, li_100, li_102, li_103, li_104, li_112, li_115, li_116, li_118, li_119, li_121, li_124, li_132, li_255, li_256, li_1000, li_2000, li_1000000000, iI_add, iI_sub, iI_mul, iI_neg, iI_lt, iI_le, iI_eq, iI_clamp, iI_s, iI_m1, iI_div, bs, tn, tn4, tn12, tn20, tn124, tn28, itT, itF, if_pos, if_neg, hl], by simp (disch := omega) only [li_0, li_1, li_2, li_3, li_4, li_5, li_6, li_7, li_8, li_9, li_10, li_11, li_12, li_16, li_19, li_20, li_28, li_48, li_57, li_59, li_60, li_96, li_97, li_99, li_100, li_102, li_103, li_104, li_112, li_115, li_116, li_118, li_119, li_121, li_124, li_132, li_255, li_256, li_1000, li_2000, li_1000000000, iI_add, iI_sub, iI_mul, iI_neg, iI_lt, iI_le, iI_eq, iI_clamp, iI_s, iI_m1, iI_div, bs, tn, tn4, tn12, tn20, tn124, tn28, itT, itF, if_pos, if_neg, hl]⟩
  | succ d ih =>
    intro n x hx hd
    obtain ⟨n, rfl⟩ : ∃ p, n = p + 1 := ⟨n - 1, by omega⟩
    obtain ⟨i0, i1⟩ := ih n (x + 1) (by omega) (by omega)
    have e1 := rY hm hj hw hn hn1 (m := 5 * (x : Int)) (f := 0) (by omega) (by omega)
    have e2 := hg x (by omega)
    rw [f_X8_whatWas_L87, f_X8_whatWas_L87, sAT]
    by_cases c : g x = iI (sY a j now (5 * (x : Int)) 0)
    · exact ⟨by simp (disch := omega) only [li_0, li_1, li_2, li_3, li_4, li_5, li_6, li_7, li_8, li_9, li_10, li_11, li_12, li_16, li_19, li_20, li_28, li_48, li_57, li_59, li_60, li_96, li_97, li_99, li_100, li_102, li_103, li_104, li_112, li_115, li_116, li_118, li_119, li_121, li_124, li_132, li_255, li_256, li_1000, li_2000, li_1000000000, iI_add, iI_sub, iI_mul, iI_neg, iI_lt, iI_le, iI_eq, iI_clamp, iI_s, iI_m1, iI_div, bs, tn, tn4, tn12, tn20, tn124, tn28, itT, itF, if_pos, if_neg, hl, e1, e2, c, a01, i0], by simp (disch := omega) only [li_0, li_1, li_2, li_3, li_4, li_5, li_6, li_7, li_8, li_9, li_10, li_11, li_12, li_16, li_19, li_20, li_28, li_48, li_57, li_59, li_60, li_96, li_97, li_99, li_100, li_102, li_103, li_104, li_112, li_115, li_116, li_118, li_119, li_121, li_124, li_132, li_255, li_256, li_1000, li_2000, li_1000000000, iI_add, iI_sub, iI_mul, iI_neg, iI_lt, iI_le, iI_eq, iI_clamp, iI_s, iI_m1, iI_div, bs, tn, tn4, tn12, tn20, tn124, tn28, itT, itF, if_pos, if_neg, hl, e1, e2, c, a11, i1]⟩
    · have c' : ¬ iI (sY a j now (5 * (x : Int)) 0) = g x := fun z => c z.symm
      exact ⟨by simp (disch := omega) only [li_0, li_1, li_2, li_3, li_4, li_5, li_6, li_7, li_8, li_9, li_10, li_11, li_12, li_16, li_19, li_20, li_28, li_48, li_57, li_59, li_60, li_96, li_97, li_99, li_100, li_102, li_103, li_104, li_112, li_115, li_116, li_118, li_119, li_121, li_124, li_132, li_255, li_256, li_1000, li_2000, li_1000000000, iI_add, iI_sub, iI_mul, iI_neg, iI_lt, iI_le, iI_eq, iI_clamp, iI_s, iI_m1, iI_div, bs, tn, tn4, tn12, tn20, tn124, tn28, itT, itF, if_pos, if_neg, hl, e1, e2, c', a00, i0], by simp (disch := omega) only [li_0, li_1, li_2, li_3, li_4, li_5, li_6, li_7, li_8, li_9, li_10, li_11, li_12, li_16, li_19, li_20, li_28, li_48, li_57, li_59, li_60, li_96, li_97, li_99, li_100, li_102, li_103, li_104, li_112, li_115, li_116, li_118, li_119, li_121, li_124, li_132, li_255, li_256, li_1000, li_2000, li_1000000000, iI_add, iI_sub, iI_mul, iI_neg, iI_lt, iI_le, iI_eq, iI_clamp, iI_s, iI_m1, iI_div, bs, tn, tn4, tn12, tn20, tn124, tn28, itT, itF, if_pos, if_neg, hl, e1, e2, c, c', a10, i0, Bool.false_eq_true]⟩
theorem rWW {S : St} {a : Nat → Int} {j now N M : Nat} (hm : ∀ k, k < 132 → S.1 75 k = iI (a k)) (hw : WFa a) (hj : j < 8) (hn : now ≤ 11) (hn1 : a 1 = now) (hN : N ≤ 16) (hl : S.1 74 9 = iI N) {g : Nat → Int32} (hg : ∀ x, x < N → S.1 80 x = g x) {w : Nat} (hM : (w = 0 ∧ M = 5) ∨ (w = 1 ∧ M = 9)) {k : Int32 → St → Option (Int32 × St)} :
    ∀ d n v : Nat, ∀ S' : St, v + d = M + 1 → d < n → (∀ i k, i ≠ 76 → S'.1 i k = S.1 i k) →
    ∃ S'', (∀ i k, i ≠ 76 → S''.1 i k = S.1 i k) ∧ f_X8_whatWas_L35 n (iI j) (iI w) (sWW (wwP a j now g N w) v) (iI v) S' k = k (sWW (wwP a j now g N w) (M + 1)) S'' := by
  intro d
  induction d with
  | zero =>
    intro n v S' hx hd q1
    obtain ⟨n, rfl⟩ : ∃ p, n = p + 1 := ⟨n - 1, by omega⟩
    obtain rfl : v = M + 1 := by omega
    refine ⟨S', q1, ?_⟩
    rw [f_X8_whatWas_L35]
    rcases hM with ⟨rfl, rfl⟩ | ⟨rfl, rfl⟩
    · simp (disch := omega) only [li_0, li_1, li_2, li_3, li_4, li_5, li_6, li_7, li_8, li_9, li_10, li_11, li_12, li_16, li_19, li_20, li_28, li_48, li_57, li_59, li_60, li_96, li_97, li_99, li_100, li_102, li_103, li_104, li_112, li_115, li_116, li_118, li_119, li_121, li_124, li_132, li_255, li_256, li_1000, li_2000, li_1000000000, iI_add, iI_sub, iI_mul, iI_neg, iI_lt, iI_le, iI_eq, iI_clamp, iI_s, iI_m1, iI_div, bs, tn, tn4, tn12, tn20, tn124, tn28, itT, itF, if_pos, if_neg]
    · simp (disch := omega) only [li_0, li_1, li_2, li_3, li_4, li_5, li_6, li_7, li_8, li_9, li_10, li_11, li_12, li_16, li_19, li_20, li_28, li_48, li_57, li_59, li_60, li_96, li_97, li_99, li_100, li_102, li_103, li_104, li_112, li_115, li_116, li_118, li_119, li_121, li_124, li_132, li_255, li_256, li_1000, li_2000, li_1000000000, iI_add, iI_sub, iI_mul, iI_neg, iI_lt, iI_le, iI_eq, iI_clamp, iI_s, iI_m1, iI_div, bs, tn, tn4, tn12, tn20, tn124, tn28, itT, itF, if_pos, if_neg]
  | succ d ih =>
    intro n v S' hx hd q1
    obtain ⟨n, rfl⟩ : ∃ p, n = p + 1 := ⟨n - 1, by omega⟩
    obtain ⟨S1, l1, l2, l3⟩ := rLays (q0 := 75) (q1 := 76) (by omega) S'
    have hw2 : WFa (wwA a j w v) := hw.stt hj (by omega)
    have hm2 : ∀ k, k < 132 → (up S1 76 (4 + 8 * w + j) (iI v)).1 76 k = iI (wwA a j w v k) := by
      refine RM.st (S := S1) (q := 76) (a := a) (fun k hk => ?_) _ _
      rw [l3 k hk, q1 _ _ (by omega)]; exact hm k hk
    have hw1 : wwA a j w v 1 = now := by
      show st a (4 + 8 * w + j) (v : Int) 1 = now
      rw [st_n (by omega)]; exact hn1
    have fr1 : ∀ i k, i ≠ 76 → (up S1 76 (4 + 8 * w + j) (iI v)).1 i k = S.1 i k := fun i k hi => by rw [up_ne hi, l2 _ _ hi]; exact q1 i k hi
    have e1 : ∀ y2 y3 y4 k, f_X8_whatWas_L87 2000 (iI j) y2 y3 y4 (iI 1) (iI ((0 : Nat) : Int)) (up S1 76 (4 + 8 * w + j) (iI v)) k = k (iI (if wwP a j now g N w v = true then 1 else 0)) := fun y2 y3 y4 k => (rTells hm2 hj (hw2.t hj) hn hw1 hN (by rw [fr1 _ _ (by omega)]; exact hl) (g := g) (fun x hx => by rw [fr1 _ _ (by omega)]; exact hg x hx) (y2 := y2) (y3 := y3) (y4 := y4) (k := k) N 2000 0 (by omega) (by omega)).2
    obtain ⟨S'', g1, g2⟩ := ih n (v + 1) (up S1 76 (4 + 8 * w + j) (iI v)) (by omega) (by omega) fr1
    refine ⟨S'', g1, ?_⟩
    rw [sWW] at g2
    rw [f_X8_whatWas_L35]
    rcases hM with ⟨rfl, rfl⟩ | ⟨rfl, rfl⟩
    · have e3 : ((0 : Nat) : Int) = 0 := rfl
      have e4 : 4 + 8 * 0 + j = 4 + j := by omega
      rw [e4] at e1 g2
      rw [e3] at g2 e1 ⊢
      by_cases c : wwP a j now g N 0 v = true
      · rw [if_pos c] at g2 e1
        simp (disch := omega) only [li_0, li_1, li_2, li_3, li_4, li_5, li_6, li_7, li_8, li_9, li_10, li_11, li_12, li_16, li_19, li_20, li_28, li_48, li_57, li_59, li_60, li_96, li_97, li_99, li_100, li_102, li_103, li_104, li_112, li_115, li_116, li_118, li_119, li_121, li_124, li_132, li_255, li_256, li_1000, li_2000, li_1000000000, iI_add, iI_sub, iI_mul, iI_neg, iI_lt, iI_le, iI_eq, iI_clamp, iI_s, iI_m1, iI_div, bs, tn, tn4, tn12, tn20, tn124, tn28, itT, itF, if_pos, if_neg, l1, e1, g2, iI_or0]
      · rw [if_neg c] at g2 e1
        simp (disch := omega) only [li_0, li_1, li_2, li_3, li_4, li_5, li_6, li_7, li_8, li_9, li_10, li_11, li_12, li_16, li_19, li_20, li_28, li_48, li_57, li_59, li_60, li_96, li_97, li_99, li_100, li_102, li_103, li_104, li_112, li_115, li_116, li_118, li_119, li_121, li_124, li_132, li_255, li_256, li_1000, li_2000, li_1000000000, iI_add, iI_sub, iI_mul, iI_neg, iI_lt, iI_le, iI_eq, iI_clamp, iI_s, iI_m1, iI_div, bs, tn, tn4, tn12, tn20, tn124, tn28, itT, itF, if_pos, if_neg, l1, e1, g2, iI_or0]
    · have e3 : ((1 : Nat) : Int) = 1 := rfl
      have e5 : ((0 : Nat) : Int) = 0 := rfl
      have e4 : 4 + 8 * 1 + j = 12 + j := by omega
      rw [e4] at e1 g2
      rw [e3] at g2 ⊢
      rw [e5] at e1
      by_cases c : wwP a j now g N 1 v = true
      · rw [if_pos c] at g2 e1
        simp (disch := omega) only [li_0, li_1, li_2, li_3, li_4, li_5, li_6, li_7, li_8, li_9, li_10, li_11, li_12, li_16, li_19, li_20, li_28, li_48, li_57, li_59, li_60, li_96, li_97, li_99, li_100, li_102, li_103, li_104, li_112, li_115, li_116, li_118, li_119, li_121, li_124, li_132, li_255, li_256, li_1000, li_2000, li_1000000000, iI_add, iI_sub, iI_mul, iI_neg, iI_lt, iI_le, iI_eq, iI_clamp, iI_s, iI_m1, iI_div, bs, tn, tn4, tn12, tn20, tn124, tn28, itT, itF, if_pos, if_neg, l1, e1, g2, iI_or0]
      · rw [if_neg c] at g2 e1
        simp (disch := omega) only [li_0, li_1, li_2, li_3, li_4, li_5, li_6, li_7, li_8, li_9, li_10, li_11, li_12, li_16, li_19, li_20, li_28, li_48, li_57, li_59, li_60, li_96, li_97, li_99, li_100, li_102, li_103, li_104, li_112, li_115, li_116, li_118, li_119, li_121, li_124, li_132, li_255, li_256, li_1000, li_2000, li_1000000000, iI_add, iI_sub, iI_mul, iI_neg, iI_lt, iI_le, iI_eq, iI_clamp, iI_s, iI_m1, iI_div, bs, tn, tn4, tn12, tn20, tn124, tn28, itT, itF, if_pos, if_neg, l1, e1, g2, iI_or0]
theorem e_whatWas {S : St} (hS : Inv S) (a1 : Int32) (a2 : Int32) : ∃ (z1 : Int32 × St) (z2 : Int32 × St), f_X7_whatWas a1 a2 S = some z1 ∧ f_X8_whatWas a1 a2 z1.2 = some z2 ∧ z1.1 = z2.1 ∧ Inv z2.2 := by
  obtain ⟨⟨a, hw, hc, hm0⟩, -⟩ := id hS
  have hm : ∀ k, k < 132 → S.1 75 k = iI (a k) := hm0
  have h8 := hw.1
  have w1 := hw.2.1
  have w2 := hw.2.2.1
  have w3 := hw.2.2.2.1
  obtain ⟨now, hnow⟩ : ∃ n : Nat, a 1 = n := ⟨(a 1).toNat, by omega⟩
  obtain ⟨N, hN⟩ : ∃ n : Nat, a 0 = n := ⟨(a 0).toNat, by omega⟩
  have hn : now ≤ 11 := by omega
  have hN8 : N ≤ 8 := by omega
  have p1 : S.1 1 1 = iI now := by rw [hc.1 1 (by omega), hnow]
  have p0 : S.1 1 0 = iI N := by rw [hc.1 0 (by omega), hN]
  have m0 : S.1 75 0 = iI N := by rw [hm 0 (by omega), hN]
  have m1 : S.1 75 1 = iI now := by rw [hm 1 (by omega), hnow]
  obtain ⟨x, x1, x2, rfl⟩ := iI_any a1
  obtain ⟨y, y1, y2, rfl⟩ := iI_any a2
  obtain ⟨_, _, ⟨n, t1, t2, t3, t4⟩, _⟩ := id hS
  have e1 := cLacks hc hw x1 x2
  have e3 := cTwo y1 y2
  have g3 := rIn (x := y) (l := 0) (u := 1) y1 y2 (by omega) (by omega) (by omega) (by omega)
  by_cases c : 0 ≤ x ∧ x < a 0
  · obtain ⟨j, rfl⟩ : ∃ n : Nat, x = n := ⟨x.toNat, by omega⟩
    have ht := hc.t (j := j) (by omega) (by omega)
    have hwt := hw.t (j := j) (by omega)
    have e2 := cAt (S := S) (q := 1) (j := j) (by omega)
    by_cases c1 : 0 ≤ y ∧ y ≤ 1
    · obtain ⟨w, rfl⟩ : ∃ n : Nat, y = n := ⟨y.toNat, by omega⟩
      obtain ⟨M, hM⟩ : ∃ M : Nat, (w = 0 ∧ M = 5) ∨ (w = 1 ∧ M = 9) := ⟨if w = 0 then 5 else 9, by split <;> omega⟩
      obtain ⟨S1, c4, c5, c6, c7⟩ := cCopyT (q0 := 58) (q1 := 1 + 1 + 2 + 2 * j) (by omega) (by omega) (by omega) S
      obtain ⟨S2, d1, d2⟩ := cWW (S := S1) (a := a) (j := j) (now := now) (N := n) (M := M) hw (by omega) hn (by rw [c5 _ _ (by omega) (by omega)]; exact p1) t1 (by rw [c5 _ _ (by omega) (by omega)]; exact t2) (g := S.1 63) (fun x hx => by rw [c5 _ _ (by omega) (by omega)]) (w := w) hM (k := fun y16 S17 => some (y16, S17)) (M + 1) 2000 0 S1 (by omega) (by omega) (fun _ _ _ => rfl) (fun c hc _ => by
          rw [c6 c hc]
          obtain rfl | rfl | rfl : c = 0 ∨ c = 1 ∨ c = 2 := by omega
          · rw [show 4 + 8 * 0 + j = 4 + j by omega]; exact ht.1
          · rw [show 4 + 8 * 1 + j = 12 + j by omega]; exact ht.2.1
          · rw [show 4 + 8 * 2 + j = 20 + j by omega]; exact ht.2.2.1) (fun u hu => by rw [c7 u hu]; exact ht.2.2.2 u hu)
      have fr2 : ∀ i k, i ≠ 58 → i ≠ 59 → S2.1 i k = S.1 i k := fun i k h1 h2 => by rw [d1 _ _ h1, c5 _ _ h1 h2]
      have hm2 : ∀ k, k < 132 → S2.1 75 k = iI (a k) := fun k hk => by rw [fr2 _ _ (by omega) (by omega)]; exact hm k hk
      have g1 : f_X8_isThing (iI j) S2 = some (iI 1) := by rw [rThing (S := S2) (by rw [hm2 0 (by omega), hN]) hN8 x1 x2, if_pos (by omega)]
      obtain ⟨S3, f1, f2⟩ := rWW (S := S2) (a := a) (j := j) (now := now) (N := n) (M := M) hm2 hw (by omega) hn hnow t1 (by rw [fr2 _ _ (by omega) (by omega)]; exact t3) (g := S.1 63) (fun x hx => by rw [fr2 _ _ (by omega) (by omega)]; exact t4 x hx) (w := w) hM (k := fun y28 S29 => some (y28, S29)) (M + 1) 2000 0 S2 (by omega) (by omega) (fun _ _ _ => rfl)
      have i9 : Inv S3 := hS.sm (fun i k hs => by
        unfold scr at hs
        rw [f1 _ _ (by omega), fr2 _ _ (by omega) (by omega)])
      have d3 : f_X7_whatWas_L63 2000 (iI w) (iI M) (iI 0) (iI 0) S1 (fun y16 S17 => some (y16, S17)) = some (sWW (wwP a j now (S.1 63) n w) (M + 1), S2) := d2
      have f3 : f_X8_whatWas_L35 2000 (iI j) (iI w) (iI 0) (iI 0) S2 (fun y28 S29 => some (y28, S29)) = some (sWW (wwP a j now (S.1 63) n w) (M + 1), S3) := f2
      refine e_mk (v := sWW (wwP a j now (S.1 63) n w) (M + 1)) (S1 := S2) (S2 := S3) ?_ (by simp (disch := omega) only [li_0, li_1, li_2, li_3, li_4, li_5, li_6, li_7, li_8, li_9, li_10, li_11, li_12, li_16, li_19, li_20, li_28, li_48, li_57, li_59, li_60, li_96, li_97, li_99, li_100, li_102, li_103, li_104, li_112, li_115, li_116, li_118, li_119, li_121, li_124, li_132, li_255, li_256, li_1000, li_2000, li_1000000000, iI_add, iI_sub, iI_mul, iI_neg, iI_lt, iI_le, iI_eq, iI_clamp, iI_s, iI_m1, iI_div, bs, tn, tn4, tn12, tn20, tn124, tn28, itT, itF, if_pos, if_neg, f_X8_whatWas, g1, g3, f3]) i9
      rcases hM with ⟨rfl, rfl⟩ | ⟨rfl, rfl⟩
      · rw [show ((5 : Nat) : Int) = 5 from rfl] at d3
        simp (disch := omega) only [li_0, li_1, li_2, li_3, li_4, li_5, li_6, li_7, li_8, li_9, li_10, li_11, li_12, li_16, li_19, li_20, li_28, li_48, li_57, li_59, li_60, li_96, li_97, li_99, li_100, li_102, li_103, li_104, li_112, li_115, li_116, li_118, li_119, li_121, li_124, li_132, li_255, li_256, li_1000, li_2000, li_1000000000, iI_add, iI_sub, iI_mul, iI_neg, iI_lt, iI_le, iI_eq, iI_clamp, iI_s, iI_m1, iI_div, bs, tn, tn4, tn12, tn20, tn124, tn28, itT, itF, if_pos, if_neg, f_X7_whatWas, e1, e2, e3, c4, d3]
      · rw [show ((9 : Nat) : Int) = 9 from rfl] at d3
        simp (disch := omega) only [li_0, li_1, li_2, li_3, li_4, li_5, li_6, li_7, li_8, li_9, li_10, li_11, li_12, li_16, li_19, li_20, li_28, li_48, li_57, li_59, li_60, li_96, li_97, li_99, li_100, li_102, li_103, li_104, li_112, li_115, li_116, li_118, li_119, li_121, li_124, li_132, li_255, li_256, li_1000, li_2000, li_1000000000, iI_add, iI_sub, iI_mul, iI_neg, iI_lt, iI_le, iI_eq, iI_clamp, iI_s, iI_m1, iI_div, bs, tn, tn4, tn12, tn20, tn124, tn28, itT, itF, if_pos, if_neg, f_X7_whatWas, e1, e2, e3, c4, d3]
    · exact e_no hS (-2) 2 (by omega) (by omega) (by simp (disch := omega) only [li_0, li_1, li_2, li_3, li_4, li_5, li_6, li_7, li_8, li_9, li_10, li_11, li_12, li_16, li_19, li_20, li_28, li_48, li_57, li_59, li_60, li_96, li_97, li_99, li_100, li_102, li_103, li_104, li_112, li_115, li_116, li_118, li_119, li_121, li_124, li_132, li_255, li_256, li_1000, li_2000, li_1000000000, iI_add, iI_sub, iI_mul, iI_neg, iI_lt, iI_le, iI_eq, iI_clamp, iI_s, iI_m1, iI_div, bs, tn, tn4, tn12, tn20, tn124, tn28, itT, itF, if_pos, if_neg, f_X7_whatWas, e1, e3, bse]) (fun S1 q1 q2 => by
        have g1 := rThing (S := S1) (by rw [q1]; exact m0) hN8 x1 x2
        simp (disch := omega) only [li_0, li_1, li_2, li_3, li_4, li_5, li_6, li_7, li_8, li_9, li_10, li_11, li_12, li_16, li_19, li_20, li_28, li_48, li_57, li_59, li_60, li_96, li_97, li_99, li_100, li_102, li_103, li_104, li_112, li_115, li_116, li_118, li_119, li_121, li_124, li_132, li_255, li_256, li_1000, li_2000, li_1000000000, iI_add, iI_sub, iI_mul, iI_neg, iI_lt, iI_le, iI_eq, iI_clamp, iI_s, iI_m1, iI_div, bs, tn, tn4, tn12, tn20, tn124, tn28, itT, itF, if_pos, if_neg, f_X8_whatWas, g1, g3, bse])
  · exact e_no hS (-1) 1 (by omega) (by omega) (by simp (disch := omega) only [li_0, li_1, li_2, li_3, li_4, li_5, li_6, li_7, li_8, li_9, li_10, li_11, li_12, li_16, li_19, li_20, li_28, li_48, li_57, li_59, li_60, li_96, li_97, li_99, li_100, li_102, li_103, li_104, li_112, li_115, li_116, li_118, li_119, li_121, li_124, li_132, li_255, li_256, li_1000, li_2000, li_1000000000, iI_add, iI_sub, iI_mul, iI_neg, iI_lt, iI_le, iI_eq, iI_clamp, iI_s, iI_m1, iI_div, bs, tn, tn4, tn12, tn20, tn124, tn28, itT, itF, if_pos, if_neg, f_X7_whatWas, e1, bse]) (fun S1 q1 q2 => by
      have g1 := rThing (S := S1) (by rw [q1]; exact m0) hN8 x1 x2
      simp (disch := omega) only [li_0, li_1, li_2, li_3, li_4, li_5, li_6, li_7, li_8, li_9, li_10, li_11, li_12, li_16, li_19, li_20, li_28, li_48, li_57, li_59, li_60, li_96, li_97, li_99, li_100, li_102, li_103, li_104, li_112, li_115, li_116, li_118, li_119, li_121, li_124, li_132, li_255, li_256, li_1000, li_2000, li_1000000000, iI_add, iI_sub, iI_mul, iI_neg, iI_lt, iI_le, iI_eq, iI_clamp, iI_s, iI_m1, iI_div, bs, tn, tn4, tn12, tn20, tn124, tn28, itT, itF, if_pos, if_neg, f_X8_whatWas, g1, bse])
