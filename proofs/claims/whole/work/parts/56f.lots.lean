-- ===== lots 56f =====
theorem e_lots {S : St} (hS : Inv S) (a1 : Int32) (a2 : Int32) (a3 : Int32) : ∃ (z1 : Int32 × St) (z2 : Int32 × St), f_X7_lots a1 a2 a3 S = some z1 ∧ f_X8_lots a1 a2 a3 z1.2 = some z2 ∧ z1.1 = z2.1 ∧ Inv z2.2 := by
  obtain ⟨⟨a, hw, hc, hm0⟩, -⟩ := id hS
  have hm : ∀ k, k < 132 → S.1 75 k = iI (a k) := hm0
  have h8 := hw.1
  have w1 := hw.2.1
  have w2 := hw.2.2.1
  have w3 := hw.2.2.2.1
  obtain ⟨now, hnow⟩ : ∃ n : Nat, a 1 = n := ⟨(a 1).toNat, by omega⟩
  obtain ⟨N, hN⟩ : ∃ n : Nat, a 0 = n := ⟨(a 0).toNat, by omega⟩
  have hn : now ≤ 11 := by omega
  have hN8 : N ≤ 8 := by omega
  have p1 : S.1 1 1 = iI now := by rw [hc.1 1 (by omega), hnow]
  have p0 : S.1 1 0 = iI N := by rw [hc.1 0 (by omega), hN]
  have m0 : S.1 75 0 = iI N := by rw [hm 0 (by omega), hN]
  have m1 : S.1 75 1 = iI now := by rw [hm 1 (by omega), hnow]
  obtain ⟨x, x1, x2, rfl⟩ := iI_any a1
  obtain ⟨z, z1, z2, rfl⟩ := iI_any a3
  have e1 := cOut (z := x) (l := 1) (u := 20) x1 x2 (by omega) (by omega) (by omega) (by omega)
  have e3 := cTwo z1 z2
  have g3 := rIn (x := z) (l := 0) (u := 1) z1 z2 (by omega) (by omega) (by omega) (by omega)
  by_cases c1 : x < 1
  · exact e_no hS (-4) 4 (by omega) (by omega) (by simp (disch := omega) only [li_0, li_1, li_2, li_3, li_4, li_5, li_6, li_7, li_8, li_9, li_10, li_11, li_12, li_16, li_19, li_20, li_28, li_48, li_57, li_59, li_60, li_96, li_97, li_99, li_100, li_102, li_103, li_104, li_112, li_115, li_116, li_118, li_119, li_121, li_124, li_132, li_255, li_256, li_1000, li_2000, li_1000000000, iI_add, iI_sub, iI_mul, iI_neg, iI_lt, iI_le, iI_eq, iI_clamp, iI_s, iI_m1, iI_div, bs, tn, tn4, tn12, tn20, tn124, tn28, itT, itF, if_pos, if_neg, f_X7_lots, e1, bse]) (fun S1 q1 q2 => by simp (disch := omega) only [li_0, li_1, li_2, li_3, li_4, li_5, li_6, li_7, li_8, li_9, li_10, li_11, li_12, li_16, li_19, li_20, li_28, li_48, li_57, li_59, li_60, li_96, li_97, li_99, li_100, li_102, li_103, li_104, li_112, li_115, li_116, li_118, li_119, li_121, li_124, li_132, li_255, li_256, li_1000, li_2000, li_1000000000, iI_add, iI_sub, iI_mul, iI_neg, iI_lt, iI_le, iI_eq, iI_clamp, iI_s, iI_m1, iI_div, bs, tn, tn4, tn12, tn20, tn124, tn28, itT, itF, if_pos, if_neg, f_X8_lots, bse])
  · by_cases c2 : 20 < x
    · exact e_no hS (-6) 6 (by omega) (by omega) (by simp (disch := omega) only [li_0, li_1, li_2, li_3, li_4, li_5, li_6, li_7, li_8, li_9, li_10, li_11, li_12, li_16, li_19, li_20, li_28, li_48, li_57, li_59, li_60, li_96, li_97, li_99, li_100, li_102, li_103, li_104, li_112, li_115, li_116, li_118, li_119, li_121, li_124, li_132, li_255, li_256, li_1000, li_2000, li_1000000000, iI_add, iI_sub, iI_mul, iI_neg, iI_lt, iI_le, iI_eq, iI_clamp, iI_s, iI_m1, iI_div, bs, tn, tn4, tn12, tn20, tn124, tn28, itT, itF, if_pos, if_neg, f_X7_lots, e1, bse]) (fun S1 q1 q2 => by simp (disch := omega) only [li_0, li_1, li_2, li_3, li_4, li_5, li_6, li_7, li_8, li_9, li_10, li_11, li_12, li_16, li_19, li_20, li_28, li_48, li_57, li_59, li_60, li_96, li_97, li_99, li_100, li_102, li_103, li_104, li_112, li_115, li_116, li_118, li_119, li_121, li_124, li_132, li_255, li_256, li_1000, li_2000, li_1000000000, iI_add, iI_sub, iI_mul, iI_neg, iI_lt, iI_le, iI_eq, iI_clamp, iI_s, iI_m1, iI_div, bs, tn, tn4, tn12, tn20, tn124, tn28, itT, itF, if_pos, if_neg, f_X8_lots, bse])
    · by_cases c3 : 0 ≤ z ∧ z ≤ 1
      · obtain ⟨M, rfl⟩ : ∃ n : Nat, x = n := ⟨x.toNat, by omega⟩
        have hc1 : RC (up S 0 12 a2) 1 a := hc.ne (by omega)
        obtain ⟨S1, c4, c5⟩ := cLotsL (S := up S 0 12 a2) hc1 hw hN hn hnow a2 (M := M) (by omega) (z := z) (by omega) (k := fun y10 S11 => some (y10, S11)) M 2000 0 (up S 0 12 a2) (by omega) (by omega) (fun _ _ _ => rfl) up_s
        have d5 : f_X7_lots_L46 2000 (iI M) (iI z) (iI 0) (iI 0) (up S 0 12 a2) (fun y10 S11 => some (y10, S11)) = some (iI (sLots a a2 N now z M).1, S1) := c5
        have hm1 : RM (up S1 74 15 a2) 75 a := by
          refine RM.ne (fun k hk => ?_) (by omega)
          rw [c4 _ _ (by omega), up_ne (by omega)]; exact hm k hk
        obtain ⟨S2, f4, f5⟩ := rLotsL (S := up S1 74 15 a2) hm1 hw hN hn hnow a2 (M := M) (by omega) (z := z) (by omega) (k := fun y18 S19 => some (y18, S19)) M 2000 0 (up S1 74 15 a2) (by omega) (by omega) (fun _ _ _ => rfl) up_s
        have g5 : f_X8_lots_L52 2000 (iI M) (iI z) (iI 0) (iI 0) (up S1 74 15 a2) (fun y18 S19 => some (y18, S19)) = some (iI (sLots a a2 N now z M).1, S2) := f5
        have i9 : Inv S2 := hS.sm (fun i k hs => by
          unfold scr at hs
          rw [f4 _ _ (by omega), up_n (by omega), c4 _ _ (by omega), up_n (by omega)])
        exact e_mk (v := iI (sLots a a2 N now z M).1) (S1 := S1) (S2 := S2) (by simp (disch := omega) only [li_0, li_1, li_2, li_3, li_4, li_5, li_6, li_7, li_8, li_9, li_10, li_11, li_12, li_16, li_19, li_20, li_28, li_48, li_57, li_59, li_60, li_96, li_97, li_99, li_100, li_102, li_103, li_104, li_112, li_115, li_116, li_118, li_119, li_121, li_124, li_132, li_255, li_256, li_1000, li_2000, li_1000000000, iI_add, iI_sub, iI_mul, iI_neg, iI_lt, iI_le, iI_eq, iI_clamp, iI_s, iI_m1, iI_div, bs, tn, tn4, tn12, tn20, tn124, tn28, itT, itF, if_pos, if_neg, f_X7_lots, e1, e3, d5]) (by simp (disch := omega) only [li_0, li_1, li_2, li_3, li_4, li_5, li_6, li_7, li_8, li_9, li_10, li_11, li_12, li_16, li_19, li_20, li_28, li_48, li_57, li_59, li_60, li_96, li_97, li_99, li_100, li_102, li_103, li_104, li_112, li_115, li_116, li_118, li_119, li_121, li_124, li_132, li_255, li_256, li_1000, li_2000, li_1000000000, iI_add, iI_sub, iI_mul, iI_neg, iI_lt, iI_le, iI_eq, iI_clamp, iI_s, iI_m1, iI_div, bs, tn, tn4, tn12, tn20, tn124, tn28, itT, itF, if_pos, if_neg, f_X8_lots, g3, g5]) i9
      · exact e_no hS (-2) 2 (by omega) (by omega) (by simp (disch := omega) only [li_0, li_1, li_2, li_3, li_4, li_5, li_6, li_7, li_8, li_9, li_10, li_11, li_12, li_16, li_19, li_20, li_28, li_48, li_57, li_59, li_60, li_96, li_97, li_99, li_100, li_102, li_103, li_104, li_112, li_115, li_116, li_118, li_119, li_121, li_124, li_132, li_255, li_256, li_1000, li_2000, li_1000000000, iI_add, iI_sub, iI_mul, iI_neg, iI_lt, iI_le, iI_eq, iI_clamp, iI_s, iI_m1, iI_div, bs, tn, tn4, tn12, tn20, tn124, tn28, itT, itF, if_pos, if_neg, f_X7_lots, e1, e3, bse]) (fun S1 q1 q2 => by simp (disch := omega) only [li_0, li_1, li_2, li_3, li_4, li_5, li_6, li_7, li_8, li_9, li_10, li_11, li_12, li_16, li_19, li_20, li_28, li_48, li_57, li_59, li_60, li_96, li_97, li_99, li_100, li_102, li_103, li_104, li_112, li_115, li_116, li_118, li_119, li_121, li_124, li_132, li_255, li_256, li_1000, li_2000, li_1000000000, iI_add, iI_sub, iI_mul, iI_neg, iI_lt, iI_le, iI_eq, iI_clamp, iI_s, iI_m1, iI_div, bs, tn, tn4, tn12, tn20, tn124, tn28, itT, itF, if_pos, if_neg, f_X8_lots, g3, bse])
