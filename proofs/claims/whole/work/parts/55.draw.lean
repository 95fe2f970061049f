-- ===== lots =====
def nx (s : Int32) : Int32 := s * 1664525 + 1013904223
def dz (s : Int32) (m : Int) : Int := ((s.toBitVec.toNat % 2147483648 : Nat) : Int) / 256 - ((s.toBitVec.toNat % 2147483648 : Nat) : Int) / 256 / m * m
theorem and31 (x : Int32) : x &&& 2147483647 = iI ((x.toBitVec.toNat % 2147483648 : Nat) : Int) := by
  rw [pk_and x 31 (by decide +kernel), iI_nI]
theorem cDraw {S : St} {m : Int} (hm : m = 60 ∨ m = 4) : f_X7_draw (iI m) S = some (iI (dz (nx (S.1 0 12)) m), up S 0 12 (nx (S.1 0 12))) := by
  have b : (nx (S.1 0 12)).toBitVec.toNat % 2147483648 < 2147483648 := Nat.mod_lt _ (by omega)
  have e : S.1 0 12 * 1664525 + 1013904223 = nx (S.1 0 12) := rfl
  have ha := and31 (nx (S.1 0 12))
  rcases hm with rfl | rfl
  · simp (disch := omega) only [li_0, li_1, li_2, li_3, li_4, li_5, li_6, li_7, li_8, li_9, li_10, li_11, li_12, li_16, li_19, li_20, li_28, li_48, li_57, li_59, li_60, li_96, li_97, li_99, li_100, li_102, li_103, li_104, li_112, li_115, li_116, li_118, li_119, li_121, li_124, li_132, li_255, li_256, li_1000, li_2000, li_1000000000, iI_add, iI_sub, iI_mul, iI_neg, iI_lt, iI_le, iI_eq, iI_clamp, iI_s, iI_m1, iI_div, bs, tn, tn4, tn12, tn20, tn124, tn28, itT, itF, if_pos, if_neg, up_s, up_n, f_X7_draw, e, ha, dz]
  · simp (disch := omega) only [li_0, li_1, li_2, li_3, li_4, li_5, li_6, li_7, li_8, li_9, li_10, li_11, li_12, li_16, li_19, li_20, li_28, li_48, li_57, li_59, li_60, li_96, li_97, li_99, li_100, li_102, li_103, li_104, li_112, li_115, li_116, li_118, li_119, li_121, li_124, li_132, li_255, li_256, li_1000, li_2000, li_1000000000, iI_add, iI_sub, iI_mul, iI_neg, iI_lt, iI_le, iI_eq, iI_clamp, iI_s, iI_m1, iI_div, bs, tn, tn4, tn12, tn20, tn124, tn28, itT, itF, if_pos, if_neg, up_s, up_n, f_X7_draw, e, ha, dz]
theorem rDraw {S : St} {m : Int} (hm : m = 60 ∨ m = 4) : f_X8_drawn (iI m) S = some (iI (dz (nx (S.1 74 15)) m), up S 74 15 (nx (S.1 74 15))) := by
  have b : (nx (S.1 74 15)).toBitVec.toNat % 2147483648 < 2147483648 := Nat.mod_lt _ (by omega)
  have e : S.1 74 15 * 1664525 + 1013904223 = nx (S.1 74 15) := rfl
  have ha := and31 (nx (S.1 74 15))
  rcases hm with rfl | rfl
  · simp (disch := omega) only [li_0, li_1, li_2, li_3, li_4, li_5, li_6, li_7, li_8, li_9, li_10, li_11, li_12, li_16, li_19, li_20, li_28, li_48, li_57, li_59, li_60, li_96, li_97, li_99, li_100, li_102, li_103, li_104, li_112, li_115, li_116, li_118, li_119, li_121, li_124, li_132, li_255, li_256, li_1000, li_2000, li_1000000000, iI_add, iI_sub, iI_mul, iI_neg, iI_lt, iI_le, iI_eq, iI_clamp, iI_s, iI_m1, iI_div, bs, tn, tn4, tn12, tn20, tn124, tn28, itT, itF, if_pos, if_neg, up_s, up_n, f_X8_drawn, e, ha, dz]
  · simp (disch := omega) only [li_0, li_1, li_2, li_3, li_4, li_5, li_6, li_7, li_8, li_9, li_10, li_11, li_12, li_16, li_19, li_20, li_28, li_48, li_57, li_59, li_60, li_96, li_97, li_99, li_100, li_102, li_103, li_104, li_112, li_115, li_116, li_118, li_119, li_121, li_124, li_132, li_255, li_256, li_1000, li_2000, li_1000000000, iI_add, iI_sub, iI_mul, iI_neg, iI_lt, iI_le, iI_eq, iI_clamp, iI_s, iI_m1, iI_div, bs, tn, tn4, tn12, tn20, tn124, tn28, itT, itF, if_pos, if_neg, up_s, up_n, f_X8_drawn, e, ha, dz]
theorem dz_b (s : Int32) {m : Int} (hm : m = 60 ∨ m = 4) : 0 ≤ dz s m ∧ dz s m < m := by
  unfold dz
  rcases hm with rfl | rfl <;> omega
