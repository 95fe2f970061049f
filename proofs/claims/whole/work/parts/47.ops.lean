theorem RT.ne {S : St} {t : Nat} {a : Nat → Int} {j : Nat} (h : RT S t a j) {i k : Nat} {x : Int32} (h1 : i ≠ t) (h2 : i ≠ t + 1) : RT (up S i k x) t a j := by
  refine ⟨?_, ?_, ?_, fun y hy => ?_⟩
  · rw [up_ne (fun e => h1 e.symm)]; exact h.1
  · rw [up_ne (fun e => h1 e.symm)]; exact h.2.1
  · rw [up_ne (fun e => h1 e.symm)]; exact h.2.2.1
  · rw [up_ne (fun e => h2 e.symm)]; exact h.2.2.2 y hy
theorem st_comm {a : Nat → Int} {i k : Nat} {u v : Int} (h : i ≠ k) : st (st a i u) k v = st (st a k v) i u := by
  funext x
  show (if x = k then v else if x = i then u else a x) = (if x = i then u else if x = k then v else a x)
  by_cases e : x = k
  · rw [if_pos e, if_neg (by omega), if_pos e]
  · rw [if_neg e, if_neg e]
theorem sCost_st {a : Nat → Int} {j k : Nat} {v : Int} (h1 : 4 + j ≠ k) (h2 : 12 + j ≠ k) : sCost (st a k v) j = sCost a j := by
  unfold sCost
  rw [st_n h1, st_n h2]
-- ===== gluing =====
theorem cGlue {S : St} {q : Nat} {a : Nat → Int} {j now : Nat} (hc : RC S q a) (hw : WFa a) (hj : j < 8) (hs : (j : Int) < a 0) (hnow : a 1 = now) {m f : Int} (h1 : 0 ≤ m ∧ m ≤ 999) (h2 : 0 ≤ f ∧ f ≤ 999) :
    f_X3_glue q (iI j) (iI m) (iI f) S = if a (20 + j) < 0 ∧ sCost a j ≤ a 2 then some (iI 1, up (up S q 2 (iI (a 2 - sCost a j))) (q + 1 + 2 + 2 * j) 2 (iI (sY a j now m f))) else some (iI 0, S) := by
  have h8 := hw.1
  have w1 := hw.2.1
  have w2 := hw.2.2.1
  have ht := hc.t hj hs
  have hwt := hw.t hj
  have e1 := cLacks hc hw (z := j) (by omega) (by omega)
  have e2 : ∀ S' : St, f_X3_at q (iI j) S' = some (q + 1 + 2 + 2 * j) := fun S' => cAt hj
  have e3 := cSet ht hwt
  have e4 := cCost ht hwt
  have b4 := sCost_b hwt
  have e5 := cY (ht.ne (i := q) (k := 2) (x := iI (a 2 - sCost a j)) (by omega) (by omega)) hwt (now := now) (by omega) h1 h2
  have p1 : S.1 q 1 = iI now := by rw [hc.1 1 (by omega), hnow]
  have p2 := hc.1 2 (by omega)
  by_cases c1 : a (20 + j) < 0
  · by_cases c2 : sCost a j ≤ a 2
    · simp (disch := omega) only [li_0, li_1, li_2, li_3, li_4, li_5, li_6, li_7, li_8, li_9, li_10, li_11, li_12, li_16, li_19, li_20, li_28, li_48, li_57, li_59, li_60, li_96, li_97, li_99, li_100, li_102, li_103, li_104, li_112, li_115, li_116, li_118, li_119, li_121, li_124, li_132, li_255, li_256, li_1000, li_2000, li_1000000000, iI_add, iI_sub, iI_mul, iI_neg, iI_lt, iI_le, iI_eq, iI_clamp, iI_s, iI_m1, iI_div, bs, tn, tn4, tn12, tn20, tn124, tn28, itT, itF, if_pos, if_neg, up_s, up_n, f_X3_glue, e1, e2, e3, e4, p2, e5, p1]
    · simp (disch := omega) only [li_0, li_1, li_2, li_3, li_4, li_5, li_6, li_7, li_8, li_9, li_10, li_11, li_12, li_16, li_19, li_20, li_28, li_48, li_57, li_59, li_60, li_96, li_97, li_99, li_100, li_102, li_103, li_104, li_112, li_115, li_116, li_118, li_119, li_121, li_124, li_132, li_255, li_256, li_1000, li_2000, li_1000000000, iI_add, iI_sub, iI_mul, iI_neg, iI_lt, iI_le, iI_eq, iI_clamp, iI_s, iI_m1, iI_div, bs, tn, tn4, tn12, tn20, tn124, tn28, itT, itF, if_pos, if_neg, up_s, up_n, f_X3_glue, e1, e2, e3, e4, p2]
  · simp (disch := omega) only [li_0, li_1, li_2, li_3, li_4, li_5, li_6, li_7, li_8, li_9, li_10, li_11, li_12, li_16, li_19, li_20, li_28, li_48, li_57, li_59, li_60, li_96, li_97, li_99, li_100, li_102, li_103, li_104, li_112, li_115, li_116, li_118, li_119, li_121, li_124, li_132, li_255, li_256, li_1000, li_2000, li_1000000000, iI_add, iI_sub, iI_mul, iI_neg, iI_lt, iI_le, iI_eq, iI_clamp, iI_s, iI_m1, iI_div, bs, tn, tn4, tn12, tn20, tn124, tn28, itT, itF, if_pos, if_neg, up_s, up_n, f_X3_glue, e1, e2, e3]
theorem rCanG {S : St} {a : Nat → Int} {j : Nat} (hm : ∀ k, k < 132 → S.1 75 k = iI (a k)) (hw : WFa a) (hj : j < 8) : f_X8_canGlue (iI j) S = some (iI (if a (20 + j) < 0 ∧ sCost a j ≤ a 2 then 1 else 0)) := by
  have w2 := hw.2.2.1
  have hwt := hw.t hj
  have k := hwt.2.2.1
  have e4 := rCost hm hj hwt
  have b4 := sCost_b hwt
  by_cases c1 : a (20 + j) < 0
  · by_cases c2 : sCost a j ≤ a 2
    · simp (disch := omega) only [li_0, li_1, li_2, li_3, li_4, li_5, li_6, li_7, li_8, li_9, li_10, li_11, li_12, li_16, li_19, li_20, li_28, li_48, li_57, li_59, li_60, li_96, li_97, li_99, li_100, li_102, li_103, li_104, li_112, li_115, li_116, li_118, li_119, li_121, li_124, li_132, li_255, li_256, li_1000, li_2000, li_1000000000, iI_add, iI_sub, iI_mul, iI_neg, iI_lt, iI_le, iI_eq, iI_clamp, iI_s, iI_m1, iI_div, bs, tn, tn4, tn12, tn20, tn124, tn28, itT, itF, if_pos, if_neg, f_X8_canGlue, hm, e4]
    · simp (disch := omega) only [li_0, li_1, li_2, li_3, li_4, li_5, li_6, li_7, li_8, li_9, li_10, li_11, li_12, li_16, li_19, li_20, li_28, li_48, li_57, li_59, li_60, li_96, li_97, li_99, li_100, li_102, li_103, li_104, li_112, li_115, li_116, li_118, li_119, li_121, li_124, li_132, li_255, li_256, li_1000, li_2000, li_1000000000, iI_add, iI_sub, iI_mul, iI_neg, iI_lt, iI_le, iI_eq, iI_clamp, iI_s, iI_m1, iI_div, bs, tn, tn4, tn12, tn20, tn124, tn28, itT, itF, if_pos, if_neg, f_X8_canGlue, hm, e4]
  · simp (disch := omega) only [li_0, li_1, li_2, li_3, li_4, li_5, li_6, li_7, li_8, li_9, li_10, li_11, li_12, li_16, li_19, li_20, li_28, li_48, li_57, li_59, li_60, li_96, li_97, li_99, li_100, li_102, li_103, li_104, li_112, li_115, li_116, li_118, li_119, li_121, li_124, li_132, li_255, li_256, li_1000, li_2000, li_1000000000, iI_add, iI_sub, iI_mul, iI_neg, iI_lt, iI_le, iI_eq, iI_clamp, iI_s, iI_m1, iI_div, bs, tn, tn4, tn12, tn20, tn124, tn28, itT, itF, if_pos, if_neg, f_X8_canGlue, hm, e4]
theorem rGlue {S : St} {a : Nat → Int} {j now : Nat} (hm : ∀ k, k < 132 → S.1 75 k = iI (a k)) (hw : WFa a) (hj : j < 8) (hnow : a 1 = now) {m f : Int} (h1 : 0 ≤ m ∧ m ≤ 999) (h2 : 0 ≤ f ∧ f ≤ 999) :
    f_X8_gluesTo (iI j) (iI m) (iI f) S = some (iI (sY a j now m f), up (up S 75 (20 + j) (iI (sY a j now m f))) 75 2 (iI (a 2 - sCost a j))) := by
  have w1 := hw.2.1
  have hwt := hw.t hj
  have e4 := rY hm hj hwt (now := now) (by omega) hnow h1 h2
  have yb := sY_le a j now m f
  have hm2 : ∀ k, k < 132 → (up S 75 (20 + j) (iI (sY a j now m f))).1 75 k = iI (st a (20 + j) (sY a j now m f) k) := RM.st hm _ _
  have e5 := rCost hm2 hj ((hw.sts (i := j) (v := sY a j now m f) (by omega) (by omega)).t hj)
  rw [sCost_st (by omega) (by omega)] at e5
  have p2 := hm 2 (by omega)
  simp (disch := omega) only [li_0, li_1, li_2, li_3, li_4, li_5, li_6, li_7, li_8, li_9, li_10, li_11, li_12, li_16, li_19, li_20, li_28, li_48, li_57, li_59, li_60, li_96, li_97, li_99, li_100, li_102, li_103, li_104, li_112, li_115, li_116, li_118, li_119, li_121, li_124, li_132, li_255, li_256, li_1000, li_2000, li_1000000000, iI_add, iI_sub, iI_mul, iI_neg, iI_lt, iI_le, iI_eq, iI_clamp, iI_s, iI_m1, iI_div, bs, tn, tn4, tn12, tn20, tn124, tn28, itT, itF, if_pos, if_neg, up_s, up_n, f_X8_gluesTo, e4, e5, p2]
theorem e_glues {S : St} (hS : Inv S) (a1 : Int32) (a2 : Int32) (a3 : Int32) : ∃ (z1 : Int32 × St) (z2 : Int32 × St), f_X7_glues a1 a2 a3 S = some z1 ∧ f_X8_glues a1 a2 a3 z1.2 = some z2 ∧ z1.1 = z2.1 ∧ Inv z2.2 := by
  obtain ⟨⟨a, hw, hc, hm0⟩, -⟩ := id hS
  have hm : ∀ k, k < 132 → S.1 75 k = iI (a k) := hm0
  have h8 := hw.1
  have w1 := hw.2.1
  have w2 := hw.2.2.1
  have w3 := hw.2.2.2.1
  obtain ⟨now, hnow⟩ : ∃ n : Nat, a 1 = n := ⟨(a 1).toNat, by omega⟩
  obtain ⟨N, hN⟩ : ∃ n : Nat, a 0 = n := ⟨(a 0).toNat, by omega⟩
  have hn : now ≤ 11 := by omega
  have hN8 : N ≤ 8 := by omega
  have p1 : S.1 1 1 = iI now := by rw [hc.1 1 (by omega), hnow]
  have p0 : S.1 1 0 = iI N := by rw [hc.1 0 (by omega), hN]
  have m0 : S.1 75 0 = iI N := by rw [hm 0 (by omega), hN]
  have m1 : S.1 75 1 = iI now := by rw [hm 1 (by omega), hnow]
  obtain ⟨x, x1, x2, rfl⟩ := iI_any a1
  obtain ⟨y, y1, y2, rfl⟩ := iI_any a2
  obtain ⟨z, z1, z2, rfl⟩ := iI_any a3
  have e1 := cHeld hc hw x1 x2 y1 y2 z1 z2
  by_cases c : 0 ≤ x ∧ x < a 0
  · obtain ⟨j, rfl⟩ : ∃ n : Nat, x = n := ⟨x.toNat, by omega⟩
    have ht := hc.t (j := j) (by omega) (by omega)
    have hwt := hw.t (j := j) (by omega)
    have e2 := cAt (S := S) (q := 1) (j := j) (by omega)
    by_cases c1 : y < 0 ∨ z < 0
    · exact e_no hS (-4) 4 (by omega) (by omega) (by simp (disch := omega) only [li_0, li_1, li_2, li_3, li_4, li_5, li_6, li_7, li_8, li_9, li_10, li_11, li_12, li_16, li_19, li_20, li_28, li_48, li_57, li_59, li_60, li_96, li_97, li_99, li_100, li_102, li_103, li_104, li_112, li_115, li_116, li_118, li_119, li_121, li_124, li_132, li_255, li_256, li_1000, li_2000, li_1000000000, iI_add, iI_sub, iI_mul, iI_neg, iI_lt, iI_le, iI_eq, iI_clamp, iI_s, iI_m1, iI_div, bs, tn, tn4, tn12, tn20, tn124, tn28, itT, itF, if_pos, if_neg, f_X7_glues, e1, bse]) (fun S1 q1 q2 => by
        have g1 := rWrong (S := S1) (by rw [q1]; exact m0) hN8 x1 x2 y1 y2 z1 z2
        simp (disch := omega) only [li_0, li_1, li_2, li_3, li_4, li_5, li_6, li_7, li_8, li_9, li_10, li_11, li_12, li_16, li_19, li_20, li_28, li_48, li_57, li_59, li_60, li_96, li_97, li_99, li_100, li_102, li_103, li_104, li_112, li_115, li_116, li_118, li_119, li_121, li_124, li_132, li_255, li_256, li_1000, li_2000, li_1000000000, iI_add, iI_sub, iI_mul, iI_neg, iI_lt, iI_le, iI_eq, iI_clamp, iI_s, iI_m1, iI_div, bs, tn, tn4, tn12, tn20, tn124, tn28, itT, itF, if_pos, if_neg, f_X8_glues, g1, bse])
    · by_cases c2 : 99 < y ∨ 9 < z
      · exact e_no hS (-6) 6 (by omega) (by omega) (by simp (disch := omega) only [li_0, li_1, li_2, li_3, li_4, li_5, li_6, li_7, li_8, li_9, li_10, li_11, li_12, li_16, li_19, li_20, li_28, li_48, li_57, li_59, li_60, li_96, li_97, li_99, li_100, li_102, li_103, li_104, li_112, li_115, li_116, li_118, li_119, li_121, li_124, li_132, li_255, li_256, li_1000, li_2000, li_1000000000, iI_add, iI_sub, iI_mul, iI_neg, iI_lt, iI_le, iI_eq, iI_clamp, iI_s, iI_m1, iI_div, bs, tn, tn4, tn12, tn20, tn124, tn28, itT, itF, if_pos, if_neg, f_X7_glues, e1, bse]) (fun S1 q1 q2 => by
          have g1 := rWrong (S := S1) (by rw [q1]; exact m0) hN8 x1 x2 y1 y2 z1 z2
          simp (disch := omega) only [li_0, li_1, li_2, li_3, li_4, li_5, li_6, li_7, li_8, li_9, li_10, li_11, li_12, li_16, li_19, li_20, li_28, li_48, li_57, li_59, li_60, li_96, li_97, li_99, li_100, li_102, li_103, li_104, li_112, li_115, li_116, li_118, li_119, li_121, li_124, li_132, li_255, li_256, li_1000, li_2000, li_1000000000, iI_add, iI_sub, iI_mul, iI_neg, iI_lt, iI_le, iI_eq, iI_clamp, iI_s, iI_m1, iI_div, bs, tn, tn4, tn12, tn20, tn124, tn28, itT, itF, if_pos, if_neg, f_X8_glues, g1, bse])
      · have e3 := cGlue hc hw (j := j) (by omega) (by omega) hnow (m := y) (f := z) (by omega) (by omega)
        by_cases c3 : a (20 + j) < 0 ∧ sCost a j ≤ a 2
        · rw [if_pos c3] at e3
          have yb := sY_le a j now y z
          have b4 := sCost_b hwt
          have e4 : ∀ S' : St, f_X3_at 1 (iI j) S' = some (1 + 1 + 2 + 2 * j) := fun S' => cAt (by omega)
          have hmm : ∀ k, k < 132 → (up (up S 1 2 (iI (a 2 - sCost a j))) (1 + 1 + 2 + 2 * j) 2 (iI (sY a j now y z))).1 75 k = iI (a k) := (hm0.ne (by omega)).ne (by omega)
          have m0' := hmm 0 (by omega)
          rw [hN] at m0'
          have g1 := rWrong m0' hN8 x1 x2 y1 y2 z1 z2
          have g2 := rCanG hmm hw (j := j) (by omega)
          have g3 := rGlue hmm hw (j := j) (by omega) hnow (m := y) (f := z) (by omega) (by omega)
          refine e_mk (v := iI (sY a j now y z)) (S1 := up (up S 1 2 (iI (a 2 - sCost a j))) (1 + 1 + 2 + 2 * j) 2 (iI (sY a j now y z))) (S2 := up (up (up (up S 1 2 (iI (a 2 - sCost a j))) (1 + 1 + 2 + 2 * j) 2 (iI (sY a j now y z))) 75 (20 + j) (iI (sY a j now y z))) 75 2 (iI (a 2 - sCost a j))) (by simp (disch := omega) only [li_0, li_1, li_2, li_3, li_4, li_5, li_6, li_7, li_8, li_9, li_10, li_11, li_12, li_16, li_19, li_20, li_28, li_48, li_57, li_59, li_60, li_96, li_97, li_99, li_100, li_102, li_103, li_104, li_112, li_115, li_116, li_118, li_119, li_121, li_124, li_132, li_255, li_256, li_1000, li_2000, li_1000000000, iI_add, iI_sub, iI_mul, iI_neg, iI_lt, iI_le, iI_eq, iI_clamp, iI_s, iI_m1, iI_div, bs, tn, tn4, tn12, tn20, tn124, tn28, itT, itF, if_pos, if_neg, up_s, up_n, f_X7_glues, e1, e3, e4]) (by simp (disch := omega) only [li_0, li_1, li_2, li_3, li_4, li_5, li_6, li_7, li_8, li_9, li_10, li_11, li_12, li_16, li_19, li_20, li_28, li_48, li_57, li_59, li_60, li_96, li_97, li_99, li_100, li_102, li_103, li_104, li_112, li_115, li_116, li_118, li_119, li_121, li_124, li_132, li_255, li_256, li_1000, li_2000, li_1000000000, iI_add, iI_sub, iI_mul, iI_neg, iI_lt, iI_le, iI_eq, iI_clamp, iI_s, iI_m1, iI_div, bs, tn, tn4, tn12, tn20, tn124, tn28, itT, itF, if_pos, if_neg, up_s, up_n, f_X8_glues, g1, g2, g3]) ?_
          refine hS.shop ⟨st (st a 2 (a 2 - sCost a j)) (20 + j) (sY a j now y z), (hw.st0 (by omega)).sts (by omega) (by omega), (((hc.st0 (by omega) _).sts (by omega) _).ne (by omega)).ne (by omega), ?_⟩ (fun i k h => ?_)
          · rw [st_comm (by omega)]
            exact (((hm0.ne (by omega)).ne (by omega)).st _ _).st _ _
          · unfold scr at h
            simp (disch := omega) only [up_n]
        · rw [if_neg c3] at e3
          exact e_no hS (-3) 3 (by omega) (by omega) (by simp (disch := omega) only [li_0, li_1, li_2, li_3, li_4, li_5, li_6, li_7, li_8, li_9, li_10, li_11, li_12, li_16, li_19, li_20, li_28, li_48, li_57, li_59, li_60, li_96, li_97, li_99, li_100, li_102, li_103, li_104, li_112, li_115, li_116, li_118, li_119, li_121, li_124, li_132, li_255, li_256, li_1000, li_2000, li_1000000000, iI_add, iI_sub, iI_mul, iI_neg, iI_lt, iI_le, iI_eq, iI_clamp, iI_s, iI_m1, iI_div, bs, tn, tn4, tn12, tn20, tn124, tn28, itT, itF, if_pos, if_neg, f_X7_glues, e1, e3, bse]) (fun S1 q1 q2 => by
            have hmm : ∀ k, k < 132 → S1.1 75 k = iI (a k) := fun k hk => by rw [q1]; exact hm k hk
            have g1 := rWrong (S := S1) (by rw [q1]; exact m0) hN8 x1 x2 y1 y2 z1 z2
            have g2 := rCanG hmm hw (j := j) (by omega)
            simp (disch := omega) only [li_0, li_1, li_2, li_3, li_4, li_5, li_6, li_7, li_8, li_9, li_10, li_11, li_12, li_16, li_19, li_20, li_28, li_48, li_57, li_59, li_60, li_96, li_97, li_99, li_100, li_102, li_103, li_104, li_112, li_115, li_116, li_118, li_119, li_121, li_124, li_132, li_255, li_256, li_1000, li_2000, li_1000000000, iI_add, iI_sub, iI_mul, iI_neg, iI_lt, iI_le, iI_eq, iI_clamp, iI_s, iI_m1, iI_div, bs, tn, tn4, tn12, tn20, tn124, tn28, itT, itF, if_pos, if_neg, f_X8_glues, g1, g2, bse])
  · exact e_no hS (-1) 1 (by omega) (by omega) (by simp (disch := omega) only [li_0, li_1, li_2, li_3, li_4, li_5, li_6, li_7, li_8, li_9, li_10, li_11, li_12, li_16, li_19, li_20, li_28, li_48, li_57, li_59, li_60, li_96, li_97, li_99, li_100, li_102, li_103, li_104, li_112, li_115, li_116, li_118, li_119, li_121, li_124, li_132, li_255, li_256, li_1000, li_2000, li_1000000000, iI_add, iI_sub, iI_mul, iI_neg, iI_lt, iI_le, iI_eq, iI_clamp, iI_s, iI_m1, iI_div, bs, tn, tn4, tn12, tn20, tn124, tn28, itT, itF, if_pos, if_neg, f_X7_glues, e1, bse]) (fun S1 q1 q2 => by
      have g1 := rWrong (S := S1) (by rw [q1]; exact m0) hN8 x1 x2 y1 y2 z1 z2
      simp (disch := omega) only [li_0, li_1, li_2, li_3, li_4, li_5, li_6, li_7, li_8, li_9, li_10, li_11, li_12, li_16, li_19, li_20, li_28, li_48, li_57, li_59, li_60, li_96, li_97, li_99, li_100, li_102, li_103, li_104, li_112, li_115, li_116, li_118, li_119, li_121, li_124, li_132, li_255, li_256, li_1000, li_2000, li_1000000000, iI_add, iI_sub, iI_mul, iI_neg, iI_lt, iI_le, iI_eq, iI_clamp, iI_s, iI_m1, iI_div, bs, tn, tn4, tn12, tn20, tn124, tn28, itT, itF, if_pos, if_neg, f_X8_glues, g1, bse])
theorem e_washes {S : St} (hS : Inv S) (a1 : Int32) : ∃ (z1 : Int32 × St) (z2 : Int32 × St), f_X7_washes a1 S = some z1 ∧ f_X8_washes a1 z1.2 = some z2 ∧ z1.1 = z2.1 ∧ Inv z2.2 := by
  obtain ⟨⟨a, hw, hc, hm0⟩, -⟩ := id hS
  have hm : ∀ k, k < 132 → S.1 75 k = iI (a k) := hm0
  have h8 := hw.1
  have w1 := hw.2.1
  have w2 := hw.2.2.1
  have w3 := hw.2.2.2.1
  obtain ⟨now, hnow⟩ : ∃ n : Nat, a 1 = n := ⟨(a 1).toNat, by omega⟩
  obtain ⟨N, hN⟩ : ∃ n : Nat, a 0 = n := ⟨(a 0).toNat, by omega⟩
  have hn : now ≤ 11 := by omega
  have hN8 : N ≤ 8 := by omega
  have p1 : S.1 1 1 = iI now := by rw [hc.1 1 (by omega), hnow]
  have p0 : S.1 1 0 = iI N := by rw [hc.1 0 (by omega), hN]
  have m0 : S.1 75 0 = iI N := by rw [hm 0 (by omega), hN]
  have m1 : S.1 75 1 = iI now := by rw [hm 1 (by omega), hnow]
  obtain ⟨x, x1, x2, rfl⟩ := iI_any a1
  have e1 := cLacks hc hw x1 x2
  by_cases c : 0 ≤ x ∧ x < a 0
  · obtain ⟨j, rfl⟩ : ∃ n : Nat, x = n := ⟨x.toNat, by omega⟩
    have ht := hc.t (j := j) (by omega) (by omega)
    have hwt := hw.t (j := j) (by omega)
    have e2 := cAt (S := S) (q := 1) (j := j) (by omega)
    have k := hwt.2.2.1
    have e3 := cSet ht hwt
    by_cases c1 : a (20 + j) < 0
    · exact e_no hS (-3) 3 (by omega) (by omega) (by simp (disch := omega) only [li_0, li_1, li_2, li_3, li_4, li_5, li_6, li_7, li_8, li_9, li_10, li_11, li_12, li_16, li_19, li_20, li_28, li_48, li_57, li_59, li_60, li_96, li_97, li_99, li_100, li_102, li_103, li_104, li_112, li_115, li_116, li_118, li_119, li_121, li_124, li_132, li_255, li_256, li_1000, li_2000, li_1000000000, iI_add, iI_sub, iI_mul, iI_neg, iI_lt, iI_le, iI_eq, iI_clamp, iI_s, iI_m1, iI_div, bs, tn, tn4, tn12, tn20, tn124, tn28, itT, itF, if_pos, if_neg, f_X7_washes, e1, e2, e3, bse]) (fun S1 q1 q2 => by
        have hmm : ∀ k, k < 132 → S1.1 75 k = iI (a k) := fun k hk => by rw [q1]; exact hm k hk
        have g1 := rThing (S := S1) (by rw [q1]; exact m0) hN8 x1 x2
        simp (disch := omega) only [li_0, li_1, li_2, li_3, li_4, li_5, li_6, li_7, li_8, li_9, li_10, li_11, li_12, li_16, li_19, li_20, li_28, li_48, li_57, li_59, li_60, li_96, li_97, li_99, li_100, li_102, li_103, li_104, li_112, li_115, li_116, li_118, li_119, li_121, li_124, li_132, li_255, li_256, li_1000, li_2000, li_1000000000, iI_add, iI_sub, iI_mul, iI_neg, iI_lt, iI_le, iI_eq, iI_clamp, iI_s, iI_m1, iI_div, bs, tn, tn4, tn12, tn20, tn124, tn28, itT, itF, if_pos, if_neg, f_X8_washes, g1, hmm, bse])
    · have m0' : (up S (1 + 1 + 2 + 2 * j) 2 (iI (-9))).1 75 0 = iI N := by simp (disch := omega) only [li_0, li_1, li_2, li_3, li_4, li_5, li_6, li_7, li_8, li_9, li_10, li_11, li_12, li_16, li_19, li_20, li_28, li_48, li_57, li_59, li_60, li_96, li_97, li_99, li_100, li_102, li_103, li_104, li_112, li_115, li_116, li_118, li_119, li_121, li_124, li_132, li_255, li_256, li_1000, li_2000, li_1000000000, iI_add, iI_sub, iI_mul, iI_neg, iI_lt, iI_le, iI_eq, iI_clamp, iI_s, iI_m1, iI_div, bs, tn, tn4, tn12, tn20, tn124, tn28, itT, itF, if_pos, if_neg, up_s, up_n, m0]
      have g1 := rThing m0' hN8 x1 x2
      refine e_mk (v := iI (a (20 + j))) (S1 := up S (1 + 1 + 2 + 2 * j) 2 (iI (-9))) (S2 := up (up S (1 + 1 + 2 + 2 * j) 2 (iI (-9))) 75 (20 + j) (iI (-9))) (by simp (disch := omega) only [li_0, li_1, li_2, li_3, li_4, li_5, li_6, li_7, li_8, li_9, li_10, li_11, li_12, li_16, li_19, li_20, li_28, li_48, li_57, li_59, li_60, li_96, li_97, li_99, li_100, li_102, li_103, li_104, li_112, li_115, li_116, li_118, li_119, li_121, li_124, li_132, li_255, li_256, li_1000, li_2000, li_1000000000, iI_add, iI_sub, iI_mul, iI_neg, iI_lt, iI_le, iI_eq, iI_clamp, iI_s, iI_m1, iI_div, bs, tn, tn4, tn12, tn20, tn124, tn28, itT, itF, if_pos, if_neg, up_s, up_n, f_X7_washes, e1, e2, e3, ht.2.2.1]) (by simp (disch := omega) only [li_0, li_1, li_2, li_3, li_4, li_5, li_6, li_7, li_8, li_9, li_10, li_11, li_12, li_16, li_19, li_20, li_28, li_48, li_57, li_59, li_60, li_96, li_97, li_99, li_100, li_102, li_103, li_104, li_112, li_115, li_116, li_118, li_119, li_121, li_124, li_132, li_255, li_256, li_1000, li_2000, li_1000000000, iI_add, iI_sub, iI_mul, iI_neg, iI_lt, iI_le, iI_eq, iI_clamp, iI_s, iI_m1, iI_div, bs, tn, tn4, tn12, tn20, tn124, tn28, itT, itF, if_pos, if_neg, up_s, up_n, f_X8_washes, g1, hm]) ?_
      refine hS.shop ⟨st a (20 + j) (-9), hw.sts (by omega) (by omega), (hc.sts (by omega) _).ne (by omega), (hm0.ne (by omega)).st _ _⟩ (fun i k h => ?_)
      unfold scr at h
      simp (disch := omega) only [up_n]
  · exact e_no hS (-1) 1 (by omega) (by omega) (by simp (disch := omega) only [li_0, li_1, li_2, li_3, li_4, li_5, li_6, li_7, li_8, li_9, li_10, li_11, li_12, li_16, li_19, li_20, li_28, li_48, li_57, li_59, li_60, li_96, li_97, li_99, li_100, li_102, li_103, li_104, li_112, li_115, li_116, li_118, li_119, li_121, li_124, li_132, li_255, li_256, li_1000, li_2000, li_1000000000, iI_add, iI_sub, iI_mul, iI_neg, iI_lt, iI_le, iI_eq, iI_clamp, iI_s, iI_m1, iI_div, bs, tn, tn4, tn12, tn20, tn124, tn28, itT, itF, if_pos, if_neg, f_X7_washes, e1, bse]) (fun S1 q1 q2 => by
      have g1 := rThing (S := S1) (by rw [q1]; exact m0) hN8 x1 x2
      simp (disch := omega) only [li_0, li_1, li_2, li_3, li_4, li_5, li_6, li_7, li_8, li_9, li_10, li_11, li_12, li_16, li_19, li_20, li_28, li_48, li_57, li_59, li_60, li_96, li_97, li_99, li_100, li_102, li_103, li_104, li_112, li_115, li_116, li_118, li_119, li_121, li_124, li_132, li_255, li_256, li_1000, li_2000, li_1000000000, iI_add, iI_sub, iI_mul, iI_neg, iI_lt, iI_le, iI_eq, iI_clamp, iI_s, iI_m1, iI_div, bs, tn, tn4, tn12, tn20, tn124, tn28, itT, itF, if_pos, if_neg, f_X8_washes, g1, bse])
theorem cWould {S : St} {a : Nat → Int} {j now : Nat} (hc : RC S 1 a) (hw : WFa a) (hj : j < 8) (hs : (j : Int) < a 0) (hn : now ≤ 11) (p1 : S.1 1 1 = iI now) {y z v : Int} (h1 : 0 ≤ y ∧ y ≤ 99) (h2 : 0 ≤ z ∧ z ≤ 9) (h3 : 0 ≤ v ∧ v ≤ 2) :
    f_X7_would (iI j) (iI y) (iI z) (iI v) S = some (iI (if v = 0 then sY a j now y z else if v = 1 then sR a j y z else sG a j (sY a j now y z)), S) := by
  have h8 := hw.1
  have ht := hc.t hj hs
  have hwt := hw.t hj
  have e1 := cHeld hc hw (x := j) (y := y) (z := z) (by omega) (by omega) (by omega) (by omega) (by omega) (by omega)
  have e2 := cAt (S := S) (q := 1) hj
  have e3 := cY ht hwt hn (m := y) (f := z) (by omega) (by omega)
  have e5 := cR ht hwt (m := y) (f := z) (by omega) (by omega)
  have yb := sY_le a j now y z
  have e6 := cG ht (y := sY a j now y z) (by omega)
  by_cases c4 : v = 0
  · simp (disch := omega) only [li_0, li_1, li_2, li_3, li_4, li_5, li_6, li_7, li_8, li_9, li_10, li_11, li_12, li_16, li_19, li_20, li_28, li_48, li_57, li_59, li_60, li_96, li_97, li_99, li_100, li_102, li_103, li_104, li_112, li_115, li_116, li_118, li_119, li_121, li_124, li_132, li_255, li_256, li_1000, li_2000, li_1000000000, iI_add, iI_sub, iI_mul, iI_neg, iI_lt, iI_le, iI_eq, iI_clamp, iI_s, iI_m1, iI_div, bs, tn, tn4, tn12, tn20, tn124, tn28, itT, itF, if_pos, if_neg, f_X7_would, e1, e2, p1, e3]
  · by_cases c5 : v = 1
    · simp (disch := omega) only [li_0, li_1, li_2, li_3, li_4, li_5, li_6, li_7, li_8, li_9, li_10, li_11, li_12, li_16, li_19, li_20, li_28, li_48, li_57, li_59, li_60, li_96, li_97, li_99, li_100, li_102, li_103, li_104, li_112, li_115, li_116, li_118, li_119, li_121, li_124, li_132, li_255, li_256, li_1000, li_2000, li_1000000000, iI_add, iI_sub, iI_mul, iI_neg, iI_lt, iI_le, iI_eq, iI_clamp, iI_s, iI_m1, iI_div, bs, tn, tn4, tn12, tn20, tn124, tn28, itT, itF, if_pos, if_neg, f_X7_would, e1, e2, p1, e5]
    · simp (disch := omega) only [li_0, li_1, li_2, li_3, li_4, li_5, li_6, li_7, li_8, li_9, li_10, li_11, li_12, li_16, li_19, li_20, li_28, li_48, li_57, li_59, li_60, li_96, li_97, li_99, li_100, li_102, li_103, li_104, li_112, li_115, li_116, li_118, li_119, li_121, li_124, li_132, li_255, li_256, li_1000, li_2000, li_1000000000, iI_add, iI_sub, iI_mul, iI_neg, iI_lt, iI_le, iI_eq, iI_clamp, iI_s, iI_m1, iI_div, bs, tn, tn4, tn12, tn20, tn124, tn28, itT, itF, if_pos, if_neg, f_X7_would, e1, e2, p1, e3, e6]
theorem rWould {S : St} {a : Nat → Int} {j now N : Nat} (hm : ∀ k, k < 132 → S.1 75 k = iI (a k)) (hw : WFa a) (hj : j < 8) (hN : a 0 = N) (hs : j < N) (hn : now ≤ 11) (hnow : a 1 = now) {y z v : Int} (h1 : 0 ≤ y ∧ y ≤ 99) (h2 : 0 ≤ z ∧ z ≤ 9) (h3 : 0 ≤ v ∧ v ≤ 2) :
    f_X8_would (iI j) (iI y) (iI z) (iI v) S = some (iI (if v = 0 then sY a j now y z else if v = 1 then sR a j y z else sG a j (sY a j now y z)), S) := by
  have h8 := hw.1
  have hwt := hw.t hj
  have m0 : S.1 75 0 = iI N := by rw [hm 0 (by omega), hN]
  have g1 : f_X8_wrongGlue (iI j) (iI y) (iI z) S = some (iI 0) := by
    rw [rWrong m0 (by omega) (x := j) (y := y) (z := z) (by omega) (by omega) (by omega) (by omega) (by omega) (by omega), if_neg (by omega), if_neg (by omega), if_neg (by omega)]
  have g4 : f_X8_isIn (iI v) (iI 0) (iI 2) = some (iI 1) := by
    rw [rIn (x := v) (l := 0) (u := 2) (by omega) (by omega) (by omega) (by omega) (by omega) (by omega), if_pos (by omega)]
  have g3 := rY hm hj hwt hn hnow (m := y) (f := z) (by omega) (by omega)
  have g5 := rR hm hj hwt (m := y) (f := z) (by omega) (by omega)
  have yb := sY_le a j now y z
  have g6 : S.1 75 (28 + 12 * j + sY a j now y z) = iI (sG a j (sY a j now y z)) := hm _ (by omega)
  rw [f_X8_would, g1, bs, if_pos (show iI 0 = 0 from rfl), show (2 : Int32) = iI 2 from rfl, show (0 : Int32) = iI 0 from rfl, g4, bs, if_neg (by decide), if_pos rfl, g3, bs]
  by_cases c4 : v = 0
  · simp (disch := omega) only [li_0, li_1, li_2, li_3, li_4, li_5, li_6, li_7, li_8, li_9, li_10, li_11, li_12, li_16, li_19, li_20, li_28, li_48, li_57, li_59, li_60, li_96, li_97, li_99, li_100, li_102, li_103, li_104, li_112, li_115, li_116, li_118, li_119, li_121, li_124, li_132, li_255, li_256, li_1000, li_2000, li_1000000000, iI_add, iI_sub, iI_mul, iI_neg, iI_lt, iI_le, iI_eq, iI_clamp, iI_s, iI_m1, iI_div, bs, tn, tn4, tn12, tn20, tn124, tn28, itT, itF, if_pos, if_neg]
  · by_cases c5 : v = 1
    · simp (disch := omega) only [li_0, li_1, li_2, li_3, li_4, li_5, li_6, li_7, li_8, li_9, li_10, li_11, li_12, li_16, li_19, li_20, li_28, li_48, li_57, li_59, li_60, li_96, li_97, li_99, li_100, li_102, li_103, li_104, li_112, li_115, li_116, li_118, li_119, li_121, li_124, li_132, li_255, li_256, li_1000, li_2000, li_1000000000, iI_add, iI_sub, iI_mul, iI_neg, iI_lt, iI_le, iI_eq, iI_clamp, iI_s, iI_m1, iI_div, bs, tn, tn4, tn12, tn20, tn124, tn28, itT, itF, if_pos, if_neg, g5]
    · simp (disch := omega) only [li_0, li_1, li_2, li_3, li_4, li_5, li_6, li_7, li_8, li_9, li_10, li_11, li_12, li_16, li_19, li_20, li_28, li_48, li_57, li_59, li_60, li_96, li_97, li_99, li_100, li_102, li_103, li_104, li_112, li_115, li_116, li_118, li_119, li_121, li_124, li_132, li_255, li_256, li_1000, li_2000, li_1000000000, iI_add, iI_sub, iI_mul, iI_neg, iI_lt, iI_le, iI_eq, iI_clamp, iI_s, iI_m1, iI_div, bs, tn, tn4, tn12, tn20, tn124, tn28, itT, itF, if_pos, if_neg, rAt, g6]
theorem e_would {S : St} (hS : Inv S) (a1 : Int32) (a2 : Int32) (a3 : Int32) (a4 : Int32) : ∃ (z1 : Int32 × St) (z2 : Int32 × St), f_X7_would a1 a2 a3 a4 S = some z1 ∧ f_X8_would a1 a2 a3 a4 z1.2 = some z2 ∧ z1.1 = z2.1 ∧ Inv z2.2 := by
  obtain ⟨⟨a, hw, hc, hm0⟩, -⟩ := id hS
  have hm : ∀ k, k < 132 → S.1 75 k = iI (a k) := hm0
  have h8 := hw.1
  have w1 := hw.2.1
  have w2 := hw.2.2.1
  have w3 := hw.2.2.2.1
  obtain ⟨now, hnow⟩ : ∃ n : Nat, a 1 = n := ⟨(a 1).toNat, by omega⟩
  obtain ⟨N, hN⟩ : ∃ n : Nat, a 0 = n := ⟨(a 0).toNat, by omega⟩
  have hn : now ≤ 11 := by omega
  have hN8 : N ≤ 8 := by omega
  have p1 : S.1 1 1 = iI now := by rw [hc.1 1 (by omega), hnow]
  have p0 : S.1 1 0 = iI N := by rw [hc.1 0 (by omega), hN]
  have m0 : S.1 75 0 = iI N := by rw [hm 0 (by omega), hN]
  have m1 : S.1 75 1 = iI now := by rw [hm 1 (by omega), hnow]
  obtain ⟨x, x1, x2, rfl⟩ := iI_any a1
  obtain ⟨y, y1, y2, rfl⟩ := iI_any a2
  obtain ⟨z, z1, z2, rfl⟩ := iI_any a3
  obtain ⟨v, v1, v2, rfl⟩ := iI_any a4
  have e1 := cHeld hc hw x1 x2 y1 y2 z1 z2
  have g1 := rWrong m0 hN8 x1 x2 y1 y2 z1 z2
  have g4 := rIn (x := v) (l := 0) (u := 2) v1 v2 (by omega) (by omega) (by omega) (by omega)
  by_cases c : 0 ≤ x ∧ x < a 0
  · obtain ⟨j, rfl⟩ : ∃ n : Nat, x = n := ⟨x.toNat, by omega⟩
    have ht := hc.t (j := j) (by omega) (by omega)
    have hwt := hw.t (j := j) (by omega)
    have e2 := cAt (S := S) (q := 1) (j := j) (by omega)
    by_cases c1 : y < 0 ∨ z < 0
    · exact e_no hS (-4) 4 (by omega) (by omega) (by simp (disch := omega) only [li_0, li_1, li_2, li_3, li_4, li_5, li_6, li_7, li_8, li_9, li_10, li_11, li_12, li_16, li_19, li_20, li_28, li_48, li_57, li_59, li_60, li_96, li_97, li_99, li_100, li_102, li_103, li_104, li_112, li_115, li_116, li_118, li_119, li_121, li_124, li_132, li_255, li_256, li_1000, li_2000, li_1000000000, iI_add, iI_sub, iI_mul, iI_neg, iI_lt, iI_le, iI_eq, iI_clamp, iI_s, iI_m1, iI_div, bs, tn, tn4, tn12, tn20, tn124, tn28, itT, itF, if_pos, if_neg, f_X7_would, e1, bse]) (fun S1 q1 q2 => by
        have g1 := rWrong (S := S1) (by rw [q1]; exact m0) hN8 x1 x2 y1 y2 z1 z2
        simp (disch := omega) only [li_0, li_1, li_2, li_3, li_4, li_5, li_6, li_7, li_8, li_9, li_10, li_11, li_12, li_16, li_19, li_20, li_28, li_48, li_57, li_59, li_60, li_96, li_97, li_99, li_100, li_102, li_103, li_104, li_112, li_115, li_116, li_118, li_119, li_121, li_124, li_132, li_255, li_256, li_1000, li_2000, li_1000000000, iI_add, iI_sub, iI_mul, iI_neg, iI_lt, iI_le, iI_eq, iI_clamp, iI_s, iI_m1, iI_div, bs, tn, tn4, tn12, tn20, tn124, tn28, itT, itF, if_pos, if_neg, f_X8_would, g1, bse])
    · by_cases c2 : 99 < y ∨ 9 < z
      · exact e_no hS (-6) 6 (by omega) (by omega) (by simp (disch := omega) only [li_0, li_1, li_2, li_3, li_4, li_5, li_6, li_7, li_8, li_9, li_10, li_11, li_12, li_16, li_19, li_20, li_28, li_48, li_57, li_59, li_60, li_96, li_97, li_99, li_100, li_102, li_103, li_104, li_112, li_115, li_116, li_118, li_119, li_121, li_124, li_132, li_255, li_256, li_1000, li_2000, li_1000000000, iI_add, iI_sub, iI_mul, iI_neg, iI_lt, iI_le, iI_eq, iI_clamp, iI_s, iI_m1, iI_div, bs, tn, tn4, tn12, tn20, tn124, tn28, itT, itF, if_pos, if_neg, f_X7_would, e1, bse]) (fun S1 q1 q2 => by
          have g1 := rWrong (S := S1) (by rw [q1]; exact m0) hN8 x1 x2 y1 y2 z1 z2
          simp (disch := omega) only [li_0, li_1, li_2, li_3, li_4, li_5, li_6, li_7, li_8, li_9, li_10, li_11, li_12, li_16, li_19, li_20, li_28, li_48, li_57, li_59, li_60, li_96, li_97, li_99, li_100, li_102, li_103, li_104, li_112, li_115, li_116, li_118, li_119, li_121, li_124, li_132, li_255, li_256, li_1000, li_2000, li_1000000000, iI_add, iI_sub, iI_mul, iI_neg, iI_lt, iI_le, iI_eq, iI_clamp, iI_s, iI_m1, iI_div, bs, tn, tn4, tn12, tn20, tn124, tn28, itT, itF, if_pos, if_neg, f_X8_would, g1, bse])
      · by_cases c3 : v < 0 ∨ 2 < v
        · refine e_no hS (-2) 2 (by omega) (by omega) ?_ (fun S1 q1 q2 => by
            have g1 := rWrong (S := S1) (by rw [q1]; exact m0) hN8 x1 x2 y1 y2 z1 z2
            simp (disch := omega) only [li_0, li_1, li_2, li_3, li_4, li_5, li_6, li_7, li_8, li_9, li_10, li_11, li_12, li_16, li_19, li_20, li_28, li_48, li_57, li_59, li_60, li_96, li_97, li_99, li_100, li_102, li_103, li_104, li_112, li_115, li_116, li_118, li_119, li_121, li_124, li_132, li_255, li_256, li_1000, li_2000, li_1000000000, iI_add, iI_sub, iI_mul, iI_neg, iI_lt, iI_le, iI_eq, iI_clamp, iI_s, iI_m1, iI_div, bs, tn, tn4, tn12, tn20, tn124, tn28, itT, itF, if_pos, if_neg, f_X8_would, g1, g4, bse])
          by_cases c4 : v < 0
          · simp (disch := omega) only [li_0, li_1, li_2, li_3, li_4, li_5, li_6, li_7, li_8, li_9, li_10, li_11, li_12, li_16, li_19, li_20, li_28, li_48, li_57, li_59, li_60, li_96, li_97, li_99, li_100, li_102, li_103, li_104, li_112, li_115, li_116, li_118, li_119, li_121, li_124, li_132, li_255, li_256, li_1000, li_2000, li_1000000000, iI_add, iI_sub, iI_mul, iI_neg, iI_lt, iI_le, iI_eq, iI_clamp, iI_s, iI_m1, iI_div, bs, tn, tn4, tn12, tn20, tn124, tn28, itT, itF, if_pos, if_neg, f_X7_would, e1, bse]
          · simp (disch := omega) only [li_0, li_1, li_2, li_3, li_4, li_5, li_6, li_7, li_8, li_9, li_10, li_11, li_12, li_16, li_19, li_20, li_28, li_48, li_57, li_59, li_60, li_96, li_97, li_99, li_100, li_102, li_103, li_104, li_112, li_115, li_116, li_118, li_119, li_121, li_124, li_132, li_255, li_256, li_1000, li_2000, li_1000000000, iI_add, iI_sub, iI_mul, iI_neg, iI_lt, iI_le, iI_eq, iI_clamp, iI_s, iI_m1, iI_div, bs, tn, tn4, tn12, tn20, tn124, tn28, itT, itF, if_pos, if_neg, f_X7_would, e1, bse]
        · exact e_mk (cWould hc hw (j := j) (by omega) (by omega) hn p1 (by omega) (by omega) (by omega)) (rWould hm hw (j := j) (by omega) hN (by omega) hn hnow (by omega) (by omega) (by omega)) hS
  · exact e_no hS (-1) 1 (by omega) (by omega) (by simp (disch := omega) only [li_0, li_1, li_2, li_3, li_4, li_5, li_6, li_7, li_8, li_9, li_10, li_11, li_12, li_16, li_19, li_20, li_28, li_48, li_57, li_59, li_60, li_96, li_97, li_99, li_100, li_102, li_103, li_104, li_112, li_115, li_116, li_118, li_119, li_121, li_124, li_132, li_255, li_256, li_1000, li_2000, li_1000000000, iI_add, iI_sub, iI_mul, iI_neg, iI_lt, iI_le, iI_eq, iI_clamp, iI_s, iI_m1, iI_div, bs, tn, tn4, tn12, tn20, tn124, tn28, itT, itF, if_pos, if_neg, f_X7_would, e1, bse]) (fun S1 q1 q2 => by
      have g1 := rWrong (S := S1) (by rw [q1]; exact m0) hN8 x1 x2 y1 y2 z1 z2
      simp (disch := omega) only [li_0, li_1, li_2, li_3, li_4, li_5, li_6, li_7, li_8, li_9, li_10, li_11, li_12, li_16, li_19, li_20, li_28, li_48, li_57, li_59, li_60, li_96, li_97, li_99, li_100, li_102, li_103, li_104, li_112, li_115, li_116, li_118, li_119, li_121, li_124, li_132, li_255, li_256, li_1000, li_2000, li_1000000000, iI_add, iI_sub, iI_mul, iI_neg, iI_lt, iI_le, iI_eq, iI_clamp, iI_s, iI_m1, iI_div, bs, tn, tn4, tn12, tn20, tn124, tn28, itT, itF, if_pos, if_neg, f_X8_would, g1, bse])
-- ===== letters and the row =====
theorem e_letter {S : St} (hS : Inv S) (a1 : Int32) : ∃ (z1 : Int32 × St) (z2 : Int32 × St), f_X7_letter a1 S = some z1 ∧ f_X8_letter a1 z1.2 = some z2 ∧ z1.1 = z2.1 ∧ Inv z2.2 := by
  obtain ⟨x, x1, x2, rfl⟩ := iI_any a1
  obtain ⟨_, ⟨n, t1, t2, t3, t4⟩, _⟩ := id hS
  by_cases c1 : x < 0
  · exact e_no hS (-4) 4 (by omega) (by omega) (by simp (disch := omega) only [li_0, li_1, li_2, li_3, li_4, li_5, li_6, li_7, li_8, li_9, li_10, li_11, li_12, li_16, li_19, li_20, li_28, li_48, li_57, li_59, li_60, li_96, li_97, li_99, li_100, li_102, li_103, li_104, li_112, li_115, li_116, li_118, li_119, li_121, li_124, li_132, li_255, li_256, li_1000, li_2000, li_1000000000, iI_add, iI_sub, iI_mul, iI_neg, iI_lt, iI_le, iI_eq, iI_clamp, iI_s, iI_m1, iI_div, bs, tn, tn4, tn12, tn20, tn124, tn28, itT, itF, if_pos, if_neg, f_X7_letter, bse]) (fun S1 q1 q2 => by simp (disch := omega) only [li_0, li_1, li_2, li_3, li_4, li_5, li_6, li_7, li_8, li_9, li_10, li_11, li_12, li_16, li_19, li_20, li_28, li_48, li_57, li_59, li_60, li_96, li_97, li_99, li_100, li_102, li_103, li_104, li_112, li_115, li_116, li_118, li_119, li_121, li_124, li_132, li_255, li_256, li_1000, li_2000, li_1000000000, iI_add, iI_sub, iI_mul, iI_neg, iI_lt, iI_le, iI_eq, iI_clamp, iI_s, iI_m1, iI_div, bs, tn, tn4, tn12, tn20, tn124, tn28, itT, itF, if_pos, if_neg, f_X8_letter, bse])
  · by_cases c2 : 255 < x
    · exact e_no hS (-6) 6 (by omega) (by omega) (by simp (disch := omega) only [li_0, li_1, li_2, li_3, li_4, li_5, li_6, li_7, li_8, li_9, li_10, li_11, li_12, li_16, li_19, li_20, li_28, li_48, li_57, li_59, li_60, li_96, li_97, li_99, li_100, li_102, li_103, li_104, li_112, li_115, li_116, li_118, li_119, li_121, li_124, li_132, li_255, li_256, li_1000, li_2000, li_1000000000, iI_add, iI_sub, iI_mul, iI_neg, iI_lt, iI_le, iI_eq, iI_clamp, iI_s, iI_m1, iI_div, bs, tn, tn4, tn12, tn20, tn124, tn28, itT, itF, if_pos, if_neg, f_X7_letter, bse]) (fun S1 q1 q2 => by simp (disch := omega) only [li_0, li_1, li_2, li_3, li_4, li_5, li_6, li_7, li_8, li_9, li_10, li_11, li_12, li_16, li_19, li_20, li_28, li_48, li_57, li_59, li_60, li_96, li_97, li_99, li_100, li_102, li_103, li_104, li_112, li_115, li_116, li_118, li_119, li_121, li_124, li_132, li_255, li_256, li_1000, li_2000, li_1000000000, iI_add, iI_sub, iI_mul, iI_neg, iI_lt, iI_le, iI_eq, iI_clamp, iI_s, iI_m1, iI_div, bs, tn, tn4, tn12, tn20, tn124, tn28, itT, itF, if_pos, if_neg, f_X8_letter, bse])
    · by_cases c3 : n = 96
      · subst c3
        exact e_no hS (-6) 6 (by omega) (by omega) (by simp (disch := omega) only [li_0, li_1, li_2, li_3, li_4, li_5, li_6, li_7, li_8, li_9, li_10, li_11, li_12, li_16, li_19, li_20, li_28, li_48, li_57, li_59, li_60, li_96, li_97, li_99, li_100, li_102, li_103, li_104, li_112, li_115, li_116, li_118, li_119, li_121, li_124, li_132, li_255, li_256, li_1000, li_2000, li_1000000000, iI_add, iI_sub, iI_mul, iI_neg, iI_lt, iI_le, iI_eq, iI_clamp, iI_s, iI_m1, iI_div, bs, tn, tn4, tn12, tn20, tn124, tn28, itT, itF, if_pos, if_neg, f_X7_letter, f_X5_isFull, t2, bse]) (fun S1 q1 q2 => by
          rw [← q2] at t3
          simp (disch := omega) only [li_0, li_1, li_2, li_3, li_4, li_5, li_6, li_7, li_8, li_9, li_10, li_11, li_12, li_16, li_19, li_20, li_28, li_48, li_57, li_59, li_60, li_96, li_97, li_99, li_100, li_102, li_103, li_104, li_112, li_115, li_116, li_118, li_119, li_121, li_124, li_132, li_255, li_256, li_1000, li_2000, li_1000000000, iI_add, iI_sub, iI_mul, iI_neg, iI_lt, iI_le, iI_eq, iI_clamp, iI_s, iI_m1, iI_div, bs, tn, tn4, tn12, tn20, tn124, tn28, itT, itF, if_pos, if_neg, f_X8_letter, t3, bse])
      · refine e_mk (v := iI ((n + 1 : Nat) : Int)) (S1 := up (up S 61 n (iI x)) 60 1 (iI ((n + 1 : Nat) : Int))) (S2 := up (up (up (up S 61 n (iI x)) 60 1 (iI ((n + 1 : Nat) : Int))) 79 n (iI x)) 74 8 (iI ((n + 1 : Nat) : Int))) (by simp (disch := omega) only [li_0, li_1, li_2, li_3, li_4, li_5, li_6, li_7, li_8, li_9, li_10, li_11, li_12, li_16, li_19, li_20, li_28, li_48, li_57, li_59, li_60, li_96, li_97, li_99, li_100, li_102, li_103, li_104, li_112, li_115, li_116, li_118, li_119, li_121, li_124, li_132, li_255, li_256, li_1000, li_2000, li_1000000000, iI_add, iI_sub, iI_mul, iI_neg, iI_lt, iI_le, iI_eq, iI_clamp, iI_s, iI_m1, iI_div, bs, tn, tn4, tn12, tn20, tn124, tn28, itT, itF, if_pos, if_neg, up_s, up_n, f_X7_letter, f_X5_isFull, f_X5_put, t2]) (by simp (disch := omega) only [li_0, li_1, li_2, li_3, li_4, li_5, li_6, li_7, li_8, li_9, li_10, li_11, li_12, li_16, li_19, li_20, li_28, li_48, li_57, li_59, li_60, li_96, li_97, li_99, li_100, li_102, li_103, li_104, li_112, li_115, li_116, li_118, li_119, li_121, li_124, li_132, li_255, li_256, li_1000, li_2000, li_1000000000, iI_add, iI_sub, iI_mul, iI_neg, iI_lt, iI_le, iI_eq, iI_clamp, iI_s, iI_m1, iI_div, bs, tn, tn4, tn12, tn20, tn124, tn28, itT, itF, if_pos, if_neg, up_s, up_n, f_X8_letter, t3]) ?_
        refine hS.text ⟨n + 1, by omega, by simp (disch := omega) only [up_n, up_s], by simp (disch := omega) only [up_n, up_s], fun k hk => ?_⟩ (fun i k h => ?_)
        · by_cases e : k = n
          · subst e
            simp (disch := omega) only [up_n, up_s]
            exact ⟨trivial, x.toNat, by omega, by rw [show ((x.toNat : Nat) : Int) = x by omega]⟩
          · simp (disch := omega) only [up_n]
            exact t4 k (by omega)
        · unfold scr at h
          simp (disch := omega) only [up_n]
theorem e_row {S : St} (hS : Inv S) (a1 : Int32) : ∃ (z1 : Int32 × St) (z2 : Int32 × St), f_X7_row a1 S = some z1 ∧ f_X8_row a1 z1.2 = some z2 ∧ z1.1 = z2.1 ∧ Inv z2.2 := by
  obtain ⟨x, x1, x2, rfl⟩ := iI_any a1
  obtain ⟨_, _, ⟨n, t1, t2, t3, t4⟩, _⟩ := id hS
  by_cases c1 : x < 0
  · exact e_no hS (-4) 4 (by omega) (by omega) (by simp (disch := omega) only [li_0, li_1, li_2, li_3, li_4, li_5, li_6, li_7, li_8, li_9, li_10, li_11, li_12, li_16, li_19, li_20, li_28, li_48, li_57, li_59, li_60, li_96, li_97, li_99, li_100, li_102, li_103, li_104, li_112, li_115, li_116, li_118, li_119, li_121, li_124, li_132, li_255, li_256, li_1000, li_2000, li_1000000000, iI_add, iI_sub, iI_mul, iI_neg, iI_lt, iI_le, iI_eq, iI_clamp, iI_s, iI_m1, iI_div, bs, tn, tn4, tn12, tn20, tn124, tn28, itT, itF, if_pos, if_neg, f_X7_row, bse]) (fun S1 q1 q2 => by simp (disch := omega) only [li_0, li_1, li_2, li_3, li_4, li_5, li_6, li_7, li_8, li_9, li_10, li_11, li_12, li_16, li_19, li_20, li_28, li_48, li_57, li_59, li_60, li_96, li_97, li_99, li_100, li_102, li_103, li_104, li_112, li_115, li_116, li_118, li_119, li_121, li_124, li_132, li_255, li_256, li_1000, li_2000, li_1000000000, iI_add, iI_sub, iI_mul, iI_neg, iI_lt, iI_le, iI_eq, iI_clamp, iI_s, iI_m1, iI_div, bs, tn, tn4, tn12, tn20, tn124, tn28, itT, itF, if_pos, if_neg, f_X8_row, bse])
  · by_cases c2 : 99 < x
    · exact e_no hS (-6) 6 (by omega) (by omega) (by simp (disch := omega) only [li_0, li_1, li_2, li_3, li_4, li_5, li_6, li_7, li_8, li_9, li_10, li_11, li_12, li_16, li_19, li_20, li_28, li_48, li_57, li_59, li_60, li_96, li_97, li_99, li_100, li_102, li_103, li_104, li_112, li_115, li_116, li_118, li_119, li_121, li_124, li_132, li_255, li_256, li_1000, li_2000, li_1000000000, iI_add, iI_sub, iI_mul, iI_neg, iI_lt, iI_le, iI_eq, iI_clamp, iI_s, iI_m1, iI_div, bs, tn, tn4, tn12, tn20, tn124, tn28, itT, itF, if_pos, if_neg, f_X7_row, bse]) (fun S1 q1 q2 => by simp (disch := omega) only [li_0, li_1, li_2, li_3, li_4, li_5, li_6, li_7, li_8, li_9, li_10, li_11, li_12, li_16, li_19, li_20, li_28, li_48, li_57, li_59, li_60, li_96, li_97, li_99, li_100, li_102, li_103, li_104, li_112, li_115, li_116, li_118, li_119, li_121, li_124, li_132, li_255, li_256, li_1000, li_2000, li_1000000000, iI_add, iI_sub, iI_mul, iI_neg, iI_lt, iI_le, iI_eq, iI_clamp, iI_s, iI_m1, iI_div, bs, tn, tn4, tn12, tn20, tn124, tn28, itT, itF, if_pos, if_neg, f_X8_row, bse])
    · by_cases c3 : n = 16
      · subst c3
        exact e_no hS (-6) 6 (by omega) (by omega) (by simp (disch := omega) only [li_0, li_1, li_2, li_3, li_4, li_5, li_6, li_7, li_8, li_9, li_10, li_11, li_12, li_16, li_19, li_20, li_28, li_48, li_57, li_59, li_60, li_96, li_97, li_99, li_100, li_102, li_103, li_104, li_112, li_115, li_116, li_118, li_119, li_121, li_124, li_132, li_255, li_256, li_1000, li_2000, li_1000000000, iI_add, iI_sub, iI_mul, iI_neg, iI_lt, iI_le, iI_eq, iI_clamp, iI_s, iI_m1, iI_div, bs, tn, tn4, tn12, tn20, tn124, tn28, itT, itF, if_pos, if_neg, f_X7_row, f_X2_isFull, t2, bse]) (fun S1 q1 q2 => by
          rw [← q2] at t3
          simp (disch := omega) only [li_0, li_1, li_2, li_3, li_4, li_5, li_6, li_7, li_8, li_9, li_10, li_11, li_12, li_16, li_19, li_20, li_28, li_48, li_57, li_59, li_60, li_96, li_97, li_99, li_100, li_102, li_103, li_104, li_112, li_115, li_116, li_118, li_119, li_121, li_124, li_132, li_255, li_256, li_1000, li_2000, li_1000000000, iI_add, iI_sub, iI_mul, iI_neg, iI_lt, iI_le, iI_eq, iI_clamp, iI_s, iI_m1, iI_div, bs, tn, tn4, tn12, tn20, tn124, tn28, itT, itF, if_pos, if_neg, f_X8_row, t3, bse])
      · refine e_mk (v := iI ((n + 1 : Nat) : Int)) (S1 := up (up S 63 n (iI x)) 62 1 (iI ((n + 1 : Nat) : Int))) (S2 := up (up (up (up S 63 n (iI x)) 62 1 (iI ((n + 1 : Nat) : Int))) 80 n (iI x)) 74 9 (iI ((n + 1 : Nat) : Int))) (by simp (disch := omega) only [li_0, li_1, li_2, li_3, li_4, li_5, li_6, li_7, li_8, li_9, li_10, li_11, li_12, li_16, li_19, li_20, li_28, li_48, li_57, li_59, li_60, li_96, li_97, li_99, li_100, li_102, li_103, li_104, li_112, li_115, li_116, li_118, li_119, li_121, li_124, li_132, li_255, li_256, li_1000, li_2000, li_1000000000, iI_add, iI_sub, iI_mul, iI_neg, iI_lt, iI_le, iI_eq, iI_clamp, iI_s, iI_m1, iI_div, bs, tn, tn4, tn12, tn20, tn124, tn28, itT, itF, if_pos, if_neg, up_s, up_n, f_X7_row, f_X2_isFull, f_X2_put, t2]) (by simp (disch := omega) only [li_0, li_1, li_2, li_3, li_4, li_5, li_6, li_7, li_8, li_9, li_10, li_11, li_12, li_16, li_19, li_20, li_28, li_48, li_57, li_59, li_60, li_96, li_97, li_99, li_100, li_102, li_103, li_104, li_112, li_115, li_116, li_118, li_119, li_121, li_124, li_132, li_255, li_256, li_1000, li_2000, li_1000000000, iI_add, iI_sub, iI_mul, iI_neg, iI_lt, iI_le, iI_eq, iI_clamp, iI_s, iI_m1, iI_div, bs, tn, tn4, tn12, tn20, tn124, tn28, itT, itF, if_pos, if_neg, up_s, up_n, f_X8_row, t3]) ?_
        refine hS.rowT ⟨n + 1, by omega, by simp (disch := omega) only [up_n, up_s], by simp (disch := omega) only [up_n, up_s], fun k hk => ?_⟩ (fun i k h => ?_)
        · by_cases e : k = n
          · subst e
            simp (disch := omega) only [up_n, up_s]
          · simp (disch := omega) only [up_n]
            exact t4 k (by omega)
        · unfold scr at h
          simp (disch := omega) only [up_n]
theorem Inv.clear {S : St} (hS : Inv S) : Inv (up (up S 62 1 (iI 0)) 74 9 (iI 0)) := by
  refine hS.rowT ⟨0, by omega, ?_, ?_, fun k hk => absurd hk (by omega)⟩ (fun i k h => ?_)
  · simp (disch := omega) only [up_n, up_s]; rfl
  · simp (disch := omega) only [up_n, up_s]; rfl
  · unfold scr at h
    simp (disch := omega) only [up_n]
theorem e_clear {S : St} (hS : Inv S) : ∃ (z1 : Int32 × St) (z2 : Int32 × St), f_X7_clear S = some z1 ∧ f_X8_clear z1.2 = some z2 ∧ z1.1 = z2.1 ∧ Inv z2.2 := by
  obtain ⟨_, _, ⟨n, t1, t2, t3, t4⟩, _⟩ := id hS
  exact e_mk (v := iI n) (S1 := up S 62 1 (iI 0)) (S2 := up (up S 62 1 (iI 0)) 74 9 (iI 0)) (by simp (disch := omega) only [li_0, li_1, li_2, li_3, li_4, li_5, li_6, li_7, li_8, li_9, li_10, li_11, li_12, li_16, li_19, li_20, li_28, li_48, li_57, li_59, li_60, li_96, li_97, li_99, li_100, li_102, li_103, li_104, li_112, li_115, li_116, li_118, li_119, li_121, li_124, li_132, li_255, li_256, li_1000, li_2000, li_1000000000, iI_add, iI_sub, iI_mul, iI_neg, iI_lt, iI_le, iI_eq, iI_clamp, iI_s, iI_m1, iI_div, bs, tn, tn4, tn12, tn20, tn124, tn28, itT, itF, if_pos, if_neg, f_X7_clear, t2]) (by simp (disch := omega) only [li_0, li_1, li_2, li_3, li_4, li_5, li_6, li_7, li_8, li_9, li_10, li_11, li_12, li_16, li_19, li_20, li_28, li_48, li_57, li_59, li_60, li_96, li_97, li_99, li_100, li_102, li_103, li_104, li_112, li_115, li_116, li_118, li_119, li_121, li_124, li_132, li_255, li_256, li_1000, li_2000, li_1000000000, iI_add, iI_sub, iI_mul, iI_neg, iI_lt, iI_le, iI_eq, iI_clamp, iI_s, iI_m1, iI_div, bs, tn, tn4, tn12, tn20, tn124, tn28, itT, itF, if_pos, if_neg, up_s, up_n, f_X8_clear, t3]) hS.clear
theorem cJudgeL {S : St} {t : Nat} {a : Nat → Int} {j : Nat} (h : RT S t a j) {N : Nat} (hN : N ≤ 16) (hl : S.1 62 1 = iI N) {k : Int32 → Option Int32} {k9 : Unit → Option Int32} :
    ∀ d n x : Nat, x + d = N → d < n → f_X2_firstNotGladOf_L2 n t (iI x) S k k9 = if sFst (fun x => decide (12 ≤ x ∨ S.1 63 x ≠ iI (sG a j x))) d x < 0 then k9 () else k (iI (sFst (fun x => decide (12 ≤ x ∨ S.1 63 x ≠ iI (sG a j x))) d x)) := by
  intro d
  induction d with
  | zero =>
    intro n x hx hd
    obtain ⟨n, rfl⟩ : ∃ p, n = p + 1 := ⟨n - 1, by omega⟩
    rw [f_X2_firstNotGladOf_L2, sFst]
    simp (disch := omega) only [li_0, li_1, li_2, li_3, li_4, li_5, li_6, li_7, li_8, li_9, li_10, li_11, li_12, li_16, li_19, li_20, li_28, li_48, li_57, li_59, li_60, li_96, li_97, li_99, li_100, li_102, li_103, li_104, li_112, li_115, li_116, li_118, li_119, li_121, li_124, li_132, li_255, li_256, li_1000, li_2000, li_1000000000, iI_add, iI_sub, iI_mul, iI_neg, iI_lt, iI_le, iI_eq, iI_clamp, iI_s, iI_m1, iI_div, bs, tn, tn4, tn12, tn20, tn124, tn28, itT, itF, if_pos, if_neg, hl]
  | succ d ih =>
    intro n x hx hd
    obtain ⟨n, rfl⟩ : ∃ p, n = p + 1 := ⟨n - 1, by omega⟩
    have i1 := ih n (x + 1) (by omega) (by omega)
    have e1 := cNo (z := x) (by omega) (by omega)
    rw [f_X2_firstNotGladOf_L2, sFst]
    by_cases c : 12 ≤ x
    · rw [decide_eq_true (show 12 ≤ x ∨ S.1 63 x ≠ iI (sG a j x) from Or.inl c)]
      simp (disch := omega) only [li_0, li_1, li_2, li_3, li_4, li_5, li_6, li_7, li_8, li_9, li_10, li_11, li_12, li_16, li_19, li_20, li_28, li_48, li_57, li_59, li_60, li_96, li_97, li_99, li_100, li_102, li_103, li_104, li_112, li_115, li_116, li_118, li_119, li_121, li_124, li_132, li_255, li_256, li_1000, li_2000, li_1000000000, iI_add, iI_sub, iI_mul, iI_neg, iI_lt, iI_le, iI_eq, iI_clamp, iI_s, iI_m1, iI_div, bs, tn, tn4, tn12, tn20, tn124, tn28, itT, itF, if_pos, if_neg, hl, e1]
    · have e2 := cG h (y := x) (by omega)
      by_cases c2 : S.1 63 x = iI (sG a j x)
      · rw [decide_eq_false (show ¬ (12 ≤ x ∨ S.1 63 x ≠ iI (sG a j x)) from fun z => z.elim c (fun z => z c2))]
        simp (disch := omega) only [li_0, li_1, li_2, li_3, li_4, li_5, li_6, li_7, li_8, li_9, li_10, li_11, li_12, li_16, li_19, li_20, li_28, li_48, li_57, li_59, li_60, li_96, li_97, li_99, li_100, li_102, li_103, li_104, li_112, li_115, li_116, li_118, li_119, li_121, li_124, li_132, li_255, li_256, li_1000, li_2000, li_1000000000, iI_add, iI_sub, iI_mul, iI_neg, iI_lt, iI_le, iI_eq, iI_clamp, iI_s, iI_m1, iI_div, bs, tn, tn4, tn12, tn20, tn124, tn28, itT, itF, if_pos, if_neg, hl, e1, e2, c2, i1, Bool.false_eq_true]
      · rw [decide_eq_true (show 12 ≤ x ∨ S.1 63 x ≠ iI (sG a j x) from Or.inr c2)]
        simp (disch := omega) only [li_0, li_1, li_2, li_3, li_4, li_5, li_6, li_7, li_8, li_9, li_10, li_11, li_12, li_16, li_19, li_20, li_28, li_48, li_57, li_59, li_60, li_96, li_97, li_99, li_100, li_102, li_103, li_104, li_112, li_115, li_116, li_118, li_119, li_121, li_124, li_132, li_255, li_256, li_1000, li_2000, li_1000000000, iI_add, iI_sub, iI_mul, iI_neg, iI_lt, iI_le, iI_eq, iI_clamp, iI_s, iI_m1, iI_div, bs, tn, tn4, tn12, tn20, tn124, tn28, itT, itF, if_pos, if_neg, hl, e1, e2, c2]
theorem rJudgeL {S : St} {a : Nat → Int} {j : Nat} (hm : ∀ k, k < 132 → S.1 75 k = iI (a k)) (hj : j < 8) {N : Nat} (hN : N ≤ 16) {g : Nat → Int32} (hg : ∀ x, x < N → S.1 80 x = g x) {k : Int32 → Option (Int32 × St)} {k9 : Unit → Option (Int32 × St)} :
    ∀ d n x : Nat, x + d = N → d < n → f_X8_judge_L26 n (iI j) (iI N) (iI x) S k k9 = if sFst (fun x => decide (12 ≤ x ∨ g x ≠ iI (sG a j x))) d x < 0 then k9 () else k (iI (sFst (fun x => decide (12 ≤ x ∨ g x ≠ iI (sG a j x))) d x)) := by
  intro d
  induction d with
  | zero =>
    intro n x hx hd
    obtain ⟨n, rfl⟩ : ∃ p, n = p + 1 := ⟨n - 1, by omega⟩
    rw [f_X8_judge_L26, sFst]
    simp (disch := omega) only [li_0, li_1, li_2, li_3, li_4, li_5, li_6, li_7, li_8, li_9, li_10, li_11, li_12, li_16, li_19, li_20, li_28, li_48, li_57, li_59, li_60, li_96, li_97, li_99, li_100, li_102, li_103, li_104, li_112, li_115, li_116, li_118, li_119, li_121, li_124, li_132, li_255, li_256, li_1000, li_2000, li_1000000000, iI_add, iI_sub, iI_mul, iI_neg, iI_lt, iI_le, iI_eq, iI_clamp, iI_s, iI_m1, iI_div, bs, tn, tn4, tn12, tn20, tn124, tn28, itT, itF, if_pos, if_neg]
  | succ d ih =>
    intro n x hx hd
    obtain ⟨n, rfl⟩ : ∃ p, n = p + 1 := ⟨n - 1, by omega⟩
    have i1 := ih n (x + 1) (by omega) (by omega)
    have e3 := hg x (by omega)
    rw [f_X8_judge_L26, sFst]
    by_cases c : 12 ≤ x
    · rw [decide_eq_true (show 12 ≤ x ∨ g x ≠ iI (sG a j x) from Or.inl c)]
      simp (disch := omega) only [li_0, li_1, li_2, li_3, li_4, li_5, li_6, li_7, li_8, li_9, li_10, li_11, li_12, li_16, li_19, li_20, li_28, li_48, li_57, li_59, li_60, li_96, li_97, li_99, li_100, li_102, li_103, li_104, li_112, li_115, li_116, li_118, li_119, li_121, li_124, li_132, li_255, li_256, li_1000, li_2000, li_1000000000, iI_add, iI_sub, iI_mul, iI_neg, iI_lt, iI_le, iI_eq, iI_clamp, iI_s, iI_m1, iI_div, bs, tn, tn4, tn12, tn20, tn124, tn28, itT, itF, if_pos, if_neg]
    · have e2 : S.1 75 (28 + 12 * j + x) = iI (sG a j x) := hm _ (by omega)
      by_cases c2 : g x = iI (sG a j x)
      · rw [decide_eq_false (show ¬ (12 ≤ x ∨ g x ≠ iI (sG a j x)) from fun z => z.elim c (fun z => z c2))]
        simp (disch := omega) only [li_0, li_1, li_2, li_3, li_4, li_5, li_6, li_7, li_8, li_9, li_10, li_11, li_12, li_16, li_19, li_20, li_28, li_48, li_57, li_59, li_60, li_96, li_97, li_99, li_100, li_102, li_103, li_104, li_112, li_115, li_116, li_118, li_119, li_121, li_124, li_132, li_255, li_256, li_1000, li_2000, li_1000000000, iI_add, iI_sub, iI_mul, iI_neg, iI_lt, iI_le, iI_eq, iI_clamp, iI_s, iI_m1, iI_div, bs, tn, tn4, tn12, tn20, tn124, tn28, itT, itF, if_pos, if_neg, rAt, e2, e3, c2, i1, Bool.false_eq_true]
      · rw [decide_eq_true (show 12 ≤ x ∨ g x ≠ iI (sG a j x) from Or.inr c2)]
        have c3 : ¬ iI (sG a j x) = g x := fun z => c2 z.symm
        simp (disch := omega) only [li_0, li_1, li_2, li_3, li_4, li_5, li_6, li_7, li_8, li_9, li_10, li_11, li_12, li_16, li_19, li_20, li_28, li_48, li_57, li_59, li_60, li_96, li_97, li_99, li_100, li_102, li_103, li_104, li_112, li_115, li_116, li_118, li_119, li_121, li_124, li_132, li_255, li_256, li_1000, li_2000, li_1000000000, iI_add, iI_sub, iI_mul, iI_neg, iI_lt, iI_le, iI_eq, iI_clamp, iI_s, iI_m1, iI_div, bs, tn, tn4, tn12, tn20, tn124, tn28, itT, itF, if_pos, if_neg, rAt, e2, e3, c3]
theorem e_judge {S : St} (hS : Inv S) (a1 : Int32) : ∃ (z1 : Int32 × St) (z2 : Int32 × St), f_X7_judge a1 S = some z1 ∧ f_X8_judge a1 z1.2 = some z2 ∧ z1.1 = z2.1 ∧ Inv z2.2 := by
  obtain ⟨⟨a, hw, hc, hm0⟩, -⟩ := id hS
  have hm : ∀ k, k < 132 → S.1 75 k = iI (a k) := hm0
  have h8 := hw.1
  have w1 := hw.2.1
  have w2 := hw.2.2.1
  have w3 := hw.2.2.2.1
  obtain ⟨now, hnow⟩ : ∃ n : Nat, a 1 = n := ⟨(a 1).toNat, by omega⟩
  obtain ⟨N, hN⟩ : ∃ n : Nat, a 0 = n := ⟨(a 0).toNat, by omega⟩
  have hn : now ≤ 11 := by omega
  have hN8 : N ≤ 8 := by omega
  have p1 : S.1 1 1 = iI now := by rw [hc.1 1 (by omega), hnow]
  have p0 : S.1 1 0 = iI N := by rw [hc.1 0 (by omega), hN]
  have m0 : S.1 75 0 = iI N := by rw [hm 0 (by omega), hN]
  have m1 : S.1 75 1 = iI now := by rw [hm 1 (by omega), hnow]
  obtain ⟨x, x1, x2, rfl⟩ := iI_any a1
  obtain ⟨_, _, ⟨n, t1, t2, t3, t4⟩, _⟩ := id hS
  have e1 := cLacks hc hw x1 x2
  by_cases c : 0 ≤ x ∧ x < a 0
  · obtain ⟨j, rfl⟩ : ∃ n : Nat, x = n := ⟨x.toNat, by omega⟩
    have ht := hc.t (j := j) (by omega) (by omega)
    have hwt := hw.t (j := j) (by omega)
    have e2 := cAt (S := S) (q := 1) (j := j) (by omega)
    have m0' : (up S 62 1 (iI 0)).1 75 0 = iI N := by simp (disch := omega) only [li_0, li_1, li_2, li_3, li_4, li_5, li_6, li_7, li_8, li_9, li_10, li_11, li_12, li_16, li_19, li_20, li_28, li_48, li_57, li_59, li_60, li_96, li_97, li_99, li_100, li_102, li_103, li_104, li_112, li_115, li_116, li_118, li_119, li_121, li_124, li_132, li_255, li_256, li_1000, li_2000, li_1000000000, iI_add, iI_sub, iI_mul, iI_neg, iI_lt, iI_le, iI_eq, iI_clamp, iI_s, iI_m1, iI_div, bs, tn, tn4, tn12, tn20, tn124, tn28, itT, itF, if_pos, if_neg, up_s, up_n, m0]
    have g1 := rThing m0' hN8 x1 x2
    have e3 : f_X2_firstNotGladOf_L2 2000 (1 + 1 + 2 + 2 * j) (iI 0) S (fun y => some y) (fun _ => some (iI (-9))) = _ := cJudgeL ht t1 t2 n 2000 0 (by omega) (by omega)
    have g3 : f_X8_judge_L26 2000 (iI j) (iI n) (iI 0) (up (up S 62 1 (iI 0)) 74 9 (iI 0)) (fun y => some (y, up (up S 62 1 (iI 0)) 74 9 (iI 0))) (fun _ => some (iI (-9), up (up S 62 1 (iI 0)) 74 9 (iI 0))) = _ := rJudgeL (S := up (up S 62 1 (iI 0)) 74 9 (iI 0)) (a := a) (j := j) ((hm0.ne (by omega)).ne (by omega)) (by omega) t1 (g := S.1 63) (fun x hx => by simp (disch := omega) only [up_n]; exact t4 x hx)
      n 2000 0 (by omega) (by omega)
    have i9 := hS.clear
    have t3' : (up S 62 1 (iI 0)).1 74 9 = iI n := by rw [up_ne (by omega)]; exact t3
    rcases sFst_b (fun x => decide (12 ≤ x ∨ S.1 63 x ≠ iI (sG a j x))) n 0 with b | b
    · rw [if_pos (by omega)] at e3 g3
      exact e_mk (v := iI (-9)) (S1 := up S 62 1 (iI 0)) (S2 := up (up S 62 1 (iI 0)) 74 9 (iI 0)) (by simp (disch := omega) only [li_0, li_1, li_2, li_3, li_4, li_5, li_6, li_7, li_8, li_9, li_10, li_11, li_12, li_16, li_19, li_20, li_28, li_48, li_57, li_59, li_60, li_96, li_97, li_99, li_100, li_102, li_103, li_104, li_112, li_115, li_116, li_118, li_119, li_121, li_124, li_132, li_255, li_256, li_1000, li_2000, li_1000000000, iI_add, iI_sub, iI_mul, iI_neg, iI_lt, iI_le, iI_eq, iI_clamp, iI_s, iI_m1, iI_div, bs, tn, tn4, tn12, tn20, tn124, tn28, itT, itF, if_pos, if_neg, f_X7_judge, f_X2_firstNotGladOf, e1, e2, e3]) (by simp (disch := omega) only [li_0, li_1, li_2, li_3, li_4, li_5, li_6, li_7, li_8, li_9, li_10, li_11, li_12, li_16, li_19, li_20, li_28, li_48, li_57, li_59, li_60, li_96, li_97, li_99, li_100, li_102, li_103, li_104, li_112, li_115, li_116, li_118, li_119, li_121, li_124, li_132, li_255, li_256, li_1000, li_2000, li_1000000000, iI_add, iI_sub, iI_mul, iI_neg, iI_lt, iI_le, iI_eq, iI_clamp, iI_s, iI_m1, iI_div, bs, tn, tn4, tn12, tn20, tn124, tn28, itT, itF, if_pos, if_neg, f_X8_judge, g1, t3', g3]) i9
    · rw [if_neg (by omega)] at e3 g3
      exact e_mk (v := iI (sFst (fun x => decide (12 ≤ x ∨ S.1 63 x ≠ iI (sG a j x))) n 0)) (S1 := up S 62 1 (iI 0)) (S2 := up (up S 62 1 (iI 0)) 74 9 (iI 0)) (by simp (disch := omega) only [li_0, li_1, li_2, li_3, li_4, li_5, li_6, li_7, li_8, li_9, li_10, li_11, li_12, li_16, li_19, li_20, li_28, li_48, li_57, li_59, li_60, li_96, li_97, li_99, li_100, li_102, li_103, li_104, li_112, li_115, li_116, li_118, li_119, li_121, li_124, li_132, li_255, li_256, li_1000, li_2000, li_1000000000, iI_add, iI_sub, iI_mul, iI_neg, iI_lt, iI_le, iI_eq, iI_clamp, iI_s, iI_m1, iI_div, bs, tn, tn4, tn12, tn20, tn124, tn28, itT, itF, if_pos, if_neg, f_X7_judge, f_X2_firstNotGladOf, e1, e2, e3]) (by simp (disch := omega) only [li_0, li_1, li_2, li_3, li_4, li_5, li_6, li_7, li_8, li_9, li_10, li_11, li_12, li_16, li_19, li_20, li_28, li_48, li_57, li_59, li_60, li_96, li_97, li_99, li_100, li_102, li_103, li_104, li_112, li_115, li_116, li_118, li_119, li_121, li_124, li_132, li_255, li_256, li_1000, li_2000, li_1000000000, iI_add, iI_sub, iI_mul, iI_neg, iI_lt, iI_le, iI_eq, iI_clamp, iI_s, iI_m1, iI_div, bs, tn, tn4, tn12, tn20, tn124, tn28, itT, itF, if_pos, if_neg, f_X8_judge, g1, t3', g3]) i9
  · exact e_no hS (-1) 1 (by omega) (by omega) (by simp (disch := omega) only [li_0, li_1, li_2, li_3, li_4, li_5, li_6, li_7, li_8, li_9, li_10, li_11, li_12, li_16, li_19, li_20, li_28, li_48, li_57, li_59, li_60, li_96, li_97, li_99, li_100, li_102, li_103, li_104, li_112, li_115, li_116, li_118, li_119, li_121, li_124, li_132, li_255, li_256, li_1000, li_2000, li_1000000000, iI_add, iI_sub, iI_mul, iI_neg, iI_lt, iI_le, iI_eq, iI_clamp, iI_s, iI_m1, iI_div, bs, tn, tn4, tn12, tn20, tn124, tn28, itT, itF, if_pos, if_neg, f_X7_judge, e1, bse]) (fun S1 q1 q2 => by
      have g1 := rThing (S := S1) (by rw [q1]; exact m0) hN8 x1 x2
      simp (disch := omega) only [li_0, li_1, li_2, li_3, li_4, li_5, li_6, li_7, li_8, li_9, li_10, li_11, li_12, li_16, li_19, li_20, li_28, li_48, li_57, li_59, li_60, li_96, li_97, li_99, li_100, li_102, li_103, li_104, li_112, li_115, li_116, li_118, li_119, li_121, li_124, li_132, li_255, li_256, li_1000, li_2000, li_1000000000, iI_add, iI_sub, iI_mul, iI_neg, iI_lt, iI_le, iI_eq, iI_clamp, iI_s, iI_m1, iI_div, bs, tn, tn4, tn12, tn20, tn124, tn28, itT, itF, if_pos, if_neg, f_X8_judge, g1, bse])
