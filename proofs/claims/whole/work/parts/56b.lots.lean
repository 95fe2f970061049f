-- ===== lots 56b =====
theorem cLotL {S : St} {a : Nat → Int} {now N : Nat} (hw : WFa a) (hN : a 0 = N) (hn : now ≤ 11) (hn1 : a 1 = now) (s : Int32) {k : St → Option St} :
    ∀ d n x : Nat, ∀ S' : St, x + d = N → d < n → cFr S S' → RC S' 39 (sLot a s now x).1 → S'.1 0 12 = (sLot a s now x).2 → ∃ S'', cFr S S'' ∧ RC S'' 39 (sLot a s now N).1 ∧ S''.1 0 12 = (sLot a s now N).2 ∧ f_X7_glueByLot_L13 n (iI x) S' k = k S'' := by
  have h8 := hw.1
  intro d
  induction d with
  | zero =>
    intro n x S' hx hd q1 q2 q3
    obtain ⟨n, rfl⟩ : ∃ p, n = p + 1 := ⟨n - 1, by omega⟩
    obtain rfl : x = N := by omega
    obtain ⟨w1, w2, w3⟩ := sLot_wf hw s hn x (by omega)
    have e0 : S'.1 39 0 = iI x := by rw [q2.1 0 (by omega), w2, hN]
    refine ⟨S', q1, q2, q3, ?_⟩
    rw [f_X7_glueByLot_L13]
    simp (disch := omega) only [li_0, li_1, li_2, li_3, li_4, li_5, li_6, li_7, li_8, li_9, li_10, li_11, li_12, li_16, li_19, li_20, li_28, li_48, li_57, li_59, li_60, li_96, li_97, li_99, li_100, li_102, li_103, li_104, li_112, li_115, li_116, li_118, li_119, li_121, li_124, li_132, li_255, li_256, li_1000, li_2000, li_1000000000, iI_add, iI_sub, iI_mul, iI_neg, iI_lt, iI_le, iI_eq, iI_clamp, iI_s, iI_m1, iI_div, bs, tn, tn4, tn12, tn20, tn124, tn28, itT, itF, if_pos, if_neg, e0]
  | succ d ih =>
    intro n x S' hx hd q1 q2 q3
    obtain ⟨n, rfl⟩ : ∃ p, n = p + 1 := ⟨n - 1, by omega⟩
    obtain ⟨w1, w2, w3⟩ := sLot_wf hw s hn x (by omega)
    have e0 : S'.1 39 0 = iI N := by rw [q2.1 0 (by omega), w2, hN]
    have en : S'.1 39 1 = iI now := by rw [q2.1 1 (by omega), w3, hn1]
    have ht := q2.t (j := x) (by omega) (by omega)
    have hwt := w1.t (j := x) (by omega)
    have e1 := cAt (S := S') (q := 39) (j := x) (by omega)
    have e2 := cSet ht hwt
    by_cases c : (sLot a s now x).1 (20 + x) < 0
    · obtain ⟨s1, hs1⟩ : ∃ s1, s1 = nx (sLot a s now x).2 := ⟨_, rfl⟩
      obtain ⟨s2, hs2⟩ : ∃ s2, s2 = nx s1 := ⟨_, rfl⟩
      obtain ⟨L, hL⟩ : ∃ L, L = (sLot a s now x).1 := ⟨_, rfl⟩
      have eS : sLot a s now (x + 1) = (st L (20 + x) (sY L x now (dz s1 60) (dz s2 4) : Int), s2) := by
        rw [hs2, hs1, hL]
        exact if_pos c
      have b1 := dz_b s1 (m := 60) (Or.inl rfl)
      have b2 := dz_b s2 (m := 4) (Or.inr rfl)
      have e3 : f_X7_draw (iI 60) S' = some (iI (dz s1 60), up S' 0 12 s1) := by
        rw [hs1, ← q3]
        exact cDraw (Or.inl rfl)
      have e4 : f_X7_draw (iI 4) (up S' 0 12 s1) = some (iI (dz s2 4), up (up S' 0 12 s1) 0 12 s2) := by
        have h := cDraw (S := up S' 0 12 s1) (m := 4) (Or.inr rfl)
        have h2 : (up S' 0 12 s1).1 0 12 = s1 := up_s
        rw [h2, ← hs2] at h
        exact h
      rw [← hL] at q2 w1 w2 w3 ht hwt c e2
      obtain ⟨S4, hS4⟩ : ∃ S4, S4 = up (up S' 0 12 s1) 0 12 s2 := ⟨_, rfl⟩
      rw [← hS4] at e4
      have hc4 : RC S4 39 L := by rw [hS4]; exact (q2.ne (by omega)).ne (by omega)
      have en4 : S4.1 39 1 = iI now := by rw [hc4.1 1 (by omega), w3, hn1]
      have e5 : f_X6_yearBy (39 + 1 + 2 + 2 * x) (iI (dz s1 60)) (iI (dz s2 4)) (iI now) S4 = some (iI (sY L x now (dz s1 60) (dz s2 4))) := cY (hc4.t (j := x) (by omega) (by omega)) hwt hn (by omega) (by omega)
      have f4 : cFr S (up S4 (39 + 1 + 2 + 2 * x) 2 (iI (sY L x now (dz s1 60) (dz s2 4)))) := fun i k hi => by
        rw [up_ne (show i ≠ 39 + 1 + 2 + 2 * x by omega), hS4, up_n (show i ≠ 0 ∨ k ≠ 12 by omega), up_n (show i ≠ 0 ∨ k ≠ 12 by omega)]
        exact q1 i k hi
      have f5 : RC (up S4 (39 + 1 + 2 + 2 * x) 2 (iI (sY L x now (dz s1 60) (dz s2 4)))) 39 (sLot a s now (x + 1)).1 := by
        rw [eS]
        exact hc4.sts (by omega) _
      have f6 : (up S4 (39 + 1 + 2 + 2 * x) 2 (iI (sY L x now (dz s1 60) (dz s2 4)))).1 0 12 = (sLot a s now (x + 1)).2 := by
        rw [eS, up_ne (show 0 ≠ 39 + 1 + 2 + 2 * x by omega), hS4]
        exact up_s
      obtain ⟨S'', g1, g2, g3, g4⟩ := ih n (x + 1) _ (by omega) (by omega) f4 f5 f6
      refine ⟨S'', g1, g2, g3, ?_⟩
      rw [f_X7_glueByLot_L13]
      simp (disch := omega) only [li_0, li_1, li_2, li_3, li_4, li_5, li_6, li_7, li_8, li_9, li_10, li_11, li_12, li_16, li_19, li_20, li_28, li_48, li_57, li_59, li_60, li_96, li_97, li_99, li_100, li_102, li_103, li_104, li_112, li_115, li_116, li_118, li_119, li_121, li_124, li_132, li_255, li_256, li_1000, li_2000, li_1000000000, iI_add, iI_sub, iI_mul, iI_neg, iI_lt, iI_le, iI_eq, iI_clamp, iI_s, iI_m1, iI_div, bs, tn, tn4, tn12, tn20, tn124, tn28, itT, itF, if_pos, if_neg, e0, e1, e2, e3, e4, en4, e5, g4]
    · have eS : sLot a s now (x + 1) = sLot a s now x := if_neg c
      obtain ⟨S'', g1, g2, g3, g4⟩ := ih n (x + 1) S' (by omega) (by omega) q1 (by rw [eS]; exact q2) (by rw [eS]; exact q3)
      refine ⟨S'', g1, g2, g3, ?_⟩
      rw [f_X7_glueByLot_L13]
      simp (disch := omega) only [li_0, li_1, li_2, li_3, li_4, li_5, li_6, li_7, li_8, li_9, li_10, li_11, li_12, li_16, li_19, li_20, li_28, li_48, li_57, li_59, li_60, li_96, li_97, li_99, li_100, li_102, li_103, li_104, li_112, li_115, li_116, li_118, li_119, li_121, li_124, li_132, li_255, li_256, li_1000, li_2000, li_1000000000, iI_add, iI_sub, iI_mul, iI_neg, iI_lt, iI_le, iI_eq, iI_clamp, iI_s, iI_m1, iI_div, bs, tn, tn4, tn12, tn20, tn124, tn28, itT, itF, if_pos, if_neg, e0, e1, e2, g4]
