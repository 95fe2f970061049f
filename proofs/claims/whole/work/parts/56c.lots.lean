-- ===== lots 56c =====
theorem rLotL {S : St} {a : Nat → Int} {now N : Nat} (hw : WFa a) (hN : a 0 = N) (hn : now ≤ 11) (hn1 : a 1 = now) (s : Int32) {y1 y3 y4 y5 : Int32} {k : St → Option (Int32 × St)} :
    ∀ d n x : Nat, ∀ S' : St, x + d = N → d < n → rFr S S' → RM S' 76 (sLot a s now x).1 → S'.1 74 15 = (sLot a s now x).2 → ∃ S'', rFr S S'' ∧ RM S'' 76 (sLot a s now N).1 ∧ S''.1 74 15 = (sLot a s now N).2 ∧ f_X8_lots_L72 n y1 y3 y4 y5 (iI x) S' k = k S'' := by
  have h8 := hw.1
  intro d
  induction d with
  | zero =>
    intro n x S' hx hd q1 q2 q3
    obtain ⟨n, rfl⟩ : ∃ p, n = p + 1 := ⟨n - 1, by omega⟩
    obtain rfl : x = N := by omega
    obtain ⟨w1, w2, w3⟩ := sLot_wf hw s hn x (by omega)
    have e0 : S'.1 76 0 = iI x := by rw [q2 0 (by omega), w2, hN]
    refine ⟨S', q1, q2, q3, ?_⟩
    rw [f_X8_lots_L72]
    simp (disch := omega) only [li_0, li_1, li_2, li_3, li_4, li_5, li_6, li_7, li_8, li_9, li_10, li_11, li_12, li_16, li_19, li_20, li_28, li_48, li_57, li_59, li_60, li_96, li_97, li_99, li_100, li_102, li_103, li_104, li_112, li_115, li_116, li_118, li_119, li_121, li_124, li_132, li_255, li_256, li_1000, li_2000, li_1000000000, iI_add, iI_sub, iI_mul, iI_neg, iI_lt, iI_le, iI_eq, iI_clamp, iI_s, iI_m1, iI_div, bs, tn, tn4, tn12, tn20, tn124, tn28, itT, itF, if_pos, if_neg, e0]
  | succ d ih =>
    intro n x S' hx hd q1 q2 q3
    obtain ⟨n, rfl⟩ : ∃ p, n = p + 1 := ⟨n - 1, by omega⟩
    obtain ⟨w1, w2, w3⟩ := sLot_wf hw s hn x (by omega)
    have e0 : S'.1 76 0 = iI N := by rw [q2 0 (by omega), w2, hN]
    have hwt := w1.t (j := x) (by omega)
    have k1 := hwt.2.2.1
    have e2 := q2 (20 + x) (by omega)
    by_cases c : (sLot a s now x).1 (20 + x) < 0
    · obtain ⟨s1, hs1⟩ : ∃ s1, s1 = nx (sLot a s now x).2 := ⟨_, rfl⟩
      obtain ⟨s2, hs2⟩ : ∃ s2, s2 = nx s1 := ⟨_, rfl⟩
      obtain ⟨L, hL⟩ : ∃ L, L = (sLot a s now x).1 := ⟨_, rfl⟩
      have eS : sLot a s now (x + 1) = (st L (20 + x) (sY L x now (dz s1 60) (dz s2 4) : Int), s2) := by
        rw [hs2, hs1, hL]
        exact if_pos c
      have b1 := dz_b s1 (m := 60) (Or.inl rfl)
      have b2 := dz_b s2 (m := 4) (Or.inr rfl)
      have e3 : f_X8_drawn (iI 60) S' = some (iI (dz s1 60), up S' 74 15 s1) := by
        rw [hs1, ← q3]
        exact rDraw (Or.inl rfl)
      have e4 : f_X8_drawn (iI 4) (up S' 74 15 s1) = some (iI (dz s2 4), up (up S' 74 15 s1) 74 15 s2) := by
        have h := rDraw (S := up S' 74 15 s1) (m := 4) (Or.inr rfl)
        have h2 : (up S' 74 15 s1).1 74 15 = s1 := up_s
        rw [h2, ← hs2] at h
        exact h
      rw [← hL] at q2 w1 w2 w3 hwt c e2 k1
      obtain ⟨S4, hS4⟩ : ∃ S4, S4 = up (up S' 74 15 s1) 74 15 s2 := ⟨_, rfl⟩
      rw [← hS4] at e4
      have hm4 : RM S4 76 L := by rw [hS4]; exact (q2.ne (by omega)).ne (by omega)
      have e5 : f_X8_yearOf 76 (iI x) (iI (dz s1 60)) (iI (dz s2 4)) S4 = some (iI (sY L x now (dz s1 60) (dz s2 4))) := rY hm4 (by omega) hwt hn (by rw [w3]; exact hn1) (by omega) (by omega)
      have f4 : rFr S (up S4 76 (20 + x) (iI (sY L x now (dz s1 60) (dz s2 4)))) := fun i k hi => by
        rw [up_ne (show i ≠ 76 by omega), hS4, up_n (show i ≠ 74 ∨ k ≠ 15 by omega), up_n (show i ≠ 74 ∨ k ≠ 15 by omega)]
        exact q1 i k hi
      have f5 : RM (up S4 76 (20 + x) (iI (sY L x now (dz s1 60) (dz s2 4)))) 76 (sLot a s now (x + 1)).1 := by
        rw [eS]
        exact hm4.st _ _
      have f6 : (up S4 76 (20 + x) (iI (sY L x now (dz s1 60) (dz s2 4)))).1 74 15 = (sLot a s now (x + 1)).2 := by
        rw [eS, up_ne (show 74 ≠ 76 by omega), hS4]
        exact up_s
      obtain ⟨S'', g1, g2, g3, g4⟩ := ih n (x + 1) _ (by omega) (by omega) f4 f5 f6
      refine ⟨S'', g1, g2, g3, ?_⟩
      have j1 : (20 + iI (x : Int) : Int32) = iI ((20 + x : Nat) : Int) := by rw [li_20, iI_add]; rfl
      have j2 : (iI ((20 + x : Nat) : Int)).toNatClampNeg = 20 + x := by rw [iI_clamp (by omega) (by omega)]; rfl
      have j3 : ¬ (iI ((20 + x : Nat) : Int) < 0 ∨ 132 ≤ 20 + x) := by rw [li_0, iI_lt (by omega) (by omega) (by omega) (by omega)]; omega
      have j4 : (iI (x : Int) + 1 : Int32) = iI ((x + 1 : Nat) : Int) := by rw [li_1, iI_add]; rfl
      rw [f_X8_lots_L72, e0, if_neg (by rw [iI_le (by omega) (by omega) (by omega) (by omega)]; omega), j1, j2, if_neg j3, e2, if_pos (by rw [li_0, iI_lt (by omega) (by omega) (by omega) (by omega)]; exact c), li_60, e3, bs, li_4, e4, bs, e5, bs, if_neg j3, j4]
      exact g4
    · have eS : sLot a s now (x + 1) = sLot a s now x := if_neg c
      obtain ⟨S'', g1, g2, g3, g4⟩ := ih n (x + 1) S' (by omega) (by omega) q1 (by rw [eS]; exact q2) (by rw [eS]; exact q3)
      refine ⟨S'', g1, g2, g3, ?_⟩
      rw [f_X8_lots_L72]
      simp (disch := omega) only [li_0, li_1, li_2, li_3, li_4, li_5, li_6, li_7, li_8, li_9, li_10, li_11, li_12, li_16, li_19, li_20, li_28, li_48, li_57, li_59, li_60, li_96, li_97, li_99, li_100, li_102, li_103, li_104, li_112, li_115, li_116, li_118, li_119, li_121, li_124, li_132, li_255, li_256, li_1000, li_2000, li_1000000000, iI_add, iI_sub, iI_mul, iI_neg, iI_lt, iI_le, iI_eq, iI_clamp, iI_s, iI_m1, iI_div, bs, tn, tn4, tn12, tn20, tn124, tn28, itT, itF, if_pos, if_neg, e0, e2, g4]
