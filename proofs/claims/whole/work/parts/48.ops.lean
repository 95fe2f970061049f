-- ===== halves turned =====
theorem nx_xor (a b : Nat) : nI a ^^^ nI b = nI (a ^^^ b) := by
  apply Int32.toBitVec_inj.1
  show BitVec.ofNat 32 a ^^^ BitVec.ofNat 32 b = BitVec.ofNat 32 (a ^^^ b)
  apply BitVec.eq_of_getLsbD_eq
  intro i hi
  simp [hi]
theorem w_shl : ∀ n, n < 31 → (nI 1 <<< (nI n &&& 31)) = nI (2 ^ n) := by decide +kernel
def fl (A : Int) (j : Nat) : Int := ((A.toNat ^^^ 2 ^ j : Nat) : Int)
theorem iI_flip {A : Int} {j : Nat} (h0 : 0 ≤ A) (hj : j < 31) : iI A ^^^ (iI 1 <<< (iI (j : Int) &&& 31)) = iI (fl A j) := by
  obtain ⟨n, rfl⟩ : ∃ n : Nat, A = n := ⟨A.toNat, by omega⟩
  have e1 : (iI 1 : Int32) = nI 1 := iI_nI 1
  rw [e1, iI_nI, iI_nI, w_shl j hj, nx_xor]
  exact (iI_nI _).symm
theorem fl_b {A : Int} {j : Nat} (h : 0 ≤ A ∧ A ≤ 255) (hj : j < 8) : 0 ≤ fl A j ∧ fl A j ≤ 255 := by
  have h1 : A.toNat < 2 ^ 8 := by omega
  have h2 : 2 ^ j < 2 ^ 8 := Nat.pow_lt_pow_right (by omega) hj
  have h3 := Nat.xor_lt_two_pow h1 h2
  unfold fl
  omega
theorem fl_bit (A : Int) (j l : Nat) : bitI (fl A j) l = (bitI A l ^^ decide (j = l)) := by
  unfold bitI fl
  rw [Int.toNat_natCast, Nat.testBit_xor, Nat.testBit_two_pow]
def flip2 (a : Nat → Int) (i j : Nat) : Nat → Int := st (st a (124 + i) (fl (a (124 + i)) j)) (124 + j) (fl (a (124 + j)) i)
theorem flip2_bit {a : Nat → Int} {i j : Nat} (hij : i ≠ j) (k l : Nat) : bitI (flip2 a i j (124 + k)) l = (bitI (a (124 + k)) l ^^ decide ((k = i ∧ l = j) ∨ (k = j ∧ l = i))) := by
  unfold flip2
  by_cases c1 : k = j
  · subst c1
    rw [st_s, fl_bit]
    congr 1
    exact decide_eq_decide.mpr ⟨fun h => Or.inr ⟨rfl, h.symm⟩, fun h => h.elim (fun z => absurd z.1.symm hij) (fun z => z.2.symm)⟩
  · rw [st_n (by omega)]
    by_cases c2 : k = i
    · subst c2
      rw [st_s, fl_bit]
      congr 1
      exact decide_eq_decide.mpr ⟨fun h => Or.inl ⟨rfl, h.symm⟩, fun h => h.elim (fun z => z.2.symm) (fun z => absurd z.1 c1)⟩
    · rw [st_n (by omega), decide_eq_false (by omega), Bool.xor_false]
theorem flip2_n {a : Nat → Int} {i j k : Nat} (hk : k < 124) : flip2 a i j k = a k := by
  unfold flip2
  rw [st_n (by omega), st_n (by omega)]
theorem bit_sym {a : Nat → Int} (hw : WFa a) {i j : Nat} (hi : i < 8) (hj : j < 8) : bitI (a (124 + i)) j = bitI (a (124 + j)) i := by
  have h := hw.2.2.2.2.2
  cases e1 : bitI (a (124 + i)) j with
  | true => exact ((h i j hi hj e1).1).symm
  | false =>
    cases e2 : bitI (a (124 + j)) i with
    | true => rw [(h j i hj hi e2).1] at e1; exact e1.symm
    | false => rfl
theorem WFa.turned {a : Nat → Int} (hw : WFa a) {i j : Nat} (hi : i < 8) (hj : j < 8) (hij : i ≠ j) (hi2 : (i : Int) < a 0) (hj2 : (j : Int) < a 0) : WFa (flip2 a i j) := by
  obtain ⟨h0, h1, h2, h3, h4, h5⟩ := id hw
  refine ⟨?_, ?_, ?_, ?_, fun k hk => ⟨?_, ?_, ?_, fun y hy => ?_, ?_⟩, fun k l hk hl hb => ?_⟩
  · rw [flip2_n (by omega)]; exact h0
  · rw [flip2_n (by omega)]; exact h1
  · rw [flip2_n (by omega)]; exact h2
  · rw [flip2_n (by omega)]; exact h3
  · rw [flip2_n (by omega)]; exact (h4 k hk).1
  · rw [flip2_n (by omega)]; exact (h4 k hk).2.1
  · rw [flip2_n (by omega)]; exact (h4 k hk).2.2.1
  · rw [flip2_n (by omega)]; exact (h4 k hk).2.2.2.1 y hy
  · unfold flip2
    by_cases c1 : k = j
    · subst c1
      rw [st_s]; exact fl_b (h4 k hk).2.2.2.2 hi
    · rw [st_n (by omega)]
      by_cases c2 : k = i
      · subst c2
        rw [st_s]; exact fl_b (h4 k hk).2.2.2.2 hj
      · rw [st_n (by omega)]; exact (h4 k hk).2.2.2.2
  · rw [flip2_bit hij] at hb
    rw [flip2_bit hij, flip2_n (by omega)]
    have hs := bit_sym hw hk hl
    by_cases c : (k = i ∧ l = j) ∨ (k = j ∧ l = i)
    · rw [decide_eq_true c] at hb
      rw [decide_eq_true (show (l = i ∧ k = j) ∨ (l = j ∧ k = i) by omega), ← hs]
      refine ⟨hb, ?_, ?_, ?_⟩
      · omega
      · omega
      · omega
    · rw [decide_eq_false c, Bool.xor_false] at hb
      rw [decide_eq_false (show ¬ ((l = i ∧ k = j) ∨ (l = j ∧ k = i)) by omega), Bool.xor_false]
      exact h5 k l hk hl hb
theorem cTurn {S : St} {q : Nat} {a : Nat → Int} (hc : RC S q a) (hw : WFa a) {i j : Nat} (hi : i < 8) (hj : j < 8) (hij : i ≠ j) (hi2 : (i : Int) < a 0) (hj2 : (j : Int) < a 0) :
    f_X3_turnHalves q (iI i) (iI j) S = some (iI 1, up (up S (q + 2) i (iI (fl (a (124 + i)) j))) (q + 2) j (iI (fl (a (124 + j)) i))) := by
  have h8 := hw.1
  have e1 := cLacksTwo hc hw (z := i) (y := j) (by omega) (by omega) (by omega) (by omega)
  have b1 := (hw.2.2.2.2.1 i hi).2.2.2.2
  have b2 := (hw.2.2.2.2.1 j hj).2.2.2.2
  have e2 := hc.2.1 i hi
  have e3 := hc.2.1 j hj
  have f1 := iI_flip (A := a (124 + i)) (j := j) b1.1 (by omega)
  have f2 := iI_flip (A := a (124 + j)) (j := i) b2.1 (by omega)
  simp (disch := omega) only [li_0, li_1, li_2, li_3, li_4, li_5, li_6, li_7, li_8, li_9, li_10, li_11, li_12, li_16, li_19, li_20, li_28, li_48, li_57, li_59, li_60, li_96, li_97, li_99, li_100, li_102, li_103, li_104, li_112, li_115, li_116, li_118, li_119, li_121, li_124, li_132, li_255, li_256, li_1000, li_2000, li_1000000000, iI_add, iI_sub, iI_mul, iI_neg, iI_lt, iI_le, iI_eq, iI_clamp, iI_s, iI_m1, iI_div, bs, tn, tn4, tn12, tn20, tn124, tn28, itT, itF, if_pos, if_neg, up_s, up_n, f_X3_turnHalves, e1, e2, e3, f1, f2]
theorem RC.turned {S : St} {q : Nat} {a : Nat → Int} (hc : RC S q a) {i j : Nat} (hi : i < 8) (hj : j < 8) : RC (up (up S (q + 2) i (iI (fl (a (124 + i)) j))) (q + 2) j (iI (fl (a (124 + j)) i))) q (flip2 a i j) := (hc.sth hi _).sth hj _
theorem rTurn {S : St} {a : Nat → Int} (hm : ∀ k, k < 132 → S.1 75 k = iI (a k)) (hw : WFa a) {i j : Nat} (hi : i < 8) (hj : j < 8) (hij : i ≠ j) :
    f_X8_turnsHalves (iI i) (iI j) S = some (up (up S 75 (124 + i) (iI (fl (a (124 + i)) j))) 75 (124 + j) (iI (fl (a (124 + j)) i))) := by
  have b1 := (hw.2.2.2.2.1 i hi).2.2.2.2
  have b2 := (hw.2.2.2.2.1 j hj).2.2.2.2
  have e2 := hm (124 + i) (by omega)
  have e3 := hm (124 + j) (by omega)
  have f1 := iI_flip (A := a (124 + i)) (j := j) b1.1 (by omega)
  have f2 := iI_flip (A := a (124 + j)) (j := i) b2.1 (by omega)
  simp (disch := omega) only [li_0, li_1, li_2, li_3, li_4, li_5, li_6, li_7, li_8, li_9, li_10, li_11, li_12, li_16, li_19, li_20, li_28, li_48, li_57, li_59, li_60, li_96, li_97, li_99, li_100, li_102, li_103, li_104, li_112, li_115, li_116, li_118, li_119, li_121, li_124, li_132, li_255, li_256, li_1000, li_2000, li_1000000000, iI_add, iI_sub, iI_mul, iI_neg, iI_lt, iI_le, iI_eq, iI_clamp, iI_s, iI_m1, iI_div, bs, tn, tn4, tn12, tn20, tn124, tn28, itT, itF, if_pos, if_neg, up_s, up_n, f_X8_turnsHalves, e2, e3, f1, f2]
theorem RM.turned {S : St} {r : Nat} {a : Nat → Int} (hm : RM S r a) (i j : Nat) : RM (up (up S r (124 + i) (iI (fl (a (124 + i)) j))) r (124 + j) (iI (fl (a (124 + j)) i))) r (flip2 a i j) := (hm.st _ _).st _ _
theorem e_pairs {S : St} (hS : Inv S) (a1 : Int32) (a2 : Int32) : ∃ (z1 : Int32 × St) (z2 : Int32 × St), f_X7_pairs a1 a2 S = some z1 ∧ f_X8_pairs a1 a2 z1.2 = some z2 ∧ z1.1 = z2.1 ∧ Inv z2.2 := by
  obtain ⟨⟨a, hw, hc, hm0⟩, -⟩ := id hS
  have hm : ∀ k, k < 132 → S.1 75 k = iI (a k) := hm0
  have h8 := hw.1
  have w1 := hw.2.1
  have w2 := hw.2.2.1
  have w3 := hw.2.2.2.1
  obtain ⟨now, hnow⟩ : ∃ n : Nat, a 1 = n := ⟨(a 1).toNat, by omega⟩
  obtain ⟨N, hN⟩ : ∃ n : Nat, a 0 = n := ⟨(a 0).toNat, by omega⟩
  have hn : now ≤ 11 := by omega
  have hN8 : N ≤ 8 := by omega
  have p1 : S.1 1 1 = iI now := by rw [hc.1 1 (by omega), hnow]
  have p0 : S.1 1 0 = iI N := by rw [hc.1 0 (by omega), hN]
  have m0 : S.1 75 0 = iI N := by rw [hm 0 (by omega), hN]
  have m1 : S.1 75 1 = iI now := by rw [hm 1 (by omega), hnow]
  obtain ⟨x, x1, x2, rfl⟩ := iI_any a1
  obtain ⟨y, y1, y2, rfl⟩ := iI_any a2
  have e1 := cLacksTwo hc hw x1 x2 y1 y2
  by_cases c : (0 ≤ x ∧ x < a 0) ∧ (0 ≤ y ∧ y < a 0) ∧ x ≠ y
  · obtain ⟨i, rfl⟩ : ∃ n : Nat, x = n := ⟨x.toNat, by omega⟩
    obtain ⟨j, rfl⟩ : ∃ n : Nat, y = n := ⟨y.toNat, by omega⟩
    have hw2 := hw.turned (i := i) (j := j) (by omega) (by omega) (by omega) (by omega) (by omega)
    have e3 := cTurn hc hw (i := i) (j := j) (by omega) (by omega) (by omega) (by omega) (by omega)
    have hc2 := hc.turned (i := i) (j := j) (by omega) (by omega)
    have e4 := cHalves hc2 hw2 (N := N) (by rw [flip2_n (by omega)]; exact hN) (i := i) (j := j) (by omega) (by omega) (by omega)
    obtain ⟨S1, hS1⟩ : ∃ S1, S1 = up (up S (1 + 2) i (iI (fl (a (124 + i)) j))) (1 + 2) j (iI (fl (a (124 + j)) i)) := ⟨_, rfl⟩
    have hmm : RM S1 75 a := by rw [hS1]; exact (hm0.ne (by omega)).ne (by omega)
    have m0' := hmm 0 (by omega)
    rw [hN] at m0'
    have g1 := rTwo m0' hN8 x1 x2 y1 y2
    have g3 := rTurn hmm hw (i := i) (j := j) (by omega) (by omega) (by omega)
    have hm2 := hmm.turned i j
    rw [← hS1] at e3 e4 hc2
    obtain ⟨S2, hS2⟩ : ∃ S2, S2 = up (up S1 75 (124 + i) (iI (fl (a (124 + i)) j))) 75 (124 + j) (iI (fl (a (124 + j)) i)) := ⟨_, rfl⟩
    rw [← hS2] at g3 hm2
    have b := (hw2.2.2.2.2.1 i (by omega)).2.2.2.2
    have g4 := hm2 (124 + i) (by omega)
    have g5 := iI_bit (A := flip2 a i j (124 + i)) (j := j) b.1 (by omega) (by omega)
    have g6 : (((flip2 a i j (124 + i)).toNat / 2 ^ j % 2 : Nat) : Int) = (hb (flip2 a i j) i j : Int) := rfl
    refine e_mk (v := iI (hb (flip2 a i j) i j)) (S1 := S1) (S2 := S2) ?_ (by simp (disch := omega) only [li_0, li_1, li_2, li_3, li_4, li_5, li_6, li_7, li_8, li_9, li_10, li_11, li_12, li_16, li_19, li_20, li_28, li_48, li_57, li_59, li_60, li_96, li_97, li_99, li_100, li_102, li_103, li_104, li_112, li_115, li_116, li_118, li_119, li_121, li_124, li_132, li_255, li_256, li_1000, li_2000, li_1000000000, iI_add, iI_sub, iI_mul, iI_neg, iI_lt, iI_le, iI_eq, iI_clamp, iI_s, iI_m1, iI_div, bs, tn, tn4, tn12, tn20, tn124, tn28, itT, itF, if_pos, if_neg, f_X8_pairs, g1, g3, g4, g5, g6]) ?_
    · rcases hb_le (flip2 a i j) i j with h | h
      · simp (disch := omega) only [li_0, li_1, li_2, li_3, li_4, li_5, li_6, li_7, li_8, li_9, li_10, li_11, li_12, li_16, li_19, li_20, li_28, li_48, li_57, li_59, li_60, li_96, li_97, li_99, li_100, li_102, li_103, li_104, li_112, li_115, li_116, li_118, li_119, li_121, li_124, li_132, li_255, li_256, li_1000, li_2000, li_1000000000, iI_add, iI_sub, iI_mul, iI_neg, iI_lt, iI_le, iI_eq, iI_clamp, iI_s, iI_m1, iI_div, bs, tn, tn4, tn12, tn20, tn124, tn28, itT, itF, if_pos, if_neg, f_X7_pairs, e1, e3, e4, h]
        rfl
      · simp (disch := omega) only [li_0, li_1, li_2, li_3, li_4, li_5, li_6, li_7, li_8, li_9, li_10, li_11, li_12, li_16, li_19, li_20, li_28, li_48, li_57, li_59, li_60, li_96, li_97, li_99, li_100, li_102, li_103, li_104, li_112, li_115, li_116, li_118, li_119, li_121, li_124, li_132, li_255, li_256, li_1000, li_2000, li_1000000000, iI_add, iI_sub, iI_mul, iI_neg, iI_lt, iI_le, iI_eq, iI_clamp, iI_s, iI_m1, iI_div, bs, tn, tn4, tn12, tn20, tn124, tn28, itT, itF, if_pos, if_neg, f_X7_pairs, e1, e3, e4, h]
        rfl
    · refine hS.shop ⟨flip2 a i j, hw2, ?_, hm2⟩ (fun i k h => ?_)
      · rw [hS2]; exact (hc2.ne (by omega)).ne (by omega)
      · unfold scr at h
        rw [hS2, hS1]
        simp (disch := omega) only [up_n]
  · exact e_no hS (-1) 1 (by omega) (by omega) (by simp (disch := omega) only [li_0, li_1, li_2, li_3, li_4, li_5, li_6, li_7, li_8, li_9, li_10, li_11, li_12, li_16, li_19, li_20, li_28, li_48, li_57, li_59, li_60, li_96, li_97, li_99, li_100, li_102, li_103, li_104, li_112, li_115, li_116, li_118, li_119, li_121, li_124, li_132, li_255, li_256, li_1000, li_2000, li_1000000000, iI_add, iI_sub, iI_mul, iI_neg, iI_lt, iI_le, iI_eq, iI_clamp, iI_s, iI_m1, iI_div, bs, tn, tn4, tn12, tn20, tn124, tn28, itT, itF, if_pos, if_neg, f_X7_pairs, e1, bse]) (fun S1 q1 q2 => by
      have g1 := rTwo (S := S1) (by rw [q1]; exact m0) hN8 x1 x2 y1 y2
      simp (disch := omega) only [li_0, li_1, li_2, li_3, li_4, li_5, li_6, li_7, li_8, li_9, li_10, li_11, li_12, li_16, li_19, li_20, li_28, li_48, li_57, li_59, li_60, li_96, li_97, li_99, li_100, li_102, li_103, li_104, li_112, li_115, li_116, li_118, li_119, li_121, li_124, li_132, li_255, li_256, li_1000, li_2000, li_1000000000, iI_add, iI_sub, iI_mul, iI_neg, iI_lt, iI_le, iI_eq, iI_clamp, iI_s, iI_m1, iI_div, bs, tn, tn4, tn12, tn20, tn124, tn28, itT, itF, if_pos, if_neg, f_X8_pairs, g1, bse])
-- ===== the image =====
theorem e_image {S : St} (hS : Inv S) : ∃ (z1 : Int32 × St) (z2 : Int32 × St), f_X7_image S = some z1 ∧ f_X8_image z1.2 = some z2 ∧ z1.1 = z2.1 ∧ Inv z2.2 := by
  obtain ⟨⟨a, hw, hc, hm0⟩, -⟩ := id hS
  have hm : ∀ k, k < 132 → S.1 75 k = iI (a k) := hm0
  have h8 := hw.1
  have w1 := hw.2.1
  have w2 := hw.2.2.1
  have w3 := hw.2.2.2.1
  obtain ⟨now, hnow⟩ : ∃ n : Nat, a 1 = n := ⟨(a 1).toNat, by omega⟩
  obtain ⟨N, hN⟩ : ∃ n : Nat, a 0 = n := ⟨(a 0).toNat, by omega⟩
  have hn : now ≤ 11 := by omega
  have hN8 : N ≤ 8 := by omega
  have p1 : S.1 1 1 = iI now := by rw [hc.1 1 (by omega), hnow]
  have p0 : S.1 1 0 = iI N := by rw [hc.1 0 (by omega), hN]
  have m0 : S.1 75 0 = iI N := by rw [hm 0 (by omega), hN]
  have m1 : S.1 75 1 = iI now := by rw [hm 1 (by omega), hnow]
  obtain ⟨S1, c1, c2, c3⟩ := cCopy (q0 := 20) (q1 := 1) (by omega) S
  obtain ⟨S2, d1, d2, d3⟩ := rLays (q0 := 75) (q1 := 77) (by omega) (up S1 0 11 (iI 1))
  have f1 : S1.1 1 1 = iI now := by rw [c2 _ _ (by omega)]; exact p1
  have f2 : S2.1 75 1 = iI now := by rw [d2 _ _ (by omega), up_ne (by omega), c2 _ _ (by omega)]; exact m1
  refine e_mk (v := iI now) (S1 := up S1 0 11 (iI 1)) (S2 := up S2 74 4 (iI 1)) (by simp (disch := omega) only [li_0, li_1, li_2, li_3, li_4, li_5, li_6, li_7, li_8, li_9, li_10, li_11, li_12, li_16, li_19, li_20, li_28, li_48, li_57, li_59, li_60, li_96, li_97, li_99, li_100, li_102, li_103, li_104, li_112, li_115, li_116, li_118, li_119, li_121, li_124, li_132, li_255, li_256, li_1000, li_2000, li_1000000000, iI_add, iI_sub, iI_mul, iI_neg, iI_lt, iI_le, iI_eq, iI_clamp, iI_s, iI_m1, iI_div, bs, tn, tn4, tn12, tn20, tn124, tn28, itT, itF, if_pos, if_neg, up_s, up_n, f_X7_image, c1, f1]) (by simp (disch := omega) only [li_0, li_1, li_2, li_3, li_4, li_5, li_6, li_7, li_8, li_9, li_10, li_11, li_12, li_16, li_19, li_20, li_28, li_48, li_57, li_59, li_60, li_96, li_97, li_99, li_100, li_102, li_103, li_104, li_112, li_115, li_116, li_118, li_119, li_121, li_124, li_132, li_255, li_256, li_1000, li_2000, li_1000000000, iI_add, iI_sub, iI_mul, iI_neg, iI_lt, iI_le, iI_eq, iI_clamp, iI_s, iI_m1, iI_div, bs, tn, tn4, tn12, tn20, tn124, tn28, itT, itF, if_pos, if_neg, up_s, up_n, f_X8_image, d1, f2]) ?_
  have hfr : ∀ i k, ¬ ((20 ≤ i ∧ i ≤ 38) ∨ i = 77 ∨ (i = 0 ∧ k = 11) ∨ (i = 74 ∧ k = 4)) → (up S2 74 4 (iI 1)).1 i k = S.1 i k := by
    intro i k h
    rw [up_n (by omega), d2 _ _ (by omega), up_n (by omega), c2 _ _ (by omega)]
  obtain ⟨hB, hT, hR, hn', hi, hi2⟩ := hS
  refine ⟨hB.fr (fun i k h => hfr i k (by omega)), hT.fr (fun i k h => hfr i k (by omega)), hR.fr (fun i k h => hfr i k (by omega)), fun k hk => ?_, ?_, Or.inr ⟨?_, a, hw, ?_, fun k hk => ?_⟩⟩
  · rw [hfr _ _ (by omega), hfr _ _ (by omega)]; exact hn' k hk
  · rw [up_n (by omega), d2 _ _ (by omega), up_s, up_s]
  · rw [up_n (by omega), d2 _ _ (by omega), up_s]; rfl
  · have h := c3 a hc
    have h2 : RC (up S1 0 11 (iI 1)) 20 a := h.ne (by omega)
    refine RC.ne ⟨fun k hk => ?_, fun j hj => ?_, fun j hj hl => ⟨?_, ?_, ?_, fun y hy => ?_⟩⟩ (by omega)
    · rw [d2 _ _ (by omega)]; exact h2.1 k hk
    · rw [d2 _ _ (by omega)]; exact h2.2.1 j hj
    · rw [d2 _ _ (by omega)]; exact (h2.2.2 j hj hl).1
    · rw [d2 _ _ (by omega)]; exact (h2.2.2 j hj hl).2.1
    · rw [d2 _ _ (by omega)]; exact (h2.2.2 j hj hl).2.2.1
    · rw [d2 _ _ (by omega)]; exact (h2.2.2 j hj hl).2.2.2 y hy
  · rw [up_n (by omega), d3 k hk, up_ne (by omega), c2 _ _ (by omega)]; exact hm k hk
theorem e_on {S : St} (hS : Inv S) : ∃ (z1 : Int32 × St) (z2 : Int32 × St), f_X7_on S = some z1 ∧ f_X8_on z1.2 = some z2 ∧ z1.1 = z2.1 ∧ Inv z2.2 := by
  obtain ⟨hB, hT, hR, hn', hi, hi2⟩ := id hS
  rcases hi2 with h0 | ⟨h1, b, hb, hbc, hbm⟩
  · exact e_no hS (-3) 3 (by omega) (by omega) (by simp (disch := omega) only [li_0, li_1, li_2, li_3, li_4, li_5, li_6, li_7, li_8, li_9, li_10, li_11, li_12, li_16, li_19, li_20, li_28, li_48, li_57, li_59, li_60, li_96, li_97, li_99, li_100, li_102, li_103, li_104, li_112, li_115, li_116, li_118, li_119, li_121, li_124, li_132, li_255, li_256, li_1000, li_2000, li_1000000000, iI_add, iI_sub, iI_mul, iI_neg, iI_lt, iI_le, iI_eq, iI_clamp, iI_s, iI_m1, iI_div, bs, tn, tn4, tn12, tn20, tn124, tn28, itT, itF, if_pos, if_neg, f_X7_on, h0, bse]) (fun S1 q1 q2 => by
      have e : S1.1 74 4 = 0 := by rw [q2, ← hi]; exact h0
      simp (disch := omega) only [li_0, li_1, li_2, li_3, li_4, li_5, li_6, li_7, li_8, li_9, li_10, li_11, li_12, li_16, li_19, li_20, li_28, li_48, li_57, li_59, li_60, li_96, li_97, li_99, li_100, li_102, li_103, li_104, li_112, li_115, li_116, li_118, li_119, li_121, li_124, li_132, li_255, li_256, li_1000, li_2000, li_1000000000, iI_add, iI_sub, iI_mul, iI_neg, iI_lt, iI_le, iI_eq, iI_clamp, iI_s, iI_m1, iI_div, bs, tn, tn4, tn12, tn20, tn124, tn28, itT, itF, if_pos, if_neg, f_X8_on, e, bse])
  · have w1 := hb.2.1
    obtain ⟨S1, c1, c2, c3⟩ := cCopy (q0 := 1) (q1 := 20) (by omega) S
    obtain ⟨S2, d1, d2, d3⟩ := rLays (q0 := 77) (q1 := 75) (by omega) S1
    have hc := c3 b hbc
    have f1 : S1.1 1 1 = iI (b 1) := hc.1 1 (by omega)
    have f2 : S2.1 75 1 = iI (b 1) := by rw [d3 _ (by omega), c2 _ _ (by omega)]; exact hbm 1 (by omega)
    have f3 : S1.1 74 4 = 1 := by rw [c2 _ _ (by omega), ← hi]; exact h1
    refine e_mk (v := iI (b 1)) (S1 := S1) (S2 := S2) (by simp (disch := omega) only [li_0, li_1, li_2, li_3, li_4, li_5, li_6, li_7, li_8, li_9, li_10, li_11, li_12, li_16, li_19, li_20, li_28, li_48, li_57, li_59, li_60, li_96, li_97, li_99, li_100, li_102, li_103, li_104, li_112, li_115, li_116, li_118, li_119, li_121, li_124, li_132, li_255, li_256, li_1000, li_2000, li_1000000000, iI_add, iI_sub, iI_mul, iI_neg, iI_lt, iI_le, iI_eq, iI_clamp, iI_s, iI_m1, iI_div, bs, tn, tn4, tn12, tn20, tn124, tn28, itT, itF, if_pos, if_neg, f_X7_on, h1, c1, f1]) (by simp (disch := omega) only [li_0, li_1, li_2, li_3, li_4, li_5, li_6, li_7, li_8, li_9, li_10, li_11, li_12, li_16, li_19, li_20, li_28, li_48, li_57, li_59, li_60, li_96, li_97, li_99, li_100, li_102, li_103, li_104, li_112, li_115, li_116, li_118, li_119, li_121, li_124, li_132, li_255, li_256, li_1000, li_2000, li_1000000000, iI_add, iI_sub, iI_mul, iI_neg, iI_lt, iI_le, iI_eq, iI_clamp, iI_s, iI_m1, iI_div, bs, tn, tn4, tn12, tn20, tn124, tn28, itT, itF, if_pos, if_neg, f_X8_on, f3, d1, f2]) ?_
    refine hS.shop ⟨b, hb, ?_, fun k hk => ?_⟩ (fun i k h => ?_)
    · refine ⟨fun k hk => ?_, fun j hj => ?_, fun j hj hl => ⟨?_, ?_, ?_, fun y hy => ?_⟩⟩
      · rw [d2 _ _ (by omega)]; exact hc.1 k hk
      · rw [d2 _ _ (by omega)]; exact hc.2.1 j hj
      · rw [d2 _ _ (by omega)]; exact (hc.2.2 j hj hl).1
      · rw [d2 _ _ (by omega)]; exact (hc.2.2 j hj hl).2.1
      · rw [d2 _ _ (by omega)]; exact (hc.2.2 j hj hl).2.2.1
      · rw [d2 _ _ (by omega)]; exact (hc.2.2 j hj hl).2.2.2 y hy
    · rw [d3 k hk, c2 _ _ (by omega)]; exact hbm k hk
    · rw [d2 _ _ (by omega), c2 _ _ (by omega)]
