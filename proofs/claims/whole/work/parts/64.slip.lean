-- ===== a slip of the thumb =====
theorem e_noL {S : St} (hS : Inv S) {x1 : Option (Int64 × St)} {g : St → Option (Int64 × St)} (v : Int) (c : Nat) (hc : 1 ≤ c ∧ c ≤ 6) (hv : v = -(c : Int)) (h1 : x1 = (f_X7_refuse (iI v) S).bind fun z => some (4000000000000000000 - z.1.toInt64, z.2)) (h2 : ∀ S1 : St, S1.1 75 = S.1 75 → g S1 = f_X8_noWide (iI v) S1) : ∃ z1 z2, x1 = some z1 ∧ g z1.2 = some z2 ∧ z1.1 = z2.1 ∧ Inv z2.2 := by
  rw [cRef hc hv] at h1
  have h3 := h2 (up S 73 c (S.1 73 c + iI 1)) (up_ne (by omega))
  rw [f_X8_noWide, rNo hc hv] at h3
  exact e_mk h1 h3 (hS.no hc)
theorem cSlipR {n t p : Int} (n1 : -2147483648 ≤ n) (n2 : n < 2147483648) (t1 : -2147483648 ≤ t) (t2 : t < 2147483648) (p1 : -2147483648 ≤ p) (p2 : p < 2147483648) : f_X7_slipRefusal (iI n) (iI t) (iI p) = some (iI (if n < 0 ∨ t < 2 then -4 else if 8 < n ∨ 20 < t then -6 else if 0 ≤ p ∧ p ≤ 1 then 0 else -2)) := by
  have e := cTwo p1 p2
  by_cases c1 : n < 0
  · simp (disch := omega) only [li_0, li_1, li_2, li_3, li_4, li_5, li_6, li_7, li_8, li_9, li_10, li_11, li_12, li_16, li_19, li_20, li_28, li_48, li_57, li_59, li_60, li_96, li_97, li_99, li_100, li_102, li_103, li_104, li_112, li_115, li_116, li_118, li_119, li_121, li_124, li_132, li_255, li_256, li_1000, li_2000, li_1000000000, iI_add, iI_sub, iI_mul, iI_neg, iI_lt, iI_le, iI_eq, iI_clamp, iI_s, iI_m1, iI_div, bs, tn, tn4, tn12, tn20, tn124, tn28, itT, itF, if_pos, if_neg, f_X7_slipRefusal]
  · by_cases c2 : t < 2
    · simp (disch := omega) only [li_0, li_1, li_2, li_3, li_4, li_5, li_6, li_7, li_8, li_9, li_10, li_11, li_12, li_16, li_19, li_20, li_28, li_48, li_57, li_59, li_60, li_96, li_97, li_99, li_100, li_102, li_103, li_104, li_112, li_115, li_116, li_118, li_119, li_121, li_124, li_132, li_255, li_256, li_1000, li_2000, li_1000000000, iI_add, iI_sub, iI_mul, iI_neg, iI_lt, iI_le, iI_eq, iI_clamp, iI_s, iI_m1, iI_div, bs, tn, tn4, tn12, tn20, tn124, tn28, itT, itF, if_pos, if_neg, f_X7_slipRefusal]
    · by_cases c3 : 8 < n
      · simp (disch := omega) only [li_0, li_1, li_2, li_3, li_4, li_5, li_6, li_7, li_8, li_9, li_10, li_11, li_12, li_16, li_19, li_20, li_28, li_48, li_57, li_59, li_60, li_96, li_97, li_99, li_100, li_102, li_103, li_104, li_112, li_115, li_116, li_118, li_119, li_121, li_124, li_132, li_255, li_256, li_1000, li_2000, li_1000000000, iI_add, iI_sub, iI_mul, iI_neg, iI_lt, iI_le, iI_eq, iI_clamp, iI_s, iI_m1, iI_div, bs, tn, tn4, tn12, tn20, tn124, tn28, itT, itF, if_pos, if_neg, f_X7_slipRefusal]
      · by_cases c4 : 20 < t
        · simp (disch := omega) only [li_0, li_1, li_2, li_3, li_4, li_5, li_6, li_7, li_8, li_9, li_10, li_11, li_12, li_16, li_19, li_20, li_28, li_48, li_57, li_59, li_60, li_96, li_97, li_99, li_100, li_102, li_103, li_104, li_112, li_115, li_116, li_118, li_119, li_121, li_124, li_132, li_255, li_256, li_1000, li_2000, li_1000000000, iI_add, iI_sub, iI_mul, iI_neg, iI_lt, iI_le, iI_eq, iI_clamp, iI_s, iI_m1, iI_div, bs, tn, tn4, tn12, tn20, tn124, tn28, itT, itF, if_pos, if_neg, f_X7_slipRefusal]
        · by_cases c5 : 0 ≤ p ∧ p ≤ 1
          · simp (disch := omega) only [li_0, li_1, li_2, li_3, li_4, li_5, li_6, li_7, li_8, li_9, li_10, li_11, li_12, li_16, li_19, li_20, li_28, li_48, li_57, li_59, li_60, li_96, li_97, li_99, li_100, li_102, li_103, li_104, li_112, li_115, li_116, li_118, li_119, li_121, li_124, li_132, li_255, li_256, li_1000, li_2000, li_1000000000, iI_add, iI_sub, iI_mul, iI_neg, iI_lt, iI_le, iI_eq, iI_clamp, iI_s, iI_m1, iI_div, bs, tn, tn4, tn12, tn20, tn124, tn28, itT, itF, if_pos, if_neg, f_X7_slipRefusal, e]
          · simp (disch := omega) only [li_0, li_1, li_2, li_3, li_4, li_5, li_6, li_7, li_8, li_9, li_10, li_11, li_12, li_16, li_19, li_20, li_28, li_48, li_57, li_59, li_60, li_96, li_97, li_99, li_100, li_102, li_103, li_104, li_112, li_115, li_116, li_118, li_119, li_121, li_124, li_132, li_255, li_256, li_1000, li_2000, li_1000000000, iI_add, iI_sub, iI_mul, iI_neg, iI_lt, iI_le, iI_eq, iI_clamp, iI_s, iI_m1, iI_div, bs, tn, tn4, tn12, tn20, tn124, tn28, itT, itF, if_pos, if_neg, f_X7_slipRefusal, e]
theorem slip_b {k : Int} (hk : 1 ≤ k ∧ k ≤ 19) {n : Nat} (hn : n ≤ 8) {G : Nat → Int} (hG : ∀ c, c < 9 → 0 ≤ G c ∧ G c ≤ 99) : (0 ≤ sW k n G ∧ sW k n G < 4611686018427387904) ∧ (1 ≤ (k + 1) ^ n ∧ (k + 1) ^ n < 4611686018427387904) := by
  have h1 := sW_nn (k := k) (by omega) n (fun c hc => (hG c hc).1)
  have h2 := sW_99 (k := k) (by omega) n (fun c hc => (hG c hc).2)
  have h3 := pow_b (t := k + 1) (by omega) (by omega) n hn
  rw [sW_pow k n hn] at h2
  omega
theorem sH_u (a : Nat → Int) (j now u c : Nat) : sH a j now (u : Int) c = if sY a j now (5 * (c : Int)) 0 = u then 1 else 0 := by
  unfold sH
  rw [if_pos (Int.natCast_nonneg u)]
  by_cases cc : sY a j now (5 * (c : Int)) 0 = u
  · rw [if_pos cc, if_pos (by rw [cc])]
  · rw [if_neg cc, if_neg (fun z => cc (Int.ofNat_inj.mp z))]
theorem slip_main {S S8 : St} {a : Nat → Int} {now N : Nat} (hc : RC S 1 a) (hm : ∀ k, k < 132 → S.1 75 k = iI (a k)) (hw : WFa a) (hN : a 0 = N) (hn : now ≤ 11) (hn1 : a 1 = now) {j n : Nat} (hj : j < N) (hn8 : n ≤ 8) {t : Int} (ht : 2 ≤ t ∧ t ≤ 20) {p : Int} (hp : p = 0 ∨ p = 1) (h1 : S8.1 = S.1) (h2 : ∀ c, c < 9 → S8.2 c = lI (wW (t - 1) n c)) {y : Int} (hy : y = -1 ∨ (0 ≤ y ∧ y ≤ 11)) :
    ∃ v : Int64, f_X7_partOf (lI (sW (t - 1) n (sH a j now y))) (lI (sW (t - 1) n (fun _ => 1))) (iI p) = some v ∧ f_X8_slips (iI j) (iI n) (iI t) (iI y) S8 = some (lI (sW (t - 1) n (sH a j now y))) ∧ f_X8_power (iI t) (iI n) = some (lI (sW (t - 1) n (fun _ => 1))) ∧ f_X8_partOf (lI (sW (t - 1) n (sH a j now y))) (lI (sW (t - 1) n (fun _ => 1))) (iI p) = some v := by
  have h8 := hw.1
  have p62 : (2 : Nat) ^ 62 = 4611686018427387904 := rfl
  have hwt := hw.t (j := j) (by omega)
  have hm8 : ∀ k, k < 132 → S8.1 75 k = iI (a k) := fun k hk => by rw [h1]; exact hm k hk
  have b := slip_b (k := t - 1) (by omega) hn8 (G := sH a j now y) (fun c _ => by
    have := gY_b hwt hn c
    unfold sH
    by_cases c1 : 0 ≤ y
    · rw [if_pos c1]
      split <;> omega
    · rw [if_neg c1]; exact this)
  have ep : sW (t - 1) n (fun _ => 1) = t ^ n := by rw [sW_pow (t - 1) n hn8, Int.sub_add_cancel]
  rw [Int.sub_add_cancel, ← ep] at b
  obtain ⟨X, hX⟩ : ∃ X : Nat, (X : Int) = sW (t - 1) n (sH a j now y) := ⟨(sW (t - 1) n (sH a j now y)).toNat, by omega⟩
  obtain ⟨Y, hY⟩ : ∃ Y : Nat, (Y : Int) = sW (t - 1) n (fun _ => 1) := ⟨(sW (t - 1) n (fun _ => 1)).toNat, by omega⟩
  obtain ⟨v, v1, v2⟩ := part_eq (x := X) (y := Y) (by omega) (by omega) (by omega) hp
  rw [hX, hY] at v1 v2
  refine ⟨v, v1, rSl hm8 (by omega) hwt hn hn1 ht hn8 hy, ?_, v2⟩
  rw [rPow ht hn8, ep]
theorem e_slip {S : St} (hS : Inv S) (a1 : Int32) (a2 : Int32) (a3 : Int32) (a4 : Int32) (a5 : Int32) : ∃ (z1 : Int64 × St) (z2 : Int64 × St), f_X7_slip a1 a2 a3 a4 a5 S = some z1 ∧ f_X8_slip a1 a2 a3 a4 a5 z1.2 = some z2 ∧ z1.1 = z2.1 ∧ Inv z2.2 := by
  obtain ⟨⟨a, hw, hc, hm0⟩, -⟩ := id hS
  have hm : ∀ k, k < 132 → S.1 75 k = iI (a k) := hm0
  have h8 := hw.1
  have w1 := hw.2.1
  have w2 := hw.2.2.1
  have w3 := hw.2.2.2.1
  obtain ⟨now, hnow⟩ : ∃ n : Nat, a 1 = n := ⟨(a 1).toNat, by omega⟩
  obtain ⟨N, hN⟩ : ∃ n : Nat, a 0 = n := ⟨(a 0).toNat, by omega⟩
  have hn : now ≤ 11 := by omega
  have hN8 : N ≤ 8 := by omega
  have p1 : S.1 1 1 = iI now := by rw [hc.1 1 (by omega), hnow]
  have p0 : S.1 1 0 = iI N := by rw [hc.1 0 (by omega), hN]
  have m0 : S.1 75 0 = iI N := by rw [hm 0 (by omega), hN]
  have m1 : S.1 75 1 = iI now := by rw [hm 1 (by omega), hnow]
  obtain ⟨x, x1, x2, rfl⟩ := iI_any a1
  obtain ⟨m, m1, m2, rfl⟩ := iI_any a2
  obtain ⟨t, t1, t2, rfl⟩ := iI_any a3
  obtain ⟨y, y1, y2, rfl⟩ := iI_any a4
  obtain ⟨p, p1, p2, rfl⟩ := iI_any a5
  rename_i pold1 pold0
  have e1 := cLacks hc hw x1 x2
  have e3 := cNo y1 y2
  have g3 := rYear y1 y2
  have e4 := cSlipR m1 m2 t1 t2 p1 p2
  have g5 := rIn (x := p) (l := 0) (u := 1) p1 p2 (by omega) (by omega) (by omega) (by omega)
  have M0 : S.1 75 0 = iI N := by rw [hm 0 (by omega), hN]
  have P1 : S.1 1 1 = iI now := by rw [hc.1 1 (by omega), hnow]
  have G : ∀ S1 : St, S1.1 75 = S.1 75 → f_X8_isThing (iI x) S1 = some (iI (if 0 ≤ x ∧ x < N then 1 else 0)) := fun S1 q1 => rThing (S := S1) (by rw [q1]; exact M0) hN8 x1 x2
  by_cases c : 0 ≤ x ∧ x < a 0
  · by_cases c1 : 0 ≤ y ∧ y < 12
    · by_cases c2 : m < 0 ∨ t < 2
      · refine e_noL hS (-4) 4 (by omega) (by omega) (by simp (disch := omega) only [li_0, li_1, li_2, li_3, li_4, li_5, li_6, li_7, li_8, li_9, li_10, li_11, li_12, li_16, li_19, li_20, li_28, li_48, li_57, li_59, li_60, li_96, li_97, li_99, li_100, li_102, li_103, li_104, li_112, li_115, li_116, li_118, li_119, li_121, li_124, li_132, li_255, li_256, li_1000, li_2000, li_1000000000, iI_add, iI_sub, iI_mul, iI_neg, iI_lt, iI_le, iI_eq, iI_clamp, iI_s, iI_m1, iI_div, bs, tn, tn4, tn12, tn20, tn124, tn28, itT, itF, if_pos, if_neg, f_X7_slip, e1, e3, e4]) (fun S1 q1 => ?_)
        have g1 := G S1 q1
        by_cases c3 : m < 0
        · simp (disch := omega) only [li_0, li_1, li_2, li_3, li_4, li_5, li_6, li_7, li_8, li_9, li_10, li_11, li_12, li_16, li_19, li_20, li_28, li_48, li_57, li_59, li_60, li_96, li_97, li_99, li_100, li_102, li_103, li_104, li_112, li_115, li_116, li_118, li_119, li_121, li_124, li_132, li_255, li_256, li_1000, li_2000, li_1000000000, iI_add, iI_sub, iI_mul, iI_neg, iI_lt, iI_le, iI_eq, iI_clamp, iI_s, iI_m1, iI_div, bs, tn, tn4, tn12, tn20, tn124, tn28, itT, itF, if_pos, if_neg, f_X8_slip, g1, g3, bse]
        · simp (disch := omega) only [li_0, li_1, li_2, li_3, li_4, li_5, li_6, li_7, li_8, li_9, li_10, li_11, li_12, li_16, li_19, li_20, li_28, li_48, li_57, li_59, li_60, li_96, li_97, li_99, li_100, li_102, li_103, li_104, li_112, li_115, li_116, li_118, li_119, li_121, li_124, li_132, li_255, li_256, li_1000, li_2000, li_1000000000, iI_add, iI_sub, iI_mul, iI_neg, iI_lt, iI_le, iI_eq, iI_clamp, iI_s, iI_m1, iI_div, bs, tn, tn4, tn12, tn20, tn124, tn28, itT, itF, if_pos, if_neg, f_X8_slip, g1, g3, bse]
      · by_cases c3 : 8 < m ∨ 20 < t
        · refine e_noL hS (-6) 6 (by omega) (by omega) (by simp (disch := omega) only [li_0, li_1, li_2, li_3, li_4, li_5, li_6, li_7, li_8, li_9, li_10, li_11, li_12, li_16, li_19, li_20, li_28, li_48, li_57, li_59, li_60, li_96, li_97, li_99, li_100, li_102, li_103, li_104, li_112, li_115, li_116, li_118, li_119, li_121, li_124, li_132, li_255, li_256, li_1000, li_2000, li_1000000000, iI_add, iI_sub, iI_mul, iI_neg, iI_lt, iI_le, iI_eq, iI_clamp, iI_s, iI_m1, iI_div, bs, tn, tn4, tn12, tn20, tn124, tn28, itT, itF, if_pos, if_neg, f_X7_slip, e1, e3, e4]) (fun S1 q1 => ?_)
          have g1 := G S1 q1
          by_cases c4 : 8 < m
          · simp (disch := omega) only [li_0, li_1, li_2, li_3, li_4, li_5, li_6, li_7, li_8, li_9, li_10, li_11, li_12, li_16, li_19, li_20, li_28, li_48, li_57, li_59, li_60, li_96, li_97, li_99, li_100, li_102, li_103, li_104, li_112, li_115, li_116, li_118, li_119, li_121, li_124, li_132, li_255, li_256, li_1000, li_2000, li_1000000000, iI_add, iI_sub, iI_mul, iI_neg, iI_lt, iI_le, iI_eq, iI_clamp, iI_s, iI_m1, iI_div, bs, tn, tn4, tn12, tn20, tn124, tn28, itT, itF, if_pos, if_neg, f_X8_slip, g1, g3, bse]
          · simp (disch := omega) only [li_0, li_1, li_2, li_3, li_4, li_5, li_6, li_7, li_8, li_9, li_10, li_11, li_12, li_16, li_19, li_20, li_28, li_48, li_57, li_59, li_60, li_96, li_97, li_99, li_100, li_102, li_103, li_104, li_112, li_115, li_116, li_118, li_119, li_121, li_124, li_132, li_255, li_256, li_1000, li_2000, li_1000000000, iI_add, iI_sub, iI_mul, iI_neg, iI_lt, iI_le, iI_eq, iI_clamp, iI_s, iI_m1, iI_div, bs, tn, tn4, tn12, tn20, tn124, tn28, itT, itF, if_pos, if_neg, f_X8_slip, g1, g3, bse]
        · by_cases c4 : 0 ≤ p ∧ p ≤ 1
          · obtain ⟨j, rfl⟩ : ∃ n : Nat, x = n := ⟨x.toNat, by omega⟩
            obtain ⟨n, rfl⟩ : ∃ n : Nat, m = n := ⟨m.toNat, by omega⟩
            obtain ⟨u, rfl⟩ : ∃ n : Nat, y = n := ⟨y.toNat, by omega⟩
            obtain ⟨S8, w1', w2', w3'⟩ := cWays S (N := n) (by omega) (t := t) (by omega)
            have hc8 : RC S8 1 a := hc.frt (fun i k _ _ => by rw [w2'])
            have P8 : S8.1 1 1 = iI now := by rw [w2']; exact P1
            have e2 := cAt (S := S8) (q := 1) (j := j) (by omega)
            have e5 := cWIs (hc8.t (j := j) (by omega) (by omega)) (hw.t (by omega)) hn w3' (y := u) (by omega)
            have e6 := cAWs w3'
            have eH : (fun c : Nat => wW (t - 1) n c * (if sY a j now (5 * (c : Int)) 0 = u then 1 else 0)) = fun c : Nat => wW (t - 1) n c * sH a j now (u : Int) c := by
              funext c
              rw [sH_u]
            rw [eH] at e5
            obtain ⟨v, v1, v2, v3, v4⟩ := slip_main (S8 := S8) hc hm hw hN hn hnow (j := j) (n := n) (by omega) (by omega) (t := t) (by omega) (p := p) (by omega) w2' w3' (y := (u : Int)) (by omega)
            have g1 : f_X8_isThing (iI j) S8 = some (iI 1) := by rw [G S8 (by rw [w2']), if_pos (by omega)]
            have g3' : f_X8_isYear (iI u) = some (iI 1) := by rw [g3, if_pos (by omega)]
            have g5' : f_X8_isIn (iI p) (iI 0) (iI 1) = some (iI 1) := by rw [g5, if_pos (by omega)]
            refine e_mk (v := v) (S1 := S8) (S2 := S8) (by simp (disch := omega) only [li_0, li_1, li_2, li_3, li_4, li_5, li_6, li_7, li_8, li_9, li_10, li_11, li_12, li_16, li_19, li_20, li_28, li_48, li_57, li_59, li_60, li_96, li_97, li_99, li_100, li_102, li_103, li_104, li_112, li_115, li_116, li_118, li_119, li_121, li_124, li_132, li_255, li_256, li_1000, li_2000, li_1000000000, iI_add, iI_sub, iI_mul, iI_neg, iI_lt, iI_le, iI_eq, iI_clamp, iI_s, iI_m1, iI_div, bs, tn, tn4, tn12, tn20, tn124, tn28, itT, itF, if_pos, if_neg, f_X7_slip, e1, e3, e4, w1', e2, P8, e5, e6]; exact congrArg (fun o => o.bind fun v12 => some (v12, S8)) v1) ?_ (hS.sm (fun i k _ => by rw [w2']))
            simp (disch := omega) only [li_0, li_1, li_2, li_3, li_4, li_5, li_6, li_7, li_8, li_9, li_10, li_11, li_12, li_16, li_19, li_20, li_28, li_48, li_57, li_59, li_60, li_96, li_97, li_99, li_100, li_102, li_103, li_104, li_112, li_115, li_116, li_118, li_119, li_121, li_124, li_132, li_255, li_256, li_1000, li_2000, li_1000000000, iI_add, iI_sub, iI_mul, iI_neg, iI_lt, iI_le, iI_eq, iI_clamp, iI_s, iI_m1, iI_div, bs, tn, tn4, tn12, tn20, tn124, tn28, itT, itF, if_pos, if_neg, f_X8_slip, g1, g3', g5', v2, v3, v4]
          · exact e_noL hS (-2) 2 (by omega) (by omega) (by simp (disch := omega) only [li_0, li_1, li_2, li_3, li_4, li_5, li_6, li_7, li_8, li_9, li_10, li_11, li_12, li_16, li_19, li_20, li_28, li_48, li_57, li_59, li_60, li_96, li_97, li_99, li_100, li_102, li_103, li_104, li_112, li_115, li_116, li_118, li_119, li_121, li_124, li_132, li_255, li_256, li_1000, li_2000, li_1000000000, iI_add, iI_sub, iI_mul, iI_neg, iI_lt, iI_le, iI_eq, iI_clamp, iI_s, iI_m1, iI_div, bs, tn, tn4, tn12, tn20, tn124, tn28, itT, itF, if_pos, if_neg, f_X7_slip, e1, e3, e4]) (fun S1 q1 => by
              have g1 := G S1 q1
              simp (disch := omega) only [li_0, li_1, li_2, li_3, li_4, li_5, li_6, li_7, li_8, li_9, li_10, li_11, li_12, li_16, li_19, li_20, li_28, li_48, li_57, li_59, li_60, li_96, li_97, li_99, li_100, li_102, li_103, li_104, li_112, li_115, li_116, li_118, li_119, li_121, li_124, li_132, li_255, li_256, li_1000, li_2000, li_1000000000, iI_add, iI_sub, iI_mul, iI_neg, iI_lt, iI_le, iI_eq, iI_clamp, iI_s, iI_m1, iI_div, bs, tn, tn4, tn12, tn20, tn124, tn28, itT, itF, if_pos, if_neg, f_X8_slip, g1, g3, g5, bse])
    · exact e_noL hS (-1) 1 (by omega) (by omega) (by simp (disch := omega) only [li_0, li_1, li_2, li_3, li_4, li_5, li_6, li_7, li_8, li_9, li_10, li_11, li_12, li_16, li_19, li_20, li_28, li_48, li_57, li_59, li_60, li_96, li_97, li_99, li_100, li_102, li_103, li_104, li_112, li_115, li_116, li_118, li_119, li_121, li_124, li_132, li_255, li_256, li_1000, li_2000, li_1000000000, iI_add, iI_sub, iI_mul, iI_neg, iI_lt, iI_le, iI_eq, iI_clamp, iI_s, iI_m1, iI_div, bs, tn, tn4, tn12, tn20, tn124, tn28, itT, itF, if_pos, if_neg, f_X7_slip, e1, e3]) (fun S1 q1 => by
        have g1 := G S1 q1
        simp (disch := omega) only [li_0, li_1, li_2, li_3, li_4, li_5, li_6, li_7, li_8, li_9, li_10, li_11, li_12, li_16, li_19, li_20, li_28, li_48, li_57, li_59, li_60, li_96, li_97, li_99, li_100, li_102, li_103, li_104, li_112, li_115, li_116, li_118, li_119, li_121, li_124, li_132, li_255, li_256, li_1000, li_2000, li_1000000000, iI_add, iI_sub, iI_mul, iI_neg, iI_lt, iI_le, iI_eq, iI_clamp, iI_s, iI_m1, iI_div, bs, tn, tn4, tn12, tn20, tn124, tn28, itT, itF, if_pos, if_neg, f_X8_slip, g1, g3, bse])
  · exact e_noL hS (-1) 1 (by omega) (by omega) (by simp (disch := omega) only [li_0, li_1, li_2, li_3, li_4, li_5, li_6, li_7, li_8, li_9, li_10, li_11, li_12, li_16, li_19, li_20, li_28, li_48, li_57, li_59, li_60, li_96, li_97, li_99, li_100, li_102, li_103, li_104, li_112, li_115, li_116, li_118, li_119, li_121, li_124, li_132, li_255, li_256, li_1000, li_2000, li_1000000000, iI_add, iI_sub, iI_mul, iI_neg, iI_lt, iI_le, iI_eq, iI_clamp, iI_s, iI_m1, iI_div, bs, tn, tn4, tn12, tn20, tn124, tn28, itT, itF, if_pos, if_neg, f_X7_slip, e1]) (fun S1 q1 => by
      have g1 := G S1 q1
      simp (disch := omega) only [li_0, li_1, li_2, li_3, li_4, li_5, li_6, li_7, li_8, li_9, li_10, li_11, li_12, li_16, li_19, li_20, li_28, li_48, li_57, li_59, li_60, li_96, li_97, li_99, li_100, li_102, li_103, li_104, li_112, li_115, li_116, li_118, li_119, li_121, li_124, li_132, li_255, li_256, li_1000, li_2000, li_1000000000, iI_add, iI_sub, iI_mul, iI_neg, iI_lt, iI_le, iI_eq, iI_clamp, iI_s, iI_m1, iI_div, bs, tn, tn4, tn12, tn20, tn124, tn28, itT, itF, if_pos, if_neg, f_X8_slip, g1, bse])
theorem e_mean {S : St} (hS : Inv S) (a1 : Int32) (a2 : Int32) (a3 : Int32) (a4 : Int32) : ∃ (z1 : Int64 × St) (z2 : Int64 × St), f_X7_mean a1 a2 a3 a4 S = some z1 ∧ f_X8_mean a1 a2 a3 a4 z1.2 = some z2 ∧ z1.1 = z2.1 ∧ Inv z2.2 := by
  obtain ⟨⟨a, hw, hc, hm0⟩, -⟩ := id hS
  have hm : ∀ k, k < 132 → S.1 75 k = iI (a k) := hm0
  have h8 := hw.1
  have w1 := hw.2.1
  have w2 := hw.2.2.1
  have w3 := hw.2.2.2.1
  obtain ⟨now, hnow⟩ : ∃ n : Nat, a 1 = n := ⟨(a 1).toNat, by omega⟩
  obtain ⟨N, hN⟩ : ∃ n : Nat, a 0 = n := ⟨(a 0).toNat, by omega⟩
  have hn : now ≤ 11 := by omega
  have hN8 : N ≤ 8 := by omega
  have p1 : S.1 1 1 = iI now := by rw [hc.1 1 (by omega), hnow]
  have p0 : S.1 1 0 = iI N := by rw [hc.1 0 (by omega), hN]
  have m0 : S.1 75 0 = iI N := by rw [hm 0 (by omega), hN]
  have m1 : S.1 75 1 = iI now := by rw [hm 1 (by omega), hnow]
  obtain ⟨x, x1, x2, rfl⟩ := iI_any a1
  obtain ⟨m, m1, m2, rfl⟩ := iI_any a2
  obtain ⟨t, t1, t2, rfl⟩ := iI_any a3
  obtain ⟨p, p1, p2, rfl⟩ := iI_any a4
  have e1 := cLacks hc hw x1 x2
  have e4 := cSlipR m1 m2 t1 t2 p1 p2
  have g5 := rIn (x := p) (l := 0) (u := 1) p1 p2 (by omega) (by omega) (by omega) (by omega)
  have M0 : S.1 75 0 = iI N := by rw [hm 0 (by omega), hN]
  have P1 : S.1 1 1 = iI now := by rw [hc.1 1 (by omega), hnow]
  have G : ∀ S1 : St, S1.1 75 = S.1 75 → f_X8_isThing (iI x) S1 = some (iI (if 0 ≤ x ∧ x < N then 1 else 0)) := fun S1 q1 => rThing (S := S1) (by rw [q1]; exact M0) hN8 x1 x2
  by_cases c : 0 ≤ x ∧ x < a 0
  · by_cases c2 : m < 0 ∨ t < 2
    · refine e_noL hS (-4) 4 (by omega) (by omega) (by simp (disch := omega) only [li_0, li_1, li_2, li_3, li_4, li_5, li_6, li_7, li_8, li_9, li_10, li_11, li_12, li_16, li_19, li_20, li_28, li_48, li_57, li_59, li_60, li_96, li_97, li_99, li_100, li_102, li_103, li_104, li_112, li_115, li_116, li_118, li_119, li_121, li_124, li_132, li_255, li_256, li_1000, li_2000, li_1000000000, iI_add, iI_sub, iI_mul, iI_neg, iI_lt, iI_le, iI_eq, iI_clamp, iI_s, iI_m1, iI_div, bs, tn, tn4, tn12, tn20, tn124, tn28, itT, itF, if_pos, if_neg, f_X7_mean, e1, e4]) (fun S1 q1 => ?_)
      have g1 := G S1 q1
      by_cases c3 : m < 0
      · simp (disch := omega) only [li_0, li_1, li_2, li_3, li_4, li_5, li_6, li_7, li_8, li_9, li_10, li_11, li_12, li_16, li_19, li_20, li_28, li_48, li_57, li_59, li_60, li_96, li_97, li_99, li_100, li_102, li_103, li_104, li_112, li_115, li_116, li_118, li_119, li_121, li_124, li_132, li_255, li_256, li_1000, li_2000, li_1000000000, iI_add, iI_sub, iI_mul, iI_neg, iI_lt, iI_le, iI_eq, iI_clamp, iI_s, iI_m1, iI_div, bs, tn, tn4, tn12, tn20, tn124, tn28, itT, itF, if_pos, if_neg, f_X8_mean, g1, bse]
      · simp (disch := omega) only [li_0, li_1, li_2, li_3, li_4, li_5, li_6, li_7, li_8, li_9, li_10, li_11, li_12, li_16, li_19, li_20, li_28, li_48, li_57, li_59, li_60, li_96, li_97, li_99, li_100, li_102, li_103, li_104, li_112, li_115, li_116, li_118, li_119, li_121, li_124, li_132, li_255, li_256, li_1000, li_2000, li_1000000000, iI_add, iI_sub, iI_mul, iI_neg, iI_lt, iI_le, iI_eq, iI_clamp, iI_s, iI_m1, iI_div, bs, tn, tn4, tn12, tn20, tn124, tn28, itT, itF, if_pos, if_neg, f_X8_mean, g1, bse]
    · by_cases c3 : 8 < m ∨ 20 < t
      · refine e_noL hS (-6) 6 (by omega) (by omega) (by simp (disch := omega) only [li_0, li_1, li_2, li_3, li_4, li_5, li_6, li_7, li_8, li_9, li_10, li_11, li_12, li_16, li_19, li_20, li_28, li_48, li_57, li_59, li_60, li_96, li_97, li_99, li_100, li_102, li_103, li_104, li_112, li_115, li_116, li_118, li_119, li_121, li_124, li_132, li_255, li_256, li_1000, li_2000, li_1000000000, iI_add, iI_sub, iI_mul, iI_neg, iI_lt, iI_le, iI_eq, iI_clamp, iI_s, iI_m1, iI_div, bs, tn, tn4, tn12, tn20, tn124, tn28, itT, itF, if_pos, if_neg, f_X7_mean, e1, e4]) (fun S1 q1 => ?_)
        have g1 := G S1 q1
        by_cases c4 : 8 < m
        · simp (disch := omega) only [li_0, li_1, li_2, li_3, li_4, li_5, li_6, li_7, li_8, li_9, li_10, li_11, li_12, li_16, li_19, li_20, li_28, li_48, li_57, li_59, li_60, li_96, li_97, li_99, li_100, li_102, li_103, li_104, li_112, li_115, li_116, li_118, li_119, li_121, li_124, li_132, li_255, li_256, li_1000, li_2000, li_1000000000, iI_add, iI_sub, iI_mul, iI_neg, iI_lt, iI_le, iI_eq, iI_clamp, iI_s, iI_m1, iI_div, bs, tn, tn4, tn12, tn20, tn124, tn28, itT, itF, if_pos, if_neg, f_X8_mean, g1, bse]
        · simp (disch := omega) only [li_0, li_1, li_2, li_3, li_4, li_5, li_6, li_7, li_8, li_9, li_10, li_11, li_12, li_16, li_19, li_20, li_28, li_48, li_57, li_59, li_60, li_96, li_97, li_99, li_100, li_102, li_103, li_104, li_112, li_115, li_116, li_118, li_119, li_121, li_124, li_132, li_255, li_256, li_1000, li_2000, li_1000000000, iI_add, iI_sub, iI_mul, iI_neg, iI_lt, iI_le, iI_eq, iI_clamp, iI_s, iI_m1, iI_div, bs, tn, tn4, tn12, tn20, tn124, tn28, itT, itF, if_pos, if_neg, f_X8_mean, g1, bse]
      · by_cases c4 : 0 ≤ p ∧ p ≤ 1
        · obtain ⟨j, rfl⟩ : ∃ n : Nat, x = n := ⟨x.toNat, by omega⟩
          obtain ⟨n, rfl⟩ : ∃ n : Nat, m = n := ⟨m.toNat, by omega⟩
          obtain ⟨S8, w1', w2', w3'⟩ := cWays S (N := n) (by omega) (t := t) (by omega)
          have hc8 : RC S8 1 a := hc.frt (fun i k _ _ => by rw [w2'])
          have P8 : S8.1 1 1 = iI now := by rw [w2']; exact P1
          have e2 := cAt (S := S8) (q := 1) (j := j) (by omega)
          have e5 := cGAs (hc8.t (j := j) (by omega) (by omega)) (hw.t (by omega)) hn w3'
          have e6 := cAWs w3'
          obtain ⟨v, v1, v2, v3, v4⟩ := slip_main (S8 := S8) hc hm hw hN hn hnow (j := j) (n := n) (by omega) (by omega) (t := t) (by omega) (p := p) (by omega) w2' w3' (y := -1) (by omega)
          have g1 : f_X8_isThing (iI j) S8 = some (iI 1) := by rw [G S8 (by rw [w2']), if_pos (by omega)]
          have g5' : f_X8_isIn (iI p) (iI 0) (iI 1) = some (iI 1) := by rw [g5, if_pos (by omega)]
          refine e_mk (v := v) (S1 := S8) (S2 := S8) (by simp (disch := omega) only [li_0, li_1, li_2, li_3, li_4, li_5, li_6, li_7, li_8, li_9, li_10, li_11, li_12, li_16, li_19, li_20, li_28, li_48, li_57, li_59, li_60, li_96, li_97, li_99, li_100, li_102, li_103, li_104, li_112, li_115, li_116, li_118, li_119, li_121, li_124, li_132, li_255, li_256, li_1000, li_2000, li_1000000000, iI_add, iI_sub, iI_mul, iI_neg, iI_lt, iI_le, iI_eq, iI_clamp, iI_s, iI_m1, iI_div, bs, tn, tn4, tn12, tn20, tn124, tn28, itT, itF, if_pos, if_neg, f_X7_mean, e1, e4, w1', e2, P8, e5, e6]; exact congrArg (fun o => o.bind fun v12 => some (v12, S8)) v1) ?_ (hS.sm (fun i k _ => by rw [w2']))
          simp (disch := omega) only [li_0, li_1, li_2, li_3, li_4, li_5, li_6, li_7, li_8, li_9, li_10, li_11, li_12, li_16, li_19, li_20, li_28, li_48, li_57, li_59, li_60, li_96, li_97, li_99, li_100, li_102, li_103, li_104, li_112, li_115, li_116, li_118, li_119, li_121, li_124, li_132, li_255, li_256, li_1000, li_2000, li_1000000000, iI_add, iI_sub, iI_mul, iI_neg, iI_lt, iI_le, iI_eq, iI_clamp, iI_s, iI_m1, iI_div, bs, tn, tn4, tn12, tn20, tn124, tn28, itT, itF, if_pos, if_neg, f_X8_mean, g1, g5', v2, v3, v4]
        · exact e_noL hS (-2) 2 (by omega) (by omega) (by simp (disch := omega) only [li_0, li_1, li_2, li_3, li_4, li_5, li_6, li_7, li_8, li_9, li_10, li_11, li_12, li_16, li_19, li_20, li_28, li_48, li_57, li_59, li_60, li_96, li_97, li_99, li_100, li_102, li_103, li_104, li_112, li_115, li_116, li_118, li_119, li_121, li_124, li_132, li_255, li_256, li_1000, li_2000, li_1000000000, iI_add, iI_sub, iI_mul, iI_neg, iI_lt, iI_le, iI_eq, iI_clamp, iI_s, iI_m1, iI_div, bs, tn, tn4, tn12, tn20, tn124, tn28, itT, itF, if_pos, if_neg, f_X7_mean, e1, e4]) (fun S1 q1 => by
            have g1 := G S1 q1
            simp (disch := omega) only [li_0, li_1, li_2, li_3, li_4, li_5, li_6, li_7, li_8, li_9, li_10, li_11, li_12, li_16, li_19, li_20, li_28, li_48, li_57, li_59, li_60, li_96, li_97, li_99, li_100, li_102, li_103, li_104, li_112, li_115, li_116, li_118, li_119, li_121, li_124, li_132, li_255, li_256, li_1000, li_2000, li_1000000000, iI_add, iI_sub, iI_mul, iI_neg, iI_lt, iI_le, iI_eq, iI_clamp, iI_s, iI_m1, iI_div, bs, tn, tn4, tn12, tn20, tn124, tn28, itT, itF, if_pos, if_neg, f_X8_mean, g1, g5, bse])
  · exact e_noL hS (-1) 1 (by omega) (by omega) (by simp (disch := omega) only [li_0, li_1, li_2, li_3, li_4, li_5, li_6, li_7, li_8, li_9, li_10, li_11, li_12, li_16, li_19, li_20, li_28, li_48, li_57, li_59, li_60, li_96, li_97, li_99, li_100, li_102, li_103, li_104, li_112, li_115, li_116, li_118, li_119, li_121, li_124, li_132, li_255, li_256, li_1000, li_2000, li_1000000000, iI_add, iI_sub, iI_mul, iI_neg, iI_lt, iI_le, iI_eq, iI_clamp, iI_s, iI_m1, iI_div, bs, tn, tn4, tn12, tn20, tn124, tn28, itT, itF, if_pos, if_neg, f_X7_mean, e1]) (fun S1 q1 => by
      have g1 := G S1 q1
      simp (disch := omega) only [li_0, li_1, li_2, li_3, li_4, li_5, li_6, li_7, li_8, li_9, li_10, li_11, li_12, li_16, li_19, li_20, li_28, li_48, li_57, li_59, li_60, li_96, li_97, li_99, li_100, li_102, li_103, li_104, li_112, li_115, li_116, li_118, li_119, li_121, li_124, li_132, li_255, li_256, li_1000, li_2000, li_1000000000, iI_add, iI_sub, iI_mul, iI_neg, iI_lt, iI_le, iI_eq, iI_clamp, iI_s, iI_m1, iI_div, bs, tn, tn4, tn12, tn20, tn124, tn28, itT, itF, if_pos, if_neg, f_X8_mean, g1, bse])
