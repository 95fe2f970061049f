-- ===== the most by so many drops =====
theorem e_most {S : St} (hS : Inv S) (a1 : Int32) : ∃ (z1 : Int32 × St) (z2 : Int32 × St), f_X7_most a1 S = some z1 ∧ f_X8_most_ a1 z1.2 = some z2 ∧ z1.1 = z2.1 ∧ Inv z2.2 := by
  obtain ⟨⟨a, hw, hc, hm0⟩, -⟩ := id hS
  have hm : ∀ k, k < 132 → S.1 75 k = iI (a k) := hm0
  have h8 := hw.1
  have w1 := hw.2.1
  have w2 := hw.2.2.1
  have w3 := hw.2.2.2.1
  obtain ⟨now, hnow⟩ : ∃ n : Nat, a 1 = n := ⟨(a 1).toNat, by omega⟩
  obtain ⟨N, hN⟩ : ∃ n : Nat, a 0 = n := ⟨(a 0).toNat, by omega⟩
  have hn : now ≤ 11 := by omega
  have hN8 : N ≤ 8 := by omega
  have p1 : S.1 1 1 = iI now := by rw [hc.1 1 (by omega), hnow]
  have p0 : S.1 1 0 = iI N := by rw [hc.1 0 (by omega), hN]
  have m0 : S.1 75 0 = iI N := by rw [hm 0 (by omega), hN]
  have m1 : S.1 75 1 = iI now := by rw [hm 1 (by omega), hnow]
  obtain ⟨x, x1, x2, rfl⟩ := iI_any a1
  have e1 := cTwo x1 x2
  have g1 := rIn (x := x) (l := 0) (u := 1) x1 x2 (by omega) (by omega) (by omega) (by omega)
  by_cases c : 0 ≤ x ∧ x ≤ 1
  · obtain ⟨S1, c1, c2, c3⟩ := cWeigh hc hw hN hn
    have p2 : S1.1 1 2 = iI (a 2) := by rw [c2 _ _ (by omega)]; exact hc.1 2 (by omega)
    have e2 := cBest hw hN8 hn c3 (drops := a 2) w2
    have e3 := cGainB hN8 c3 (drops := a 2) w2
    have e4 := c3.2.2.1
    have hm1 : RM S1 75 a := fun k hk => by rw [c2 _ _ (by omega)]; exact hm k hk
    obtain ⟨S2, d1, d2, d3⟩ := rMostBy (S := S1) (Or.inl rfl) hm1 hw hN hn hnow (drops := a 2) w2
    have m2 := hm1 2 (by omega)
    have i9 : Inv S2 := hS.sm (fun i k hs => by
      unfold scr at hs
      rw [d1 _ _ (by omega), c2 _ _ (by omega)])
    by_cases c9 : x = 0
    · exact e_mk (v := iI (sAll a N now + (pBest (pFr a N) (pCo a N) (pGn a N now) (a 2) (2 ^ N)).2)) (S1 := S1) (S2 := S2) (by simp (disch := omega) only [li_0, li_1, li_2, li_3, li_4, li_5, li_6, li_7, li_8, li_9, li_10, li_11, li_12, li_16, li_19, li_20, li_28, li_48, li_57, li_59, li_60, li_96, li_97, li_99, li_100, li_102, li_103, li_104, li_112, li_115, li_116, li_118, li_119, li_121, li_124, li_132, li_255, li_256, li_1000, li_2000, li_1000000000, iI_add, iI_sub, iI_mul, iI_neg, iI_lt, iI_le, iI_eq, iI_clamp, iI_s, iI_m1, iI_div, bs, tn, tn4, tn12, tn20, tn124, tn28, itT, itF, if_pos, if_neg, f_X7_most, e1, p1, c1, p2, e2, e3, e4]) (by simp (disch := omega) only [li_0, li_1, li_2, li_3, li_4, li_5, li_6, li_7, li_8, li_9, li_10, li_11, li_12, li_16, li_19, li_20, li_28, li_48, li_57, li_59, li_60, li_96, li_97, li_99, li_100, li_102, li_103, li_104, li_112, li_115, li_116, li_118, li_119, li_121, li_124, li_132, li_255, li_256, li_1000, li_2000, li_1000000000, iI_add, iI_sub, iI_mul, iI_neg, iI_lt, iI_le, iI_eq, iI_clamp, iI_s, iI_m1, iI_div, bs, tn, tn4, tn12, tn20, tn124, tn28, itT, itF, if_pos, if_neg, f_X8_most_, g1, m2, d3]) i9
    · exact e_mk (v := iI (pBest (pFr a N) (pCo a N) (pGn a N now) (a 2) (2 ^ N)).1) (S1 := S1) (S2 := S2) (by simp (disch := omega) only [li_0, li_1, li_2, li_3, li_4, li_5, li_6, li_7, li_8, li_9, li_10, li_11, li_12, li_16, li_19, li_20, li_28, li_48, li_57, li_59, li_60, li_96, li_97, li_99, li_100, li_102, li_103, li_104, li_112, li_115, li_116, li_118, li_119, li_121, li_124, li_132, li_255, li_256, li_1000, li_2000, li_1000000000, iI_add, iI_sub, iI_mul, iI_neg, iI_lt, iI_le, iI_eq, iI_clamp, iI_s, iI_m1, iI_div, bs, tn, tn4, tn12, tn20, tn124, tn28, itT, itF, if_pos, if_neg, f_X7_most, e1, p1, c1, p2, e2]) (by simp (disch := omega) only [li_0, li_1, li_2, li_3, li_4, li_5, li_6, li_7, li_8, li_9, li_10, li_11, li_12, li_16, li_19, li_20, li_28, li_48, li_57, li_59, li_60, li_96, li_97, li_99, li_100, li_102, li_103, li_104, li_112, li_115, li_116, li_118, li_119, li_121, li_124, li_132, li_255, li_256, li_1000, li_2000, li_1000000000, iI_add, iI_sub, iI_mul, iI_neg, iI_lt, iI_le, iI_eq, iI_clamp, iI_s, iI_m1, iI_div, bs, tn, tn4, tn12, tn20, tn124, tn28, itT, itF, if_pos, if_neg, f_X8_most_, g1, m2, d3, d2]) i9
  · exact e_no hS (-2) 2 (by omega) (by omega) (by simp (disch := omega) only [li_0, li_1, li_2, li_3, li_4, li_5, li_6, li_7, li_8, li_9, li_10, li_11, li_12, li_16, li_19, li_20, li_28, li_48, li_57, li_59, li_60, li_96, li_97, li_99, li_100, li_102, li_103, li_104, li_112, li_115, li_116, li_118, li_119, li_121, li_124, li_132, li_255, li_256, li_1000, li_2000, li_1000000000, iI_add, iI_sub, iI_mul, iI_neg, iI_lt, iI_le, iI_eq, iI_clamp, iI_s, iI_m1, iI_div, bs, tn, tn4, tn12, tn20, tn124, tn28, itT, itF, if_pos, if_neg, f_X7_most, e1, bse]) (fun S1 q1 q2 => by simp (disch := omega) only [li_0, li_1, li_2, li_3, li_4, li_5, li_6, li_7, li_8, li_9, li_10, li_11, li_12, li_16, li_19, li_20, li_28, li_48, li_57, li_59, li_60, li_96, li_97, li_99, li_100, li_102, li_103, li_104, li_112, li_115, li_116, li_118, li_119, li_121, li_124, li_132, li_255, li_256, li_1000, li_2000, li_1000000000, iI_add, iI_sub, iI_mul, iI_neg, iI_lt, iI_le, iI_eq, iI_clamp, iI_s, iI_m1, iI_div, bs, tn, tn4, tn12, tn20, tn124, tn28, itT, itF, if_pos, if_neg, f_X8_most_, g1, bse])
-- ===== the fewest drops for it =====
theorem few_eq {a : Nat → Int} (hw : WFa a) {N now : Nat} (hN8 : N ≤ 8) {g : Int} (hg : g = (pBest (pFr a N) (pCo a N) (pGn a N now) 99 (2 ^ N)).2) :
    0 ≤ pFew (pFr a N) (pCo a N) (pGn a N now) g (2 ^ N) ∧ pFew (pFr a N) (pCo a N) (pGn a N now) g (2 ^ N) ≤ 80 ∧ ∀ d, 0 ≤ d → d ≤ 99 → ((pBest (pFr a N) (pCo a N) (pGn a N now) d (2 ^ N)).2 = g ↔ pFew (pFr a N) (pCo a N) (pGn a N now) g (2 ^ N) ≤ d) := by
  obtain ⟨z1, z2, z3⟩ := p00 a N now
  have P := fun d (h : 0 ≤ d) => pBest_p (fr := pFr a N) (co := pCo a N) (ga := pGn a N now) (drops := d) z1 z2 z3 h (2 ^ N) (Nat.two_pow_pos N)
  obtain ⟨h1, h2, h3, h4, h5⟩ := P 99 (by omega)
  obtain ⟨f1, f2, f3⟩ := pFew_p (fr := pFr a N) (co := pCo a N) (ga := pGn a N now) (g := g) (2 ^ N)
  have b := fun m => pCo_b hw hN8 m
  have bp : ∀ m, 0 ≤ pCo a N m := fun m => by
    have h := sSum_b (f := fun j => if m / 2 ^ j % 2 = 1 then sCost a j else 0) (B := 10) (n := 0) (by omega) N (fun j hj => by
      have := sCost_b (hw.t (j := j) (by omega))
      show 0 ≤ (if m / 2 ^ j % 2 = 1 then sCost a j else 0) ∧ (if m / 2 ^ j % 2 = 1 then sCost a j else 0) ≤ 10
      split <;> omega)
    exact h.1
  have le80 : pFew (pFr a N) (pCo a N) (pGn a N now) g (2 ^ N) ≤ 80 := by
    have := f2 _ h1 h2 (by rw [h4, hg])
    have := b (pBest (pFr a N) (pCo a N) (pGn a N now) 99 (2 ^ N)).1
    omega
  have ex : ∃ m, m < 2 ^ N ∧ pFr a N m = true ∧ pGn a N now m = g ∧ pCo a N m = pFew (pFr a N) (pCo a N) (pGn a N now) g (2 ^ N) := by
    rcases f3 with h | h
    · omega
    · exact h
  obtain ⟨m, m1, m2, m3, m4⟩ := ex
  refine ⟨by have := bp m; omega, le80, fun d h0 h99 => ?_⟩
  obtain ⟨k1, k2, k3, k4, k5⟩ := P d h0
  constructor
  · intro h
    have := f2 _ k1 k2 (by rw [k4, h])
    omega
  · intro h
    have u1 := k5 m m1 m2 (by omega)
    have u2 := h5 _ k1 k2 (by have := b (pBest (pFr a N) (pCo a N) (pGn a N now) d (2 ^ N)).1; omega)
    rw [k4] at u2
    omega
theorem rFDL {S : St} {a : Nat → Int} {N now : Nat} (hm : RM S 75 a) (hw : WFa a) (hN : a 0 = N) (hn : now ≤ 11) (hn1 : a 1 = now) {g : Int} (hg : -792 ≤ g ∧ g ≤ 792) {F : Int} (hF : 0 ≤ F ∧ F ≤ 80) (hd : ∀ d, 0 ≤ d → d ≤ 99 → ((pBest (pFr a N) (pCo a N) (pGn a N now) d (2 ^ N)).2 = g ↔ F ≤ d)) (hb : ∀ d, -792 ≤ (pBest (pFr a N) (pCo a N) (pGn a N now) d (2 ^ N)).2 ∧ (pBest (pFr a N) (pCo a N) (pGn a N now) d (2 ^ N)).2 ≤ 792) {k : Int32 → St → Option (Int32 × St)} {k9 : St → Option (Int32 × St)} :
    ∀ d n x : Nat, ∀ S' : St, (x : Int) + d = F → d < n → rFm S S' → ∃ S'', rFm S S'' ∧ f_X8_fewDrops_L13 n (iI (sAll a N now + g)) (iI x) S' k k9 = k (iI F) S'' := by
  have h8 := hw.1
  have bA := sAll_b (a := a) (N := N) (now := now) (fun j hj => hw.t (by omega)) (by omega) hn
  intro d
  induction d with
  | zero =>
    intro n x S' hx hdn q
    obtain ⟨n, rfl⟩ : ∃ p, n = p + 1 := ⟨n - 1, by omega⟩
    have hm1 : RM S' 75 a := fun k hk => by rw [q _ _ (by omega)]; exact hm k hk
    obtain ⟨S2, d1, d2, d3⟩ := rMostBy (S := S') (Or.inl rfl) hm1 hw hN hn hn1 (drops := (x : Int)) (by omega)
    have e := (hd x (by omega) (by omega)).mpr (by omega)
    refine ⟨S2, fun i k hi => by rw [d1 i k hi]; exact q i k hi, ?_⟩
    rw [e] at d3
    rw [f_X8_fewDrops_L13, if_neg (by rw [show (99 : Int32) = iI 99 from rfl, iI_lt (by omega) (by omega) (by omega) (by omega)]; omega), d3, bs, if_pos rfl, show F = (x : Int) by omega]
  | succ d ih =>
    intro n x S' hx hdn q
    obtain ⟨n, rfl⟩ : ∃ p, n = p + 1 := ⟨n - 1, by omega⟩
    have hm1 : RM S' 75 a := fun k hk => by rw [q _ _ (by omega)]; exact hm k hk
    obtain ⟨S2, d1, d2, d3⟩ := rMostBy (S := S') (Or.inl rfl) hm1 hw hN hn hn1 (drops := (x : Int)) (by omega)
    have e : ¬ (pBest (pFr a N) (pCo a N) (pGn a N now) (x : Int) (2 ^ N)).2 = g := fun z => by
      have := (hd x (by omega) (by omega)).mp z
      omega
    have b := hb (x : Int)
    obtain ⟨S'', g1, g2⟩ := ih n (x + 1) S2 (by omega) (by omega) (fun i k hi => by rw [d1 i k hi]; exact q i k hi)
    refine ⟨S'', g1, ?_⟩
    have j4 : (iI (x : Int) + 1 : Int32) = iI ((x + 1 : Nat) : Int) := by rw [show (1 : Int32) = iI 1 from rfl, iI_add]; rfl
    rw [f_X8_fewDrops_L13, if_neg (by rw [show (99 : Int32) = iI 99 from rfl, iI_lt (by omega) (by omega) (by omega) (by omega)]; omega), d3, bs, if_neg (by rw [iI_eq (by omega) (by omega) (by omega) (by omega)]; omega), j4]
    exact g2
theorem pBest_b {a : Nat → Int} (hw : WFa a) {N now : Nat} (hN8 : N ≤ 8) (hn : now ≤ 11) (d : Int) : ∀ x, -792 ≤ (pBest (pFr a N) (pCo a N) (pGn a N now) d x).2 ∧ (pBest (pFr a N) (pCo a N) (pGn a N now) d x).2 ≤ 792 := by
  intro x
  induction x with
  | zero => exact ⟨by show (-792 : Int) ≤ 0; omega, by show (0 : Int) ≤ 792; omega⟩
  | succ x ih =>
    rw [pBest]
    split
    · exact pGn_b hw hN8 hn x
    · exact ih
theorem e_fewDrops {S : St} (hS : Inv S)  : ∃ (z1 : Int32 × St) (z2 : Int32 × St), f_X7_fewDrops S = some z1 ∧ f_X8_fewDrops z1.2 = some z2 ∧ z1.1 = z2.1 ∧ Inv z2.2 := by
  obtain ⟨⟨a, hw, hc, hm0⟩, -⟩ := id hS
  have hm : ∀ k, k < 132 → S.1 75 k = iI (a k) := hm0
  have h8 := hw.1
  have w1 := hw.2.1
  have w2 := hw.2.2.1
  have w3 := hw.2.2.2.1
  obtain ⟨now, hnow⟩ : ∃ n : Nat, a 1 = n := ⟨(a 1).toNat, by omega⟩
  obtain ⟨N, hN⟩ : ∃ n : Nat, a 0 = n := ⟨(a 0).toNat, by omega⟩
  have hn : now ≤ 11 := by omega
  have hN8 : N ≤ 8 := by omega
  have p1 : S.1 1 1 = iI now := by rw [hc.1 1 (by omega), hnow]
  have p0 : S.1 1 0 = iI N := by rw [hc.1 0 (by omega), hN]
  have m0 : S.1 75 0 = iI N := by rw [hm 0 (by omega), hN]
  have m1 : S.1 75 1 = iI now := by rw [hm 1 (by omega), hnow]
  obtain ⟨S1, c1, c2, c3⟩ := cWeigh hc hw hN hn
  have e2 := cBest hw hN8 hn c3 (drops := 99) (by omega)
  have e3 := cGainB hN8 c3 (drops := 99) (by omega)
  obtain ⟨g, hg⟩ : ∃ g, g = (pBest (pFr a N) (pCo a N) (pGn a N now) 99 (2 ^ N)).2 := ⟨_, rfl⟩
  have bg : -792 ≤ g ∧ g ≤ 792 := by rw [hg]; exact pBest_b hw hN8 hn 99 _
  have e4 := cFewPot hw hN8 hn c3 (g := g) bg
  obtain ⟨f1, f2, f3⟩ := few_eq hw (N := N) (now := now) hN8 hg
  have hm1 : RM S1 75 a := fun k hk => by rw [c2 _ _ (by omega)]; exact hm k hk
  obtain ⟨S2, d1, d2, d3⟩ := rMostBy (S := S1) (Or.inl rfl) hm1 hw hN hn hnow (drops := 99) (by omega)
  have hm2 : RM S2 75 a := fun k hk => by rw [d1 _ _ (by omega)]; exact hm1 k hk
  rw [← hg] at e3 d3
  obtain ⟨F, hF⟩ : ∃ F : Nat, (F : Int) = pFew (pFr a N) (pCo a N) (pGn a N now) g (2 ^ N) := ⟨(pFew (pFr a N) (pCo a N) (pGn a N now) g (2 ^ N)).toNat, by omega⟩
  obtain ⟨S3, h1, h2⟩ := rFDL (S := S2) hm2 hw hN hn hnow bg ⟨f1, f2⟩ f3 (fun d => pBest_b hw hN8 hn d _) (k := fun y5 S6 => some (y5, S6)) (k9 := fun S7 => some ((-9), S7)) F 2000 0 S2 (by omega) (by omega) (fun _ _ _ => rfl)
  have i9 : Inv S3 := hS.sm (fun i k hs => by
    unfold scr at hs
    rw [h1 _ _ (by omega), d1 _ _ (by omega), c2 _ _ (by omega)])
  refine e_mk (v := iI (pFew (pFr a N) (pCo a N) (pGn a N now) g (2 ^ N))) (S1 := S1) (S2 := S3) ?_ ?_ i9
  · rw [f_X7_fewDrops, p1, c1, bs, show (99 : Int32) = iI 99 from rfl, e2, bs, e3, bs, e4]
    rfl
  · rw [f_X8_fewDrops, show (99 : Int32) = iI 99 from rfl, d3, bs]
    exact h2
-- ===== the best year to glue =====
section ST1
variable (a : Nat → Int) (v : Int)
theorem sC_st1 (j now : Nat) : sC (st a 1 v) j now = sC a j now := by
  funext y
  unfold sC
  rw [sG_st1, st_n (by omega), st_n (by omega)]
theorem sR_st1 (j : Nat) (m f : Int) : sR (st a 1 v) j m f = sR a j m f := by
  unfold sR
  rw [st_n (by omega), st_n (by omega)]
theorem sY_st1 (j now : Nat) (m f : Int) : sY (st a 1 v) j now m f = sY a j now m f := by
  unfold sY sL
  rw [sC_st1, sR_st1, st_n (by omega)]
theorem sBy_st1 (j now : Nat) : sBy (st a 1 v) j now = sBy a j now := by
  have e : (fun u : Nat => sG (st a 1 v) j (sY (st a 1 v) j now (5 * (u : Int)) 0)) = fun u : Nat => sG a j (sY a j now (5 * (u : Int)) 0) := by
    funext u
    rw [sY_st1, sG_st1]
  unfold sBy
  rw [e]
theorem pGn_st1 (N now : Nat) : pGn (st a 1 v) N now = pGn a N now := by
  have e : pGa (st a 1 v) now = pGa a now := by
    funext j
    unfold pGa
    rw [sBy_st1, sG_st1]
  funext m
  unfold pGn
  rw [e]
theorem pCo_st1 (N : Nat) : pCo (st a 1 v) N = pCo a N := by
  have e : sCost (st a 1 v) = sCost a := by
    funext j
    exact sCost_st (by omega) (by omega)
  funext m
  unfold pCo
  rw [e]
theorem mFr_st1 (m : Nat) : ∀ x, mFr (st a 1 v) m x = mFr a m x := by
  intro x
  induction x with
  | zero => rfl
  | succ x ih => rw [mFr, mFr, ih, st_n (by omega)]
theorem pFr_st1 (N : Nat) : pFr (st a 1 v) N = pFr a N := by
  funext m
  exact mFr_st1 a v m N
end ST1
def yTo (a : Nat → Int) (N y : Nat) : Int := sAll a N y + (pBest (pFr a N) (pCo a N) (pGn a N y) (a 2) (2 ^ N)).2
def sBYr (f : Nat → Int) : Nat → Int × Int
  | 0 => (0, -1)
  | y + 1 => if (sBYr f y).2 < f y then ((y : Int), f y) else sBYr f y
theorem sBYr_b {f : Nat → Int} {B : Int} (hf : ∀ y, y < 12 → -B ≤ f y ∧ f y ≤ B) (hB : 1 ≤ B) : ∀ x, x ≤ 12 → -B ≤ (sBYr f x).2 ∧ (sBYr f x).2 ≤ B := by
  intro x
  induction x with
  | zero => intro _; exact ⟨by show -B ≤ -1; omega, by show -1 ≤ B; omega⟩
  | succ x ih =>
    intro h
    have h1 := ih (by omega)
    have h2 := hf x (by omega)
    rw [sBYr]
    split
    · exact h2
    · exact h1
theorem yTo_b {a : Nat → Int} (hw : WFa a) {N : Nat} (hN8 : N ≤ 8) {y : Nat} (hy : y < 12) : -1600 ≤ yTo a N y ∧ yTo a N y ≤ 1600 := by
  have h1 := pBest_b hw (N := N) (now := y) hN8 (by omega) (a 2) (2 ^ N)
  have h2 := sAll_b (a := a) (N := N) (now := y) (fun j hj => hw.t (by omega)) hN8 (by omega)
  unfold yTo
  omega
theorem cBYL {S : St} {a : Nat → Int} {N : Nat} (hc : RC S 1 a) (hw : WFa a) (hN : a 0 = N) {k : Int32 → St → Option (Int32 × St)} :
    ∀ d n y : Nat, ∀ S' : St, y + d = 12 → d < n → wFr S S' → ∃ S'', wFr S S'' ∧ f_X7_bestYear_L6 n (iI (sBYr (yTo a N) y).1) (iI (sBYr (yTo a N) y).2) (iI y) S' k = k (iI (sBYr (yTo a N) 12).1) S'' := by
  have h8 := hw.1
  have w2 := hw.2.2.1
  intro d
  induction d with
  | zero =>
    intro n y S' hx hd q
    obtain ⟨n, rfl⟩ : ∃ p, n = p + 1 := ⟨n - 1, by omega⟩
    obtain rfl : y = 12 := by omega
    refine ⟨S', q, ?_⟩
    rw [f_X7_bestYear_L6]
    simp (disch := omega) only [li_0, li_1, li_2, li_3, li_4, li_5, li_6, li_7, li_8, li_9, li_10, li_11, li_12, li_16, li_19, li_20, li_28, li_48, li_57, li_59, li_60, li_96, li_97, li_99, li_100, li_102, li_103, li_104, li_112, li_115, li_116, li_118, li_119, li_121, li_124, li_132, li_255, li_256, li_1000, li_2000, li_1000000000, iI_add, iI_sub, iI_mul, iI_neg, iI_lt, iI_le, iI_eq, iI_clamp, iI_s, iI_m1, iI_div, bs, tn, tn4, tn12, tn20, tn124, tn28, itT, itF, if_pos, if_neg]
  | succ d ih =>
    intro n y S' hx hd q
    obtain ⟨n, rfl⟩ : ∃ p, n = p + 1 := ⟨n - 1, by omega⟩
    have hc' : RC S' 1 a := hc.frt (fun i k h1 h2 => q i k (by omega))
    obtain ⟨S1, c1, c2, c3⟩ := cWeigh hc' hw hN (now := y) (by omega)
    have p2 : S1.1 1 2 = iI (a 2) := by rw [c2 _ _ (by omega)]; exact hc'.1 2 (by omega)
    have e2 := cBest hw (by omega) (by omega) c3 (drops := a 2) w2
    have e3 := cGainB (by omega) c3 (drops := a 2) w2
    have e4 := c3.2.2.1
    obtain ⟨S'', g1, g2⟩ := ih n (y + 1) S1 (by omega) (by omega) (fun i k hi => by rw [c2 i k hi]; exact q i k hi)
    have b1 := yTo_b hw (N := N) (by omega) (y := y) (by omega)
    have b2 := sBYr_b (f := yTo a N) (B := 1600) (fun y hy => yTo_b hw (by omega) hy) (by omega) y (by omega)
    have eT : sAll a N y + (pBest (pFr a N) (pCo a N) (pGn a N y) (a 2) (2 ^ N)).2 = yTo a N y := rfl
    refine ⟨S'', g1, ?_⟩
    rw [sBYr] at g2
    rw [f_X7_bestYear_L6]
    by_cases c : (sBYr (yTo a N) y).2 < yTo a N y
    · rw [if_pos c] at g2
      simp (disch := omega) only [li_0, li_1, li_2, li_3, li_4, li_5, li_6, li_7, li_8, li_9, li_10, li_11, li_12, li_16, li_19, li_20, li_28, li_48, li_57, li_59, li_60, li_96, li_97, li_99, li_100, li_102, li_103, li_104, li_112, li_115, li_116, li_118, li_119, li_121, li_124, li_132, li_255, li_256, li_1000, li_2000, li_1000000000, iI_add, iI_sub, iI_mul, iI_neg, iI_lt, iI_le, iI_eq, iI_clamp, iI_s, iI_m1, iI_div, bs, tn, tn4, tn12, tn20, tn124, tn28, itT, itF, if_pos, if_neg, c1, p2, e2, e3, e4, eT, g2]
    · rw [if_neg c] at g2
      simp (disch := omega) only [li_0, li_1, li_2, li_3, li_4, li_5, li_6, li_7, li_8, li_9, li_10, li_11, li_12, li_16, li_19, li_20, li_28, li_48, li_57, li_59, li_60, li_96, li_97, li_99, li_100, li_102, li_103, li_104, li_112, li_115, li_116, li_118, li_119, li_121, li_124, li_132, li_255, li_256, li_1000, li_2000, li_1000000000, iI_add, iI_sub, iI_mul, iI_neg, iI_lt, iI_le, iI_eq, iI_clamp, iI_s, iI_m1, iI_div, bs, tn, tn4, tn12, tn20, tn124, tn28, itT, itF, if_pos, if_neg, c1, p2, e2, e3, e4, eT, g2]
def yFr (S S' : St) : Prop := ∀ i k, ¬ (i = 76 ∨ (i = 74 ∧ k = 12)) → S'.1 i k = S.1 i k
theorem rBYL {S : St} {a : Nat → Int} {N : Nat} (hm : RM S 75 a) (hw : WFa a) (hN : a 0 = N) {k : Int32 → St → Option (Int32 × St)} :
    ∀ d n y : Nat, ∀ S' : St, y + d = 12 → d < n → yFr S S' → ∃ S'', yFr S S'' ∧ f_X8_bestYear_L6 n (iI (sBYr (yTo a N) y).1) (iI (sBYr (yTo a N) y).2) (iI y) S' k = k (iI (sBYr (yTo a N) 12).1) S'' := by
  have h8 := hw.1
  have w2 := hw.2.2.1
  intro d
  induction d with
  | zero =>
    intro n y S' hx hd q
    obtain ⟨n, rfl⟩ : ∃ p, n = p + 1 := ⟨n - 1, by omega⟩
    obtain rfl : y = 12 := by omega
    refine ⟨S', q, ?_⟩
    rw [f_X8_bestYear_L6]
    simp (disch := omega) only [li_0, li_1, li_2, li_3, li_4, li_5, li_6, li_7, li_8, li_9, li_10, li_11, li_12, li_16, li_19, li_20, li_28, li_48, li_57, li_59, li_60, li_96, li_97, li_99, li_100, li_102, li_103, li_104, li_112, li_115, li_116, li_118, li_119, li_121, li_124, li_132, li_255, li_256, li_1000, li_2000, li_1000000000, iI_add, iI_sub, iI_mul, iI_neg, iI_lt, iI_le, iI_eq, iI_clamp, iI_s, iI_m1, iI_div, bs, tn, tn4, tn12, tn20, tn124, tn28, itT, itF, if_pos, if_neg]
  | succ d ih =>
    intro n y S' hx hd q
    obtain ⟨n, rfl⟩ : ∃ p, n = p + 1 := ⟨n - 1, by omega⟩
    obtain ⟨S1, l1, l2, l3⟩ := rLays (q0 := 75) (q1 := 76) (by omega) S'
    have hm6 : RM S1 76 a := fun k hk => by rw [l3 k hk, q _ _ (by omega)]; exact hm k hk
    have hm7 : RM (up S1 76 1 (iI y)) 76 (st a 1 y) := hm6.st 1 y
    have hw7 : WFa (st a 1 (y : Int)) := hw.st0 (by omega)
    have m2 : (up S1 76 1 (iI y)).1 76 2 = iI (a 2) := by rw [up_n (by omega)]; exact hm6 2 (by omega)
    obtain ⟨S2, d1, d2, d3⟩ := rMostBy (S := up S1 76 1 (iI y)) (Or.inr rfl) hm7 hw7 (N := N) (now := y) (by rw [st_n (by omega)]; exact hN) (by omega) (st_s _ _ _) (drops := a 2) w2
    rw [pFr_st1, pCo_st1, pGn_st1, sAll_st1] at d3
    have eT : sAll a N y + (pBest (pFr a N) (pCo a N) (pGn a N y) (a 2) (2 ^ N)).2 = yTo a N y := rfl
    rw [eT] at d3
    obtain ⟨S'', g1, g2⟩ := ih n (y + 1) S2 (by omega) (by omega) (fun i k hi => by rw [d1 i k (by omega), up_n (by omega), l2 _ _ (by omega)]; exact q i k hi)
    have b1 := yTo_b hw (N := N) (by omega) (y := y) (by omega)
    have b2 := sBYr_b (f := yTo a N) (B := 1600) (fun y hy => yTo_b hw (by omega) hy) (by omega) y (by omega)
    refine ⟨S'', g1, ?_⟩
    rw [sBYr] at g2
    rw [f_X8_bestYear_L6]
    by_cases c : (sBYr (yTo a N) y).2 < yTo a N y
    · rw [if_pos c] at g2
      simp (disch := omega) only [li_0, li_1, li_2, li_3, li_4, li_5, li_6, li_7, li_8, li_9, li_10, li_11, li_12, li_16, li_19, li_20, li_28, li_48, li_57, li_59, li_60, li_96, li_97, li_99, li_100, li_102, li_103, li_104, li_112, li_115, li_116, li_118, li_119, li_121, li_124, li_132, li_255, li_256, li_1000, li_2000, li_1000000000, iI_add, iI_sub, iI_mul, iI_neg, iI_lt, iI_le, iI_eq, iI_clamp, iI_s, iI_m1, iI_div, bs, tn, tn4, tn12, tn20, tn124, tn28, itT, itF, if_pos, if_neg, l1, m2, d3, g2]
    · rw [if_neg c] at g2
      simp (disch := omega) only [li_0, li_1, li_2, li_3, li_4, li_5, li_6, li_7, li_8, li_9, li_10, li_11, li_12, li_16, li_19, li_20, li_28, li_48, li_57, li_59, li_60, li_96, li_97, li_99, li_100, li_102, li_103, li_104, li_112, li_115, li_116, li_118, li_119, li_121, li_124, li_132, li_255, li_256, li_1000, li_2000, li_1000000000, iI_add, iI_sub, iI_mul, iI_neg, iI_lt, iI_le, iI_eq, iI_clamp, iI_s, iI_m1, iI_div, bs, tn, tn4, tn12, tn20, tn124, tn28, itT, itF, if_pos, if_neg, l1, m2, d3, g2]
theorem e_bestYear {S : St} (hS : Inv S)  : ∃ (z1 : Int32 × St) (z2 : Int32 × St), f_X7_bestYear S = some z1 ∧ f_X8_bestYear z1.2 = some z2 ∧ z1.1 = z2.1 ∧ Inv z2.2 := by
  obtain ⟨⟨a, hw, hc, hm0⟩, -⟩ := id hS
  have hm : ∀ k, k < 132 → S.1 75 k = iI (a k) := hm0
  have h8 := hw.1
  have w1 := hw.2.1
  have w2 := hw.2.2.1
  have w3 := hw.2.2.2.1
  obtain ⟨now, hnow⟩ : ∃ n : Nat, a 1 = n := ⟨(a 1).toNat, by omega⟩
  obtain ⟨N, hN⟩ : ∃ n : Nat, a 0 = n := ⟨(a 0).toNat, by omega⟩
  have hn : now ≤ 11 := by omega
  have hN8 : N ≤ 8 := by omega
  have p1 : S.1 1 1 = iI now := by rw [hc.1 1 (by omega), hnow]
  have p0 : S.1 1 0 = iI N := by rw [hc.1 0 (by omega), hN]
  have m0 : S.1 75 0 = iI N := by rw [hm 0 (by omega), hN]
  have m1 : S.1 75 1 = iI now := by rw [hm 1 (by omega), hnow]
  obtain ⟨S1, c1, c2⟩ := cBYL hc hw hN (k := fun y6 S7 => some (y6, S7)) 12 2000 0 S (by omega) (by omega) (fun _ _ _ => rfl)
  have hm1 : RM S1 75 a := fun k hk => by rw [c1 _ _ (by omega)]; exact hm k hk
  obtain ⟨S2, d1, d2⟩ := rBYL (S := S1) hm1 hw hN (k := fun y5 S6 => some (y5, S6)) 12 2000 0 S1 (by omega) (by omega) (fun _ _ _ => rfl)
  have i9 : Inv S2 := hS.sm (fun i k hs => by
    unfold scr at hs
    rw [d1 _ _ (by omega), c1 _ _ (by omega)])
  have c3 : f_X7_bestYear_L6 2000 (iI 0) (iI (-1)) (iI 0) S (fun y6 S7 => some (y6, S7)) = some (iI (sBYr (yTo a N) 12).1, S1) := c2
  have d3 : f_X8_bestYear_L6 2000 (iI 0) (iI (-1)) (iI 0) S1 (fun y5 S6 => some (y5, S6)) = some (iI (sBYr (yTo a N) 12).1, S2) := d2
  exact e_mk (v := iI (sBYr (yTo a N) 12).1) (S1 := S1) (S2 := S2) (by simp (disch := omega) only [li_0, li_1, li_2, li_3, li_4, li_5, li_6, li_7, li_8, li_9, li_10, li_11, li_12, li_16, li_19, li_20, li_28, li_48, li_57, li_59, li_60, li_96, li_97, li_99, li_100, li_102, li_103, li_104, li_112, li_115, li_116, li_118, li_119, li_121, li_124, li_132, li_255, li_256, li_1000, li_2000, li_1000000000, iI_add, iI_sub, iI_mul, iI_neg, iI_lt, iI_le, iI_eq, iI_clamp, iI_s, iI_m1, iI_div, bs, tn, tn4, tn12, tn20, tn124, tn28, itT, itF, if_pos, if_neg, f_X7_bestYear, c3]) (by simp (disch := omega) only [li_0, li_1, li_2, li_3, li_4, li_5, li_6, li_7, li_8, li_9, li_10, li_11, li_12, li_16, li_19, li_20, li_28, li_48, li_57, li_59, li_60, li_96, li_97, li_99, li_100, li_102, li_103, li_104, li_112, li_115, li_116, li_118, li_119, li_121, li_124, li_132, li_255, li_256, li_1000, li_2000, li_1000000000, iI_add, iI_sub, iI_mul, iI_neg, iI_lt, iI_le, iI_eq, iI_clamp, iI_s, iI_m1, iI_div, bs, tn, tn4, tn12, tn20, tn124, tn28, itT, itF, if_pos, if_neg, f_X8_bestYear, d3]) i9
