-- ===== the reference's best =====
def nCan (f : Nat → Nat) : Nat → Nat
  | 0 => 0
  | u + 1 => nCan f u ||| 2 ^ f u
theorem sCan_n {a : Nat → Int} {j now : Nat} (hn : now ≤ 11) : ∀ x, sCan a j now x = iI (nCan (fun u => sY a j now (5 * (u : Int)) 0) x : Nat) ∧ nCan (fun u => sY a j now (5 * (u : Int)) 0) x < 2 ^ 12 ∧ ∀ y, (nCan (fun u => sY a j now (5 * (u : Int)) 0) x).testBit y = true ↔ ∃ u, u < x ∧ sY a j now (5 * (u : Int)) 0 = y := by
  intro x
  induction x with
  | zero => exact ⟨rfl, Nat.two_pow_pos 12, fun y => ⟨fun h => by simp [nCan] at h, fun h => absurd h.choose_spec.1 (by omega)⟩⟩
  | succ x ih =>
    obtain ⟨h1, h2, h3⟩ := ih
    have yb := sY_le a j now (5 * (x : Int)) 0
    rw [sCan, nCan, h1, iI_shl (by omega), iI_or]
    refine ⟨rfl, Nat.or_lt_two_pow h2 (Nat.pow_lt_pow_right (by omega) (by omega)), fun y => ?_⟩
    rw [Nat.testBit_or, Nat.testBit_two_pow, Bool.or_eq_true, h3 y, decide_eq_true_eq]
    constructor
    · rintro (⟨u, hu, e⟩ | h)
      · exact ⟨u, by omega, e⟩
      · exact ⟨x, by omega, h⟩
    · rintro ⟨u, hu, e⟩
      by_cases c : u = x
      · right; rw [← c]; exact e
      · exact Or.inl ⟨u, by omega, e⟩
def sMy (p : Nat → Bool) (g : Nat → Int) : Nat → Int
  | 0 => 0
  | y + 1 => if p y = true then (if sMy p g y ≤ g y then g y else sMy p g y) else sMy p g y
theorem sMy_p {p : Nat → Bool} {g : Nat → Int} : ∀ x, 0 ≤ sMy p g x ∧ (∀ y, y < x → p y = true → g y ≤ sMy p g x) ∧ (sMy p g x = 0 ∨ ∃ y, y < x ∧ p y = true ∧ g y = sMy p g x) := by
  intro x
  induction x with
  | zero => exact ⟨Int.le_refl _, fun y hy => absurd hy (by omega), Or.inl rfl⟩
  | succ x ih =>
    obtain ⟨i1, i2, i3⟩ := ih
    rw [sMy]
    by_cases c : p x = true
    · rw [if_pos c]
      by_cases c2 : sMy p g x ≤ g x
      · rw [if_pos c2]
        refine ⟨by omega, fun y hy hp => ?_, Or.inr ⟨x, by omega, c, rfl⟩⟩
        by_cases e : y = x
        · rw [e]; exact Int.le_refl _
        · have := i2 y (by omega) hp
          omega
      · rw [if_neg c2]
        refine ⟨i1, fun y hy hp => ?_, ?_⟩
        · by_cases e : y = x
          · rw [e]; omega
          · exact i2 y (by omega) hp
        · rcases i3 with h | ⟨y, hy, h⟩
          · exact Or.inl h
          · exact Or.inr ⟨y, by omega, h⟩
    · rw [if_neg c]
      refine ⟨i1, fun y hy hp => ?_, ?_⟩
      · by_cases e : y = x
        · rw [e] at hp; exact absurd hp c
        · exact i2 y (by omega) hp
      · rcases i3 with h | ⟨y, hy, h⟩
        · exact Or.inl h
        · exact Or.inr ⟨y, by omega, h⟩
theorem sMx_p {f : Nat → Int} : ∀ x, 0 ≤ sMx f x ∧ (∀ u, u < x → f u ≤ sMx f x) ∧ (sMx f x = 0 ∨ ∃ u, u < x ∧ f u = sMx f x) := by
  intro x
  induction x with
  | zero => exact ⟨Int.le_refl _, fun y hy => absurd hy (by omega), Or.inl rfl⟩
  | succ x ih =>
    obtain ⟨i1, i2, i3⟩ := ih
    rw [sMx]
    by_cases c2 : sMx f x < f x
    · rw [if_pos c2]
      refine ⟨by omega, fun y hy => ?_, Or.inr ⟨x, by omega, rfl⟩⟩
      by_cases e : y = x
      · rw [e]; exact Int.le_refl _
      · have := i2 y (by omega)
        omega
    · rw [if_neg c2]
      refine ⟨i1, fun y hy => ?_, ?_⟩
      · by_cases e : y = x
        · rw [e]; omega
        · exact i2 y (by omega)
      · rcases i3 with h | ⟨y, hy, h⟩
        · exact Or.inl h
        · exact Or.inr ⟨y, by omega, h⟩
def canB (a : Nat → Int) (j now y : Nat) : Bool := (nCan (fun u => sY a j now (5 * (u : Int)) 0) 20).testBit y
theorem sMy_by {a : Nat → Int} {j now : Nat} (hn : now ≤ 11) : sMy (canB a j now) (sG a j) 12 = sBy a j now := by
  obtain ⟨_, _, h3⟩ := sCan_n (a := a) (j := j) hn 20
  obtain ⟨a1, a2, a3⟩ := sMy_p (p := canB a j now) (g := sG a j) 12
  obtain ⟨b1, b2, b3⟩ := sMx_p (f := fun u => sG a j (sY a j now (5 * (u : Int)) 0)) 20
  have le1 : sMy (canB a j now) (sG a j) 12 ≤ sBy a j now := by
    rcases a3 with h | ⟨y, hy, hp, h⟩
    · rw [h]; exact b1
    · obtain ⟨u, hu, e⟩ := (h3 y).mp hp
      have := b2 u hu
      rw [← h, ← e]
      exact this
  have le2 : sBy a j now ≤ sMy (canB a j now) (sG a j) 12 := by
    rcases b3 with h | ⟨u, hu, h⟩
    · unfold sBy
      rw [h]; exact a1
    · have yb := sY_le a j now (5 * (u : Int)) 0
      have := a2 (sY a j now (5 * (u : Int)) 0) (by omega) ((h3 _).mpr ⟨u, hu, rfl⟩)
      unfold sBy
      rw [← h]
      exact this
  omega
section RB
variable {S : St} {r : Nat} {a : Nat → Int} {j : Nat}
theorem rByL (hm : ∀ k, k < 132 → S.1 r k = iI (a k)) (hj : j < 8) (hw : WT a j) {now : Nat} (hn : now ≤ 11) {y2 y3 y4 y5 y6 y7 : Int32} {k : Int32 → Option (Int32 × St)} :
    ∀ d n x : Nat, x + d = 12 → d < n → f_X8_mostBy_L104 n r y2 y3 y4 y5 y6 y7 (iI j) (sCan a j now 20) (iI (sMy (canB a j now) (sG a j) x)) (iI x) S k = k (iI (sBy a j now)) := by
  obtain ⟨h1, h2, h3⟩ := sCan_n (a := a) (j := j) hn 20
  have p12 : (2 : Nat) ^ 12 = 4096 := rfl
  intro d
  induction d with
  | zero =>
    intro n x hx hd
    obtain ⟨n, rfl⟩ : ∃ p, n = p + 1 := ⟨n - 1, by omega⟩
    obtain rfl : x = 12 := by omega
    rw [f_X8_mostBy_L104, sMy_by hn]
    simp (disch := omega) only [li_0, li_1, li_2, li_3, li_4, li_5, li_6, li_7, li_8, li_9, li_10, li_11, li_12, li_16, li_19, li_20, li_28, li_48, li_57, li_59, li_60, li_96, li_97, li_99, li_100, li_102, li_103, li_104, li_112, li_115, li_116, li_118, li_119, li_121, li_124, li_132, li_255, li_256, li_1000, li_2000, li_1000000000, iI_add, iI_sub, iI_mul, iI_neg, iI_lt, iI_le, iI_eq, iI_clamp, iI_s, iI_m1, iI_div, bs, tn, tn4, tn12, tn20, tn124, tn28, itT, itF, if_pos, if_neg]
  | succ d ih =>
    intro n x hx hd
    obtain ⟨n, rfl⟩ : ∃ p, n = p + 1 := ⟨n - 1, by omega⟩
    have i1 := ih n (x + 1) (by omega) (by omega)
    have e1 : (sCan a j now 20 >>> (iI (x : Int) &&& 31)) &&& iI 1 = iI (if canB a j now x = true then 1 else 0) := by
      rw [h1, iI_bit (by omega) (by omega) (by omega), Int.toNat_natCast]
      by_cases c : canB a j now x = true
      · rw [if_pos c]
        unfold canB at c
        rw [Nat.testBit_eq_decide_div_mod_eq, decide_eq_true_eq] at c
        rw [c]; rfl
      · rw [if_neg c]
        unfold canB at c
        rw [Nat.testBit_eq_decide_div_mod_eq, decide_eq_true_eq] at c
        rw [show nCan (fun u => sY a j now (5 * (u : Int)) 0) 20 / 2 ^ x % 2 = 0 by omega]; rfl
    have g2 : S.1 r (28 + 12 * j + x) = iI (sG a j x) := hm _ (by omega)
    have b1 := sG_b hw (y := x) (by omega)
    have b2 : 0 ≤ sMy (canB a j now) (sG a j) x ∧ sMy (canB a j now) (sG a j) x ≤ 99 := by
      obtain ⟨a1, _, a3⟩ := sMy_p (p := canB a j now) (g := sG a j) x
      rcases a3 with h | ⟨y, hy, _, h⟩
      · omega
      · have := sG_b hw (y := y) (by omega)
        omega
    have e7 := rMost (x := sMy (canB a j now) (sG a j) x) (y := sG a j x) (by omega) (by omega) (by omega) (by omega)
    rw [sMy] at i1
    rw [f_X8_mostBy_L104]
    by_cases c : canB a j now x = true
    · rw [if_pos c] at i1 e1
      simp (disch := omega) only [li_0, li_1, li_2, li_3, li_4, li_5, li_6, li_7, li_8, li_9, li_10, li_11, li_12, li_16, li_19, li_20, li_28, li_48, li_57, li_59, li_60, li_96, li_97, li_99, li_100, li_102, li_103, li_104, li_112, li_115, li_116, li_118, li_119, li_121, li_124, li_132, li_255, li_256, li_1000, li_2000, li_1000000000, iI_add, iI_sub, iI_mul, iI_neg, iI_lt, iI_le, iI_eq, iI_clamp, iI_s, iI_m1, iI_div, bs, tn, tn4, tn12, tn20, tn124, tn28, itT, itF, if_pos, if_neg, e1, rAt, g2, e7, i1]
    · rw [if_neg c] at i1 e1
      simp (disch := omega) only [li_0, li_1, li_2, li_3, li_4, li_5, li_6, li_7, li_8, li_9, li_10, li_11, li_12, li_16, li_19, li_20, li_28, li_48, li_57, li_59, li_60, li_96, li_97, li_99, li_100, li_102, li_103, li_104, li_112, li_115, li_116, li_118, li_119, li_121, li_124, li_132, li_255, li_256, li_1000, li_2000, li_1000000000, iI_add, iI_sub, iI_mul, iI_neg, iI_lt, iI_le, iI_eq, iI_clamp, iI_s, iI_m1, iI_div, bs, tn, tn4, tn12, tn20, tn124, tn28, itT, itF, if_pos, if_neg, e1, i1]
end RB
def pTo (a : Nat → Int) (now m x : Nat) : Int := sSum (fun j => if m / 2 ^ j % 2 = 1 then sBy a j now else sHow a j now) x
theorem pTo_s (a : Nat → Int) (now m x : Nat) : pTo a now m (x + 1) = pTo a now m x + (if m / 2 ^ x % 2 = 1 then sBy a x now else sHow a x now) := rfl
theorem pTo_e {a : Nat → Int} {now m : Nat} : ∀ x, mFr a m x = true → pTo a now m x = sAll a x now + mSum (pGa a now) m x := by
  intro x
  induction x with
  | zero => intro _; rfl
  | succ x ih =>
    intro h
    rw [mFr] at h
    by_cases c : m / 2 ^ x % 2 = 1 ∧ ¬ a (20 + x) < 0
    · rw [if_pos c] at h; exact absurd h (by decide)
    · rw [if_neg c] at h
      have i1 := ih h
      rw [pTo_s, mSum_s, i1, show sAll a (x + 1) now = sAll a x now + sHow a x now from rfl]
      by_cases c1 : m / 2 ^ x % 2 = 1
      · rw [if_pos c1, if_pos c1]
        have c2 : a (20 + x) < 0 := by
          by_cases h9 : a (20 + x) < 0
          · exact h9
          · exact absurd ⟨c1, h9⟩ c
        have e : sHow a x now = sG a x now := if_pos c2
        unfold pGa
        omega
      · rw [if_neg c1, if_neg c1]
        omega
theorem pTo_b {a : Nat → Int} (hw : WFa a) {now : Nat} (hn : now ≤ 11) (m : Nat) {x : Nat} (hx : x ≤ 8) : 0 ≤ pTo a now m x ∧ pTo a now m x ≤ 792 := by
  have h := sSum_b (f := fun j => if m / 2 ^ j % 2 = 1 then sBy a j now else sHow a j now) (B := 99) (n := 0) (by omega) x (fun j hj => by
    have h1 := sBy_b (hw.t (j := j) (by omega)) hn
    have h2 := sHow_b (hw.t (j := j) (by omega)) hn
    show 0 ≤ (if m / 2 ^ j % 2 = 1 then sBy a j now else sHow a j now) ∧ (if m / 2 ^ j % 2 = 1 then sBy a j now else sHow a j now) ≤ 99
    split <;> omega)
  unfold pTo
  omega
theorem rMaskL {S : St} {r : Nat} {a : Nat → Int} {N now : Nat} (hm : ∀ k, k < 132 → S.1 r k = iI (a k)) (hw : WFa a) (hN : a 0 = N) (hn : now ≤ 11) (hn1 : a 1 = now) {m : Nat} (hmN : m < 2 ^ N) {y3 : Int32} (drops : Int) {k : Int32 → Int32 → Int32 → Option (Int32 × St)} :
    ∀ d n x : Nat, x + d = N → d < n → f_X8_mostBy_L27 n r (iI drops) y3 (iI m) (iI (drops - mSum (sCost a) m x)) (iI (pTo a now m x)) (iI (if mFr a m x = true then 1 else 0)) (iI x) S k = k (iI (drops - mSum (sCost a) m N)) (iI (pTo a now m N)) (iI (if mFr a m N = true then 1 else 0)) := by
  have h8 := hw.1
  have p8 : 2 ^ N ≤ 2 ^ 8 := Nat.pow_le_pow_right (by omega) (by omega)
  have p9 : (2 : Nat) ^ 8 = 256 := rfl
  have e0 : S.1 r 0 = iI N := by rw [hm 0 (by omega), hN]
  have a00 : (iI 0 &&& iI 0 : Int32) = iI 0 := by decide
  have a01 : (iI 0 &&& iI 1 : Int32) = iI 0 := by decide
  have a10 : (iI 1 &&& iI 0 : Int32) = iI 0 := by decide
  have a11 : (iI 1 &&& iI 1 : Int32) = iI 1 := by decide
  intro d
  induction d with
  | zero =>
    intro n x hx hd
    obtain ⟨n, rfl⟩ : ∃ p, n = p + 1 := ⟨n - 1, by omega⟩
    obtain rfl : x = N := by omega
    rw [f_X8_mostBy_L27, e0, if_pos (by rw [iI_le (by omega) (by omega) (by omega) (by omega)]; omega)]
  | succ d ih =>
    intro n x hx hd
    obtain ⟨n, rfl⟩ : ∃ p, n = p + 1 := ⟨n - 1, by omega⟩
    have i1 := ih n (x + 1) (by omega) (by omega)
    have hwt := hw.t (j := x) (by omega)
    have k1 := hwt.2.2.1
    have e1 := iI_bit (A := (m : Int)) (j := x) (by omega) (by omega) (by omega)
    rw [Int.toNat_natCast] at e1
    have e2 := rHow hm (j := x) (by omega) hwt hn hn1
    have e3 := rCost hm (j := x) (by omega) hwt
    have e4 := rCan hm (j := x) (by omega) hwt hn hn1
    have e5 : ∀ y2 y3 y4 y5 y6 y7 k, f_X8_mostBy_L104 2000 r y2 y3 y4 y5 y6 y7 (iI x) (sCan a x now 20) (iI 0) (iI 0) S k = k (iI (sBy a x now)) := fun y2 y3 y4 y5 y6 y7 k => rByL hm (j := x) (by omega) hwt hn 12 2000 0 (by omega) (by omega)
    have e6 := hm (20 + x) (by omega)
    have hlt : ¬ iI (N : Int) ≤ iI (x : Int) := by rw [iI_le (by omega) (by omega) (by omega) (by omega)]; omega
    have j1 : (20 + iI (x : Int) : Int32) = iI ((20 + x : Nat) : Int) := by rw [li_20, iI_add]; rfl
    have j2 : (iI ((20 + x : Nat) : Int)).toNatClampNeg = 20 + x := by rw [iI_clamp (by omega) (by omega)]; rfl
    have j3 : ¬ (iI ((20 + x : Nat) : Int) < iI 0 ∨ 132 ≤ 20 + x) := by rw [iI_lt (by omega) (by omega) (by omega) (by omega)]; omega
    have j4 : (iI (x : Int) + iI 1 : Int32) = iI ((x + 1 : Nat) : Int) := by rw [iI_add]; rfl
    have z0 : (0 : Int32) = iI 0 := rfl
    have z1 : (1 : Int32) = iI 1 := rfl
    rw [pTo_s, mSum_s] at i1
    rw [f_X8_mostBy_L27, e0, if_neg hlt, z1, e1, z0]
    by_cases c : m / 2 ^ x % 2 = 1
    · rw [if_pos c, if_pos c, ← Int.sub_sub] at i1
      rw [c, if_neg (show ¬ iI ((1 : Nat) : Int) = iI 0 by decide), j1, j2, if_neg j3, e6]
      by_cases c2 : a (20 + x) < 0
      · have eF : mFr a m (x + 1) = mFr a m x := by
          rw [mFr]
          exact if_neg (fun z => z.2 c2)
        rw [eF] at i1
        rw [if_neg (show ¬ iI 0 ≤ iI (a (20 + x)) by rw [iI_le (by omega) (by omega) (by omega) (by omega)]; omega), e3, bs, e4, bs, e5, iI_sub, iI_add, j4]
        by_cases c3 : mFr a m x = true
        · rw [if_pos c3] at i1 ⊢
          rw [a11]; exact i1
        · rw [if_neg c3] at i1 ⊢
          rw [a01]; exact i1
      · have eF : mFr a m (x + 1) = false := by
          rw [mFr]
          exact if_pos ⟨c, c2⟩
        rw [eF, if_neg (show ¬ (false = true) by decide)] at i1
        rw [if_pos (show iI 0 ≤ iI (a (20 + x)) by rw [iI_le (by omega) (by omega) (by omega) (by omega)]; omega), e3, bs, e4, bs, e5, iI_sub, iI_add, j4]
        by_cases c3 : mFr a m x = true
        · rw [if_pos c3, a10]; exact i1
        · rw [if_neg c3, a00]; exact i1
    · have eF : mFr a m (x + 1) = mFr a m x := by
        rw [mFr]
        exact if_neg (fun z => c z.1)
      rw [if_neg c, if_neg c, Int.add_zero, eF] at i1
      rw [show m / 2 ^ x % 2 = 0 by omega, if_pos (show iI ((0 : Nat) : Int) = iI 0 from rfl), e2, bs, iI_add, j4]
      exact i1
def rFm (S S' : St) : Prop := ∀ i k, ¬ (i = 74 ∧ k = 12) → S'.1 i k = S.1 i k
theorem rMostL {S : St} {r : Nat} (hr : r = 75 ∨ r = 76) {a : Nat → Int} {N now : Nat} (hm : RM S r a) (hw : WFa a) (hN : a 0 = N) (hn : now ≤ 11) (hn1 : a 1 = now) {drops : Int} (hd : 0 ≤ drops ∧ drops ≤ 99) {k : Int32 → St → Option (Int32 × St)} :
    ∀ d n m : Nat, ∀ S' : St, m + d = 2 ^ N → d < n → rFm S S' → (m = 0 ∨ S'.1 74 12 = iI (qBest (pFr a N) (pCo a N) (fun m => pTo a now m N) drops m).1) →
    ∃ S'', rFm S S'' ∧ S''.1 74 12 = iI (qBest (pFr a N) (pCo a N) (fun m => pTo a now m N) drops (2 ^ N)).1 ∧ f_X8_mostBy_L5 n r (iI drops) (iI (qBest (pFr a N) (pCo a N) (fun m => pTo a now m N) drops m).2) (iI m) S' k = k (iI (qBest (pFr a N) (pCo a N) (fun m => pTo a now m N) drops (2 ^ N)).2) S'' := by
  have h8 := hw.1
  have p8 : 2 ^ N ≤ 2 ^ 8 := Nat.pow_le_pow_right (by omega) (by omega)
  have p9 : (2 : Nat) ^ 8 = 256 := rfl
  have p1 : 0 < 2 ^ N := Nat.two_pow_pos N
  obtain ⟨z1, z2, z3⟩ := p00 a N now
  have bQ : ∀ x, -1 ≤ (qBest (pFr a N) (pCo a N) (fun m => pTo a now m N) drops x).2 ∧ (qBest (pFr a N) (pCo a N) (fun m => pTo a now m N) drops x).2 ≤ 792 := by
    intro x
    induction x with
    | zero => exact ⟨Int.le_refl _, by show (-1 : Int) ≤ 792; omega⟩
    | succ x ih =>
      rw [qBest]
      split
      · have := pTo_b hw hn x (x := N) (by omega)
        show -1 ≤ pTo a now x N ∧ pTo a now x N ≤ 792
        omega
      · exact ih
  intro d
  induction d with
  | zero =>
    intro n m S' hx hdn q1 q2
    obtain ⟨n, rfl⟩ : ∃ p, n = p + 1 := ⟨n - 1, by omega⟩
    obtain rfl : m = 2 ^ N := by omega
    have e0 : S'.1 r 0 = iI N := by rw [q1 _ _ (by omega), hm 0 (by omega), hN]
    refine ⟨S', q1, q2.resolve_left (by omega), ?_⟩
    rw [f_X8_mostBy_L5, e0, show (1 : Int32) = iI 1 from rfl, iI_shl (by omega), if_pos (by rw [iI_le (by omega) (by omega) (by omega) (by omega)]; omega)]
  | succ d ih =>
    intro n m S' hx hdn q1 q2
    obtain ⟨n, rfl⟩ : ∃ p, n = p + 1 := ⟨n - 1, by omega⟩
    have hmN : m < 2 ^ N := by omega
    have hm' : ∀ k, k < 132 → S'.1 r k = iI (a k) := fun k hk => by rw [q1 _ _ (by omega)]; exact hm k hk
    have e0 : S'.1 r 0 = iI N := by rw [hm' 0 (by omega), hN]
    have hlt : ¬ iI ((2 ^ N : Nat) : Int) ≤ iI (m : Int) := by rw [iI_le (by omega) (by omega) (by omega) (by omega)]; omega
    have e1 : ∀ k, f_X8_mostBy_L27 2000 r (iI drops) (iI (qBest (pFr a N) (pCo a N) (fun m => pTo a now m N) drops m).2) (iI m) (iI drops) (iI 0) (iI 1) (iI 0) S' k = k (iI (drops - pCo a N m)) (iI (pTo a now m N)) (iI (if mFr a m N = true then 1 else 0)) := fun k => by
      have h := rMaskL hm' hw hN hn hn1 hmN (y3 := iI (qBest (pFr a N) (pCo a N) (fun m => pTo a now m N) drops m).2) drops (k := k) N 2000 0 (by omega) (by omega)
      have h1 : drops - mSum (sCost a) m 0 = drops := Int.sub_zero _
      rw [h1] at h
      exact h
    have b1 := pTo_b hw hn m (x := N) (by omega)
    have b2 := pCo_b hw (N := N) (by omega) m
    have b3 := bQ m
    have j1 : (iI (m : Int) + iI 1 : Int32) = iI ((m + 1 : Nat) : Int) := by rw [iI_add]; rfl
    have z0 : (0 : Int32) = iI 0 := rfl
    have z1' : (1 : Int32) = iI 1 := rfl
    by_cases c : pFr a N m = true ∧ 0 ≤ drops - pCo a N m ∧ (qBest (pFr a N) (pCo a N) (fun m => pTo a now m N) drops m).2 < pTo a now m N
    · have eQ : qBest (pFr a N) (pCo a N) (fun m => pTo a now m N) drops (m + 1) = (m, pTo a now m N) := if_pos c
      obtain ⟨S'', g1, g2, g3⟩ := ih n (m + 1) (up S' 74 12 (iI m)) (by omega) (by omega) (fun i k hi => by rw [up_n (by omega)]; exact q1 i k hi) (Or.inr (by rw [eQ]; exact up_s))
      refine ⟨S'', g1, g2, ?_⟩
      rw [eQ] at g3
      have c1 : mFr a m N = true := c.1
      rw [if_pos c1] at e1
      rw [f_X8_mostBy_L5, e0, z1', iI_shl (by omega), if_neg hlt, z0, e1, if_neg (by decide), if_neg (by rw [iI_lt (by omega) (by omega) (by omega) (by omega)]; omega), if_pos (by rw [iI_lt (by omega) (by omega) (by omega) (by omega)]; exact c.2.2), j1]
      exact g3
    · have eQ : qBest (pFr a N) (pCo a N) (fun m => pTo a now m N) drops (m + 1) = qBest (pFr a N) (pCo a N) (fun m => pTo a now m N) drops m := if_neg c
      have m0 : m ≠ 0 := by
        intro h
        subst h
        apply c
        refine ⟨z1, by rw [z2]; omega, ?_⟩
        show (-1 : Int) < pTo a now 0 N
        omega
      obtain ⟨S'', g1, g2, g3⟩ := ih n (m + 1) S' (by omega) (by omega) q1 (Or.inr (by rw [eQ]; exact q2.resolve_left m0))
      refine ⟨S'', g1, g2, ?_⟩
      rw [eQ] at g3
      rw [f_X8_mostBy_L5, e0, z1', iI_shl (by omega), if_neg hlt, z0, e1]
      by_cases c1 : mFr a m N = true
      · rw [if_pos c1, if_neg (by decide)]
        by_cases c2 : 0 ≤ drops - pCo a N m
        · rw [if_neg (by rw [iI_lt (by omega) (by omega) (by omega) (by omega)]; omega), if_neg (by rw [iI_lt (by omega) (by omega) (by omega) (by omega)]; exact fun z => c ⟨c1, c2, z⟩), j1]
          exact g3
        · rw [if_pos (by rw [iI_lt (by omega) (by omega) (by omega) (by omega)]; omega), j1]
          exact g3
      · rw [if_neg c1, if_pos (by decide), j1]
        exact g3
theorem rMostBy {S : St} {r : Nat} (hr : r = 75 ∨ r = 76) {a : Nat → Int} {N now : Nat} (hm : RM S r a) (hw : WFa a) (hN : a 0 = N) (hn : now ≤ 11) (hn1 : a 1 = now) {drops : Int} (hd : 0 ≤ drops ∧ drops ≤ 99) :
    ∃ S', rFm S S' ∧ S'.1 74 12 = iI (pBest (pFr a N) (pCo a N) (pGn a N now) drops (2 ^ N)).1 ∧ f_X8_mostBy r (iI drops) S = some (iI (sAll a N now + (pBest (pFr a N) (pCo a N) (pGn a N now) drops (2 ^ N)).2), S') := by
  have h8 := hw.1
  have p8 : 2 ^ N ≤ 2 ^ 8 := Nat.pow_le_pow_right (by omega) (by omega)
  have p9 : (2 : Nat) ^ 8 = 256 := rfl
  obtain ⟨z1, z2, z3⟩ := p00 a N now
  have b := sAll_b (a := a) (N := N) (now := now) (fun j hj => hw.t (by omega)) (by omega) hn
  have eq := qBest_p (fr := pFr a N) (co := pCo a N) (ga := pGn a N now) (to := fun m => pTo a now m N) (drops := drops) (b := sAll a N now) z1 z2 z3 hd.1 b.1 (M := 2 ^ N) (fun m _ hf => pTo_e N hf) (2 ^ N) (Nat.two_pow_pos N) (Nat.le_refl _)
  obtain ⟨S', g1, g2, g3⟩ := rMostL hr hm hw hN hn hn1 hd (k := fun y s => some (y, s)) (2 ^ N) 2000 0 S (by omega) (by omega) (fun _ _ _ => rfl) (Or.inl rfl)
  rw [eq] at g2 g3
  refine ⟨S', g1, g2, ?_⟩
  rw [f_X8_mostBy]
  exact g3
