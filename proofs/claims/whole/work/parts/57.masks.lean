-- ===== masks as whole numbers =====
theorem nI_or (a b : Nat) : nI a ||| nI b = nI (a ||| b) := by
  apply Int32.toBitVec_inj.1
  show BitVec.ofNat 32 a ||| BitVec.ofNat 32 b = BitVec.ofNat 32 (a ||| b)
  apply BitVec.eq_of_getLsbD_eq
  intro i hi
  simp [hi]
theorem nI_and (a b : Nat) : nI a &&& nI b = nI (a &&& b) := by
  apply Int32.toBitVec_inj.1
  show BitVec.ofNat 32 a &&& BitVec.ofNat 32 b = BitVec.ofNat 32 (a &&& b)
  apply BitVec.eq_of_getLsbD_eq
  intro i hi
  simp [hi]
theorem iI_shl {n : Nat} (hn : n < 31) : (iI 1 <<< (iI (n : Int) &&& 31)) = iI ((2 ^ n : Nat) : Int) := by
  have e1 : (iI 1 : Int32) = nI 1 := iI_nI 1
  rw [e1, iI_nI, iI_nI, w_shl n hn]
theorem iI_or (a b : Nat) : iI (a : Int) ||| iI (b : Int) = iI ((a ||| b : Nat) : Int) := by rw [iI_nI, iI_nI, iI_nI, nI_or]
theorem iI_and (a b : Nat) : iI (a : Int) &&& iI (b : Int) = iI ((a &&& b : Nat) : Int) := by rw [iI_nI, iI_nI, iI_nI, nI_and]
def nSet (a : Nat → Int) : Nat → Nat
  | 0 => 0
  | j + 1 => if a (20 + j) < 0 then nSet a j else nSet a j ||| 2 ^ j
theorem sSet_n (a : Nat → Int) : ∀ x, x ≤ 8 → sSet a x = iI (nSet a x : Nat) ∧ nSet a x < 2 ^ 8 ∧ ∀ j, (nSet a x).testBit j = true ↔ j < x ∧ ¬ a (20 + j) < 0 := by
  intro x
  induction x with
  | zero => exact fun _ => ⟨rfl, Nat.two_pow_pos 8, fun j => ⟨fun h => by simp [nSet] at h, fun h => absurd h.1 (by omega)⟩⟩
  | succ x ih =>
    intro hx
    obtain ⟨h1, h2, h3⟩ := ih (by omega)
    rw [sSet, nSet]
    by_cases c : a (20 + x) < 0
    · rw [if_pos c, if_pos c]
      refine ⟨h1, h2, fun j => (h3 j).trans ⟨fun h => ⟨by omega, h.2⟩, fun h => ⟨?_, h.2⟩⟩⟩
      rcases Nat.lt_or_ge j x with hj | hj
      · exact hj
      · have : j = x := by omega
        subst this
        exact absurd c h.2
    · rw [if_neg c, if_neg c, h1, iI_shl (by omega), iI_or]
      refine ⟨rfl, Nat.or_lt_two_pow h2 (Nat.pow_lt_pow_right (by omega) (by omega)), fun j => ?_⟩
      rw [Nat.testBit_or, Nat.testBit_two_pow, Bool.or_eq_true, h3 j, decide_eq_true_eq]
      constructor
      · rintro (h | h)
        · exact ⟨by omega, h.2⟩
        · subst h
          exact ⟨by omega, c⟩
      · intro h
        rcases Nat.lt_or_ge j x with hj | hj
        · exact Or.inl ⟨hj, h.2⟩
        · right; omega
def mFr (a : Nat → Int) (m : Nat) : Nat → Bool
  | 0 => true
  | x + 1 => if m / 2 ^ x % 2 = 1 ∧ ¬ a (20 + x) < 0 then false else mFr a m x
theorem mFr_iff (a : Nat → Int) (m : Nat) : ∀ x, mFr a m x = true ↔ ∀ j, j < x → m / 2 ^ j % 2 = 1 → a (20 + j) < 0 := by
  intro x
  induction x with
  | zero => exact ⟨fun _ j hj => absurd hj (by omega), fun _ => rfl⟩
  | succ x ih =>
    rw [mFr]
    by_cases c : m / 2 ^ x % 2 = 1 ∧ ¬ a (20 + x) < 0
    · rw [if_pos c]
      exact ⟨fun h => absurd h (by decide), fun h => absurd (h x (by omega) c.1) c.2⟩
    · rw [if_neg c, ih]
      constructor
      · intro h j hj hb
        rcases Nat.lt_or_ge j x with hj' | hj'
        · exact h j hj' hb
        · have : j = x := by omega
          subst this
          by_cases h9 : a (20 + j) < 0
          · exact h9
          · exact absurd ⟨hb, h9⟩ c
      · exact fun h j hj hb => h j (by omega) hb
theorem mFr_and {a : Nat → Int} {m N : Nat} (hN : N ≤ 8) (hm : m < 2 ^ N) : (iI (m : Int) &&& sSet a N = iI 0) ↔ mFr a m N = true := by
  obtain ⟨h1, h2, h3⟩ := sSet_n a N hN
  have hm8 : m < 2 ^ 8 := Nat.lt_of_lt_of_le hm (Nat.pow_le_pow_right (by omega) hN)
  have hlt : m &&& nSet a N ≤ m := Nat.and_le_left
  have p8 : (2 : Nat) ^ 8 = 256 := rfl
  have e : (iI (m : Int) &&& sSet a N = iI 0) ↔ (m &&& nSet a N) = 0 := by
    rw [h1, iI_and, iI_eq (by omega) (by omega) (by omega) (by omega)]
    omega
  rw [e, mFr_iff]
  constructor
  · intro h j hj hb
    by_cases h9 : a (20 + j) < 0
    · exact h9
    · have t1 : (nSet a N).testBit j = true := (h3 j).mpr ⟨hj, h9⟩
      have t2 : m.testBit j = true := by rw [Nat.testBit_eq_decide_div_mod_eq, decide_eq_true_eq]; exact hb
      have t3 : (m &&& nSet a N).testBit j = true := by rw [Nat.testBit_and, t1, t2]; rfl
      rw [h, Nat.zero_testBit] at t3
      exact absurd t3 (by decide)
  · intro h
    apply Nat.eq_of_testBit_eq
    intro j
    rw [Nat.testBit_and, Nat.zero_testBit]
    by_cases t1 : (nSet a N).testBit j = true
    · have g := (h3 j).mp t1
      by_cases t2 : m.testBit j = true
      · rw [Nat.testBit_eq_decide_div_mod_eq, decide_eq_true_eq] at t2
        exact absurd (h j g.1 t2) g.2
      · rw [Bool.not_eq_true] at t2
        rw [t2]; rfl
    · rw [Bool.not_eq_true] at t1
      rw [t1, Bool.and_false]
theorem bit_hi {m N j : Nat} (hm : m < 2 ^ N) (hj : N ≤ j) : m / 2 ^ j % 2 = 0 := by
  have := Nat.pow_le_pow_right (n := 2) (by omega) hj
  rw [Nat.div_eq_of_lt (by omega)]
-- ===== sums over a mask =====
def mSum (f : Nat → Int) (m x : Nat) : Int := sSum (fun j => if m / 2 ^ j % 2 = 1 then f j else 0) x
theorem mSum_s (f : Nat → Int) (m x : Nat) : mSum f m (x + 1) = mSum f m x + (if m / 2 ^ x % 2 = 1 then f x else 0) := rfl
theorem mSum_hi {f : Nat → Int} {m N : Nat} (hm : m < 2 ^ N) : ∀ d, mSum f m (N + d) = mSum f m N := fun d =>
  sSum_tail d (fun x hx => by show (if m / 2 ^ x % 2 = 1 then f x else 0) = 0; rw [if_neg (by have := bit_hi hm hx; omega)])
theorem mSum_b {f : Nat → Int} {m : Nat} {B : Int} (hB : 0 ≤ B) : ∀ x, (∀ j, j < x → -B ≤ f j ∧ f j ≤ B) → -(B * x) ≤ mSum f m x ∧ mSum f m x ≤ B * x := by
  intro x
  induction x with
  | zero => intro _; exact ⟨by show -(B * ((0 : Nat) : Int)) ≤ 0; simp, by show (0 : Int) ≤ B * ((0 : Nat) : Int); simp⟩
  | succ x ih =>
    intro h
    have h1 := ih (fun j hj => h j (by omega))
    have h2 := h x (by omega)
    have e : B * ((x + 1 : Nat) : Int) = B * x + B := by rw [Int.natCast_add, Int.mul_add]; simp
    rw [mSum_s, e]
    split <;> omega
theorem mSum_0 (f : Nat → Int) : ∀ x, mSum f 0 x = 0 := by
  intro x
  induction x with
  | zero => rfl
  | succ x ih => rw [mSum_s, ih, Nat.zero_div]; rfl
section CW
variable {S : St} {a : Nat → Int} {N : Nat}
theorem cSumL {q m : Nat} {f : Nat → Int} (hN : N ≤ 8) (hm : m < 2 ^ N) (hq : ∀ j, j < N → S.1 q j = iI (f j)) {k : Int32 → Option Int32} :
    ∀ d n x : Nat, x + d = 8 → d < n → f_X1_sumOver_L4 n (iI m) q (iI (mSum f m x)) (iI x) S k = k (iI (mSum f m 8)) := by
  have hm8 : m < 2 ^ 8 := Nat.lt_of_lt_of_le hm (Nat.pow_le_pow_right (by omega) hN)
  have p8 : (2 : Nat) ^ 8 = 256 := rfl
  intro d
  induction d with
  | zero =>
    intro n x hx hd
    obtain ⟨n, rfl⟩ : ∃ p, n = p + 1 := ⟨n - 1, by omega⟩
    obtain rfl : x = 8 := by omega
    rw [f_X1_sumOver_L4]
    simp (disch := omega) only [li_0, li_1, li_2, li_3, li_4, li_5, li_6, li_7, li_8, li_9, li_10, li_11, li_12, li_16, li_19, li_20, li_28, li_48, li_57, li_59, li_60, li_96, li_97, li_99, li_100, li_102, li_103, li_104, li_112, li_115, li_116, li_118, li_119, li_121, li_124, li_132, li_255, li_256, li_1000, li_2000, li_1000000000, iI_add, iI_sub, iI_mul, iI_neg, iI_lt, iI_le, iI_eq, iI_clamp, iI_s, iI_m1, iI_div, bs, tn, tn4, tn12, tn20, tn124, tn28, itT, itF, if_pos, if_neg]
  | succ d ih =>
    intro n x hx hd
    obtain ⟨n, rfl⟩ : ∃ p, n = p + 1 := ⟨n - 1, by omega⟩
    have i1 := ih n (x + 1) (by omega) (by omega)
    have e1 := iI_bit (A := (m : Int)) (j := x) (by omega) (by omega) (by omega)
    rw [Int.toNat_natCast] at e1
    rw [mSum_s] at i1
    rw [f_X1_sumOver_L4]
    by_cases c : m / 2 ^ x % 2 = 1
    · have hx8 : x < N := by
        rcases Nat.lt_or_ge x N with h | h
        · exact h
        · have := bit_hi hm h; omega
      have e2 := hq x hx8
      rw [if_pos c] at i1
      rw [c] at e1
      simp (disch := omega) only [li_0, li_1, li_2, li_3, li_4, li_5, li_6, li_7, li_8, li_9, li_10, li_11, li_12, li_16, li_19, li_20, li_28, li_48, li_57, li_59, li_60, li_96, li_97, li_99, li_100, li_102, li_103, li_104, li_112, li_115, li_116, li_118, li_119, li_121, li_124, li_132, li_255, li_256, li_1000, li_2000, li_1000000000, iI_add, iI_sub, iI_mul, iI_neg, iI_lt, iI_le, iI_eq, iI_clamp, iI_s, iI_m1, iI_div, bs, tn, tn4, tn12, tn20, tn124, tn28, itT, itF, if_pos, if_neg, e1, e2, i1]
    · have c' : m / 2 ^ x % 2 = 0 := by omega
      rw [if_neg c] at i1
      rw [c'] at e1
      simp (disch := omega) only [li_0, li_1, li_2, li_3, li_4, li_5, li_6, li_7, li_8, li_9, li_10, li_11, li_12, li_16, li_19, li_20, li_28, li_48, li_57, li_59, li_60, li_96, li_97, li_99, li_100, li_102, li_103, li_104, li_112, li_115, li_116, li_118, li_119, li_121, li_124, li_132, li_255, li_256, li_1000, li_2000, li_1000000000, iI_add, iI_sub, iI_mul, iI_neg, iI_lt, iI_le, iI_eq, iI_clamp, iI_s, iI_m1, iI_div, bs, tn, tn4, tn12, tn20, tn124, tn28, itT, itF, if_pos, if_neg, e1, i1]
theorem cSum {q m : Nat} {f : Nat → Int} (hN : N ≤ 8) (hm : m < 2 ^ N) (hq : ∀ j, j < N → S.1 q j = iI (f j)) : f_X1_sumOver (iI m) q S = some (iI (mSum f m N)) := by
  have i := cSumL hN hm hq (k := fun y => some y) 8 2000 0 (by omega) (by omega)
  have e : 8 = N + (8 - N) := by omega
  rw [e, mSum_hi hm] at i
  rw [f_X1_sumOver]
  exact i
end CW
