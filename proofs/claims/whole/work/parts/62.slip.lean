-- ===== wide whole numbers =====
def lI (z : Int) : Int64 := Int64.ofInt z
theorem lI_add (a b : Int) : lI a + lI b = lI (a + b) := (Int64.ofInt_add a b).symm
theorem lI_sub (a b : Int) : lI a - lI b = lI (a - b) := (Int64.ofInt_sub a b).symm
theorem lI_mul (a b : Int) : lI a * lI b = lI (a * b) := (Int64.ofInt_mul a b).symm
theorem lI_toInt {z : Int} (h1 : -9223372036854775808 ≤ z) (h2 : z < 9223372036854775808) : (lI z).toInt = z := Int64.toInt_ofInt_of_le (by omega) (by omega)
theorem lI_eq {a b : Int} (h1 : -9223372036854775808 ≤ a) (h2 : a < 9223372036854775808) (h3 : -9223372036854775808 ≤ b) (h4 : b < 9223372036854775808) : lI a = lI b ↔ a = b := by
  rw [← Int64.toInt_inj, lI_toInt h1 h2, lI_toInt h3 h4]
theorem lI_le {a b : Int} (h1 : -9223372036854775808 ≤ a) (h2 : a < 9223372036854775808) (h3 : -9223372036854775808 ≤ b) (h4 : b < 9223372036854775808) : lI a ≤ lI b ↔ a ≤ b := by
  rw [Int64.le_iff_toInt_le, lI_toInt h1 h2, lI_toInt h3 h4]
theorem lI_div {a b : Int} (h1 : 0 ≤ a) (h2 : a < 9223372036854775808) (h3 : 0 < b) (h4 : b < 9223372036854775808) : lI a / lI b = lI (a / b) := by
  have e1 : 0 ≤ a / b := Int.ediv_nonneg h1 (by omega)
  have e2 : a / b ≤ a := Int.ediv_le_self _ h1
  rw [← Int64.toInt_inj, Int64.toInt_div, lI_toInt (by omega) h2, lI_toInt (by omega) h4, lI_toInt (by omega) (by omega), Int.tdiv_eq_ediv_of_nonneg h1]
  exact Int.bmod_eq_of_le (by omega) (by omega)
theorem iI_l {z : Int} (h1 : -2147483648 ≤ z) (h2 : z < 2147483648) : (iI z).toInt64 = lI z := Int32.toInt64_ofInt (by rw [Int32.toInt_minValue]; omega) (by rw [Int32.toInt_maxValue]; omega)
-- ===== odds =====
def wW (k : Int) : Nat → Nat → Int
  | 0, 0 => 1
  | 0, _ + 1 => 0
  | n + 1, 0 => wW k n 0
  | n + 1, c + 1 => wW k n (c + 1) + wW k n c * k
theorem wW_hi (k : Int) : ∀ n c, n < c → wW k n c = 0 := by
  intro n
  induction n with
  | zero =>
    intro c hc
    obtain ⟨c, rfl⟩ : ∃ p, c = p + 1 := ⟨c - 1, by omega⟩
    rfl
  | succ n ih =>
    intro c hc
    obtain ⟨c, rfl⟩ : ∃ p, c = p + 1 := ⟨c - 1, by omega⟩
    rw [wW, ih (c + 1) (by omega), ih c (by omega)]
    simp
theorem wW_nn {k : Int} (hk : 0 ≤ k) : ∀ n c, 0 ≤ wW k n c := by
  intro n
  induction n with
  | zero =>
    intro c
    cases c with
    | zero => show (0 : Int) ≤ 1; omega
    | succ c => exact Int.le_refl _
  | succ n ih =>
    intro c
    cases c with
    | zero => exact ih 0
    | succ c =>
      have h1 := ih (c + 1)
      have h2 := Int.mul_nonneg (ih c) hk
      rw [wW]
      omega
def sW (k : Int) (n : Nat) (G : Nat → Int) : Int := sSum (fun c => wW k n c * G c) 9
theorem sW_s (k : Int) {n : Nat} (hn : n < 8) (G : Nat → Int) : sW k (n + 1) G = sW k n (fun c => k * G (c + 1)) + sW k n G := by
  have h8 := wW_hi k n 8 (by omega)
  simp only [sW, sSum, wW, Int.add_mul, Int.mul_assoc, h8, Int.zero_mul, Nat.reduceAdd]
  omega
theorem sW_mul (k : Int) (n : Nat) (q : Int) (G : Nat → Int) : sW k n (fun c => q * G c) = q * sW k n G := by
  have h : ∀ x, sSum (fun c => wW k n c * (q * G c)) x = q * sSum (fun c => wW k n c * G c) x := by
    intro x
    induction x with
    | zero => exact (Int.mul_zero q).symm
    | succ x ih =>
      rw [sSum, sSum, ih, Int.mul_add, Int.mul_left_comm]
  exact h 9
theorem sW_pow (k : Int) : ∀ n, n ≤ 8 → sW k n (fun _ => 1) = (k + 1) ^ n := by
  intro n
  induction n with
  | zero => intro _; rw [Int.pow_zero]; rfl
  | succ n ih =>
    intro h
    have e : (fun _ : Nat => k * 1) = fun c : Nat => k * (fun _ : Nat => (1 : Int)) c := rfl
    rw [sW_s k (by omega), e, sW_mul, ih (by omega), Int.pow_succ, Int.mul_add, Int.mul_one, Int.mul_comm]
theorem sSum_mono {f g : Nat → Int} : ∀ n, (∀ x, x < n → f x ≤ g x) → sSum f n ≤ sSum g n := by
  intro n
  induction n with
  | zero => intro _; exact Int.le_refl _
  | succ n ih =>
    intro h
    have h1 := ih (fun x hx => h x (by omega))
    have h2 := h n (by omega)
    rw [sSum, sSum]
    omega
theorem sW_nn {k : Int} (hk : 0 ≤ k) (n : Nat) {G : Nat → Int} (hG : ∀ c, c < 9 → 0 ≤ G c) : 0 ≤ sW k n G := by
  have h := sSum_mono (f := fun _ => 0) (g := fun c => wW k n c * G c) 9 (fun c hc => Int.mul_nonneg (wW_nn hk n c) (hG c hc))
  exact h
theorem sW_99 {k : Int} (hk : 0 ≤ k) (n : Nat) {G : Nat → Int} (hG : ∀ c, c < 9 → G c ≤ 99) : sW k n G ≤ 99 * sW k n (fun _ => 1) := by
  rw [← sW_mul]
  exact sSum_mono 9 (fun c hc => Int.mul_le_mul_of_nonneg_left (by have := hG c hc; show G c ≤ 99 * 1; omega) (wW_nn hk n c))
theorem pow_b {t : Int} (h1 : 1 ≤ t) (h2 : t ≤ 20) : ∀ n, n ≤ 8 → 1 ≤ t ^ n ∧ t ^ n ≤ 25600000000 := by
  have h : ∀ n : Nat, 1 ≤ t ^ n ∧ t ^ n ≤ ((20 ^ n : Nat) : Int) := by
    intro n
    induction n with
    | zero => rw [Int.pow_zero]; exact ⟨Int.le_refl _, Int.le_refl _⟩
    | succ n ih =>
      rw [Int.pow_succ]
      have a1 : 1 * 1 ≤ t ^ n * t := Int.mul_le_mul ih.1 h1 (by omega) (by omega)
      have a2 : t ^ n * t ≤ ((20 ^ n : Nat) : Int) * 20 := Int.mul_le_mul ih.2 h2 (by omega) (by omega)
      have a3 : ((20 ^ (n + 1) : Nat) : Int) = ((20 ^ n : Nat) : Int) * 20 := by rw [Nat.pow_succ]; rfl
      omega
  intro n hn
  have h3 : (20 : Nat) ^ n ≤ 20 ^ 8 := Nat.pow_le_pow_right (by omega) hn
  have h4 : (20 : Nat) ^ 8 = 25600000000 := rfl
  have h5 := h n
  refine ⟨h5.1, Int.le_trans h5.2 ?_⟩
  have : ((20 ^ n : Nat) : Int) ≤ ((20 ^ 8 : Nat) : Int) := Int.ofNat_le.mpr h3
  rw [h4] at this
  exact this
def popN (m : Nat) : Nat → Nat
  | 0 => 0
  | b + 1 => popN m b + m / 2 ^ b % 2
theorem popN_le (m : Nat) : ∀ x, popN m x ≤ x := by
  intro x
  induction x with
  | zero => exact Nat.le_refl _
  | succ x ih => rw [popN]; omega
theorem popN_hi {m n : Nat} (hm : m < 2 ^ n) : ∀ d, popN m (n + d) = popN m n := by
  intro d
  induction d with
  | zero => rfl
  | succ d ih =>
    show popN m (n + d) + m / 2 ^ (n + d) % 2 = _
    rw [ih, bit_hi hm (by omega)]
    rfl
theorem popN_low (m n : Nat) : ∀ x, x ≤ n → popN (2 ^ n + m) x = popN m x := by
  intro x
  induction x with
  | zero => intro _; rfl
  | succ x ih =>
    intro h
    have e := Nat.testBit_two_pow_add_gt (i := n) (j := x) (by omega) m
    rw [Nat.testBit_eq_decide_div_mod_eq, Nat.testBit_eq_decide_div_mod_eq, decide_eq_decide] at e
    rw [popN, popN, ih (by omega)]
    omega
theorem popN_top {m n : Nat} (hm : m < 2 ^ n) : popN (2 ^ n + m) (n + 1) = popN m n + 1 := by
  rw [popN, popN_low m n n (Nat.le_refl _), Nat.add_div_left _ (Nat.two_pow_pos n), Nat.div_eq_of_lt hm]
theorem sSum_split (f : Nat → Int) (A : Nat) : ∀ B, sSum f (A + B) = sSum f A + sSum (fun i => f (A + i)) B := by
  intro B
  induction B with
  | zero => exact (Int.add_zero _).symm
  | succ B ih =>
    show sSum f (A + B) + f (A + B) = sSum f A + (sSum (fun i => f (A + i)) B + f (A + B))
    rw [ih]
    omega
def mW (n : Nat) (H : Nat → Int) : Int := sSum (fun m => H (n - popN m n)) (2 ^ n)
theorem mW_sW (k : Int) : ∀ n, n ≤ 8 → ∀ G, mW n (fun c => k ^ c * G c) = sW k n G := by
  intro n
  induction n with
  | zero =>
    intro _ G
    show (0 : Int) + k ^ 0 * G 0 = ((((((((0 + 1 * G 0) + 0 * G 1) + 0 * G 2) + 0 * G 3) + 0 * G 4) + 0 * G 5) + 0 * G 6) + 0 * G 7) + 0 * G 8
    rw [Int.pow_zero]
    omega
  | succ n ih =>
    intro hn G
    have e0 : 2 ^ (n + 1) = 2 ^ n + 2 ^ n := by rw [Nat.pow_succ]; omega
    have e1 : sSum (fun m => k ^ (n + 1 - popN m (n + 1)) * G (n + 1 - popN m (n + 1))) (2 ^ n) = mW n (fun c => k ^ c * (k * G (c + 1))) := sSum_congr _ (fun m hm => by
      have a1 : popN m (n + 1) = popN m n := popN_hi hm 1
      have a2 := popN_le m n
      show k ^ (n + 1 - popN m (n + 1)) * G (n + 1 - popN m (n + 1)) = k ^ (n - popN m n) * (k * G (n - popN m n + 1))
      rw [a1, show n + 1 - popN m n = (n - popN m n) + 1 by omega, Int.pow_succ, Int.mul_assoc])
    have e2 : sSum (fun i => k ^ (n + 1 - popN (2 ^ n + i) (n + 1)) * G (n + 1 - popN (2 ^ n + i) (n + 1))) (2 ^ n) = mW n (fun c => k ^ c * G c) := sSum_congr _ (fun m hm => by
      show k ^ (n + 1 - popN (2 ^ n + m) (n + 1)) * G (n + 1 - popN (2 ^ n + m) (n + 1)) = k ^ (n - popN m n) * G (n - popN m n)
      rw [popN_top hm, show n + 1 - (popN m n + 1) = n - popN m n by omega])
    have e3 : mW (n + 1) (fun c => k ^ c * G c) = sSum (fun m => k ^ (n + 1 - popN m (n + 1)) * G (n + 1 - popN m (n + 1))) (2 ^ n) + sSum (fun i => k ^ (n + 1 - popN (2 ^ n + i) (n + 1)) * G (n + 1 - popN (2 ^ n + i) (n + 1))) (2 ^ n) := by
      unfold mW
      rw [e0]
      exact sSum_split _ _ _
    rw [e3, e1, e2, ih (by omega), ih (by omega), sW_s k (by omega)]
theorem popN_sum (m : Nat) : ∀ x, sSum (fun b => ((m / 2 ^ b % 2 : Nat) : Int)) x = (popN m x : Int) := by
  intro x
  induction x with
  | zero => rfl
  | succ x ih => rw [sSum, ih, popN]; rfl
