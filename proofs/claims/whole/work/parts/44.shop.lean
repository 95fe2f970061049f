-- ===== bits =====
theorem iI_nI (n : Nat) : iI (n : Int) = nI n := Int32.ofInt_eq_ofNat
theorem w_l : ∀ n, n < 32 → ((nI n &&& 31).toBitVec.smod 32).toNat = n := by decide +kernel
theorem iI_bit {A : Int} {j : Nat} (h0 : 0 ≤ A) (h1 : A < 2147483648) (hj : j < 31) : (iI A >>> (iI j &&& 31)) &&& iI 1 = iI ((A.toNat / 2 ^ j % 2 : Nat) : Int) := by
  obtain ⟨n, rfl⟩ : ∃ n : Nat, A = n := ⟨A.toNat, by omega⟩
  have e1 : (iI 1 : Int32) = 1 := rfl
  have hd : n / 2 ^ j ≤ n := Nat.div_le_self _ _
  rw [iI_nI, iI_nI, pk_shrN (by omega) _ j (w_l j (by omega)), e1, pk_andN (by omega) 1 (by decide), iI_nI]
  rfl
theorem iI_and7 {j : Nat} (hj : j < 8) : iI (j : Int) &&& iI 7 = iI (j : Int) := by
  have e1 : (iI 7 : Int32) = 7 := rfl
  rw [iI_nI, e1, pk_andN (by omega) 3 (by decide), Nat.mod_eq_of_lt (by omega)]
-- ===== sums, greatest, first =====
def sSum (f : Nat → Int) : Nat → Int
  | 0 => 0
  | n + 1 => sSum f n + f n
def sMx (f : Nat → Int) : Nat → Int
  | 0 => 0
  | n + 1 => if sMx f n < f n then f n else sMx f n
def sFst (p : Nat → Bool) : Nat → Nat → Int
  | 0, _ => -9
  | d + 1, x => if p x then (x : Int) else sFst p d (x + 1)
theorem sFst_b (p : Nat → Bool) : ∀ d x, sFst p d x = -9 ∨ ((x : Int) ≤ sFst p d x ∧ sFst p d x < (x : Int) + d) := by
  intro d
  induction d with
  | zero => intro x; exact Or.inl rfl
  | succ d ih =>
    intro x
    rw [sFst]
    split
    · right; omega
    · rcases ih (x + 1) with h | h
      · exact Or.inl h
      · right; omega
theorem sSum_b {f : Nat → Int} {B : Int} {n : Nat} (hB : 0 ≤ B) : ∀ x, (∀ y, y < x → 0 ≤ f y ∧ f y ≤ B) → 0 ≤ sSum f x ∧ sSum f x ≤ B * x := by
  intro x
  induction x with
  | zero => intro _; exact ⟨Int.le_refl _, by show (0 : Int) ≤ _; omega⟩
  | succ x ih =>
    intro h
    have h1 := ih (fun y hy => h y (by omega))
    have h2 := h x (by omega)
    have e : B * ((x + 1 : Nat) : Int) = B * x + B := by rw [Int.natCast_add, Int.mul_add]; simp
    rw [sSum, e]
    omega
theorem sMx_b {f : Nat → Int} {B : Int} (hB : 0 ≤ B) : ∀ x, (∀ y, y < x → f y ≤ B) → 0 ≤ sMx f x ∧ sMx f x ≤ B := by
  intro x
  induction x with
  | zero => intro _; exact ⟨Int.le_refl _, hB⟩
  | succ x ih =>
    intro h
    have h1 := ih (fun y hy => h y (by omega))
    have h2 := h x (by omega)
    rw [sMx]
    split <;> omega
-- ===== the shop's words =====
def sHow (a : Nat → Int) (j now : Nat) : Int := if a (20 + j) < 0 then sG a j now else sG a j (a (20 + j)).toNat
def sCost (a : Nat → Int) (j : Nat) : Int := if a (4 + j) = 4 then 1 + a (12 + j) else 1
def sGY (a : Nat → Int) (j now : Nat) : Nat := sB (sG a j) 0 0 now now
def sFew (a : Nat → Int) (j now : Nat) (y : Nat) : Int := sFst (fun u => decide (sY a j now (5 * (u : Int)) 0 = y)) 20 0
def sFw (a : Nat → Int) (j now : Nat) (y : Nat) : Int := if sFew a j now y < 0 then -9 else 5 * sFew a j now y
def sBy (a : Nat → Int) (j now : Nat) : Int := sMx (fun u => sG a j (sY a j now (5 * (u : Int)) 0)) 20
def sAll (a : Nat → Int) (N now : Nat) : Int := sSum (fun j => sHow a j now) N
def sCan (a : Nat → Int) (j now : Nat) : Nat → Int32
  | 0 => iI 0
  | u + 1 => sCan a j now u ||| (iI 1 <<< (iI (sY a j now (5 * (u : Int)) 0) &&& 31))
def sSet (a : Nat → Int) : Nat → Int32
  | 0 => iI 0
  | j + 1 => if a (20 + j) < 0 then sSet a j else sSet a j ||| (iI 1 <<< (iI (j : Int) &&& 31))
def hb (a : Nat → Int) (i j : Nat) : Nat := (a (124 + i)).toNat / 2 ^ j % 2
theorem sHow_b {a : Nat → Int} {j now : Nat} (hw : WT a j) (hn : now ≤ 11) : 0 ≤ sHow a j now ∧ sHow a j now ≤ 99 := by
  have h := hw.2.2.1
  rw [sHow]
  split
  · exact sG_b hw (by omega)
  · exact sG_b hw (by omega)
theorem sCost_b {a : Nat → Int} {j : Nat} (hw : WT a j) : 1 ≤ sCost a j ∧ sCost a j ≤ 10 := by
  have h := hw.2.1
  rw [sCost]
  split <;> omega
theorem sGY_le (a : Nat → Int) (j now : Nat) : sGY a j now ≤ now := sB_le _ _ _ _ _ (by omega) (by omega)
theorem sBy_b {a : Nat → Int} {j now : Nat} (hw : WT a j) (hn : now ≤ 11) : 0 ≤ sBy a j now ∧ sBy a j now ≤ 99 :=
  sMx_b (by omega) 20 (fun u _ => (sG_b hw (by have := sY_le a j now (5 * (u : Int)) 0; omega)).2)
theorem sFew_b (a : Nat → Int) (j now y : Nat) : sFew a j now y = -9 ∨ (0 ≤ sFew a j now y ∧ sFew a j now y < 20) := by
  rcases sFst_b (fun u => decide (sY a j now (5 * (u : Int)) 0 = y)) 20 0 with h | h
  · exact Or.inl h
  · right; unfold sFew; omega
theorem sFw_b (a : Nat → Int) (j now y : Nat) : sFw a j now y = -9 ∨ (0 ≤ sFw a j now y ∧ sFw a j now y ≤ 95) := by
  rcases sFew_b a j now y with h | h
  · left; rw [sFw, if_pos (by omega)]
  · right; rw [sFw, if_neg (by omega)]; omega
theorem sAll_b {a : Nat → Int} {N now : Nat} (hw : ∀ j, j < N → WT a j) (h8 : N ≤ 8) (hn : now ≤ 11) : 0 ≤ sAll a N now ∧ sAll a N now ≤ 792 := by
  have h := sSum_b (f := fun j => sHow a j now) (n := 0) (B := 99) (by omega) N (fun y hy => sHow_b (hw y hy) hn)
  unfold sAll
  omega
-- ===== the class' thing =====
section CT2
variable {S : St} {t : Nat} {a : Nat → Int} {j : Nat}
theorem cSet (h : RT S t a j) (hw : WT a j) : f_X6_isSet t S = some (iI (if a (20 + j) < 0 then 0 else 1)) := by
  have k := hw.2.2.1
  have e := h.2.2.1
  by_cases h9 : a (20 + j) = -9
  · simp (disch := omega) only [li_0, li_1, li_2, li_3, li_4, li_5, li_6, li_7, li_8, li_9, li_10, li_11, li_12, li_16, li_19, li_20, li_28, li_48, li_57, li_59, li_60, li_96, li_97, li_99, li_100, li_102, li_103, li_104, li_112, li_115, li_116, li_118, li_119, li_121, li_124, li_132, li_255, li_256, li_1000, li_2000, li_1000000000, iI_add, iI_sub, iI_mul, iI_neg, iI_lt, iI_le, iI_eq, iI_clamp, iI_s, iI_m1, iI_div, bs, tn, tn4, tn12, tn20, tn124, tn28, itT, itF, if_pos, if_neg, f_X6_isSet, e]
  · simp (disch := omega) only [li_0, li_1, li_2, li_3, li_4, li_5, li_6, li_7, li_8, li_9, li_10, li_11, li_12, li_16, li_19, li_20, li_28, li_48, li_57, li_59, li_60, li_96, li_97, li_99, li_100, li_102, li_103, li_104, li_112, li_115, li_116, li_118, li_119, li_121, li_124, li_132, li_255, li_256, li_1000, li_2000, li_1000000000, iI_add, iI_sub, iI_mul, iI_neg, iI_lt, iI_le, iI_eq, iI_clamp, iI_s, iI_m1, iI_div, bs, tn, tn4, tn12, tn20, tn124, tn28, itT, itF, if_pos, if_neg, f_X6_isSet, e]
theorem cHow (h : RT S t a j) (hw : WT a j) {now : Nat} (hn : now ≤ 11) : f_X6_howGlad t (iI now) S = some (iI (sHow a j now)) := by
  have k := hw.2.2.1
  have e := h.2.2.1
  have e1 := cSet h hw
  have e2 := cG h (y := now) (by omega)
  by_cases h9 : a (20 + j) < 0
  · simp (disch := omega) only [li_0, li_1, li_2, li_3, li_4, li_5, li_6, li_7, li_8, li_9, li_10, li_11, li_12, li_16, li_19, li_20, li_28, li_48, li_57, li_59, li_60, li_96, li_97, li_99, li_100, li_102, li_103, li_104, li_112, li_115, li_116, li_118, li_119, li_121, li_124, li_132, li_255, li_256, li_1000, li_2000, li_1000000000, iI_add, iI_sub, iI_mul, iI_neg, iI_lt, iI_le, iI_eq, iI_clamp, iI_s, iI_m1, iI_div, bs, tn, tn4, tn12, tn20, tn124, tn28, itT, itF, if_pos, if_neg, f_X6_howGlad, sHow, e1, e2]
  · obtain ⟨y, hy⟩ : ∃ y : Nat, a (20 + j) = y := ⟨(a (20 + j)).toNat, by omega⟩
    have e3 := cG h (y := y) (by omega)
    rw [hy] at e
    simp (disch := omega) only [li_0, li_1, li_2, li_3, li_4, li_5, li_6, li_7, li_8, li_9, li_10, li_11, li_12, li_16, li_19, li_20, li_28, li_48, li_57, li_59, li_60, li_96, li_97, li_99, li_100, li_102, li_103, li_104, li_112, li_115, li_116, li_118, li_119, li_121, li_124, li_132, li_255, li_256, li_1000, li_2000, li_1000000000, iI_add, iI_sub, iI_mul, iI_neg, iI_lt, iI_le, iI_eq, iI_clamp, iI_s, iI_m1, iI_div, bs, tn, tn4, tn12, tn20, tn124, tn28, itT, itF, if_pos, if_neg, f_X6_howGlad, sHow, e1, e, e3, hy]
theorem cCost (h : RT S t a j) (hw : WT a j) : f_X6_cost t S = some (iI (sCost a j)) := by
  have k := hw.1
  have e := h.1
  have e1 := h.2.1
  by_cases h9 : a (4 + j) = 4
  · simp (disch := omega) only [li_0, li_1, li_2, li_3, li_4, li_5, li_6, li_7, li_8, li_9, li_10, li_11, li_12, li_16, li_19, li_20, li_28, li_48, li_57, li_59, li_60, li_96, li_97, li_99, li_100, li_102, li_103, li_104, li_112, li_115, li_116, li_118, li_119, li_121, li_124, li_132, li_255, li_256, li_1000, li_2000, li_1000000000, iI_add, iI_sub, iI_mul, iI_neg, iI_lt, iI_le, iI_eq, iI_clamp, iI_s, iI_m1, iI_div, bs, tn, tn4, tn12, tn20, tn124, tn28, itT, itF, if_pos, if_neg, f_X6_cost, sCost, e, e1]
  · simp (disch := omega) only [li_0, li_1, li_2, li_3, li_4, li_5, li_6, li_7, li_8, li_9, li_10, li_11, li_12, li_16, li_19, li_20, li_28, li_48, li_57, li_59, li_60, li_96, li_97, li_99, li_100, li_102, li_103, li_104, li_112, li_115, li_116, li_118, li_119, li_121, li_124, li_132, li_255, li_256, li_1000, li_2000, li_1000000000, iI_add, iI_sub, iI_mul, iI_neg, iI_lt, iI_le, iI_eq, iI_clamp, iI_s, iI_m1, iI_div, bs, tn, tn4, tn12, tn20, tn124, tn28, itT, itF, if_pos, if_neg, f_X6_cost, sCost, e, e1]
theorem cGYL (h : RT S t a j) (hw : WT a j) {now : Nat} (hn : now ≤ 11) {k : Int32 → Option Int32} :
    ∀ m n b, m < n → m ≤ now → b ≤ now → f_X6_gladdestYear_L6 n t (iI b) (iI ((m : Int) - 1)) S k = k (iI (sB (sG a j) 0 0 m b)) := by
  intro m
  induction m with
  | zero =>
    intro n b hm h2 hb
    obtain ⟨n, rfl⟩ : ∃ p, n = p + 1 := ⟨n - 1, by omega⟩
    rw [f_X6_gladdestYear_L6, sB]
    simp (disch := omega) only [li_0, li_1, li_2, li_3, li_4, li_5, li_6, li_7, li_8, li_9, li_10, li_11, li_12, li_16, li_19, li_20, li_28, li_48, li_57, li_59, li_60, li_96, li_97, li_99, li_100, li_102, li_103, li_104, li_112, li_115, li_116, li_118, li_119, li_121, li_124, li_132, li_255, li_256, li_1000, li_2000, li_1000000000, iI_add, iI_sub, iI_mul, iI_neg, iI_lt, iI_le, iI_eq, iI_clamp, iI_s, iI_m1, iI_div, bs, tn, tn4, tn12, tn20, tn124, tn28, itT, itF, if_pos, if_neg]
  | succ m ih =>
    intro n b hm h2 hb
    obtain ⟨n, rfl⟩ : ∃ p, n = p + 1 := ⟨n - 1, by omega⟩
    have e : ((m + 1 : Nat) : Int) - 1 = (m : Int) := by omega
    have e1 := cG h (y := m) (by omega)
    have e2 := cG h (y := b) (by omega)
    have b1 := sG_b hw (y := m) (by omega)
    have b2 := sG_b hw (y := b) (by omega)
    have i1 := ih n m (by omega) (by omega) (by omega)
    have i2 := ih n b (by omega) (by omega) (by omega)
    rw [f_X6_gladdestYear_L6, sB, e]
    by_cases c1 : sG a j b < sG a j m
    · simp (disch := omega) only [li_0, li_1, li_2, li_3, li_4, li_5, li_6, li_7, li_8, li_9, li_10, li_11, li_12, li_16, li_19, li_20, li_28, li_48, li_57, li_59, li_60, li_96, li_97, li_99, li_100, li_102, li_103, li_104, li_112, li_115, li_116, li_118, li_119, li_121, li_124, li_132, li_255, li_256, li_1000, li_2000, li_1000000000, iI_add, iI_sub, iI_mul, iI_neg, iI_lt, iI_le, iI_eq, iI_clamp, iI_s, iI_m1, iI_div, bs, tn, tn4, tn12, tn20, tn124, tn28, itT, itF, if_pos, if_neg, e1, e2, i1]
    · simp (disch := omega) only [li_0, li_1, li_2, li_3, li_4, li_5, li_6, li_7, li_8, li_9, li_10, li_11, li_12, li_16, li_19, li_20, li_28, li_48, li_57, li_59, li_60, li_96, li_97, li_99, li_100, li_102, li_103, li_104, li_112, li_115, li_116, li_118, li_119, li_121, li_124, li_132, li_255, li_256, li_1000, li_2000, li_1000000000, iI_add, iI_sub, iI_mul, iI_neg, iI_lt, iI_le, iI_eq, iI_clamp, iI_s, iI_m1, iI_div, bs, tn, tn4, tn12, tn20, tn124, tn28, itT, itF, if_pos, if_neg, e1, e2, i2]
theorem cGY (h : RT S t a j) (hw : WT a j) {now : Nat} (hn : now ≤ 11) : f_X6_gladdestYear t (iI now) S = some (iI (sGY a j now)) := by
  have i := cGYL h hw hn (k := fun y => some y) now 2000 now (by omega) (by omega) (by omega)
  simp (disch := omega) only [li_0, li_1, li_2, li_3, li_4, li_5, li_6, li_7, li_8, li_9, li_10, li_11, li_12, li_16, li_19, li_20, li_28, li_48, li_57, li_59, li_60, li_96, li_97, li_99, li_100, li_102, li_103, li_104, li_112, li_115, li_116, li_118, li_119, li_121, li_124, li_132, li_255, li_256, li_1000, li_2000, li_1000000000, iI_add, iI_sub, iI_mul, iI_neg, iI_lt, iI_le, iI_eq, iI_clamp, iI_s, iI_m1, iI_div, bs, tn, tn4, tn12, tn20, tn124, tn28, itT, itF, if_pos, if_neg, f_X6_gladdestYear, sGY, i]
theorem cFewL (h : RT S t a j) (hw : WT a j) {now : Nat} (hn : now ≤ 11) {y : Nat} (hy : y ≤ 11) {k : Int32 → Option Int32} {k9 : Unit → Option Int32} :
    ∀ d n u : Nat, u + d = 20 → d < n → f_X6_fewestFor_L2 n t (iI y) (iI now) (iI u) S k k9 = if sFst (fun u => decide (sY a j now (5 * (u : Int)) 0 = y)) d u < 0 then k9 () else k (iI (sFst (fun u => decide (sY a j now (5 * (u : Int)) 0 = y)) d u)) := by
  intro d
  induction d with
  | zero =>
    intro n u hu hd
    obtain ⟨n, rfl⟩ : ∃ p, n = p + 1 := ⟨n - 1, by omega⟩
    rw [f_X6_fewestFor_L2, sFst]
    simp (disch := omega) only [li_0, li_1, li_2, li_3, li_4, li_5, li_6, li_7, li_8, li_9, li_10, li_11, li_12, li_16, li_19, li_20, li_28, li_48, li_57, li_59, li_60, li_96, li_97, li_99, li_100, li_102, li_103, li_104, li_112, li_115, li_116, li_118, li_119, li_121, li_124, li_132, li_255, li_256, li_1000, li_2000, li_1000000000, iI_add, iI_sub, iI_mul, iI_neg, iI_lt, iI_le, iI_eq, iI_clamp, iI_s, iI_m1, iI_div, bs, tn, tn4, tn12, tn20, tn124, tn28, itT, itF, if_pos, if_neg]
  | succ d ih =>
    intro n u hu hd
    obtain ⟨n, rfl⟩ : ∃ p, n = p + 1 := ⟨n - 1, by omega⟩
    have e1 := cY h hw hn (m := 5 * (u : Int)) (f := 0) (by omega) (by omega)
    have ec : 5 * (u : Int) = (u : Int) * 5 := Int.mul_comm _ _
    have i1 := ih n (u + 1) (by omega) (by omega)
    have yb := sY_le a j now (5 * (u : Int)) 0
    rw [f_X6_fewestFor_L2, sFst]
    rw [ec] at e1 yb ⊢
    by_cases c1 : sY a j now ((u : Int) * 5) 0 = y
    · simp (disch := omega) only [li_0, li_1, li_2, li_3, li_4, li_5, li_6, li_7, li_8, li_9, li_10, li_11, li_12, li_16, li_19, li_20, li_28, li_48, li_57, li_59, li_60, li_96, li_97, li_99, li_100, li_102, li_103, li_104, li_112, li_115, li_116, li_118, li_119, li_121, li_124, li_132, li_255, li_256, li_1000, li_2000, li_1000000000, iI_add, iI_sub, iI_mul, iI_neg, iI_lt, iI_le, iI_eq, iI_clamp, iI_s, iI_m1, iI_div, bs, tn, tn4, tn12, tn20, tn124, tn28, itT, itF, if_pos, if_neg, e1, decide_eq_true_eq]
    · simp (disch := omega) only [li_0, li_1, li_2, li_3, li_4, li_5, li_6, li_7, li_8, li_9, li_10, li_11, li_12, li_16, li_19, li_20, li_28, li_48, li_57, li_59, li_60, li_96, li_97, li_99, li_100, li_102, li_103, li_104, li_112, li_115, li_116, li_118, li_119, li_121, li_124, li_132, li_255, li_256, li_1000, li_2000, li_1000000000, iI_add, iI_sub, iI_mul, iI_neg, iI_lt, iI_le, iI_eq, iI_clamp, iI_s, iI_m1, iI_div, bs, tn, tn4, tn12, tn20, tn124, tn28, itT, itF, if_pos, if_neg, e1, i1, decide_eq_true_eq]
theorem cFew (h : RT S t a j) (hw : WT a j) {now : Nat} (hn : now ≤ 11) {y : Nat} (hy : y ≤ 11) : f_X6_fewestFor t (iI y) (iI now) S = some (iI (sFw a j now y)) := by
  have i := cFewL h hw hn hy (k := fun y4 => some (y4 * 5)) (k9 := fun _ : Unit => some (-9)) 20 2000 0 (by omega) (by omega)
  have e : sFst (fun u => decide (sY a j now (5 * (u : Int)) 0 = y)) 20 0 = sFew a j now y := rfl
  rw [e] at i
  rw [f_X6_fewestFor, show (0 : Int32) = iI ((0 : Nat) : Int) from rfl, i, sFw]
  by_cases c : sFew a j now y < 0
  · simp (disch := omega) only [li_0, li_1, li_2, li_3, li_4, li_5, li_6, li_7, li_8, li_9, li_10, li_11, li_12, li_16, li_19, li_20, li_28, li_48, li_57, li_59, li_60, li_96, li_97, li_99, li_100, li_102, li_103, li_104, li_112, li_115, li_116, li_118, li_119, li_121, li_124, li_132, li_255, li_256, li_1000, li_2000, li_1000000000, iI_add, iI_sub, iI_mul, iI_neg, iI_lt, iI_le, iI_eq, iI_clamp, iI_s, iI_m1, iI_div, bs, tn, tn4, tn12, tn20, tn124, tn28, itT, itF, if_pos, if_neg]
  · simp (disch := omega) only [li_0, li_1, li_2, li_3, li_4, li_5, li_6, li_7, li_8, li_9, li_10, li_11, li_12, li_16, li_19, li_20, li_28, li_48, li_57, li_59, li_60, li_96, li_97, li_99, li_100, li_102, li_103, li_104, li_112, li_115, li_116, li_118, li_119, li_121, li_124, li_132, li_255, li_256, li_1000, li_2000, li_1000000000, iI_add, iI_sub, iI_mul, iI_neg, iI_lt, iI_le, iI_eq, iI_clamp, iI_s, iI_m1, iI_div, bs, tn, tn4, tn12, tn20, tn124, tn28, itT, itF, if_pos, if_neg, Int.mul_comm]
theorem cByL (h : RT S t a j) (hw : WT a j) {now : Nat} (hn : now ≤ 11) {k : Int32 → Option Int32} :
    ∀ d n u : Nat, u + d = 20 → d < n → f_X6_gladdestBy_L4 n t (iI now) (iI (sMx (fun u => sG a j (sY a j now (5 * (u : Int)) 0)) u)) (iI u) S k = k (iI (sBy a j now)) := by
  intro d
  induction d with
  | zero =>
    intro n u hu hd
    obtain ⟨n, rfl⟩ : ∃ p, n = p + 1 := ⟨n - 1, by omega⟩
    obtain rfl : u = 20 := by omega
    rw [f_X6_gladdestBy_L4, sBy]
    simp (disch := omega) only [li_0, li_1, li_2, li_3, li_4, li_5, li_6, li_7, li_8, li_9, li_10, li_11, li_12, li_16, li_19, li_20, li_28, li_48, li_57, li_59, li_60, li_96, li_97, li_99, li_100, li_102, li_103, li_104, li_112, li_115, li_116, li_118, li_119, li_121, li_124, li_132, li_255, li_256, li_1000, li_2000, li_1000000000, iI_add, iI_sub, iI_mul, iI_neg, iI_lt, iI_le, iI_eq, iI_clamp, iI_s, iI_m1, iI_div, bs, tn, tn4, tn12, tn20, tn124, tn28, itT, itF, if_pos, if_neg]
  | succ d ih =>
    intro n u hu hd
    obtain ⟨n, rfl⟩ : ∃ p, n = p + 1 := ⟨n - 1, by omega⟩
    have e1 := cY h hw hn (m := 5 * (u : Int)) (f := 0) (by omega) (by omega)
    have ec : (u : Int) * 5 = 5 * (u : Int) := Int.mul_comm _ _
    have i1 := ih n (u + 1) (by omega) (by omega)
    have yb := sY_le a j now (5 * (u : Int)) 0
    have e2 := cG h (y := sY a j now (5 * (u : Int)) 0) (by omega)
    have b2 := sG_b hw (y := sY a j now (5 * (u : Int)) 0) (by omega)
    have b3 := sMx_b (f := fun u => sG a j (sY a j now (5 * (u : Int)) 0)) (B := 99) (by omega) u (fun u _ => (sG_b hw (by have := sY_le a j now (5 * (u : Int)) 0; omega)).2)
    rw [sMx] at i1
    rw [f_X6_gladdestBy_L4]
    by_cases c1 : sMx (fun u => sG a j (sY a j now (5 * (u : Int)) 0)) u < sG a j (sY a j now (5 * (u : Int)) 0)
    · rw [if_pos c1] at i1
      simp (disch := omega) only [li_0, li_1, li_2, li_3, li_4, li_5, li_6, li_7, li_8, li_9, li_10, li_11, li_12, li_16, li_19, li_20, li_28, li_48, li_57, li_59, li_60, li_96, li_97, li_99, li_100, li_102, li_103, li_104, li_112, li_115, li_116, li_118, li_119, li_121, li_124, li_132, li_255, li_256, li_1000, li_2000, li_1000000000, iI_add, iI_sub, iI_mul, iI_neg, iI_lt, iI_le, iI_eq, iI_clamp, iI_s, iI_m1, iI_div, bs, tn, tn4, tn12, tn20, tn124, tn28, itT, itF, if_pos, if_neg, ec, e1, e2, i1]
    · rw [if_neg c1] at i1
      simp (disch := omega) only [li_0, li_1, li_2, li_3, li_4, li_5, li_6, li_7, li_8, li_9, li_10, li_11, li_12, li_16, li_19, li_20, li_28, li_48, li_57, li_59, li_60, li_96, li_97, li_99, li_100, li_102, li_103, li_104, li_112, li_115, li_116, li_118, li_119, li_121, li_124, li_132, li_255, li_256, li_1000, li_2000, li_1000000000, iI_add, iI_sub, iI_mul, iI_neg, iI_lt, iI_le, iI_eq, iI_clamp, iI_s, iI_m1, iI_div, bs, tn, tn4, tn12, tn20, tn124, tn28, itT, itF, if_pos, if_neg, ec, e1, e2, i1]
theorem cBy (h : RT S t a j) (hw : WT a j) {now : Nat} (hn : now ≤ 11) : f_X6_gladdestBy t (iI now) S = some (iI (sBy a j now)) := by
  have i := cByL h hw hn (k := fun y => some y) 20 2000 0 (by omega) (by omega)
  rw [f_X6_gladdestBy]
  exact i
end CT2
-- ===== the class' shop =====
section CS1
variable {S : St} {q : Nat} {a : Nat → Int} {N : Nat}
theorem cAt {j : Nat} (hj : j < 8) : f_X3_at q (iI j) S = some (q + 1 + 2 + 2 * j) := by
  have e := iI_and7 hj
  simp (disch := omega) only [li_0, li_1, li_2, li_3, li_4, li_5, li_6, li_7, li_8, li_9, li_10, li_11, li_12, li_16, li_19, li_20, li_28, li_48, li_57, li_59, li_60, li_96, li_97, li_99, li_100, li_102, li_103, li_104, li_112, li_115, li_116, li_118, li_119, li_121, li_124, li_132, li_255, li_256, li_1000, li_2000, li_1000000000, iI_add, iI_sub, iI_mul, iI_neg, iI_lt, iI_le, iI_eq, iI_clamp, iI_s, iI_m1, iI_div, bs, tn, tn4, tn12, tn20, tn124, tn28, itT, itF, if_pos, if_neg, f_X3_at, e]
theorem cLacks (hc : RC S q a) (hw : WFa a) {z : Int} (h1 : -2147483648 ≤ z) (h2 : z < 2147483648) : f_X3_lacks q (iI z) S = some (iI (if 0 ≤ z ∧ z < a 0 then 0 else 1)) := by
  have h8 := hw.1
  have e0 := hc.1 0 (by omega)
  by_cases c1 : z < 0
  · simp (disch := omega) only [li_0, li_1, li_2, li_3, li_4, li_5, li_6, li_7, li_8, li_9, li_10, li_11, li_12, li_16, li_19, li_20, li_28, li_48, li_57, li_59, li_60, li_96, li_97, li_99, li_100, li_102, li_103, li_104, li_112, li_115, li_116, li_118, li_119, li_121, li_124, li_132, li_255, li_256, li_1000, li_2000, li_1000000000, iI_add, iI_sub, iI_mul, iI_neg, iI_lt, iI_le, iI_eq, iI_clamp, iI_s, iI_m1, iI_div, bs, tn, tn4, tn12, tn20, tn124, tn28, itT, itF, if_pos, if_neg, f_X3_lacks]
  · by_cases c2 : a 0 ≤ z
    · simp (disch := omega) only [li_0, li_1, li_2, li_3, li_4, li_5, li_6, li_7, li_8, li_9, li_10, li_11, li_12, li_16, li_19, li_20, li_28, li_48, li_57, li_59, li_60, li_96, li_97, li_99, li_100, li_102, li_103, li_104, li_112, li_115, li_116, li_118, li_119, li_121, li_124, li_132, li_255, li_256, li_1000, li_2000, li_1000000000, iI_add, iI_sub, iI_mul, iI_neg, iI_lt, iI_le, iI_eq, iI_clamp, iI_s, iI_m1, iI_div, bs, tn, tn4, tn12, tn20, tn124, tn28, itT, itF, if_pos, if_neg, f_X3_lacks, e0]
    · simp (disch := omega) only [li_0, li_1, li_2, li_3, li_4, li_5, li_6, li_7, li_8, li_9, li_10, li_11, li_12, li_16, li_19, li_20, li_28, li_48, li_57, li_59, li_60, li_96, li_97, li_99, li_100, li_102, li_103, li_104, li_112, li_115, li_116, li_118, li_119, li_121, li_124, li_132, li_255, li_256, li_1000, li_2000, li_1000000000, iI_add, iI_sub, iI_mul, iI_neg, iI_lt, iI_le, iI_eq, iI_clamp, iI_s, iI_m1, iI_div, bs, tn, tn4, tn12, tn20, tn124, tn28, itT, itF, if_pos, if_neg, f_X3_lacks, e0]
theorem cLacksTwo (hc : RC S q a) (hw : WFa a) {z y : Int} (h1 : -2147483648 ≤ z) (h2 : z < 2147483648) (h3 : -2147483648 ≤ y) (h4 : y < 2147483648) : f_X3_lacksTwo q (iI z) (iI y) S = some (iI (if (0 ≤ z ∧ z < a 0) ∧ (0 ≤ y ∧ y < a 0) ∧ z ≠ y then 0 else 1)) := by
  have e1 := cLacks hc hw h1 h2
  have e2 := cLacks hc hw h3 h4
  have h8 := hw.1
  by_cases c1 : 0 ≤ z ∧ z < a 0
  · by_cases c2 : 0 ≤ y ∧ y < a 0
    · by_cases c3 : z = y
      · subst c3
        simp (disch := omega) only [li_0, li_1, li_2, li_3, li_4, li_5, li_6, li_7, li_8, li_9, li_10, li_11, li_12, li_16, li_19, li_20, li_28, li_48, li_57, li_59, li_60, li_96, li_97, li_99, li_100, li_102, li_103, li_104, li_112, li_115, li_116, li_118, li_119, li_121, li_124, li_132, li_255, li_256, li_1000, li_2000, li_1000000000, iI_add, iI_sub, iI_mul, iI_neg, iI_lt, iI_le, iI_eq, iI_clamp, iI_s, iI_m1, iI_div, bs, tn, tn4, tn12, tn20, tn124, tn28, itT, itF, if_pos, if_neg, f_X3_lacksTwo, e1, e2]
      · simp (disch := omega) only [li_0, li_1, li_2, li_3, li_4, li_5, li_6, li_7, li_8, li_9, li_10, li_11, li_12, li_16, li_19, li_20, li_28, li_48, li_57, li_59, li_60, li_96, li_97, li_99, li_100, li_102, li_103, li_104, li_112, li_115, li_116, li_118, li_119, li_121, li_124, li_132, li_255, li_256, li_1000, li_2000, li_1000000000, iI_add, iI_sub, iI_mul, iI_neg, iI_lt, iI_le, iI_eq, iI_clamp, iI_s, iI_m1, iI_div, bs, tn, tn4, tn12, tn20, tn124, tn28, itT, itF, if_pos, if_neg, f_X3_lacksTwo, e1, e2]
    · simp (disch := omega) only [li_0, li_1, li_2, li_3, li_4, li_5, li_6, li_7, li_8, li_9, li_10, li_11, li_12, li_16, li_19, li_20, li_28, li_48, li_57, li_59, li_60, li_96, li_97, li_99, li_100, li_102, li_103, li_104, li_112, li_115, li_116, li_118, li_119, li_121, li_124, li_132, li_255, li_256, li_1000, li_2000, li_1000000000, iI_add, iI_sub, iI_mul, iI_neg, iI_lt, iI_le, iI_eq, iI_clamp, iI_s, iI_m1, iI_div, bs, tn, tn4, tn12, tn20, tn124, tn28, itT, itF, if_pos, if_neg, f_X3_lacksTwo, e1, e2]
  · simp (disch := omega) only [li_0, li_1, li_2, li_3, li_4, li_5, li_6, li_7, li_8, li_9, li_10, li_11, li_12, li_16, li_19, li_20, li_28, li_48, li_57, li_59, li_60, li_96, li_97, li_99, li_100, li_102, li_103, li_104, li_112, li_115, li_116, li_118, li_119, li_121, li_124, li_132, li_255, li_256, li_1000, li_2000, li_1000000000, iI_add, iI_sub, iI_mul, iI_neg, iI_lt, iI_le, iI_eq, iI_clamp, iI_s, iI_m1, iI_div, bs, tn, tn4, tn12, tn20, tn124, tn28, itT, itF, if_pos, if_neg, f_X3_lacksTwo, e1, e2]
theorem hb_le (a : Nat → Int) (i j : Nat) : hb a i j = 0 ∨ hb a i j = 1 := by
  unfold hb
  omega
theorem cHalves (hc : RC S q a) (hw : WFa a) (hN : a 0 = N) {i j : Nat} (hi : i < N) (hj : j < N) (hij : i ≠ j) : f_X3_areHalves q (iI i) (iI j) S = some (iI (hb a i j)) := by
  have h8 := hw.1
  have e1 := cLacksTwo hc hw (z := i) (y := j) (by omega) (by omega) (by omega) (by omega)
  have e2 := hc.2.1 i (by omega)
  have b := (hw.2.2.2.2.1 i (by omega)).2.2.2.2
  have e3 := iI_bit (A := a (124 + i)) (j := j) b.1 (by omega) (by omega)
  have e4 : (((a (124 + i)).toNat / 2 ^ j % 2 : Nat) : Int) = (hb a i j : Int) := rfl
  rcases hb_le a i j with c | c
  · simp (disch := omega) only [li_0, li_1, li_2, li_3, li_4, li_5, li_6, li_7, li_8, li_9, li_10, li_11, li_12, li_16, li_19, li_20, li_28, li_48, li_57, li_59, li_60, li_96, li_97, li_99, li_100, li_102, li_103, li_104, li_112, li_115, li_116, li_118, li_119, li_121, li_124, li_132, li_255, li_256, li_1000, li_2000, li_1000000000, iI_add, iI_sub, iI_mul, iI_neg, iI_lt, iI_le, iI_eq, iI_clamp, iI_s, iI_m1, iI_div, bs, tn, tn4, tn12, tn20, tn124, tn28, itT, itF, if_pos, if_neg, f_X3_areHalves, e1, e2, e3, e4, c]
    rfl
  · simp (disch := omega) only [li_0, li_1, li_2, li_3, li_4, li_5, li_6, li_7, li_8, li_9, li_10, li_11, li_12, li_16, li_19, li_20, li_28, li_48, li_57, li_59, li_60, li_96, li_97, li_99, li_100, li_102, li_103, li_104, li_112, li_115, li_116, li_118, li_119, li_121, li_124, li_132, li_255, li_256, li_1000, li_2000, li_1000000000, iI_add, iI_sub, iI_mul, iI_neg, iI_lt, iI_le, iI_eq, iI_clamp, iI_s, iI_m1, iI_div, bs, tn, tn4, tn12, tn20, tn124, tn28, itT, itF, if_pos, if_neg, f_X3_areHalves, e1, e2, e3, e4, c]
    rfl
theorem cAllL (hc : RC S q a) (hw : WFa a) (hN : a 0 = N) {now : Nat} (hn : now ≤ 11) {k : Int32 → Option Int32} :
    ∀ d n x : Nat, x + d = N → d < n → f_X3_gladTogether_L4 n q (iI now) (iI (sAll a x now)) (iI x) S k = k (iI (sAll a N now)) := by
  have h8 := hw.1
  have e0 : S.1 q 0 = iI (a 0) := hc.1 0 (by omega)
  intro d
  induction d with
  | zero =>
    intro n x hx hd
    obtain ⟨n, rfl⟩ : ∃ p, n = p + 1 := ⟨n - 1, by omega⟩
    obtain rfl : x = N := by omega
    rw [f_X3_gladTogether_L4]
    simp (disch := omega) only [li_0, li_1, li_2, li_3, li_4, li_5, li_6, li_7, li_8, li_9, li_10, li_11, li_12, li_16, li_19, li_20, li_28, li_48, li_57, li_59, li_60, li_96, li_97, li_99, li_100, li_102, li_103, li_104, li_112, li_115, li_116, li_118, li_119, li_121, li_124, li_132, li_255, li_256, li_1000, li_2000, li_1000000000, iI_add, iI_sub, iI_mul, iI_neg, iI_lt, iI_le, iI_eq, iI_clamp, iI_s, iI_m1, iI_div, bs, tn, tn4, tn12, tn20, tn124, tn28, itT, itF, if_pos, if_neg, e0, hN]
  | succ d ih =>
    intro n x hx hd
    obtain ⟨n, rfl⟩ : ∃ p, n = p + 1 := ⟨n - 1, by omega⟩
    have i1 := ih n (x + 1) (by omega) (by omega)
    have e1 := cAt (S := S) (q := q) (j := x) (by omega)
    have e2 := cHow (hc.t (j := x) (by omega) (by omega)) (hw.t (by omega)) hn
    have e3 : sAll a (x + 1) now = sAll a x now + sHow a x now := rfl
    rw [e3] at i1
    rw [f_X3_gladTogether_L4]
    simp (disch := omega) only [li_0, li_1, li_2, li_3, li_4, li_5, li_6, li_7, li_8, li_9, li_10, li_11, li_12, li_16, li_19, li_20, li_28, li_48, li_57, li_59, li_60, li_96, li_97, li_99, li_100, li_102, li_103, li_104, li_112, li_115, li_116, li_118, li_119, li_121, li_124, li_132, li_255, li_256, li_1000, li_2000, li_1000000000, iI_add, iI_sub, iI_mul, iI_neg, iI_lt, iI_le, iI_eq, iI_clamp, iI_s, iI_m1, iI_div, bs, tn, tn4, tn12, tn20, tn124, tn28, itT, itF, if_pos, if_neg, e0, hN, e1, e2, i1]
theorem cAll (hc : RC S q a) (hw : WFa a) (hN : a 0 = N) {now : Nat} (hn : now ≤ 11) : f_X3_gladTogether q (iI now) S = some (iI (sAll a N now)) := by
  have h8 := hw.1
  have i := cAllL hc hw hN hn (k := fun y => some y) N 2000 0 (by omega) (by omega)
  rw [f_X3_gladTogether]
  exact i
theorem cSetL (hc : RC S q a) (hw : WFa a) (hN : a 0 = N) {k : Int32 → Option Int32} :
    ∀ d n x : Nat, x + d = N → d < n → f_X3_setBits_L4 n q (sSet a x) (iI x) S k = k (sSet a N) := by
  have h8 := hw.1
  have e0 : S.1 q 0 = iI (a 0) := hc.1 0 (by omega)
  intro d
  induction d with
  | zero =>
    intro n x hx hd
    obtain ⟨n, rfl⟩ : ∃ p, n = p + 1 := ⟨n - 1, by omega⟩
    obtain rfl : x = N := by omega
    rw [f_X3_setBits_L4]
    simp (disch := omega) only [li_0, li_1, li_2, li_3, li_4, li_5, li_6, li_7, li_8, li_9, li_10, li_11, li_12, li_16, li_19, li_20, li_28, li_48, li_57, li_59, li_60, li_96, li_97, li_99, li_100, li_102, li_103, li_104, li_112, li_115, li_116, li_118, li_119, li_121, li_124, li_132, li_255, li_256, li_1000, li_2000, li_1000000000, iI_add, iI_sub, iI_mul, iI_neg, iI_lt, iI_le, iI_eq, iI_clamp, iI_s, iI_m1, iI_div, bs, tn, tn4, tn12, tn20, tn124, tn28, itT, itF, if_pos, if_neg, e0, hN]
  | succ d ih =>
    intro n x hx hd
    obtain ⟨n, rfl⟩ : ∃ p, n = p + 1 := ⟨n - 1, by omega⟩
    have i1 := ih n (x + 1) (by omega) (by omega)
    have e1 := cAt (S := S) (q := q) (j := x) (by omega)
    have e2 := cSet (hc.t (j := x) (by omega) (by omega)) (hw.t (by omega))
    rw [sSet] at i1
    rw [f_X3_setBits_L4]
    by_cases c : a (20 + x) < 0
    · rw [if_pos c] at i1
      simp (disch := omega) only [li_0, li_1, li_2, li_3, li_4, li_5, li_6, li_7, li_8, li_9, li_10, li_11, li_12, li_16, li_19, li_20, li_28, li_48, li_57, li_59, li_60, li_96, li_97, li_99, li_100, li_102, li_103, li_104, li_112, li_115, li_116, li_118, li_119, li_121, li_124, li_132, li_255, li_256, li_1000, li_2000, li_1000000000, iI_add, iI_sub, iI_mul, iI_neg, iI_lt, iI_le, iI_eq, iI_clamp, iI_s, iI_m1, iI_div, bs, tn, tn4, tn12, tn20, tn124, tn28, itT, itF, if_pos, if_neg, e0, hN, e1, e2, i1]
    · rw [if_neg c] at i1
      simp (disch := omega) only [li_0, li_1, li_2, li_3, li_4, li_5, li_6, li_7, li_8, li_9, li_10, li_11, li_12, li_16, li_19, li_20, li_28, li_48, li_57, li_59, li_60, li_96, li_97, li_99, li_100, li_102, li_103, li_104, li_112, li_115, li_116, li_118, li_119, li_121, li_124, li_132, li_255, li_256, li_1000, li_2000, li_1000000000, iI_add, iI_sub, iI_mul, iI_neg, iI_lt, iI_le, iI_eq, iI_clamp, iI_s, iI_m1, iI_div, bs, tn, tn4, tn12, tn20, tn124, tn28, itT, itF, if_pos, if_neg, e0, hN, e1, e2, i1]
theorem cSetBits (hc : RC S q a) (hw : WFa a) (hN : a 0 = N) : f_X3_setBits q S = some (sSet a N) := by
  have h8 := hw.1
  have i := cSetL hc hw hN (k := fun y => some y) N 2000 0 (by omega) (by omega)
  rw [f_X3_setBits]
  exact i
end CS1
-- ===== the reference's shop =====
section RS1
variable {S : St} {r : Nat} {a : Nat → Int} {j N : Nat}
theorem rIn {x l u : Int} (h1 : -2147483648 ≤ x) (h2 : x < 2147483648) (h3 : -2147483648 ≤ l) (h4 : l < 2147483648) (h5 : -2147483648 ≤ u) (h6 : u < 2147483648) : f_X8_isIn (iI x) (iI l) (iI u) = some (iI (if l ≤ x ∧ x ≤ u then 1 else 0)) := by
  by_cases c1 : x < l
  · simp (disch := omega) only [li_0, li_1, li_2, li_3, li_4, li_5, li_6, li_7, li_8, li_9, li_10, li_11, li_12, li_16, li_19, li_20, li_28, li_48, li_57, li_59, li_60, li_96, li_97, li_99, li_100, li_102, li_103, li_104, li_112, li_115, li_116, li_118, li_119, li_121, li_124, li_132, li_255, li_256, li_1000, li_2000, li_1000000000, iI_add, iI_sub, iI_mul, iI_neg, iI_lt, iI_le, iI_eq, iI_clamp, iI_s, iI_m1, iI_div, bs, tn, tn4, tn12, tn20, tn124, tn28, itT, itF, if_pos, if_neg, f_X8_isIn]
  · by_cases c2 : u < x
    · simp (disch := omega) only [li_0, li_1, li_2, li_3, li_4, li_5, li_6, li_7, li_8, li_9, li_10, li_11, li_12, li_16, li_19, li_20, li_28, li_48, li_57, li_59, li_60, li_96, li_97, li_99, li_100, li_102, li_103, li_104, li_112, li_115, li_116, li_118, li_119, li_121, li_124, li_132, li_255, li_256, li_1000, li_2000, li_1000000000, iI_add, iI_sub, iI_mul, iI_neg, iI_lt, iI_le, iI_eq, iI_clamp, iI_s, iI_m1, iI_div, bs, tn, tn4, tn12, tn20, tn124, tn28, itT, itF, if_pos, if_neg, f_X8_isIn]
    · simp (disch := omega) only [li_0, li_1, li_2, li_3, li_4, li_5, li_6, li_7, li_8, li_9, li_10, li_11, li_12, li_16, li_19, li_20, li_28, li_48, li_57, li_59, li_60, li_96, li_97, li_99, li_100, li_102, li_103, li_104, li_112, li_115, li_116, li_118, li_119, li_121, li_124, li_132, li_255, li_256, li_1000, li_2000, li_1000000000, iI_add, iI_sub, iI_mul, iI_neg, iI_lt, iI_le, iI_eq, iI_clamp, iI_s, iI_m1, iI_div, bs, tn, tn4, tn12, tn20, tn124, tn28, itT, itF, if_pos, if_neg, f_X8_isIn]
theorem rCost (hm : ∀ k, k < 132 → S.1 r k = iI (a k)) (hj : j < 8) (hw : WT a j) : f_X8_cost r (iI j) S = some (iI (sCost a j)) := by
  have k := hw.1
  by_cases h9 : a (4 + j) = 4
  · simp (disch := omega) only [li_0, li_1, li_2, li_3, li_4, li_5, li_6, li_7, li_8, li_9, li_10, li_11, li_12, li_16, li_19, li_20, li_28, li_48, li_57, li_59, li_60, li_96, li_97, li_99, li_100, li_102, li_103, li_104, li_112, li_115, li_116, li_118, li_119, li_121, li_124, li_132, li_255, li_256, li_1000, li_2000, li_1000000000, iI_add, iI_sub, iI_mul, iI_neg, iI_lt, iI_le, iI_eq, iI_clamp, iI_s, iI_m1, iI_div, bs, tn, tn4, tn12, tn20, tn124, tn28, itT, itF, if_pos, if_neg, f_X8_cost, sCost, hm]
  · simp (disch := omega) only [li_0, li_1, li_2, li_3, li_4, li_5, li_6, li_7, li_8, li_9, li_10, li_11, li_12, li_16, li_19, li_20, li_28, li_48, li_57, li_59, li_60, li_96, li_97, li_99, li_100, li_102, li_103, li_104, li_112, li_115, li_116, li_118, li_119, li_121, li_124, li_132, li_255, li_256, li_1000, li_2000, li_1000000000, iI_add, iI_sub, iI_mul, iI_neg, iI_lt, iI_le, iI_eq, iI_clamp, iI_s, iI_m1, iI_div, bs, tn, tn4, tn12, tn20, tn124, tn28, itT, itF, if_pos, if_neg, f_X8_cost, sCost, hm]
theorem rHow (hm : ∀ k, k < 132 → S.1 r k = iI (a k)) (hj : j < 8) (hw : WT a j) {now : Nat} (hn : now ≤ 11) (hn1 : a 1 = now) : f_X8_gladOf r (iI j) S = some (iI (sHow a j now)) := by
  have k := hw.2.2.1
  have hm1 : S.1 r 1 = iI now := by rw [hm 1 (by omega), hn1]
  by_cases h9 : a (20 + j) < 0
  · simp (disch := omega) only [li_0, li_1, li_2, li_3, li_4, li_5, li_6, li_7, li_8, li_9, li_10, li_11, li_12, li_16, li_19, li_20, li_28, li_48, li_57, li_59, li_60, li_96, li_97, li_99, li_100, li_102, li_103, li_104, li_112, li_115, li_116, li_118, li_119, li_121, li_124, li_132, li_255, li_256, li_1000, li_2000, li_1000000000, iI_add, iI_sub, iI_mul, iI_neg, iI_lt, iI_le, iI_eq, iI_clamp, iI_s, iI_m1, iI_div, bs, tn, tn4, tn12, tn20, tn124, tn28, itT, itF, if_pos, if_neg, f_X8_gladOf, sHow, sG, rAt, hm1, hm]
  · obtain ⟨y, hy⟩ : ∃ y : Nat, a (20 + j) = y := ⟨(a (20 + j)).toNat, by omega⟩
    have e : S.1 r (20 + j) = iI y := by rw [hm _ (by omega), hy]
    simp (disch := omega) only [li_0, li_1, li_2, li_3, li_4, li_5, li_6, li_7, li_8, li_9, li_10, li_11, li_12, li_16, li_19, li_20, li_28, li_48, li_57, li_59, li_60, li_96, li_97, li_99, li_100, li_102, li_103, li_104, li_112, li_115, li_116, li_118, li_119, li_121, li_124, li_132, li_255, li_256, li_1000, li_2000, li_1000000000, iI_add, iI_sub, iI_mul, iI_neg, iI_lt, iI_le, iI_eq, iI_clamp, iI_s, iI_m1, iI_div, bs, tn, tn4, tn12, tn20, tn124, tn28, itT, itF, if_pos, if_neg, f_X8_gladOf, sHow, sG, rAt, e, hy, hm]
theorem rAllL (hm : ∀ k, k < 132 → S.1 r k = iI (a k)) (hw : ∀ j, j < N → WT a j) (hN : a 0 = N) (h8 : N ≤ 8) {now : Nat} (hn : now ≤ 11) (hn1 : a 1 = now) {k : Int32 → Option Int32} :
    ∀ d n x : Nat, x + d = N → d < n → f_X8_gladAll_L4 n r (iI (sAll a x now)) (iI x) S k = k (iI (sAll a N now)) := by
  have e0 : S.1 r 0 = iI N := by rw [hm 0 (by omega), hN]
  intro d
  induction d with
  | zero =>
    intro n x hx hd
    obtain ⟨n, rfl⟩ : ∃ p, n = p + 1 := ⟨n - 1, by omega⟩
    obtain rfl : x = N := by omega
    rw [f_X8_gladAll_L4]
    simp (disch := omega) only [li_0, li_1, li_2, li_3, li_4, li_5, li_6, li_7, li_8, li_9, li_10, li_11, li_12, li_16, li_19, li_20, li_28, li_48, li_57, li_59, li_60, li_96, li_97, li_99, li_100, li_102, li_103, li_104, li_112, li_115, li_116, li_118, li_119, li_121, li_124, li_132, li_255, li_256, li_1000, li_2000, li_1000000000, iI_add, iI_sub, iI_mul, iI_neg, iI_lt, iI_le, iI_eq, iI_clamp, iI_s, iI_m1, iI_div, bs, tn, tn4, tn12, tn20, tn124, tn28, itT, itF, if_pos, if_neg, e0]
  | succ d ih =>
    intro n x hx hd
    obtain ⟨n, rfl⟩ : ∃ p, n = p + 1 := ⟨n - 1, by omega⟩
    have i1 := ih n (x + 1) (by omega) (by omega)
    have e2 := rHow hm (j := x) (by omega) (hw x (by omega)) hn hn1
    have e3 : sAll a (x + 1) now = sAll a x now + sHow a x now := rfl
    rw [e3] at i1
    rw [f_X8_gladAll_L4]
    simp (disch := omega) only [li_0, li_1, li_2, li_3, li_4, li_5, li_6, li_7, li_8, li_9, li_10, li_11, li_12, li_16, li_19, li_20, li_28, li_48, li_57, li_59, li_60, li_96, li_97, li_99, li_100, li_102, li_103, li_104, li_112, li_115, li_116, li_118, li_119, li_121, li_124, li_132, li_255, li_256, li_1000, li_2000, li_1000000000, iI_add, iI_sub, iI_mul, iI_neg, iI_lt, iI_le, iI_eq, iI_clamp, iI_s, iI_m1, iI_div, bs, tn, tn4, tn12, tn20, tn124, tn28, itT, itF, if_pos, if_neg, e0, e2, i1]
theorem rAll (hm : ∀ k, k < 132 → S.1 r k = iI (a k)) (hw : ∀ j, j < N → WT a j) (hN : a 0 = N) (h8 : N ≤ 8) {now : Nat} (hn : now ≤ 11) (hn1 : a 1 = now) : f_X8_gladAll r S = some (iI (sAll a N now)) := by
  have i := rAllL hm hw hN h8 hn hn1 (k := fun y => some y) N 2000 0 (by omega) (by omega)
  rw [f_X8_gladAll]
  exact i
theorem sY5 (a : Nat → Int) (j now : Nat) {m : Int} {u : Nat} {f : Int} (h : m / 5 = u) : sY a j now m f = sY a j now (5 * (u : Int)) f := by
  have e : sV m f = sV (5 * (u : Int)) f := by
    unfold sV
    rw [h, show 5 * (u : Int) / 5 = u by omega]
  unfold sY sR
  rw [e]
theorem rFewL (hm : ∀ k, k < 132 → S.1 r k = iI (a k)) (hj : j < 8) (hw : WT a j) {now : Nat} (hn : now ≤ 11) (hn1 : a 1 = now) {y : Nat} (hy : y ≤ 11) {k : Int32 → Option Int32} {k9 : Unit → Option Int32} :
    ∀ d n u : Nat, u + d = 20 → 5 * d < n → f_X8_fewestOf_L2 n r (iI j) (iI y) (iI (5 * (u : Int))) S k k9 = if sFst (fun u => decide (sY a j now (5 * (u : Int)) 0 = y)) d u < 0 then k9 () else k (iI (5 * sFst (fun u => decide (sY a j now (5 * (u : Int)) 0 = y)) d u)) := by
  intro d
  induction d with
  | zero =>
    intro n u hu hd
    obtain ⟨n, rfl⟩ : ∃ p, n = p + 1 := ⟨n - 1, by omega⟩
    rw [f_X8_fewestOf_L2, sFst]
    simp (disch := omega) only [li_0, li_1, li_2, li_3, li_4, li_5, li_6, li_7, li_8, li_9, li_10, li_11, li_12, li_16, li_19, li_20, li_28, li_48, li_57, li_59, li_60, li_96, li_97, li_99, li_100, li_102, li_103, li_104, li_112, li_115, li_116, li_118, li_119, li_121, li_124, li_132, li_255, li_256, li_1000, li_2000, li_1000000000, iI_add, iI_sub, iI_mul, iI_neg, iI_lt, iI_le, iI_eq, iI_clamp, iI_s, iI_m1, iI_div, bs, tn, tn4, tn12, tn20, tn124, tn28, itT, itF, if_pos, if_neg]
  | succ d ih =>
    intro n u hu hd
    obtain ⟨n, rfl⟩ : ∃ p, n = p + 1 + 1 + 1 + 1 + 1 := ⟨n - 5, by omega⟩
    have e0 := rY hm hj hw hn hn1 (m := 5 * (u : Int)) (f := 0) (by omega) (by omega)
    have e1 := rY hm hj hw hn hn1 (m := 5 * (u : Int) + 1) (f := 0) (by omega) (by omega)
    have e2 := rY hm hj hw hn hn1 (m := 5 * (u : Int) + 1 + 1) (f := 0) (by omega) (by omega)
    have e3 := rY hm hj hw hn hn1 (m := 5 * (u : Int) + 1 + 1 + 1) (f := 0) (by omega) (by omega)
    have e4 := rY hm hj hw hn hn1 (m := 5 * (u : Int) + 1 + 1 + 1 + 1) (f := 0) (by omega) (by omega)
    rw [sY5 a j now (u := u) (by omega)] at e1 e2 e3 e4
    have i1 := ih n (u + 1) (by omega) (by omega)
    have ec : 5 * ((u + 1 : Nat) : Int) = 5 * (u : Int) + 1 + 1 + 1 + 1 + 1 := by omega
    rw [ec] at i1
    have yb := sY_le a j now (5 * (u : Int)) 0
    rw [f_X8_fewestOf_L2, sFst]
    by_cases c1 : sY a j now (5 * (u : Int)) 0 = y
    · simp (disch := omega) only [li_0, li_1, li_2, li_3, li_4, li_5, li_6, li_7, li_8, li_9, li_10, li_11, li_12, li_16, li_19, li_20, li_28, li_48, li_57, li_59, li_60, li_96, li_97, li_99, li_100, li_102, li_103, li_104, li_112, li_115, li_116, li_118, li_119, li_121, li_124, li_132, li_255, li_256, li_1000, li_2000, li_1000000000, iI_add, iI_sub, iI_mul, iI_neg, iI_lt, iI_le, iI_eq, iI_clamp, iI_s, iI_m1, iI_div, bs, tn, tn4, tn12, tn20, tn124, tn28, itT, itF, if_pos, if_neg, e0, decide_eq_true_eq]
    · simp (disch := omega) only [li_0, li_1, li_2, li_3, li_4, li_5, li_6, li_7, li_8, li_9, li_10, li_11, li_12, li_16, li_19, li_20, li_28, li_48, li_57, li_59, li_60, li_96, li_97, li_99, li_100, li_102, li_103, li_104, li_112, li_115, li_116, li_118, li_119, li_121, li_124, li_132, li_255, li_256, li_1000, li_2000, li_1000000000, iI_add, iI_sub, iI_mul, iI_neg, iI_lt, iI_le, iI_eq, iI_clamp, iI_s, iI_m1, iI_div, bs, tn, tn4, tn12, tn20, tn124, tn28, itT, itF, if_pos, if_neg, e0, decide_eq_true_eq]
      rw [f_X8_fewestOf_L2]
      simp (disch := omega) only [li_0, li_1, li_2, li_3, li_4, li_5, li_6, li_7, li_8, li_9, li_10, li_11, li_12, li_16, li_19, li_20, li_28, li_48, li_57, li_59, li_60, li_96, li_97, li_99, li_100, li_102, li_103, li_104, li_112, li_115, li_116, li_118, li_119, li_121, li_124, li_132, li_255, li_256, li_1000, li_2000, li_1000000000, iI_add, iI_sub, iI_mul, iI_neg, iI_lt, iI_le, iI_eq, iI_clamp, iI_s, iI_m1, iI_div, bs, tn, tn4, tn12, tn20, tn124, tn28, itT, itF, if_pos, if_neg, e1]
      rw [f_X8_fewestOf_L2]
      simp (disch := omega) only [li_0, li_1, li_2, li_3, li_4, li_5, li_6, li_7, li_8, li_9, li_10, li_11, li_12, li_16, li_19, li_20, li_28, li_48, li_57, li_59, li_60, li_96, li_97, li_99, li_100, li_102, li_103, li_104, li_112, li_115, li_116, li_118, li_119, li_121, li_124, li_132, li_255, li_256, li_1000, li_2000, li_1000000000, iI_add, iI_sub, iI_mul, iI_neg, iI_lt, iI_le, iI_eq, iI_clamp, iI_s, iI_m1, iI_div, bs, tn, tn4, tn12, tn20, tn124, tn28, itT, itF, if_pos, if_neg, e2]
      rw [f_X8_fewestOf_L2]
      simp (disch := omega) only [li_0, li_1, li_2, li_3, li_4, li_5, li_6, li_7, li_8, li_9, li_10, li_11, li_12, li_16, li_19, li_20, li_28, li_48, li_57, li_59, li_60, li_96, li_97, li_99, li_100, li_102, li_103, li_104, li_112, li_115, li_116, li_118, li_119, li_121, li_124, li_132, li_255, li_256, li_1000, li_2000, li_1000000000, iI_add, iI_sub, iI_mul, iI_neg, iI_lt, iI_le, iI_eq, iI_clamp, iI_s, iI_m1, iI_div, bs, tn, tn4, tn12, tn20, tn124, tn28, itT, itF, if_pos, if_neg, e3]
      rw [f_X8_fewestOf_L2]
      simp (disch := omega) only [li_0, li_1, li_2, li_3, li_4, li_5, li_6, li_7, li_8, li_9, li_10, li_11, li_12, li_16, li_19, li_20, li_28, li_48, li_57, li_59, li_60, li_96, li_97, li_99, li_100, li_102, li_103, li_104, li_112, li_115, li_116, li_118, li_119, li_121, li_124, li_132, li_255, li_256, li_1000, li_2000, li_1000000000, iI_add, iI_sub, iI_mul, iI_neg, iI_lt, iI_le, iI_eq, iI_clamp, iI_s, iI_m1, iI_div, bs, tn, tn4, tn12, tn20, tn124, tn28, itT, itF, if_pos, if_neg, e4, i1]
theorem rFew (hm : ∀ k, k < 132 → S.1 r k = iI (a k)) (hj : j < 8) (hw : WT a j) {now : Nat} (hn : now ≤ 11) (hn1 : a 1 = now) {y : Nat} (hy : y ≤ 11) : f_X8_fewestOf r (iI j) (iI y) S = some (iI (sFw a j now y)) := by
  have i := rFewL hm hj hw hn hn1 hy (k := fun y4 => some y4) (k9 := fun _ : Unit => some (-9)) 20 2000 0 (by omega) (by omega)
  have e : sFst (fun u => decide (sY a j now (5 * (u : Int)) 0 = y)) 20 0 = sFew a j now y := rfl
  rw [e] at i
  rw [f_X8_fewestOf, show (0 : Int32) = iI (5 * ((0 : Nat) : Int)) from rfl, i, sFw]
  by_cases c : sFew a j now y < 0
  · simp (disch := omega) only [li_0, li_1, li_2, li_3, li_4, li_5, li_6, li_7, li_8, li_9, li_10, li_11, li_12, li_16, li_19, li_20, li_28, li_48, li_57, li_59, li_60, li_96, li_97, li_99, li_100, li_102, li_103, li_104, li_112, li_115, li_116, li_118, li_119, li_121, li_124, li_132, li_255, li_256, li_1000, li_2000, li_1000000000, iI_add, iI_sub, iI_mul, iI_neg, iI_lt, iI_le, iI_eq, iI_clamp, iI_s, iI_m1, iI_div, bs, tn, tn4, tn12, tn20, tn124, tn28, itT, itF, if_pos, if_neg]
  · simp (disch := omega) only [li_0, li_1, li_2, li_3, li_4, li_5, li_6, li_7, li_8, li_9, li_10, li_11, li_12, li_16, li_19, li_20, li_28, li_48, li_57, li_59, li_60, li_96, li_97, li_99, li_100, li_102, li_103, li_104, li_112, li_115, li_116, li_118, li_119, li_121, li_124, li_132, li_255, li_256, li_1000, li_2000, li_1000000000, iI_add, iI_sub, iI_mul, iI_neg, iI_lt, iI_le, iI_eq, iI_clamp, iI_s, iI_m1, iI_div, bs, tn, tn4, tn12, tn20, tn124, tn28, itT, itF, if_pos, if_neg]
theorem rCanL (hm : ∀ k, k < 132 → S.1 r k = iI (a k)) (hj : j < 8) (hw : WT a j) {now : Nat} (hn : now ≤ 11) (hn1 : a 1 = now) {k : Int32 → Option Int32} :
    ∀ d n u : Nat, u + d = 20 → d < n → f_X8_canOf_L4 n r (iI j) (sCan a j now u) (iI (5 * (u : Int))) S k = k (sCan a j now 20) := by
  intro d
  induction d with
  | zero =>
    intro n u hu hd
    obtain ⟨n, rfl⟩ : ∃ p, n = p + 1 := ⟨n - 1, by omega⟩
    obtain rfl : u = 20 := by omega
    rw [f_X8_canOf_L4]
    simp (disch := omega) only [li_0, li_1, li_2, li_3, li_4, li_5, li_6, li_7, li_8, li_9, li_10, li_11, li_12, li_16, li_19, li_20, li_28, li_48, li_57, li_59, li_60, li_96, li_97, li_99, li_100, li_102, li_103, li_104, li_112, li_115, li_116, li_118, li_119, li_121, li_124, li_132, li_255, li_256, li_1000, li_2000, li_1000000000, iI_add, iI_sub, iI_mul, iI_neg, iI_lt, iI_le, iI_eq, iI_clamp, iI_s, iI_m1, iI_div, bs, tn, tn4, tn12, tn20, tn124, tn28, itT, itF, if_pos, if_neg]
  | succ d ih =>
    intro n u hu hd
    obtain ⟨n, rfl⟩ : ∃ p, n = p + 1 := ⟨n - 1, by omega⟩
    have e0 := rY hm hj hw hn hn1 (m := 5 * (u : Int)) (f := 0) (by omega) (by omega)
    have i1 := ih n (u + 1) (by omega) (by omega)
    have ec : 5 * ((u + 1 : Nat) : Int) = 5 * (u : Int) + 5 := by omega
    rw [ec, sCan] at i1
    rw [f_X8_canOf_L4]
    simp (disch := omega) only [li_0, li_1, li_2, li_3, li_4, li_5, li_6, li_7, li_8, li_9, li_10, li_11, li_12, li_16, li_19, li_20, li_28, li_48, li_57, li_59, li_60, li_96, li_97, li_99, li_100, li_102, li_103, li_104, li_112, li_115, li_116, li_118, li_119, li_121, li_124, li_132, li_255, li_256, li_1000, li_2000, li_1000000000, iI_add, iI_sub, iI_mul, iI_neg, iI_lt, iI_le, iI_eq, iI_clamp, iI_s, iI_m1, iI_div, bs, tn, tn4, tn12, tn20, tn124, tn28, itT, itF, if_pos, if_neg, e0, i1]
theorem rCan (hm : ∀ k, k < 132 → S.1 r k = iI (a k)) (hj : j < 8) (hw : WT a j) {now : Nat} (hn : now ≤ 11) (hn1 : a 1 = now) : f_X8_canOf r (iI j) S = some (sCan a j now 20) := by
  have i := rCanL hm hj hw hn hn1 (k := fun y => some y) 20 2000 0 (by omega) (by omega)
  rw [f_X8_canOf]
  exact i
theorem rGYL (hm : ∀ k, k < 132 → S.1 75 k = iI (a k)) (hj : j < 8) (hw : WT a j) {now : Nat} (hn : now ≤ 11) {k : Int32 → Option Int32} :
    ∀ m n b, m < n → m ≤ now → b ≤ now → f_X8_gladdest_L14 n (iI j) (iI b) (iI ((m : Int) - 1)) S k = k (iI (sB (sG a j) 0 0 m b)) := by
  intro m
  induction m with
  | zero =>
    intro n b h1 h2 hb
    obtain ⟨n, rfl⟩ : ∃ p, n = p + 1 := ⟨n - 1, by omega⟩
    rw [f_X8_gladdest_L14, sB]
    simp (disch := omega) only [li_0, li_1, li_2, li_3, li_4, li_5, li_6, li_7, li_8, li_9, li_10, li_11, li_12, li_16, li_19, li_20, li_28, li_48, li_57, li_59, li_60, li_96, li_97, li_99, li_100, li_102, li_103, li_104, li_112, li_115, li_116, li_118, li_119, li_121, li_124, li_132, li_255, li_256, li_1000, li_2000, li_1000000000, iI_add, iI_sub, iI_mul, iI_neg, iI_lt, iI_le, iI_eq, iI_clamp, iI_s, iI_m1, iI_div, bs, tn, tn4, tn12, tn20, tn124, tn28, itT, itF, if_pos, if_neg]
  | succ m ih =>
    intro n b h1 h2 hb
    obtain ⟨n, rfl⟩ : ∃ p, n = p + 1 := ⟨n - 1, by omega⟩
    have e : ((m + 1 : Nat) : Int) - 1 = (m : Int) := by omega
    have g1 : S.1 75 (28 + 12 * j + m) = iI (sG a j m) := hm _ (by omega)
    have g2 : S.1 75 (28 + 12 * j + b) = iI (sG a j b) := hm _ (by omega)
    have b1 := sG_b hw (y := m) (by omega)
    have b2 := sG_b hw (y := b) (by omega)
    have i1 := ih n m (by omega) (by omega) (by omega)
    have i2 := ih n b (by omega) (by omega) (by omega)
    rw [f_X8_gladdest_L14, sB, e]
    by_cases c1 : sG a j b < sG a j m
    · simp (disch := omega) only [li_0, li_1, li_2, li_3, li_4, li_5, li_6, li_7, li_8, li_9, li_10, li_11, li_12, li_16, li_19, li_20, li_28, li_48, li_57, li_59, li_60, li_96, li_97, li_99, li_100, li_102, li_103, li_104, li_112, li_115, li_116, li_118, li_119, li_121, li_124, li_132, li_255, li_256, li_1000, li_2000, li_1000000000, iI_add, iI_sub, iI_mul, iI_neg, iI_lt, iI_le, iI_eq, iI_clamp, iI_s, iI_m1, iI_div, bs, tn, tn4, tn12, tn20, tn124, tn28, itT, itF, if_pos, if_neg, rAt, g1, g2, i1]
    · simp (disch := omega) only [li_0, li_1, li_2, li_3, li_4, li_5, li_6, li_7, li_8, li_9, li_10, li_11, li_12, li_16, li_19, li_20, li_28, li_48, li_57, li_59, li_60, li_96, li_97, li_99, li_100, li_102, li_103, li_104, li_112, li_115, li_116, li_118, li_119, li_121, li_124, li_132, li_255, li_256, li_1000, li_2000, li_1000000000, iI_add, iI_sub, iI_mul, iI_neg, iI_lt, iI_le, iI_eq, iI_clamp, iI_s, iI_m1, iI_div, bs, tn, tn4, tn12, tn20, tn124, tn28, itT, itF, if_pos, if_neg, rAt, g1, g2, i2]
theorem rGY (hm : ∀ k, k < 132 → S.1 75 k = iI (a k)) (hj : j < 8) (hw : WT a j) {now : Nat} (hn : now ≤ 11) (hn1 : a 1 = now) : f_X8_gladdest (iI j) S = some (iI (sGY a j now)) := by
  have hm1 : S.1 75 1 = iI now := by rw [hm 1 (by omega), hn1]
  have g2 : S.1 75 (28 + 12 * j + now) = iI (sG a j now) := hm _ (by omega)
  have b2 := sG_b hw (y := now) (by omega)
  have i := rGYL hm hj hw hn (k := fun y => some y) now 1999 now (by omega) (by omega) (by omega)
  rw [f_X8_gladdest, show 2000 = 1999 + 1 from rfl, f_X8_gladdest_L14]
  simp (disch := omega) only [li_0, li_1, li_2, li_3, li_4, li_5, li_6, li_7, li_8, li_9, li_10, li_11, li_12, li_16, li_19, li_20, li_28, li_48, li_57, li_59, li_60, li_96, li_97, li_99, li_100, li_102, li_103, li_104, li_112, li_115, li_116, li_118, li_119, li_121, li_124, li_132, li_255, li_256, li_1000, li_2000, li_1000000000, iI_add, iI_sub, iI_mul, iI_neg, iI_lt, iI_le, iI_eq, iI_clamp, iI_s, iI_m1, iI_div, bs, tn, tn4, tn12, tn20, tn124, tn28, itT, itF, if_pos, if_neg, hm1, rAt, g2, i, sGY]
end RS1
