-- ===== literals, division, places =====
theorem li_0 : (0 : Int32) = iI 0 := rfl
theorem li_1 : (1 : Int32) = iI 1 := rfl
theorem li_2 : (2 : Int32) = iI 2 := rfl
theorem li_3 : (3 : Int32) = iI 3 := rfl
theorem li_4 : (4 : Int32) = iI 4 := rfl
theorem li_5 : (5 : Int32) = iI 5 := rfl
theorem li_6 : (6 : Int32) = iI 6 := rfl
theorem li_7 : (7 : Int32) = iI 7 := rfl
theorem li_8 : (8 : Int32) = iI 8 := rfl
theorem li_9 : (9 : Int32) = iI 9 := rfl
theorem li_10 : (10 : Int32) = iI 10 := rfl
theorem li_11 : (11 : Int32) = iI 11 := rfl
theorem li_12 : (12 : Int32) = iI 12 := rfl
theorem li_16 : (16 : Int32) = iI 16 := rfl
theorem li_19 : (19 : Int32) = iI 19 := rfl
theorem li_20 : (20 : Int32) = iI 20 := rfl
theorem li_28 : (28 : Int32) = iI 28 := rfl
theorem li_48 : (48 : Int32) = iI 48 := rfl
theorem li_57 : (57 : Int32) = iI 57 := rfl
theorem li_59 : (59 : Int32) = iI 59 := rfl
theorem li_60 : (60 : Int32) = iI 60 := rfl
theorem li_96 : (96 : Int32) = iI 96 := rfl
theorem li_97 : (97 : Int32) = iI 97 := rfl
theorem li_99 : (99 : Int32) = iI 99 := rfl
theorem li_100 : (100 : Int32) = iI 100 := rfl
theorem li_102 : (102 : Int32) = iI 102 := rfl
theorem li_103 : (103 : Int32) = iI 103 := rfl
theorem li_104 : (104 : Int32) = iI 104 := rfl
theorem li_112 : (112 : Int32) = iI 112 := rfl
theorem li_115 : (115 : Int32) = iI 115 := rfl
theorem li_116 : (116 : Int32) = iI 116 := rfl
theorem li_118 : (118 : Int32) = iI 118 := rfl
theorem li_119 : (119 : Int32) = iI 119 := rfl
theorem li_121 : (121 : Int32) = iI 121 := rfl
theorem li_124 : (124 : Int32) = iI 124 := rfl
theorem li_132 : (132 : Int32) = iI 132 := rfl
theorem li_255 : (255 : Int32) = iI 255 := rfl
theorem li_256 : (256 : Int32) = iI 256 := rfl
theorem li_1000 : (1000 : Int32) = iI 1000 := rfl
theorem li_2000 : (2000 : Int32) = iI 2000 := rfl
theorem li_1000000000 : (1000000000 : Int32) = iI 1000000000 := rfl
theorem bs {α β : Type} (a : α) (f : α → Option β) : (some a).bind f = f a := rfl
theorem itT {α : Type} {x y : α} {i : Decidable True} : @ite α True i x y = x := if_pos trivial
theorem itF {α : Type} {x y : α} {i : Decidable False} : @ite α False i x y = y := if_neg (fun h => h)
theorem iI_s (x : Nat) : iI ((x : Int) + 1) = iI ((x + 1 : Nat) : Int) := rfl
theorem iI_m1 (x : Int) : iI (x + -1) = iI (x - 1) := rfl
theorem iI_div {a b : Int} (h1 : 0 ≤ a) (h2 : a < 2147483648) (h3 : 0 < b) (h4 : b < 2147483648) : iI a / iI b = iI (a / b) := by
  have e1 : 0 ≤ a / b := Int.ediv_nonneg h1 (by omega)
  have e2 : a / b ≤ a := Int.ediv_le_self _ h1
  rw [← Int32.toInt_inj, Int32.toInt_div, iI_toInt (by omega) h2, iI_toInt (by omega) h4, iI_toInt (by omega) (by omega), Int.tdiv_eq_ediv_of_nonneg h1]
  exact Int.bmod_eq_of_le (by omega) (by omega)
theorem tn (j : Nat) : ((j : Int)).toNat = j := rfl
theorem tn4 (j : Nat) : ((4 : Int) + (j : Int)).toNat = 4 + j := by omega
theorem tn12 (j : Nat) : ((12 : Int) + (j : Int)).toNat = 12 + j := by omega
theorem tn20 (j : Nat) : ((20 : Int) + (j : Int)).toNat = 20 + j := by omega
theorem tn124 (j : Nat) : ((124 : Int) + (j : Int)).toNat = 124 + j := by omega
theorem tn28 (j y : Nat) : ((28 : Int) + 12 * (j : Int) + (y : Int)).toNat = 28 + 12 * j + y := by omega
theorem iI_any (x : Int32) : ∃ z : Int, -2147483648 ≤ z ∧ z < 2147483648 ∧ x = iI z := by
  refine ⟨x.toInt, ?_, ?_, iI_of x⟩
  · have := Int32.le_toInt x; omega
  · have := Int32.toInt_lt x; omega
-- ===== a thing of a shop =====
def RT (S : St) (t : Nat) (a : Nat → Int) (j : Nat) : Prop := S.1 t 0 = iI (a (4 + j)) ∧ S.1 t 1 = iI (a (12 + j)) ∧ S.1 t 2 = iI (a (20 + j)) ∧ ∀ y, y < 12 → S.1 (t + 1) y = iI (a (28 + 12 * j + y))
def WT (a : Nat → Int) (j : Nat) : Prop := (0 ≤ a (4 + j) ∧ a (4 + j) ≤ 5) ∧ (0 ≤ a (12 + j) ∧ a (12 + j) ≤ 9) ∧ (a (20 + j) = -9 ∨ (0 ≤ a (20 + j) ∧ a (20 + j) ≤ 11)) ∧ (∀ y, y < 12 → 0 ≤ a (28 + 12 * j + y) ∧ a (28 + 12 * j + y) ≤ 99)
theorem WFa.t {a : Nat → Int} (h : WFa a) {j : Nat} (hj : j < 8) : WT a j := ⟨(h.2.2.2.2.1 j hj).1, (h.2.2.2.2.1 j hj).2.1, (h.2.2.2.2.1 j hj).2.2.1, (h.2.2.2.2.1 j hj).2.2.2.1⟩
theorem RC.t {S : St} {q : Nat} {a : Nat → Int} (h : RC S q a) {j : Nat} (hj : j < 8) (hs : (j : Int) < a 0) : RT S (q + 1 + 2 + 2 * j) a j := h.2.2 j hj hs
/-- how glad in a year -/
def sG (a : Nat → Int) (j y : Nat) : Int := a (28 + 12 * j + y)
def sC (a : Nat → Int) (j now y : Nat) : Int := if a (4 + j) = 5 then -(sG a j y) else if a (4 + j) = 3 then sG a j y - a (12 + j) * ((now : Int) - (y : Int)) else sG a j y
def sV (m f : Int) : Int := if 0 < m / 5 - f then m / 5 - f else 0
def sR (a : Nat → Int) (j : Nat) (m f : Int) : Int := if a (4 + j) = 2 ∨ a (4 + j) = 5 then sV m f + a (12 + j) else if a (4 + j) = 4 then sV m f / 2 else sV m f
def sB (c : Nat → Int) (lt lo : Int) : Nat → Nat → Nat
  | 0, b => b
  | m + 1, b => if (m : Int) < lo then b else sB c lt lo m (if c b < c m ∨ (lt ≠ 0 ∧ c m = c b) then m else b)
def sL (a : Nat → Int) (j : Nat) : Int := if a (4 + j) = 1 ∨ a (4 + j) = 3 then 1 else 0
def sO (now : Nat) (r : Int) : Int := if 0 < (now : Int) - r then (now : Int) - r else 0
def sY (a : Nat → Int) (j now : Nat) (m f : Int) : Nat := sB (sC a j now) (sL a j) (sO now (sR a j m f)) now now
theorem sB_le (c : Nat → Int) (lt lo : Int) {N : Nat} : ∀ m b, m ≤ N + 1 → b ≤ N → sB c lt lo m b ≤ N := by
  intro m
  induction m with
  | zero => intro b _ hb; exact hb
  | succ m ih =>
    intro b hm hb
    rw [sB]
    split
    · exact hb
    · apply ih _ (by omega)
      split <;> omega
theorem sY_le (a : Nat → Int) (j now : Nat) (m f : Int) : sY a j now m f ≤ now := sB_le _ _ _ _ _ (by omega) (by omega)
theorem sG_b {a : Nat → Int} {j y : Nat} (hw : WT a j) (hy : y < 12) : 0 ≤ sG a j y ∧ sG a j y ≤ 99 := hw.2.2.2 y hy
theorem sC_b {a : Nat → Int} {j now y : Nat} (hw : WT a j) (hn : now ≤ 11) (hy : y ≤ now) : -99 ≤ sC a j now y ∧ sC a j now y ≤ 99 := by
  have g := sG_b hw (y := y) (by omega)
  have f := hw.2.1
  have p1 : 0 ≤ a (12 + j) * ((now : Int) - (y : Int)) := Int.mul_nonneg f.1 (by omega)
  have p2 : a (12 + j) * ((now : Int) - (y : Int)) ≤ 9 * 11 := Int.mul_le_mul f.2 (by omega) (by omega) (by omega)
  rw [sC]
  by_cases h5 : a (4 + j) = 5
  · rw [if_pos h5]; omega
  · rw [if_neg h5]
    by_cases h3 : a (4 + j) = 3
    · rw [if_pos h3]; omega
    · rw [if_neg h3]; omega
theorem sV_b {m f : Int} (h1 : 0 ≤ m ∧ m ≤ 999) (h2 : 0 ≤ f ∧ f ≤ 999) : 0 ≤ sV m f ∧ sV m f ≤ 199 := by
  rw [sV]
  split <;> omega
theorem sR_b {a : Nat → Int} {j : Nat} {m f : Int} (hw : WT a j) (h1 : 0 ≤ m ∧ m ≤ 999) (h2 : 0 ≤ f ∧ f ≤ 999) : 0 ≤ sR a j m f ∧ sR a j m f ≤ 208 := by
  have v := sV_b h1 h2
  have f := hw.2.1
  rw [sR]
  split
  · omega
  · split <;> omega
theorem sO_b {now : Nat} {r : Int} (h1 : now ≤ 11) (h2 : 0 ≤ r) : 0 ≤ sO now r ∧ sO now r ≤ 11 := by
  rw [sO]
  split <;> omega
-- ===== the class' thing =====
section CT1
variable {S : St} {t : Nat} {a : Nat → Int} {j : Nat}
theorem cG (h : RT S t a j) {y : Nat} (hy : y < 12) : f_X6_gladIn t (iI y) S = some (iI (sG a j y)) := by
  have e := h.2.2.2 y hy
  simp (disch := omega) only [li_0, li_1, li_2, li_3, li_4, li_5, li_6, li_7, li_8, li_9, li_10, li_11, li_12, li_16, li_19, li_20, li_28, li_48, li_57, li_59, li_60, li_96, li_97, li_99, li_100, li_102, li_103, li_104, li_112, li_115, li_116, li_118, li_119, li_121, li_124, li_132, li_255, li_256, li_1000, li_2000, li_1000000000, iI_add, iI_sub, iI_mul, iI_neg, iI_lt, iI_le, iI_eq, iI_clamp, iI_s, iI_m1, iI_div, bs, tn, tn4, tn12, tn20, tn124, tn28, itT, itF, if_pos, if_neg, f_X6_gladIn, sG, e]
theorem cC (h : RT S t a j) (hw : WT a j) {now y : Nat} (hy : y < 12) : f_X6_counts t (iI y) (iI now) S = some (iI (sC a j now y)) := by
  have k := hw.1
  have e1 := h.1
  have e2 := h.2.1
  have e3 := cG h hy
  by_cases h5 : a (4 + j) = 5
  · simp (disch := omega) only [li_0, li_1, li_2, li_3, li_4, li_5, li_6, li_7, li_8, li_9, li_10, li_11, li_12, li_16, li_19, li_20, li_28, li_48, li_57, li_59, li_60, li_96, li_97, li_99, li_100, li_102, li_103, li_104, li_112, li_115, li_116, li_118, li_119, li_121, li_124, li_132, li_255, li_256, li_1000, li_2000, li_1000000000, iI_add, iI_sub, iI_mul, iI_neg, iI_lt, iI_le, iI_eq, iI_clamp, iI_s, iI_m1, iI_div, bs, tn, tn4, tn12, tn20, tn124, tn28, itT, itF, if_pos, if_neg, f_X6_counts, sC, e1, e2, e3]
  · by_cases h3 : a (4 + j) = 3
    · simp (disch := omega) only [li_0, li_1, li_2, li_3, li_4, li_5, li_6, li_7, li_8, li_9, li_10, li_11, li_12, li_16, li_19, li_20, li_28, li_48, li_57, li_59, li_60, li_96, li_97, li_99, li_100, li_102, li_103, li_104, li_112, li_115, li_116, li_118, li_119, li_121, li_124, li_132, li_255, li_256, li_1000, li_2000, li_1000000000, iI_add, iI_sub, iI_mul, iI_neg, iI_lt, iI_le, iI_eq, iI_clamp, iI_s, iI_m1, iI_div, bs, tn, tn4, tn12, tn20, tn124, tn28, itT, itF, if_pos, if_neg, f_X6_counts, sC, e1, e2, e3]
    · simp (disch := omega) only [li_0, li_1, li_2, li_3, li_4, li_5, li_6, li_7, li_8, li_9, li_10, li_11, li_12, li_16, li_19, li_20, li_28, li_48, li_57, li_59, li_60, li_96, li_97, li_99, li_100, li_102, li_103, li_104, li_112, li_115, li_116, li_118, li_119, li_121, li_124, li_132, li_255, li_256, li_1000, li_2000, li_1000000000, iI_add, iI_sub, iI_mul, iI_neg, iI_lt, iI_le, iI_eq, iI_clamp, iI_s, iI_m1, iI_div, bs, tn, tn4, tn12, tn20, tn124, tn28, itT, itF, if_pos, if_neg, f_X6_counts, sC, e1, e2, e3]
theorem cV {m f : Int} (h1 : 0 ≤ m ∧ m ≤ 999) (h2 : 0 ≤ f ∧ f ≤ 999) : (if (0 : Int32) < ((iI m / 5) - iI f) then (iI m / 5) - iI f else 0) = iI (sV m f) := by
  by_cases h : 0 < m / 5 - f
  · simp (disch := omega) only [li_0, li_1, li_2, li_3, li_4, li_5, li_6, li_7, li_8, li_9, li_10, li_11, li_12, li_16, li_19, li_20, li_28, li_48, li_57, li_59, li_60, li_96, li_97, li_99, li_100, li_102, li_103, li_104, li_112, li_115, li_116, li_118, li_119, li_121, li_124, li_132, li_255, li_256, li_1000, li_2000, li_1000000000, iI_add, iI_sub, iI_mul, iI_neg, iI_lt, iI_le, iI_eq, iI_clamp, iI_s, iI_m1, iI_div, bs, tn, tn4, tn12, tn20, tn124, tn28, itT, itF, if_pos, if_neg, sV]
  · simp (disch := omega) only [li_0, li_1, li_2, li_3, li_4, li_5, li_6, li_7, li_8, li_9, li_10, li_11, li_12, li_16, li_19, li_20, li_28, li_48, li_57, li_59, li_60, li_96, li_97, li_99, li_100, li_102, li_103, li_104, li_112, li_115, li_116, li_118, li_119, li_121, li_124, li_132, li_255, li_256, li_1000, li_2000, li_1000000000, iI_add, iI_sub, iI_mul, iI_neg, iI_lt, iI_le, iI_eq, iI_clamp, iI_s, iI_m1, iI_div, bs, tn, tn4, tn12, tn20, tn124, tn28, itT, itF, if_pos, if_neg, sV]
theorem cR (h : RT S t a j) (hw : WT a j) {m f : Int} (h1 : 0 ≤ m ∧ m ≤ 999) (h2 : 0 ≤ f ∧ f ≤ 999) : f_X6_reach t (iI m) (iI f) S = some (iI (sR a j m f)) := by
  have k := hw.1
  have v := sV_b h1 h2
  have e1 := h.1
  have e2 := h.2.1
  rw [f_X6_reach, cV h1 h2]
  by_cases h5 : a (4 + j) = 2
  · simp (disch := omega) only [li_0, li_1, li_2, li_3, li_4, li_5, li_6, li_7, li_8, li_9, li_10, li_11, li_12, li_16, li_19, li_20, li_28, li_48, li_57, li_59, li_60, li_96, li_97, li_99, li_100, li_102, li_103, li_104, li_112, li_115, li_116, li_118, li_119, li_121, li_124, li_132, li_255, li_256, li_1000, li_2000, li_1000000000, iI_add, iI_sub, iI_mul, iI_neg, iI_lt, iI_le, iI_eq, iI_clamp, iI_s, iI_m1, iI_div, bs, tn, tn4, tn12, tn20, tn124, tn28, itT, itF, if_pos, if_neg, sR, e1, e2]
  · by_cases h3 : a (4 + j) = 5
    · simp (disch := omega) only [li_0, li_1, li_2, li_3, li_4, li_5, li_6, li_7, li_8, li_9, li_10, li_11, li_12, li_16, li_19, li_20, li_28, li_48, li_57, li_59, li_60, li_96, li_97, li_99, li_100, li_102, li_103, li_104, li_112, li_115, li_116, li_118, li_119, li_121, li_124, li_132, li_255, li_256, li_1000, li_2000, li_1000000000, iI_add, iI_sub, iI_mul, iI_neg, iI_lt, iI_le, iI_eq, iI_clamp, iI_s, iI_m1, iI_div, bs, tn, tn4, tn12, tn20, tn124, tn28, itT, itF, if_pos, if_neg, sR, e1, e2]
    · by_cases h4 : a (4 + j) = 4
      · simp (disch := omega) only [li_0, li_1, li_2, li_3, li_4, li_5, li_6, li_7, li_8, li_9, li_10, li_11, li_12, li_16, li_19, li_20, li_28, li_48, li_57, li_59, li_60, li_96, li_97, li_99, li_100, li_102, li_103, li_104, li_112, li_115, li_116, li_118, li_119, li_121, li_124, li_132, li_255, li_256, li_1000, li_2000, li_1000000000, iI_add, iI_sub, iI_mul, iI_neg, iI_lt, iI_le, iI_eq, iI_clamp, iI_s, iI_m1, iI_div, bs, tn, tn4, tn12, tn20, tn124, tn28, itT, itF, if_pos, if_neg, sR, e1, e2]
      · simp (disch := omega) only [li_0, li_1, li_2, li_3, li_4, li_5, li_6, li_7, li_8, li_9, li_10, li_11, li_12, li_16, li_19, li_20, li_28, li_48, li_57, li_59, li_60, li_96, li_97, li_99, li_100, li_102, li_103, li_104, li_112, li_115, li_116, li_118, li_119, li_121, li_124, li_132, li_255, li_256, li_1000, li_2000, li_1000000000, iI_add, iI_sub, iI_mul, iI_neg, iI_lt, iI_le, iI_eq, iI_clamp, iI_s, iI_m1, iI_div, bs, tn, tn4, tn12, tn20, tn124, tn28, itT, itF, if_pos, if_neg, sR, e1, e2]
theorem cYL (h : RT S t a j) (hw : WT a j) {now : Nat} (hn : now ≤ 11) {lt lo : Int} (hl : lt = 0 ∨ lt = 1) (ho : 0 ≤ lo ∧ lo ≤ 11) {k : Int32 → Option Int32} :
    ∀ m n b, m < n → m ≤ now → b ≤ now → f_X6_yearBy_L53 n t (iI now) (iI lt) (iI lo) (iI b) (iI (sC a j now b)) (iI ((m : Int) - 1)) S k = k (iI (sB (sC a j now) lt lo m b)) := by
  intro m
  induction m with
  | zero =>
    intro n b hm h2 hb
    obtain ⟨n, rfl⟩ : ∃ p, n = p + 1 := ⟨n - 1, by omega⟩
    rw [f_X6_yearBy_L53, sB]
    simp (disch := omega) only [li_0, li_1, li_2, li_3, li_4, li_5, li_6, li_7, li_8, li_9, li_10, li_11, li_12, li_16, li_19, li_20, li_28, li_48, li_57, li_59, li_60, li_96, li_97, li_99, li_100, li_102, li_103, li_104, li_112, li_115, li_116, li_118, li_119, li_121, li_124, li_132, li_255, li_256, li_1000, li_2000, li_1000000000, iI_add, iI_sub, iI_mul, iI_neg, iI_lt, iI_le, iI_eq, iI_clamp, iI_s, iI_m1, iI_div, bs, tn, tn4, tn12, tn20, tn124, tn28, itT, itF, if_pos, if_neg]
  | succ m ih =>
    intro n b hm h2 hb
    obtain ⟨n, rfl⟩ : ∃ p, n = p + 1 := ⟨n - 1, by omega⟩
    have e : ((m + 1 : Nat) : Int) - 1 = (m : Int) := by omega
    rw [f_X6_yearBy_L53, sB, e]
    by_cases hlo : (m : Int) < lo
    · simp (disch := omega) only [li_0, li_1, li_2, li_3, li_4, li_5, li_6, li_7, li_8, li_9, li_10, li_11, li_12, li_16, li_19, li_20, li_28, li_48, li_57, li_59, li_60, li_96, li_97, li_99, li_100, li_102, li_103, li_104, li_112, li_115, li_116, li_118, li_119, li_121, li_124, li_132, li_255, li_256, li_1000, li_2000, li_1000000000, iI_add, iI_sub, iI_mul, iI_neg, iI_lt, iI_le, iI_eq, iI_clamp, iI_s, iI_m1, iI_div, bs, tn, tn4, tn12, tn20, tn124, tn28, itT, itF, if_pos, if_neg]
    · have e1 := cC h hw (now := now) (y := m) (by omega)
      have b1 := sC_b hw hn (y := m) (by omega)
      have b2 := sC_b hw hn (y := b) hb
      have i1 := ih n m (by omega) (by omega) (by omega)
      have i2 := ih n b (by omega) (by omega) (by omega)
      by_cases c1 : sC a j now b < sC a j now m
      · simp (disch := omega) only [li_0, li_1, li_2, li_3, li_4, li_5, li_6, li_7, li_8, li_9, li_10, li_11, li_12, li_16, li_19, li_20, li_28, li_48, li_57, li_59, li_60, li_96, li_97, li_99, li_100, li_102, li_103, li_104, li_112, li_115, li_116, li_118, li_119, li_121, li_124, li_132, li_255, li_256, li_1000, li_2000, li_1000000000, iI_add, iI_sub, iI_mul, iI_neg, iI_lt, iI_le, iI_eq, iI_clamp, iI_s, iI_m1, iI_div, bs, tn, tn4, tn12, tn20, tn124, tn28, itT, itF, if_pos, if_neg, e1, i1]
      · by_cases c2 : lt = 0
        · simp (disch := omega) only [li_0, li_1, li_2, li_3, li_4, li_5, li_6, li_7, li_8, li_9, li_10, li_11, li_12, li_16, li_19, li_20, li_28, li_48, li_57, li_59, li_60, li_96, li_97, li_99, li_100, li_102, li_103, li_104, li_112, li_115, li_116, li_118, li_119, li_121, li_124, li_132, li_255, li_256, li_1000, li_2000, li_1000000000, iI_add, iI_sub, iI_mul, iI_neg, iI_lt, iI_le, iI_eq, iI_clamp, iI_s, iI_m1, iI_div, bs, tn, tn4, tn12, tn20, tn124, tn28, itT, itF, if_pos, if_neg, e1, i2]
        · by_cases c3 : sC a j now m = sC a j now b
          · simp (disch := omega) only [li_0, li_1, li_2, li_3, li_4, li_5, li_6, li_7, li_8, li_9, li_10, li_11, li_12, li_16, li_19, li_20, li_28, li_48, li_57, li_59, li_60, li_96, li_97, li_99, li_100, li_102, li_103, li_104, li_112, li_115, li_116, li_118, li_119, li_121, li_124, li_132, li_255, li_256, li_1000, li_2000, li_1000000000, iI_add, iI_sub, iI_mul, iI_neg, iI_lt, iI_le, iI_eq, iI_clamp, iI_s, iI_m1, iI_div, bs, tn, tn4, tn12, tn20, tn124, tn28, itT, itF, if_pos, if_neg, e1, i1]
          · simp (disch := omega) only [li_0, li_1, li_2, li_3, li_4, li_5, li_6, li_7, li_8, li_9, li_10, li_11, li_12, li_16, li_19, li_20, li_28, li_48, li_57, li_59, li_60, li_96, li_97, li_99, li_100, li_102, li_103, li_104, li_112, li_115, li_116, li_118, li_119, li_121, li_124, li_132, li_255, li_256, li_1000, li_2000, li_1000000000, iI_add, iI_sub, iI_mul, iI_neg, iI_lt, iI_le, iI_eq, iI_clamp, iI_s, iI_m1, iI_div, bs, tn, tn4, tn12, tn20, tn124, tn28, itT, itF, if_pos, if_neg, e1, i2]
theorem cO {now : Nat} {r : Int} (h1 : now ≤ 11) (h2 : 0 ≤ r ∧ r ≤ 208) : (if (0 : Int32) < (iI now - iI r) then iI now - iI r else 0) = iI (sO now r) := by
  by_cases h : 0 < (now : Int) - r
  · simp (disch := omega) only [li_0, li_1, li_2, li_3, li_4, li_5, li_6, li_7, li_8, li_9, li_10, li_11, li_12, li_16, li_19, li_20, li_28, li_48, li_57, li_59, li_60, li_96, li_97, li_99, li_100, li_102, li_103, li_104, li_112, li_115, li_116, li_118, li_119, li_121, li_124, li_132, li_255, li_256, li_1000, li_2000, li_1000000000, iI_add, iI_sub, iI_mul, iI_neg, iI_lt, iI_le, iI_eq, iI_clamp, iI_s, iI_m1, iI_div, bs, tn, tn4, tn12, tn20, tn124, tn28, itT, itF, if_pos, if_neg, sO]
  · simp (disch := omega) only [li_0, li_1, li_2, li_3, li_4, li_5, li_6, li_7, li_8, li_9, li_10, li_11, li_12, li_16, li_19, li_20, li_28, li_48, li_57, li_59, li_60, li_96, li_97, li_99, li_100, li_102, li_103, li_104, li_112, li_115, li_116, li_118, li_119, li_121, li_124, li_132, li_255, li_256, li_1000, li_2000, li_1000000000, iI_add, iI_sub, iI_mul, iI_neg, iI_lt, iI_le, iI_eq, iI_clamp, iI_s, iI_m1, iI_div, bs, tn, tn4, tn12, tn20, tn124, tn28, itT, itF, if_pos, if_neg, sO]
theorem cY (h : RT S t a j) (hw : WT a j) {now : Nat} (hn : now ≤ 11) {m f : Int} (h1 : 0 ≤ m ∧ m ≤ 999) (h2 : 0 ≤ f ∧ f ≤ 999) : f_X6_yearBy t (iI m) (iI f) (iI now) S = some (iI (sY a j now m f)) := by
  have k := hw.1
  have r := sR_b hw h1 h2
  have o := sO_b hn r.1
  have e1 := h.1
  rw [f_X6_yearBy, cR h hw h1 h2, cC h hw (by omega)]
  simp only [bs]
  rw [cO hn r]
  have L : ∀ lt : Int, lt = 0 ∨ lt = 1 → f_X6_yearBy_L53 2000 t (iI now) (iI lt) (iI (sO now (sR a j m f))) (iI now) (iI (sC a j now now)) (iI ((now : Int) - 1)) S (fun y => some y) = some (iI (sB (sC a j now) lt (sO now (sR a j m f)) now now)) :=
    fun lt hl => cYL h hw hn hl o now 2000 now (by omega) (by omega) (by omega)
  have L0 := L 0 (Or.inl rfl)
  have L1 := L 1 (Or.inr rfl)
  by_cases h5 : a (4 + j) = 1
  · simp (disch := omega) only [li_0, li_1, li_2, li_3, li_4, li_5, li_6, li_7, li_8, li_9, li_10, li_11, li_12, li_16, li_19, li_20, li_28, li_48, li_57, li_59, li_60, li_96, li_97, li_99, li_100, li_102, li_103, li_104, li_112, li_115, li_116, li_118, li_119, li_121, li_124, li_132, li_255, li_256, li_1000, li_2000, li_1000000000, iI_add, iI_sub, iI_mul, iI_neg, iI_lt, iI_le, iI_eq, iI_clamp, iI_s, iI_m1, iI_div, bs, tn, tn4, tn12, tn20, tn124, tn28, itT, itF, if_pos, if_neg, sY, sL, e1, L1]
  · by_cases h3 : a (4 + j) = 3
    · simp (disch := omega) only [li_0, li_1, li_2, li_3, li_4, li_5, li_6, li_7, li_8, li_9, li_10, li_11, li_12, li_16, li_19, li_20, li_28, li_48, li_57, li_59, li_60, li_96, li_97, li_99, li_100, li_102, li_103, li_104, li_112, li_115, li_116, li_118, li_119, li_121, li_124, li_132, li_255, li_256, li_1000, li_2000, li_1000000000, iI_add, iI_sub, iI_mul, iI_neg, iI_lt, iI_le, iI_eq, iI_clamp, iI_s, iI_m1, iI_div, bs, tn, tn4, tn12, tn20, tn124, tn28, itT, itF, if_pos, if_neg, sY, sL, e1, L1]
    · simp (disch := omega) only [li_0, li_1, li_2, li_3, li_4, li_5, li_6, li_7, li_8, li_9, li_10, li_11, li_12, li_16, li_19, li_20, li_28, li_48, li_57, li_59, li_60, li_96, li_97, li_99, li_100, li_102, li_103, li_104, li_112, li_115, li_116, li_118, li_119, li_121, li_124, li_132, li_255, li_256, li_1000, li_2000, li_1000000000, iI_add, iI_sub, iI_mul, iI_neg, iI_lt, iI_le, iI_eq, iI_clamp, iI_s, iI_m1, iI_div, bs, tn, tn4, tn12, tn20, tn124, tn28, itT, itF, if_pos, if_neg, sY, sL, e1, L0]
end CT1
-- ===== the reference's thing =====
section RT1
variable {S : St} {r : Nat} {a : Nat → Int} {j : Nat}
theorem rAt (j y : Nat) : f_X8_at (iI j) (iI y) = some (iI (28 + 12 * (j : Int) + (y : Int))) := by
  simp (disch := omega) only [li_0, li_1, li_2, li_3, li_4, li_5, li_6, li_7, li_8, li_9, li_10, li_11, li_12, li_16, li_19, li_20, li_28, li_48, li_57, li_59, li_60, li_96, li_97, li_99, li_100, li_102, li_103, li_104, li_112, li_115, li_116, li_118, li_119, li_121, li_124, li_132, li_255, li_256, li_1000, li_2000, li_1000000000, iI_add, iI_sub, iI_mul, iI_neg, iI_lt, iI_le, iI_eq, iI_clamp, iI_s, iI_m1, iI_div, bs, tn, tn4, tn12, tn20, tn124, tn28, itT, itF, if_pos, if_neg, f_X8_at]
theorem rC (hm : ∀ k, k < 132 → S.1 r k = iI (a k)) (hj : j < 8) (hw : WT a j) {now y : Nat} (hn : a 1 = now) (hy : y < 12) : f_X8_counts r (iI j) (iI y) S = some (iI (sC a j now y)) := by
  have k := hw.1
  by_cases h5 : a (4 + j) = 5
  · simp (disch := omega) only [li_0, li_1, li_2, li_3, li_4, li_5, li_6, li_7, li_8, li_9, li_10, li_11, li_12, li_16, li_19, li_20, li_28, li_48, li_57, li_59, li_60, li_96, li_97, li_99, li_100, li_102, li_103, li_104, li_112, li_115, li_116, li_118, li_119, li_121, li_124, li_132, li_255, li_256, li_1000, li_2000, li_1000000000, iI_add, iI_sub, iI_mul, iI_neg, iI_lt, iI_le, iI_eq, iI_clamp, iI_s, iI_m1, iI_div, bs, tn, tn4, tn12, tn20, tn124, tn28, itT, itF, if_pos, if_neg, f_X8_counts, sC, sG, rAt, hm]
  · by_cases h3 : a (4 + j) = 3
    · simp (disch := omega) only [li_0, li_1, li_2, li_3, li_4, li_5, li_6, li_7, li_8, li_9, li_10, li_11, li_12, li_16, li_19, li_20, li_28, li_48, li_57, li_59, li_60, li_96, li_97, li_99, li_100, li_102, li_103, li_104, li_112, li_115, li_116, li_118, li_119, li_121, li_124, li_132, li_255, li_256, li_1000, li_2000, li_1000000000, iI_add, iI_sub, iI_mul, iI_neg, iI_lt, iI_le, iI_eq, iI_clamp, iI_s, iI_m1, iI_div, bs, tn, tn4, tn12, tn20, tn124, tn28, itT, itF, if_pos, if_neg, f_X8_counts, sC, sG, rAt, hm, hn]
    · simp (disch := omega) only [li_0, li_1, li_2, li_3, li_4, li_5, li_6, li_7, li_8, li_9, li_10, li_11, li_12, li_16, li_19, li_20, li_28, li_48, li_57, li_59, li_60, li_96, li_97, li_99, li_100, li_102, li_103, li_104, li_112, li_115, li_116, li_118, li_119, li_121, li_124, li_132, li_255, li_256, li_1000, li_2000, li_1000000000, iI_add, iI_sub, iI_mul, iI_neg, iI_lt, iI_le, iI_eq, iI_clamp, iI_s, iI_m1, iI_div, bs, tn, tn4, tn12, tn20, tn124, tn28, itT, itF, if_pos, if_neg, f_X8_counts, sC, sG, rAt, hm]
theorem rMost {x y : Int} (h1 : -2147483648 ≤ x) (h2 : x < 2147483648) (h3 : -2147483648 ≤ y) (h4 : y < 2147483648) : f_X8_most (iI x) (iI y) = some (iI (if x ≤ y then y else x)) := by
  by_cases h : x ≤ y
  · simp (disch := omega) only [li_0, li_1, li_2, li_3, li_4, li_5, li_6, li_7, li_8, li_9, li_10, li_11, li_12, li_16, li_19, li_20, li_28, li_48, li_57, li_59, li_60, li_96, li_97, li_99, li_100, li_102, li_103, li_104, li_112, li_115, li_116, li_118, li_119, li_121, li_124, li_132, li_255, li_256, li_1000, li_2000, li_1000000000, iI_add, iI_sub, iI_mul, iI_neg, iI_lt, iI_le, iI_eq, iI_clamp, iI_s, iI_m1, iI_div, bs, tn, tn4, tn12, tn20, tn124, tn28, itT, itF, if_pos, if_neg, f_X8_most]
  · simp (disch := omega) only [li_0, li_1, li_2, li_3, li_4, li_5, li_6, li_7, li_8, li_9, li_10, li_11, li_12, li_16, li_19, li_20, li_28, li_48, li_57, li_59, li_60, li_96, li_97, li_99, li_100, li_102, li_103, li_104, li_112, li_115, li_116, li_118, li_119, li_121, li_124, li_132, li_255, li_256, li_1000, li_2000, li_1000000000, iI_add, iI_sub, iI_mul, iI_neg, iI_lt, iI_le, iI_eq, iI_clamp, iI_s, iI_m1, iI_div, bs, tn, tn4, tn12, tn20, tn124, tn28, itT, itF, if_pos, if_neg, f_X8_most]
theorem rV {m f : Int} (h1 : 0 ≤ m ∧ m ≤ 999) (h2 : 0 ≤ f ∧ f ≤ 999) : f_X8_most 0 ((iI m / 5) - iI f) = some (iI (sV m f)) := by
  by_cases h : 0 < m / 5 - f
  · simp (disch := omega) only [li_0, li_1, li_2, li_3, li_4, li_5, li_6, li_7, li_8, li_9, li_10, li_11, li_12, li_16, li_19, li_20, li_28, li_48, li_57, li_59, li_60, li_96, li_97, li_99, li_100, li_102, li_103, li_104, li_112, li_115, li_116, li_118, li_119, li_121, li_124, li_132, li_255, li_256, li_1000, li_2000, li_1000000000, iI_add, iI_sub, iI_mul, iI_neg, iI_lt, iI_le, iI_eq, iI_clamp, iI_s, iI_m1, iI_div, bs, tn, tn4, tn12, tn20, tn124, tn28, itT, itF, if_pos, if_neg, f_X8_most, sV]
  · by_cases h' : 0 ≤ m / 5 - f
    · have e : m / 5 - f = 0 := by omega
      simp (disch := omega) only [li_0, li_1, li_2, li_3, li_4, li_5, li_6, li_7, li_8, li_9, li_10, li_11, li_12, li_16, li_19, li_20, li_28, li_48, li_57, li_59, li_60, li_96, li_97, li_99, li_100, li_102, li_103, li_104, li_112, li_115, li_116, li_118, li_119, li_121, li_124, li_132, li_255, li_256, li_1000, li_2000, li_1000000000, iI_add, iI_sub, iI_mul, iI_neg, iI_lt, iI_le, iI_eq, iI_clamp, iI_s, iI_m1, iI_div, bs, tn, tn4, tn12, tn20, tn124, tn28, itT, itF, if_pos, if_neg, f_X8_most, sV, e]
    · simp (disch := omega) only [li_0, li_1, li_2, li_3, li_4, li_5, li_6, li_7, li_8, li_9, li_10, li_11, li_12, li_16, li_19, li_20, li_28, li_48, li_57, li_59, li_60, li_96, li_97, li_99, li_100, li_102, li_103, li_104, li_112, li_115, li_116, li_118, li_119, li_121, li_124, li_132, li_255, li_256, li_1000, li_2000, li_1000000000, iI_add, iI_sub, iI_mul, iI_neg, iI_lt, iI_le, iI_eq, iI_clamp, iI_s, iI_m1, iI_div, bs, tn, tn4, tn12, tn20, tn124, tn28, itT, itF, if_pos, if_neg, f_X8_most, sV]
theorem rR (hm : ∀ k, k < 132 → S.1 r k = iI (a k)) (hj : j < 8) (hw : WT a j) {m f : Int} (h1 : 0 ≤ m ∧ m ≤ 999) (h2 : 0 ≤ f ∧ f ≤ 999) : f_X8_reach r (iI j) (iI m) (iI f) S = some (iI (sR a j m f)) := by
  have k := hw.1
  have v := sV_b h1 h2
  rw [f_X8_reach, rV h1 h2]
  by_cases h5 : a (4 + j) = 2
  · simp (disch := omega) only [li_0, li_1, li_2, li_3, li_4, li_5, li_6, li_7, li_8, li_9, li_10, li_11, li_12, li_16, li_19, li_20, li_28, li_48, li_57, li_59, li_60, li_96, li_97, li_99, li_100, li_102, li_103, li_104, li_112, li_115, li_116, li_118, li_119, li_121, li_124, li_132, li_255, li_256, li_1000, li_2000, li_1000000000, iI_add, iI_sub, iI_mul, iI_neg, iI_lt, iI_le, iI_eq, iI_clamp, iI_s, iI_m1, iI_div, bs, tn, tn4, tn12, tn20, tn124, tn28, itT, itF, if_pos, if_neg, sR, hm]
  · by_cases h3 : a (4 + j) = 5
    · simp (disch := omega) only [li_0, li_1, li_2, li_3, li_4, li_5, li_6, li_7, li_8, li_9, li_10, li_11, li_12, li_16, li_19, li_20, li_28, li_48, li_57, li_59, li_60, li_96, li_97, li_99, li_100, li_102, li_103, li_104, li_112, li_115, li_116, li_118, li_119, li_121, li_124, li_132, li_255, li_256, li_1000, li_2000, li_1000000000, iI_add, iI_sub, iI_mul, iI_neg, iI_lt, iI_le, iI_eq, iI_clamp, iI_s, iI_m1, iI_div, bs, tn, tn4, tn12, tn20, tn124, tn28, itT, itF, if_pos, if_neg, sR, hm]
    · by_cases h4 : a (4 + j) = 4
      · simp (disch := omega) only [li_0, li_1, li_2, li_3, li_4, li_5, li_6, li_7, li_8, li_9, li_10, li_11, li_12, li_16, li_19, li_20, li_28, li_48, li_57, li_59, li_60, li_96, li_97, li_99, li_100, li_102, li_103, li_104, li_112, li_115, li_116, li_118, li_119, li_121, li_124, li_132, li_255, li_256, li_1000, li_2000, li_1000000000, iI_add, iI_sub, iI_mul, iI_neg, iI_lt, iI_le, iI_eq, iI_clamp, iI_s, iI_m1, iI_div, bs, tn, tn4, tn12, tn20, tn124, tn28, itT, itF, if_pos, if_neg, sR, hm]
      · simp (disch := omega) only [li_0, li_1, li_2, li_3, li_4, li_5, li_6, li_7, li_8, li_9, li_10, li_11, li_12, li_16, li_19, li_20, li_28, li_48, li_57, li_59, li_60, li_96, li_97, li_99, li_100, li_102, li_103, li_104, li_112, li_115, li_116, li_118, li_119, li_121, li_124, li_132, li_255, li_256, li_1000, li_2000, li_1000000000, iI_add, iI_sub, iI_mul, iI_neg, iI_lt, iI_le, iI_eq, iI_clamp, iI_s, iI_m1, iI_div, bs, tn, tn4, tn12, tn20, tn124, tn28, itT, itF, if_pos, if_neg, sR, hm]
theorem rYL (hm : ∀ k, k < 132 → S.1 r k = iI (a k)) (hj : j < 8) (hw : WT a j) {now : Nat} (hn : now ≤ 11) (hn1 : a 1 = now) {lt rr : Int} (hl : lt = 0 ∨ lt = 1) (ho : 0 ≤ rr ∧ rr ≤ 208) {k : Int32 → Option Int32} :
    ∀ m n b, m < n → m ≤ now → b ≤ now → f_X8_yearBy_L36 n r (iI j) (iI rr) (iI lt) (iI b) (iI ((m : Int) - 1)) S k = k (iI (sB (sC a j now) lt (sO now rr) m b)) := by
  intro m
  have hO : (0 < (now : Int) - rr ∧ sO now rr = (now : Int) - rr) ∨ (¬ 0 < (now : Int) - rr ∧ sO now rr = 0) := by
    rw [sO]
    by_cases h : 0 < (now : Int) - rr
    · rw [if_pos h]; exact Or.inl ⟨h, rfl⟩
    · rw [if_neg h]; exact Or.inr ⟨h, rfl⟩
  have hm1 : S.1 r 1 = iI now := by rw [hm 1 (by omega), hn1]
  induction m with
  | zero =>
    intro n b hm h2 hb
    obtain ⟨n, rfl⟩ : ∃ p, n = p + 1 := ⟨n - 1, by omega⟩
    rw [f_X8_yearBy_L36, sB]
    simp (disch := omega) only [li_0, li_1, li_2, li_3, li_4, li_5, li_6, li_7, li_8, li_9, li_10, li_11, li_12, li_16, li_19, li_20, li_28, li_48, li_57, li_59, li_60, li_96, li_97, li_99, li_100, li_102, li_103, li_104, li_112, li_115, li_116, li_118, li_119, li_121, li_124, li_132, li_255, li_256, li_1000, li_2000, li_1000000000, iI_add, iI_sub, iI_mul, iI_neg, iI_lt, iI_le, iI_eq, iI_clamp, iI_s, iI_m1, iI_div, bs, tn, tn4, tn12, tn20, tn124, tn28, itT, itF, if_pos, if_neg]
  | succ m ih =>
    intro n b h1 h2 hb
    obtain ⟨n, rfl⟩ : ∃ p, n = p + 1 := ⟨n - 1, by omega⟩
    have e : ((m + 1 : Nat) : Int) - 1 = (m : Int) := by omega
    rw [f_X8_yearBy_L36, sB, e]
    by_cases hlo : (m : Int) < sO now rr
    · simp (disch := omega) only [li_0, li_1, li_2, li_3, li_4, li_5, li_6, li_7, li_8, li_9, li_10, li_11, li_12, li_16, li_19, li_20, li_28, li_48, li_57, li_59, li_60, li_96, li_97, li_99, li_100, li_102, li_103, li_104, li_112, li_115, li_116, li_118, li_119, li_121, li_124, li_132, li_255, li_256, li_1000, li_2000, li_1000000000, iI_add, iI_sub, iI_mul, iI_neg, iI_lt, iI_le, iI_eq, iI_clamp, iI_s, iI_m1, iI_div, bs, tn, tn4, tn12, tn20, tn124, tn28, itT, itF, if_pos, if_neg, hm1]
    · have e1 := rC hm hj hw hn1 (y := m) (by omega)
      have e2 := rC hm hj hw hn1 (y := b) (by omega)
      have b1 := sC_b hw hn (y := m) (by omega)
      have b2 := sC_b hw hn (y := b) hb
      have i1 := ih n m (by omega) (by omega) (by omega)
      have i2 := ih n b (by omega) (by omega) (by omega)
      by_cases c1 : sC a j now b < sC a j now m
      · simp (disch := omega) only [li_0, li_1, li_2, li_3, li_4, li_5, li_6, li_7, li_8, li_9, li_10, li_11, li_12, li_16, li_19, li_20, li_28, li_48, li_57, li_59, li_60, li_96, li_97, li_99, li_100, li_102, li_103, li_104, li_112, li_115, li_116, li_118, li_119, li_121, li_124, li_132, li_255, li_256, li_1000, li_2000, li_1000000000, iI_add, iI_sub, iI_mul, iI_neg, iI_lt, iI_le, iI_eq, iI_clamp, iI_s, iI_m1, iI_div, bs, tn, tn4, tn12, tn20, tn124, tn28, itT, itF, if_pos, if_neg, hm1, e1, e2, i1]
      · by_cases c3 : sC a j now m = sC a j now b
        · by_cases c2 : lt = 0
          · simp (disch := omega) only [li_0, li_1, li_2, li_3, li_4, li_5, li_6, li_7, li_8, li_9, li_10, li_11, li_12, li_16, li_19, li_20, li_28, li_48, li_57, li_59, li_60, li_96, li_97, li_99, li_100, li_102, li_103, li_104, li_112, li_115, li_116, li_118, li_119, li_121, li_124, li_132, li_255, li_256, li_1000, li_2000, li_1000000000, iI_add, iI_sub, iI_mul, iI_neg, iI_lt, iI_le, iI_eq, iI_clamp, iI_s, iI_m1, iI_div, bs, tn, tn4, tn12, tn20, tn124, tn28, itT, itF, if_pos, if_neg, hm1, e1, e2, i2]
          · simp (disch := omega) only [li_0, li_1, li_2, li_3, li_4, li_5, li_6, li_7, li_8, li_9, li_10, li_11, li_12, li_16, li_19, li_20, li_28, li_48, li_57, li_59, li_60, li_96, li_97, li_99, li_100, li_102, li_103, li_104, li_112, li_115, li_116, li_118, li_119, li_121, li_124, li_132, li_255, li_256, li_1000, li_2000, li_1000000000, iI_add, iI_sub, iI_mul, iI_neg, iI_lt, iI_le, iI_eq, iI_clamp, iI_s, iI_m1, iI_div, bs, tn, tn4, tn12, tn20, tn124, tn28, itT, itF, if_pos, if_neg, hm1, e1, e2, i1]
        · simp (disch := omega) only [li_0, li_1, li_2, li_3, li_4, li_5, li_6, li_7, li_8, li_9, li_10, li_11, li_12, li_16, li_19, li_20, li_28, li_48, li_57, li_59, li_60, li_96, li_97, li_99, li_100, li_102, li_103, li_104, li_112, li_115, li_116, li_118, li_119, li_121, li_124, li_132, li_255, li_256, li_1000, li_2000, li_1000000000, iI_add, iI_sub, iI_mul, iI_neg, iI_lt, iI_le, iI_eq, iI_clamp, iI_s, iI_m1, iI_div, bs, tn, tn4, tn12, tn20, tn124, tn28, itT, itF, if_pos, if_neg, hm1, e1, e2, i2]
theorem rY (hm : ∀ k, k < 132 → S.1 r k = iI (a k)) (hj : j < 8) (hw : WT a j) {now : Nat} (hn : now ≤ 11) (hn1 : a 1 = now) {m f : Int} (h1 : 0 ≤ m ∧ m ≤ 999) (h2 : 0 ≤ f ∧ f ≤ 999) : f_X8_yearOf r (iI j) (iI m) (iI f) S = some (iI (sY a j now m f)) := by
  have k := hw.1
  have rb := sR_b hw h1 h2
  have hm1 : S.1 r 1 = iI now := by rw [hm 1 (by omega), hn1]
  have L : ∀ lt : Int, lt = 0 ∨ lt = 1 → f_X8_yearBy_L36 2000 r (iI j) (iI (sR a j m f)) (iI lt) (iI now) (iI ((now : Int) - 1)) S (fun y => some y) = some (iI (sB (sC a j now) lt (sO now (sR a j m f)) now now)) :=
    fun lt hl => rYL hm hj hw hn hn1 hl rb now 2000 now (by omega) (by omega) (by omega)
  have L0 := L 0 (Or.inl rfl)
  have L1 := L 1 (Or.inr rfl)
  rw [f_X8_yearOf, rR hm hj hw h1 h2, bs, f_X8_yearBy]
  by_cases h5 : a (4 + j) = 1
  · simp (disch := omega) only [li_0, li_1, li_2, li_3, li_4, li_5, li_6, li_7, li_8, li_9, li_10, li_11, li_12, li_16, li_19, li_20, li_28, li_48, li_57, li_59, li_60, li_96, li_97, li_99, li_100, li_102, li_103, li_104, li_112, li_115, li_116, li_118, li_119, li_121, li_124, li_132, li_255, li_256, li_1000, li_2000, li_1000000000, iI_add, iI_sub, iI_mul, iI_neg, iI_lt, iI_le, iI_eq, iI_clamp, iI_s, iI_m1, iI_div, bs, tn, tn4, tn12, tn20, tn124, tn28, itT, itF, if_pos, if_neg, sY, sL, hm, hm1, hn1, L1]
  · by_cases h3 : a (4 + j) = 3
    · simp (disch := omega) only [li_0, li_1, li_2, li_3, li_4, li_5, li_6, li_7, li_8, li_9, li_10, li_11, li_12, li_16, li_19, li_20, li_28, li_48, li_57, li_59, li_60, li_96, li_97, li_99, li_100, li_102, li_103, li_104, li_112, li_115, li_116, li_118, li_119, li_121, li_124, li_132, li_255, li_256, li_1000, li_2000, li_1000000000, iI_add, iI_sub, iI_mul, iI_neg, iI_lt, iI_le, iI_eq, iI_clamp, iI_s, iI_m1, iI_div, bs, tn, tn4, tn12, tn20, tn124, tn28, itT, itF, if_pos, if_neg, sY, sL, hm, hm1, hn1, L1]
    · simp (disch := omega) only [li_0, li_1, li_2, li_3, li_4, li_5, li_6, li_7, li_8, li_9, li_10, li_11, li_12, li_16, li_19, li_20, li_28, li_48, li_57, li_59, li_60, li_96, li_97, li_99, li_100, li_102, li_103, li_104, li_112, li_115, li_116, li_118, li_119, li_121, li_124, li_132, li_255, li_256, li_1000, li_2000, li_1000000000, iI_add, iI_sub, iI_mul, iI_neg, iI_lt, iI_le, iI_eq, iI_clamp, iI_s, iI_m1, iI_div, bs, tn, tn4, tn12, tn20, tn124, tn28, itT, itF, if_pos, if_neg, sY, sL, hm, hm1, hn1, L0]
end RT1
