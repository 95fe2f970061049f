-- ===== two who press =====
def tY (a : Nat → Int) (j now : Nat) (m : Int) (p : Nat) : Nat := sY a j now m (p : Int)
def sCt (Y : Nat → Nat) (x o : Nat) : Nat → Nat → Bool
  | 0, _ => true
  | d + 1, p => if Y (x + o) < Y (p + o) then false else if Y (x + p) < Y (x + o) then false else sCt Y x o d (p + 1)
def sTw (Y : Nat → Nat) (x d o : Nat) : Int := sFst (fun o => sCt Y x o 5 0) d o
def sT2 (Y : Nat → Nat) : Nat → Nat → Int
  | 0, _ => -9
  | d + 1, x => if sTw Y x 5 0 < 0 then sT2 Y d (x + 1) else 10 * (x : Int) + sTw Y x 5 0
theorem tY_le (a : Nat → Int) (j now : Nat) (m : Int) (p : Nat) : tY a j now m p ≤ now := sY_le _ _ _ _ _
theorem cCt {S : St} {t : Nat} {a : Nat → Int} {j : Nat} (h : RT S t a j) (hw : WT a j) {now : Nat} (hn : now ≤ 11) (p1 : S.1 1 1 = iI now) {m : Int} (h1 : 0 ≤ m ∧ m ≤ 99) {x o : Nat} (hx : x < 5) (ho : o < 5) {k k9 : Unit → Option Int32} :
    ∀ d n p : Nat, p + d = 5 → d < n → f_X7_bothContent_L21 n t (iI m) (iI x) (iI o) (iI (tY a j now m (x + o))) (iI p) S k k9 = if sCt (tY a j now m) x o d p = true then k9 () else k () := by
  intro d
  induction d with
  | zero =>
    intro n p hp hd
    obtain ⟨n, rfl⟩ : ∃ p, n = p + 1 := ⟨n - 1, by omega⟩
    rw [f_X7_bothContent_L21, sCt]
    simp (disch := omega) only [li_0, li_1, li_2, li_3, li_4, li_5, li_6, li_7, li_8, li_9, li_10, li_11, li_12, li_16, li_19, li_20, li_28, li_48, li_57, li_59, li_60, li_96, li_97, li_99, li_100, li_102, li_103, li_104, li_112, li_115, li_116, li_118, li_119, li_121, li_124, li_132, li_255, li_256, li_1000, li_2000, li_1000000000, iI_add, iI_sub, iI_mul, iI_neg, iI_lt, iI_le, iI_eq, iI_clamp, iI_s, iI_m1, iI_div, bs, tn, tn4, tn12, tn20, tn124, tn28, itT, itF, if_pos, if_neg]
  | succ d ih =>
    intro n p hp hd
    obtain ⟨n, rfl⟩ : ∃ p, n = p + 1 := ⟨n - 1, by omega⟩
    have i1 := ih n (p + 1) (by omega) (by omega)
    have e1 : f_X6_yearBy t (iI m) (iI ((p : Int) + (o : Int))) (iI now) S = some (iI (tY a j now m (p + o))) := cY h hw hn (by omega) (by omega)
    have e2 : f_X6_yearBy t (iI m) (iI ((x : Int) + (p : Int))) (iI now) S = some (iI (tY a j now m (x + p))) := cY h hw hn (by omega) (by omega)
    have y0 := tY_le a j now m (x + o)
    have y1 := tY_le a j now m (p + o)
    have y2 := tY_le a j now m (x + p)
    rw [f_X7_bothContent_L21, sCt]
    by_cases c1 : tY a j now m (x + o) < tY a j now m (p + o)
    · simp (disch := omega) only [li_0, li_1, li_2, li_3, li_4, li_5, li_6, li_7, li_8, li_9, li_10, li_11, li_12, li_16, li_19, li_20, li_28, li_48, li_57, li_59, li_60, li_96, li_97, li_99, li_100, li_102, li_103, li_104, li_112, li_115, li_116, li_118, li_119, li_121, li_124, li_132, li_255, li_256, li_1000, li_2000, li_1000000000, iI_add, iI_sub, iI_mul, iI_neg, iI_lt, iI_le, iI_eq, iI_clamp, iI_s, iI_m1, iI_div, bs, tn, tn4, tn12, tn20, tn124, tn28, itT, itF, if_pos, if_neg, p1, e1, Bool.false_eq_true]
    · by_cases c2 : tY a j now m (x + p) < tY a j now m (x + o)
      · simp (disch := omega) only [li_0, li_1, li_2, li_3, li_4, li_5, li_6, li_7, li_8, li_9, li_10, li_11, li_12, li_16, li_19, li_20, li_28, li_48, li_57, li_59, li_60, li_96, li_97, li_99, li_100, li_102, li_103, li_104, li_112, li_115, li_116, li_118, li_119, li_121, li_124, li_132, li_255, li_256, li_1000, li_2000, li_1000000000, iI_add, iI_sub, iI_mul, iI_neg, iI_lt, iI_le, iI_eq, iI_clamp, iI_s, iI_m1, iI_div, bs, tn, tn4, tn12, tn20, tn124, tn28, itT, itF, if_pos, if_neg, p1, e1, e2, Bool.false_eq_true]
      · simp (disch := omega) only [li_0, li_1, li_2, li_3, li_4, li_5, li_6, li_7, li_8, li_9, li_10, li_11, li_12, li_16, li_19, li_20, li_28, li_48, li_57, li_59, li_60, li_96, li_97, li_99, li_100, li_102, li_103, li_104, li_112, li_115, li_116, li_118, li_119, li_121, li_124, li_132, li_255, li_256, li_1000, li_2000, li_1000000000, iI_add, iI_sub, iI_mul, iI_neg, iI_lt, iI_le, iI_eq, iI_clamp, iI_s, iI_m1, iI_div, bs, tn, tn4, tn12, tn20, tn124, tn28, itT, itF, if_pos, if_neg, p1, e1, e2, i1]
theorem cBoth {S : St} {t : Nat} {a : Nat → Int} {j : Nat} (h : RT S t a j) (hw : WT a j) {now : Nat} (hn : now ≤ 11) (p1 : S.1 1 1 = iI now) {m : Int} (h1 : 0 ≤ m ∧ m ≤ 99) {x o : Nat} (hx : x < 5) (ho : o < 5) :
    f_X7_bothContent t (iI m) (iI x) (iI o) S = some (iI (if sCt (tY a j now m) x o 5 0 = true then 1 else 0)) := by
  have e1 : f_X6_yearBy t (iI m) (iI ((x : Int) + (o : Int))) (iI now) S = some (iI (tY a j now m (x + o))) := cY h hw hn (by omega) (by omega)
  have i : f_X7_bothContent_L21 2000 t (iI m) (iI x) (iI o) (iI (tY a j now m (x + o))) (iI 0) S (fun _ => some (iI 0)) (fun _ => some (iI 1)) = _ := cCt h hw hn p1 h1 hx ho 5 2000 0 (by omega) (by omega)
  rw [f_X7_bothContent]
  by_cases c : sCt (tY a j now m) x o 5 0 = true
  · rw [if_pos c] at i ⊢
    simp (disch := omega) only [li_0, li_1, li_2, li_3, li_4, li_5, li_6, li_7, li_8, li_9, li_10, li_11, li_12, li_16, li_19, li_20, li_28, li_48, li_57, li_59, li_60, li_96, li_97, li_99, li_100, li_102, li_103, li_104, li_112, li_115, li_116, li_118, li_119, li_121, li_124, li_132, li_255, li_256, li_1000, li_2000, li_1000000000, iI_add, iI_sub, iI_mul, iI_neg, iI_lt, iI_le, iI_eq, iI_clamp, iI_s, iI_m1, iI_div, bs, tn, tn4, tn12, tn20, tn124, tn28, itT, itF, if_pos, if_neg, p1, e1, i]
  · rw [if_neg c] at i ⊢
    simp (disch := omega) only [li_0, li_1, li_2, li_3, li_4, li_5, li_6, li_7, li_8, li_9, li_10, li_11, li_12, li_16, li_19, li_20, li_28, li_48, li_57, li_59, li_60, li_96, li_97, li_99, li_100, li_102, li_103, li_104, li_112, li_115, li_116, li_118, li_119, li_121, li_124, li_132, li_255, li_256, li_1000, li_2000, li_1000000000, iI_add, iI_sub, iI_mul, iI_neg, iI_lt, iI_le, iI_eq, iI_clamp, iI_s, iI_m1, iI_div, bs, tn, tn4, tn12, tn20, tn124, tn28, itT, itF, if_pos, if_neg, p1, e1, i]
theorem cTwI {S : St} {a : Nat → Int} {j now : Nat} (hc : RC S 1 a) (hw : WFa a) (hj : j < 8) (hs : (j : Int) < a 0) (hn : now ≤ 11) (p1 : S.1 1 1 = iI now) {m : Int} (h1 : 0 ≤ m ∧ m ≤ 99) {x : Nat} (hx : x < 5) {k : Int32 → Option (Int32 × St)} {k9 : Unit → Option (Int32 × St)} :
    ∀ d n o : Nat, o + d = 5 → d < n → f_X7_two_L47 n (iI j) (iI m) (iI x) (iI o) S k k9 = if sTw (tY a j now m) x d o < 0 then k9 () else k (iI (sTw (tY a j now m) x d o)) := by
  intro d
  induction d with
  | zero =>
    intro n o ho hd
    obtain ⟨n, rfl⟩ : ∃ p, n = p + 1 := ⟨n - 1, by omega⟩
    rw [f_X7_two_L47, sTw, sFst]
    simp (disch := omega) only [li_0, li_1, li_2, li_3, li_4, li_5, li_6, li_7, li_8, li_9, li_10, li_11, li_12, li_16, li_19, li_20, li_28, li_48, li_57, li_59, li_60, li_96, li_97, li_99, li_100, li_102, li_103, li_104, li_112, li_115, li_116, li_118, li_119, li_121, li_124, li_132, li_255, li_256, li_1000, li_2000, li_1000000000, iI_add, iI_sub, iI_mul, iI_neg, iI_lt, iI_le, iI_eq, iI_clamp, iI_s, iI_m1, iI_div, bs, tn, tn4, tn12, tn20, tn124, tn28, itT, itF, if_pos, if_neg]
  | succ d ih =>
    intro n o ho hd
    obtain ⟨n, rfl⟩ : ∃ p, n = p + 1 := ⟨n - 1, by omega⟩
    have i1 := ih n (o + 1) (by omega) (by omega)
    have e1 := cAt (S := S) (q := 1) hj
    have e2 := cBoth (hc.t hj hs) (hw.t hj) hn p1 h1 hx (o := o) (by omega)
    have e3 : sTw (tY a j now m) x (d + 1) o = if sCt (tY a j now m) x o 5 0 = true then (o : Int) else sTw (tY a j now m) x d (o + 1) := rfl
    rw [f_X7_two_L47, e3]
    by_cases c : sCt (tY a j now m) x o 5 0 = true
    · rw [if_pos c] at e2 ⊢
      simp (disch := omega) only [li_0, li_1, li_2, li_3, li_4, li_5, li_6, li_7, li_8, li_9, li_10, li_11, li_12, li_16, li_19, li_20, li_28, li_48, li_57, li_59, li_60, li_96, li_97, li_99, li_100, li_102, li_103, li_104, li_112, li_115, li_116, li_118, li_119, li_121, li_124, li_132, li_255, li_256, li_1000, li_2000, li_1000000000, iI_add, iI_sub, iI_mul, iI_neg, iI_lt, iI_le, iI_eq, iI_clamp, iI_s, iI_m1, iI_div, bs, tn, tn4, tn12, tn20, tn124, tn28, itT, itF, if_pos, if_neg, e1, e2]
    · rw [if_neg c] at e2 ⊢
      simp (disch := omega) only [li_0, li_1, li_2, li_3, li_4, li_5, li_6, li_7, li_8, li_9, li_10, li_11, li_12, li_16, li_19, li_20, li_28, li_48, li_57, li_59, li_60, li_96, li_97, li_99, li_100, li_102, li_103, li_104, li_112, li_115, li_116, li_118, li_119, li_121, li_124, li_132, li_255, li_256, li_1000, li_2000, li_1000000000, iI_add, iI_sub, iI_mul, iI_neg, iI_lt, iI_le, iI_eq, iI_clamp, iI_s, iI_m1, iI_div, bs, tn, tn4, tn12, tn20, tn124, tn28, itT, itF, if_pos, if_neg, e1, e2, i1]
theorem cTwL {S : St} {a : Nat → Int} {j now : Nat} (hc : RC S 1 a) (hw : WFa a) (hj : j < 8) (hs : (j : Int) < a 0) (hn : now ≤ 11) (p1 : S.1 1 1 = iI now) {m : Int} (h1 : 0 ≤ m ∧ m ≤ 99) {k : Int32 → Int32 → Option (Int32 × St)} {k9 : Unit → Option (Int32 × St)} {K : Int32 → Option (Int32 × St)} (hk : ∀ x y : Int, k (iI x) (iI y) = K (iI (10 * x + y))) (h9 : k9 () = K (iI (-9))) :
    ∀ d n x : Nat, x + d = 5 → d < n → f_X7_two_L38 n (iI j) (iI m) (iI x) S k k9 = K (iI (sT2 (tY a j now m) d x)) := by
  intro d
  induction d with
  | zero =>
    intro n x hx hd
    obtain ⟨n, rfl⟩ : ∃ p, n = p + 1 := ⟨n - 1, by omega⟩
    rw [f_X7_two_L38, sT2]
    simp (disch := omega) only [li_0, li_1, li_2, li_3, li_4, li_5, li_6, li_7, li_8, li_9, li_10, li_11, li_12, li_16, li_19, li_20, li_28, li_48, li_57, li_59, li_60, li_96, li_97, li_99, li_100, li_102, li_103, li_104, li_112, li_115, li_116, li_118, li_119, li_121, li_124, li_132, li_255, li_256, li_1000, li_2000, li_1000000000, iI_add, iI_sub, iI_mul, iI_neg, iI_lt, iI_le, iI_eq, iI_clamp, iI_s, iI_m1, iI_div, bs, tn, tn4, tn12, tn20, tn124, tn28, itT, itF, if_pos, if_neg]
    exact h9
  | succ d ih =>
    intro n x hx hd
    obtain ⟨n, rfl⟩ : ∃ p, n = p + 1 := ⟨n - 1, by omega⟩
    have i1 := ih n (x + 1) (by omega) (by omega)
    have e1 : f_X7_two_L47 2000 (iI j) (iI m) (iI x) (iI 0) S (fun y => k (iI x) y) (fun _ => f_X7_two_L38 n (iI j) (iI m) (iI ((x + 1 : Nat) : Int)) S k k9) = _ := cTwI hc hw hj hs hn p1 h1 (x := x) (by omega) 5 2000 0 (by omega) (by omega)
    rw [f_X7_two_L38, sT2]
    simp (disch := omega) only [li_0, li_1, li_2, li_3, li_4, li_5, li_6, li_7, li_8, li_9, li_10, li_11, li_12, li_16, li_19, li_20, li_28, li_48, li_57, li_59, li_60, li_96, li_97, li_99, li_100, li_102, li_103, li_104, li_112, li_115, li_116, li_118, li_119, li_121, li_124, li_132, li_255, li_256, li_1000, li_2000, li_1000000000, iI_add, iI_sub, iI_mul, iI_neg, iI_lt, iI_le, iI_eq, iI_clamp, iI_s, iI_m1, iI_div, bs, tn, tn4, tn12, tn20, tn124, tn28, itT, itF, if_pos, if_neg]
    rw [e1]
    by_cases c : sTw (tY a j now m) x 5 0 < 0
    · rw [if_pos c, if_pos c]; exact i1
    · rw [if_neg c, if_neg c]; exact hk _ _
theorem rCt {S : St} {a : Nat → Int} {j now : Nat} (hm : ∀ k, k < 132 → S.1 75 k = iI (a k)) (hj : j < 8) (hw : WT a j) (hn : now ≤ 11) (hn1 : a 1 = now) {m : Int} (h1 : 0 ≤ m ∧ m ≤ 99) {x o : Nat} (hx : x < 5) (ho : o < 5) {k : Int32 → Option (Int32 × St)} :
    ∀ d n p : Nat, p + d = 5 → d < n → (f_X8_two_L58 n (iI j) (iI m) (iI x) (iI o) (iI (tY a j now m (x + o))) (iI 0) (iI p) S k = k (iI 0)) ∧ (f_X8_two_L58 n (iI j) (iI m) (iI x) (iI o) (iI (tY a j now m (x + o))) (iI 1) (iI p) S k = k (iI (if sCt (tY a j now m) x o d p = true then 1 else 0))) := by
  have a00 : (iI 0 &&& iI 0 : Int32) = iI 0 := by decide
  have a01 : (iI 0 &&& iI 1 : Int32) = iI 0 := by decide
  have a10 : (iI 1 &&& iI 0 : Int32) = iI 0 := by decide
  have a11 : (iI 1 &&& iI 1 : Int32) = iI 1 := by decide
  intro d
  induction d with
  | zero =>
    intro n p hp hd
    obtain ⟨n, rfl⟩ : ∃ p, n = p + 1 := ⟨n - 1, by omega⟩
    rw [f_X8_two_L58, f_X8_two_L58, sCt]
    exact ⟨by simp (disch := omega) only [li_0, li_1, li_2, li_3, li_4, li_5, li_6, li_7, li_8, li_9, li_10, li_11, li_12, li_16, li_19, li_20, li_28, li_48, li_57, li_59, li_60, li_96, li_97, li_99, li_100, li_102, li_103, li_104, li_112, li_115, li_116, li_118, li_119, li_121, li_124, li_132, li_255, li_256, li_1000, li_2000, li_1000000000, iI_add, iI_sub, iI_mul, iI_neg, iI_lt, iI_le, iI_eq, iI_clamp, iI_s, iI_m1, iI_div, bs, tn, tn4, tn12, tn20, tn124, tn28, itT, itF, if_pos, if_neg], by simp (disch := omega) only [li_0, li_1, li_2, li_3, li_4, li_5, li_6, li_7, li_8, li_9, li_10, li_11, li_12, li_16, li_19, li_20, li_28, li_48, li_57, li_59, li_60, li_96, li_97, li_99, li_100, li_102, li_103, li_104, li_112, li_115, li_116, li_118, li_119, li_121, li_124, li_132, li_255, li_256, li_1000, li_2000, li_1000000000, iI_add, iI_sub, iI_mul, iI_neg, iI_lt, iI_le, iI_eq, iI_clamp, iI_s, iI_m1, iI_div, bs, tn, tn4, tn12, tn20, tn124, tn28, itT, itF, if_pos, if_neg]⟩
  | succ d ih =>
    intro n p hp hd
    obtain ⟨n, rfl⟩ : ∃ p, n = p + 1 := ⟨n - 1, by omega⟩
    obtain ⟨i0, i1⟩ := ih n (p + 1) (by omega) (by omega)
    have e1 : f_X8_yearOf 75 (iI j) (iI m) (iI ((p : Int) + (o : Int))) S = some (iI (tY a j now m (p + o))) := rY hm hj hw hn hn1 (by omega) (by omega)
    have e2 : f_X8_yearOf 75 (iI j) (iI m) (iI ((x : Int) + (p : Int))) S = some (iI (tY a j now m (x + p))) := rY hm hj hw hn hn1 (by omega) (by omega)
    have y0 := tY_le a j now m (x + o)
    have y1 := tY_le a j now m (p + o)
    have y2 := tY_le a j now m (x + p)
    rw [f_X8_two_L58, f_X8_two_L58, sCt]
    by_cases c1 : tY a j now m (x + o) < tY a j now m (p + o)
    · exact ⟨by simp (disch := omega) only [li_0, li_1, li_2, li_3, li_4, li_5, li_6, li_7, li_8, li_9, li_10, li_11, li_12, li_16, li_19, li_20, li_28, li_48, li_57, li_59, li_60, li_96, li_97, li_99, li_100, li_102, li_103, li_104, li_112, li_115, li_116, li_118, li_119, li_121, li_124, li_132, li_255, li_256, li_1000, li_2000, li_1000000000, iI_add, iI_sub, iI_mul, iI_neg, iI_lt, iI_le, iI_eq, iI_clamp, iI_s, iI_m1, iI_div, bs, tn, tn4, tn12, tn20, tn124, tn28, itT, itF, if_pos, if_neg, e1, a00, i0], by simp (disch := omega) only [li_0, li_1, li_2, li_3, li_4, li_5, li_6, li_7, li_8, li_9, li_10, li_11, li_12, li_16, li_19, li_20, li_28, li_48, li_57, li_59, li_60, li_96, li_97, li_99, li_100, li_102, li_103, li_104, li_112, li_115, li_116, li_118, li_119, li_121, li_124, li_132, li_255, li_256, li_1000, li_2000, li_1000000000, iI_add, iI_sub, iI_mul, iI_neg, iI_lt, iI_le, iI_eq, iI_clamp, iI_s, iI_m1, iI_div, bs, tn, tn4, tn12, tn20, tn124, tn28, itT, itF, if_pos, if_neg, e1, a10, i0, Bool.false_eq_true]⟩
    · by_cases c2 : tY a j now m (x + p) < tY a j now m (x + o)
      · exact ⟨by simp (disch := omega) only [li_0, li_1, li_2, li_3, li_4, li_5, li_6, li_7, li_8, li_9, li_10, li_11, li_12, li_16, li_19, li_20, li_28, li_48, li_57, li_59, li_60, li_96, li_97, li_99, li_100, li_102, li_103, li_104, li_112, li_115, li_116, li_118, li_119, li_121, li_124, li_132, li_255, li_256, li_1000, li_2000, li_1000000000, iI_add, iI_sub, iI_mul, iI_neg, iI_lt, iI_le, iI_eq, iI_clamp, iI_s, iI_m1, iI_div, bs, tn, tn4, tn12, tn20, tn124, tn28, itT, itF, if_pos, if_neg, e1, e2, a00, i0], by simp (disch := omega) only [li_0, li_1, li_2, li_3, li_4, li_5, li_6, li_7, li_8, li_9, li_10, li_11, li_12, li_16, li_19, li_20, li_28, li_48, li_57, li_59, li_60, li_96, li_97, li_99, li_100, li_102, li_103, li_104, li_112, li_115, li_116, li_118, li_119, li_121, li_124, li_132, li_255, li_256, li_1000, li_2000, li_1000000000, iI_add, iI_sub, iI_mul, iI_neg, iI_lt, iI_le, iI_eq, iI_clamp, iI_s, iI_m1, iI_div, bs, tn, tn4, tn12, tn20, tn124, tn28, itT, itF, if_pos, if_neg, e1, e2, a10, i0, Bool.false_eq_true]⟩
      · exact ⟨by simp (disch := omega) only [li_0, li_1, li_2, li_3, li_4, li_5, li_6, li_7, li_8, li_9, li_10, li_11, li_12, li_16, li_19, li_20, li_28, li_48, li_57, li_59, li_60, li_96, li_97, li_99, li_100, li_102, li_103, li_104, li_112, li_115, li_116, li_118, li_119, li_121, li_124, li_132, li_255, li_256, li_1000, li_2000, li_1000000000, iI_add, iI_sub, iI_mul, iI_neg, iI_lt, iI_le, iI_eq, iI_clamp, iI_s, iI_m1, iI_div, bs, tn, tn4, tn12, tn20, tn124, tn28, itT, itF, if_pos, if_neg, e1, e2, a01, i0], by simp (disch := omega) only [li_0, li_1, li_2, li_3, li_4, li_5, li_6, li_7, li_8, li_9, li_10, li_11, li_12, li_16, li_19, li_20, li_28, li_48, li_57, li_59, li_60, li_96, li_97, li_99, li_100, li_102, li_103, li_104, li_112, li_115, li_116, li_118, li_119, li_121, li_124, li_132, li_255, li_256, li_1000, li_2000, li_1000000000, iI_add, iI_sub, iI_mul, iI_neg, iI_lt, iI_le, iI_eq, iI_clamp, iI_s, iI_m1, iI_div, bs, tn, tn4, tn12, tn20, tn124, tn28, itT, itF, if_pos, if_neg, e1, e2, a11, i1]⟩
theorem rCt2 {S : St} {a : Nat → Int} {j now : Nat} (hm : ∀ k, k < 132 → S.1 75 k = iI (a k)) (hj : j < 8) (hw : WT a j) (hn : now ≤ 11) (hn1 : a 1 = now) {m : Int} (h1 : 0 ≤ m ∧ m ≤ 99) {x o : Nat} (hx : x < 5) (ho : o < 5) (k : Int32 → Option (Int32 × St)) :
    f_X8_two_L58 2000 (iI j) (iI m) (iI x) (iI o) (iI (tY a j now m (x + o))) (iI 1) (iI ((0 : Nat) : Int)) S k = k (iI (if sCt (tY a j now m) x o 5 0 = true then 1 else 0)) :=
  (rCt hm hj hw hn hn1 h1 hx ho (k := k) 5 2000 0 (by omega) (by omega)).2
theorem rTwI {S : St} {a : Nat → Int} {j now : Nat} (hm : ∀ k, k < 132 → S.1 75 k = iI (a k)) (hj : j < 8) (hw : WT a j) (hn : now ≤ 11) (hn1 : a 1 = now) {m : Int} (h1 : 0 ≤ m ∧ m ≤ 99) {x : Nat} (hx : x < 5) {k : Int32 → Option (Int32 × St)} {k9 : Unit → Option (Int32 × St)} :
    ∀ d n o : Nat, o + d = 5 → d < n → f_X8_two_L30 n (iI j) (iI m) (iI x) (iI o) S k k9 = if sTw (tY a j now m) x d o < 0 then k9 () else k (iI (sTw (tY a j now m) x d o)) := by
  intro d
  induction d with
  | zero =>
    intro n o ho hd
    obtain ⟨n, rfl⟩ : ∃ p, n = p + 1 := ⟨n - 1, by omega⟩
    rw [f_X8_two_L30, sTw, sFst]
    simp (disch := omega) only [li_0, li_1, li_2, li_3, li_4, li_5, li_6, li_7, li_8, li_9, li_10, li_11, li_12, li_16, li_19, li_20, li_28, li_48, li_57, li_59, li_60, li_96, li_97, li_99, li_100, li_102, li_103, li_104, li_112, li_115, li_116, li_118, li_119, li_121, li_124, li_132, li_255, li_256, li_1000, li_2000, li_1000000000, iI_add, iI_sub, iI_mul, iI_neg, iI_lt, iI_le, iI_eq, iI_clamp, iI_s, iI_m1, iI_div, bs, tn, tn4, tn12, tn20, tn124, tn28, itT, itF, if_pos, if_neg]
  | succ d ih =>
    intro n o ho hd
    obtain ⟨n, rfl⟩ : ∃ p, n = p + 1 := ⟨n - 1, by omega⟩
    have i1 := ih n (o + 1) (by omega) (by omega)
    have e1 : f_X8_yearOf 75 (iI j) (iI m) (iI x + iI o) S = some (iI (tY a j now m (x + o))) := by
      rw [iI_add]
      exact rY hm hj hw hn hn1 (by omega) (by omega)
    have e2 := rCt2 hm hj hw hn hn1 h1 hx (o := o) (by omega)
    have e3 : sTw (tY a j now m) x (d + 1) o = if sCt (tY a j now m) x o 5 0 = true then (o : Int) else sTw (tY a j now m) x d (o + 1) := rfl
    have e4 : ¬ (5 : Int32) ≤ iI o := by
      rw [li_5, iI_le (by omega) (by omega) (by omega) (by omega)]; omega
    have e5 : (iI (o : Int) + 1 : Int32) = iI ((o + 1 : Nat) : Int) := by rw [li_1, iI_add]; rfl
    rw [f_X8_two_L30, if_neg e4, e1, bs, e5, show (1 : Int32) = iI 1 from rfl, show (0 : Int32) = iI ((0 : Nat) : Int) from rfl, e2, e3]
    by_cases c : sCt (tY a j now m) x o 5 0 = true
    · rw [if_pos c, if_pos c, if_neg (by decide), if_neg (by omega)]
    · rw [if_neg c, if_neg c, if_pos (show iI 0 = iI ((0 : Nat) : Int) from rfl), i1]
theorem rTwL {S : St} {a : Nat → Int} {j now : Nat} (hm : ∀ k, k < 132 → S.1 75 k = iI (a k)) (hj : j < 8) (hw : WT a j) (hn : now ≤ 11) (hn1 : a 1 = now) {m : Int} (h1 : 0 ≤ m ∧ m ≤ 99) {k : Int32 → Int32 → Option (Int32 × St)} {k9 : Unit → Option (Int32 × St)} {K : Int32 → Option (Int32 × St)} (hk : ∀ x y : Int, k (iI x) (iI y) = K (iI (10 * x + y))) (h9 : k9 () = K (iI (-9))) :
    ∀ d n x : Nat, x + d = 5 → d < n → f_X8_two_L21 n (iI j) (iI m) (iI x) S k k9 = K (iI (sT2 (tY a j now m) d x)) := by
  intro d
  induction d with
  | zero =>
    intro n x hx hd
    obtain ⟨n, rfl⟩ : ∃ p, n = p + 1 := ⟨n - 1, by omega⟩
    rw [f_X8_two_L21, sT2]
    simp (disch := omega) only [li_0, li_1, li_2, li_3, li_4, li_5, li_6, li_7, li_8, li_9, li_10, li_11, li_12, li_16, li_19, li_20, li_28, li_48, li_57, li_59, li_60, li_96, li_97, li_99, li_100, li_102, li_103, li_104, li_112, li_115, li_116, li_118, li_119, li_121, li_124, li_132, li_255, li_256, li_1000, li_2000, li_1000000000, iI_add, iI_sub, iI_mul, iI_neg, iI_lt, iI_le, iI_eq, iI_clamp, iI_s, iI_m1, iI_div, bs, tn, tn4, tn12, tn20, tn124, tn28, itT, itF, if_pos, if_neg]
    exact h9
  | succ d ih =>
    intro n x hx hd
    obtain ⟨n, rfl⟩ : ∃ p, n = p + 1 := ⟨n - 1, by omega⟩
    have i1 := ih n (x + 1) (by omega) (by omega)
    have e1 : f_X8_two_L30 2000 (iI j) (iI m) (iI x) (iI 0) S (fun y => k (iI x) y) (fun _ => f_X8_two_L21 n (iI j) (iI m) (iI ((x + 1 : Nat) : Int)) S k k9) = _ := rTwI hm hj hw hn hn1 h1 (x := x) (by omega) 5 2000 0 (by omega) (by omega)
    rw [f_X8_two_L21, sT2]
    simp (disch := omega) only [li_0, li_1, li_2, li_3, li_4, li_5, li_6, li_7, li_8, li_9, li_10, li_11, li_12, li_16, li_19, li_20, li_28, li_48, li_57, li_59, li_60, li_96, li_97, li_99, li_100, li_102, li_103, li_104, li_112, li_115, li_116, li_118, li_119, li_121, li_124, li_132, li_255, li_256, li_1000, li_2000, li_1000000000, iI_add, iI_sub, iI_mul, iI_neg, iI_lt, iI_le, iI_eq, iI_clamp, iI_s, iI_m1, iI_div, bs, tn, tn4, tn12, tn20, tn124, tn28, itT, itF, if_pos, if_neg]
    rw [e1]
    by_cases c : sTw (tY a j now m) x 5 0 < 0
    · rw [if_pos c, if_pos c]; exact i1
    · rw [if_neg c, if_neg c]; exact hk _ _
theorem e_two {S : St} (hS : Inv S) (a1 : Int32) (a2 : Int32) : ∃ (z1 : Int32 × St) (z2 : Int32 × St), f_X7_two a1 a2 S = some z1 ∧ f_X8_two a1 a2 z1.2 = some z2 ∧ z1.1 = z2.1 ∧ Inv z2.2 := by
  obtain ⟨⟨a, hw, hc, hm0⟩, -⟩ := id hS
  have hm : ∀ k, k < 132 → S.1 75 k = iI (a k) := hm0
  have h8 := hw.1
  have w1 := hw.2.1
  have w2 := hw.2.2.1
  have w3 := hw.2.2.2.1
  obtain ⟨now, hnow⟩ : ∃ n : Nat, a 1 = n := ⟨(a 1).toNat, by omega⟩
  obtain ⟨N, hN⟩ : ∃ n : Nat, a 0 = n := ⟨(a 0).toNat, by omega⟩
  have hn : now ≤ 11 := by omega
  have hN8 : N ≤ 8 := by omega
  have p1 : S.1 1 1 = iI now := by rw [hc.1 1 (by omega), hnow]
  have p0 : S.1 1 0 = iI N := by rw [hc.1 0 (by omega), hN]
  have m0 : S.1 75 0 = iI N := by rw [hm 0 (by omega), hN]
  have m1 : S.1 75 1 = iI now := by rw [hm 1 (by omega), hnow]
  obtain ⟨x, x1, x2, rfl⟩ := iI_any a1
  obtain ⟨y, y1, y2, rfl⟩ := iI_any a2
  have e1 := cLacks hc hw x1 x2
  have e3 := cOut (z := y) (l := 0) (u := 99) y1 y2 (by omega) (by omega) (by omega) (by omega)
  by_cases c : 0 ≤ x ∧ x < a 0
  · obtain ⟨j, rfl⟩ : ∃ n : Nat, x = n := ⟨x.toNat, by omega⟩
    have ht := hc.t (j := j) (by omega) (by omega)
    have hwt := hw.t (j := j) (by omega)
    have e2 := cAt (S := S) (q := 1) (j := j) (by omega)
    by_cases c1 : y < 0
    · exact e_no hS (-4) 4 (by omega) (by omega) (by simp (disch := omega) only [li_0, li_1, li_2, li_3, li_4, li_5, li_6, li_7, li_8, li_9, li_10, li_11, li_12, li_16, li_19, li_20, li_28, li_48, li_57, li_59, li_60, li_96, li_97, li_99, li_100, li_102, li_103, li_104, li_112, li_115, li_116, li_118, li_119, li_121, li_124, li_132, li_255, li_256, li_1000, li_2000, li_1000000000, iI_add, iI_sub, iI_mul, iI_neg, iI_lt, iI_le, iI_eq, iI_clamp, iI_s, iI_m1, iI_div, bs, tn, tn4, tn12, tn20, tn124, tn28, itT, itF, if_pos, if_neg, f_X7_two, e1, e3, bse]) (fun S1 q1 q2 => by
        have g1 := rWrong (S := S1) (by rw [q1]; exact m0) hN8 (z := 0) x1 x2 y1 y2 (by omega) (by omega)
        simp (disch := omega) only [li_0, li_1, li_2, li_3, li_4, li_5, li_6, li_7, li_8, li_9, li_10, li_11, li_12, li_16, li_19, li_20, li_28, li_48, li_57, li_59, li_60, li_96, li_97, li_99, li_100, li_102, li_103, li_104, li_112, li_115, li_116, li_118, li_119, li_121, li_124, li_132, li_255, li_256, li_1000, li_2000, li_1000000000, iI_add, iI_sub, iI_mul, iI_neg, iI_lt, iI_le, iI_eq, iI_clamp, iI_s, iI_m1, iI_div, bs, tn, tn4, tn12, tn20, tn124, tn28, itT, itF, if_pos, if_neg, f_X8_two, g1, bse])
    · by_cases c2 : 99 < y
      · exact e_no hS (-6) 6 (by omega) (by omega) (by simp (disch := omega) only [li_0, li_1, li_2, li_3, li_4, li_5, li_6, li_7, li_8, li_9, li_10, li_11, li_12, li_16, li_19, li_20, li_28, li_48, li_57, li_59, li_60, li_96, li_97, li_99, li_100, li_102, li_103, li_104, li_112, li_115, li_116, li_118, li_119, li_121, li_124, li_132, li_255, li_256, li_1000, li_2000, li_1000000000, iI_add, iI_sub, iI_mul, iI_neg, iI_lt, iI_le, iI_eq, iI_clamp, iI_s, iI_m1, iI_div, bs, tn, tn4, tn12, tn20, tn124, tn28, itT, itF, if_pos, if_neg, f_X7_two, e1, e3, bse]) (fun S1 q1 q2 => by
          have g1 := rWrong (S := S1) (by rw [q1]; exact m0) hN8 (z := 0) x1 x2 y1 y2 (by omega) (by omega)
          simp (disch := omega) only [li_0, li_1, li_2, li_3, li_4, li_5, li_6, li_7, li_8, li_9, li_10, li_11, li_12, li_16, li_19, li_20, li_28, li_48, li_57, li_59, li_60, li_96, li_97, li_99, li_100, li_102, li_103, li_104, li_112, li_115, li_116, li_118, li_119, li_121, li_124, li_132, li_255, li_256, li_1000, li_2000, li_1000000000, iI_add, iI_sub, iI_mul, iI_neg, iI_lt, iI_le, iI_eq, iI_clamp, iI_s, iI_m1, iI_div, bs, tn, tn4, tn12, tn20, tn124, tn28, itT, itF, if_pos, if_neg, f_X8_two, g1, bse])
      · have g1 := rWrong m0 hN8 (z := 0) x1 x2 y1 y2 (by omega) (by omega)
        have e4 : f_X7_two_L38 2000 (iI j) (iI y) (iI 0) S (fun y11 y12 => some ((iI 10 * y11) + y12, S)) (fun _ => some (iI (-9), S)) = some (iI (sT2 (tY a j now y) 5 0), S) := cTwL hc hw (j := j) (by omega) (by omega) hn p1 (by omega) (K := fun v => some (v, S)) (fun x y => by simp (disch := omega) only [li_0, li_1, li_2, li_3, li_4, li_5, li_6, li_7, li_8, li_9, li_10, li_11, li_12, li_16, li_19, li_20, li_28, li_48, li_57, li_59, li_60, li_96, li_97, li_99, li_100, li_102, li_103, li_104, li_112, li_115, li_116, li_118, li_119, li_121, li_124, li_132, li_255, li_256, li_1000, li_2000, li_1000000000, iI_add, iI_sub, iI_mul, iI_neg, iI_lt, iI_le, iI_eq, iI_clamp, iI_s, iI_m1, iI_div, bs, tn, tn4, tn12, tn20, tn124, tn28, itT, itF, if_pos, if_neg]) rfl 5 2000 0 (by omega) (by omega)
        have g4 : f_X8_two_L21 2000 (iI j) (iI y) (iI 0) S (fun y14 y15 => some ((iI 10 * y14) + y15, S)) (fun _ => some (iI (-9), S)) = some (iI (sT2 (tY a j now y) 5 0), S) := rTwL hm (j := j) (by omega) hwt hn hnow (by omega) (K := fun v => some (v, S)) (fun x y => by simp (disch := omega) only [li_0, li_1, li_2, li_3, li_4, li_5, li_6, li_7, li_8, li_9, li_10, li_11, li_12, li_16, li_19, li_20, li_28, li_48, li_57, li_59, li_60, li_96, li_97, li_99, li_100, li_102, li_103, li_104, li_112, li_115, li_116, li_118, li_119, li_121, li_124, li_132, li_255, li_256, li_1000, li_2000, li_1000000000, iI_add, iI_sub, iI_mul, iI_neg, iI_lt, iI_le, iI_eq, iI_clamp, iI_s, iI_m1, iI_div, bs, tn, tn4, tn12, tn20, tn124, tn28, itT, itF, if_pos, if_neg]) rfl 5 2000 0 (by omega) (by omega)
        exact e_mk (v := iI (sT2 (tY a j now y) 5 0)) (S1 := S) (S2 := S) (by simp (disch := omega) only [li_0, li_1, li_2, li_3, li_4, li_5, li_6, li_7, li_8, li_9, li_10, li_11, li_12, li_16, li_19, li_20, li_28, li_48, li_57, li_59, li_60, li_96, li_97, li_99, li_100, li_102, li_103, li_104, li_112, li_115, li_116, li_118, li_119, li_121, li_124, li_132, li_255, li_256, li_1000, li_2000, li_1000000000, iI_add, iI_sub, iI_mul, iI_neg, iI_lt, iI_le, iI_eq, iI_clamp, iI_s, iI_m1, iI_div, bs, tn, tn4, tn12, tn20, tn124, tn28, itT, itF, if_pos, if_neg, f_X7_two, e1, e3, e4]) (by simp (disch := omega) only [li_0, li_1, li_2, li_3, li_4, li_5, li_6, li_7, li_8, li_9, li_10, li_11, li_12, li_16, li_19, li_20, li_28, li_48, li_57, li_59, li_60, li_96, li_97, li_99, li_100, li_102, li_103, li_104, li_112, li_115, li_116, li_118, li_119, li_121, li_124, li_132, li_255, li_256, li_1000, li_2000, li_1000000000, iI_add, iI_sub, iI_mul, iI_neg, iI_lt, iI_le, iI_eq, iI_clamp, iI_s, iI_m1, iI_div, bs, tn, tn4, tn12, tn20, tn124, tn28, itT, itF, if_pos, if_neg, f_X8_two, g1, g4]) hS
  · exact e_no hS (-1) 1 (by omega) (by omega) (by simp (disch := omega) only [li_0, li_1, li_2, li_3, li_4, li_5, li_6, li_7, li_8, li_9, li_10, li_11, li_12, li_16, li_19, li_20, li_28, li_48, li_57, li_59, li_60, li_96, li_97, li_99, li_100, li_102, li_103, li_104, li_112, li_115, li_116, li_118, li_119, li_121, li_124, li_132, li_255, li_256, li_1000, li_2000, li_1000000000, iI_add, iI_sub, iI_mul, iI_neg, iI_lt, iI_le, iI_eq, iI_clamp, iI_s, iI_m1, iI_div, bs, tn, tn4, tn12, tn20, tn124, tn28, itT, itF, if_pos, if_neg, f_X7_two, e1, bse]) (fun S1 q1 q2 => by
      have g1 := rWrong (S := S1) (by rw [q1]; exact m0) hN8 (z := 0) x1 x2 y1 y2 (by omega) (by omega)
      simp (disch := omega) only [li_0, li_1, li_2, li_3, li_4, li_5, li_6, li_7, li_8, li_9, li_10, li_11, li_12, li_16, li_19, li_20, li_28, li_48, li_57, li_59, li_60, li_96, li_97, li_99, li_100, li_102, li_103, li_104, li_112, li_115, li_116, li_118, li_119, li_121, li_124, li_132, li_255, li_256, li_1000, li_2000, li_1000000000, iI_add, iI_sub, iI_mul, iI_neg, iI_lt, iI_le, iI_eq, iI_clamp, iI_s, iI_m1, iI_div, bs, tn, tn4, tn12, tn20, tn124, tn28, itT, itF, if_pos, if_neg, f_X8_two, g1, bse])
-- ===== halves glued to one year =====
def sBt (a : Nat → Int) (i j now y : Nat) : Int := if sFw a i now y < 0 ∨ sFw a j now y < 0 then -9 else sFw a i now y + sFw a j now y
def sTg (f : Nat → Int) : Nat → Int × Int
  | 0 => (-9, -9)
  | x + 1 => if 0 ≤ f x ∧ ((sTg f x).1 = -9 ∨ f x < (sTg f x).1) then (f x, (x : Int)) else sTg f x
theorem sTg_b {f : Nat → Int} : ∀ x, (∀ y, y < x → f y ≤ 190) → (sTg f x = (-9, -9)) ∨ (0 ≤ (sTg f x).1 ∧ (sTg f x).1 ≤ 190 ∧ 0 ≤ (sTg f x).2 ∧ (sTg f x).2 < x) := by
  intro x
  induction x with
  | zero => intro _; exact Or.inl rfl
  | succ x ih =>
    intro h
    have h1 := ih (fun y hy => h y (by omega))
    have h2 := h x (by omega)
    rw [sTg]
    split
    · rename_i c
      right
      show 0 ≤ f x ∧ f x ≤ 190 ∧ 0 ≤ (x : Int) ∧ (x : Int) < ((x + 1 : Nat) : Int)
      omega
    · rcases h1 with h1 | h1
      · exact Or.inl h1
      · right; omega
theorem sBt_b (a : Nat → Int) (i j now y : Nat) : sBt a i j now y = -9 ∨ (0 ≤ sBt a i j now y ∧ sBt a i j now y ≤ 190) := by
  have h1 := sFw_b a i now y
  have h2 := sFw_b a j now y
  rw [sBt]
  split <;> omega
theorem cTgL {S : St} {a : Nat → Int} {i j now : Nat} (hc : RC S 1 a) (hw : WFa a) (hi : i < 8) (his : (i : Int) < a 0) (hj : j < 8) (hs : (j : Int) < a 0) (hn : now ≤ 11) (p1 : S.1 1 1 = iI now) {a3 : Int32} {k : Int32 → Int32 → Option (Int32 × St)} :
    ∀ d n x : Nat, x + d = 12 → d < n → f_X7_together_L78 n (iI i) (iI j) a3 (iI (sTg (sBt a i j now) x).1) (iI (sTg (sBt a i j now) x).2) (iI x) S k = k (iI (sTg (sBt a i j now) 12).1) (iI (sTg (sBt a i j now) 12).2) := by
  intro d
  induction d with
  | zero =>
    intro n x hx hd
    obtain ⟨n, rfl⟩ : ∃ p, n = p + 1 := ⟨n - 1, by omega⟩
    obtain rfl : x = 12 := by omega
    rw [f_X7_together_L78]
    simp (disch := omega) only [li_0, li_1, li_2, li_3, li_4, li_5, li_6, li_7, li_8, li_9, li_10, li_11, li_12, li_16, li_19, li_20, li_28, li_48, li_57, li_59, li_60, li_96, li_97, li_99, li_100, li_102, li_103, li_104, li_112, li_115, li_116, li_118, li_119, li_121, li_124, li_132, li_255, li_256, li_1000, li_2000, li_1000000000, iI_add, iI_sub, iI_mul, iI_neg, iI_lt, iI_le, iI_eq, iI_clamp, iI_s, iI_m1, iI_div, bs, tn, tn4, tn12, tn20, tn124, tn28, itT, itF, if_pos, if_neg]
  | succ d ih =>
    intro n x hx hd
    obtain ⟨n, rfl⟩ : ∃ p, n = p + 1 := ⟨n - 1, by omega⟩
    have i1 := ih n (x + 1) (by omega) (by omega)
    have e1 := cAt (S := S) (q := 1) hi
    have e2 := cAt (S := S) (q := 1) hj
    have e3 := cFew (hc.t hi his) (hw.t hi) hn (y := x) (by omega)
    have e4 := cFew (hc.t hj hs) (hw.t hj) hn (y := x) (by omega)
    have b1 := sFw_b a i now x
    have b2 := sFw_b a j now x
    have b3 := sBt_b a i j now x
    have b4 := sTg_b (f := sBt a i j now) x (fun y _ => by have := sBt_b a i j now y; omega)
    have e5 : f_X7_minutesOfBoth (1 + 1 + 2 + 2 * i) (1 + 1 + 2 + 2 * j) (iI x) S = some (iI (sBt a i j now x)) := by
      by_cases q1 : sFw a i now x = -9
      · simp (disch := omega) only [li_0, li_1, li_2, li_3, li_4, li_5, li_6, li_7, li_8, li_9, li_10, li_11, li_12, li_16, li_19, li_20, li_28, li_48, li_57, li_59, li_60, li_96, li_97, li_99, li_100, li_102, li_103, li_104, li_112, li_115, li_116, li_118, li_119, li_121, li_124, li_132, li_255, li_256, li_1000, li_2000, li_1000000000, iI_add, iI_sub, iI_mul, iI_neg, iI_lt, iI_le, iI_eq, iI_clamp, iI_s, iI_m1, iI_div, bs, tn, tn4, tn12, tn20, tn124, tn28, itT, itF, if_pos, if_neg, f_X7_minutesOfBoth, p1, e3, e4, sBt]
      · by_cases q2 : sFw a j now x = -9
        · simp (disch := omega) only [li_0, li_1, li_2, li_3, li_4, li_5, li_6, li_7, li_8, li_9, li_10, li_11, li_12, li_16, li_19, li_20, li_28, li_48, li_57, li_59, li_60, li_96, li_97, li_99, li_100, li_102, li_103, li_104, li_112, li_115, li_116, li_118, li_119, li_121, li_124, li_132, li_255, li_256, li_1000, li_2000, li_1000000000, iI_add, iI_sub, iI_mul, iI_neg, iI_lt, iI_le, iI_eq, iI_clamp, iI_s, iI_m1, iI_div, bs, tn, tn4, tn12, tn20, tn124, tn28, itT, itF, if_pos, if_neg, f_X7_minutesOfBoth, p1, e3, e4, sBt]
        · simp (disch := omega) only [li_0, li_1, li_2, li_3, li_4, li_5, li_6, li_7, li_8, li_9, li_10, li_11, li_12, li_16, li_19, li_20, li_28, li_48, li_57, li_59, li_60, li_96, li_97, li_99, li_100, li_102, li_103, li_104, li_112, li_115, li_116, li_118, li_119, li_121, li_124, li_132, li_255, li_256, li_1000, li_2000, li_1000000000, iI_add, iI_sub, iI_mul, iI_neg, iI_lt, iI_le, iI_eq, iI_clamp, iI_s, iI_m1, iI_div, bs, tn, tn4, tn12, tn20, tn124, tn28, itT, itF, if_pos, if_neg, f_X7_minutesOfBoth, p1, e3, e4, sBt]
    rw [sTg] at i1
    rw [f_X7_together_L78]
    have b5 : (sTg (sBt a i j now) x).1 = -9 ∨ (0 ≤ (sTg (sBt a i j now) x).1 ∧ (sTg (sBt a i j now) x).1 ≤ 190) := by
      rcases b4 with h | h
      · left; rw [h]
      · right; omega
    by_cases c1 : sBt a i j now x = -9
    · rw [if_neg (by omega)] at i1
      simp (disch := omega) only [li_0, li_1, li_2, li_3, li_4, li_5, li_6, li_7, li_8, li_9, li_10, li_11, li_12, li_16, li_19, li_20, li_28, li_48, li_57, li_59, li_60, li_96, li_97, li_99, li_100, li_102, li_103, li_104, li_112, li_115, li_116, li_118, li_119, li_121, li_124, li_132, li_255, li_256, li_1000, li_2000, li_1000000000, iI_add, iI_sub, iI_mul, iI_neg, iI_lt, iI_le, iI_eq, iI_clamp, iI_s, iI_m1, iI_div, bs, tn, tn4, tn12, tn20, tn124, tn28, itT, itF, if_pos, if_neg, e1, e2, e5, i1]
    · by_cases c2 : (sTg (sBt a i j now) x).1 = -9
      · rw [if_pos (by omega)] at i1
        simp (disch := omega) only [li_0, li_1, li_2, li_3, li_4, li_5, li_6, li_7, li_8, li_9, li_10, li_11, li_12, li_16, li_19, li_20, li_28, li_48, li_57, li_59, li_60, li_96, li_97, li_99, li_100, li_102, li_103, li_104, li_112, li_115, li_116, li_118, li_119, li_121, li_124, li_132, li_255, li_256, li_1000, li_2000, li_1000000000, iI_add, iI_sub, iI_mul, iI_neg, iI_lt, iI_le, iI_eq, iI_clamp, iI_s, iI_m1, iI_div, bs, tn, tn4, tn12, tn20, tn124, tn28, itT, itF, if_pos, if_neg, e1, e2, e5, i1]
      · by_cases c3 : sBt a i j now x < (sTg (sBt a i j now) x).1
        · rw [if_pos (by omega)] at i1
          simp (disch := omega) only [li_0, li_1, li_2, li_3, li_4, li_5, li_6, li_7, li_8, li_9, li_10, li_11, li_12, li_16, li_19, li_20, li_28, li_48, li_57, li_59, li_60, li_96, li_97, li_99, li_100, li_102, li_103, li_104, li_112, li_115, li_116, li_118, li_119, li_121, li_124, li_132, li_255, li_256, li_1000, li_2000, li_1000000000, iI_add, iI_sub, iI_mul, iI_neg, iI_lt, iI_le, iI_eq, iI_clamp, iI_s, iI_m1, iI_div, bs, tn, tn4, tn12, tn20, tn124, tn28, itT, itF, if_pos, if_neg, e1, e2, e5, i1]
        · rw [if_neg (by omega)] at i1
          simp (disch := omega) only [li_0, li_1, li_2, li_3, li_4, li_5, li_6, li_7, li_8, li_9, li_10, li_11, li_12, li_16, li_19, li_20, li_28, li_48, li_57, li_59, li_60, li_96, li_97, li_99, li_100, li_102, li_103, li_104, li_112, li_115, li_116, li_118, li_119, li_121, li_124, li_132, li_255, li_256, li_1000, li_2000, li_1000000000, iI_add, iI_sub, iI_mul, iI_neg, iI_lt, iI_le, iI_eq, iI_clamp, iI_s, iI_m1, iI_div, bs, tn, tn4, tn12, tn20, tn124, tn28, itT, itF, if_pos, if_neg, e1, e2, e5, i1]
theorem rTgL {S : St} {a : Nat → Int} {i j now : Nat} (hm : ∀ k, k < 132 → S.1 75 k = iI (a k)) (hw : WFa a) (hi : i < 8) (hj : j < 8) (hn : now ≤ 11) (hn1 : a 1 = now) {a3 : Int32} {k : Int32 → Int32 → Option (Int32 × St)} :
    ∀ d n x : Nat, x + d = 12 → d < n → f_X8_together_L73 n (iI i) (iI j) a3 (iI (sTg (sBt a i j now) x).2) (iI (if (sTg (sBt a i j now) x).1 = -9 then 1000000000 else (sTg (sBt a i j now) x).1)) (iI x) S k = k (iI (sTg (sBt a i j now) 12).2) (iI (if (sTg (sBt a i j now) 12).1 = -9 then 1000000000 else (sTg (sBt a i j now) 12).1)) := by
  intro d
  induction d with
  | zero =>
    intro n x hx hd
    obtain ⟨n, rfl⟩ : ∃ p, n = p + 1 := ⟨n - 1, by omega⟩
    obtain rfl : x = 12 := by omega
    rw [f_X8_together_L73]
    simp (disch := omega) only [li_0, li_1, li_2, li_3, li_4, li_5, li_6, li_7, li_8, li_9, li_10, li_11, li_12, li_16, li_19, li_20, li_28, li_48, li_57, li_59, li_60, li_96, li_97, li_99, li_100, li_102, li_103, li_104, li_112, li_115, li_116, li_118, li_119, li_121, li_124, li_132, li_255, li_256, li_1000, li_2000, li_1000000000, iI_add, iI_sub, iI_mul, iI_neg, iI_lt, iI_le, iI_eq, iI_clamp, iI_s, iI_m1, iI_div, bs, tn, tn4, tn12, tn20, tn124, tn28, itT, itF, if_pos, if_neg]
  | succ d ih =>
    intro n x hx hd
    obtain ⟨n, rfl⟩ : ∃ p, n = p + 1 := ⟨n - 1, by omega⟩
    have i1 := ih n (x + 1) (by omega) (by omega)
    have e3 := rFew hm hi (hw.t hi) hn hn1 (y := x) (by omega)
    have e4 := rFew hm hj (hw.t hj) hn hn1 (y := x) (by omega)
    have b1 := sFw_b a i now x
    have b2 := sFw_b a j now x
    have b3 := sBt_b a i j now x
    have b4 := sTg_b (f := sBt a i j now) x (fun y _ => by have := sBt_b a i j now y; omega)
    have b5 : (sTg (sBt a i j now) x).1 = -9 ∨ (0 ≤ (sTg (sBt a i j now) x).1 ∧ (sTg (sBt a i j now) x).1 ≤ 190) := by
      rcases b4 with h | h
      · left; rw [h]
      · right; omega
    rw [sTg] at i1
    rw [f_X8_together_L73]
    by_cases q1 : sFw a i now x < 0
    · have e : sBt a i j now x = -9 := if_pos (Or.inl q1)
      rw [if_neg (by omega)] at i1
      simp (disch := omega) only [li_0, li_1, li_2, li_3, li_4, li_5, li_6, li_7, li_8, li_9, li_10, li_11, li_12, li_16, li_19, li_20, li_28, li_48, li_57, li_59, li_60, li_96, li_97, li_99, li_100, li_102, li_103, li_104, li_112, li_115, li_116, li_118, li_119, li_121, li_124, li_132, li_255, li_256, li_1000, li_2000, li_1000000000, iI_add, iI_sub, iI_mul, iI_neg, iI_lt, iI_le, iI_eq, iI_clamp, iI_s, iI_m1, iI_div, bs, tn, tn4, tn12, tn20, tn124, tn28, itT, itF, if_pos, if_neg, e3, e4, i1]
    · by_cases q2 : sFw a j now x < 0
      · have e : sBt a i j now x = -9 := if_pos (Or.inr q2)
        rw [if_neg (by omega)] at i1
        simp (disch := omega) only [li_0, li_1, li_2, li_3, li_4, li_5, li_6, li_7, li_8, li_9, li_10, li_11, li_12, li_16, li_19, li_20, li_28, li_48, li_57, li_59, li_60, li_96, li_97, li_99, li_100, li_102, li_103, li_104, li_112, li_115, li_116, li_118, li_119, li_121, li_124, li_132, li_255, li_256, li_1000, li_2000, li_1000000000, iI_add, iI_sub, iI_mul, iI_neg, iI_lt, iI_le, iI_eq, iI_clamp, iI_s, iI_m1, iI_div, bs, tn, tn4, tn12, tn20, tn124, tn28, itT, itF, if_pos, if_neg, e3, e4, i1]
      · have e : sBt a i j now x = sFw a i now x + sFw a j now x := if_neg (by omega)
        by_cases c2 : (sTg (sBt a i j now) x).1 = -9
        · rw [if_pos (by omega)] at i1
          rw [if_pos c2]
          rw [e, if_neg (by show ¬ (sFw a i now x + sFw a j now x = -9); omega)] at i1
          simp (disch := omega) only [li_0, li_1, li_2, li_3, li_4, li_5, li_6, li_7, li_8, li_9, li_10, li_11, li_12, li_16, li_19, li_20, li_28, li_48, li_57, li_59, li_60, li_96, li_97, li_99, li_100, li_102, li_103, li_104, li_112, li_115, li_116, li_118, li_119, li_121, li_124, li_132, li_255, li_256, li_1000, li_2000, li_1000000000, iI_add, iI_sub, iI_mul, iI_neg, iI_lt, iI_le, iI_eq, iI_clamp, iI_s, iI_m1, iI_div, bs, tn, tn4, tn12, tn20, tn124, tn28, itT, itF, if_pos, if_neg, e3, e4, i1]
        · rw [if_neg c2]
          by_cases c3 : sBt a i j now x < (sTg (sBt a i j now) x).1
          · rw [if_pos (by omega)] at i1
            rw [e, if_neg (by show ¬ (sFw a i now x + sFw a j now x = -9); omega)] at i1
            simp (disch := omega) only [li_0, li_1, li_2, li_3, li_4, li_5, li_6, li_7, li_8, li_9, li_10, li_11, li_12, li_16, li_19, li_20, li_28, li_48, li_57, li_59, li_60, li_96, li_97, li_99, li_100, li_102, li_103, li_104, li_112, li_115, li_116, li_118, li_119, li_121, li_124, li_132, li_255, li_256, li_1000, li_2000, li_1000000000, iI_add, iI_sub, iI_mul, iI_neg, iI_lt, iI_le, iI_eq, iI_clamp, iI_s, iI_m1, iI_div, bs, tn, tn4, tn12, tn20, tn124, tn28, itT, itF, if_pos, if_neg, e3, e4, i1]
          · rw [if_neg (by omega), if_neg c2] at i1
            simp (disch := omega) only [li_0, li_1, li_2, li_3, li_4, li_5, li_6, li_7, li_8, li_9, li_10, li_11, li_12, li_16, li_19, li_20, li_28, li_48, li_57, li_59, li_60, li_96, li_97, li_99, li_100, li_102, li_103, li_104, li_112, li_115, li_116, li_118, li_119, li_121, li_124, li_132, li_255, li_256, li_1000, li_2000, li_1000000000, iI_add, iI_sub, iI_mul, iI_neg, iI_lt, iI_le, iI_eq, iI_clamp, iI_s, iI_m1, iI_div, bs, tn, tn4, tn12, tn20, tn124, tn28, itT, itF, if_pos, if_neg, e3, e4, i1]
theorem e_together {S : St} (hS : Inv S) (a1 : Int32) (a2 : Int32) (a3 : Int32) : ∃ (z1 : Int32 × St) (z2 : Int32 × St), f_X7_together a1 a2 a3 S = some z1 ∧ f_X8_together a1 a2 a3 z1.2 = some z2 ∧ z1.1 = z2.1 ∧ Inv z2.2 := by
  obtain ⟨⟨a, hw, hc, hm0⟩, -⟩ := id hS
  have hm : ∀ k, k < 132 → S.1 75 k = iI (a k) := hm0
  have h8 := hw.1
  have w1 := hw.2.1
  have w2 := hw.2.2.1
  have w3 := hw.2.2.2.1
  obtain ⟨now, hnow⟩ : ∃ n : Nat, a 1 = n := ⟨(a 1).toNat, by omega⟩
  obtain ⟨N, hN⟩ : ∃ n : Nat, a 0 = n := ⟨(a 0).toNat, by omega⟩
  have hn : now ≤ 11 := by omega
  have hN8 : N ≤ 8 := by omega
  have p1 : S.1 1 1 = iI now := by rw [hc.1 1 (by omega), hnow]
  have p0 : S.1 1 0 = iI N := by rw [hc.1 0 (by omega), hN]
  have m0 : S.1 75 0 = iI N := by rw [hm 0 (by omega), hN]
  have m1 : S.1 75 1 = iI now := by rw [hm 1 (by omega), hnow]
  obtain ⟨x, x1, x2, rfl⟩ := iI_any a1
  obtain ⟨y, y1, y2, rfl⟩ := iI_any a2
  obtain ⟨z, z1, z2, rfl⟩ := iI_any a3
  have e1 := cLacksTwo hc hw x1 x2 y1 y2
  have e3 := cTwo z1 z2
  have g3 := rIn (x := z) (l := 0) (u := 1) z1 z2 (by omega) (by omega) (by omega) (by omega)
  by_cases c : (0 ≤ x ∧ x < a 0) ∧ (0 ≤ y ∧ y < a 0) ∧ x ≠ y
  · obtain ⟨i, rfl⟩ : ∃ n : Nat, x = n := ⟨x.toNat, by omega⟩
    obtain ⟨j, rfl⟩ : ∃ n : Nat, y = n := ⟨y.toNat, by omega⟩
    by_cases c1 : 0 ≤ z ∧ z ≤ 1
    · have a1' := cAt (S := S) (q := 1) (j := i) (by omega)
      have a2' := cAt (S := S) (q := 1) (j := j) (by omega)
      have s1 := cSet (hc.t (j := i) (by omega) (by omega)) (hw.t (by omega))
      have s2 := cSet (hc.t (j := j) (by omega) (by omega)) (hw.t (by omega))
      have k1 := (hw.t (j := i) (by omega)).2.2.1
      have k2 := (hw.t (j := j) (by omega)).2.2.1
      by_cases c2 : a (20 + i) < 0
      · by_cases c3 : a (20 + j) < 0
        · have g1 : f_X8_areTwo (iI i) (iI j) S = some (iI 1) := by rw [rTwo m0 hN8 x1 x2 y1 y2, if_pos (by omega)]
          have g3' : f_X8_isIn (iI z) (iI 0) (iI 1) = some (iI 1) := by rw [g3, if_pos c1]
          have e4 : ∀ k, f_X7_together_L78 2000 (iI i) (iI j) (iI z) (iI (-9)) (iI (-9)) (iI 0) S k = _ := fun k => cTgL hc hw (i := i) (j := j) (by omega) (by omega) (by omega) (by omega) hn p1 (k := k) 12 2000 0 (by omega) (by omega)
          have g4 : ∀ k, f_X8_together_L73 2000 (iI i) (iI j) (iI z) (iI (-9)) (iI 1000000000) (iI 0) S k = _ := fun k => rTgL hm hw (i := i) (j := j) (by omega) (by omega) hn hnow (k := k) 12 2000 0 (by omega) (by omega)
          have b4 := sTg_b (f := sBt a i j now) 12 (fun y _ => by have := sBt_b a i j now y; omega)
          have m2 := hm (20 + i) (by omega)
          have m3 := hm (20 + j) (by omega)
          have f1 : f_X7_together (iI i) (iI j) (iI z) S = some (iI (if z = 0 then (sTg (sBt a i j now) 12).1 else (sTg (sBt a i j now) 12).2), S) := by
            by_cases cz : z = 0
            · simp (disch := omega) only [li_0, li_1, li_2, li_3, li_4, li_5, li_6, li_7, li_8, li_9, li_10, li_11, li_12, li_16, li_19, li_20, li_28, li_48, li_57, li_59, li_60, li_96, li_97, li_99, li_100, li_102, li_103, li_104, li_112, li_115, li_116, li_118, li_119, li_121, li_124, li_132, li_255, li_256, li_1000, li_2000, li_1000000000, iI_add, iI_sub, iI_mul, iI_neg, iI_lt, iI_le, iI_eq, iI_clamp, iI_s, iI_m1, iI_div, bs, tn, tn4, tn12, tn20, tn124, tn28, itT, itF, if_pos, if_neg, f_X7_together, e1, e3, a1', a2', s1, s2]
              rw [e4]
            · simp (disch := omega) only [li_0, li_1, li_2, li_3, li_4, li_5, li_6, li_7, li_8, li_9, li_10, li_11, li_12, li_16, li_19, li_20, li_28, li_48, li_57, li_59, li_60, li_96, li_97, li_99, li_100, li_102, li_103, li_104, li_112, li_115, li_116, li_118, li_119, li_121, li_124, li_132, li_255, li_256, li_1000, li_2000, li_1000000000, iI_add, iI_sub, iI_mul, iI_neg, iI_lt, iI_le, iI_eq, iI_clamp, iI_s, iI_m1, iI_div, bs, tn, tn4, tn12, tn20, tn124, tn28, itT, itF, if_pos, if_neg, f_X7_together, e1, e3, a1', a2', s1, s2]
              rw [e4]
          have f2 : f_X8_together (iI i) (iI j) (iI z) S = some (iI (if z = 0 then (sTg (sBt a i j now) 12).1 else (sTg (sBt a i j now) 12).2), S) := by
            rw [f_X8_together, g1, bs, if_neg (by decide), show (0 : Int32) = iI 0 from rfl, show (1 : Int32) = iI 1 from rfl, g3', bs, if_neg (by decide)]
            simp (disch := omega) only [li_0, li_1, li_2, li_3, li_4, li_5, li_6, li_7, li_8, li_9, li_10, li_11, li_12, li_16, li_19, li_20, li_28, li_48, li_57, li_59, li_60, li_96, li_97, li_99, li_100, li_102, li_103, li_104, li_112, li_115, li_116, li_118, li_119, li_121, li_124, li_132, li_255, li_256, li_1000, li_2000, li_1000000000, iI_add, iI_sub, iI_mul, iI_neg, iI_lt, iI_le, iI_eq, iI_clamp, iI_s, iI_m1, iI_div, bs, tn, tn4, tn12, tn20, tn124, tn28, itT, itF, if_pos, if_neg, m2, m3]
            rw [g4]
            rcases b4 with h | h
            · rw [h]
              by_cases cz : z = 0
              · rw [if_pos (by decide), if_pos cz]
              · rw [if_pos (by decide), if_neg cz]
            · rw [if_neg (by rw [iI_lt (by omega) (by omega) (by omega) (by omega)]; omega), if_neg (show ¬ (sTg (sBt a i j now) 12).1 = -9 by omega)]
              by_cases cz : z = 0
              · rw [if_neg (show ¬ z = 1 by omega), if_pos cz]
              · rw [if_pos (show z = 1 by omega), if_neg cz]
          exact e_mk f1 f2 hS
        · exact e_no hS (-3) 3 (by omega) (by omega) (by simp (disch := omega) only [li_0, li_1, li_2, li_3, li_4, li_5, li_6, li_7, li_8, li_9, li_10, li_11, li_12, li_16, li_19, li_20, li_28, li_48, li_57, li_59, li_60, li_96, li_97, li_99, li_100, li_102, li_103, li_104, li_112, li_115, li_116, li_118, li_119, li_121, li_124, li_132, li_255, li_256, li_1000, li_2000, li_1000000000, iI_add, iI_sub, iI_mul, iI_neg, iI_lt, iI_le, iI_eq, iI_clamp, iI_s, iI_m1, iI_div, bs, tn, tn4, tn12, tn20, tn124, tn28, itT, itF, if_pos, if_neg, f_X7_together, e1, e3, a1', a2', s1, s2, bse]) (fun S1 q1 q2 => by
            have hmm : ∀ k, k < 132 → S1.1 75 k = iI (a k) := fun k hk => by rw [q1]; exact hm k hk
            have m2 := hmm (20 + i) (by omega)
            have m3 := hmm (20 + j) (by omega)
            have g1 : f_X8_areTwo (iI i) (iI j) S1 = some (iI 1) := by rw [rTwo (S := S1) (by rw [q1]; exact m0) hN8 x1 x2 y1 y2, if_pos (by omega)]
            simp (disch := omega) only [li_0, li_1, li_2, li_3, li_4, li_5, li_6, li_7, li_8, li_9, li_10, li_11, li_12, li_16, li_19, li_20, li_28, li_48, li_57, li_59, li_60, li_96, li_97, li_99, li_100, li_102, li_103, li_104, li_112, li_115, li_116, li_118, li_119, li_121, li_124, li_132, li_255, li_256, li_1000, li_2000, li_1000000000, iI_add, iI_sub, iI_mul, iI_neg, iI_lt, iI_le, iI_eq, iI_clamp, iI_s, iI_m1, iI_div, bs, tn, tn4, tn12, tn20, tn124, tn28, itT, itF, if_pos, if_neg, f_X8_together, g1, g3, m2, m3, bse])
      · exact e_no hS (-3) 3 (by omega) (by omega) (by simp (disch := omega) only [li_0, li_1, li_2, li_3, li_4, li_5, li_6, li_7, li_8, li_9, li_10, li_11, li_12, li_16, li_19, li_20, li_28, li_48, li_57, li_59, li_60, li_96, li_97, li_99, li_100, li_102, li_103, li_104, li_112, li_115, li_116, li_118, li_119, li_121, li_124, li_132, li_255, li_256, li_1000, li_2000, li_1000000000, iI_add, iI_sub, iI_mul, iI_neg, iI_lt, iI_le, iI_eq, iI_clamp, iI_s, iI_m1, iI_div, bs, tn, tn4, tn12, tn20, tn124, tn28, itT, itF, if_pos, if_neg, f_X7_together, e1, e3, a1', a2', s1, s2, bse]) (fun S1 q1 q2 => by
          have hmm : ∀ k, k < 132 → S1.1 75 k = iI (a k) := fun k hk => by rw [q1]; exact hm k hk
          have m2 := hmm (20 + i) (by omega)
          have g1 : f_X8_areTwo (iI i) (iI j) S1 = some (iI 1) := by rw [rTwo (S := S1) (by rw [q1]; exact m0) hN8 x1 x2 y1 y2, if_pos (by omega)]
          simp (disch := omega) only [li_0, li_1, li_2, li_3, li_4, li_5, li_6, li_7, li_8, li_9, li_10, li_11, li_12, li_16, li_19, li_20, li_28, li_48, li_57, li_59, li_60, li_96, li_97, li_99, li_100, li_102, li_103, li_104, li_112, li_115, li_116, li_118, li_119, li_121, li_124, li_132, li_255, li_256, li_1000, li_2000, li_1000000000, iI_add, iI_sub, iI_mul, iI_neg, iI_lt, iI_le, iI_eq, iI_clamp, iI_s, iI_m1, iI_div, bs, tn, tn4, tn12, tn20, tn124, tn28, itT, itF, if_pos, if_neg, f_X8_together, g1, g3, m2, bse])
    · exact e_no hS (-2) 2 (by omega) (by omega) (by simp (disch := omega) only [li_0, li_1, li_2, li_3, li_4, li_5, li_6, li_7, li_8, li_9, li_10, li_11, li_12, li_16, li_19, li_20, li_28, li_48, li_57, li_59, li_60, li_96, li_97, li_99, li_100, li_102, li_103, li_104, li_112, li_115, li_116, li_118, li_119, li_121, li_124, li_132, li_255, li_256, li_1000, li_2000, li_1000000000, iI_add, iI_sub, iI_mul, iI_neg, iI_lt, iI_le, iI_eq, iI_clamp, iI_s, iI_m1, iI_div, bs, tn, tn4, tn12, tn20, tn124, tn28, itT, itF, if_pos, if_neg, f_X7_together, e1, e3, bse]) (fun S1 q1 q2 => by
        have g1 : f_X8_areTwo (iI i) (iI j) S1 = some (iI 1) := by rw [rTwo (S := S1) (by rw [q1]; exact m0) hN8 x1 x2 y1 y2, if_pos (by omega)]
        simp (disch := omega) only [li_0, li_1, li_2, li_3, li_4, li_5, li_6, li_7, li_8, li_9, li_10, li_11, li_12, li_16, li_19, li_20, li_28, li_48, li_57, li_59, li_60, li_96, li_97, li_99, li_100, li_102, li_103, li_104, li_112, li_115, li_116, li_118, li_119, li_121, li_124, li_132, li_255, li_256, li_1000, li_2000, li_1000000000, iI_add, iI_sub, iI_mul, iI_neg, iI_lt, iI_le, iI_eq, iI_clamp, iI_s, iI_m1, iI_div, bs, tn, tn4, tn12, tn20, tn124, tn28, itT, itF, if_pos, if_neg, f_X8_together, g1, g3, bse])
  · exact e_no hS (-1) 1 (by omega) (by omega) (by simp (disch := omega) only [li_0, li_1, li_2, li_3, li_4, li_5, li_6, li_7, li_8, li_9, li_10, li_11, li_12, li_16, li_19, li_20, li_28, li_48, li_57, li_59, li_60, li_96, li_97, li_99, li_100, li_102, li_103, li_104, li_112, li_115, li_116, li_118, li_119, li_121, li_124, li_132, li_255, li_256, li_1000, li_2000, li_1000000000, iI_add, iI_sub, iI_mul, iI_neg, iI_lt, iI_le, iI_eq, iI_clamp, iI_s, iI_m1, iI_div, bs, tn, tn4, tn12, tn20, tn124, tn28, itT, itF, if_pos, if_neg, f_X7_together, e1, bse]) (fun S1 q1 q2 => by
      have g1 := rTwo (S := S1) (by rw [q1]; exact m0) hN8 x1 x2 y1 y2
      simp (disch := omega) only [li_0, li_1, li_2, li_3, li_4, li_5, li_6, li_7, li_8, li_9, li_10, li_11, li_12, li_16, li_19, li_20, li_28, li_48, li_57, li_59, li_60, li_96, li_97, li_99, li_100, li_102, li_103, li_104, li_112, li_115, li_116, li_118, li_119, li_121, li_124, li_132, li_255, li_256, li_1000, li_2000, li_1000000000, iI_add, iI_sub, iI_mul, iI_neg, iI_lt, iI_le, iI_eq, iI_clamp, iI_s, iI_m1, iI_div, bs, tn, tn4, tn12, tn20, tn124, tn28, itT, itF, if_pos, if_neg, f_X8_together, g1, bse])
