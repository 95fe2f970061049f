-- ===== the text =====
/-- the letter at p; -1 behind the end -/
def ltr (L : Nat → Int) (n p : Nat) : Int := if p < n then L p else -1
def IT (S : St) (L : Nat → Int) (n : Nat) : Prop := n ≤ 96 ∧ (∀ p, p < n → 0 ≤ L p ∧ L p ≤ 255) ∧ S.1 60 1 = iI n ∧ ∀ p, p < n → S.1 61 p = iI (L p)
def IR (S : St) (L : Nat → Int) (n : Nat) : Prop := n ≤ 96 ∧ (∀ p, p < n → 0 ≤ L p ∧ L p ≤ 255) ∧ S.1 74 8 = iI n ∧ ∀ p, p < n → S.1 79 p = iI (L p)
def dig (L : Nat → Int) (n p : Nat) : Prop := 48 ≤ ltr L n p ∧ ltr L n p ≤ 57
def scan (l : Nat → Int) : Nat → Nat → Int
  | 0, x => if l x = 59 then -9 else (x : Int)
  | d + 1, x => if 48 ≤ l x ∧ l x ≤ 57 then scan l d (x + 1) else (x : Int)
def parts (c : Int) : Nat := if c = 100 then 2 else if c = 103 then 5 else if c = 104 then 2 else if c = 115 then 4 else if c = 116 then 2 else if c = 118 then 7 else if c = 121 then 2 else 0
def kdOf (c : Int) : Int := if c = 116 then 0 else if c = 99 then 1 else if c = 100 then 2 else if c = 112 then 3 else if c = 102 then 4 else if c = 119 then 5 else if c < 0 then -9 else -1
def mis (l : Nat → Int) (p : Nat) : Int := if parts (l p) = 0 then (p : Int) else if l p = 116 then (if 0 ≤ kdOf (l (p + 1)) then scan l 1 (p + 2) else ((p + 1 : Nat) : Int)) else scan l (parts (l p)) (p + 1)
theorem ltr_b {L : Nat → Int} {n : Nat} (h : ∀ p, p < n → 0 ≤ L p ∧ L p ≤ 255) (p : Nat) : -1 ≤ ltr L n p ∧ ltr L n p ≤ 255 := by
  unfold ltr
  by_cases c : p < n
  · rw [if_pos c]; have := h p c; omega
  · rw [if_neg c]; omega
theorem scan_b (l : Nat → Int) : ∀ d x, scan l d x = -9 ∨ ((x : Int) ≤ scan l d x ∧ scan l d x ≤ (x : Int) + d) := by
  intro d
  induction d with
  | zero =>
    intro x
    rw [scan]
    by_cases c : l x = 59
    · rw [if_pos c]; exact Or.inl rfl
    · rw [if_neg c]; right; omega
  | succ d ih =>
    intro x
    rw [scan]
    by_cases c : 48 ≤ l x ∧ l x ≤ 57
    · rw [if_pos c]
      rcases ih (x + 1) with h | h
      · exact Or.inl h
      · right; omega
    · rw [if_neg c]; right; omega
theorem scan_s {l : Nat → Int} {d x : Nat} (h : scan l (d + 1) x = -9) : (48 ≤ l x ∧ l x ≤ 57) ∧ scan l d (x + 1) = -9 := by
  rw [scan] at h
  by_cases c : 48 ≤ l x ∧ l x ≤ 57
  · rw [if_pos c] at h; exact ⟨c, h⟩
  · rw [if_neg c] at h; omega
theorem parts_b (c : Int) : parts c ≤ 7 ∧ (parts c = 0 ∨ 2 ≤ parts c) := by
  unfold parts
  repeat (first | omega | split)
section TX
variable {S : St} {L : Nat → Int} {n : Nat}
theorem cLtr (h : IT S L n) {p : Int} (h0 : 0 ≤ p) (h1 : p ≤ 999) : f_X5_letterAt (iI p) S = some (iI (ltr L n p.toNat)) := by
  obtain ⟨k1, k2, k3, k4⟩ := h
  by_cases c : p.toNat < n
  · have e1 := k4 p.toNat c
    have e2 : ltr L n p.toNat = L p.toNat := if_pos c
    rw [e2]
    simp (disch := omega) only [li_0, li_1, li_2, li_3, li_4, li_5, li_6, li_7, li_8, li_9, li_10, li_11, li_12, li_16, li_19, li_20, li_28, li_48, li_57, li_59, li_60, li_96, li_97, li_99, li_100, li_102, li_103, li_104, li_112, li_115, li_116, li_118, li_119, li_121, li_124, li_132, li_255, li_256, li_1000, li_2000, li_1000000000, iI_add, iI_sub, iI_mul, iI_neg, iI_lt, iI_le, iI_eq, iI_clamp, iI_s, iI_m1, iI_div, bs, tn, tn4, tn12, tn20, tn124, tn28, itT, itF, if_pos, if_neg, f_X5_letterAt, k3, e1]
  · have e2 : ltr L n p.toNat = -1 := if_neg c
    rw [e2]
    simp (disch := omega) only [li_0, li_1, li_2, li_3, li_4, li_5, li_6, li_7, li_8, li_9, li_10, li_11, li_12, li_16, li_19, li_20, li_28, li_48, li_57, li_59, li_60, li_96, li_97, li_99, li_100, li_102, li_103, li_104, li_112, li_115, li_116, li_118, li_119, li_121, li_124, li_132, li_255, li_256, li_1000, li_2000, li_1000000000, iI_add, iI_sub, iI_mul, iI_neg, iI_lt, iI_le, iI_eq, iI_clamp, iI_s, iI_m1, iI_div, bs, tn, tn4, tn12, tn20, tn124, tn28, itT, itF, if_pos, if_neg, f_X5_letterAt, k3]
theorem rHere (h : IR S L n) {p : Nat} (h1 : p ≤ 999) (hp : S.1 74 10 = iI p) : f_X8_here S = some (iI (ltr L n p)) := by
  obtain ⟨k1, k2, k3, k4⟩ := h
  by_cases c : p < n
  · have e1 := k4 p c
    have e2 : ltr L n p = L p := if_pos c
    rw [e2]
    simp (disch := omega) only [li_0, li_1, li_2, li_3, li_4, li_5, li_6, li_7, li_8, li_9, li_10, li_11, li_12, li_16, li_19, li_20, li_28, li_48, li_57, li_59, li_60, li_96, li_97, li_99, li_100, li_102, li_103, li_104, li_112, li_115, li_116, li_118, li_119, li_121, li_124, li_132, li_255, li_256, li_1000, li_2000, li_1000000000, iI_add, iI_sub, iI_mul, iI_neg, iI_lt, iI_le, iI_eq, iI_clamp, iI_s, iI_m1, iI_div, bs, tn, tn4, tn12, tn20, tn124, tn28, itT, itF, if_pos, if_neg, f_X8_here, hp, k3, e1]
  · have e2 : ltr L n p = -1 := if_neg c
    rw [e2]
    simp (disch := omega) only [li_0, li_1, li_2, li_3, li_4, li_5, li_6, li_7, li_8, li_9, li_10, li_11, li_12, li_16, li_19, li_20, li_28, li_48, li_57, li_59, li_60, li_96, li_97, li_99, li_100, li_102, li_103, li_104, li_112, li_115, li_116, li_118, li_119, li_121, li_124, li_132, li_255, li_256, li_1000, li_2000, li_1000000000, iI_add, iI_sub, iI_mul, iI_neg, iI_lt, iI_le, iI_eq, iI_clamp, iI_s, iI_m1, iI_div, bs, tn, tn4, tn12, tn20, tn124, tn28, itT, itF, if_pos, if_neg, f_X8_here, hp, k3]
theorem cDig (h : IT S L n) {p : Int} (h0 : 0 ≤ p) (h1 : p ≤ 999) : f_X5_isDigit (iI p) S = some (iI (if 48 ≤ ltr L n p.toNat ∧ ltr L n p.toNat ≤ 57 then 1 else 0)) := by
  have e1 := cLtr h h0 h1
  have b := ltr_b h.2.1 p.toNat
  by_cases c1 : ltr L n p.toNat < 48
  · simp (disch := omega) only [li_0, li_1, li_2, li_3, li_4, li_5, li_6, li_7, li_8, li_9, li_10, li_11, li_12, li_16, li_19, li_20, li_28, li_48, li_57, li_59, li_60, li_96, li_97, li_99, li_100, li_102, li_103, li_104, li_112, li_115, li_116, li_118, li_119, li_121, li_124, li_132, li_255, li_256, li_1000, li_2000, li_1000000000, iI_add, iI_sub, iI_mul, iI_neg, iI_lt, iI_le, iI_eq, iI_clamp, iI_s, iI_m1, iI_div, bs, tn, tn4, tn12, tn20, tn124, tn28, itT, itF, if_pos, if_neg, f_X5_isDigit, e1]
  · by_cases c2 : 57 < ltr L n p.toNat
    · simp (disch := omega) only [li_0, li_1, li_2, li_3, li_4, li_5, li_6, li_7, li_8, li_9, li_10, li_11, li_12, li_16, li_19, li_20, li_28, li_48, li_57, li_59, li_60, li_96, li_97, li_99, li_100, li_102, li_103, li_104, li_112, li_115, li_116, li_118, li_119, li_121, li_124, li_132, li_255, li_256, li_1000, li_2000, li_1000000000, iI_add, iI_sub, iI_mul, iI_neg, iI_lt, iI_le, iI_eq, iI_clamp, iI_s, iI_m1, iI_div, bs, tn, tn4, tn12, tn20, tn124, tn28, itT, itF, if_pos, if_neg, f_X5_isDigit, e1]
    · simp (disch := omega) only [li_0, li_1, li_2, li_3, li_4, li_5, li_6, li_7, li_8, li_9, li_10, li_11, li_12, li_16, li_19, li_20, li_28, li_48, li_57, li_59, li_60, li_96, li_97, li_99, li_100, li_102, li_103, li_104, li_112, li_115, li_116, li_118, li_119, li_121, li_124, li_132, li_255, li_256, li_1000, li_2000, li_1000000000, iI_add, iI_sub, iI_mul, iI_neg, iI_lt, iI_le, iI_eq, iI_clamp, iI_s, iI_m1, iI_div, bs, tn, tn4, tn12, tn20, tn124, tn28, itT, itF, if_pos, if_neg, f_X5_isDigit, e1]
theorem cParts (h : IT S L n) {p : Int} (h0 : 0 ≤ p) (h1 : p ≤ 999) : f_X5_partsOf (iI p) S = some (iI (parts (ltr L n p.toNat))) := by
  have e1 := cLtr h h0 h1
  have b := ltr_b h.2.1 p.toNat
  have w2 : iI 2 = iI ((2 : Nat) : Int) := rfl
  rw [f_X5_partsOf, e1, bs]
  unfold parts
  by_cases c1 : ltr L n p.toNat = 100
  · simp (disch := omega) only [li_0, li_1, li_2, li_3, li_4, li_5, li_6, li_7, li_8, li_9, li_10, li_11, li_12, li_16, li_19, li_20, li_28, li_48, li_57, li_59, li_60, li_96, li_97, li_99, li_100, li_102, li_103, li_104, li_112, li_115, li_116, li_118, li_119, li_121, li_124, li_132, li_255, li_256, li_1000, li_2000, li_1000000000, iI_add, iI_sub, iI_mul, iI_neg, iI_lt, iI_le, iI_eq, iI_clamp, iI_s, iI_m1, iI_div, bs, tn, tn4, tn12, tn20, tn124, tn28, itT, itF, if_pos, if_neg, c1]; rfl
  · by_cases c2 : ltr L n p.toNat = 103
    · simp (disch := omega) only [li_0, li_1, li_2, li_3, li_4, li_5, li_6, li_7, li_8, li_9, li_10, li_11, li_12, li_16, li_19, li_20, li_28, li_48, li_57, li_59, li_60, li_96, li_97, li_99, li_100, li_102, li_103, li_104, li_112, li_115, li_116, li_118, li_119, li_121, li_124, li_132, li_255, li_256, li_1000, li_2000, li_1000000000, iI_add, iI_sub, iI_mul, iI_neg, iI_lt, iI_le, iI_eq, iI_clamp, iI_s, iI_m1, iI_div, bs, tn, tn4, tn12, tn20, tn124, tn28, itT, itF, if_pos, if_neg, c2]; rfl
    · by_cases c3 : ltr L n p.toNat = 104
      · simp (disch := omega) only [li_0, li_1, li_2, li_3, li_4, li_5, li_6, li_7, li_8, li_9, li_10, li_11, li_12, li_16, li_19, li_20, li_28, li_48, li_57, li_59, li_60, li_96, li_97, li_99, li_100, li_102, li_103, li_104, li_112, li_115, li_116, li_118, li_119, li_121, li_124, li_132, li_255, li_256, li_1000, li_2000, li_1000000000, iI_add, iI_sub, iI_mul, iI_neg, iI_lt, iI_le, iI_eq, iI_clamp, iI_s, iI_m1, iI_div, bs, tn, tn4, tn12, tn20, tn124, tn28, itT, itF, if_pos, if_neg, c3]; rfl
      · by_cases c4 : ltr L n p.toNat = 115
        · simp (disch := omega) only [li_0, li_1, li_2, li_3, li_4, li_5, li_6, li_7, li_8, li_9, li_10, li_11, li_12, li_16, li_19, li_20, li_28, li_48, li_57, li_59, li_60, li_96, li_97, li_99, li_100, li_102, li_103, li_104, li_112, li_115, li_116, li_118, li_119, li_121, li_124, li_132, li_255, li_256, li_1000, li_2000, li_1000000000, iI_add, iI_sub, iI_mul, iI_neg, iI_lt, iI_le, iI_eq, iI_clamp, iI_s, iI_m1, iI_div, bs, tn, tn4, tn12, tn20, tn124, tn28, itT, itF, if_pos, if_neg, c4]; rfl
        · by_cases c5 : ltr L n p.toNat = 116
          · simp (disch := omega) only [li_0, li_1, li_2, li_3, li_4, li_5, li_6, li_7, li_8, li_9, li_10, li_11, li_12, li_16, li_19, li_20, li_28, li_48, li_57, li_59, li_60, li_96, li_97, li_99, li_100, li_102, li_103, li_104, li_112, li_115, li_116, li_118, li_119, li_121, li_124, li_132, li_255, li_256, li_1000, li_2000, li_1000000000, iI_add, iI_sub, iI_mul, iI_neg, iI_lt, iI_le, iI_eq, iI_clamp, iI_s, iI_m1, iI_div, bs, tn, tn4, tn12, tn20, tn124, tn28, itT, itF, if_pos, if_neg, c5]; rfl
          · by_cases c6 : ltr L n p.toNat = 118
            · simp (disch := omega) only [li_0, li_1, li_2, li_3, li_4, li_5, li_6, li_7, li_8, li_9, li_10, li_11, li_12, li_16, li_19, li_20, li_28, li_48, li_57, li_59, li_60, li_96, li_97, li_99, li_100, li_102, li_103, li_104, li_112, li_115, li_116, li_118, li_119, li_121, li_124, li_132, li_255, li_256, li_1000, li_2000, li_1000000000, iI_add, iI_sub, iI_mul, iI_neg, iI_lt, iI_le, iI_eq, iI_clamp, iI_s, iI_m1, iI_div, bs, tn, tn4, tn12, tn20, tn124, tn28, itT, itF, if_pos, if_neg, c6]; rfl
            · by_cases c7 : ltr L n p.toNat = 121
              · simp (disch := omega) only [li_0, li_1, li_2, li_3, li_4, li_5, li_6, li_7, li_8, li_9, li_10, li_11, li_12, li_16, li_19, li_20, li_28, li_48, li_57, li_59, li_60, li_96, li_97, li_99, li_100, li_102, li_103, li_104, li_112, li_115, li_116, li_118, li_119, li_121, li_124, li_132, li_255, li_256, li_1000, li_2000, li_1000000000, iI_add, iI_sub, iI_mul, iI_neg, iI_lt, iI_le, iI_eq, iI_clamp, iI_s, iI_m1, iI_div, bs, tn, tn4, tn12, tn20, tn124, tn28, itT, itF, if_pos, if_neg, c7]; rfl
              · simp (disch := omega) only [li_0, li_1, li_2, li_3, li_4, li_5, li_6, li_7, li_8, li_9, li_10, li_11, li_12, li_16, li_19, li_20, li_28, li_48, li_57, li_59, li_60, li_96, li_97, li_99, li_100, li_102, li_103, li_104, li_112, li_115, li_116, li_118, li_119, li_121, li_124, li_132, li_255, li_256, li_1000, li_2000, li_1000000000, iI_add, iI_sub, iI_mul, iI_neg, iI_lt, iI_le, iI_eq, iI_clamp, iI_s, iI_m1, iI_div, bs, tn, tn4, tn12, tn20, tn124, tn28, itT, itF, if_pos, if_neg]
                rfl
theorem kd_zix {c : Int} (h : -1 ≤ c ∧ c ≤ 255) : (if 0 ≤ iI c then some (zix ((iI c).toUInt32 % 65536).toInt32) else some (-9)) = some (iI (kdOf c)) := by
  by_cases c0 : c = -1
  · subst c0
    decide +kernel
  · obtain ⟨m, rfl⟩ : ∃ m : Nat, c = m := ⟨c.toNat, by omega⟩
    have h2 : ∀ m, m < 256 → (if 0 ≤ iI ((m : Nat) : Int) then some (zix ((iI ((m : Nat) : Int)).toUInt32 % 65536).toInt32) else some (-9)) = some (iI (kdOf ((m : Nat) : Int))) := by decide +kernel
    exact h2 m (by omega)
theorem cKind (h : IT S L n) {p : Int} (h0 : 0 ≤ p) (h1 : p ≤ 999) : f_X5_kindAt (iI p) S = some (iI (kdOf (ltr L n p.toNat))) := by
  have e1 := cLtr h h0 h1
  have b := ltr_b h.2.1 p.toNat
  rw [f_X5_kindAt, e1, bs, kd_zix b]
theorem kdOf_b (c : Int) : -9 ≤ kdOf c ∧ kdOf c ≤ 5 := by
  unfold kdOf
  repeat (first | omega | split)
theorem cScan (h : IT S L n) {p q : Nat} (hp : p ≤ 200) (hq : q ≤ 8) {k62 : Int32 → Option Int32} (hk : ∀ y : Nat, y ≤ 300 → k62 (iI y) = some (iI (if ltr L n y = 59 then -9 else (y : Int)))) :
    ∀ d m x : Nat, x + d = p + q + 1 → d < m → f_X5_misfitOfStatement_L39 m (iI p) (iI q) (iI x) S (fun y => some y) k62 = some (iI (scan (ltr L n) d x)) := by
  intro d
  induction d with
  | zero =>
    intro m x hx hd
    obtain ⟨m, rfl⟩ : ∃ p, m = p + 1 := ⟨m - 1, by omega⟩
    have e := hk x (by omega)
    rw [f_X5_misfitOfStatement_L39, scan]
    simp (disch := omega) only [li_0, li_1, li_2, li_3, li_4, li_5, li_6, li_7, li_8, li_9, li_10, li_11, li_12, li_16, li_19, li_20, li_28, li_48, li_57, li_59, li_60, li_96, li_97, li_99, li_100, li_102, li_103, li_104, li_112, li_115, li_116, li_118, li_119, li_121, li_124, li_132, li_255, li_256, li_1000, li_2000, li_1000000000, iI_add, iI_sub, iI_mul, iI_neg, iI_lt, iI_le, iI_eq, iI_clamp, iI_s, iI_m1, iI_div, bs, tn, tn4, tn12, tn20, tn124, tn28, itT, itF, if_pos, if_neg, e]
  | succ d ih =>
    intro m x hx hd
    obtain ⟨m, rfl⟩ : ∃ p, m = p + 1 := ⟨m - 1, by omega⟩
    have i1 := ih m (x + 1) (by omega) (by omega)
    have e1 := cDig h (p := (x : Int)) (by omega) (by omega)
    rw [Int.toNat_natCast] at e1
    rw [f_X5_misfitOfStatement_L39, scan]
    by_cases c : 48 ≤ ltr L n x ∧ ltr L n x ≤ 57
    · rw [if_pos c] at e1 ⊢
      simp (disch := omega) only [li_0, li_1, li_2, li_3, li_4, li_5, li_6, li_7, li_8, li_9, li_10, li_11, li_12, li_16, li_19, li_20, li_28, li_48, li_57, li_59, li_60, li_96, li_97, li_99, li_100, li_102, li_103, li_104, li_112, li_115, li_116, li_118, li_119, li_121, li_124, li_132, li_255, li_256, li_1000, li_2000, li_1000000000, iI_add, iI_sub, iI_mul, iI_neg, iI_lt, iI_le, iI_eq, iI_clamp, iI_s, iI_m1, iI_div, bs, tn, tn4, tn12, tn20, tn124, tn28, itT, itF, if_pos, if_neg, e1, i1]
    · rw [if_neg c] at e1 ⊢
      simp (disch := omega) only [li_0, li_1, li_2, li_3, li_4, li_5, li_6, li_7, li_8, li_9, li_10, li_11, li_12, li_16, li_19, li_20, li_28, li_48, li_57, li_59, li_60, li_96, li_97, li_99, li_100, li_102, li_103, li_104, li_112, li_115, li_116, li_118, li_119, li_121, li_124, li_132, li_255, li_256, li_1000, li_2000, li_1000000000, iI_add, iI_sub, iI_mul, iI_neg, iI_lt, iI_le, iI_eq, iI_clamp, iI_s, iI_m1, iI_div, bs, tn, tn4, tn12, tn20, tn124, tn28, itT, itF, if_pos, if_neg, e1]
theorem cMis (h : IT S L n) {p : Nat} (hp : p ≤ 200) : f_X5_misfitOfStatement (iI p) S = some (iI (mis (ltr L n) p)) := by
  have b := ltr_b h.2.1 p
  have pb := parts_b (ltr L n p)
  have e1 := cParts h (p := (p : Int)) (by omega) (by omega)
  have e2 := cLtr h (p := (p : Int)) (by omega) (by omega)
  have e3 := cKind h (p := ((p + 1 : Nat) : Int)) (by omega) (by omega)
  rw [Int.toNat_natCast] at e1 e2 e3
  have kb := kdOf_b (ltr L n (p + 1))
  have hk : ∀ y : Nat, y ≤ 300 → ((f_X5_letterAt (iI y) S).bind fun v => if v = iI 59 then some (iI (-9)) else some (iI y)) = some (iI (if ltr L n y = 59 then -9 else (y : Int))) := fun y hy => by
    have e4 := cLtr h (p := (y : Int)) (by omega) (by omega)
    rw [Int.toNat_natCast] at e4
    have b4 := ltr_b h.2.1 y
    by_cases c : ltr L n y = 59
    · simp (disch := omega) only [li_0, li_1, li_2, li_3, li_4, li_5, li_6, li_7, li_8, li_9, li_10, li_11, li_12, li_16, li_19, li_20, li_28, li_48, li_57, li_59, li_60, li_96, li_97, li_99, li_100, li_102, li_103, li_104, li_112, li_115, li_116, li_118, li_119, li_121, li_124, li_132, li_255, li_256, li_1000, li_2000, li_1000000000, iI_add, iI_sub, iI_mul, iI_neg, iI_lt, iI_le, iI_eq, iI_clamp, iI_s, iI_m1, iI_div, bs, tn, tn4, tn12, tn20, tn124, tn28, itT, itF, if_pos, if_neg, e4]
    · simp (disch := omega) only [li_0, li_1, li_2, li_3, li_4, li_5, li_6, li_7, li_8, li_9, li_10, li_11, li_12, li_16, li_19, li_20, li_28, li_48, li_57, li_59, li_60, li_96, li_97, li_99, li_100, li_102, li_103, li_104, li_112, li_115, li_116, li_118, li_119, li_121, li_124, li_132, li_255, li_256, li_1000, li_2000, li_1000000000, iI_add, iI_sub, iI_mul, iI_neg, iI_lt, iI_le, iI_eq, iI_clamp, iI_s, iI_m1, iI_div, bs, tn, tn4, tn12, tn20, tn124, tn28, itT, itF, if_pos, if_neg, e4]
  have e5 : f_X5_misfitOfStatement_L39 2000 (iI p) (iI (parts (ltr L n p))) (iI ((p + 1 : Nat) : Int)) S (fun y => some y) (fun y => (f_X5_letterAt y S).bind fun v => if v = iI 59 then some (iI (-9)) else some y) = some (iI (scan (ltr L n) (parts (ltr L n p)) (p + 1))) :=
    cScan h hp (by omega) hk (parts (ltr L n p)) 2000 (p + 1) (by omega) (by omega)
  unfold mis
  by_cases c0 : parts (ltr L n p) = 0
  · rw [if_pos c0]
    rw [c0] at e1
    rw [f_X5_misfitOfStatement, e1, bs]
    simp (disch := omega) only [li_0, li_1, li_2, li_3, li_4, li_5, li_6, li_7, li_8, li_9, li_10, li_11, li_12, li_16, li_19, li_20, li_28, li_48, li_57, li_59, li_60, li_96, li_97, li_99, li_100, li_102, li_103, li_104, li_112, li_115, li_116, li_118, li_119, li_121, li_124, li_132, li_255, li_256, li_1000, li_2000, li_1000000000, iI_add, iI_sub, iI_mul, iI_neg, iI_lt, iI_le, iI_eq, iI_clamp, iI_s, iI_m1, iI_div, bs, tn, tn4, tn12, tn20, tn124, tn28, itT, itF, if_pos, if_neg]
  · rw [if_neg c0]
    by_cases c1 : ltr L n p = 116
    · rw [if_pos c1]
      have c2 : parts (ltr L n p) = 2 := by rw [c1]; rfl
      have e6 : f_X5_misfitOfStatement_L39 2000 (iI p) (iI (parts (ltr L n p))) (iI ((p + 1 + 1 : Nat) : Int)) S (fun y => some y) (fun y => (f_X5_letterAt y S).bind fun v => if v = iI 59 then some (iI (-9)) else some y) = some (iI (scan (ltr L n) 1 (p + 1 + 1))) :=
        cScan h hp (by omega) hk 1 2000 (p + 1 + 1) (by omega) (by omega)
      have e7 : iI ((p : Int) + 1 + 1) = iI ((p + 1 + 1 : Nat) : Int) := rfl
      by_cases c3 : 0 ≤ kdOf (ltr L n (p + 1))
      · rw [if_pos c3]
        simp (disch := omega) only [li_0, li_1, li_2, li_3, li_4, li_5, li_6, li_7, li_8, li_9, li_10, li_11, li_12, li_16, li_19, li_20, li_28, li_48, li_57, li_59, li_60, li_96, li_97, li_99, li_100, li_102, li_103, li_104, li_112, li_115, li_116, li_118, li_119, li_121, li_124, li_132, li_255, li_256, li_1000, li_2000, li_1000000000, iI_add, iI_sub, iI_mul, iI_neg, iI_lt, iI_le, iI_eq, iI_clamp, iI_s, iI_m1, iI_div, bs, tn, tn4, tn12, tn20, tn124, tn28, itT, itF, if_pos, if_neg, f_X5_misfitOfStatement, e1, e2, e3, e7, e6]
      · rw [if_neg c3]
        simp (disch := omega) only [li_0, li_1, li_2, li_3, li_4, li_5, li_6, li_7, li_8, li_9, li_10, li_11, li_12, li_16, li_19, li_20, li_28, li_48, li_57, li_59, li_60, li_96, li_97, li_99, li_100, li_102, li_103, li_104, li_112, li_115, li_116, li_118, li_119, li_121, li_124, li_132, li_255, li_256, li_1000, li_2000, li_1000000000, iI_add, iI_sub, iI_mul, iI_neg, iI_lt, iI_le, iI_eq, iI_clamp, iI_s, iI_m1, iI_div, bs, tn, tn4, tn12, tn20, tn124, tn28, itT, itF, if_pos, if_neg, f_X5_misfitOfStatement, e1, e2, e3]
    · rw [if_neg c1]
      simp (disch := omega) only [li_0, li_1, li_2, li_3, li_4, li_5, li_6, li_7, li_8, li_9, li_10, li_11, li_12, li_16, li_19, li_20, li_28, li_48, li_57, li_59, li_60, li_96, li_97, li_99, li_100, li_102, li_103, li_104, li_112, li_115, li_116, li_118, li_119, li_121, li_124, li_132, li_255, li_256, li_1000, li_2000, li_1000000000, iI_add, iI_sub, iI_mul, iI_neg, iI_lt, iI_le, iI_eq, iI_clamp, iI_s, iI_m1, iI_div, bs, tn, tn4, tn12, tn20, tn124, tn28, itT, itF, if_pos, if_neg, f_X5_misfitOfStatement, e1, e2, e5]
theorem cBehind (h : IT S L n) {p : Nat} (hp : p ≤ 200) : f_X5_behindStatement (iI p) S = some (iI ((p + parts (ltr L n p) + 2 : Nat) : Int)) := by
  have e1 := cParts h (p := (p : Int)) (by omega) (by omega)
  rw [Int.toNat_natCast] at e1
  rw [f_X5_behindStatement, e1, bs, show (2 : Int32) = iI 2 from rfl, iI_add, iI_add]
  rfl
theorem numS (h : IT S L n) {p i : Nat} (hp : p + i ≤ 900) {len acc : Int} (hl : (i : Int) < len ∧ len ≤ 9) {k : Int32 → Option Int32} (m : Nat) : f_X5_number_L5 (m + 1) (iI p) (iI len) (iI acc) (iI i) S k = f_X5_number_L5 m (iI p) (iI len) (iI (10 * acc + ltr L n (p + i) - 48)) (iI ((i + 1 : Nat) : Int)) S k := by
  have e1 := cLtr h (p := ((p + i : Nat) : Int)) (by omega) (by omega)
  rw [Int.toNat_natCast] at e1
  have e2 : iI (p : Int) + iI (i : Int) = iI ((p + i : Nat) : Int) := by rw [iI_add]; rfl
  have e3 : iI (i : Int) + 1 = iI ((i + 1 : Nat) : Int) := by rw [show (1 : Int32) = iI 1 from rfl, iI_add]; rfl
  have e4 : ¬ iI len ≤ iI (i : Int) := by rw [iI_le (by omega) (by omega) (by omega) (by omega)]; omega
  rw [f_X5_number_L5, if_neg e4, e2, e1, bs, e3, show (10 : Int32) = iI 10 from rfl, show (48 : Int32) = iI 48 from rfl, iI_mul, iI_add, iI_sub]
theorem numE {p i : Nat} {acc : Int} (hi : i ≤ 9) {k : Int32 → Option Int32} (m : Nat) : f_X5_number_L5 (m + 1) (iI p) (iI i) (iI acc) (iI i) S k = k (iI acc) := by
  rw [f_X5_number_L5, if_pos (by rw [iI_le (by omega) (by omega) (by omega) (by omega)]; omega)]
theorem cNum1 (h : IT S L n) {p : Nat} (hp : p ≤ 300) : f_X5_number (iI p) (iI 1) S = some (iI (ltr L n p - 48)) := by
  have s1 := numS h (p := p) (i := 0) (by omega) (len := ((1 : Nat) : Int)) (acc := 0) (by omega) (k := fun y => some y) 1999
  have s2 := numE (S := S) (p := p) (i := 1) (acc := 10 * 0 + ltr L n (p + 0) - 48) (by omega) (k := fun y => some y) 1998
  have s3 := s1.trans s2
  rw [show 10 * 0 + ltr L n (p + 0) - 48 = ltr L n p - 48 by rw [Nat.add_zero]; omega] at s3
  rw [f_X5_number]
  exact s3
theorem cNum2 (h : IT S L n) {p : Nat} (hp : p ≤ 300) : f_X5_number (iI p) (iI 2) S = some (iI (10 * (ltr L n p - 48) + ltr L n (p + 1) - 48)) := by
  have s1 := numS h (p := p) (i := 0) (by omega) (len := ((2 : Nat) : Int)) (acc := 0) (by omega) (k := fun y => some y) 1999
  have s2 := numS h (p := p) (i := 1) (by omega) (len := ((2 : Nat) : Int)) (acc := 10 * 0 + ltr L n (p + 0) - 48) (by omega) (k := fun y => some y) 1998
  have s3 := numE (S := S) (p := p) (i := 2) (acc := 10 * (10 * 0 + ltr L n (p + 0) - 48) + ltr L n (p + 1) - 48) (by omega) (k := fun y => some y) 1997
  have s4 := s1.trans (s2.trans s3)
  rw [show 10 * 0 + ltr L n (p + 0) - 48 = ltr L n p - 48 by rw [Nat.add_zero]; omega] at s4
  rw [f_X5_number]
  exact s4
end TX
