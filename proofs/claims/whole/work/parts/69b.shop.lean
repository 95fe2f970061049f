-- ===== a text told =====
def fm (l : Nat → Int) (n : Nat) : Nat → Nat → Int
  | 0, _ => -9
  | d + 1, p => if n ≤ p then -9 else if mis l p = -9 then fm l n d (p + parts (l p) + 2) else mis l p
def cs (l : Nat → Int) (n : Nat) : Nat → Nat → Nat
  | 0, _ => 0
  | d + 1, p => if n ≤ p then 0 else cs l n d (p + parts (l p) + 2) + 1
def tr (l : Nat → Int) (n : Nat) : Nat → Nat → (Nat → Int) → Option Nat × (Nat → Int)
  | 0, _, a => (none, a)
  | d + 1, p, a => if n ≤ p then (none, a) else match tell l a p with
    | none => (some p, a)
    | some b => tr l n d (p + parts (l p) + 2) b
theorem mis_b (l : Nat → Int) (p : Nat) : mis l p = -9 ∨ (0 ≤ mis l p ∧ mis l p ≤ (p : Int) + 9) := by
  have pb := parts_b (l p)
  unfold mis
  by_cases c : parts (l p) = 0
  · rw [if_pos c]; right; omega
  · rw [if_neg c]
    by_cases c1 : l p = 116
    · rw [if_pos c1]
      by_cases c2 : 0 ≤ kdOf (l (p + 1))
      · rw [if_pos c2]
        rcases scan_b l 1 (p + 2) with h | h
        · exact Or.inl h
        · right; omega
      · rw [if_neg c2]; right; omega
    · rw [if_neg c1]
      rcases scan_b l (parts (l p)) (p + 1) with h | h
      · exact Or.inl h
      · right; omega
theorem fm_b (l : Nat → Int) (n : Nat) : ∀ d p, p ≤ 110 → n ≤ 96 → fm l n d p = -9 ∨ (0 ≤ fm l n d p ∧ fm l n d p ≤ 120) := by
  intro d
  induction d with
  | zero => intro p _ _; exact Or.inl rfl
  | succ d ih =>
    intro p hp hn
    rw [fm]
    by_cases c : n ≤ p
    · rw [if_pos c]; exact Or.inl rfl
    · rw [if_neg c]
      have pb := parts_b (l p)
      by_cases c1 : mis l p = -9
      · rw [if_pos c1]; exact ih _ (by omega) hn
      · rw [if_neg c1]
        have := mis_b l p
        omega
theorem cs_0 {l : Nat → Int} {n p : Nat} (h : n ≤ p) : ∀ d, cs l n d p = 0 := by
  intro d
  cases d with
  | zero => rfl
  | succ d => rw [cs, if_pos h]
theorem fm_0 {l : Nat → Int} {n p : Nat} (h : n ≤ p) : ∀ d, fm l n d p = -9 := by
  intro d
  cases d with
  | zero => rfl
  | succ d => rw [fm, if_pos h]
theorem cs_le (l : Nat → Int) (n : Nat) : ∀ d p, cs l n d p ≤ d := by
  intro d
  induction d with
  | zero => intro p; exact Nat.le_refl _
  | succ d ih =>
    intro p
    rw [cs]
    have := ih (p + parts (l p) + 2)
    split <;> omega
theorem par2 {l : Nat → Int} {p : Nat} (h : mis l p = -9) : 2 ≤ parts (l p) := by
  have pb := parts_b (l p)
  by_cases c : parts (l p) = 0
  · unfold mis at h
    rw [if_pos c] at h
    omega
  · omega
section SH
variable {S : St} {L : Nat → Int} {n : Nat}
theorem cFM (h : IT S L n) {k39 : Int32 → Option Int32} {k53 : Unit → Option Int32} : ∀ d m p x : Nat, d < m → n ≤ p + 4 * d → 4 * x ≤ p → p ≤ 110 → f_X5_firstMisfit_L13 m (iI p) (iI x) S k39 k53 = if fm (ltr L n) n d p = -9 then k53 () else k39 (iI (fm (ltr L n) n d p)) := by
  have hn := h.1
  have e0 := h.2.2.1
  intro d
  induction d with
  | zero =>
    intro m p x hd h1 h2 h3
    obtain ⟨m, rfl⟩ : ∃ p, m = p + 1 := ⟨m - 1, by omega⟩
    rw [f_X5_firstMisfit_L13, fm]
    simp (disch := omega) only [li_0, li_1, li_2, li_3, li_4, li_5, li_6, li_7, li_8, li_9, li_10, li_11, li_12, li_16, li_19, li_20, li_28, li_48, li_57, li_59, li_60, li_96, li_97, li_99, li_100, li_102, li_103, li_104, li_112, li_115, li_116, li_118, li_119, li_121, li_124, li_132, li_255, li_256, li_1000, li_2000, li_1000000000, iI_add, iI_sub, iI_mul, iI_neg, iI_lt, iI_le, iI_eq, iI_clamp, iI_s, iI_m1, iI_div, bs, tn, tn4, tn12, tn20, tn124, tn28, itT, itF, if_pos, if_neg, e0]
  | succ d ih =>
    intro m p x hd h1 h2 h3
    obtain ⟨m, rfl⟩ : ∃ p, m = p + 1 := ⟨m - 1, by omega⟩
    rw [f_X5_firstMisfit_L13, fm]
    by_cases c : n ≤ p
    · rw [if_pos c]
      simp (disch := omega) only [li_0, li_1, li_2, li_3, li_4, li_5, li_6, li_7, li_8, li_9, li_10, li_11, li_12, li_16, li_19, li_20, li_28, li_48, li_57, li_59, li_60, li_96, li_97, li_99, li_100, li_102, li_103, li_104, li_112, li_115, li_116, li_118, li_119, li_121, li_124, li_132, li_255, li_256, li_1000, li_2000, li_1000000000, iI_add, iI_sub, iI_mul, iI_neg, iI_lt, iI_le, iI_eq, iI_clamp, iI_s, iI_m1, iI_div, bs, tn, tn4, tn12, tn20, tn124, tn28, itT, itF, if_pos, if_neg, e0]
    · rw [if_neg c]
      have e1 := cMis h (p := p) (by omega)
      have mb := mis_b (ltr L n) p
      by_cases c1 : mis (ltr L n) p = -9
      · have e2 := cBehind h (p := p) (by omega)
        have p2 := par2 c1
        have pb := parts_b (ltr L n p)
        have i1 := ih m (p + parts (ltr L n p) + 2) (x + 1) (by omega) (by omega) (by omega) (by omega)
        rw [if_pos c1, ← i1]
        rw [c1] at e1
        simp (disch := omega) only [li_0, li_1, li_2, li_3, li_4, li_5, li_6, li_7, li_8, li_9, li_10, li_11, li_12, li_16, li_19, li_20, li_28, li_48, li_57, li_59, li_60, li_96, li_97, li_99, li_100, li_102, li_103, li_104, li_112, li_115, li_116, li_118, li_119, li_121, li_124, li_132, li_255, li_256, li_1000, li_2000, li_1000000000, iI_add, iI_sub, iI_mul, iI_neg, iI_lt, iI_le, iI_eq, iI_clamp, iI_s, iI_m1, iI_div, bs, tn, tn4, tn12, tn20, tn124, tn28, itT, itF, if_pos, if_neg, e0, e1, e2]
      · rw [if_neg c1, if_neg c1]
        simp (disch := omega) only [li_0, li_1, li_2, li_3, li_4, li_5, li_6, li_7, li_8, li_9, li_10, li_11, li_12, li_16, li_19, li_20, li_28, li_48, li_57, li_59, li_60, li_96, li_97, li_99, li_100, li_102, li_103, li_104, li_112, li_115, li_116, li_118, li_119, li_121, li_124, li_132, li_255, li_256, li_1000, li_2000, li_1000000000, iI_add, iI_sub, iI_mul, iI_neg, iI_lt, iI_le, iI_eq, iI_clamp, iI_s, iI_m1, iI_div, bs, tn, tn4, tn12, tn20, tn124, tn28, itT, itF, if_pos, if_neg, e0, e1]
theorem cTR {a : Nat → Int} (h : IT S L n) (hr : IR S L n) {k40 k61 : Int32 → St → Option (Int32 × St)} : ∀ d m p x : Nat, ∀ S' b, d < m → n ≤ p + 4 * d → 4 * x ≤ p → p ≤ 110 → fm (ltr L n) n d p = -9 → fr39 S S' → RC S' 39 b → WFa b →
    ∃ S'', fr39 S S'' ∧ WFa (tr (ltr L n) n d p b).2 ∧ ((tr (ltr L n) n d p b).1 = none → RC S'' 39 (tr (ltr L n) n d p b).2 ∧ f_X7_tellTrial_L15 m (iI x) (iI p) S' k40 k61 = k61 (iI ((x + cs (ltr L n) n d p : Nat) : Int)) S'') ∧ (∀ q, (tr (ltr L n) n d p b).1 = some q → q ≤ 110 ∧ f_X7_tellTrial_L15 m (iI x) (iI p) S' k40 k61 = k40 (iI (q : Nat)) S'') := by
  have hn := h.1
  intro d
  induction d with
  | zero =>
    intro m p x S' b hd h1 h2 h3 h4 q1 q2 q3
    obtain ⟨m, rfl⟩ : ∃ p, m = p + 1 := ⟨m - 1, by omega⟩
    have e0 : S'.1 60 1 = iI n := by rw [q1 _ _ (by omega)]; exact h.2.2.1
    refine ⟨S', q1, q3, fun _ => ⟨q2, ?_⟩, fun q hq => by cases hq⟩
    rw [f_X7_tellTrial_L15]
    show _ = k61 (iI ((x : Nat) : Int)) S'
    simp (disch := omega) only [li_0, li_1, li_2, li_3, li_4, li_5, li_6, li_7, li_8, li_9, li_10, li_11, li_12, li_16, li_19, li_20, li_28, li_48, li_57, li_59, li_60, li_96, li_97, li_99, li_100, li_102, li_103, li_104, li_112, li_115, li_116, li_118, li_119, li_121, li_124, li_132, li_255, li_256, li_1000, li_2000, li_1000000000, iI_add, iI_sub, iI_mul, iI_neg, iI_lt, iI_le, iI_eq, iI_clamp, iI_s, iI_m1, iI_div, bs, tn, tn4, tn12, tn20, tn124, tn28, itT, itF, if_pos, if_neg, e0]
  | succ d ih =>
    intro m p x S' b hd h1 h2 h3 h4 q1 q2 q3
    obtain ⟨m, rfl⟩ : ∃ p, m = p + 1 := ⟨m - 1, by omega⟩
    have hI : IT S' L n := ⟨hn, h.2.1, by rw [q1 _ _ (by omega)]; exact h.2.2.1, fun p hp => by rw [q1 _ _ (by omega)]; exact h.2.2.2 p hp⟩
    have e0 := hI.2.2.1
    by_cases c : n ≤ p
    · have eT : tr (ltr L n) n (d + 1) p b = (none, b) := if_pos c
      have eC : cs (ltr L n) n (d + 1) p = 0 := cs_0 c _
      rw [eT, eC]
      refine ⟨S', q1, q3, fun _ => ⟨q2, ?_⟩, fun q hq => by cases hq⟩
      rw [f_X7_tellTrial_L15]
      show _ = k61 (iI ((x : Nat) : Int)) S'
      simp (disch := omega) only [li_0, li_1, li_2, li_3, li_4, li_5, li_6, li_7, li_8, li_9, li_10, li_11, li_12, li_16, li_19, li_20, li_28, li_48, li_57, li_59, li_60, li_96, li_97, li_99, li_100, li_102, li_103, li_104, li_112, li_115, li_116, li_118, li_119, li_121, li_124, li_132, li_255, li_256, li_1000, li_2000, li_1000000000, iI_add, iI_sub, iI_mul, iI_neg, iI_lt, iI_le, iI_eq, iI_clamp, iI_s, iI_m1, iI_div, bs, tn, tn4, tn12, tn20, tn124, tn28, itT, itF, if_pos, if_neg, e0]
    · rw [fm, if_neg c] at h4
      have c1 : mis (ltr L n) p = -9 := by
        by_cases c1 : mis (ltr L n) p = -9
        · exact c1
        · rw [if_neg c1] at h4; exact absurd h4 c1
      rw [if_pos c1] at h4
      have p2 := par2 c1
      have pb := parts_b (ltr L n p)
      obtain ⟨nr, np⟩ := nr_of hr (p := p) (by omega) c1
      obtain ⟨S1, t1, t2, t3⟩ := cTellS hI (p := p) (by omega) q2 q3 nr np
      have eT : tr (ltr L n) n (d + 1) p b = match tell (ltr L n) b p with
        | none => (some p, b)
        | some b => tr (ltr L n) n d (p + parts (ltr L n p) + 2) b := if_neg c
      have eC : cs (ltr L n) n (d + 1) p = cs (ltr L n) n d (p + parts (ltr L n p) + 2) + 1 := if_neg c
      have fr1 : fr39 S S1 := fun i k hi => by rw [t2 i k hi]; exact q1 i k hi
      cases ht : tell (ltr L n) b p with
      | none =>
        rw [ht] at eT t1
        rw [eT]
        refine ⟨S1, fr1, q3, (fun z => by cases z), fun q hq => ?_⟩
        have hq' : p = q := Option.some.inj hq
        subst hq'
        refine ⟨by omega, ?_⟩
        have t1' : f_X7_tellStatement (iI p) S' = some (iI 0, S1) := t1
        rw [f_X7_tellTrial_L15]
        simp (disch := omega) only [li_0, li_1, li_2, li_3, li_4, li_5, li_6, li_7, li_8, li_9, li_10, li_11, li_12, li_16, li_19, li_20, li_28, li_48, li_57, li_59, li_60, li_96, li_97, li_99, li_100, li_102, li_103, li_104, li_112, li_115, li_116, li_118, li_119, li_121, li_124, li_132, li_255, li_256, li_1000, li_2000, li_1000000000, iI_add, iI_sub, iI_mul, iI_neg, iI_lt, iI_le, iI_eq, iI_clamp, iI_s, iI_m1, iI_div, bs, tn, tn4, tn12, tn20, tn124, tn28, itT, itF, if_pos, if_neg, e0, t1']
      | some b' =>
        rw [ht] at eT t1 t3
        have hw' := tell_wf q3 nr np ht
        obtain ⟨S'', g1, g2, g3, g4⟩ := ih m (p + parts (ltr L n p) + 2) (x + 1) S1 b' (by omega) (by omega) (by omega) (by omega) h4 fr1 (t3 b' rfl) hw'
        have t1' : f_X7_tellStatement (iI p) S' = some (iI 1, S1) := t1
        have hI1 : IT S1 L n := ⟨hn, h.2.1, by rw [fr1 _ _ (by omega)]; exact h.2.2.1, fun p hp => by rw [fr1 _ _ (by omega)]; exact h.2.2.2 p hp⟩
        have e2 := cBehind hI1 (p := p) (by omega)
        have step : f_X7_tellTrial_L15 (m + 1) (iI x) (iI p) S' k40 k61 = f_X7_tellTrial_L15 m (iI ((x + 1 : Nat) : Int)) (iI ((p + parts (ltr L n p) + 2 : Nat) : Int)) S1 k40 k61 := by
          rw [f_X7_tellTrial_L15]
          simp (disch := omega) only [li_0, li_1, li_2, li_3, li_4, li_5, li_6, li_7, li_8, li_9, li_10, li_11, li_12, li_16, li_19, li_20, li_28, li_48, li_57, li_59, li_60, li_96, li_97, li_99, li_100, li_102, li_103, li_104, li_112, li_115, li_116, li_118, li_119, li_121, li_124, li_132, li_255, li_256, li_1000, li_2000, li_1000000000, iI_add, iI_sub, iI_mul, iI_neg, iI_lt, iI_le, iI_eq, iI_clamp, iI_s, iI_m1, iI_div, bs, tn, tn4, tn12, tn20, tn124, tn28, itT, itF, if_pos, if_neg, e0, t1', e2]
        rw [eT, eC, step]
        refine ⟨S'', g1, g2, fun z => ?_, g4⟩
        obtain ⟨u1, u2⟩ := g3 z
        exact ⟨u1, by rw [u2, show x + 1 + cs (ltr L n) n d (p + parts (ltr L n p) + 2) = x + (cs (ltr L n) n d (p + parts (ltr L n p) + 2) + 1) by omega]⟩
theorem rL10 (h : IR S L n) {k46 : Int32 → Int32 → St → Option (Int32 × St)} : ∀ d m p x : Nat, ∀ S', d < m → n ≤ p + 4 * d → p < n → f82 S S' → S'.1 74 10 = iI p →
    ∃ (cnt : Nat) (S'' : St), f82 S S'' ∧ (fm (ltr L n) n d p = -9 → cnt = x + cs (ltr L n) n d p) ∧ f_X8_shop_L10 m (iI x) (iI (-9)) S' k46 = k46 (iI cnt) (iI (if fm (ltr L n) n d p = -9 then -9 else -1000 - fm (ltr L n) n d p)) S'' := by
  have hn := h.1
  intro d
  induction d with
  | zero => intro m p x S' hd h1 h2 q1 q2; omega
  | succ d ih =>
    intro m p x S' hd h1 h2 q1 q2
    obtain ⟨m, rfl⟩ : ∃ p, m = p + 1 := ⟨m - 1, by omega⟩
    have mb := mis_b (ltr L n) p
    obtain ⟨r, S1, a1, a2, a3⟩ := rSt (h.f q1) (p := p) (by omega) q2
    have fr1 := q1.tr a2
    have hl : S1.1 74 8 = iI n := (h.f fr1).2.2.1
    have n9 : (-9 : Int32) = iI (-9) := rfl
    have j1 : (iI (x : Int) + 1 : Int32) = iI ((x + 1 : Nat) : Int) := by rw [show (1 : Int32) = iI 1 from rfl, iI_add]; rfl
    rcases a3 with ⟨rfl, b1, b2, b3⟩ | ⟨rfl, q, b2, b3⟩
    · have p2 := par2 b1
      have pb := parts_b (ltr L n p)
      have eF : fm (ltr L n) n (d + 1) p = fm (ltr L n) n d (p + parts (ltr L n p) + 2) := by rw [fm, if_neg (by omega), if_pos b1]
      have eC : cs (ltr L n) n (d + 1) p = cs (ltr L n) n d (p + parts (ltr L n p) + 2) + 1 := if_neg (by omega)
      rw [eF, eC]
      by_cases c : p + parts (ltr L n p) + 2 < n
      · obtain ⟨cnt, S'', g1, g2, g3⟩ := ih m (p + parts (ltr L n p) + 2) (x + 1) S1 (by omega) (by omega) c fr1 b2
        refine ⟨cnt, S'', g1, fun z => by rw [g2 z]; omega, ?_⟩
        rw [f_X8_shop_L10, a1, bs]
        dsimp only
        rw [if_neg h10, n9, if_pos rfl, b2, hl, if_pos (by rw [iI_lt (by omega) (by omega) (by omega) (by omega)]; omega), j1]
        exact g3
      · rw [fm_0 (by omega) d, cs_0 (by omega) d]
        refine ⟨x + 1, S1, fr1, fun _ => by omega, ?_⟩
        rw [f_X8_shop_L10, a1, bs]
        dsimp only
        rw [if_neg h10, n9, if_pos rfl, b2, hl, if_neg (by rw [iI_lt (by omega) (by omega) (by omega) (by omega)]; omega), j1, if_pos rfl]
    · have eF : fm (ltr L n) n (d + 1) p = (q : Int) := by rw [fm, if_neg (by omega), if_neg (by omega), b3]
      rw [eF]
      refine ⟨x + 1, S1, fr1, fun z => absurd z (by omega), ?_⟩
      rw [f_X8_shop_L10, a1, bs]
      dsimp only
      rw [if_pos h00, b2, show (-1000 : Int32) = iI (-1000) from rfl, n9, iI_sub, if_neg (by rw [iI_eq (by omega) (by omega) (by omega) (by omega)]; omega), j1, if_neg (show ¬ (q : Int) = -9 by omega)]
def gF (S S' : St) : Prop := ∀ i k, ¬ (i = 75 ∨ i = 82 ∨ (i = 74 ∧ k = 10)) → S'.1 i k = S.1 i k
theorem rL62 {a0 : Nat → Int} (h : IR S L n) (h78 : RM S 78 a0) {x1 : Int32} {k128 : Int32 → St → Option (Int32 × St)} : ∀ d m p : Nat, ∀ S' b, d + 1 < m → n ≤ p + 4 * d → p ≤ 110 → fm (ltr L n) n d p = -9 → gF S S' → S'.1 74 10 = iI p → RM S' 75 b → WFa b →
    ∃ S'', gF S S'' ∧ ((tr (ltr L n) n d p b).1 = none → RM S'' 75 (tr (ltr L n) n d p b).2 ∧ f_X8_shop_L62 m x1 (iI (-9)) S' k128 = k128 (iI (-9)) S'') ∧ (∀ q, (tr (ltr L n) n d p b).1 = some q → RM S'' 75 a0 ∧ f_X8_shop_L62 m x1 (iI (-9)) S' k128 = k128 (iI (-2000 - (q : Int))) S'') := by
  have hn := h.1
  have n9 : (-9 : Int32) = iI (-9) := rfl
  intro d
  induction d with
  | zero =>
    intro m p S' b hd h1 h3 h4 q1 q2 q3 q4
    obtain ⟨m, rfl⟩ : ∃ p, m = p + 1 := ⟨m - 1, by omega⟩
    have hl : S'.1 74 8 = iI n := by rw [q1 _ _ (by omega)]; exact h.2.2.1
    refine ⟨S', q1, fun _ => ⟨q3, ?_⟩, fun q hq => by cases hq⟩
    rw [f_X8_shop_L62, n9, if_pos rfl, hl, q2, if_pos (by rw [iI_le (by omega) (by omega) (by omega) (by omega)]; omega)]
  | succ d ih =>
    intro m p S' b hd h1 h3 h4 q1 q2 q3 q4
    obtain ⟨m, rfl⟩ : ∃ p, m = p + 1 := ⟨m - 1, by omega⟩
    have hI : IR S' L n := ⟨hn, h.2.1, by rw [q1 _ _ (by omega)]; exact h.2.2.1, fun p hp => by rw [q1 _ _ (by omega)]; exact h.2.2.2 p hp⟩
    have hl := hI.2.2.1
    by_cases c : n ≤ p
    · have eT : tr (ltr L n) n (d + 1) p b = (none, b) := if_pos c
      rw [eT]
      refine ⟨S', q1, fun _ => ⟨q3, ?_⟩, fun q hq => by cases hq⟩
      rw [f_X8_shop_L62, n9, if_pos rfl, hl, q2, if_pos (by rw [iI_le (by omega) (by omega) (by omega) (by omega)]; omega)]
    · rw [fm, if_neg c] at h4
      have c1 : mis (ltr L n) p = -9 := by
        by_cases c1 : mis (ltr L n) p = -9
        · exact c1
        · rw [if_neg c1] at h4; exact absurd h4 c1
      rw [if_pos c1] at h4
      have p2 := par2 c1
      have pb := parts_b (ltr L n p)
      have e3 := rHere hI (p := p) (by omega) q2
      obtain ⟨r, S1, a1, a2, a3⟩ := rSt hI (p := p) (by omega) q2
      rcases a3 with ⟨rfl, b1, b2, b3⟩ | ⟨_, q, _, bq⟩
      · have hm1 : RM S1 75 b := fun k hk => by rw [a2 _ _ (by omega)]; exact q3 k hk
        obtain ⟨nr, np⟩ := nr_of hI (p := p) (by omega) c1
        obtain ⟨S2, t1, t2, t3⟩ := rDone hm1 q4 b3 np
        have eT : tr (ltr L n) n (d + 1) p b = match tell (ltr L n) b p with
          | none => (some p, b)
          | some b => tr (ltr L n) n d (p + parts (ltr L n p) + 2) b := if_neg c
        have fr2 : gF S S2 := fun i k hi => by rw [t2 _ _ (by omega), a2 _ _ (by omega)]; exact q1 i k hi
        have pos2 : S2.1 74 10 = iI ((p + parts (ltr L n p) + 2 : Nat) : Int) := by rw [t2 _ _ (by omega)]; exact b2
        have head : f_X8_shop_L62 (m + 1) x1 (iI (-9)) S' k128 = (f_X8_isDone (iI (ltr L n p)) S1).bind fun z15 => (if z15.1 = 0 then (f_X8_lays 78 75 z15.2).bind fun S17 => f_X8_shop_L62 m x1 (iI (-2000 - (p : Int))) S17 k128 else f_X8_shop_L62 m x1 (iI (-9)) z15.2 k128) := by
          rw [f_X8_shop_L62, n9, if_pos rfl, hl, q2, if_neg (by rw [iI_le (by omega) (by omega) (by omega) (by omega)]; omega), e3, bs, a1, bs, show (-2000 : Int32) = iI (-2000) from rfl, iI_sub]
        rw [head, t1, bs]
        dsimp only
        cases ht : tell (ltr L n) b p with
        | none =>
          rw [ht] at eT
          rw [eT]
          obtain ⟨S3, l1, l2, l3⟩ := rLays (q0 := 78) (q1 := 75) (by omega) S2
          refine ⟨S3, fun i k hi => by rw [l2 _ _ (by omega)]; exact fr2 i k hi, (fun z => by cases z), fun q hq => ⟨fun k hk => ?_, ?_⟩⟩
          · rw [l3 k hk, fr2 _ _ (by omega)]; exact h78 k hk
          · have hq' : p = q := Option.some.inj hq
            subst hq'
            obtain ⟨m, rfl⟩ : ∃ p, m = p + 1 := ⟨m - 1, by omega⟩
            show (if iI 0 = 0 then _ else _) = _
            rw [if_pos h00, l1, bs, f_X8_shop_L62, n9, if_neg (by rw [iI_eq (by omega) (by omega) (by omega) (by omega)]; omega)]
        | some b' =>
          rw [ht] at eT t3
          rw [eT]
          have hw' := tell_wf q4 nr np ht
          obtain ⟨S'', g1, g2, g3⟩ := ih m (p + parts (ltr L n p) + 2) S2 b' (by omega) (by omega) (by omega) h4 fr2 pos2 (t3 b' rfl) hw'
          refine ⟨S'', g1, ?_, ?_⟩
          · intro z
            obtain ⟨u1, u2⟩ := g2 z
            refine ⟨u1, ?_⟩
            show (if iI 1 = 0 then _ else _) = _
            rw [if_neg h10]
            exact u2
          · intro q z
            obtain ⟨u1, u2⟩ := g3 q z
            refine ⟨u1, ?_⟩
            show (if iI 1 = 0 then _ else _) = _
            rw [if_neg h10]
            exact u2
      · omega
end SH
theorem Inv.all {S S' : St} (h : Inv S) (hB : Both S' 1 75) (hT : InvText S') (hs : ∀ i k, ¬ ((1 ≤ i ∧ i ≤ 19) ∨ i = 75 ∨ i = 60 ∨ i = 61 ∨ i = 79 ∨ (i = 74 ∧ k = 8) ∨ scr i k) → S'.1 i k = S.1 i k) : Inv S' := by
  obtain ⟨_, _, hR, hn, hi, hi2⟩ := h
  refine ⟨hB, hT, hR.fr (fun i k h => hs i k (by unfold scr; omega)), fun k hk => ?_, ?_, ?_⟩
  · rw [hs _ _ (by unfold scr; omega), hs _ _ (by unfold scr; omega)]; exact hn k hk
  · rw [hs _ _ (by unfold scr; omega), hs _ _ (by unfold scr; omega)]; exact hi
  · rw [hs _ _ (by unfold scr; omega)]
    rcases hi2 with hi2 | ⟨hi2, hb⟩
    · exact Or.inl hi2
    · exact Or.inr ⟨hi2, hb.fr (fun i k h => hs i k (by unfold scr; omega))⟩
