-- ===== the most by so many minutes =====
def bM (R g : Nat → Int) (h : Int) (u : Nat) : Nat → Int
  | 0 => R u + h
  | s + 1 => if bM R g h u s < R (u - s) + g s then R (u - s) + g s else bM R g h u s
theorem bM_p {R g : Nat → Int} {h : Int} {u : Nat} : ∀ n, R u + h ≤ bM R g h u n ∧ (∀ s, s < n → R (u - s) + g s ≤ bM R g h u n) ∧ (bM R g h u n = R u + h ∨ ∃ s, s < n ∧ R (u - s) + g s = bM R g h u n) := by
  intro n
  induction n with
  | zero => exact ⟨Int.le_refl _, fun s hs => absurd hs (by omega), Or.inl rfl⟩
  | succ n ih =>
    obtain ⟨i1, i2, i3⟩ := ih
    rw [bM]
    by_cases c : bM R g h u n < R (u - n) + g n
    · rw [if_pos c]
      refine ⟨by omega, fun s hs => ?_, Or.inr ⟨n, by omega, rfl⟩⟩
      by_cases e : s = n
      · rw [e]; exact Int.le_refl _
      · have := i2 s (by omega)
        omega
    · rw [if_neg c]
      refine ⟨i1, fun s hs => ?_, ?_⟩
      · by_cases e : s = n
        · rw [e]; omega
        · exact i2 s (by omega)
      · rcases i3 with h | ⟨s, hs, h⟩
        · exact Or.inl h
        · exact Or.inr ⟨s, by omega, h⟩
def bW (R g : Nat → Int) (h : Int) (k : Nat) : Nat → Int
  | 0 => R (k / 5) + h
  | t + 1 => if bW R g h k t ≤ R ((k - t) / 5) + g (t / 5) then R ((k - t) / 5) + g (t / 5) else bW R g h k t
theorem bW_p {R g : Nat → Int} {h : Int} {k : Nat} : ∀ n, R (k / 5) + h ≤ bW R g h k n ∧ (∀ t, t < n → R ((k - t) / 5) + g (t / 5) ≤ bW R g h k n) ∧ (bW R g h k n = R (k / 5) + h ∨ ∃ t, t < n ∧ R ((k - t) / 5) + g (t / 5) = bW R g h k n) := by
  intro n
  induction n with
  | zero => exact ⟨Int.le_refl _, fun s hs => absurd hs (by omega), Or.inl rfl⟩
  | succ n ih =>
    obtain ⟨i1, i2, i3⟩ := ih
    rw [bW]
    by_cases c : bW R g h k n ≤ R ((k - n) / 5) + g (n / 5)
    · rw [if_pos c]
      refine ⟨by omega, fun s hs => ?_, Or.inr ⟨n, by omega, rfl⟩⟩
      by_cases e : s = n
      · rw [e]; exact Int.le_refl _
      · have := i2 s (by omega)
        omega
    · rw [if_neg c]
      refine ⟨i1, fun s hs => ?_, ?_⟩
      · by_cases e : s = n
        · rw [e]; omega
        · exact i2 s (by omega)
      · rcases i3 with h | ⟨s, hs, h⟩
        · exact Or.inl h
        · exact Or.inr ⟨s, by omega, h⟩
theorem bW_bM {R g : Nat → Int} {h : Int} (hR : ∀ i j, i ≤ j → R i ≤ R j) (k : Nat) : bW R g h k (k + 1) = bM R g h (k / 5) (k / 5 + 1) := by
  obtain ⟨a1, a2, a3⟩ := bW_p (R := R) (g := g) (h := h) (k := k) (k + 1)
  obtain ⟨b1, b2, b3⟩ := bM_p (R := R) (g := g) (h := h) (u := k / 5) (k / 5 + 1)
  have le1 : bW R g h k (k + 1) ≤ bM R g h (k / 5) (k / 5 + 1) := by
    rcases a3 with e | ⟨t, ht, e⟩
    · rw [e]; exact b1
    · have h1 := b2 (t / 5) (by omega)
      have h2 := hR ((k - t) / 5) (k / 5 - t / 5) (by omega)
      omega
  have le2 : bM R g h (k / 5) (k / 5 + 1) ≤ bW R g h k (k + 1) := by
    rcases b3 with e | ⟨s, hs, e⟩
    · rw [e]; exact a1
    · have h1 := a2 (5 * s) (by omega)
      rw [show (k - 5 * s) / 5 = k / 5 - s by omega, show 5 * s / 5 = s by omega] at h1
      omega
  omega
def gY (a : Nat → Int) (x now s : Nat) : Int := sG a x (sY a x now (5 * (s : Int)) 0)
def bN (a : Nat → Int) (now x : Nat) (R : Nat → Int) (u : Nat) : Int := if a (20 + x) < 0 then bM R (gY a x now) (sHow a x now) u (u + 1) else R u + sHow a x now
def bR (a : Nat → Int) (now : Nat) : Nat → Nat → Int
  | 0 => fun _ => 0
  | x + 1 => bN a now x (bR a now x)
theorem bN_mono {a : Nat → Int} {now x : Nat} {R : Nat → Int} (hR : ∀ i j, i ≤ j → R i ≤ R j) : ∀ i j, i ≤ j → bN a now x R i ≤ bN a now x R j := by
  intro i j hij
  have h0 := hR i j hij
  unfold bN
  by_cases c : a (20 + x) < 0
  · rw [if_pos c, if_pos c]
    obtain ⟨a1, a2, a3⟩ := bM_p (R := R) (g := gY a x now) (h := sHow a x now) (u := i) (i + 1)
    obtain ⟨b1, b2, b3⟩ := bM_p (R := R) (g := gY a x now) (h := sHow a x now) (u := j) (j + 1)
    rcases a3 with e | ⟨s, hs, e⟩
    · omega
    · have h1 := b2 s (by omega)
      have h2 := hR (i - s) (j - s) (by omega)
      omega
  · rw [if_neg c, if_neg c]
    omega
theorem bR_mono (a : Nat → Int) (now : Nat) : ∀ x i j, i ≤ j → bR a now x i ≤ bR a now x j := by
  intro x
  induction x with
  | zero => intro i j _; exact Int.le_refl _
  | succ x ih => exact bN_mono ih
theorem gY_b {a : Nat → Int} {x now : Nat} (hw : WT a x) (hn : now ≤ 11) (s : Nat) : 0 ≤ gY a x now s ∧ gY a x now s ≤ 99 := by
  have := sY_le a x now (5 * (s : Int)) 0
  exact sG_b hw (by omega)
theorem bM_b {R g : Nat → Int} {h B : Int} {u : Nat} (hR : ∀ u, 0 ≤ R u ∧ R u ≤ B) (hg : ∀ s, 0 ≤ g s ∧ g s ≤ 99) (hh : 0 ≤ h ∧ h ≤ 99) (n : Nat) : 0 ≤ bM R g h u n ∧ bM R g h u n ≤ B + 99 := by
  obtain ⟨a1, a2, a3⟩ := bM_p (R := R) (g := g) (h := h) (u := u) n
  have h0 := hR u
  rcases a3 with e | ⟨s, hs, e⟩
  · omega
  · have h1 := hR (u - s)
    have h2 := hg s
    omega
theorem bW_b {R g : Nat → Int} {h B : Int} {k : Nat} (hR : ∀ u, 0 ≤ R u ∧ R u ≤ B) (hg : ∀ s, 0 ≤ g s ∧ g s ≤ 99) (hh : 0 ≤ h ∧ h ≤ 99) (n : Nat) : 0 ≤ bW R g h k n ∧ bW R g h k n ≤ B + 99 := by
  obtain ⟨a1, a2, a3⟩ := bW_p (R := R) (g := g) (h := h) (k := k) n
  have h0 := hR (k / 5)
  rcases a3 with e | ⟨t, ht, e⟩
  · omega
  · have h1 := hR ((k - t) / 5)
    have h2 := hg (t / 5)
    omega
theorem bR_b {a : Nat → Int} (hw : WFa a) {now : Nat} (hn : now ≤ 11) : ∀ x, x ≤ 8 → ∀ u, 0 ≤ bR a now x u ∧ bR a now x u ≤ 99 * (x : Int) := by
  intro x
  induction x with
  | zero => intro _ u; exact ⟨Int.le_refl _, Int.le_refl _⟩
  | succ x ih =>
    intro hx u
    have i1 := ih (by omega)
    have hh := sHow_b (hw.t (j := x) (by omega)) hn
    have e : 99 * ((x + 1 : Nat) : Int) = 99 * (x : Int) + 99 := by omega
    rw [e]
    show 0 ≤ bN a now x (bR a now x) u ∧ bN a now x (bR a now x) u ≤ _
    unfold bN
    by_cases c : a (20 + x) < 0
    · rw [if_pos c]
      exact bM_b i1 (fun s => gY_b (hw.t (by omega)) hn s) hh _
    · rw [if_neg c]
      have := i1 u
      omega
-- the class
theorem cSpI {S : St} {t : Nat} {a : Nat → Int} {j : Nat} (ht : RT S t a j) (hw : WT a j) {now : Nat} (hn : now ≤ 11) (p1 : S.1 1 1 = iI now) (hs : a (20 + j) < 0) {R : Nat → Int} (hR : ∀ u, 0 ≤ R u ∧ R u ≤ 9999) {u : Nat} (hu : u < 20) (h72 : ∀ s, s ≤ u → S.1 72 s = iI (R s)) {k : Int32 → Option St} :
    ∀ d n s : Nat, s + d = u + 1 → d < n → f_X7_spendSteps_L29 n t (iI u) (iI (bM R (gY a j now) (sHow a j now) u s)) (iI s) S k = k (iI (bM R (gY a j now) (sHow a j now) u (u + 1))) := by
  have hh := sHow_b hw hn
  intro d
  induction d with
  | zero =>
    intro n s hx hd
    obtain ⟨n, rfl⟩ : ∃ p, n = p + 1 := ⟨n - 1, by omega⟩
    obtain rfl : s = u + 1 := by omega
    rw [f_X7_spendSteps_L29]
    simp (disch := omega) only [li_0, li_1, li_2, li_3, li_4, li_5, li_6, li_7, li_8, li_9, li_10, li_11, li_12, li_16, li_19, li_20, li_28, li_48, li_57, li_59, li_60, li_96, li_97, li_99, li_100, li_102, li_103, li_104, li_112, li_115, li_116, li_118, li_119, li_121, li_124, li_132, li_255, li_256, li_1000, li_2000, li_1000000000, iI_add, iI_sub, iI_mul, iI_neg, iI_lt, iI_le, iI_eq, iI_clamp, iI_s, iI_m1, iI_div, bs, tn, tn4, tn12, tn20, tn124, tn28, itT, itF, if_pos, if_neg]
  | succ d ih =>
    intro n s hx hd
    obtain ⟨n, rfl⟩ : ∃ p, n = p + 1 := ⟨n - 1, by omega⟩
    have i1 := ih n (s + 1) (by omega) (by omega)
    have e1 := cSet ht hw
    rw [if_pos hs] at e1
    have ec : (s : Int) * 5 = 5 * (s : Int) := Int.mul_comm _ _
    have e2 := cY ht hw hn (m := 5 * (s : Int)) (f := 0) (by omega) (by omega)
    have yb := sY_le a j now (5 * (s : Int)) 0
    have e3 : f_X6_gladIn t (iI (sY a j now (5 * (s : Int)) 0)) S = some (iI (gY a j now s)) := cG ht (by omega)
    have eu : ((u : Int) - (s : Int)).toNat = u - s := by omega
    have e4 := h72 (u - s) (by omega)
    have b1 := hR (u - s)
    have b2 := gY_b hw hn s
    have b3 := bM_b (R := R) (g := gY a j now) (h := sHow a j now) (u := u) hR (gY_b hw hn) hh s
    rw [bM] at i1
    rw [f_X7_spendSteps_L29]
    by_cases c : bM R (gY a j now) (sHow a j now) u s < R (u - s) + gY a j now s
    · rw [if_pos c] at i1
      simp (disch := omega) only [li_0, li_1, li_2, li_3, li_4, li_5, li_6, li_7, li_8, li_9, li_10, li_11, li_12, li_16, li_19, li_20, li_28, li_48, li_57, li_59, li_60, li_96, li_97, li_99, li_100, li_102, li_103, li_104, li_112, li_115, li_116, li_118, li_119, li_121, li_124, li_132, li_255, li_256, li_1000, li_2000, li_1000000000, iI_add, iI_sub, iI_mul, iI_neg, iI_lt, iI_le, iI_eq, iI_clamp, iI_s, iI_m1, iI_div, bs, tn, tn4, tn12, tn20, tn124, tn28, itT, itF, if_pos, if_neg, e1, ec, e2, p1, e3, eu, e4, i1]
    · rw [if_neg c] at i1
      simp (disch := omega) only [li_0, li_1, li_2, li_3, li_4, li_5, li_6, li_7, li_8, li_9, li_10, li_11, li_12, li_16, li_19, li_20, li_28, li_48, li_57, li_59, li_60, li_96, li_97, li_99, li_100, li_102, li_103, li_104, li_112, li_115, li_116, li_118, li_119, li_121, li_124, li_132, li_255, li_256, li_1000, li_2000, li_1000000000, iI_add, iI_sub, iI_mul, iI_neg, iI_lt, iI_le, iI_eq, iI_clamp, iI_s, iI_m1, iI_div, bs, tn, tn4, tn12, tn20, tn124, tn28, itT, itF, if_pos, if_neg, e1, ec, e2, p1, e3, eu, e4, i1]
theorem cSpL {S : St} {t : Nat} {a : Nat → Int} {j : Nat} (ht : RT S t a j) (htt : t ≠ 72 ∧ t + 1 ≠ 72) (hw : WT a j) {now : Nat} (hn : now ≤ 11) (p1 : S.1 1 1 = iI now) {R : Nat → Int} (hR : ∀ u, 0 ≤ R u ∧ R u ≤ 9999) {k : St → Option St} :
    ∀ m n : Nat, ∀ S' : St, m ≤ 20 → m < n → (∀ i q, i ≠ 72 → S'.1 i q = S.1 i q) → (∀ u, u < m → S'.1 72 u = iI (R u)) → (∀ u, m ≤ u → u < 20 → S'.1 72 u = iI (bN a now j R u)) →
    ∃ S'', (∀ i q, i ≠ 72 → S''.1 i q = S.1 i q) ∧ (∀ u, u < 20 → S''.1 72 u = iI (bN a now j R u)) ∧ f_X7_spendSteps_L3 n t (iI ((m : Int) - 1)) S' k = k S'' := by
  have hh := sHow_b hw hn
  intro m
  induction m with
  | zero =>
    intro n S' _ hd q1 q2 q3
    obtain ⟨n, rfl⟩ : ∃ p, n = p + 1 := ⟨n - 1, by omega⟩
    refine ⟨S', q1, fun u hu => q3 u (by omega) hu, ?_⟩
    rw [f_X7_spendSteps_L3]
    simp (disch := omega) only [li_0, li_1, li_2, li_3, li_4, li_5, li_6, li_7, li_8, li_9, li_10, li_11, li_12, li_16, li_19, li_20, li_28, li_48, li_57, li_59, li_60, li_96, li_97, li_99, li_100, li_102, li_103, li_104, li_112, li_115, li_116, li_118, li_119, li_121, li_124, li_132, li_255, li_256, li_1000, li_2000, li_1000000000, iI_add, iI_sub, iI_mul, iI_neg, iI_lt, iI_le, iI_eq, iI_clamp, iI_s, iI_m1, iI_div, bs, tn, tn4, tn12, tn20, tn124, tn28, itT, itF, if_pos, if_neg]
  | succ m ih =>
    intro n S' hm hd q1 q2 q3
    obtain ⟨n, rfl⟩ : ∃ p, n = p + 1 := ⟨n - 1, by omega⟩
    have ht' : RT S' t a j := ⟨by rw [q1 _ _ htt.1]; exact ht.1, by rw [q1 _ _ htt.1]; exact ht.2.1, by rw [q1 _ _ htt.1]; exact ht.2.2.1, fun y hy => by rw [q1 _ _ htt.2]; exact ht.2.2.2 y hy⟩
    have p1' : S'.1 1 1 = iI now := by rw [q1 _ _ (by omega)]; exact p1
    have e : ((m + 1 : Nat) : Int) - 1 = (m : Int) := by omega
    have e1 := cHow ht' hw hn
    have e2 := q2 m (by omega)
    obtain ⟨S'', g1, g2, g3⟩ := ih n (up S' 72 m (iI (bN a now j R m))) (by omega) (by omega) (fun i q hi => by rw [up_ne hi]; exact q1 i q hi) (fun u hu => by rw [up_n (by omega)]; exact q2 u (by omega)) (fun u h1 h2 => by
      by_cases c : u = m
      · rw [c, up_s]
      · rw [up_n (Or.inr c)]; exact q3 u (by omega) h2)
    refine ⟨S'', g1, g2, ?_⟩
    rw [f_X7_spendSteps_L3, e]
    by_cases c : a (20 + j) < 0
    · have e3 : ∀ k, f_X7_spendSteps_L29 2000 t (iI m) (iI (R m + sHow a j now)) (iI 0) S' k = k (iI (bN a now j R m)) := fun k => by
        have h := cSpI ht' hw hn p1' c hR (u := m) (by omega) (fun s hs => q2 s (by omega)) (k := k) (m + 1) 2000 0 (by omega) (by omega)
        unfold bN
        rw [if_pos c]
        exact h
      simp (disch := omega) only [li_0, li_1, li_2, li_3, li_4, li_5, li_6, li_7, li_8, li_9, li_10, li_11, li_12, li_16, li_19, li_20, li_28, li_48, li_57, li_59, li_60, li_96, li_97, li_99, li_100, li_102, li_103, li_104, li_112, li_115, li_116, li_118, li_119, li_121, li_124, li_132, li_255, li_256, li_1000, li_2000, li_1000000000, iI_add, iI_sub, iI_mul, iI_neg, iI_lt, iI_le, iI_eq, iI_clamp, iI_s, iI_m1, iI_div, bs, tn, tn4, tn12, tn20, tn124, tn28, itT, itF, if_pos, if_neg, p1', e1, e2, e3, g3]
    · have e4 := cSet ht' hw
      rw [if_neg c] at e4
      have e3 : ∀ k, f_X7_spendSteps_L29 2000 t (iI m) (iI (R m + sHow a j now)) (iI 0) S' k = k (iI (bN a now j R m)) := fun k => by
        unfold bN
        rw [if_neg c, show 2000 = 1999 + 1 from rfl, f_X7_spendSteps_L29]
        simp (disch := omega) only [li_0, li_1, li_2, li_3, li_4, li_5, li_6, li_7, li_8, li_9, li_10, li_11, li_12, li_16, li_19, li_20, li_28, li_48, li_57, li_59, li_60, li_96, li_97, li_99, li_100, li_102, li_103, li_104, li_112, li_115, li_116, li_118, li_119, li_121, li_124, li_132, li_255, li_256, li_1000, li_2000, li_1000000000, iI_add, iI_sub, iI_mul, iI_neg, iI_lt, iI_le, iI_eq, iI_clamp, iI_s, iI_m1, iI_div, bs, tn, tn4, tn12, tn20, tn124, tn28, itT, itF, if_pos, if_neg, e4]
      simp (disch := omega) only [li_0, li_1, li_2, li_3, li_4, li_5, li_6, li_7, li_8, li_9, li_10, li_11, li_12, li_16, li_19, li_20, li_28, li_48, li_57, li_59, li_60, li_96, li_97, li_99, li_100, li_102, li_103, li_104, li_112, li_115, li_116, li_118, li_119, li_121, li_124, li_132, li_255, li_256, li_1000, li_2000, li_1000000000, iI_add, iI_sub, iI_mul, iI_neg, iI_lt, iI_le, iI_eq, iI_clamp, iI_s, iI_m1, iI_div, bs, tn, tn4, tn12, tn20, tn124, tn28, itT, itF, if_pos, if_neg, p1', e1, e2, e3, g3]
theorem cSp {S : St} {t : Nat} {a : Nat → Int} {j : Nat} (ht : RT S t a j) (htt : t ≠ 72 ∧ t + 1 ≠ 72) (hw : WT a j) {now : Nat} (hn : now ≤ 11) (p1 : S.1 1 1 = iI now) {R : Nat → Int} (hR : ∀ u, 0 ≤ R u ∧ R u ≤ 9999) (h72 : ∀ u, u < 20 → S.1 72 u = iI (R u)) :
    ∃ S'', (∀ i q, i ≠ 72 → S''.1 i q = S.1 i q) ∧ (∀ u, u < 20 → S''.1 72 u = iI (bN a now j R u)) ∧ f_X7_spendSteps t S = some S'' := by
  obtain ⟨S'', g1, g2, g3⟩ := cSpL ht htt hw hn p1 hR (k := fun s => some s) 20 2000 S (by omega) (by omega) (fun _ _ _ => rfl) h72 (fun u h1 h2 => absurd h1 (by omega))
  refine ⟨S'', g1, g2, ?_⟩
  rw [f_X7_spendSteps]
  exact g3
theorem cBMinL {S : St} {a : Nat → Int} {N now : Nat} (hc : RC S 1 a) (hw : WFa a) (hN : a 0 = N) (hn : now ≤ 11) (hn1 : a 1 = now) {y1 : Int32} {k : St → Option (Int32 × St)} :
    ∀ d n x : Nat, ∀ S' : St, x + d = N → d < n → (∀ i q, i ≠ 72 → S'.1 i q = S.1 i q) → (∀ u, u < 20 → S'.1 72 u = iI (bR a now x u)) →
    ∃ S'', (∀ i q, i ≠ 72 → S''.1 i q = S.1 i q) ∧ (∀ u, u < 20 → S''.1 72 u = iI (bR a now N u)) ∧ f_X7_byMinutes_L41 n y1 (iI x) S' k = k S'' := by
  have h8 := hw.1
  intro d
  induction d with
  | zero =>
    intro n x S' hx hd q1 q2
    obtain ⟨n, rfl⟩ : ∃ p, n = p + 1 := ⟨n - 1, by omega⟩
    obtain rfl : x = N := by omega
    have e0 : S'.1 1 0 = iI x := by rw [q1 _ _ (by omega), hc.1 0 (by omega), hN]
    refine ⟨S', q1, q2, ?_⟩
    rw [f_X7_byMinutes_L41]
    simp (disch := omega) only [li_0, li_1, li_2, li_3, li_4, li_5, li_6, li_7, li_8, li_9, li_10, li_11, li_12, li_16, li_19, li_20, li_28, li_48, li_57, li_59, li_60, li_96, li_97, li_99, li_100, li_102, li_103, li_104, li_112, li_115, li_116, li_118, li_119, li_121, li_124, li_132, li_255, li_256, li_1000, li_2000, li_1000000000, iI_add, iI_sub, iI_mul, iI_neg, iI_lt, iI_le, iI_eq, iI_clamp, iI_s, iI_m1, iI_div, bs, tn, tn4, tn12, tn20, tn124, tn28, itT, itF, if_pos, if_neg, e0]
  | succ d ih =>
    intro n x S' hx hd q1 q2
    obtain ⟨n, rfl⟩ : ∃ p, n = p + 1 := ⟨n - 1, by omega⟩
    have hc' : RC S' 1 a := hc.frt (fun i k h1 h2 => q1 i k (by omega))
    have e0 : S'.1 1 0 = iI N := by rw [hc'.1 0 (by omega), hN]
    have p1 : S'.1 1 1 = iI now := by rw [hc'.1 1 (by omega), hn1]
    have e1 := cAt (S := S') (q := 1) (j := x) (by omega)
    have bb := bR_b hw hn x (by omega)
    obtain ⟨S1, s1, s2, s3⟩ := cSp (hc'.t (j := x) (by omega) (by omega)) (by omega) (hw.t (by omega)) hn p1 (R := bR a now x) (fun u => by have := bb u; omega) q2
    obtain ⟨S'', g1, g2, g3⟩ := ih n (x + 1) S1 (by omega) (by omega) (fun i q hi => by rw [s1 i q hi]; exact q1 i q hi) s2
    refine ⟨S'', g1, g2, ?_⟩
    rw [f_X7_byMinutes_L41]
    simp (disch := omega) only [li_0, li_1, li_2, li_3, li_4, li_5, li_6, li_7, li_8, li_9, li_10, li_11, li_12, li_16, li_19, li_20, li_28, li_48, li_57, li_59, li_60, li_96, li_97, li_99, li_100, li_102, li_103, li_104, li_112, li_115, li_116, li_118, li_119, li_121, li_124, li_132, li_255, li_256, li_1000, li_2000, li_1000000000, iI_add, iI_sub, iI_mul, iI_neg, iI_lt, iI_le, iI_eq, iI_clamp, iI_s, iI_m1, iI_div, bs, tn, tn4, tn12, tn20, tn124, tn28, itT, itF, if_pos, if_neg, e0, e1, s3, g3]
theorem cBM0 {S : St} {y1 : Int32} {k : St → Option (Int32 × St)} : ∀ d n x : Nat, ∀ S' : St, x + d = 20 → d < n → (∀ i q, i ≠ 72 → S'.1 i q = S.1 i q) → (∀ u, u < x → S'.1 72 u = iI 0) →
    ∃ S'', (∀ i q, i ≠ 72 → S''.1 i q = S.1 i q) ∧ (∀ u, u < 20 → S''.1 72 u = iI 0) ∧ f_X7_byMinutes_L20 n y1 (iI x) S' k = k S'' := by
  intro d
  induction d with
  | zero =>
    intro n x S' hx hd h1 h2
    obtain ⟨n, rfl⟩ : ∃ p, n = p + 1 := ⟨n - 1, by omega⟩
    obtain rfl : x = 20 := by omega
    refine ⟨S', h1, h2, ?_⟩
    rw [f_X7_byMinutes_L20]
    simp (disch := omega) only [li_0, li_1, li_2, li_3, li_4, li_5, li_6, li_7, li_8, li_9, li_10, li_11, li_12, li_16, li_19, li_20, li_28, li_48, li_57, li_59, li_60, li_96, li_97, li_99, li_100, li_102, li_103, li_104, li_112, li_115, li_116, li_118, li_119, li_121, li_124, li_132, li_255, li_256, li_1000, li_2000, li_1000000000, iI_add, iI_sub, iI_mul, iI_neg, iI_lt, iI_le, iI_eq, iI_clamp, iI_s, iI_m1, iI_div, bs, tn, tn4, tn12, tn20, tn124, tn28, itT, itF, if_pos, if_neg]
  | succ d ih =>
    intro n x S' hx hd h1 h2
    obtain ⟨n, rfl⟩ : ∃ p, n = p + 1 := ⟨n - 1, by omega⟩
    obtain ⟨S'', g1, g2, g3⟩ := ih n (x + 1) (up S' 72 x (iI 0)) (by omega) (by omega) (fun i k hi => by rw [up_ne hi]; exact h1 i k hi) (fun p hp => by
      by_cases e : p = x
      · rw [e, up_s]
      · rw [up_n (Or.inr e)]; exact h2 p (by omega))
    refine ⟨S'', g1, g2, ?_⟩
    rw [f_X7_byMinutes_L20]
    simp (disch := omega) only [li_0, li_1, li_2, li_3, li_4, li_5, li_6, li_7, li_8, li_9, li_10, li_11, li_12, li_16, li_19, li_20, li_28, li_48, li_57, li_59, li_60, li_96, li_97, li_99, li_100, li_102, li_103, li_104, li_112, li_115, li_116, li_118, li_119, li_121, li_124, li_132, li_255, li_256, li_1000, li_2000, li_1000000000, iI_add, iI_sub, iI_mul, iI_neg, iI_lt, iI_le, iI_eq, iI_clamp, iI_s, iI_m1, iI_div, bs, tn, tn4, tn12, tn20, tn124, tn28, itT, itF, if_pos, if_neg, g3]
-- the reference
theorem rMI {S : St} {a : Nat → Int} {j now : Nat} (hm : RM S 75 a) (hj : j < 8) (hw : WT a j) (hn : now ≤ 11) (hn1 : a 1 = now) (hs : a (20 + j) < 0) {R : Nat → Int} (hR : ∀ u, 0 ≤ R u ∧ R u ≤ 9999) {y1 : Int32} {q : Nat} (hq : q < 100) (h83 : ∀ t, t ≤ q → S.1 83 t = iI (R (t / 5))) {k : St → Option (Int32 × St)} :
    ∀ d n t : Nat, ∀ S' : St, t + d = q + 1 → d < n → (∀ i p, ¬ (i = 84 ∧ p = q) → S'.1 i p = S.1 i p) → S'.1 84 q = iI (bW R (gY a j now) (sHow a j now) q t) →
    ∃ S'', (∀ i p, ¬ (i = 84 ∧ p = q) → S''.1 i p = S.1 i p) ∧ S''.1 84 q = iI (bW R (gY a j now) (sHow a j now) q (q + 1)) ∧ f_X8_byMinutes_L87 n y1 (iI j) (iI q) (iI t) S' k = k S'' := by
  have hh := sHow_b hw hn
  have k1 := hw.2.2.1
  intro d
  induction d with
  | zero =>
    intro n t S' hx hd q1 q2
    obtain ⟨n, rfl⟩ : ∃ p, n = p + 1 := ⟨n - 1, by omega⟩
    obtain rfl : t = q + 1 := by omega
    refine ⟨S', q1, q2, ?_⟩
    rw [f_X8_byMinutes_L87]
    simp (disch := omega) only [li_0, li_1, li_2, li_3, li_4, li_5, li_6, li_7, li_8, li_9, li_10, li_11, li_12, li_16, li_19, li_20, li_28, li_48, li_57, li_59, li_60, li_96, li_97, li_99, li_100, li_102, li_103, li_104, li_112, li_115, li_116, li_118, li_119, li_121, li_124, li_132, li_255, li_256, li_1000, li_2000, li_1000000000, iI_add, iI_sub, iI_mul, iI_neg, iI_lt, iI_le, iI_eq, iI_clamp, iI_s, iI_m1, iI_div, bs, tn, tn4, tn12, tn20, tn124, tn28, itT, itF, if_pos, if_neg]
  | succ d ih =>
    intro n t S' hx hd q1 q2
    obtain ⟨n, rfl⟩ : ∃ p, n = p + 1 := ⟨n - 1, by omega⟩
    have hm' : ∀ k, k < 132 → S'.1 75 k = iI (a k) := fun k hk => by rw [q1 _ _ (by omega)]; exact hm k hk
    have e0 := hm' (20 + j) (by omega)
    have e1 := rY hm' hj hw hn hn1 (m := (t : Int)) (f := 0) (by omega) (by omega)
    rw [sY5 a j now (m := (t : Int)) (u := t / 5) (by omega)] at e1
    obtain ⟨Y, hY⟩ : ∃ Y, Y = sY a j now (5 * ((t / 5 : Nat) : Int)) 0 := ⟨_, rfl⟩
    rw [← hY] at e1
    have yb : Y ≤ now := by rw [hY]; exact sY_le a j now _ 0
    have e3 : S'.1 75 (28 + 12 * j + Y) = iI (gY a j now (t / 5)) := by rw [hm' _ (by omega), hY]; rfl
    have e4 : S'.1 83 (q - t) = iI (R ((q - t) / 5)) := by rw [q1 _ _ (by omega)]; exact h83 (q - t) (by omega)
    have b1 := hR ((q - t) / 5)
    have b2 := gY_b hw hn (t / 5)
    have b3 := bW_b (R := R) (g := gY a j now) (h := sHow a j now) (k := q) hR (gY_b hw hn) hh t
    have e5 := rMost (x := bW R (gY a j now) (sHow a j now) q t) (y := R ((q - t) / 5) + gY a j now (t / 5)) (by omega) (by omega) (by omega) (by omega)
    have eW : bW R (gY a j now) (sHow a j now) q (t + 1) = if bW R (gY a j now) (sHow a j now) q t ≤ R ((q - t) / 5) + gY a j now (t / 5) then R ((q - t) / 5) + gY a j now (t / 5) else bW R (gY a j now) (sHow a j now) q t := rfl
    rw [← eW] at e5
    obtain ⟨S'', g1, g2, g3⟩ := ih n (t + 1) (up S' 84 q (iI (bW R (gY a j now) (sHow a j now) q (t + 1)))) (by omega) (by omega) (fun i p hi => by rw [up_n (by omega)]; exact q1 i p hi) up_s
    refine ⟨S'', g1, g2, ?_⟩
    have j1 : (20 + iI (j : Int) : Int32) = iI ((20 + j : Nat) : Int) := by rw [show (20 : Int32) = iI 20 from rfl, iI_add]; rfl
    have j2 : (iI ((20 + j : Nat) : Int)).toNatClampNeg = 20 + j := by rw [iI_clamp (by omega) (by omega)]; rfl
    have j3 : ¬ (iI ((20 + j : Nat) : Int) < 0 ∨ 132 ≤ 20 + j) := by rw [show (0 : Int32) = iI 0 from rfl, iI_lt (by omega) (by omega) (by omega) (by omega)]; omega
    have j4 : (iI (t : Int) + 1 : Int32) = iI ((t + 1 : Nat) : Int) := by rw [show (1 : Int32) = iI 1 from rfl, iI_add]; rfl
    have j5 : (iI (q : Int)).toNatClampNeg = q := by rw [iI_clamp (by omega) (by omega)]; rfl
    have j6 : ¬ (iI (q : Int) < 0 ∨ 100 ≤ q) := by rw [show (0 : Int32) = iI 0 from rfl, iI_lt (by omega) (by omega) (by omega) (by omega)]; omega
    have j7 : (iI (q : Int) - iI (t : Int)).toNatClampNeg = q - t := by rw [iI_sub, iI_clamp (by omega) (by omega)]; omega
    have j8 : ¬ ((iI (q : Int) - iI (t : Int)) < 0 ∨ 100 ≤ q - t) := by rw [iI_sub, show (0 : Int32) = iI 0 from rfl, iI_lt (by omega) (by omega) (by omega) (by omega)]; omega
    have j9 : (iI (28 + 12 * (j : Int) + (Y : Int))).toNatClampNeg = 28 + 12 * j + Y := by rw [iI_clamp (by omega) (by omega)]; omega
    have j10 : ¬ (iI (28 + 12 * (j : Int) + (Y : Int)) < 0 ∨ 132 ≤ 28 + 12 * j + Y) := by rw [show (0 : Int32) = iI 0 from rfl, iI_lt (by omega) (by omega) (by omega) (by omega)]; omega
    rw [f_X8_byMinutes_L87, if_neg (by rw [iI_lt (by omega) (by omega) (by omega) (by omega)]; omega), j1, j2, if_neg j3, e0, if_neg (by rw [show (0 : Int32) = iI 0 from rfl, iI_le (by omega) (by omega) (by omega) (by omega)]; omega), j5, if_neg j6, j7, if_neg j8]
    rw [show (0 : Int32) = iI 0 from rfl] at j10 j6 ⊢
    rw [e1, bs, rAt, bs, j9, if_neg j10, q2, e4, e3, iI_add, e5, bs, if_neg j6, j4]
    exact g3
theorem rMK {S : St} {a : Nat → Int} {j now : Nat} (hm : RM S 75 a) (hj : j < 8) (hw : WT a j) (hn : now ≤ 11) (hn1 : a 1 = now) {R : Nat → Int} (hR : ∀ u, 0 ≤ R u ∧ R u ≤ 9999) (hRm : ∀ i j, i ≤ j → R i ≤ R j) {M : Nat} (hM : M < 100) (h83 : ∀ t, t ≤ M → S.1 83 t = iI (R (t / 5))) {k : St → Option (Int32 × St)} :
    ∀ d n q : Nat, ∀ S' : St, q + d = M + 1 → d < n → (∀ i p, i ≠ 84 → S'.1 i p = S.1 i p) → (∀ t, t < q → S'.1 84 t = iI (bN a now j R (t / 5))) →
    ∃ S'', (∀ i p, i ≠ 84 → S''.1 i p = S.1 i p) ∧ (∀ t, t < M + 1 → S''.1 84 t = iI (bN a now j R (t / 5))) ∧ f_X8_byMinutes_L58 n (iI M) (iI j) (iI q) S' k = k S'' := by
  have hh := sHow_b hw hn
  have k1 := hw.2.2.1
  intro d
  induction d with
  | zero =>
    intro n q S' hx hd q1 q2
    obtain ⟨n, rfl⟩ : ∃ p, n = p + 1 := ⟨n - 1, by omega⟩
    obtain rfl : q = M + 1 := by omega
    refine ⟨S', q1, q2, ?_⟩
    rw [f_X8_byMinutes_L58]
    simp (disch := omega) only [li_0, li_1, li_2, li_3, li_4, li_5, li_6, li_7, li_8, li_9, li_10, li_11, li_12, li_16, li_19, li_20, li_28, li_48, li_57, li_59, li_60, li_96, li_97, li_99, li_100, li_102, li_103, li_104, li_112, li_115, li_116, li_118, li_119, li_121, li_124, li_132, li_255, li_256, li_1000, li_2000, li_1000000000, iI_add, iI_sub, iI_mul, iI_neg, iI_lt, iI_le, iI_eq, iI_clamp, iI_s, iI_m1, iI_div, bs, tn, tn4, tn12, tn20, tn124, tn28, itT, itF, if_pos, if_neg]
  | succ d ih =>
    intro n q S' hx hd q1 q2
    obtain ⟨n, rfl⟩ : ∃ p, n = p + 1 := ⟨n - 1, by omega⟩
    have hm' : ∀ k, k < 132 → S'.1 75 k = iI (a k) := fun k hk => by rw [q1 _ _ (by omega)]; exact hm k hk
    have e1 := rHow hm' hj hw hn hn1
    have e2 : S'.1 83 q = iI (R (q / 5)) := by rw [q1 _ _ (by omega)]; exact h83 q (by omega)
    have b0 := hR (q / 5)
    have main : ∀ k : St → Option (Int32 × St), ∃ S1, (∀ i p, ¬ (i = 84 ∧ p = q) → S1.1 i p = S'.1 i p) ∧ S1.1 84 q = iI (bN a now j R (q / 5)) ∧ f_X8_byMinutes_L87 2000 (iI M) (iI j) (iI q) (iI ((0 : Nat) : Int)) (up S' 84 q (iI (R (q / 5) + sHow a j now))) k = k S1 := by
      intro k
      by_cases c : a (20 + j) < 0
      · have hmu : RM (up S' 84 q (iI (R (q / 5) + sHow a j now))) 75 a := RM.ne (fun k hk => hm' k hk) (by omega)
        obtain ⟨S1, g1, g2, g3⟩ := rMI (S := up S' 84 q (iI (R (q / 5) + sHow a j now))) hmu hj hw hn hn1 c hR (y1 := iI M) (q := q) (by omega) (fun t ht => by rw [up_ne (by omega), q1 _ _ (by omega)]; exact h83 t (by omega)) (k := k) (q + 1) 2000 0 _ (by omega) (by omega) (fun _ _ _ => rfl) up_s
        refine ⟨S1, fun i p hi => by rw [g1 i p hi, up_n (by omega)], ?_, g3⟩
        rw [g2, bW_bM hRm]
        unfold bN
        rw [if_pos c]
      · refine ⟨up S' 84 q (iI (R (q / 5) + sHow a j now)), fun i p hi => up_n (by omega), ?_, ?_⟩
        · rw [up_s]
          unfold bN
          rw [if_neg c]
        · have e0 := hm' (20 + j) (by omega)
          rw [show 2000 = 1999 + 1 from rfl, f_X8_byMinutes_L87]
          simp (disch := omega) only [li_0, li_1, li_2, li_3, li_4, li_5, li_6, li_7, li_8, li_9, li_10, li_11, li_12, li_16, li_19, li_20, li_28, li_48, li_57, li_59, li_60, li_96, li_97, li_99, li_100, li_102, li_103, li_104, li_112, li_115, li_116, li_118, li_119, li_121, li_124, li_132, li_255, li_256, li_1000, li_2000, li_1000000000, iI_add, iI_sub, iI_mul, iI_neg, iI_lt, iI_le, iI_eq, iI_clamp, iI_s, iI_m1, iI_div, bs, tn, tn4, tn12, tn20, tn124, tn28, itT, itF, if_pos, if_neg, up_s, up_n, e0]
    rw [f_X8_byMinutes_L58]
    simp (disch := omega) only [li_0, li_1, li_2, li_3, li_4, li_5, li_6, li_7, li_8, li_9, li_10, li_11, li_12, li_16, li_19, li_20, li_28, li_48, li_57, li_59, li_60, li_96, li_97, li_99, li_100, li_102, li_103, li_104, li_112, li_115, li_116, li_118, li_119, li_121, li_124, li_132, li_255, li_256, li_1000, li_2000, li_1000000000, iI_add, iI_sub, iI_mul, iI_neg, iI_lt, iI_le, iI_eq, iI_clamp, iI_s, iI_m1, iI_div, bs, tn, tn4, tn12, tn20, tn124, tn28, itT, itF, if_pos, if_neg, e2, e1]
    obtain ⟨S1, g1, g2, g3⟩ := main (fun S21 => f_X8_byMinutes_L58 n (iI M) (iI j) (iI ((q + 1 : Nat) : Int)) S21 k)
    obtain ⟨S'', h1, h2, h3⟩ := ih n (q + 1) S1 (by omega) (by omega) (fun i p hi => by rw [g1 i p (by omega)]; exact q1 i p hi) (fun t ht => by
      by_cases c : t = q
      · rw [c]; exact g2
      · rw [g1 _ _ (by omega)]; exact q2 t (by omega))
    exact ⟨S'', h1, h2, g3.trans h3⟩
theorem rMC {S : St} {y2 : Int32} {M : Nat} (hM : M < 100) {k : St → Option (Int32 × St)} : ∀ d n q : Nat, ∀ S' : St, q + d = M + 1 → d < n → (∀ i p, i ≠ 83 → S'.1 i p = S.1 i p) → (∀ t, t < q → S'.1 83 t = S.1 84 t) →
    ∃ S'', (∀ i p, i ≠ 83 → S''.1 i p = S.1 i p) ∧ (∀ t, t < M + 1 → S''.1 83 t = S.1 84 t) ∧ f_X8_byMinutes_L164 n (iI M) y2 (iI q) S' k = k S'' := by
  intro d
  induction d with
  | zero =>
    intro n q S' hx hd q1 q2
    obtain ⟨n, rfl⟩ : ∃ p, n = p + 1 := ⟨n - 1, by omega⟩
    obtain rfl : q = M + 1 := by omega
    refine ⟨S', q1, q2, ?_⟩
    rw [f_X8_byMinutes_L164]
    simp (disch := omega) only [li_0, li_1, li_2, li_3, li_4, li_5, li_6, li_7, li_8, li_9, li_10, li_11, li_12, li_16, li_19, li_20, li_28, li_48, li_57, li_59, li_60, li_96, li_97, li_99, li_100, li_102, li_103, li_104, li_112, li_115, li_116, li_118, li_119, li_121, li_124, li_132, li_255, li_256, li_1000, li_2000, li_1000000000, iI_add, iI_sub, iI_mul, iI_neg, iI_lt, iI_le, iI_eq, iI_clamp, iI_s, iI_m1, iI_div, bs, tn, tn4, tn12, tn20, tn124, tn28, itT, itF, if_pos, if_neg]
  | succ d ih =>
    intro n q S' hx hd q1 q2
    obtain ⟨n, rfl⟩ : ∃ p, n = p + 1 := ⟨n - 1, by omega⟩
    obtain ⟨S'', h1, h2, h3⟩ := ih n (q + 1) (up S' 83 q (S'.1 84 q)) (by omega) (by omega) (fun i p hi => by rw [up_ne hi]; exact q1 i p hi) (fun t ht => by
      by_cases c : t = q
      · rw [c, up_s]; exact q1 _ _ (by omega)
      · rw [up_n (Or.inr c)]; exact q2 t (by omega))
    refine ⟨S'', h1, h2, ?_⟩
    rw [f_X8_byMinutes_L164]
    simp (disch := omega) only [li_0, li_1, li_2, li_3, li_4, li_5, li_6, li_7, li_8, li_9, li_10, li_11, li_12, li_16, li_19, li_20, li_28, li_48, li_57, li_59, li_60, li_96, li_97, li_99, li_100, li_102, li_103, li_104, li_112, li_115, li_116, li_118, li_119, li_121, li_124, li_132, li_255, li_256, li_1000, li_2000, li_1000000000, iI_add, iI_sub, iI_mul, iI_neg, iI_lt, iI_le, iI_eq, iI_clamp, iI_s, iI_m1, iI_div, bs, tn, tn4, tn12, tn20, tn124, tn28, itT, itF, if_pos, if_neg, h3]
theorem rM0 {S : St} {M : Nat} (hM : M < 100) {k : St → Option (Int32 × St)} : ∀ d n q : Nat, ∀ S' : St, q + d = M + 1 → d < n → (∀ i p, i ≠ 83 → S'.1 i p = S.1 i p) → (∀ t, t < q → S'.1 83 t = iI 0) →
    ∃ S'', (∀ i p, i ≠ 83 → S''.1 i p = S.1 i p) ∧ (∀ t, t < M + 1 → S''.1 83 t = iI 0) ∧ f_X8_byMinutes_L26 n (iI M) (iI q) S' k = k S'' := by
  intro d
  induction d with
  | zero =>
    intro n q S' hx hd q1 q2
    obtain ⟨n, rfl⟩ : ∃ p, n = p + 1 := ⟨n - 1, by omega⟩
    obtain rfl : q = M + 1 := by omega
    refine ⟨S', q1, q2, ?_⟩
    rw [f_X8_byMinutes_L26]
    simp (disch := omega) only [li_0, li_1, li_2, li_3, li_4, li_5, li_6, li_7, li_8, li_9, li_10, li_11, li_12, li_16, li_19, li_20, li_28, li_48, li_57, li_59, li_60, li_96, li_97, li_99, li_100, li_102, li_103, li_104, li_112, li_115, li_116, li_118, li_119, li_121, li_124, li_132, li_255, li_256, li_1000, li_2000, li_1000000000, iI_add, iI_sub, iI_mul, iI_neg, iI_lt, iI_le, iI_eq, iI_clamp, iI_s, iI_m1, iI_div, bs, tn, tn4, tn12, tn20, tn124, tn28, itT, itF, if_pos, if_neg]
  | succ d ih =>
    intro n q S' hx hd q1 q2
    obtain ⟨n, rfl⟩ : ∃ p, n = p + 1 := ⟨n - 1, by omega⟩
    obtain ⟨S'', h1, h2, h3⟩ := ih n (q + 1) (up S' 83 q (iI 0)) (by omega) (by omega) (fun i p hi => by rw [up_ne hi]; exact q1 i p hi) (fun t ht => by
      by_cases c : t = q
      · rw [c, up_s]
      · rw [up_n (Or.inr c)]; exact q2 t (by omega))
    refine ⟨S'', h1, h2, ?_⟩
    rw [f_X8_byMinutes_L26]
    simp (disch := omega) only [li_0, li_1, li_2, li_3, li_4, li_5, li_6, li_7, li_8, li_9, li_10, li_11, li_12, li_16, li_19, li_20, li_28, li_48, li_57, li_59, li_60, li_96, li_97, li_99, li_100, li_102, li_103, li_104, li_112, li_115, li_116, li_118, li_119, li_121, li_124, li_132, li_255, li_256, li_1000, li_2000, li_1000000000, iI_add, iI_sub, iI_mul, iI_neg, iI_lt, iI_le, iI_eq, iI_clamp, iI_s, iI_m1, iI_div, bs, tn, tn4, tn12, tn20, tn124, tn28, itT, itF, if_pos, if_neg, h3]
theorem rML {S : St} {a : Nat → Int} {N now : Nat} (hm : RM S 75 a) (hw : WFa a) (hN : a 0 = N) (hn : now ≤ 11) (hn1 : a 1 = now) {M : Nat} (hM : M < 100) {k : St → Option (Int32 × St)} :
    ∀ d n x : Nat, ∀ S' : St, x + d = N → d < n → (∀ i p, i ≠ 83 → i ≠ 84 → S'.1 i p = S.1 i p) → (∀ t, t ≤ M → S'.1 83 t = iI (bR a now x (t / 5))) →
    ∃ S'', (∀ i p, i ≠ 83 → i ≠ 84 → S''.1 i p = S.1 i p) ∧ (∀ t, t ≤ M → S''.1 83 t = iI (bR a now N (t / 5))) ∧ f_X8_byMinutes_L46 n (iI M) (iI x) S' k = k S'' := by
  have h8 := hw.1
  intro d
  induction d with
  | zero =>
    intro n x S' hx hd q1 q2
    obtain ⟨n, rfl⟩ : ∃ p, n = p + 1 := ⟨n - 1, by omega⟩
    obtain rfl : x = N := by omega
    have e0 : S'.1 75 0 = iI x := by rw [q1 _ _ (by omega) (by omega), hm 0 (by omega), hN]
    refine ⟨S', q1, q2, ?_⟩
    rw [f_X8_byMinutes_L46]
    simp (disch := omega) only [li_0, li_1, li_2, li_3, li_4, li_5, li_6, li_7, li_8, li_9, li_10, li_11, li_12, li_16, li_19, li_20, li_28, li_48, li_57, li_59, li_60, li_96, li_97, li_99, li_100, li_102, li_103, li_104, li_112, li_115, li_116, li_118, li_119, li_121, li_124, li_132, li_255, li_256, li_1000, li_2000, li_1000000000, iI_add, iI_sub, iI_mul, iI_neg, iI_lt, iI_le, iI_eq, iI_clamp, iI_s, iI_m1, iI_div, bs, tn, tn4, tn12, tn20, tn124, tn28, itT, itF, if_pos, if_neg, e0]
  | succ d ih =>
    intro n x S' hx hd q1 q2
    obtain ⟨n, rfl⟩ : ∃ p, n = p + 1 := ⟨n - 1, by omega⟩
    have hm' : RM S' 75 a := fun k hk => by rw [q1 _ _ (by omega) (by omega)]; exact hm k hk
    have e0 : S'.1 75 0 = iI N := by rw [hm' 0 (by omega), hN]
    have bb := bR_b hw hn x (by omega)
    obtain ⟨S1, s1, s2, s3⟩ := rMK (S := S') hm' (by omega) (hw.t (j := x) (by omega)) hn hn1 (R := bR a now x) (fun u => by have := bb u; omega) (bR_mono a now x) hM q2 (k := fun S22 => f_X8_byMinutes_L164 2000 (iI M) (iI x) (iI 0) S22 (fun S26 => f_X8_byMinutes_L46 n (iI M) (iI ((x + 1 : Nat) : Int)) S26 k)) (M + 1) 2000 0 S' (by omega) (by omega) (fun _ _ _ => rfl) (fun t ht => absurd ht (by omega))
    obtain ⟨S2, t1, t2, t3⟩ := rMC (S := S1) (y2 := iI x) hM (k := fun S26 => f_X8_byMinutes_L46 n (iI M) (iI ((x + 1 : Nat) : Int)) S26 k) (M + 1) 2000 0 S1 (by omega) (by omega) (fun _ _ _ => rfl) (fun t ht => absurd ht (by omega))
    obtain ⟨S'', g1, g2, g3⟩ := ih n (x + 1) S2 (by omega) (by omega) (fun i p h1 h2 => by rw [t1 i p h1, s1 i p h2]; exact q1 i p h1 h2) (fun t ht => by rw [t2 t (by omega), s2 t (by omega)]; rfl)
    refine ⟨S'', g1, g2, ?_⟩
    rw [f_X8_byMinutes_L46]
    simp (disch := omega) only [li_0, li_1, li_2, li_3, li_4, li_5, li_6, li_7, li_8, li_9, li_10, li_11, li_12, li_16, li_19, li_20, li_28, li_48, li_57, li_59, li_60, li_96, li_97, li_99, li_100, li_102, li_103, li_104, li_112, li_115, li_116, li_118, li_119, li_121, li_124, li_132, li_255, li_256, li_1000, li_2000, li_1000000000, iI_add, iI_sub, iI_mul, iI_neg, iI_lt, iI_le, iI_eq, iI_clamp, iI_s, iI_m1, iI_div, bs, tn, tn4, tn12, tn20, tn124, tn28, itT, itF, if_pos, if_neg, e0]
    exact s3.trans (t3.trans g3)
theorem e_byMinutes {S : St} (hS : Inv S) (a1 : Int32) : ∃ (z1 : Int32 × St) (z2 : Int32 × St), f_X7_byMinutes a1 S = some z1 ∧ f_X8_byMinutes a1 z1.2 = some z2 ∧ z1.1 = z2.1 ∧ Inv z2.2 := by
  obtain ⟨⟨a, hw, hc, hm0⟩, -⟩ := id hS
  have hm : ∀ k, k < 132 → S.1 75 k = iI (a k) := hm0
  have h8 := hw.1
  have w1 := hw.2.1
  have w2 := hw.2.2.1
  have w3 := hw.2.2.2.1
  obtain ⟨now, hnow⟩ : ∃ n : Nat, a 1 = n := ⟨(a 1).toNat, by omega⟩
  obtain ⟨N, hN⟩ : ∃ n : Nat, a 0 = n := ⟨(a 0).toNat, by omega⟩
  have hn : now ≤ 11 := by omega
  have hN8 : N ≤ 8 := by omega
  have p1 : S.1 1 1 = iI now := by rw [hc.1 1 (by omega), hnow]
  have p0 : S.1 1 0 = iI N := by rw [hc.1 0 (by omega), hN]
  have m0 : S.1 75 0 = iI N := by rw [hm 0 (by omega), hN]
  have m1 : S.1 75 1 = iI now := by rw [hm 1 (by omega), hnow]
  obtain ⟨x, x1, x2, rfl⟩ := iI_any a1
  have e1 := cOut (z := x) (l := 0) (u := 99) x1 x2 (by omega) (by omega) (by omega) (by omega)
  by_cases c1 : x < 0
  · exact e_no hS (-4) 4 (by omega) (by omega) (by simp (disch := omega) only [li_0, li_1, li_2, li_3, li_4, li_5, li_6, li_7, li_8, li_9, li_10, li_11, li_12, li_16, li_19, li_20, li_28, li_48, li_57, li_59, li_60, li_96, li_97, li_99, li_100, li_102, li_103, li_104, li_112, li_115, li_116, li_118, li_119, li_121, li_124, li_132, li_255, li_256, li_1000, li_2000, li_1000000000, iI_add, iI_sub, iI_mul, iI_neg, iI_lt, iI_le, iI_eq, iI_clamp, iI_s, iI_m1, iI_div, bs, tn, tn4, tn12, tn20, tn124, tn28, itT, itF, if_pos, if_neg, f_X7_byMinutes, e1, bse]) (fun S1 q1 q2 => by simp (disch := omega) only [li_0, li_1, li_2, li_3, li_4, li_5, li_6, li_7, li_8, li_9, li_10, li_11, li_12, li_16, li_19, li_20, li_28, li_48, li_57, li_59, li_60, li_96, li_97, li_99, li_100, li_102, li_103, li_104, li_112, li_115, li_116, li_118, li_119, li_121, li_124, li_132, li_255, li_256, li_1000, li_2000, li_1000000000, iI_add, iI_sub, iI_mul, iI_neg, iI_lt, iI_le, iI_eq, iI_clamp, iI_s, iI_m1, iI_div, bs, tn, tn4, tn12, tn20, tn124, tn28, itT, itF, if_pos, if_neg, f_X8_byMinutes, bse])
  · by_cases c2 : 99 < x
    · exact e_no hS (-6) 6 (by omega) (by omega) (by simp (disch := omega) only [li_0, li_1, li_2, li_3, li_4, li_5, li_6, li_7, li_8, li_9, li_10, li_11, li_12, li_16, li_19, li_20, li_28, li_48, li_57, li_59, li_60, li_96, li_97, li_99, li_100, li_102, li_103, li_104, li_112, li_115, li_116, li_118, li_119, li_121, li_124, li_132, li_255, li_256, li_1000, li_2000, li_1000000000, iI_add, iI_sub, iI_mul, iI_neg, iI_lt, iI_le, iI_eq, iI_clamp, iI_s, iI_m1, iI_div, bs, tn, tn4, tn12, tn20, tn124, tn28, itT, itF, if_pos, if_neg, f_X7_byMinutes, e1, bse]) (fun S1 q1 q2 => by simp (disch := omega) only [li_0, li_1, li_2, li_3, li_4, li_5, li_6, li_7, li_8, li_9, li_10, li_11, li_12, li_16, li_19, li_20, li_28, li_48, li_57, li_59, li_60, li_96, li_97, li_99, li_100, li_102, li_103, li_104, li_112, li_115, li_116, li_118, li_119, li_121, li_124, li_132, li_255, li_256, li_1000, li_2000, li_1000000000, iI_add, iI_sub, iI_mul, iI_neg, iI_lt, iI_le, iI_eq, iI_clamp, iI_s, iI_m1, iI_div, bs, tn, tn4, tn12, tn20, tn124, tn28, itT, itF, if_pos, if_neg, f_X8_byMinutes, bse])
    · obtain ⟨M, rfl⟩ : ∃ n : Nat, x = n := ⟨x.toNat, by omega⟩
      obtain ⟨S1, a1', a2', a3'⟩ := cBM0 (S := S) (y1 := iI M) (k := fun S5 => f_X7_byMinutes_L41 2000 (iI M) (iI 0) S5 (fun S9 => some (S9.1 72 (M / 5), S9))) 20 2000 0 S (by omega) (by omega) (fun _ _ _ => rfl) (fun u hu => absurd hu (by omega))
      have hc1 : RC S1 1 a := hc.frt (fun i k h1 h2 => a1' i k (by omega))
      obtain ⟨S2, b1, b2, b3⟩ := cBMinL (S := S1) hc1 hw hN hn hnow (y1 := iI M) (k := fun S9 => some (S9.1 72 (M / 5), S9)) N 2000 0 S1 (by omega) (by omega) (fun _ _ _ => rfl) (fun u hu => a2' u hu)
      have a4' := a3'.trans b3
      rw [b2 (M / 5) (by omega)] at a4'
      have hm2 : RM S2 75 a := fun k hk => by rw [b1 _ _ (by omega), a1' _ _ (by omega)]; exact hm k hk
      obtain ⟨S3, d1, d2, d3⟩ := rM0 (S := S2) (M := M) (by omega) (k := fun S5 => f_X8_byMinutes_L46 2000 (iI M) (iI 0) S5 (fun S27 => some (S27.1 83 M, S27))) (M + 1) 2000 0 S2 (by omega) (by omega) (fun _ _ _ => rfl) (fun u hu => absurd hu (by omega))
      have hm3 : RM S3 75 a := fun k hk => by rw [d1 _ _ (by omega)]; exact hm2 k hk
      obtain ⟨S4, f1, f2, f3⟩ := rML (S := S3) hm3 hw hN hn hnow (M := M) (by omega) (k := fun S27 => some (S27.1 83 M, S27)) N 2000 0 S3 (by omega) (by omega) (fun _ _ _ _ => rfl) (fun t ht => d2 t (by omega))
      have d4 := d3.trans f3
      rw [f2 M (by omega)] at d4
      have i9 : Inv S4 := hS.sm (fun i k hs => by
        unfold scr at hs
        rw [f1 _ _ (by omega) (by omega), d1 _ _ (by omega), b1 _ _ (by omega), a1' _ _ (by omega)])
      have q5 : ((M : Int) / 5).toNat = M / 5 := by omega
      have a5 : f_X7_byMinutes_L20 2000 (iI M) (iI 0) S (fun S5 => f_X7_byMinutes_L41 2000 (iI M) (iI 0) S5 (fun S9 => some (S9.1 72 (M / 5), S9))) = some (iI (bR a now N (M / 5)), S2) := a4'
      have d5 : f_X8_byMinutes_L26 2000 (iI M) (iI 0) S2 (fun S5 => f_X8_byMinutes_L46 2000 (iI M) (iI 0) S5 (fun S27 => some (S27.1 83 M, S27))) = some (iI (bR a now N (M / 5)), S4) := d4
      exact e_mk (v := iI (bR a now N (M / 5))) (S1 := S2) (S2 := S4) (by simp (disch := omega) only [li_0, li_1, li_2, li_3, li_4, li_5, li_6, li_7, li_8, li_9, li_10, li_11, li_12, li_16, li_19, li_20, li_28, li_48, li_57, li_59, li_60, li_96, li_97, li_99, li_100, li_102, li_103, li_104, li_112, li_115, li_116, li_118, li_119, li_121, li_124, li_132, li_255, li_256, li_1000, li_2000, li_1000000000, iI_add, iI_sub, iI_mul, iI_neg, iI_lt, iI_le, iI_eq, iI_clamp, iI_s, iI_m1, iI_div, bs, tn, tn4, tn12, tn20, tn124, tn28, itT, itF, if_pos, if_neg, f_X7_byMinutes, e1, q5, a5]) (by simp (disch := omega) only [li_0, li_1, li_2, li_3, li_4, li_5, li_6, li_7, li_8, li_9, li_10, li_11, li_12, li_16, li_19, li_20, li_28, li_48, li_57, li_59, li_60, li_96, li_97, li_99, li_100, li_102, li_103, li_104, li_112, li_115, li_116, li_118, li_119, li_121, li_124, li_132, li_255, li_256, li_1000, li_2000, li_1000000000, iI_add, iI_sub, iI_mul, iI_neg, iI_lt, iI_le, iI_eq, iI_clamp, iI_s, iI_m1, iI_div, bs, tn, tn4, tn12, tn20, tn124, tn28, itT, itF, if_pos, if_neg, f_X8_byMinutes, d5]) i9
