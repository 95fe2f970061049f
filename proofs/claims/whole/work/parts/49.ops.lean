-- ===== sums over pairs =====
def in2 (f : Nat → Nat → Int) (i x : Nat) : Int := sSum (fun j => if i < j then f i j else 0) x
def out2 (f : Nat → Nat → Int) (N x : Nat) : Int := sSum (fun i => in2 f i N) x
theorem in2_0 (f : Nat → Nat → Int) (i : Nat) : ∀ x, x ≤ i + 1 → in2 f i x = 0 := by
  intro x
  induction x with
  | zero => intro _; rfl
  | succ x ih =>
    intro h
    show sSum _ x + (if i < x then f i x else 0) = 0
    rw [if_neg (by omega)]
    have := ih (by omega)
    unfold in2 at this
    omega
theorem in2_s (f : Nat → Nat → Int) {i x : Nat} (h : i < x) : in2 f i (x + 1) = in2 f i x + f i x := by
  show sSum _ x + (if i < x then f i x else 0) = _
  rw [if_pos h]
  rfl
def sAgr (a : Nat → Int) (i j : Nat) : Prop := 0 ≤ a (20 + i) ∧ a (20 + i) = a (20 + j)
def fAgr (a : Nat → Int) (i j : Nat) : Int := if hb a i j = 1 ∧ (0 ≤ a (20 + i) ∧ a (20 + i) = a (20 + j)) then 1 else 0
def sPart (a : Nat → Int) (i : Nat) (d x : Nat) : Int := sFst (fun j => decide (hb a i j = 1 ∧ ¬ (0 ≤ a (20 + i) ∧ a (20 + i) = a (20 + j)))) d x
def sFA (a : Nat → Int) : Nat → Nat → Int
  | 0, _ => -9
  | d + 1, x => if sPart a x d (x + 1) < 0 then sFA a d (x + 1) else 10 * (x : Int) + sPart a x d (x + 1)
theorem iI_or0 (x : Int32) : x ||| iI 0 = x := Int32.or_zero
-- ===== the class' pairs =====
section CP1
variable {S : St} {q : Nat} {a : Nat → Int} {N : Nat}
theorem cSame (hc : RC S q a) (hw : WFa a) (hN : a 0 = N) {i j : Nat} (hi : i < N) (hj : j < N) : f_X3_setInOneYear q (iI i) (iI j) S = some (iI (if 0 ≤ a (20 + i) ∧ a (20 + i) = a (20 + j) then 1 else 0)) := by
  have h8 := hw.1
  have t1 := hc.t (j := i) (by omega) (by omega)
  have t2 := hc.t (j := j) (by omega) (by omega)
  have w1 := hw.t (j := i) (by omega)
  have w2 := hw.t (j := j) (by omega)
  have k1 := w1.2.2.1
  have k2 := w2.2.2.1
  have e1 := cAt (S := S) (q := q) (j := i) (by omega)
  have e2 := cAt (S := S) (q := q) (j := j) (by omega)
  have e3 := cSet t1 w1
  have e4 := t1.2.2.1
  have e5 := t2.2.2.1
  by_cases c1 : a (20 + i) < 0
  · simp (disch := omega) only [li_0, li_1, li_2, li_3, li_4, li_5, li_6, li_7, li_8, li_9, li_10, li_11, li_12, li_16, li_19, li_20, li_28, li_48, li_57, li_59, li_60, li_96, li_97, li_99, li_100, li_102, li_103, li_104, li_112, li_115, li_116, li_118, li_119, li_121, li_124, li_132, li_255, li_256, li_1000, li_2000, li_1000000000, iI_add, iI_sub, iI_mul, iI_neg, iI_lt, iI_le, iI_eq, iI_clamp, iI_s, iI_m1, iI_div, bs, tn, tn4, tn12, tn20, tn124, tn28, itT, itF, if_pos, if_neg, f_X3_setInOneYear, e1, e2, e3]
  · by_cases c2 : a (20 + i) = a (20 + j)
    · simp (disch := omega) only [li_0, li_1, li_2, li_3, li_4, li_5, li_6, li_7, li_8, li_9, li_10, li_11, li_12, li_16, li_19, li_20, li_28, li_48, li_57, li_59, li_60, li_96, li_97, li_99, li_100, li_102, li_103, li_104, li_112, li_115, li_116, li_118, li_119, li_121, li_124, li_132, li_255, li_256, li_1000, li_2000, li_1000000000, iI_add, iI_sub, iI_mul, iI_neg, iI_lt, iI_le, iI_eq, iI_clamp, iI_s, iI_m1, iI_div, bs, tn, tn4, tn12, tn20, tn124, tn28, itT, itF, if_pos, if_neg, f_X3_setInOneYear, e1, e2, e3, e4, e5]
    · simp (disch := omega) only [li_0, li_1, li_2, li_3, li_4, li_5, li_6, li_7, li_8, li_9, li_10, li_11, li_12, li_16, li_19, li_20, li_28, li_48, li_57, li_59, li_60, li_96, li_97, li_99, li_100, li_102, li_103, li_104, li_112, li_115, li_116, li_118, li_119, li_121, li_124, li_132, li_255, li_256, li_1000, li_2000, li_1000000000, iI_add, iI_sub, iI_mul, iI_neg, iI_lt, iI_le, iI_eq, iI_clamp, iI_s, iI_m1, iI_div, bs, tn, tn4, tn12, tn20, tn124, tn28, itT, itF, if_pos, if_neg, f_X3_setInOneYear, e1, e2, e3, e4, e5]
theorem cAgrI (hc : RC S q a) (hw : WFa a) (hN : a 0 = N) {i : Nat} {k : Int32 → Option Int32} (A : Int) :
    ∀ d n x : Nat, x + d = N → d < n → i < x → f_X3_countAgreeing_L16 n q (iI (A + in2 (fAgr a) i x)) (iI i) (iI x) S k = k (iI (A + in2 (fAgr a) i N)) := by
  have h8 := hw.1
  have e0 : S.1 q 0 = iI N := by rw [hc.1 0 (by omega), hN]
  intro d
  induction d with
  | zero =>
    intro n x hx hd hi
    obtain ⟨n, rfl⟩ : ∃ p, n = p + 1 := ⟨n - 1, by omega⟩
    obtain rfl : x = N := by omega
    rw [f_X3_countAgreeing_L16]
    simp (disch := omega) only [li_0, li_1, li_2, li_3, li_4, li_5, li_6, li_7, li_8, li_9, li_10, li_11, li_12, li_16, li_19, li_20, li_28, li_48, li_57, li_59, li_60, li_96, li_97, li_99, li_100, li_102, li_103, li_104, li_112, li_115, li_116, li_118, li_119, li_121, li_124, li_132, li_255, li_256, li_1000, li_2000, li_1000000000, iI_add, iI_sub, iI_mul, iI_neg, iI_lt, iI_le, iI_eq, iI_clamp, iI_s, iI_m1, iI_div, bs, tn, tn4, tn12, tn20, tn124, tn28, itT, itF, if_pos, if_neg, e0]
  | succ d ih =>
    intro n x hx hd hi
    obtain ⟨n, rfl⟩ : ∃ p, n = p + 1 := ⟨n - 1, by omega⟩
    have i1 := ih n (x + 1) (by omega) (by omega) (by omega)
    have e1 := cHalves hc hw hN (i := i) (j := x) (by omega) (by omega) (by omega)
    have e2 := cSame hc hw hN (i := i) (j := x) (by omega) (by omega)
    rw [in2_s _ hi, ← Int.add_assoc] at i1
    rw [f_X3_countAgreeing_L16]
    by_cases c1 : hb a i x = 1
    · by_cases c2 : 0 ≤ a (20 + i) ∧ a (20 + i) = a (20 + x)
      · rw [show fAgr a i x = 1 from if_pos ⟨c1, c2⟩] at i1
        simp (disch := omega) only [li_0, li_1, li_2, li_3, li_4, li_5, li_6, li_7, li_8, li_9, li_10, li_11, li_12, li_16, li_19, li_20, li_28, li_48, li_57, li_59, li_60, li_96, li_97, li_99, li_100, li_102, li_103, li_104, li_112, li_115, li_116, li_118, li_119, li_121, li_124, li_132, li_255, li_256, li_1000, li_2000, li_1000000000, iI_add, iI_sub, iI_mul, iI_neg, iI_lt, iI_le, iI_eq, iI_clamp, iI_s, iI_m1, iI_div, bs, tn, tn4, tn12, tn20, tn124, tn28, itT, itF, if_pos, if_neg, e0, e1, e2, i1]
      · rw [show fAgr a i x = 0 from if_neg (fun z => c2 z.2)] at i1
        simp (disch := omega) only [li_0, li_1, li_2, li_3, li_4, li_5, li_6, li_7, li_8, li_9, li_10, li_11, li_12, li_16, li_19, li_20, li_28, li_48, li_57, li_59, li_60, li_96, li_97, li_99, li_100, li_102, li_103, li_104, li_112, li_115, li_116, li_118, li_119, li_121, li_124, li_132, li_255, li_256, li_1000, li_2000, li_1000000000, iI_add, iI_sub, iI_mul, iI_neg, iI_lt, iI_le, iI_eq, iI_clamp, iI_s, iI_m1, iI_div, bs, tn, tn4, tn12, tn20, tn124, tn28, itT, itF, if_pos, if_neg, e0, e1, e2, i1]
    · rw [show fAgr a i x = 0 from if_neg (fun z => c1 z.1)] at i1
      have c3 := hb_le a i x
      simp (disch := omega) only [li_0, li_1, li_2, li_3, li_4, li_5, li_6, li_7, li_8, li_9, li_10, li_11, li_12, li_16, li_19, li_20, li_28, li_48, li_57, li_59, li_60, li_96, li_97, li_99, li_100, li_102, li_103, li_104, li_112, li_115, li_116, li_118, li_119, li_121, li_124, li_132, li_255, li_256, li_1000, li_2000, li_1000000000, iI_add, iI_sub, iI_mul, iI_neg, iI_lt, iI_le, iI_eq, iI_clamp, iI_s, iI_m1, iI_div, bs, tn, tn4, tn12, tn20, tn124, tn28, itT, itF, if_pos, if_neg, e0, e1, e2, i1]
theorem cAgrL (hc : RC S q a) (hw : WFa a) (hN : a 0 = N) {k : Int32 → Option Int32} :
    ∀ d n x : Nat, x + d = N → d < n → f_X3_countAgreeing_L4 n q (iI (out2 (fAgr a) N x)) (iI x) S k = k (iI (out2 (fAgr a) N N)) := by
  have h8 := hw.1
  have e0 : S.1 q 0 = iI N := by rw [hc.1 0 (by omega), hN]
  intro d
  induction d with
  | zero =>
    intro n x hx hd
    obtain ⟨n, rfl⟩ : ∃ p, n = p + 1 := ⟨n - 1, by omega⟩
    obtain rfl : x = N := by omega
    rw [f_X3_countAgreeing_L4]
    simp (disch := omega) only [li_0, li_1, li_2, li_3, li_4, li_5, li_6, li_7, li_8, li_9, li_10, li_11, li_12, li_16, li_19, li_20, li_28, li_48, li_57, li_59, li_60, li_96, li_97, li_99, li_100, li_102, li_103, li_104, li_112, li_115, li_116, li_118, li_119, li_121, li_124, li_132, li_255, li_256, li_1000, li_2000, li_1000000000, iI_add, iI_sub, iI_mul, iI_neg, iI_lt, iI_le, iI_eq, iI_clamp, iI_s, iI_m1, iI_div, bs, tn, tn4, tn12, tn20, tn124, tn28, itT, itF, if_pos, if_neg, e0]
  | succ d ih =>
    intro n x hx hd
    obtain ⟨n, rfl⟩ : ∃ p, n = p + 1 := ⟨n - 1, by omega⟩
    have i1 := ih n (x + 1) (by omega) (by omega)
    have e1 := cAgrI hc hw hN (i := x) (k := fun y => f_X3_countAgreeing_L4 n q y (iI ((x + 1 : Nat) : Int)) S k) (out2 (fAgr a) N x) d 2000 (x + 1) (by omega) (by omega) (by omega)
    rw [in2_0 _ _ _ (by omega), Int.add_zero] at e1
    rw [show out2 (fAgr a) N (x + 1) = out2 (fAgr a) N x + in2 (fAgr a) x N from rfl] at i1
    rw [f_X3_countAgreeing_L4]
    simp (disch := omega) only [li_0, li_1, li_2, li_3, li_4, li_5, li_6, li_7, li_8, li_9, li_10, li_11, li_12, li_16, li_19, li_20, li_28, li_48, li_57, li_59, li_60, li_96, li_97, li_99, li_100, li_102, li_103, li_104, li_112, li_115, li_116, li_118, li_119, li_121, li_124, li_132, li_255, li_256, li_1000, li_2000, li_1000000000, iI_add, iI_sub, iI_mul, iI_neg, iI_lt, iI_le, iI_eq, iI_clamp, iI_s, iI_m1, iI_div, bs, tn, tn4, tn12, tn20, tn124, tn28, itT, itF, if_pos, if_neg, e0]
    rw [e1]
    exact i1
theorem cAgr (hc : RC S q a) (hw : WFa a) (hN : a 0 = N) : f_X3_countAgreeing q S = some (iI (out2 (fAgr a) N N)) := by
  have h8 := hw.1
  have i := cAgrL hc hw hN (k := fun y => some y) N 2000 0 (by omega) (by omega)
  rw [f_X3_countAgreeing]
  exact i
theorem cHalfI (hc : RC S q a) (hw : WFa a) (hN : a 0 = N) {i : Nat} {k : Int32 → Option Int32} (A : Int) :
    ∀ d n x : Nat, x + d = N → d < n → i < x → f_X3_countHalves_L16 n q (iI (A + in2 (fun i j => (hb a i j : Int)) i x)) (iI i) (iI x) S k = k (iI (A + in2 (fun i j => (hb a i j : Int)) i N)) := by
  have h8 := hw.1
  have e0 : S.1 q 0 = iI N := by rw [hc.1 0 (by omega), hN]
  intro d
  induction d with
  | zero =>
    intro n x hx hd hi
    obtain ⟨n, rfl⟩ : ∃ p, n = p + 1 := ⟨n - 1, by omega⟩
    obtain rfl : x = N := by omega
    rw [f_X3_countHalves_L16]
    simp (disch := omega) only [li_0, li_1, li_2, li_3, li_4, li_5, li_6, li_7, li_8, li_9, li_10, li_11, li_12, li_16, li_19, li_20, li_28, li_48, li_57, li_59, li_60, li_96, li_97, li_99, li_100, li_102, li_103, li_104, li_112, li_115, li_116, li_118, li_119, li_121, li_124, li_132, li_255, li_256, li_1000, li_2000, li_1000000000, iI_add, iI_sub, iI_mul, iI_neg, iI_lt, iI_le, iI_eq, iI_clamp, iI_s, iI_m1, iI_div, bs, tn, tn4, tn12, tn20, tn124, tn28, itT, itF, if_pos, if_neg, e0]
  | succ d ih =>
    intro n x hx hd hi
    obtain ⟨n, rfl⟩ : ∃ p, n = p + 1 := ⟨n - 1, by omega⟩
    have i1 := ih n (x + 1) (by omega) (by omega) (by omega)
    have e1 := cHalves hc hw hN (i := i) (j := x) (by omega) (by omega) (by omega)
    rw [in2_s _ hi, ← Int.add_assoc] at i1
    rw [f_X3_countHalves_L16]
    rcases hb_le a i x with c | c
    · rw [show ((hb a i x : Nat) : Int) = 0 by rw [c]; rfl] at i1 e1
      simp (disch := omega) only [li_0, li_1, li_2, li_3, li_4, li_5, li_6, li_7, li_8, li_9, li_10, li_11, li_12, li_16, li_19, li_20, li_28, li_48, li_57, li_59, li_60, li_96, li_97, li_99, li_100, li_102, li_103, li_104, li_112, li_115, li_116, li_118, li_119, li_121, li_124, li_132, li_255, li_256, li_1000, li_2000, li_1000000000, iI_add, iI_sub, iI_mul, iI_neg, iI_lt, iI_le, iI_eq, iI_clamp, iI_s, iI_m1, iI_div, bs, tn, tn4, tn12, tn20, tn124, tn28, itT, itF, if_pos, if_neg, e0, e1, i1]
    · rw [show ((hb a i x : Nat) : Int) = 1 by rw [c]; rfl] at i1 e1
      simp (disch := omega) only [li_0, li_1, li_2, li_3, li_4, li_5, li_6, li_7, li_8, li_9, li_10, li_11, li_12, li_16, li_19, li_20, li_28, li_48, li_57, li_59, li_60, li_96, li_97, li_99, li_100, li_102, li_103, li_104, li_112, li_115, li_116, li_118, li_119, li_121, li_124, li_132, li_255, li_256, li_1000, li_2000, li_1000000000, iI_add, iI_sub, iI_mul, iI_neg, iI_lt, iI_le, iI_eq, iI_clamp, iI_s, iI_m1, iI_div, bs, tn, tn4, tn12, tn20, tn124, tn28, itT, itF, if_pos, if_neg, e0, e1, i1]
theorem cHalfL (hc : RC S q a) (hw : WFa a) (hN : a 0 = N) {k : Int32 → Option Int32} :
    ∀ d n x : Nat, x + d = N → d < n → f_X3_countHalves_L4 n q (iI (out2 (fun i j => (hb a i j : Int)) N x)) (iI x) S k = k (iI (out2 (fun i j => (hb a i j : Int)) N N)) := by
  have h8 := hw.1
  have e0 : S.1 q 0 = iI N := by rw [hc.1 0 (by omega), hN]
  intro d
  induction d with
  | zero =>
    intro n x hx hd
    obtain ⟨n, rfl⟩ : ∃ p, n = p + 1 := ⟨n - 1, by omega⟩
    obtain rfl : x = N := by omega
    rw [f_X3_countHalves_L4]
    simp (disch := omega) only [li_0, li_1, li_2, li_3, li_4, li_5, li_6, li_7, li_8, li_9, li_10, li_11, li_12, li_16, li_19, li_20, li_28, li_48, li_57, li_59, li_60, li_96, li_97, li_99, li_100, li_102, li_103, li_104, li_112, li_115, li_116, li_118, li_119, li_121, li_124, li_132, li_255, li_256, li_1000, li_2000, li_1000000000, iI_add, iI_sub, iI_mul, iI_neg, iI_lt, iI_le, iI_eq, iI_clamp, iI_s, iI_m1, iI_div, bs, tn, tn4, tn12, tn20, tn124, tn28, itT, itF, if_pos, if_neg, e0]
  | succ d ih =>
    intro n x hx hd
    obtain ⟨n, rfl⟩ : ∃ p, n = p + 1 := ⟨n - 1, by omega⟩
    have i1 := ih n (x + 1) (by omega) (by omega)
    have e1 := cHalfI hc hw hN (i := x) (k := fun y => f_X3_countHalves_L4 n q y (iI ((x + 1 : Nat) : Int)) S k) (out2 (fun i j => (hb a i j : Int)) N x) d 2000 (x + 1) (by omega) (by omega) (by omega)
    rw [in2_0 _ _ _ (by omega), Int.add_zero] at e1
    rw [show out2 (fun i j => (hb a i j : Int)) N (x + 1) = out2 (fun i j => (hb a i j : Int)) N x + in2 (fun i j => (hb a i j : Int)) x N from rfl] at i1
    rw [f_X3_countHalves_L4]
    simp (disch := omega) only [li_0, li_1, li_2, li_3, li_4, li_5, li_6, li_7, li_8, li_9, li_10, li_11, li_12, li_16, li_19, li_20, li_28, li_48, li_57, li_59, li_60, li_96, li_97, li_99, li_100, li_102, li_103, li_104, li_112, li_115, li_116, li_118, li_119, li_121, li_124, li_132, li_255, li_256, li_1000, li_2000, li_1000000000, iI_add, iI_sub, iI_mul, iI_neg, iI_lt, iI_le, iI_eq, iI_clamp, iI_s, iI_m1, iI_div, bs, tn, tn4, tn12, tn20, tn124, tn28, itT, itF, if_pos, if_neg, e0]
    rw [e1]
    exact i1
theorem cHalf (hc : RC S q a) (hw : WFa a) (hN : a 0 = N) : f_X3_countHalves q S = some (iI (out2 (fun i j => (hb a i j : Int)) N N)) := by
  have h8 := hw.1
  have i := cHalfL hc hw hN (k := fun y => some y) N 2000 0 (by omega) (by omega)
  rw [f_X3_countHalves]
  exact i
theorem cPartL (hc : RC S q a) (hw : WFa a) (hN : a 0 = N) {i : Nat} {k : Int32 → Option Int32} {k9 : Unit → Option Int32} :
    ∀ d n x : Nat, x + d = N → d < n → i < x → f_X3_firstApart_L14 n q (iI i) (iI x) S k k9 = if sPart a i d x < 0 then k9 () else k (iI (sPart a i d x)) := by
  have h8 := hw.1
  have e0 : S.1 q 0 = iI N := by rw [hc.1 0 (by omega), hN]
  intro d
  induction d with
  | zero =>
    intro n x hx hd hi
    obtain ⟨n, rfl⟩ : ∃ p, n = p + 1 := ⟨n - 1, by omega⟩
    rw [f_X3_firstApart_L14, sPart, sFst]
    simp (disch := omega) only [li_0, li_1, li_2, li_3, li_4, li_5, li_6, li_7, li_8, li_9, li_10, li_11, li_12, li_16, li_19, li_20, li_28, li_48, li_57, li_59, li_60, li_96, li_97, li_99, li_100, li_102, li_103, li_104, li_112, li_115, li_116, li_118, li_119, li_121, li_124, li_132, li_255, li_256, li_1000, li_2000, li_1000000000, iI_add, iI_sub, iI_mul, iI_neg, iI_lt, iI_le, iI_eq, iI_clamp, iI_s, iI_m1, iI_div, bs, tn, tn4, tn12, tn20, tn124, tn28, itT, itF, if_pos, if_neg, e0]
  | succ d ih =>
    intro n x hx hd hi
    obtain ⟨n, rfl⟩ : ∃ p, n = p + 1 := ⟨n - 1, by omega⟩
    have i1 := ih n (x + 1) (by omega) (by omega) (by omega)
    have e1 := cHalves hc hw hN (i := i) (j := x) (by omega) (by omega) (by omega)
    have e2 := cSame hc hw hN (i := i) (j := x) (by omega) (by omega)
    have e3 : sPart a i (d + 1) x = if decide (hb a i x = 1 ∧ ¬ (0 ≤ a (20 + i) ∧ a (20 + i) = a (20 + x))) = true then (x : Int) else sPart a i d (x + 1) := rfl
    rw [f_X3_firstApart_L14, e3]
    by_cases c1 : hb a i x = 1
    · by_cases c2 : 0 ≤ a (20 + i) ∧ a (20 + i) = a (20 + x)
      · simp (disch := omega) only [li_0, li_1, li_2, li_3, li_4, li_5, li_6, li_7, li_8, li_9, li_10, li_11, li_12, li_16, li_19, li_20, li_28, li_48, li_57, li_59, li_60, li_96, li_97, li_99, li_100, li_102, li_103, li_104, li_112, li_115, li_116, li_118, li_119, li_121, li_124, li_132, li_255, li_256, li_1000, li_2000, li_1000000000, iI_add, iI_sub, iI_mul, iI_neg, iI_lt, iI_le, iI_eq, iI_clamp, iI_s, iI_m1, iI_div, bs, tn, tn4, tn12, tn20, tn124, tn28, itT, itF, if_pos, if_neg, e0, e1, e2, i1, decide_eq_true_eq]
      · simp (disch := omega) only [li_0, li_1, li_2, li_3, li_4, li_5, li_6, li_7, li_8, li_9, li_10, li_11, li_12, li_16, li_19, li_20, li_28, li_48, li_57, li_59, li_60, li_96, li_97, li_99, li_100, li_102, li_103, li_104, li_112, li_115, li_116, li_118, li_119, li_121, li_124, li_132, li_255, li_256, li_1000, li_2000, li_1000000000, iI_add, iI_sub, iI_mul, iI_neg, iI_lt, iI_le, iI_eq, iI_clamp, iI_s, iI_m1, iI_div, bs, tn, tn4, tn12, tn20, tn124, tn28, itT, itF, if_pos, if_neg, e0, e1, e2, decide_eq_true_eq]
    · have c3 := hb_le a i x
      simp (disch := omega) only [li_0, li_1, li_2, li_3, li_4, li_5, li_6, li_7, li_8, li_9, li_10, li_11, li_12, li_16, li_19, li_20, li_28, li_48, li_57, li_59, li_60, li_96, li_97, li_99, li_100, li_102, li_103, li_104, li_112, li_115, li_116, li_118, li_119, li_121, li_124, li_132, li_255, li_256, li_1000, li_2000, li_1000000000, iI_add, iI_sub, iI_mul, iI_neg, iI_lt, iI_le, iI_eq, iI_clamp, iI_s, iI_m1, iI_div, bs, tn, tn4, tn12, tn20, tn124, tn28, itT, itF, if_pos, if_neg, e0, e1, i1, decide_eq_true_eq]
theorem cApartL (hc : RC S q a) (hw : WFa a) (hN : a 0 = N) {k : Int32 → Int32 → Option Int32} {k9 : Unit → Option Int32} {K : Int32 → Option Int32} (hk : ∀ x y : Int, k (iI x) (iI y) = K (iI (10 * x + y))) (h9 : k9 () = K (iI (-9))) :
    ∀ d n x : Nat, x + d = N → d < n → f_X3_firstApart_L2 n q (iI x) S k k9 = K (iI (sFA a d x)) := by
  have h8 := hw.1
  have e0 : S.1 q 0 = iI N := by rw [hc.1 0 (by omega), hN]
  intro d
  induction d with
  | zero =>
    intro n x hx hd
    obtain ⟨n, rfl⟩ : ∃ p, n = p + 1 := ⟨n - 1, by omega⟩
    rw [f_X3_firstApart_L2, sFA]
    simp (disch := omega) only [li_0, li_1, li_2, li_3, li_4, li_5, li_6, li_7, li_8, li_9, li_10, li_11, li_12, li_16, li_19, li_20, li_28, li_48, li_57, li_59, li_60, li_96, li_97, li_99, li_100, li_102, li_103, li_104, li_112, li_115, li_116, li_118, li_119, li_121, li_124, li_132, li_255, li_256, li_1000, li_2000, li_1000000000, iI_add, iI_sub, iI_mul, iI_neg, iI_lt, iI_le, iI_eq, iI_clamp, iI_s, iI_m1, iI_div, bs, tn, tn4, tn12, tn20, tn124, tn28, itT, itF, if_pos, if_neg, e0]
    exact h9
  | succ d ih =>
    intro n x hx hd
    obtain ⟨n, rfl⟩ : ∃ p, n = p + 1 := ⟨n - 1, by omega⟩
    have i1 := ih n (x + 1) (by omega) (by omega)
    have e1 := cPartL hc hw hN (i := x) (k := fun y => k (iI x) y) (k9 := fun _ => f_X3_firstApart_L2 n q (iI ((x + 1 : Nat) : Int)) S k k9) d 2000 (x + 1) (by omega) (by omega) (by omega)
    rw [f_X3_firstApart_L2, sFA]
    simp (disch := omega) only [li_0, li_1, li_2, li_3, li_4, li_5, li_6, li_7, li_8, li_9, li_10, li_11, li_12, li_16, li_19, li_20, li_28, li_48, li_57, li_59, li_60, li_96, li_97, li_99, li_100, li_102, li_103, li_104, li_112, li_115, li_116, li_118, li_119, li_121, li_124, li_132, li_255, li_256, li_1000, li_2000, li_1000000000, iI_add, iI_sub, iI_mul, iI_neg, iI_lt, iI_le, iI_eq, iI_clamp, iI_s, iI_m1, iI_div, bs, tn, tn4, tn12, tn20, tn124, tn28, itT, itF, if_pos, if_neg, e0]
    rw [e1]
    by_cases c : sPart a x d (x + 1) < 0
    · rw [if_pos c, if_pos c]; exact i1
    · rw [if_neg c, if_neg c]; exact hk _ _
theorem cApart (hc : RC S q a) (hw : WFa a) (hN : a 0 = N) : f_X3_firstApart q S = some (iI (sFA a N 0)) := by
  have h8 := hw.1
  rw [f_X3_firstApart]
  exact cApartL hc hw hN (K := fun y => some y) (fun x y => by simp (disch := omega) only [li_0, li_1, li_2, li_3, li_4, li_5, li_6, li_7, li_8, li_9, li_10, li_11, li_12, li_16, li_19, li_20, li_28, li_48, li_57, li_59, li_60, li_96, li_97, li_99, li_100, li_102, li_103, li_104, li_112, li_115, li_116, li_118, li_119, li_121, li_124, li_132, li_255, li_256, li_1000, li_2000, li_1000000000, iI_add, iI_sub, iI_mul, iI_neg, iI_lt, iI_le, iI_eq, iI_clamp, iI_s, iI_m1, iI_div, bs, tn, tn4, tn12, tn20, tn124, tn28, itT, itF, if_pos, if_neg]) (by simp (disch := omega) only [li_0, li_1, li_2, li_3, li_4, li_5, li_6, li_7, li_8, li_9, li_10, li_11, li_12, li_16, li_19, li_20, li_28, li_48, li_57, li_59, li_60, li_96, li_97, li_99, li_100, li_102, li_103, li_104, li_112, li_115, li_116, li_118, li_119, li_121, li_124, li_132, li_255, li_256, li_1000, li_2000, li_1000000000, iI_add, iI_sub, iI_mul, iI_neg, iI_lt, iI_le, iI_eq, iI_clamp, iI_s, iI_m1, iI_div, bs, tn, tn4, tn12, tn20, tn124, tn28, itT, itF, if_pos, if_neg]) N 2000 0 (by omega) (by omega)
end CP1
-- ===== the reference's pairs =====
section RP1
variable {S : St} {r : Nat} {a : Nat → Int} {N : Nat}
theorem rSame (hm : ∀ k, k < 132 → S.1 r k = iI (a k)) (hw : WFa a) {i j : Nat} (hi : i < 8) (hj : j < 8) : f_X8_doAgree r (iI i) (iI j) S = some (iI (if 0 ≤ a (20 + i) ∧ a (20 + i) = a (20 + j) then 1 else 0)) := by
  have k1 := (hw.t hi).2.2.1
  have k2 := (hw.t hj).2.2.1
  by_cases c1 : a (20 + i) < 0
  · simp (disch := omega) only [li_0, li_1, li_2, li_3, li_4, li_5, li_6, li_7, li_8, li_9, li_10, li_11, li_12, li_16, li_19, li_20, li_28, li_48, li_57, li_59, li_60, li_96, li_97, li_99, li_100, li_102, li_103, li_104, li_112, li_115, li_116, li_118, li_119, li_121, li_124, li_132, li_255, li_256, li_1000, li_2000, li_1000000000, iI_add, iI_sub, iI_mul, iI_neg, iI_lt, iI_le, iI_eq, iI_clamp, iI_s, iI_m1, iI_div, bs, tn, tn4, tn12, tn20, tn124, tn28, itT, itF, if_pos, if_neg, f_X8_doAgree, hm]
  · by_cases c2 : a (20 + i) = a (20 + j)
    · simp (disch := omega) only [li_0, li_1, li_2, li_3, li_4, li_5, li_6, li_7, li_8, li_9, li_10, li_11, li_12, li_16, li_19, li_20, li_28, li_48, li_57, li_59, li_60, li_96, li_97, li_99, li_100, li_102, li_103, li_104, li_112, li_115, li_116, li_118, li_119, li_121, li_124, li_132, li_255, li_256, li_1000, li_2000, li_1000000000, iI_add, iI_sub, iI_mul, iI_neg, iI_lt, iI_le, iI_eq, iI_clamp, iI_s, iI_m1, iI_div, bs, tn, tn4, tn12, tn20, tn124, tn28, itT, itF, if_pos, if_neg, f_X8_doAgree, hm]
    · simp (disch := omega) only [li_0, li_1, li_2, li_3, li_4, li_5, li_6, li_7, li_8, li_9, li_10, li_11, li_12, li_16, li_19, li_20, li_28, li_48, li_57, li_59, li_60, li_96, li_97, li_99, li_100, li_102, li_103, li_104, li_112, li_115, li_116, li_118, li_119, li_121, li_124, li_132, li_255, li_256, li_1000, li_2000, li_1000000000, iI_add, iI_sub, iI_mul, iI_neg, iI_lt, iI_le, iI_eq, iI_clamp, iI_s, iI_m1, iI_div, bs, tn, tn4, tn12, tn20, tn124, tn28, itT, itF, if_pos, if_neg, f_X8_doAgree, hm]
theorem rBit (hm : ∀ k, k < 132 → S.1 r k = iI (a k)) (hw : WFa a) {i j : Nat} (hi : i < 8) (hj : j < 31) : (S.1 r (124 + i) >>> (iI j &&& 31)) &&& iI 1 = iI (hb a i j) := by
  have b := (hw.2.2.2.2.1 i hi).2.2.2.2
  rw [hm _ (by omega), iI_bit b.1 (by omega) hj]
  rfl
theorem rAgrI (hm : ∀ k, k < 132 → S.1 r k = iI (a k)) (hw : WFa a) (hN : a 0 = N) {i : Nat} {k : Int32 → Option Int32} (A : Int) :
    ∀ d n x : Nat, x + d = N → d < n → i < x → f_X8_agreeMany_L16 n r (iI (A + in2 (fAgr a) i x)) (iI i) (iI x) S k = k (iI (A + in2 (fAgr a) i N)) := by
  have h8 := hw.1
  have e0 : S.1 r 0 = iI N := by rw [hm 0 (by omega), hN]
  intro d
  induction d with
  | zero =>
    intro n x hx hd hi
    obtain ⟨n, rfl⟩ : ∃ p, n = p + 1 := ⟨n - 1, by omega⟩
    obtain rfl : x = N := by omega
    rw [f_X8_agreeMany_L16]
    simp (disch := omega) only [li_0, li_1, li_2, li_3, li_4, li_5, li_6, li_7, li_8, li_9, li_10, li_11, li_12, li_16, li_19, li_20, li_28, li_48, li_57, li_59, li_60, li_96, li_97, li_99, li_100, li_102, li_103, li_104, li_112, li_115, li_116, li_118, li_119, li_121, li_124, li_132, li_255, li_256, li_1000, li_2000, li_1000000000, iI_add, iI_sub, iI_mul, iI_neg, iI_lt, iI_le, iI_eq, iI_clamp, iI_s, iI_m1, iI_div, bs, tn, tn4, tn12, tn20, tn124, tn28, itT, itF, if_pos, if_neg, e0]
  | succ d ih =>
    intro n x hx hd hi
    obtain ⟨n, rfl⟩ : ∃ p, n = p + 1 := ⟨n - 1, by omega⟩
    have i1 := ih n (x + 1) (by omega) (by omega) (by omega)
    have e1 := rBit hm hw (i := i) (j := x) (by omega) (by omega)
    have e2 := rSame hm hw (i := i) (j := x) (by omega) (by omega)
    rw [in2_s _ hi, ← Int.add_assoc] at i1
    rw [f_X8_agreeMany_L16]
    by_cases c1 : hb a i x = 1
    · by_cases c2 : 0 ≤ a (20 + i) ∧ a (20 + i) = a (20 + x)
      · rw [show fAgr a i x = 1 from if_pos ⟨c1, c2⟩] at i1
        simp (disch := omega) only [li_0, li_1, li_2, li_3, li_4, li_5, li_6, li_7, li_8, li_9, li_10, li_11, li_12, li_16, li_19, li_20, li_28, li_48, li_57, li_59, li_60, li_96, li_97, li_99, li_100, li_102, li_103, li_104, li_112, li_115, li_116, li_118, li_119, li_121, li_124, li_132, li_255, li_256, li_1000, li_2000, li_1000000000, iI_add, iI_sub, iI_mul, iI_neg, iI_lt, iI_le, iI_eq, iI_clamp, iI_s, iI_m1, iI_div, bs, tn, tn4, tn12, tn20, tn124, tn28, itT, itF, if_pos, if_neg, e0, e1, e2, i1]
      · rw [show fAgr a i x = 0 from if_neg (fun z => c2 z.2)] at i1
        simp (disch := omega) only [li_0, li_1, li_2, li_3, li_4, li_5, li_6, li_7, li_8, li_9, li_10, li_11, li_12, li_16, li_19, li_20, li_28, li_48, li_57, li_59, li_60, li_96, li_97, li_99, li_100, li_102, li_103, li_104, li_112, li_115, li_116, li_118, li_119, li_121, li_124, li_132, li_255, li_256, li_1000, li_2000, li_1000000000, iI_add, iI_sub, iI_mul, iI_neg, iI_lt, iI_le, iI_eq, iI_clamp, iI_s, iI_m1, iI_div, bs, tn, tn4, tn12, tn20, tn124, tn28, itT, itF, if_pos, if_neg, e0, e1, e2, i1]
    · rw [show fAgr a i x = 0 from if_neg (fun z => c1 z.1)] at i1
      have c3 := hb_le a i x
      simp (disch := omega) only [li_0, li_1, li_2, li_3, li_4, li_5, li_6, li_7, li_8, li_9, li_10, li_11, li_12, li_16, li_19, li_20, li_28, li_48, li_57, li_59, li_60, li_96, li_97, li_99, li_100, li_102, li_103, li_104, li_112, li_115, li_116, li_118, li_119, li_121, li_124, li_132, li_255, li_256, li_1000, li_2000, li_1000000000, iI_add, iI_sub, iI_mul, iI_neg, iI_lt, iI_le, iI_eq, iI_clamp, iI_s, iI_m1, iI_div, bs, tn, tn4, tn12, tn20, tn124, tn28, itT, itF, if_pos, if_neg, e0, e1, e2, i1]
theorem rAgrL (hm : ∀ k, k < 132 → S.1 r k = iI (a k)) (hw : WFa a) (hN : a 0 = N) {k : Int32 → Option Int32} :
    ∀ d n x : Nat, x + d = N → d < n → f_X8_agreeMany_L4 n r (iI (out2 (fAgr a) N x)) (iI x) S k = k (iI (out2 (fAgr a) N N)) := by
  have h8 := hw.1
  have e0 : S.1 r 0 = iI N := by rw [hm 0 (by omega), hN]
  intro d
  induction d with
  | zero =>
    intro n x hx hd
    obtain ⟨n, rfl⟩ : ∃ p, n = p + 1 := ⟨n - 1, by omega⟩
    obtain rfl : x = N := by omega
    rw [f_X8_agreeMany_L4]
    simp (disch := omega) only [li_0, li_1, li_2, li_3, li_4, li_5, li_6, li_7, li_8, li_9, li_10, li_11, li_12, li_16, li_19, li_20, li_28, li_48, li_57, li_59, li_60, li_96, li_97, li_99, li_100, li_102, li_103, li_104, li_112, li_115, li_116, li_118, li_119, li_121, li_124, li_132, li_255, li_256, li_1000, li_2000, li_1000000000, iI_add, iI_sub, iI_mul, iI_neg, iI_lt, iI_le, iI_eq, iI_clamp, iI_s, iI_m1, iI_div, bs, tn, tn4, tn12, tn20, tn124, tn28, itT, itF, if_pos, if_neg, e0]
  | succ d ih =>
    intro n x hx hd
    obtain ⟨n, rfl⟩ : ∃ p, n = p + 1 := ⟨n - 1, by omega⟩
    have i1 := ih n (x + 1) (by omega) (by omega)
    have e1 := rAgrI hm hw hN (i := x) (k := fun y => f_X8_agreeMany_L4 n r y (iI ((x + 1 : Nat) : Int)) S k) (out2 (fAgr a) N x) d 2000 (x + 1) (by omega) (by omega) (by omega)
    rw [in2_0 _ _ _ (by omega), Int.add_zero] at e1
    rw [show out2 (fAgr a) N (x + 1) = out2 (fAgr a) N x + in2 (fAgr a) x N from rfl] at i1
    rw [f_X8_agreeMany_L4]
    simp (disch := omega) only [li_0, li_1, li_2, li_3, li_4, li_5, li_6, li_7, li_8, li_9, li_10, li_11, li_12, li_16, li_19, li_20, li_28, li_48, li_57, li_59, li_60, li_96, li_97, li_99, li_100, li_102, li_103, li_104, li_112, li_115, li_116, li_118, li_119, li_121, li_124, li_132, li_255, li_256, li_1000, li_2000, li_1000000000, iI_add, iI_sub, iI_mul, iI_neg, iI_lt, iI_le, iI_eq, iI_clamp, iI_s, iI_m1, iI_div, bs, tn, tn4, tn12, tn20, tn124, tn28, itT, itF, if_pos, if_neg, e0]
    rw [e1]
    exact i1
theorem rAgr (hm : ∀ k, k < 132 → S.1 r k = iI (a k)) (hw : WFa a) (hN : a 0 = N) : f_X8_agreeMany r S = some (iI (out2 (fAgr a) N N)) := by
  have h8 := hw.1
  have i := rAgrL hm hw hN (k := fun y => some y) N 2000 0 (by omega) (by omega)
  rw [f_X8_agreeMany]
  exact i
theorem rPartL (hm : ∀ k, k < 132 → S.1 75 k = iI (a k)) (hw : WFa a) (hN : a 0 = N) {i : Nat} {k : Int32 → Option (Int32 × St)} {k9 : Unit → Option (Int32 × St)} :
    ∀ d n x : Nat, x + d = N → d < n → i < x → f_X8_agree_L45 n (iI i) (iI x) S k k9 = if sPart a i d x < 0 then k9 () else k (iI (sPart a i d x)) := by
  have h8 := hw.1
  have e0 : S.1 75 0 = iI N := by rw [hm 0 (by omega), hN]
  intro d
  induction d with
  | zero =>
    intro n x hx hd hi
    obtain ⟨n, rfl⟩ : ∃ p, n = p + 1 := ⟨n - 1, by omega⟩
    rw [f_X8_agree_L45, sPart, sFst]
    simp (disch := omega) only [li_0, li_1, li_2, li_3, li_4, li_5, li_6, li_7, li_8, li_9, li_10, li_11, li_12, li_16, li_19, li_20, li_28, li_48, li_57, li_59, li_60, li_96, li_97, li_99, li_100, li_102, li_103, li_104, li_112, li_115, li_116, li_118, li_119, li_121, li_124, li_132, li_255, li_256, li_1000, li_2000, li_1000000000, iI_add, iI_sub, iI_mul, iI_neg, iI_lt, iI_le, iI_eq, iI_clamp, iI_s, iI_m1, iI_div, bs, tn, tn4, tn12, tn20, tn124, tn28, itT, itF, if_pos, if_neg, e0]
  | succ d ih =>
    intro n x hx hd hi
    obtain ⟨n, rfl⟩ : ∃ p, n = p + 1 := ⟨n - 1, by omega⟩
    have i1 := ih n (x + 1) (by omega) (by omega) (by omega)
    have e1 := rBit hm hw (i := i) (j := x) (by omega) (by omega)
    have e2 := rSame hm hw (i := i) (j := x) (by omega) (by omega)
    have e3 : sPart a i (d + 1) x = if decide (hb a i x = 1 ∧ ¬ (0 ≤ a (20 + i) ∧ a (20 + i) = a (20 + x))) = true then (x : Int) else sPart a i d (x + 1) := rfl
    rw [f_X8_agree_L45, e3]
    by_cases c1 : hb a i x = 1
    · by_cases c2 : 0 ≤ a (20 + i) ∧ a (20 + i) = a (20 + x)
      · simp (disch := omega) only [li_0, li_1, li_2, li_3, li_4, li_5, li_6, li_7, li_8, li_9, li_10, li_11, li_12, li_16, li_19, li_20, li_28, li_48, li_57, li_59, li_60, li_96, li_97, li_99, li_100, li_102, li_103, li_104, li_112, li_115, li_116, li_118, li_119, li_121, li_124, li_132, li_255, li_256, li_1000, li_2000, li_1000000000, iI_add, iI_sub, iI_mul, iI_neg, iI_lt, iI_le, iI_eq, iI_clamp, iI_s, iI_m1, iI_div, bs, tn, tn4, tn12, tn20, tn124, tn28, itT, itF, if_pos, if_neg, e0, e1, e2, i1, decide_eq_true_eq]
      · simp (disch := omega) only [li_0, li_1, li_2, li_3, li_4, li_5, li_6, li_7, li_8, li_9, li_10, li_11, li_12, li_16, li_19, li_20, li_28, li_48, li_57, li_59, li_60, li_96, li_97, li_99, li_100, li_102, li_103, li_104, li_112, li_115, li_116, li_118, li_119, li_121, li_124, li_132, li_255, li_256, li_1000, li_2000, li_1000000000, iI_add, iI_sub, iI_mul, iI_neg, iI_lt, iI_le, iI_eq, iI_clamp, iI_s, iI_m1, iI_div, bs, tn, tn4, tn12, tn20, tn124, tn28, itT, itF, if_pos, if_neg, e0, e1, e2, decide_eq_true_eq]
    · have c3 := hb_le a i x
      simp (disch := omega) only [li_0, li_1, li_2, li_3, li_4, li_5, li_6, li_7, li_8, li_9, li_10, li_11, li_12, li_16, li_19, li_20, li_28, li_48, li_57, li_59, li_60, li_96, li_97, li_99, li_100, li_102, li_103, li_104, li_112, li_115, li_116, li_118, li_119, li_121, li_124, li_132, li_255, li_256, li_1000, li_2000, li_1000000000, iI_add, iI_sub, iI_mul, iI_neg, iI_lt, iI_le, iI_eq, iI_clamp, iI_s, iI_m1, iI_div, bs, tn, tn4, tn12, tn20, tn124, tn28, itT, itF, if_pos, if_neg, e0, e1, i1, decide_eq_true_eq]
theorem rApartL (hm : ∀ k, k < 132 → S.1 75 k = iI (a k)) (hw : WFa a) (hN : a 0 = N) {k : Int32 → Int32 → Option (Int32 × St)} {k9 : Unit → Option (Int32 × St)} {K : Int32 → Option (Int32 × St)} (hk : ∀ x y : Int, k (iI x) (iI y) = K (iI (10 * x + y))) (h9 : k9 () = K (iI (-9))) :
    ∀ d n x : Nat, x + d = N → d < n → f_X8_agree_L31 n (iI x) S k k9 = K (iI (sFA a d x)) := by
  have h8 := hw.1
  have e0 : S.1 75 0 = iI N := by rw [hm 0 (by omega), hN]
  intro d
  induction d with
  | zero =>
    intro n x hx hd
    obtain ⟨n, rfl⟩ : ∃ p, n = p + 1 := ⟨n - 1, by omega⟩
    rw [f_X8_agree_L31, sFA]
    simp (disch := omega) only [li_0, li_1, li_2, li_3, li_4, li_5, li_6, li_7, li_8, li_9, li_10, li_11, li_12, li_16, li_19, li_20, li_28, li_48, li_57, li_59, li_60, li_96, li_97, li_99, li_100, li_102, li_103, li_104, li_112, li_115, li_116, li_118, li_119, li_121, li_124, li_132, li_255, li_256, li_1000, li_2000, li_1000000000, iI_add, iI_sub, iI_mul, iI_neg, iI_lt, iI_le, iI_eq, iI_clamp, iI_s, iI_m1, iI_div, bs, tn, tn4, tn12, tn20, tn124, tn28, itT, itF, if_pos, if_neg, e0]
    exact h9
  | succ d ih =>
    intro n x hx hd
    obtain ⟨n, rfl⟩ : ∃ p, n = p + 1 := ⟨n - 1, by omega⟩
    have i1 := ih n (x + 1) (by omega) (by omega)
    have e1 := rPartL hm hw hN (i := x) (k := fun y => k (iI x) y) (k9 := fun _ => f_X8_agree_L31 n (iI ((x + 1 : Nat) : Int)) S k k9) d 2000 (x + 1) (by omega) (by omega) (by omega)
    rw [f_X8_agree_L31, sFA]
    simp (disch := omega) only [li_0, li_1, li_2, li_3, li_4, li_5, li_6, li_7, li_8, li_9, li_10, li_11, li_12, li_16, li_19, li_20, li_28, li_48, li_57, li_59, li_60, li_96, li_97, li_99, li_100, li_102, li_103, li_104, li_112, li_115, li_116, li_118, li_119, li_121, li_124, li_132, li_255, li_256, li_1000, li_2000, li_1000000000, iI_add, iI_sub, iI_mul, iI_neg, iI_lt, iI_le, iI_eq, iI_clamp, iI_s, iI_m1, iI_div, bs, tn, tn4, tn12, tn20, tn124, tn28, itT, itF, if_pos, if_neg, e0]
    rw [e1]
    by_cases c : sPart a x d (x + 1) < 0
    · rw [if_pos c, if_pos c]; exact i1
    · rw [if_neg c, if_neg c]; exact hk _ _
theorem rBitsL {A : Int} (h0 : 0 ≤ A) (h1 : A < 2147483648) {k : Int32 → Option Int32} : ∀ d n x : Nat, x + d = 12 → d < n → f_X8_bits_L4 n (iI A) (iI (sSum (fun b => ((A.toNat / 2 ^ b % 2 : Nat) : Int)) x)) (iI x) k = k (iI (sSum (fun b => ((A.toNat / 2 ^ b % 2 : Nat) : Int)) 12)) := by
  intro d
  induction d with
  | zero =>
    intro n x hx hd
    obtain ⟨n, rfl⟩ : ∃ p, n = p + 1 := ⟨n - 1, by omega⟩
    obtain rfl : x = 12 := by omega
    rw [f_X8_bits_L4]
    simp (disch := omega) only [li_0, li_1, li_2, li_3, li_4, li_5, li_6, li_7, li_8, li_9, li_10, li_11, li_12, li_16, li_19, li_20, li_28, li_48, li_57, li_59, li_60, li_96, li_97, li_99, li_100, li_102, li_103, li_104, li_112, li_115, li_116, li_118, li_119, li_121, li_124, li_132, li_255, li_256, li_1000, li_2000, li_1000000000, iI_add, iI_sub, iI_mul, iI_neg, iI_lt, iI_le, iI_eq, iI_clamp, iI_s, iI_m1, iI_div, bs, tn, tn4, tn12, tn20, tn124, tn28, itT, itF, if_pos, if_neg]
  | succ d ih =>
    intro n x hx hd
    obtain ⟨n, rfl⟩ : ∃ p, n = p + 1 := ⟨n - 1, by omega⟩
    have i1 := ih n (x + 1) (by omega) (by omega)
    have e1 := iI_bit (A := A) (j := x) h0 h1 (by omega)
    rw [sSum] at i1
    rw [f_X8_bits_L4]
    simp (disch := omega) only [li_0, li_1, li_2, li_3, li_4, li_5, li_6, li_7, li_8, li_9, li_10, li_11, li_12, li_16, li_19, li_20, li_28, li_48, li_57, li_59, li_60, li_96, li_97, li_99, li_100, li_102, li_103, li_104, li_112, li_115, li_116, li_118, li_119, li_121, li_124, li_132, li_255, li_256, li_1000, li_2000, li_1000000000, iI_add, iI_sub, iI_mul, iI_neg, iI_lt, iI_le, iI_eq, iI_clamp, iI_s, iI_m1, iI_div, bs, tn, tn4, tn12, tn20, tn124, tn28, itT, itF, if_pos, if_neg, e1, i1]
theorem rBits {A : Int} (h0 : 0 ≤ A) (h1 : A < 2147483648) : f_X8_bits (iI A) = some (iI (sSum (fun b => ((A.toNat / 2 ^ b % 2 : Nat) : Int)) 12)) := by
  rw [f_X8_bits]
  exact rBitsL h0 h1 12 2000 0 (by omega) (by omega)
end RP1
theorem e_agree {S : St} (hS : Inv S) (a1 : Int32) : ∃ (z1 : Int32 × St) (z2 : Int32 × St), f_X7_agree a1 S = some z1 ∧ f_X8_agree a1 z1.2 = some z2 ∧ z1.1 = z2.1 ∧ Inv z2.2 := by
  obtain ⟨⟨a, hw, hc, hm0⟩, -⟩ := id hS
  have hm : ∀ k, k < 132 → S.1 75 k = iI (a k) := hm0
  have h8 := hw.1
  have w1 := hw.2.1
  have w2 := hw.2.2.1
  have w3 := hw.2.2.2.1
  obtain ⟨now, hnow⟩ : ∃ n : Nat, a 1 = n := ⟨(a 1).toNat, by omega⟩
  obtain ⟨N, hN⟩ : ∃ n : Nat, a 0 = n := ⟨(a 0).toNat, by omega⟩
  have hn : now ≤ 11 := by omega
  have hN8 : N ≤ 8 := by omega
  have p1 : S.1 1 1 = iI now := by rw [hc.1 1 (by omega), hnow]
  have p0 : S.1 1 0 = iI N := by rw [hc.1 0 (by omega), hN]
  have m0 : S.1 75 0 = iI N := by rw [hm 0 (by omega), hN]
  have m1 : S.1 75 1 = iI now := by rw [hm 1 (by omega), hnow]
  obtain ⟨x, x1, x2, rfl⟩ := iI_any a1
  have e1 := cTwo x1 x2
  have g1 := rIn (x := x) (l := 0) (u := 1) x1 x2 (by omega) (by omega) (by omega) (by omega)
  by_cases c : 0 ≤ x ∧ x ≤ 1
  · by_cases c1 : x = 0
    · have e2 := cAgr hc hw hN
      have g2 := rAgr hm hw hN
      exact e_mk (v := iI (out2 (fAgr a) N N)) (S1 := S) (S2 := S) (by simp (disch := omega) only [li_0, li_1, li_2, li_3, li_4, li_5, li_6, li_7, li_8, li_9, li_10, li_11, li_12, li_16, li_19, li_20, li_28, li_48, li_57, li_59, li_60, li_96, li_97, li_99, li_100, li_102, li_103, li_104, li_112, li_115, li_116, li_118, li_119, li_121, li_124, li_132, li_255, li_256, li_1000, li_2000, li_1000000000, iI_add, iI_sub, iI_mul, iI_neg, iI_lt, iI_le, iI_eq, iI_clamp, iI_s, iI_m1, iI_div, bs, tn, tn4, tn12, tn20, tn124, tn28, itT, itF, if_pos, if_neg, f_X7_agree, e1, e2]) (by simp (disch := omega) only [li_0, li_1, li_2, li_3, li_4, li_5, li_6, li_7, li_8, li_9, li_10, li_11, li_12, li_16, li_19, li_20, li_28, li_48, li_57, li_59, li_60, li_96, li_97, li_99, li_100, li_102, li_103, li_104, li_112, li_115, li_116, li_118, li_119, li_121, li_124, li_132, li_255, li_256, li_1000, li_2000, li_1000000000, iI_add, iI_sub, iI_mul, iI_neg, iI_lt, iI_le, iI_eq, iI_clamp, iI_s, iI_m1, iI_div, bs, tn, tn4, tn12, tn20, tn124, tn28, itT, itF, if_pos, if_neg, f_X8_agree, g1, g2]) hS
    · have e2 := cApart hc hw hN
      have g2 : f_X8_agree_L31 2000 (iI 0) S (fun y11 y12 => some ((iI 10 * y11) + y12, S)) (fun _ => some (iI (-9), S)) = some (iI (sFA a N 0), S) := rApartL hm hw hN (K := fun y => some (y, S)) (fun x y => by simp (disch := omega) only [li_0, li_1, li_2, li_3, li_4, li_5, li_6, li_7, li_8, li_9, li_10, li_11, li_12, li_16, li_19, li_20, li_28, li_48, li_57, li_59, li_60, li_96, li_97, li_99, li_100, li_102, li_103, li_104, li_112, li_115, li_116, li_118, li_119, li_121, li_124, li_132, li_255, li_256, li_1000, li_2000, li_1000000000, iI_add, iI_sub, iI_mul, iI_neg, iI_lt, iI_le, iI_eq, iI_clamp, iI_s, iI_m1, iI_div, bs, tn, tn4, tn12, tn20, tn124, tn28, itT, itF, if_pos, if_neg]) rfl N 2000 0 (by omega) (by omega)
      exact e_mk (v := iI (sFA a N 0)) (S1 := S) (S2 := S) (by simp (disch := omega) only [li_0, li_1, li_2, li_3, li_4, li_5, li_6, li_7, li_8, li_9, li_10, li_11, li_12, li_16, li_19, li_20, li_28, li_48, li_57, li_59, li_60, li_96, li_97, li_99, li_100, li_102, li_103, li_104, li_112, li_115, li_116, li_118, li_119, li_121, li_124, li_132, li_255, li_256, li_1000, li_2000, li_1000000000, iI_add, iI_sub, iI_mul, iI_neg, iI_lt, iI_le, iI_eq, iI_clamp, iI_s, iI_m1, iI_div, bs, tn, tn4, tn12, tn20, tn124, tn28, itT, itF, if_pos, if_neg, f_X7_agree, e1, e2]) (by simp (disch := omega) only [li_0, li_1, li_2, li_3, li_4, li_5, li_6, li_7, li_8, li_9, li_10, li_11, li_12, li_16, li_19, li_20, li_28, li_48, li_57, li_59, li_60, li_96, li_97, li_99, li_100, li_102, li_103, li_104, li_112, li_115, li_116, li_118, li_119, li_121, li_124, li_132, li_255, li_256, li_1000, li_2000, li_1000000000, iI_add, iI_sub, iI_mul, iI_neg, iI_lt, iI_le, iI_eq, iI_clamp, iI_s, iI_m1, iI_div, bs, tn, tn4, tn12, tn20, tn124, tn28, itT, itF, if_pos, if_neg, f_X8_agree, g1, g2]) hS
  · exact e_no hS (-2) 2 (by omega) (by omega) (by simp (disch := omega) only [li_0, li_1, li_2, li_3, li_4, li_5, li_6, li_7, li_8, li_9, li_10, li_11, li_12, li_16, li_19, li_20, li_28, li_48, li_57, li_59, li_60, li_96, li_97, li_99, li_100, li_102, li_103, li_104, li_112, li_115, li_116, li_118, li_119, li_121, li_124, li_132, li_255, li_256, li_1000, li_2000, li_1000000000, iI_add, iI_sub, iI_mul, iI_neg, iI_lt, iI_le, iI_eq, iI_clamp, iI_s, iI_m1, iI_div, bs, tn, tn4, tn12, tn20, tn124, tn28, itT, itF, if_pos, if_neg, f_X7_agree, e1, bse]) (fun S1 q1 q2 => by simp (disch := omega) only [li_0, li_1, li_2, li_3, li_4, li_5, li_6, li_7, li_8, li_9, li_10, li_11, li_12, li_16, li_19, li_20, li_28, li_48, li_57, li_59, li_60, li_96, li_97, li_99, li_100, li_102, li_103, li_104, li_112, li_115, li_116, li_118, li_119, li_121, li_124, li_132, li_255, li_256, li_1000, li_2000, li_1000000000, iI_add, iI_sub, iI_mul, iI_neg, iI_lt, iI_le, iI_eq, iI_clamp, iI_s, iI_m1, iI_div, bs, tn, tn4, tn12, tn20, tn124, tn28, itT, itF, if_pos, if_neg, f_X8_agree, g1, bse])
