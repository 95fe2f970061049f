-- ===== the pot: what is best =====
def pBest (fr : Nat → Bool) (co ga : Nat → Int) (drops : Int) : Nat → Nat × Int
  | 0 => (0, 0)
  | m + 1 => if fr m = true ∧ (pBest fr co ga drops m).2 < ga m ∧ co m ≤ drops then (m, ga m) else pBest fr co ga drops m
theorem pBest_p {fr : Nat → Bool} {co ga : Nat → Int} {drops : Int} (h0 : fr 0 = true) (hc0 : co 0 = 0) (hg0 : ga 0 = 0) (hd : 0 ≤ drops) : ∀ x, 0 < x →
    (pBest fr co ga drops x).1 < x ∧ fr (pBest fr co ga drops x).1 = true ∧ co (pBest fr co ga drops x).1 ≤ drops ∧ ga (pBest fr co ga drops x).1 = (pBest fr co ga drops x).2 ∧ ∀ m, m < x → fr m = true → co m ≤ drops → ga m ≤ (pBest fr co ga drops x).2 := by
  intro x
  induction x with
  | zero => intro h; omega
  | succ x ih =>
    intro _
    by_cases hx : x = 0
    · subst hx
      have e : pBest fr co ga drops (0 + 1) = (0, 0) := by
        show (if fr 0 = true ∧ (0 : Int) < ga 0 ∧ co 0 ≤ drops then (0, ga 0) else (0, (0 : Int))) = (0, 0)
        rw [if_neg (by omega)]
      rw [e]
      refine ⟨by decide, h0, by show co 0 ≤ drops; omega, hg0, fun m hm _ _ => ?_⟩
      have : m = 0 := by omega
      subst this
      show ga 0 ≤ 0
      omega
    · obtain ⟨i1, i2, i3, i4, i5⟩ := ih (by omega)
      rw [pBest]
      by_cases c : fr x = true ∧ (pBest fr co ga drops x).2 < ga x ∧ co x ≤ drops
      · rw [if_pos c]
        refine ⟨by show x < x + 1; omega, c.1, c.2.2, rfl, fun m hm h1 h2 => ?_⟩
        show ga m ≤ ga x
        by_cases e : m = x
        · rw [e]; exact Int.le_refl _
        · have := i5 m (by omega) h1 h2
          omega
      · rw [if_neg c]
        refine ⟨by omega, i2, i3, i4, fun m hm h1 h2 => ?_⟩
        by_cases e : m = x
        · subst e
          by_cases c2 : ga m ≤ (pBest fr co ga drops m).2
          · exact c2
          · exact absurd ⟨h1, by omega, h2⟩ c
        · exact i5 m (by omega) h1 h2
def pFew (fr : Nat → Bool) (co ga : Nat → Int) (g : Int) : Nat → Int
  | 0 => 99
  | m + 1 => if fr m = true ∧ ga m = g ∧ co m < pFew fr co ga g m then co m else pFew fr co ga g m
theorem pFew_p {fr : Nat → Bool} {co ga : Nat → Int} {g : Int} : ∀ x, pFew fr co ga g x ≤ 99 ∧ (∀ m, m < x → fr m = true → ga m = g → pFew fr co ga g x ≤ co m) ∧ (pFew fr co ga g x = 99 ∨ ∃ m, m < x ∧ fr m = true ∧ ga m = g ∧ co m = pFew fr co ga g x) := by
  intro x
  induction x with
  | zero => exact ⟨Int.le_refl _, fun m hm => absurd hm (by omega), Or.inl rfl⟩
  | succ x ih =>
    obtain ⟨i1, i2, i3⟩ := ih
    rw [pFew]
    by_cases c : fr x = true ∧ ga x = g ∧ co x < pFew fr co ga g x
    · rw [if_pos c]
      refine ⟨by omega, fun m hm h1 h2 => ?_, Or.inr ⟨x, by omega, c.1, c.2.1, rfl⟩⟩
      by_cases e : m = x
      · rw [e]; exact Int.le_refl _
      · have := i2 m (by omega) h1 h2
        omega
    · rw [if_neg c]
      refine ⟨i1, fun m hm h1 h2 => ?_, ?_⟩
      · by_cases e : m = x
        · subst e
          by_cases c2 : co m < pFew fr co ga g m
          · exact absurd ⟨h1, h2, c2⟩ c
          · omega
        · exact i2 m (by omega) h1 h2
      · rcases i3 with h | ⟨m, hm, h⟩
        · exact Or.inl h
        · exact Or.inr ⟨m, by omega, h⟩
def qBest (fr : Nat → Bool) (co to : Nat → Int) (drops : Int) : Nat → Nat × Int
  | 0 => (0, -1)
  | m + 1 => if fr m = true ∧ 0 ≤ drops - co m ∧ (qBest fr co to drops m).2 < to m then (m, to m) else qBest fr co to drops m
theorem qBest_p {fr : Nat → Bool} {co ga to : Nat → Int} {drops b : Int} (h0 : fr 0 = true) (hc0 : co 0 = 0) (hg0 : ga 0 = 0) (hd : 0 ≤ drops) (hb : 0 ≤ b) {M : Nat} (ht : ∀ m, m < M → fr m = true → to m = b + ga m) : ∀ x, 0 < x → x ≤ M →
    qBest fr co to drops x = ((pBest fr co ga drops x).1, b + (pBest fr co ga drops x).2) := by
  intro x
  induction x with
  | zero => intro h; omega
  | succ x ih =>
    intro _ hM
    by_cases hx : x = 0
    · subst hx
      have e : pBest fr co ga drops (0 + 1) = (0, 0) := by
        show (if fr 0 = true ∧ (0 : Int) < ga 0 ∧ co 0 ≤ drops then (0, ga 0) else (0, (0 : Int))) = (0, 0)
        rw [if_neg (by omega)]
      rw [e]
      have t0 := ht 0 (by omega) h0
      show (if fr 0 = true ∧ 0 ≤ drops - co 0 ∧ (-1 : Int) < to 0 then (0, to 0) else (0, (-1 : Int))) = (0, b + 0)
      rw [if_pos ⟨h0, by omega, by omega⟩, t0, hg0]
    · have i1 := ih (by omega) (by omega)
      rw [qBest, pBest, i1]
      show (if fr x = true ∧ 0 ≤ drops - co x ∧ b + (pBest fr co ga drops x).2 < to x then (x, to x) else _) = _
      by_cases cf : fr x = true
      · have t0 := ht x (by omega) cf
        rw [t0]
        by_cases c : (pBest fr co ga drops x).2 < ga x ∧ co x ≤ drops
        · rw [if_pos ⟨cf, by omega, by omega⟩, if_pos ⟨cf, c⟩]
        · rw [if_neg (fun z => c ⟨by omega, by omega⟩), if_neg (fun z => c z.2)]
      · rw [if_neg (fun z => cf z.1), if_neg (fun z => cf z.1)]
-- ===== the class' pot =====
def pGa (a : Nat → Int) (now : Nat) (j : Nat) : Int := sBy a j now - sG a j now
def pFr (a : Nat → Int) (N m : Nat) : Bool := mFr a m N
def pCo (a : Nat → Int) (N m : Nat) : Int := mSum (sCost a) m N
def pGn (a : Nat → Int) (N now m : Nat) : Int := mSum (pGa a now) m N
def wFr (S S' : St) : Prop := ∀ i k, ¬ (i = 64 ∨ i = 65 ∨ i = 66) → S'.1 i k = S.1 i k
theorem pCo_b {a : Nat → Int} (hw : WFa a) {N : Nat} (hN8 : N ≤ 8) (m : Nat) : -80 ≤ pCo a N m ∧ pCo a N m ≤ 80 := by
  have h := mSum_b (f := sCost a) (m := m) (B := 10) (by omega) N (fun j hj => by have := sCost_b (hw.t (j := j) (by omega)); omega)
  unfold pCo
  omega
theorem pGn_b {a : Nat → Int} (hw : WFa a) {N now : Nat} (hN8 : N ≤ 8) (hn : now ≤ 11) (m : Nat) : -792 ≤ pGn a N now m ∧ pGn a N now m ≤ 792 := by
  have h := mSum_b (f := pGa a now) (m := m) (B := 99) (by omega) N (fun j hj => by
    have h1 := sBy_b (hw.t (j := j) (by omega)) hn
    have h2 := sG_b (hw.t (j := j) (by omega)) (y := now) (by omega)
    unfold pGa
    omega)
  unfold pGn
  omega
/-- what weigh leaves -/
def pW (S : St) (a : Nat → Int) (N now : Nat) : Prop := S.1 64 2 = sSet a N ∧ S.1 64 3 = iI ((2 ^ N : Nat) : Int) ∧ S.1 64 4 = iI (sAll a N now) ∧ (∀ j, j < N → S.1 65 j = iI (pGa a now j)) ∧ ∀ j, j < N → S.1 66 j = iI (sCost a j)
theorem cWeighL {S : St} {a : Nat → Int} {now N : Nat} (hc : RC S 1 a) (hw : WFa a) (hN : a 0 = N) (hn : now ≤ 11) {k : St → Option St} :
    ∀ d n x : Nat, ∀ S' : St, x + d = N → d < n → wFr S S' → (∀ j, j < x → S'.1 65 j = iI (pGa a now j)) → (∀ j, j < x → S'.1 66 j = iI (sCost a j)) → ∃ S'', wFr S S'' ∧ S''.1 64 = S'.1 64 ∧ (∀ j, j < N → S''.1 65 j = iI (pGa a now j)) ∧ (∀ j, j < N → S''.1 66 j = iI (sCost a j)) ∧ f_X1_weigh_L29 n 1 (iI now) (iI x) S' k = k S'' := by
  have h8 := hw.1
  intro d
  induction d with
  | zero =>
    intro n x S' hx hd q1 q2 q3
    obtain ⟨n, rfl⟩ : ∃ p, n = p + 1 := ⟨n - 1, by omega⟩
    obtain rfl : x = N := by omega
    have e0 : S'.1 1 0 = iI x := by rw [q1 _ _ (by omega), hc.1 0 (by omega), hN]
    refine ⟨S', q1, rfl, q2, q3, ?_⟩
    rw [f_X1_weigh_L29]
    simp (disch := omega) only [li_0, li_1, li_2, li_3, li_4, li_5, li_6, li_7, li_8, li_9, li_10, li_11, li_12, li_16, li_19, li_20, li_28, li_48, li_57, li_59, li_60, li_96, li_97, li_99, li_100, li_102, li_103, li_104, li_112, li_115, li_116, li_118, li_119, li_121, li_124, li_132, li_255, li_256, li_1000, li_2000, li_1000000000, iI_add, iI_sub, iI_mul, iI_neg, iI_lt, iI_le, iI_eq, iI_clamp, iI_s, iI_m1, iI_div, bs, tn, tn4, tn12, tn20, tn124, tn28, itT, itF, if_pos, if_neg, e0]
  | succ d ih =>
    intro n x S' hx hd q1 q2 q3
    obtain ⟨n, rfl⟩ : ∃ p, n = p + 1 := ⟨n - 1, by omega⟩
    have hc' : RC S' 1 a := hc.frt (fun i k h1 h2 => q1 i k (by omega))
    have e0 : S'.1 1 0 = iI N := by rw [hc'.1 0 (by omega), hN]
    have ht := hc'.t (j := x) (by omega) (by omega)
    have hwt := hw.t (j := x) (by omega)
    have e1 := cAt (S := S') (q := 1) (j := x) (by omega)
    have e2 := cBy ht hwt hn
    have e3 := cG ht (y := now) (by omega)
    have e4 : sBy a x now - sG a x now = pGa a now x := rfl
    have e5 := cCost (ht.ne (i := 65) (k := x) (x := iI (pGa a now x)) (by omega) (by omega)) hwt
    obtain ⟨S'', g1, g2, g3, g4, g5⟩ := ih n (x + 1) (up (up S' 65 x (iI (pGa a now x))) 66 x (iI (sCost a x))) (by omega) (by omega) (fun i k hi => by
        rw [up_ne (by omega), up_ne (by omega)]; exact q1 i k hi) (fun j hj => by
        rw [up_ne (by omega)]
        by_cases e : j = x
        · rw [e, up_s]
        · rw [up_n (Or.inr e)]; exact q2 j (by omega)) (fun j hj => by
        by_cases e : j = x
        · rw [e, up_s]
        · rw [up_n (Or.inr e), up_ne (by omega)]; exact q3 j (by omega))
    refine ⟨S'', g1, by rw [g2, up_ne (by omega), up_ne (by omega)], g3, g4, ?_⟩
    rw [f_X1_weigh_L29]
    simp (disch := omega) only [li_0, li_1, li_2, li_3, li_4, li_5, li_6, li_7, li_8, li_9, li_10, li_11, li_12, li_16, li_19, li_20, li_28, li_48, li_57, li_59, li_60, li_96, li_97, li_99, li_100, li_102, li_103, li_104, li_112, li_115, li_116, li_118, li_119, li_121, li_124, li_132, li_255, li_256, li_1000, li_2000, li_1000000000, iI_add, iI_sub, iI_mul, iI_neg, iI_lt, iI_le, iI_eq, iI_clamp, iI_s, iI_m1, iI_div, bs, tn, tn4, tn12, tn20, tn124, tn28, itT, itF, if_pos, if_neg, e0, e1, e2, e3, e4, e5, g5]
theorem cWeigh {S : St} {a : Nat → Int} {now N : Nat} (hc : RC S 1 a) (hw : WFa a) (hN : a 0 = N) (hn : now ≤ 11) : ∃ S', f_X1_weigh 1 (iI now) S = some S' ∧ wFr S S' ∧ pW S' a N now := by
  have h8 := hw.1
  have p0 : (up S 64 2 (sSet a N)).1 1 0 = iI N := by rw [up_ne (by omega), hc.1 0 (by omega), hN]
  obtain ⟨T, hT⟩ : ∃ T, T = up (up S 64 2 (sSet a N)) 64 3 (iI ((2 ^ N : Nat) : Int)) := ⟨_, rfl⟩
  have hcT : RC T 1 a := by rw [hT]; exact (hc.ne (by omega)).ne (by omega)
  have e2 := cAll hcT hw hN hn
  obtain ⟨S', g1, g2, g3, g4, g5⟩ := cWeighL (S := S) hc hw hN hn (k := fun s => some s) N 2000 0 (up T 64 4 (iI (sAll a N now))) (by omega) (by omega) (fun i k hi => by rw [up_ne (by omega), hT, up_ne (by omega), up_ne (by omega)]) (fun j hj => absurd hj (by omega)) (fun j hj => absurd hj (by omega))
  refine ⟨S', ?_, g1, ?_, ?_, ?_, g3, g4⟩
  · rw [f_X1_weigh, cSetBits hc hw hN, bs, p0, show (1 : Int32) = iI 1 from rfl, iI_shl (by omega), ← hT, e2, bs]
    exact g5
  · rw [g2, up_n (by omega), hT, up_n (by omega), up_s]
  · rw [g2, up_n (by omega), hT, up_s]
  · rw [g2, up_s]
theorem cBestL {S : St} {a : Nat → Int} {now N : Nat} (hw : WFa a) (hN8 : N ≤ 8) (hn : now ≤ 11) (hp : pW S a N now) {drops : Int} (hd : 0 ≤ drops ∧ drops ≤ 99) {k : Int32 → Option Int32} :
    ∀ d n m : Nat, m + d = 2 ^ N → d < n → f_X1_bestBits_L7 n (iI drops) (iI (pBest (pFr a N) (pCo a N) (pGn a N now) drops m).1) (iI (pBest (pFr a N) (pCo a N) (pGn a N now) drops m).2) (iI m) S k = k (iI (pBest (pFr a N) (pCo a N) (pGn a N now) drops (2 ^ N)).1) := by
  obtain ⟨q1, q2, q3, q4, q5⟩ := hp
  have p8 : 2 ^ N ≤ 2 ^ 8 := Nat.pow_le_pow_right (by omega) hN8
  have p9 : (2 : Nat) ^ 8 = 256 := rfl
  have p1 : 0 < 2 ^ N := Nat.two_pow_pos N
  have bP : ∀ x, -792 ≤ (pBest (pFr a N) (pCo a N) (pGn a N now) drops x).2 ∧ (pBest (pFr a N) (pCo a N) (pGn a N now) drops x).2 ≤ 792 := by
    intro x
    induction x with
    | zero => exact ⟨by show (-792 : Int) ≤ 0; omega, by show (0 : Int) ≤ 792; omega⟩
    | succ x ih =>
      rw [pBest]
      split
      · exact pGn_b hw hN8 hn x
      · exact ih
  intro d
  induction d with
  | zero =>
    intro n m hx hdn
    obtain ⟨n, rfl⟩ : ∃ p, n = p + 1 := ⟨n - 1, by omega⟩
    obtain rfl : m = 2 ^ N := by omega
    rw [f_X1_bestBits_L7, q2, if_pos (by rw [iI_le (by omega) (by omega) (by omega) (by omega)]; omega)]
  | succ d ih =>
    intro n m hx hdn
    obtain ⟨n, rfl⟩ : ∃ p, n = p + 1 := ⟨n - 1, by omega⟩
    have i1 := ih n (m + 1) (by omega) (by omega)
    have hmN : m < 2 ^ N := by omega
    have e1 : f_X1_sumOver (iI m) 65 S = some (iI (pGn a N now m)) := cSum hN8 hmN q4
    have e2 : f_X1_sumOver (iI m) 66 S = some (iI (pCo a N m)) := cSum hN8 hmN q5
    have e3 : f_X1_gainOf (iI m) S = some (iI (pGn a N now m)) := by rw [f_X1_gainOf, e1]; rfl
    have e4 := mFr_and (a := a) hN8 hmN
    have b1 := pGn_b hw hN8 hn m
    have b2 := pCo_b hw hN8 m
    have b3 := bP m
    have hlt : ¬ iI ((2 ^ N : Nat) : Int) ≤ iI (m : Int) := by rw [iI_le (by omega) (by omega) (by omega) (by omega)]; omega
    have j1 : (iI (m : Int) + 1 : Int32) = iI ((m + 1 : Nat) : Int) := by rw [li_1, iI_add]; rfl
    have z0 : (0 : Int32) = iI 0 := rfl
    rw [pBest] at i1
    rw [f_X1_bestBits_L7, q2, if_neg hlt, q1, j1, z0]
    by_cases c : mFr a m N = true
    · rw [if_pos (e4.mpr c), e3, bs]
      by_cases c1 : (pBest (pFr a N) (pCo a N) (pGn a N now) drops m).2 < pGn a N now m
      · rw [if_neg (by rw [iI_le (by omega) (by omega) (by omega) (by omega)]; omega), e2, bs]
        by_cases c2 : pCo a N m ≤ drops
        · rw [if_neg (by rw [iI_lt (by omega) (by omega) (by omega) (by omega)]; omega), bs]
          rw [if_pos ⟨c, c1, c2⟩] at i1
          exact i1
        · rw [if_pos (by rw [iI_lt (by omega) (by omega) (by omega) (by omega)]; omega)]
          rw [if_neg (fun z => c2 z.2.2)] at i1
          exact i1
      · rw [if_pos (by rw [iI_le (by omega) (by omega) (by omega) (by omega)]; omega)]
        rw [if_neg (fun z => c1 z.2.1)] at i1
        exact i1
    · rw [if_neg (fun z => c (e4.mp z))]
      rw [if_neg (fun z => c z.1)] at i1
      exact i1
theorem cBest {S : St} {a : Nat → Int} {now N : Nat} (hw : WFa a) (hN8 : N ≤ 8) (hn : now ≤ 11) (hp : pW S a N now) {drops : Int} (hd : 0 ≤ drops ∧ drops ≤ 99) : f_X1_bestBits (iI drops) S = some (iI (pBest (pFr a N) (pCo a N) (pGn a N now) drops (2 ^ N)).1) := by
  have p8 : 2 ^ N ≤ 2 ^ 8 := Nat.pow_le_pow_right (by omega) hN8
  have p9 : (2 : Nat) ^ 8 = 256 := rfl
  have i := cBestL hw hN8 hn hp hd (k := fun y => some y) (2 ^ N) 2000 0 (by omega) (by omega)
  rw [f_X1_bestBits]
  exact i
theorem p00 (a : Nat → Int) (N now : Nat) : pFr a N 0 = true ∧ pCo a N 0 = 0 ∧ pGn a N now 0 = 0 :=
  ⟨(mFr_iff a 0 N).mpr (fun j _ hb => by rw [Nat.zero_div] at hb; omega), mSum_0 _ _, mSum_0 _ _⟩
theorem cGainB {S : St} {a : Nat → Int} {now N : Nat} (hN8 : N ≤ 8) (hp : pW S a N now) {drops : Int} (hd : 0 ≤ drops ∧ drops ≤ 99) : f_X1_gainOf (iI (pBest (pFr a N) (pCo a N) (pGn a N now) drops (2 ^ N)).1) S = some (iI (pBest (pFr a N) (pCo a N) (pGn a N now) drops (2 ^ N)).2) := by
  obtain ⟨q1, q2, q3, q4, q5⟩ := hp
  obtain ⟨z1, z2, z3⟩ := p00 a N now
  obtain ⟨h1, h2, h3, h4, h5⟩ := pBest_p z1 z2 z3 hd.1 (2 ^ N) (Nat.two_pow_pos N)
  have e1 : f_X1_sumOver (iI (pBest (pFr a N) (pCo a N) (pGn a N now) drops (2 ^ N)).1) 65 S = some (iI (pGn a N now (pBest (pFr a N) (pCo a N) (pGn a N now) drops (2 ^ N)).1)) := cSum hN8 h1 q4
  rw [f_X1_gainOf, e1, h4]
  rfl
theorem cFewP {S : St} {a : Nat → Int} {now N : Nat} (hw : WFa a) (hN8 : N ≤ 8) (hn : now ≤ 11) (hp : pW S a N now) {g : Int} (hg : -792 ≤ g ∧ g ≤ 792) {k : Int32 → Option Int32} :
    ∀ d n m : Nat, m + d = 2 ^ N → d < n → f_X1_fewestFor_L5 n (iI g) (iI (pFew (pFr a N) (pCo a N) (pGn a N now) g m)) (iI m) S k = k (iI (pFew (pFr a N) (pCo a N) (pGn a N now) g (2 ^ N))) := by
  obtain ⟨q1, q2, q3, q4, q5⟩ := hp
  have p8 : 2 ^ N ≤ 2 ^ 8 := Nat.pow_le_pow_right (by omega) hN8
  have p9 : (2 : Nat) ^ 8 = 256 := rfl
  have p1 : 0 < 2 ^ N := Nat.two_pow_pos N
  have bP : ∀ x, -80 ≤ pFew (pFr a N) (pCo a N) (pGn a N now) g x ∧ pFew (pFr a N) (pCo a N) (pGn a N now) g x ≤ 99 := by
    intro x
    induction x with
    | zero => exact ⟨by show (-80 : Int) ≤ 99; omega, by show (99 : Int) ≤ 99; omega⟩
    | succ x ih =>
      have := pCo_b hw hN8 x
      rw [pFew]
      split <;> omega
  intro d
  induction d with
  | zero =>
    intro n m hx hdn
    obtain ⟨n, rfl⟩ : ∃ p, n = p + 1 := ⟨n - 1, by omega⟩
    obtain rfl : m = 2 ^ N := by omega
    rw [f_X1_fewestFor_L5, q2, if_pos (by rw [iI_le (by omega) (by omega) (by omega) (by omega)]; omega)]
  | succ d ih =>
    intro n m hx hdn
    obtain ⟨n, rfl⟩ : ∃ p, n = p + 1 := ⟨n - 1, by omega⟩
    have i1 := ih n (m + 1) (by omega) (by omega)
    have hmN : m < 2 ^ N := by omega
    have e1 : f_X1_sumOver (iI m) 65 S = some (iI (pGn a N now m)) := cSum hN8 hmN q4
    have e2 : f_X1_sumOver (iI m) 66 S = some (iI (pCo a N m)) := cSum hN8 hmN q5
    have e3 : f_X1_gainOf (iI m) S = some (iI (pGn a N now m)) := by rw [f_X1_gainOf, e1]; rfl
    have e4 := mFr_and (a := a) hN8 hmN
    have b1 := pGn_b hw hN8 hn m
    have b2 := pCo_b hw hN8 m
    have b3 := bP m
    have hlt : ¬ iI ((2 ^ N : Nat) : Int) ≤ iI (m : Int) := by rw [iI_le (by omega) (by omega) (by omega) (by omega)]; omega
    have j1 : (iI (m : Int) + 1 : Int32) = iI ((m + 1 : Nat) : Int) := by rw [li_1, iI_add]; rfl
    have z0 : (0 : Int32) = iI 0 := rfl
    rw [pFew] at i1
    rw [f_X1_fewestFor_L5, q2, if_neg hlt, q1, j1, z0]
    by_cases c : mFr a m N = true
    · rw [if_pos (e4.mpr c), e3, bs]
      by_cases c1 : pGn a N now m = g
      · rw [if_pos (by rw [c1]), e2, bs]
        by_cases c2 : pCo a N m < pFew (pFr a N) (pCo a N) (pGn a N now) g m
        · rw [if_pos (by rw [iI_lt (by omega) (by omega) (by omega) (by omega)]; omega)]
          rw [if_pos ⟨c, c1, c2⟩] at i1
          exact i1
        · rw [if_neg (by rw [iI_lt (by omega) (by omega) (by omega) (by omega)]; omega)]
          rw [if_neg (fun z => c2 z.2.2)] at i1
          exact i1
      · rw [if_neg (by rw [iI_eq (by omega) (by omega) (by omega) (by omega)]; omega)]
        rw [if_neg (fun z => c1 z.2.1)] at i1
        exact i1
    · rw [if_neg (fun z => c (e4.mp z))]
      rw [if_neg (fun z => c z.1)] at i1
      exact i1
theorem cFewPot {S : St} {a : Nat → Int} {now N : Nat} (hw : WFa a) (hN8 : N ≤ 8) (hn : now ≤ 11) (hp : pW S a N now) {g : Int} (hg : -792 ≤ g ∧ g ≤ 792) : f_X1_fewestFor (iI g) S = some (iI (pFew (pFr a N) (pCo a N) (pGn a N now) g (2 ^ N))) := by
  have p8 : 2 ^ N ≤ 2 ^ 8 := Nat.pow_le_pow_right (by omega) hN8
  have p9 : (2 : Nat) ^ 8 = 256 := rfl
  have i := cFewP hw hN8 hn hp hg (k := fun y => some y) (2 ^ N) 2000 0 (by omega) (by omega)
  rw [f_X1_fewestFor]
  exact i
