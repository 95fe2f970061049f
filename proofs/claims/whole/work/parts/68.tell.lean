-- ===== a statement told =====
def rng (a : Nat → Int) (v : Nat) (w : Int) : Nat → Nat → (Nat → Int)
  | 0, _ => a
  | d + 1, y => rng (st a (28 + 12 * v + y) w) v w d (y + 1)
def addT (a : Nat → Int) (N : Nat) (k f : Int) : Nat → Int := fun i => if i = 0 then (N : Int) + 1 else if i = 4 + N then k else if i = 12 + N then f else if i = 20 + N then -9 else if 28 + 12 * N ≤ i ∧ i < 28 + 12 * N + 12 then 0 else a i
def glA (a : Nat → Int) (v : Nat) (y1 y2 w : Int) : Option (Nat → Int) := if (v : Int) < a 0 ∧ y1 ≤ y2 ∧ y2 ≤ 11 then some (rng a v w (y2 + 1 - y1).toNat y1.toNat) else none
def tell (l : Nat → Int) (a : Nat → Int) (p : Nat) : Option (Nat → Int) :=
  if l p = 100 then some (st a 2 (nv l 2 (p + 1)))
  else if l p = 103 then glA a (nv l 1 (p + 1)).toNat (nv l 2 (p + 2)) (nv l 2 (p + 2)) (nv l 2 (p + 4))
  else if l p = 104 then (if nv l 1 (p + 1) < a 0 ∧ nv l 1 (p + 2) < a 0 ∧ nv l 1 (p + 1) ≠ nv l 1 (p + 2) then some (flip2 a (nv l 1 (p + 1)).toNat (nv l 1 (p + 2)).toNat) else none)
  else if l p = 115 then (if nv l 1 (p + 1) < a 0 ∧ a (20 + (nv l 1 (p + 1)).toNat) < 0 ∧ sCost a (nv l 1 (p + 1)).toNat ≤ a 2 then some (st (st a 2 (a 2 - sCost a (nv l 1 (p + 1)).toNat)) (20 + (nv l 1 (p + 1)).toNat) (sY a (nv l 1 (p + 1)).toNat (a 1).toNat (nv l 2 (p + 2)) (nv l 1 (p + 4)))) else none)
  else if l p = 116 then (if a 0 < 8 then some (addT a (a 0).toNat (kdOf (l (p + 1))) (nv l 1 (p + 2))) else none)
  else if l p = 118 then glA a (nv l 1 (p + 1)).toNat (nv l 2 (p + 2)) (nv l 2 (p + 4)) (nv l 2 (p + 6))
  else if nv l 2 (p + 1) ≤ 11 then some (st a 1 (nv l 2 (p + 1))) else none
/-- the ranges of the numbers -/
def NR (l : Nat → Int) (p : Nat) : Prop :=
  (l p = 100 → 0 ≤ nv l 2 (p + 1) ∧ nv l 2 (p + 1) ≤ 99) ∧
  (l p = 103 → (0 ≤ nv l 1 (p + 1) ∧ nv l 1 (p + 1) ≤ 9) ∧ (0 ≤ nv l 2 (p + 2) ∧ nv l 2 (p + 2) ≤ 99) ∧ (0 ≤ nv l 2 (p + 4) ∧ nv l 2 (p + 4) ≤ 99)) ∧
  (l p = 104 → (0 ≤ nv l 1 (p + 1) ∧ nv l 1 (p + 1) ≤ 9) ∧ (0 ≤ nv l 1 (p + 2) ∧ nv l 1 (p + 2) ≤ 9)) ∧
  (l p = 115 → (0 ≤ nv l 1 (p + 1) ∧ nv l 1 (p + 1) ≤ 9) ∧ (0 ≤ nv l 2 (p + 2) ∧ nv l 2 (p + 2) ≤ 99) ∧ (0 ≤ nv l 1 (p + 4) ∧ nv l 1 (p + 4) ≤ 9)) ∧
  (l p = 116 → (0 ≤ kdOf (l (p + 1))) ∧ (0 ≤ nv l 1 (p + 2) ∧ nv l 1 (p + 2) ≤ 9)) ∧
  (l p = 118 → (0 ≤ nv l 1 (p + 1) ∧ nv l 1 (p + 1) ≤ 9) ∧ (0 ≤ nv l 2 (p + 2) ∧ nv l 2 (p + 2) ≤ 99) ∧ (0 ≤ nv l 2 (p + 4) ∧ nv l 2 (p + 4) ≤ 99) ∧ (0 ≤ nv l 2 (p + 6) ∧ nv l 2 (p + 6) ≤ 99)) ∧
  (l p = 121 → 0 ≤ nv l 2 (p + 1) ∧ nv l 2 (p + 1) ≤ 99)
theorem NB.nr {l : Nat → Int} {p : Nat} {S : St} (h : NB l p S) : NR l p :=
  ⟨fun w => (h.1 w).2, fun w => (h.2.1 w).2, fun w => (h.2.2.1 w).2, fun w => (h.2.2.2.1 w).2, fun w => (h.2.2.2.2.1 w).2, fun w => (h.2.2.2.2.2.1 w).2, fun w => (h.2.2.2.2.2.2 w).2⟩
theorem nr_of {S : St} {L : Nat → Int} {n p : Nat} (h : IR S L n) (hp : p ≤ 700) (hm : mis (ltr L n) p = -9) : NR (ltr L n) p ∧ parts (ltr L n p) ≠ 0 := by
  have fr : f82 S (up S 74 10 (iI p)) := fun i k hi => up_n (by omega)
  obtain ⟨r, S', a1, a2, a3⟩ := rSt (S := up S 74 10 (iI p)) (h.f fr) hp up_s
  rcases a3 with ⟨b1, b2, b3, b4⟩ | ⟨b1, q, b2, b3⟩
  · refine ⟨b4.nr, fun z => ?_⟩
    unfold mis at hm
    rw [if_pos z] at hm
    omega
  · omega
-- ===== the row stays well formed =====
theorem WFa.rng {a : Nat → Int} {v : Nat} {w : Int} (hv : v < 8) (hw : 0 ≤ w ∧ w ≤ 99) : ∀ d y, ∀ b, WFa b → y + d ≤ 12 → WFa (rng b v w d y) := by
  intro d
  induction d with
  | zero => intro y b hb _; exact hb
  | succ d ih =>
    intro y b hb hy
    exact ih (y + 1) _ (hb.stg hv (by omega) hw) (by omega)
theorem addT_n {a : Nat → Int} {N : Nat} {k f : Int} {i : Nat} (h0 : i ≠ 0) (h1 : i ≠ 4 + N) (h2 : i ≠ 12 + N) (h3 : i ≠ 20 + N) (h4 : ¬ (28 + 12 * N ≤ i ∧ i < 28 + 12 * N + 12)) : addT a N k f i = a i := by
  unfold addT
  rw [if_neg h0, if_neg h1, if_neg h2, if_neg h3, if_neg h4]
theorem addT_0 (a : Nat → Int) (N : Nat) (k f : Int) : addT a N k f 0 = (N : Int) + 1 := if_pos rfl
theorem addT_k (a : Nat → Int) (N : Nat) (k f : Int) : addT a N k f (4 + N) = k := by
  unfold addT
  rw [if_neg (by omega), if_pos rfl]
theorem addT_f (a : Nat → Int) (N : Nat) (hN : N < 8) (k f : Int) : addT a N k f (12 + N) = f := by
  unfold addT
  rw [if_neg (by omega), if_neg (by omega), if_pos rfl]
theorem addT_s (a : Nat → Int) (N : Nat) (hN : N < 8) (k f : Int) : addT a N k f (20 + N) = -9 := by
  unfold addT
  rw [if_neg (by omega), if_neg (by omega), if_neg (by omega), if_pos rfl]
theorem addT_g (a : Nat → Int) (N : Nat) (hN : N < 8) (k f : Int) {y : Nat} (hy : y < 12) : addT a N k f (28 + 12 * N + y) = 0 := by
  unfold addT
  rw [if_neg (by omega), if_neg (by omega), if_neg (by omega), if_neg (by omega), if_pos (by omega)]
theorem WFa.addT {a : Nat → Int} (h : WFa a) {N : Nat} (hN : a 0 = N) (h8 : N < 8) {k f : Int} (hk : 0 ≤ k ∧ k ≤ 5) (hf : 0 ≤ f ∧ f ≤ 9) : WFa (addT a N k f) := by
  obtain ⟨h0, h1, h2, h3, h4, h5⟩ := h
  refine ⟨?_, ?_, ?_, ?_, fun j hj => ⟨?_, ?_, ?_, fun y hy => ?_, ?_⟩, fun i j hi hj hb => ?_⟩
  · rw [addT_0]; omega
  · rw [addT_n (by omega) (by omega) (by omega) (by omega) (by omega)]; exact h1
  · rw [addT_n (by omega) (by omega) (by omega) (by omega) (by omega)]; exact h2
  · rw [addT_n (by omega) (by omega) (by omega) (by omega) (by omega)]; exact h3
  · by_cases e : j = N
    · rw [e, addT_k]; exact hk
    · rw [addT_n (by omega) (by omega) (by omega) (by omega) (by omega)]; exact (h4 j hj).1
  · by_cases e : j = N
    · rw [e, addT_f a N h8]; exact hf
    · rw [addT_n (by omega) (by omega) (by omega) (by omega) (by omega)]; exact (h4 j hj).2.1
  · by_cases e : j = N
    · rw [e, addT_s a N h8]; exact Or.inl rfl
    · rw [addT_n (by omega) (by omega) (by omega) (by omega) (by omega)]; exact (h4 j hj).2.2.1
  · by_cases e : j = N
    · rw [e, addT_g a N h8 k f hy]; omega
    · rw [addT_n (by omega) (by omega) (by omega) (by omega) (by omega)]; exact (h4 j hj).2.2.2.1 y hy
  · rw [addT_n (by omega) (by omega) (by omega) (by omega) (by omega)]; exact (h4 j hj).2.2.2.2
  · rw [addT_n (by omega) (by omega) (by omega) (by omega) (by omega)] at hb
    rw [addT_n (by omega) (by omega) (by omega) (by omega) (by omega), addT_0]
    have := h5 i j hi hj hb
    exact ⟨this.1, this.2.1, by omega, by omega⟩
theorem tell_wf {l : Nat → Int} {a b : Nat → Int} {p : Nat} (h : WFa a) (hr : NR l p) (hp : parts (l p) ≠ 0) (ht : tell l a p = some b) : WFa b := by
  have h0 := h.1
  have h1 := h.2.1
  have h2 := h.2.2.1
  have hgl : ∀ (v y1 y2 w : Int) {c : Nat → Int}, 0 ≤ v → 0 ≤ y1 → 0 ≤ w ∧ w ≤ 99 → glA a v.toNat y1 y2 w = some c → WFa c := by
    intro v y1 y2 w c hv hy hw he
    unfold glA at he
    by_cases c1 : (v.toNat : Int) < a 0 ∧ y1 ≤ y2 ∧ y2 ≤ 11
    · rw [if_pos c1] at he
      rw [← Option.some.inj he]
      exact WFa.rng (a := a) (by omega) hw _ _ a h (by omega)
    · rw [if_neg c1] at he; cases he
  obtain ⟨r1, r2, r3, r4, r5, r6, r7⟩ := hr
  unfold tell at ht
  by_cases c1 : l p = 100
  · rw [if_pos c1] at ht
    rw [← Option.some.inj ht]
    exact h.st0 (by have := r1 c1; omega)
  · rw [if_neg c1] at ht
    by_cases c2 : l p = 103
    · rw [if_pos c2] at ht
      obtain ⟨u1, u2, u3⟩ := r2 c2
      exact hgl _ _ _ _ u1.1 u2.1 u3 ht
    · rw [if_neg c2] at ht
      by_cases c3 : l p = 104
      · rw [if_pos c3] at ht
        obtain ⟨u1, u2⟩ := r3 c3
        by_cases d : nv l 1 (p + 1) < a 0 ∧ nv l 1 (p + 2) < a 0 ∧ nv l 1 (p + 1) ≠ nv l 1 (p + 2)
        · rw [if_pos d] at ht
          rw [← Option.some.inj ht]
          exact h.turned (by omega) (by omega) (by omega) (by omega) (by omega)
        · rw [if_neg d] at ht; cases ht
      · rw [if_neg c3] at ht
        by_cases c4 : l p = 115
        · rw [if_pos c4] at ht
          obtain ⟨u1, u2, u3⟩ := r4 c4
          by_cases d : nv l 1 (p + 1) < a 0 ∧ a (20 + (nv l 1 (p + 1)).toNat) < 0 ∧ sCost a (nv l 1 (p + 1)).toNat ≤ a 2
          · rw [if_pos d] at ht
            rw [← Option.some.inj ht]
            have yb := sY_le a (nv l 1 (p + 1)).toNat (a 1).toNat (nv l 2 (p + 2)) (nv l 1 (p + 4))
            have cb := sCost_b (h.t (j := (nv l 1 (p + 1)).toNat) (by omega))
            exact (h.st0 (by omega)).sts (by omega) (by omega)
          · rw [if_neg d] at ht; cases ht
        · rw [if_neg c4] at ht
          by_cases c5 : l p = 116
          · rw [if_pos c5] at ht
            obtain ⟨u1, u2⟩ := r5 c5
            by_cases d : a 0 < 8
            · rw [if_pos d] at ht
              rw [← Option.some.inj ht]
              have kb := kdOf_b (l (p + 1))
              exact h.addT (by omega) (by omega) (by omega) (by omega)
            · rw [if_neg d] at ht; cases ht
          · rw [if_neg c5] at ht
            by_cases c6 : l p = 118
            · rw [if_pos c6] at ht
              obtain ⟨u1, u2, u3, u4⟩ := r6 c6
              exact hgl _ _ _ _ u1.1 u2.1 u4 ht
            · rw [if_neg c6] at ht
              have c7 : l p = 121 := by
                rcases parts_c (l p) with z | z | z | z | z | z | z | z
                · exact absurd z hp
                · exact absurd z c1
                · exact absurd z c2
                · exact absurd z c3
                · exact absurd z c4
                · exact absurd z c5
                · exact absurd z c6
                · exact z
              have u := r7 c7
              by_cases d : nv l 2 (p + 1) ≤ 11
              · rw [if_pos d] at ht
                rw [← Option.some.inj ht]
                exact h.st0 (by omega)
              · rw [if_neg d] at ht; cases ht
-- ===== the class' trial is told =====
def fr39 (S S' : St) : Prop := ∀ i k, ¬ (39 ≤ i ∧ i ≤ 57) → S'.1 i k = S.1 i k
def CTo (T : Option (Int32 × St)) (S : St) (o : Option (Nat → Int)) : Prop := ∃ S', T = some (iI (if o.isSome = true then 1 else 0), S') ∧ fr39 S S' ∧ ∀ b, o = some b → RC S' 39 b
theorem CTo.y {T : Option (Int32 × St)} {S S' : St} {b : Nat → Int} (h : T = some (iI 1, S')) (hf : fr39 S S') (hr : RC S' 39 b) : CTo T S (some b) := ⟨S', h, hf, fun c hc => by rw [← Option.some.inj hc]; exact hr⟩
theorem CTo.n {T : Option (Int32 × St)} {S : St} (h : T = some (iI 0, S)) : CTo T S none := ⟨S, h, fun _ _ _ => rfl, fun c hc => by cases hc⟩
section TT
variable {S : St} {a : Nat → Int}
theorem cMGL {v : Nat} {w : Int} (hv : v < 8) (hw : 0 ≤ w ∧ w ≤ 99) {y2 : Nat} (hy2 : y2 ≤ 11) {k : St → Option (Int32 × St)} : ∀ d n y : Nat, ∀ S' b, y + d = y2 + 1 → d < n → fr39 S S' → RC S' 39 b → (v : Int) < b 0 → ∃ S'', fr39 S S'' ∧ RC S'' 39 (rng b v w d y) ∧ f_X3_makeGlad_L32 n 39 (iI v) (iI y2) (iI w) (iI y) S' k = k S'' := by
  intro d
  induction d with
  | zero =>
    intro n y S' b hx hd q1 q2 q3
    obtain ⟨n, rfl⟩ : ∃ p, n = p + 1 := ⟨n - 1, by omega⟩
    refine ⟨S', q1, q2, ?_⟩
    rw [f_X3_makeGlad_L32]
    simp (disch := omega) only [li_0, li_1, li_2, li_3, li_4, li_5, li_6, li_7, li_8, li_9, li_10, li_11, li_12, li_16, li_19, li_20, li_28, li_48, li_57, li_59, li_60, li_96, li_97, li_99, li_100, li_102, li_103, li_104, li_112, li_115, li_116, li_118, li_119, li_121, li_124, li_132, li_255, li_256, li_1000, li_2000, li_1000000000, iI_add, iI_sub, iI_mul, iI_neg, iI_lt, iI_le, iI_eq, iI_clamp, iI_s, iI_m1, iI_div, bs, tn, tn4, tn12, tn20, tn124, tn28, itT, itF, if_pos, if_neg]
  | succ d ih =>
    intro n y S' b hx hd q1 q2 q3
    obtain ⟨n, rfl⟩ : ∃ p, n = p + 1 := ⟨n - 1, by omega⟩
    have e1 := cAt (S := S') (q := 39) hv
    have e2 : f_X6_makeGlad (39 + 1 + 2 + 2 * v) (iI y) (iI w) S' = some (up S' (39 + 1 + 2 + 2 * v + 1) y (iI w)) := by simp (disch := omega) only [li_0, li_1, li_2, li_3, li_4, li_5, li_6, li_7, li_8, li_9, li_10, li_11, li_12, li_16, li_19, li_20, li_28, li_48, li_57, li_59, li_60, li_96, li_97, li_99, li_100, li_102, li_103, li_104, li_112, li_115, li_116, li_118, li_119, li_121, li_124, li_132, li_255, li_256, li_1000, li_2000, li_1000000000, iI_add, iI_sub, iI_mul, iI_neg, iI_lt, iI_le, iI_eq, iI_clamp, iI_s, iI_m1, iI_div, bs, tn, tn4, tn12, tn20, tn124, tn28, itT, itF, if_pos, if_neg, f_X6_makeGlad]
    obtain ⟨S'', g1, g2, g3⟩ := ih n (y + 1) (up S' (39 + 1 + 2 + 2 * v + 1) y (iI w)) (st b (28 + 12 * v + y) w) (by omega) (by omega) (fun i k hi => by rw [up_ne (by omega)]; exact q1 i k hi) (q2.stg hv (by omega) w) (by rw [st_n (by omega)]; exact q3)
    refine ⟨S'', g1, g2, ?_⟩
    rw [f_X3_makeGlad_L32]
    simp (disch := omega) only [li_0, li_1, li_2, li_3, li_4, li_5, li_6, li_7, li_8, li_9, li_10, li_11, li_12, li_16, li_19, li_20, li_28, li_48, li_57, li_59, li_60, li_96, li_97, li_99, li_100, li_102, li_103, li_104, li_112, li_115, li_116, li_118, li_119, li_121, li_124, li_132, li_255, li_256, li_1000, li_2000, li_1000000000, iI_add, iI_sub, iI_mul, iI_neg, iI_lt, iI_le, iI_eq, iI_clamp, iI_s, iI_m1, iI_div, bs, tn, tn4, tn12, tn20, tn124, tn28, itT, itF, if_pos, if_neg, e1, e2, g3]
theorem cMG (hc : RC S 39 a) (hw : WFa a) {v y1 y2 w : Int} (hv : 0 ≤ v ∧ v ≤ 9) (h1 : 0 ≤ y1 ∧ y1 ≤ 99) (h2 : 0 ≤ y2 ∧ y2 ≤ 99) (h3 : 0 ≤ w ∧ w ≤ 99) : CTo (f_X3_makeGlad 39 (iI v) (iI y1) (iI y2) (iI w) S) S (glA a v.toNat y1 y2 w) := by
  have h8 := hw.1
  have e1 := cLacks hc hw (z := v) (by omega) (by omega)
  have e2 := cNo (z := y1) (by omega) (by omega)
  have e3 := cNo (z := y2) (by omega) (by omega)
  unfold glA
  by_cases c : (v.toNat : Int) < a 0 ∧ y1 ≤ y2 ∧ y2 ≤ 11
  · rw [if_pos c]
    obtain ⟨v, rfl⟩ : ∃ m : Nat, v = m := ⟨v.toNat, by omega⟩
    obtain ⟨y1, rfl⟩ : ∃ m : Nat, y1 = m := ⟨y1.toNat, by omega⟩
    obtain ⟨y2, rfl⟩ : ∃ m : Nat, y2 = m := ⟨y2.toNat, by omega⟩
    obtain ⟨S'', g1, g2, g3⟩ := cMGL (S := S) (v := v) (w := w) (by omega) h3 (y2 := y2) (by omega) (k := fun S11 => some (iI 1, S11)) (y2 + 1 - y1) 2000 y1 S a (by omega) (by omega) (fun _ _ _ => rfl) hc (by omega)
    rw [show ((y2 : Int) + 1 - (y1 : Int)).toNat = y2 + 1 - y1 by omega, Int.toNat_natCast, Int.toNat_natCast]
    refine CTo.y ?_ g1 g2
    simp (disch := omega) only [li_0, li_1, li_2, li_3, li_4, li_5, li_6, li_7, li_8, li_9, li_10, li_11, li_12, li_16, li_19, li_20, li_28, li_48, li_57, li_59, li_60, li_96, li_97, li_99, li_100, li_102, li_103, li_104, li_112, li_115, li_116, li_118, li_119, li_121, li_124, li_132, li_255, li_256, li_1000, li_2000, li_1000000000, iI_add, iI_sub, iI_mul, iI_neg, iI_lt, iI_le, iI_eq, iI_clamp, iI_s, iI_m1, iI_div, bs, tn, tn4, tn12, tn20, tn124, tn28, itT, itF, if_pos, if_neg, f_X3_makeGlad, e1, e2, e3, g3]
  · rw [if_neg c]
    refine CTo.n ?_
    by_cases c1 : v < a 0
    · by_cases c2 : y1 < 12
      · by_cases c3 : y2 < 12
        · simp (disch := omega) only [li_0, li_1, li_2, li_3, li_4, li_5, li_6, li_7, li_8, li_9, li_10, li_11, li_12, li_16, li_19, li_20, li_28, li_48, li_57, li_59, li_60, li_96, li_97, li_99, li_100, li_102, li_103, li_104, li_112, li_115, li_116, li_118, li_119, li_121, li_124, li_132, li_255, li_256, li_1000, li_2000, li_1000000000, iI_add, iI_sub, iI_mul, iI_neg, iI_lt, iI_le, iI_eq, iI_clamp, iI_s, iI_m1, iI_div, bs, tn, tn4, tn12, tn20, tn124, tn28, itT, itF, if_pos, if_neg, f_X3_makeGlad, e1, e2, e3]
        · simp (disch := omega) only [li_0, li_1, li_2, li_3, li_4, li_5, li_6, li_7, li_8, li_9, li_10, li_11, li_12, li_16, li_19, li_20, li_28, li_48, li_57, li_59, li_60, li_96, li_97, li_99, li_100, li_102, li_103, li_104, li_112, li_115, li_116, li_118, li_119, li_121, li_124, li_132, li_255, li_256, li_1000, li_2000, li_1000000000, iI_add, iI_sub, iI_mul, iI_neg, iI_lt, iI_le, iI_eq, iI_clamp, iI_s, iI_m1, iI_div, bs, tn, tn4, tn12, tn20, tn124, tn28, itT, itF, if_pos, if_neg, f_X3_makeGlad, e1, e2, e3]
      · simp (disch := omega) only [li_0, li_1, li_2, li_3, li_4, li_5, li_6, li_7, li_8, li_9, li_10, li_11, li_12, li_16, li_19, li_20, li_28, li_48, li_57, li_59, li_60, li_96, li_97, li_99, li_100, li_102, li_103, li_104, li_112, li_115, li_116, li_118, li_119, li_121, li_124, li_132, li_255, li_256, li_1000, li_2000, li_1000000000, iI_add, iI_sub, iI_mul, iI_neg, iI_lt, iI_le, iI_eq, iI_clamp, iI_s, iI_m1, iI_div, bs, tn, tn4, tn12, tn20, tn124, tn28, itT, itF, if_pos, if_neg, f_X3_makeGlad, e1, e2]
    · simp (disch := omega) only [li_0, li_1, li_2, li_3, li_4, li_5, li_6, li_7, li_8, li_9, li_10, li_11, li_12, li_16, li_19, li_20, li_28, li_48, li_57, li_59, li_60, li_96, li_97, li_99, li_100, li_102, li_103, li_104, li_112, li_115, li_116, li_118, li_119, li_121, li_124, li_132, li_255, li_256, li_1000, li_2000, li_1000000000, iI_add, iI_sub, iI_mul, iI_neg, iI_lt, iI_le, iI_eq, iI_clamp, iI_s, iI_m1, iI_div, bs, tn, tn4, tn12, tn20, tn124, tn28, itT, itF, if_pos, if_neg, f_X3_makeGlad, e1]
theorem cBgL {t : Nat} {k : St → Option St} : ∀ d n y : Nat, ∀ S', y + d = 12 → d < n → (∀ i q, i ≠ t + 1 → S'.1 i q = S.1 i q) → (∀ u, u < y → S'.1 (t + 1) u = iI 0) → ∃ S'', (∀ i q, i ≠ t + 1 → S''.1 i q = S.1 i q) ∧ (∀ u, u < 12 → S''.1 (t + 1) u = iI 0) ∧ f_X6_begin_L18 n t (iI y) S' k = k S'' := by
  intro d
  induction d with
  | zero =>
    intro n y S' hx hd q1 q2
    obtain ⟨n, rfl⟩ : ∃ p, n = p + 1 := ⟨n - 1, by omega⟩
    obtain rfl : y = 12 := by omega
    refine ⟨S', q1, q2, ?_⟩
    rw [f_X6_begin_L18]
    simp (disch := omega) only [li_0, li_1, li_2, li_3, li_4, li_5, li_6, li_7, li_8, li_9, li_10, li_11, li_12, li_16, li_19, li_20, li_28, li_48, li_57, li_59, li_60, li_96, li_97, li_99, li_100, li_102, li_103, li_104, li_112, li_115, li_116, li_118, li_119, li_121, li_124, li_132, li_255, li_256, li_1000, li_2000, li_1000000000, iI_add, iI_sub, iI_mul, iI_neg, iI_lt, iI_le, iI_eq, iI_clamp, iI_s, iI_m1, iI_div, bs, tn, tn4, tn12, tn20, tn124, tn28, itT, itF, if_pos, if_neg]
  | succ d ih =>
    intro n y S' hx hd q1 q2
    obtain ⟨n, rfl⟩ : ∃ p, n = p + 1 := ⟨n - 1, by omega⟩
    obtain ⟨S'', g1, g2, g3⟩ := ih n (y + 1) (up S' (t + 1) y (iI 0)) (by omega) (by omega) (fun i q hi => by rw [up_ne hi]; exact q1 i q hi) (fun u hu => by
      by_cases e : u = y
      · rw [e, up_s]
      · rw [up_n (Or.inr e)]; exact q2 u (by omega))
    refine ⟨S'', g1, g2, ?_⟩
    rw [f_X6_begin_L18]
    simp (disch := omega) only [li_0, li_1, li_2, li_3, li_4, li_5, li_6, li_7, li_8, li_9, li_10, li_11, li_12, li_16, li_19, li_20, li_28, li_48, li_57, li_59, li_60, li_96, li_97, li_99, li_100, li_102, li_103, li_104, li_112, li_115, li_116, li_118, li_119, li_121, li_124, li_132, li_255, li_256, li_1000, li_2000, li_1000000000, iI_add, iI_sub, iI_mul, iI_neg, iI_lt, iI_le, iI_eq, iI_clamp, iI_s, iI_m1, iI_div, bs, tn, tn4, tn12, tn20, tn124, tn28, itT, itF, if_pos, if_neg, g3]
theorem cAdd (hc : RC S 39 a) (hw : WFa a) {N : Nat} (hN : a 0 = N) {k f : Int} (hk : 0 ≤ k ∧ k ≤ 5) (hf : 0 ≤ f ∧ f ≤ 9) : CTo (f_X3_add 39 (iI k) (iI f) S) S (if a 0 < 8 then some (addT a N k f) else none) := by
  have h8 := hw.1
  have e0 : S.1 39 0 = iI N := by rw [hc.1 0 (by omega), hN]
  by_cases c : a 0 < 8
  · rw [if_pos c]
    have e1 := cAt (S := S) (q := 39) (j := N) (by omega)
    obtain ⟨t, ht⟩ : ∃ t, t = 39 + 1 + 2 + 2 * N := ⟨_, rfl⟩
    obtain ⟨S2, g1, g2, g3⟩ := cBgL (S := up (up (up S t 0 (iI k)) t 1 (iI f)) t 2 (iI (-9))) (t := t) (k := fun s => some s) 12 2000 0 _ (by omega) (by omega) (fun _ _ _ => rfl) (fun u hu => absurd hu (by omega))
    have e2 : f_X6_begin t (iI k) (iI f) S = some S2 := by
      rw [f_X6_begin]
      exact g3
    have e3 : S2.1 39 0 + 1 = iI ((N : Int) + 1) := by
      rw [g1 _ _ (by omega), up_ne (by omega), up_ne (by omega), up_ne (by omega), e0, show (1 : Int32) = iI 1 from rfl, iI_add]
    rw [← ht] at e1
    have fr : ∀ i q, i ≠ t → i ≠ t + 1 → ¬ (i = 39 ∧ q = 0) → (up S2 39 0 (iI ((N : Int) + 1))).1 i q = S.1 i q := fun i q h1 h2 h3 => by rw [up_n (by omega), g1 _ _ h2, up_ne h1, up_ne h1, up_ne h1]
    have ft : ∀ q, (up S2 39 0 (iI ((N : Int) + 1))).1 t q = (up (up (up S t 0 (iI k)) t 1 (iI f)) t 2 (iI (-9))).1 t q := fun q => by rw [up_n (by omega), g1 _ _ (by omega)]
    refine CTo.y (S' := up S2 39 0 (iI ((N : Int) + 1))) ?_ (fun i q hi => fr i q (by omega) (by omega) (by omega)) ⟨fun c hc' => ?_, fun j hj => ?_, fun j hj hl => ?_⟩
    · rw [f_X3_add, e0, if_pos (by rw [show (8 : Int32) = iI 8 from rfl, iI_lt (by omega) (by omega) (by omega) (by omega)]; omega), e1, bs, e2, bs, e3]
      rfl
    · by_cases e : c = 0
      · rw [e, up_s, addT_0]
      · rw [fr _ _ (by omega) (by omega) (by omega), addT_n (by omega) (by omega) (by omega) (by omega) (by omega)]; exact hc.1 c hc'
    · rw [fr _ _ (by omega) (by omega) (by omega), addT_n (by omega) (by omega) (by omega) (by omega) (by omega)]; exact hc.2.1 j hj
    · rw [addT_0] at hl
      by_cases e : j = N
      · subst e
        rw [← ht]
        refine ⟨?_, ?_, ?_, fun y hy => ?_⟩
        · rw [ft, up_n (by omega), up_n (by omega), up_s, addT_k]
        · rw [ft, up_n (by omega), up_s, addT_f a j (by omega)]
        · rw [ft, up_s, addT_s a j (by omega)]
        · rw [up_n (by omega), g2 y hy, addT_g a j (by omega) k f hy]
      · have g := hc.2.2 j hj (by omega)
        refine ⟨?_, ?_, ?_, fun y hy => ?_⟩
        · rw [fr _ _ (by omega) (by omega) (by omega), addT_n (by omega) (by omega) (by omega) (by omega) (by omega)]; exact g.1
        · rw [fr _ _ (by omega) (by omega) (by omega), addT_n (by omega) (by omega) (by omega) (by omega) (by omega)]; exact g.2.1
        · rw [fr _ _ (by omega) (by omega) (by omega), addT_n (by omega) (by omega) (by omega) (by omega) (by omega)]; exact g.2.2.1
        · rw [fr _ _ (by omega) (by omega) (by omega), addT_n (by omega) (by omega) (by omega) (by omega) (by omega)]; exact g.2.2.2 y hy
  · rw [if_neg c]
    refine CTo.n ?_
    rw [f_X3_add, e0, if_neg (by rw [show (8 : Int32) = iI 8 from rfl, iI_lt (by omega) (by omega) (by omega) (by omega)]; omega)]
    rfl
theorem cTellS {L : Nat → Int} {n p : Nat} (hi : IT S L n) (hp : p ≤ 200) (hc : RC S 39 a) (hw : WFa a) (hr : NR (ltr L n) p) (hp0 : parts (ltr L n p) ≠ 0) : CTo (f_X7_tellStatement (iI p) S) S (tell (ltr L n) a p) := by
  have h8 := hw.1
  have w1 := hw.2.1
  have w2 := hw.2.2.1
  obtain ⟨r1, r2, r3, r4, r5, r6, r7⟩ := hr
  have E1 : ∀ q : Nat, q ≤ 300 → f_X5_number (iI q) 1 S = some (iI (nv (ltr L n) 1 q)) := fun q hq => cNum1 hi hq
  have E2 : ∀ q : Nat, q ≤ 300 → f_X5_number (iI q) 2 S = some (iI (nv (ltr L n) 2 q)) := fun q hq => cNum2 hi hq
  have j : ∀ (m : Nat) (z : Int32), z = iI m → iI (p : Int) + z = iI ((p + m : Nat) : Int) := fun m z hz => by rw [hz, iI_add]; rfl
  have j1 := j 1 1 rfl
  have j2 := j 2 2 rfl
  have j4 := j 4 4 rfl
  have j6 := j 6 6 rfl
  have el := cLtr hi (p := (p : Int)) (by omega) (by omega)
  rw [Int.toNat_natCast] at el
  have z0 : ∀ (o : Option (Int32 × St)), (o.bind fun z => some (z.1, z.2)) = o := bse
  rw [f_X7_tellStatement, j1, j2, j4, j6, E1 (p + 1) (by omega), bs, el, bs]
  unfold tell
  rcases parts_c (ltr L n p) with c | c | c | c | c | c | c | c
  · exact absurd c hp0
  · have u := r1 c
    rw [c, if_pos (show iI 100 = 100 from rfl), if_pos (rfl : (100 : Int) = 100), E2 (p + 1) (by omega), bs]
    exact CTo.y (S' := up S 39 2 (iI (nv (ltr L n) 2 (p + 1)))) rfl (fun i k hi => up_n (Or.inl (show i ≠ 39 by omega))) (hc.st0 (by omega) _)
  · obtain ⟨u1, u2, u3⟩ := r2 c
    rw [c, if_neg (show ¬ iI 103 = 100 by decide), if_pos (show iI 103 = 103 from rfl), if_neg (show ¬ (103 : Int) = 100 by decide), if_pos (rfl : (103 : Int) = 103), E2 (p + 2) (by omega), bs, bs, E2 (p + 4) (by omega), bs, z0]
    exact cMG hc hw (by omega) (by omega) (by omega) (by omega)
  · obtain ⟨u1, u2⟩ := r3 c
    rw [c, if_neg (show ¬ iI 104 = 100 by decide), if_neg (show ¬ iI 104 = 103 by decide), if_pos (show iI 104 = 104 from rfl), if_neg (show ¬ (104 : Int) = 100 by decide), if_neg (show ¬ (104 : Int) = 103 by decide), if_pos (rfl : (104 : Int) = 104), E1 (p + 2) (by omega), bs, z0]
    by_cases d : nv (ltr L n) 1 (p + 1) < a 0 ∧ nv (ltr L n) 1 (p + 2) < a 0 ∧ nv (ltr L n) 1 (p + 1) ≠ nv (ltr L n) 1 (p + 2)
    · rw [if_pos d]
      obtain ⟨v, hv⟩ : ∃ v : Nat, nv (ltr L n) 1 (p + 1) = v := ⟨(nv (ltr L n) 1 (p + 1)).toNat, by omega⟩
      obtain ⟨w, hw'⟩ : ∃ w : Nat, nv (ltr L n) 1 (p + 2) = w := ⟨(nv (ltr L n) 1 (p + 2)).toNat, by omega⟩
      rw [hv] at d u1 ⊢
      rw [hw'] at d u2 ⊢
      exact CTo.y (cTurn hc hw (i := v) (j := w) (by omega) (by omega) (by omega) (by omega) (by omega)) (fun i k hi => by rw [up_ne (by omega), up_ne (by omega)]) (hc.turned (by omega) (by omega))
    · rw [if_neg d]
      have e := cLacksTwo hc hw (z := nv (ltr L n) 1 (p + 1)) (y := nv (ltr L n) 1 (p + 2)) (by omega) (by omega) (by omega) (by omega)
      rw [if_neg (by omega)] at e
      refine CTo.n ?_
      simp (disch := omega) only [li_0, li_1, li_2, li_3, li_4, li_5, li_6, li_7, li_8, li_9, li_10, li_11, li_12, li_16, li_19, li_20, li_28, li_48, li_57, li_59, li_60, li_96, li_97, li_99, li_100, li_102, li_103, li_104, li_112, li_115, li_116, li_118, li_119, li_121, li_124, li_132, li_255, li_256, li_1000, li_2000, li_1000000000, iI_add, iI_sub, iI_mul, iI_neg, iI_lt, iI_le, iI_eq, iI_clamp, iI_s, iI_m1, iI_div, bs, tn, tn4, tn12, tn20, tn124, tn28, itT, itF, if_pos, if_neg, f_X3_turnHalves, e]
  · obtain ⟨u1, u2, u3⟩ := r4 c
    rw [c, if_neg (show ¬ iI 115 = 100 by decide), if_neg (show ¬ iI 115 = 103 by decide), if_neg (show ¬ iI 115 = 104 by decide), if_pos (show iI 115 = 115 from rfl), if_neg (show ¬ (115 : Int) = 100 by decide), if_neg (show ¬ (115 : Int) = 103 by decide), if_neg (show ¬ (115 : Int) = 104 by decide), if_pos (rfl : (115 : Int) = 115), E2 (p + 2) (by omega), bs, E1 (p + 4) (by omega), bs, z0]
    by_cases d0 : nv (ltr L n) 1 (p + 1) < a 0
    · obtain ⟨v, hv⟩ : ∃ v : Nat, nv (ltr L n) 1 (p + 1) = v := ⟨(nv (ltr L n) 1 (p + 1)).toNat, by omega⟩
      rw [hv] at d0 u1 ⊢
      rw [Int.toNat_natCast]
      have e := cGlue hc hw (j := v) (now := (a 1).toNat) (by omega) d0 (by omega) (m := nv (ltr L n) 2 (p + 2)) (f := nv (ltr L n) 1 (p + 4)) (by omega) (by omega)
      by_cases d : a (20 + v) < 0 ∧ sCost a v ≤ a 2
      · rw [if_pos d] at e
        rw [if_pos ⟨d0, d⟩]
        exact CTo.y e (fun i k hi => by rw [up_ne (by omega), up_ne (by omega)]) ((hc.st0 (by omega) _).sts (by omega) _)
      · rw [if_neg d] at e
        rw [if_neg (fun z => d z.2)]
        exact CTo.n e
    · rw [if_neg (fun z => d0 z.1)]
      have e := cLacks hc hw (z := nv (ltr L n) 1 (p + 1)) (by omega) (by omega)
      rw [if_neg (by omega)] at e
      refine CTo.n ?_
      simp (disch := omega) only [li_0, li_1, li_2, li_3, li_4, li_5, li_6, li_7, li_8, li_9, li_10, li_11, li_12, li_16, li_19, li_20, li_28, li_48, li_57, li_59, li_60, li_96, li_97, li_99, li_100, li_102, li_103, li_104, li_112, li_115, li_116, li_118, li_119, li_121, li_124, li_132, li_255, li_256, li_1000, li_2000, li_1000000000, iI_add, iI_sub, iI_mul, iI_neg, iI_lt, iI_le, iI_eq, iI_clamp, iI_s, iI_m1, iI_div, bs, tn, tn4, tn12, tn20, tn124, tn28, itT, itF, if_pos, if_neg, f_X3_glue, e]
  · obtain ⟨u1, u2⟩ := r5 c
    have ek := cKind hi (p := ((p + 1 : Nat) : Int)) (by omega) (by omega)
    rw [Int.toNat_natCast] at ek
    have kb := kdOf_b (ltr L n (p + 1))
    rw [c, if_neg (show ¬ iI 116 = 100 by decide), if_neg (show ¬ iI 116 = 103 by decide), if_neg (show ¬ iI 116 = 104 by decide), if_neg (show ¬ iI 116 = 115 by decide), if_pos (show iI 116 = 116 from rfl), if_neg (show ¬ (116 : Int) = 100 by decide), if_neg (show ¬ (116 : Int) = 103 by decide), if_neg (show ¬ (116 : Int) = 104 by decide), if_neg (show ¬ (116 : Int) = 115 by decide), if_pos (rfl : (116 : Int) = 116), ek, bs, E1 (p + 2) (by omega), bs, z0]
    exact cAdd hc hw (by omega) (by omega) (by omega)
  · obtain ⟨u1, u2, u3, u4⟩ := r6 c
    rw [c, if_neg (show ¬ iI 118 = 100 by decide), if_neg (show ¬ iI 118 = 103 by decide), if_neg (show ¬ iI 118 = 104 by decide), if_neg (show ¬ iI 118 = 115 by decide), if_neg (show ¬ iI 118 = 116 by decide), if_pos (show iI 118 = 118 from rfl), if_neg (show ¬ (118 : Int) = 100 by decide), if_neg (show ¬ (118 : Int) = 103 by decide), if_neg (show ¬ (118 : Int) = 104 by decide), if_neg (show ¬ (118 : Int) = 115 by decide), if_neg (show ¬ (118 : Int) = 116 by decide), if_pos (rfl : (118 : Int) = 118), E2 (p + 2) (by omega), bs, E2 (p + 4) (by omega), bs, E2 (p + 6) (by omega), bs, z0]
    exact cMG hc hw (by omega) (by omega) (by omega) (by omega)
  · have u := r7 c
    rw [c, if_neg (show ¬ iI 121 = 100 by decide), if_neg (show ¬ iI 121 = 103 by decide), if_neg (show ¬ iI 121 = 104 by decide), if_neg (show ¬ iI 121 = 115 by decide), if_neg (show ¬ iI 121 = 116 by decide), if_neg (show ¬ iI 121 = 118 by decide), if_pos (show iI 121 = 121 from rfl), if_neg (show ¬ (121 : Int) = 100 by decide), if_neg (show ¬ (121 : Int) = 103 by decide), if_neg (show ¬ (121 : Int) = 104 by decide), if_neg (show ¬ (121 : Int) = 115 by decide), if_neg (show ¬ (121 : Int) = 116 by decide), if_neg (show ¬ (121 : Int) = 118 by decide), E2 (p + 1) (by omega), bs, z0]
    have e := cNo (z := nv (ltr L n) 2 (p + 1)) (by omega) (by omega)
    by_cases d : nv (ltr L n) 2 (p + 1) ≤ 11
    · rw [if_pos d]
      refine CTo.y (S' := up S 39 1 (iI (nv (ltr L n) 2 (p + 1)))) ?_ (fun i k hi => up_n (Or.inl (show i ≠ 39 by omega))) (hc.st0 (by omega) _)
      simp (disch := omega) only [li_0, li_1, li_2, li_3, li_4, li_5, li_6, li_7, li_8, li_9, li_10, li_11, li_12, li_16, li_19, li_20, li_28, li_48, li_57, li_59, li_60, li_96, li_97, li_99, li_100, li_102, li_103, li_104, li_112, li_115, li_116, li_118, li_119, li_121, li_124, li_132, li_255, li_256, li_1000, li_2000, li_1000000000, iI_add, iI_sub, iI_mul, iI_neg, iI_lt, iI_le, iI_eq, iI_clamp, iI_s, iI_m1, iI_div, bs, tn, tn4, tn12, tn20, tn124, tn28, itT, itF, if_pos, if_neg, f_X3_moveTo, e]
    · rw [if_neg d]
      refine CTo.n ?_
      simp (disch := omega) only [li_0, li_1, li_2, li_3, li_4, li_5, li_6, li_7, li_8, li_9, li_10, li_11, li_12, li_16, li_19, li_20, li_28, li_48, li_57, li_59, li_60, li_96, li_97, li_99, li_100, li_102, li_103, li_104, li_112, li_115, li_116, li_118, li_119, li_121, li_124, li_132, li_255, li_256, li_1000, li_2000, li_1000000000, iI_add, iI_sub, iI_mul, iI_neg, iI_lt, iI_le, iI_eq, iI_clamp, iI_s, iI_m1, iI_div, bs, tn, tn4, tn12, tn20, tn124, tn28, itT, itF, if_pos, if_neg, f_X3_moveTo, e]
end TT
