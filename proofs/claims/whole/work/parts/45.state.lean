-- ===== what may change without notice =====
def scr (q k : Nat) : Prop := (39 ≤ q ∧ q ≤ 59) ∨ (64 ≤ q ∧ q ≤ 72) ∨ q = 76 ∨ q = 78 ∨ (82 ≤ q ∧ q ≤ 84) ∨ (q = 74 ∧ (k = 10 ∨ k = 12 ∨ k = 15)) ∨ (q = 0 ∧ k = 12)
def Sm (S S' : St) : Prop := ∀ q k, ¬ scr q k → S'.1 q k = S.1 q k
theorem Sm.refl (S : St) : Sm S S := fun _ _ _ => rfl
theorem Sm.trans {S S' S'' : St} (h : Sm S S') (h' : Sm S' S'') : Sm S S'' := fun q k hs => (h' q k hs).trans (h q k hs)
theorem Sm.up {S S' : St} {q k : Nat} {x : Int32} (h : Sm S S') (hs : scr q k) : Sm S (up S' q k x) := by
  intro i j hn
  by_cases e : i = q ∧ j = k
  · exact absurd hs (by rw [← e.1, ← e.2]; exact hn)
  · show (if i = q ∧ j = k then x else S'.1 i j) = S.1 i j
    rw [if_neg e]
    exact h i j hn
theorem Sm.upL {S S' : St} {k : Nat} {x : Int64} (h : Sm S S') : Sm S (upL S' k x) := h
theorem RC.sm {S S' : St} {q : Nat} {a : Nat → Int} (h : RC S q a) (hs : Sm S S') (hq : q = 1 ∨ q = 20) : RC S' q a := by
  refine ⟨fun k hk => ?_, fun j hj => ?_, fun j hj hl => ⟨?_, ?_, ?_, fun y hy => ?_⟩⟩
  · rw [hs q k (by unfold scr; omega)]; exact h.1 k hk
  · rw [hs (q + 2) j (by unfold scr; omega)]; exact h.2.1 j hj
  · rw [hs _ _ (by unfold scr; omega)]; exact (h.2.2 j hj hl).1
  · rw [hs _ _ (by unfold scr; omega)]; exact (h.2.2 j hj hl).2.1
  · rw [hs _ _ (by unfold scr; omega)]; exact (h.2.2 j hj hl).2.2.1
  · rw [hs _ _ (by unfold scr; omega)]; exact (h.2.2 j hj hl).2.2.2 y hy
theorem RM.sm {S S' : St} {q : Nat} {a : Nat → Int} (h : RM S q a) (hs : Sm S S') (hq : q = 75 ∨ q = 77) : RM S' q a := by
  intro k hk
  rw [hs q k (by unfold scr; omega)]
  exact h k hk
theorem Inv.sm {S S' : St} (h : Inv S) (hs : Sm S S') : Inv S' := by
  obtain ⟨⟨a, hw, hc, hm⟩, ⟨n, t1, t2, t3, t4⟩, ⟨m, r1, r2, r3, r4⟩, hn, hi, hi2⟩ := h
  refine ⟨⟨a, hw, hc.sm hs (Or.inl rfl), hm.sm hs (Or.inl rfl)⟩, ⟨n, t1, ?_, ?_, fun k hk => ?_⟩, ⟨m, r1, ?_, ?_, fun k hk => ?_⟩, fun k hk => ?_, ?_, ?_⟩
  · rw [hs _ _ (by unfold scr; omega)]; exact t2
  · rw [hs _ _ (by unfold scr; omega)]; exact t3
  · rw [hs _ _ (by unfold scr; omega), hs _ _ (by unfold scr; omega)]; exact t4 k hk
  · rw [hs _ _ (by unfold scr; omega)]; exact r2
  · rw [hs _ _ (by unfold scr; omega)]; exact r3
  · rw [hs _ _ (by unfold scr; omega), hs _ _ (by unfold scr; omega)]; exact r4 k hk
  · rw [hs _ _ (by unfold scr; omega), hs _ _ (by unfold scr; omega)]; exact hn k hk
  · rw [hs _ _ (by unfold scr; omega), hs _ _ (by unfold scr; omega)]; exact hi
  · rw [hs _ _ (by unfold scr; omega)]
    rcases hi2 with hi2 | ⟨hi2, b, hb, hbc, hbm⟩
    · exact Or.inl hi2
    · exact Or.inr ⟨hi2, b, hb, hbc.sm hs (Or.inr rfl), hbm.sm hs (Or.inr rfl)⟩
theorem Both.sm {S S' : St} (h : Both S 1 75) (hs : Sm S S') : Both S' 1 75 := by
  obtain ⟨a, hw, hc, hm⟩ := h
  exact ⟨a, hw, hc.sm hs (Or.inl rfl), hm.sm hs (Or.inl rfl)⟩
-- ===== the row of whole numbers, one place told anew =====
def st (a : Nat → Int) (k : Nat) (v : Int) : Nat → Int := fun i => if i = k then v else a i
theorem st_s (a : Nat → Int) (k : Nat) (v : Int) : st a k v k = v := if_pos rfl
theorem st_n {a : Nat → Int} {k : Nat} {v : Int} {i : Nat} (h : i ≠ k) : st a k v i = a i := if_neg h
section UPS
variable {S : St} {q : Nat} {a : Nat → Int}
theorem RM.st (h : RM S q a) (i : Nat) (v : Int) : RM (up S q i (iI v)) q (st a i v) := by
  intro k hk
  by_cases e : k = i
  · subst e
    rw [st_s]
    show (if q = q ∧ k = k then iI v else S.1 q k) = iI v
    rw [if_pos ⟨rfl, rfl⟩]
  · rw [st_n e]
    show (if q = q ∧ k = i then iI v else S.1 q k) = iI (a k)
    rw [if_neg (fun z => e z.2)]
    exact h k hk
theorem RM.ne (h : RM S q a) {i k : Nat} {x : Int32} (hi : i ≠ q) : RM (up S i k x) q a := by
  intro j hj
  rw [up_ne (fun e => hi e.symm)]
  exact h j hj
theorem RC.ne (h : RC S q a) {i k : Nat} {x : Int32} (hi : i < q ∨ q + 18 < i ∨ (i = q ∧ 4 ≤ k)) : RC (up S i k x) q a := by
  refine ⟨fun c hc => ?_, fun j hj => ?_, fun j hj hl => ⟨?_, ?_, ?_, fun y hy => ?_⟩⟩
  · show (if q = i ∧ c = k then x else S.1 q c) = _
    rw [if_neg (by omega)]; exact h.1 c hc
  · show (if q + 2 = i ∧ j = k then x else S.1 (q + 2) j) = _
    rw [if_neg (by omega)]; exact h.2.1 j hj
  · show (if q + 1 + 2 + 2 * j = i ∧ 0 = k then x else S.1 (q + 1 + 2 + 2 * j) 0) = _
    rw [if_neg (by omega)]; exact (h.2.2 j hj hl).1
  · show (if q + 1 + 2 + 2 * j = i ∧ 1 = k then x else S.1 (q + 1 + 2 + 2 * j) 1) = _
    rw [if_neg (by omega)]; exact (h.2.2 j hj hl).2.1
  · show (if q + 1 + 2 + 2 * j = i ∧ 2 = k then x else S.1 (q + 1 + 2 + 2 * j) 2) = _
    rw [if_neg (by omega)]; exact (h.2.2 j hj hl).2.2.1
  · show (if q + 1 + 2 + 2 * j + 1 = i ∧ y = k then x else S.1 (q + 1 + 2 + 2 * j + 1) y) = _
    rw [if_neg (by omega)]; exact (h.2.2 j hj hl).2.2.2 y hy
theorem RC.st0 (h : RC S q a) {i : Nat} (hi : 0 < i ∧ i < 4) (v : Int) : RC (up S q i (iI v)) q (st a i v) := by
  refine ⟨fun c hc => ?_, fun j hj => ?_, fun j hj hl => ?_⟩
  · show (if q = q ∧ c = i then iI v else S.1 q c) = iI (if c = i then v else a c)
    by_cases e : c = i
    · rw [if_pos ⟨rfl, e⟩, if_pos e]
    · rw [if_neg (fun z => e z.2), if_neg e]; exact h.1 c hc
  · show (if q + 2 = q ∧ j = i then iI v else S.1 (q + 2) j) = iI (if 124 + j = i then v else a (124 + j))
    rw [if_neg (by omega), if_neg (by omega)]; exact h.2.1 j hj
  · rw [st_n (by omega)] at hl
    have g := h.2.2 j hj hl
    refine ⟨?_, ?_, ?_, fun y hy => ?_⟩
    · rw [up_ne (by omega), st_n (by omega)]; exact g.1
    · rw [up_ne (by omega), st_n (by omega)]; exact g.2.1
    · rw [up_ne (by omega), st_n (by omega)]; exact g.2.2.1
    · rw [up_ne (by omega), st_n (by omega)]; exact g.2.2.2 y hy
theorem RC.sth (h : RC S q a) {i : Nat} (hi : i < 8) (v : Int) : RC (up S (q + 2) i (iI v)) q (st a (124 + i) v) := by
  refine ⟨fun c hc => ?_, fun j hj => ?_, fun j hj hl => ?_⟩
  · rw [up_ne (by omega), st_n (by omega)]; exact h.1 c hc
  · show (if q + 2 = q + 2 ∧ j = i then iI v else S.1 (q + 2) j) = iI (if 124 + j = 124 + i then v else a (124 + j))
    by_cases e : j = i
    · rw [if_pos ⟨rfl, e⟩, if_pos (by omega)]
    · rw [if_neg (fun z => e z.2), if_neg (by omega)]; exact h.2.1 j hj
  · rw [st_n (by omega)] at hl
    have g := h.2.2 j hj hl
    refine ⟨?_, ?_, ?_, fun y hy => ?_⟩
    · rw [up_ne (by omega), st_n (by omega)]; exact g.1
    · rw [up_ne (by omega), st_n (by omega)]; exact g.2.1
    · rw [up_ne (by omega), st_n (by omega)]; exact g.2.2.1
    · rw [up_ne (by omega), st_n (by omega)]; exact g.2.2.2 y hy
theorem RC.stt (h : RC S q a) {i c : Nat} (hi : i < 8) (hc : c < 3) (v : Int) : RC (up S (q + 1 + 2 + 2 * i) c (iI v)) q (st a (4 + 8 * c + i) v) := by
  refine ⟨fun c hc => ?_, fun j hj => ?_, fun j hj hl => ?_⟩
  · rw [up_ne (by omega), st_n (by omega)]; exact h.1 c hc
  · rw [up_ne (by omega), st_n (by omega)]; exact h.2.1 j hj
  · rw [st_n (by omega)] at hl
    have g := h.2.2 j hj hl
    refine ⟨?_, ?_, ?_, fun y hy => ?_⟩
    · show (if q + 1 + 2 + 2 * j = q + 1 + 2 + 2 * i ∧ 0 = c then iI v else S.1 (q + 1 + 2 + 2 * j) 0) = iI (if 4 + j = 4 + 8 * c + i then v else a (4 + j))
      by_cases e : j = i ∧ c = 0
      · rw [if_pos (by omega), if_pos (by omega)]
      · rw [if_neg (by omega), if_neg (by omega)]; exact g.1
    · show (if q + 1 + 2 + 2 * j = q + 1 + 2 + 2 * i ∧ 1 = c then iI v else S.1 (q + 1 + 2 + 2 * j) 1) = iI (if 12 + j = 4 + 8 * c + i then v else a (12 + j))
      by_cases e : j = i ∧ c = 1
      · rw [if_pos (by omega), if_pos (by omega)]
      · rw [if_neg (by omega), if_neg (by omega)]; exact g.2.1
    · show (if q + 1 + 2 + 2 * j = q + 1 + 2 + 2 * i ∧ 2 = c then iI v else S.1 (q + 1 + 2 + 2 * j) 2) = iI (if 20 + j = 4 + 8 * c + i then v else a (20 + j))
      by_cases e : j = i ∧ c = 2
      · rw [if_pos (by omega), if_pos (by omega)]
      · rw [if_neg (by omega), if_neg (by omega)]; exact g.2.2.1
    · rw [up_ne (by omega), st_n (by omega)]; exact g.2.2.2 y hy
theorem RC.stg (h : RC S q a) {i c : Nat} (hi : i < 8) (hc : c < 12) (v : Int) : RC (up S (q + 1 + 2 + 2 * i + 1) c (iI v)) q (st a (28 + 12 * i + c) v) := by
  refine ⟨fun c hc => ?_, fun j hj => ?_, fun j hj hl => ?_⟩
  · rw [up_ne (by omega), st_n (by omega)]; exact h.1 c hc
  · rw [up_ne (by omega), st_n (by omega)]; exact h.2.1 j hj
  · rw [st_n (by omega)] at hl
    have g := h.2.2 j hj hl
    refine ⟨?_, ?_, ?_, fun y hy => ?_⟩
    · rw [up_ne (by omega), st_n (by omega)]; exact g.1
    · rw [up_ne (by omega), st_n (by omega)]; exact g.2.1
    · rw [up_ne (by omega), st_n (by omega)]; exact g.2.2.1
    · show (if q + 1 + 2 + 2 * j + 1 = q + 1 + 2 + 2 * i + 1 ∧ y = c then iI v else S.1 (q + 1 + 2 + 2 * j + 1) y) = iI (if 28 + 12 * j + y = 28 + 12 * i + c then v else a (28 + 12 * j + y))
      by_cases e : j = i ∧ y = c
      · rw [if_pos (by omega), if_pos (by omega)]
      · rw [if_neg (by omega), if_neg (by omega)]; exact g.2.2.2 y hy
end UPS
-- ===== the row stays well formed =====
section WFS
variable {a : Nat → Int}
theorem WFa.st0 (h : WFa a) {i : Nat} {v : Int} (hi : (i = 1 ∧ 0 ≤ v ∧ v ≤ 11) ∨ (i = 2 ∧ 0 ≤ v ∧ v ≤ 99) ∨ (i = 3 ∧ 1 ≤ v ∧ v ≤ 4)) : WFa (st a i v) := by
  obtain ⟨h0, h1, h2, h3, h4, h5⟩ := h
  refine ⟨?_, ?_, ?_, ?_, fun j hj => ⟨?_, ?_, ?_, fun y hy => ?_, ?_⟩, fun k j hk hj hb => ?_⟩
  · rw [st_n (by omega)]; exact h0
  · by_cases e : i = 1
    · subst e; rw [st_s]; omega
    · rw [st_n (by omega)]; exact h1
  · by_cases e : i = 2
    · subst e; rw [st_s]; omega
    · rw [st_n (by omega)]; exact h2
  · by_cases e : i = 3
    · subst e; rw [st_s]; omega
    · rw [st_n (by omega)]; exact h3
  · rw [st_n (by omega)]; exact (h4 j hj).1
  · rw [st_n (by omega)]; exact (h4 j hj).2.1
  · rw [st_n (by omega)]; exact (h4 j hj).2.2.1
  · rw [st_n (by omega)]; exact (h4 j hj).2.2.2.1 y hy
  · rw [st_n (by omega)]; exact (h4 j hj).2.2.2.2
  · rw [st_n (by omega)] at hb
    rw [st_n (by omega), st_n (by omega)]
    exact h5 k j hk hj hb
theorem WFa.stt (h : WFa a) {i c : Nat} {v : Int} (hi : i < 8) (hc : (c = 0 ∧ 0 ≤ v ∧ v ≤ 5) ∨ (c = 1 ∧ 0 ≤ v ∧ v ≤ 9) ∨ (c = 2 ∧ (v = -9 ∨ (0 ≤ v ∧ v ≤ 11)))) : WFa (st a (4 + 8 * c + i) v) := by
  obtain ⟨h0, h1, h2, h3, h4, h5⟩ := h
  refine ⟨?_, ?_, ?_, ?_, fun j hj => ⟨?_, ?_, ?_, fun y hy => ?_, ?_⟩, fun k j hk hj hb => ?_⟩
  · rw [st_n (by omega)]; exact h0
  · rw [st_n (by omega)]; exact h1
  · rw [st_n (by omega)]; exact h2
  · rw [st_n (by omega)]; exact h3
  · show 0 ≤ (if 4 + j = 4 + 8 * c + i then v else a (4 + j)) ∧ (if 4 + j = 4 + 8 * c + i then v else a (4 + j)) ≤ 5
    have := (h4 j hj).1
    split <;> omega
  · show 0 ≤ (if 12 + j = 4 + 8 * c + i then v else a (12 + j)) ∧ (if 12 + j = 4 + 8 * c + i then v else a (12 + j)) ≤ 9
    have := (h4 j hj).2.1
    split <;> omega
  · show (if 20 + j = 4 + 8 * c + i then v else a (20 + j)) = -9 ∨ (0 ≤ (if 20 + j = 4 + 8 * c + i then v else a (20 + j)) ∧ (if 20 + j = 4 + 8 * c + i then v else a (20 + j)) ≤ 11)
    have := (h4 j hj).2.2.1
    split <;> omega
  · rw [st_n (by omega)]; exact (h4 j hj).2.2.2.1 y hy
  · rw [st_n (by omega)]; exact (h4 j hj).2.2.2.2
  · rw [st_n (by omega)] at hb
    rw [st_n (by omega), st_n (by omega)]
    exact h5 k j hk hj hb
theorem WFa.stg (h : WFa a) {i c : Nat} {v : Int} (hi : i < 8) (hc : c < 12) (hv : 0 ≤ v ∧ v ≤ 99) : WFa (st a (28 + 12 * i + c) v) := by
  obtain ⟨h0, h1, h2, h3, h4, h5⟩ := h
  refine ⟨?_, ?_, ?_, ?_, fun j hj => ⟨?_, ?_, ?_, fun y hy => ?_, ?_⟩, fun k j hk hj hb => ?_⟩
  · rw [st_n (by omega)]; exact h0
  · rw [st_n (by omega)]; exact h1
  · rw [st_n (by omega)]; exact h2
  · rw [st_n (by omega)]; exact h3
  · rw [st_n (by omega)]; exact (h4 j hj).1
  · rw [st_n (by omega)]; exact (h4 j hj).2.1
  · rw [st_n (by omega)]; exact (h4 j hj).2.2.1
  · show 0 ≤ (if 28 + 12 * j + y = 28 + 12 * i + c then v else a (28 + 12 * j + y)) ∧ (if 28 + 12 * j + y = 28 + 12 * i + c then v else a (28 + 12 * j + y)) ≤ 99
    have := (h4 j hj).2.2.2.1 y hy
    split <;> omega
  · rw [st_n (by omega)]; exact (h4 j hj).2.2.2.2
  · rw [st_n (by omega)] at hb
    rw [st_n (by omega), st_n (by omega)]
    exact h5 k j hk hj hb
end WFS
-- ===== laying a row over another =====
theorem rLaysL {q0 q1 : Nat} (hq : q0 ≠ q1) {S : St} {k : St → Option St} : ∀ d n x (S' : St), x + d = 132 → d < n → (∀ i j, i ≠ q1 → S'.1 i j = S.1 i j) → (∀ j, j < x → S'.1 q1 j = S.1 q0 j) →
    ∃ S'', (∀ i j, i ≠ q1 → S''.1 i j = S.1 i j) ∧ (∀ j, j < 132 → S''.1 q1 j = S.1 q0 j) ∧ S''.2 = S'.2 ∧ f_X8_lays_L2 n q0 q1 (iI (x : Nat)) S' k = k S'' := by
  intro d
  induction d with
  | zero =>
    intro n x S' hx hd h1 h2
    obtain ⟨n, rfl⟩ : ∃ p, n = p + 1 := ⟨n - 1, by omega⟩
    obtain rfl : x = 132 := by omega
    refine ⟨S', h1, h2, rfl, ?_⟩
    rw [f_X8_lays_L2]
    simp (disch := omega) only [li_0, li_1, li_2, li_3, li_4, li_5, li_6, li_7, li_8, li_9, li_10, li_11, li_12, li_16, li_19, li_20, li_28, li_48, li_57, li_59, li_60, li_96, li_97, li_99, li_100, li_102, li_103, li_104, li_112, li_115, li_116, li_118, li_119, li_121, li_124, li_132, li_255, li_256, li_1000, li_2000, li_1000000000, iI_add, iI_sub, iI_mul, iI_neg, iI_lt, iI_le, iI_eq, iI_clamp, iI_s, iI_m1, iI_div, bs, tn, tn4, tn12, tn20, tn124, tn28, itT, itF, if_pos, if_neg]
  | succ d ih =>
    intro n x S' hx hd h1 h2
    obtain ⟨n, rfl⟩ : ∃ p, n = p + 1 := ⟨n - 1, by omega⟩
    obtain ⟨S'', g1, g2, g3, g4⟩ := ih n (x + 1) (up S' q1 x (S'.1 q0 x)) (by omega) (by omega) (fun i j hi => by rw [up_ne hi]; exact h1 i j hi) (fun j hj => by
      show (if q1 = q1 ∧ j = x then S'.1 q0 x else S'.1 q1 j) = S.1 q0 j
      by_cases e : j = x
      · rw [if_pos ⟨rfl, e⟩, h1 _ _ hq, e]
      · rw [if_neg (fun z => e z.2)]; exact h2 j (by omega))
    refine ⟨S'', g1, g2, g3, ?_⟩
    rw [f_X8_lays_L2]
    simp (disch := omega) only [li_0, li_1, li_2, li_3, li_4, li_5, li_6, li_7, li_8, li_9, li_10, li_11, li_12, li_16, li_19, li_20, li_28, li_48, li_57, li_59, li_60, li_96, li_97, li_99, li_100, li_102, li_103, li_104, li_112, li_115, li_116, li_118, li_119, li_121, li_124, li_132, li_255, li_256, li_1000, li_2000, li_1000000000, iI_add, iI_sub, iI_mul, iI_neg, iI_lt, iI_le, iI_eq, iI_clamp, iI_s, iI_m1, iI_div, bs, tn, tn4, tn12, tn20, tn124, tn28, itT, itF, if_pos, if_neg, g4]
theorem rLays {q0 q1 : Nat} (hq : q0 ≠ q1) (S : St) : ∃ S'', f_X8_lays q0 q1 S = some S'' ∧ (∀ i j, i ≠ q1 → S''.1 i j = S.1 i j) ∧ (∀ j, j < 132 → S''.1 q1 j = S.1 q0 j) := by
  obtain ⟨S'', g1, g2, _, g4⟩ := rLaysL hq (S := S) (k := fun s => some s) 132 2000 0 S (by omega) (by omega) (fun _ _ _ => rfl) (fun j hj => absurd hj (by omega))
  exact ⟨S'', by rw [f_X8_lays]; exact g4, g1, g2⟩
def cpP (q0 q1 : Nat) (S : St) (x : Nat) (S' : St) : Prop := (∀ i j, (i < q0 ∨ q0 + 18 < i) → S'.1 i j = S.1 i j) ∧ (∀ k, k < 4 → S'.1 q0 k = S.1 q1 k) ∧ (∀ j, j < x → S'.1 (q0 + 2) j = S.1 (q1 + 2) j) ∧
  (∀ j k, j < x → k < 3 → S'.1 (q0 + 1 + 2 + 2 * j) k = S.1 (q1 + 1 + 2 + 2 * j) k) ∧ (∀ j k, j < x → k < 12 → S'.1 (q0 + 1 + 2 + 2 * j + 1) k = S.1 (q1 + 1 + 2 + 2 * j + 1) k)
theorem cCopyT {q0 q1 : Nat} (hq : q0 ≠ q1) (hq1 : q0 ≠ q1 + 1) (hq2 : q0 + 1 ≠ q1) (S : St) : ∃ S', f_X6_copyFrom q0 q1 S = some S' ∧ (∀ i j, i ≠ q0 → i ≠ q0 + 1 → S'.1 i j = S.1 i j) ∧ (∀ k, k < 3 → S'.1 q0 k = S.1 q1 k) ∧ (∀ k, k < 12 → S'.1 (q0 + 1) k = S.1 (q1 + 1) k) := by
  refine ⟨_, by rw [f_X6_copyFrom, if_neg (by omega)], fun i j h1 h2 => ?_, fun k hk => ?_, fun k hk => ?_⟩
  · rw [upc_ne h2, up_ne h1, up_ne h1, up_ne h1]
  · rw [upc_ne (by omega)]
    simp only [up]
    obtain rfl | rfl | rfl : k = 0 ∨ k = 1 ∨ k = 2 := by omega
    · simp (disch := omega) only [and_self, itT, itF, if_pos, if_neg]
    · simp (disch := omega) only [and_self, itT, itF, if_pos, if_neg]
    · simp (disch := omega) only [and_self, itT, itF, if_pos, if_neg]
  · rw [upc_row]
    simp only [va_cpy]
    have e : 0 + (k - 0) = k := by omega
    rw [if_pos (show 0 ≤ k ∧ k < 0 + 12 from ⟨by omega, by omega⟩), e, up_ne (by omega), up_ne (by omega), up_ne (by omega)]
theorem cCopyL {q0 q1 : Nat} (hq : q0 + 19 ≤ q1 ∨ q1 + 19 ≤ q0) {S : St} {k : St → Option St} : ∀ d n x (S' : St), x + d = 8 → d < n → cpP q0 q1 S x S' →
    ∃ S'', cpP q0 q1 S 8 S'' ∧ f_X3_copyFrom_L34 n q0 q1 (iI (x : Nat)) S' k = k S'' := by
  intro d
  induction d with
  | zero =>
    intro n x S' hx hd h1
    obtain ⟨n, rfl⟩ : ∃ p, n = p + 1 := ⟨n - 1, by omega⟩
    obtain rfl : x = 8 := by omega
    refine ⟨S', h1, ?_⟩
    rw [f_X3_copyFrom_L34]
    simp (disch := omega) only [li_0, li_1, li_2, li_3, li_4, li_5, li_6, li_7, li_8, li_9, li_10, li_11, li_12, li_16, li_19, li_20, li_28, li_48, li_57, li_59, li_60, li_96, li_97, li_99, li_100, li_102, li_103, li_104, li_112, li_115, li_116, li_118, li_119, li_121, li_124, li_132, li_255, li_256, li_1000, li_2000, li_1000000000, iI_add, iI_sub, iI_mul, iI_neg, iI_lt, iI_le, iI_eq, iI_clamp, iI_s, iI_m1, iI_div, bs, tn, tn4, tn12, tn20, tn124, tn28, itT, itF, if_pos, if_neg]
  | succ d ih =>
    intro n x S' hx hd h1
    obtain ⟨p1, p2, p3, p4, p5⟩ := h1
    obtain ⟨n, rfl⟩ : ∃ p, n = p + 1 := ⟨n - 1, by omega⟩
    obtain ⟨S4, c1, c2, c3, c4⟩ := cCopyT (q0 := q0 + 1 + 2 + 2 * x) (q1 := q1 + 1 + 2 + 2 * x) (by omega) (by omega) (by omega) S'
    obtain ⟨S'', g1, g4⟩ := ih n (x + 1) (up S4 (q0 + 2) x (S4.1 (q1 + 2) x)) (by omega) (by omega) (by
      refine ⟨fun i j hi => ?_, fun k hk => ?_, fun j hj => ?_, fun j k hj hk => ?_, fun j k hj hk => ?_⟩
      · rw [up_ne (by omega), c2 _ _ (by omega) (by omega)]; exact p1 i j hi
      · rw [up_ne (by omega), c2 _ _ (by omega) (by omega)]; exact p2 k hk
      · show (if q0 + 2 = q0 + 2 ∧ j = x then S4.1 (q1 + 2) x else S4.1 (q0 + 2) j) = S.1 (q1 + 2) j
        by_cases e : j = x
        · rw [if_pos ⟨rfl, e⟩, c2 _ _ (by omega) (by omega), p1 _ _ (by omega), e]
        · rw [if_neg (fun z => e z.2), c2 _ _ (by omega) (by omega)]; exact p3 j (by omega)
      · rw [up_ne (by omega)]
        by_cases e : j = x
        · subst e
          rw [c3 k hk, p1 _ _ (by omega)]
        · rw [c2 _ _ (by omega) (by omega)]; exact p4 j k (by omega) hk
      · rw [up_ne (by omega)]
        by_cases e : j = x
        · subst e
          rw [c4 k hk, p1 _ _ (by omega)]
        · rw [c2 _ _ (by omega) (by omega)]; exact p5 j k (by omega) hk)
    refine ⟨S'', g1, ?_⟩
    rw [f_X3_copyFrom_L34]
    simp (disch := omega) only [li_0, li_1, li_2, li_3, li_4, li_5, li_6, li_7, li_8, li_9, li_10, li_11, li_12, li_16, li_19, li_20, li_28, li_48, li_57, li_59, li_60, li_96, li_97, li_99, li_100, li_102, li_103, li_104, li_112, li_115, li_116, li_118, li_119, li_121, li_124, li_132, li_255, li_256, li_1000, li_2000, li_1000000000, iI_add, iI_sub, iI_mul, iI_neg, iI_lt, iI_le, iI_eq, iI_clamp, iI_s, iI_m1, iI_div, bs, tn, tn4, tn12, tn20, tn124, tn28, itT, itF, if_pos, if_neg, c1, g4]
theorem cCopy {q0 q1 : Nat} (hq : q0 + 19 ≤ q1 ∨ q1 + 19 ≤ q0) (S : St) : ∃ S', f_X3_copyFrom q0 q1 S = some S' ∧ (∀ i j, (i < q0 ∨ q0 + 18 < i) → S'.1 i j = S.1 i j) ∧ ∀ a, RC S q1 a → RC S' q0 a := by
  have hup : ∀ (T : St) (k : Nat) (x : Int32) (i j : Nat), ¬ (i = q0 ∧ j = k) → (up T q0 k x).1 i j = T.1 i j := fun T k x i j h => if_neg h
  have hup2 : ∀ (T : St) (k : Nat) (x : Int32), (up T q0 k x).1 q0 k = x := fun T k x => if_pos ⟨rfl, rfl⟩
  obtain ⟨S', ⟨p1, p2, p3, p4, p5⟩, g⟩ := cCopyL hq (S := S) (k := fun s => some s) 8 2000 0 (up (up (up (up S q0 0 (S.1 q1 0)) q0 1 ((up S q0 0 (S.1 q1 0)).1 q1 1)) q0 2 ((up (up S q0 0 (S.1 q1 0)) q0 1 ((up S q0 0 (S.1 q1 0)).1 q1 1)).1 q1 2)) q0 3 ((up (up (up S q0 0 (S.1 q1 0)) q0 1 ((up S q0 0 (S.1 q1 0)).1 q1 1)) q0 2 ((up (up S q0 0 (S.1 q1 0)) q0 1 ((up S q0 0 (S.1 q1 0)).1 q1 1)).1 q1 2)).1 q1 3)) (by omega) (by omega) (by
      refine ⟨fun i j hi => ?_, fun k hk => ?_, fun j hj => absurd hj (by omega), fun j k hj hk => absurd hj (by omega), fun j k hj hk => absurd hj (by omega)⟩
      · rw [up_ne (by omega), up_ne (by omega), up_ne (by omega), up_ne (by omega)]
      · obtain rfl | rfl | rfl | rfl : k = 0 ∨ k = 1 ∨ k = 2 ∨ k = 3 := by omega
        · rw [hup _ _ _ _ _ (by omega), hup _ _ _ _ _ (by omega), hup _ _ _ _ _ (by omega), hup2]
        · rw [hup _ _ _ _ _ (by omega), hup _ _ _ _ _ (by omega), hup2, up_ne (by omega)]
        · rw [hup _ _ _ _ _ (by omega), hup2, up_ne (by omega), up_ne (by omega)]
        · rw [hup2, up_ne (by omega), up_ne (by omega), up_ne (by omega)])
  refine ⟨S', by rw [f_X3_copyFrom]; exact g, p1, fun a h => ⟨fun k hk => ?_, fun j hj => ?_, fun j hj hl => ⟨?_, ?_, ?_, fun y hy => ?_⟩⟩⟩
  · rw [p2 k hk]; exact h.1 k hk
  · rw [p3 j hj]; exact h.2.1 j hj
  · rw [p4 j 0 hj (by omega)]; exact (h.2.2 j hj hl).1
  · rw [p4 j 1 hj (by omega)]; exact (h.2.2 j hj hl).2.1
  · rw [p4 j 2 hj (by omega)]; exact (h.2.2 j hj hl).2.2.1
  · rw [p5 j y hj hy]; exact (h.2.2 j hj hl).2.2.2 y hy
-- ===== refusals =====
theorem bse {α β : Type} (x : Option (α × β)) : (x.bind fun z => some (z.1, z.2)) = x := by cases x <;> rfl
theorem cRef {S : St} {v : Int} {c : Nat} (hc : 1 ≤ c ∧ c ≤ 6) (hv : v = -(c : Int)) : f_X7_refuse (iI v) S = some (iI v, up S 73 c (S.1 73 c + iI 1)) := by
  subst hv
  have e : (-(-(c : Int))).toNat = c := by omega
  simp (disch := omega) only [li_0, li_1, li_2, li_3, li_4, li_5, li_6, li_7, li_8, li_9, li_10, li_11, li_12, li_16, li_19, li_20, li_28, li_48, li_57, li_59, li_60, li_96, li_97, li_99, li_100, li_102, li_103, li_104, li_112, li_115, li_116, li_118, li_119, li_121, li_124, li_132, li_255, li_256, li_1000, li_2000, li_1000000000, iI_add, iI_sub, iI_mul, iI_neg, iI_lt, iI_le, iI_eq, iI_clamp, iI_s, iI_m1, iI_div, bs, tn, tn4, tn12, tn20, tn124, tn28, itT, itF, if_pos, if_neg, f_X7_refuse, e]
theorem rNo {S : St} {v : Int} {c : Nat} (hc : 1 ≤ c ∧ c ≤ 6) (hv : v = -(c : Int)) : f_X8_no (iI v) S = some (iI v, up S 81 c (S.1 81 c + iI 1)) := by
  subst hv
  have e : (-(-(c : Int))).toNat = c := by omega
  simp (disch := omega) only [li_0, li_1, li_2, li_3, li_4, li_5, li_6, li_7, li_8, li_9, li_10, li_11, li_12, li_16, li_19, li_20, li_28, li_48, li_57, li_59, li_60, li_96, li_97, li_99, li_100, li_102, li_103, li_104, li_112, li_115, li_116, li_118, li_119, li_121, li_124, li_132, li_255, li_256, li_1000, li_2000, li_1000000000, iI_add, iI_sub, iI_mul, iI_neg, iI_lt, iI_le, iI_eq, iI_clamp, iI_s, iI_m1, iI_div, bs, tn, tn4, tn12, tn20, tn124, tn28, itT, itF, if_pos, if_neg, f_X8_no, e]
theorem Inv.no {S : St} (h : Inv S) {c : Nat} (hc : 1 ≤ c ∧ c ≤ 6) : Inv (up (up S 73 c (S.1 73 c + iI 1)) 81 c ((up S 73 c (S.1 73 c + iI 1)).1 81 c + iI 1)) := by
  obtain ⟨⟨a, hw, hc, hm⟩, ⟨n, t1, t2, t3, t4⟩, ⟨m, r1, r2, r3, r4⟩, hn, hi, hi2⟩ := h
  refine ⟨⟨a, hw, (hc.ne (by omega)).ne (by omega), (hm.ne (by omega)).ne (by omega)⟩, ⟨n, t1, ?_, ?_, fun k hk => ?_⟩, ⟨m, r1, ?_, ?_, fun k hk => ?_⟩, fun k hk => ?_, ?_, ?_⟩
  · rw [up_ne (by omega), up_ne (by omega)]; exact t2
  · rw [up_ne (by omega), up_ne (by omega)]; exact t3
  · rw [up_ne (by omega), up_ne (by omega), up_ne (by omega), up_ne (by omega)]; exact t4 k hk
  · rw [up_ne (by omega), up_ne (by omega)]; exact r2
  · rw [up_ne (by omega), up_ne (by omega)]; exact r3
  · rw [up_ne (by omega), up_ne (by omega), up_ne (by omega), up_ne (by omega)]; exact r4 k hk
  · rw [up_ne (i := 81) (q := 73) (by omega), up_ne (i := 73) (q := 81) (by omega)]
    show (if 73 = 73 ∧ k = c then S.1 73 c + iI 1 else S.1 73 k) = (if 81 = 81 ∧ k = c then S.1 81 c + iI 1 else (up S 73 c (S.1 73 c + iI 1)).1 81 k)
    by_cases e : k = c
    · rw [if_pos ⟨rfl, e⟩, if_pos ⟨rfl, e⟩, ← e, hn k hk]
    · rw [if_neg (fun z => e z.2), if_neg (fun z => e z.2), up_ne (by omega)]; exact hn k hk
  · rw [up_ne (by omega), up_ne (by omega), up_ne (by omega), up_ne (by omega)]; exact hi
  · rw [up_ne (by omega), up_ne (by omega)]
    rcases hi2 with hi2 | ⟨hi2, b, hb, hbc, hbm⟩
    · exact Or.inl hi2
    · exact Or.inr ⟨hi2, b, hb, (hbc.ne (by omega)).ne (by omega), (hbm.ne (by omega)).ne (by omega)⟩
theorem e_mk {α : Type} {x1 : Option (α × St)} {g : St → Option (α × St)} {v : α} {S1 S2 : St} (h1 : x1 = some (v, S1)) (h2 : g S1 = some (v, S2)) (h3 : Inv S2) : ∃ z1 z2, x1 = some z1 ∧ g z1.2 = some z2 ∧ z1.1 = z2.1 ∧ Inv z2.2 := ⟨(v, S1), (v, S2), h1, h2, rfl, h3⟩
theorem e_no {S : St} (hS : Inv S) {x1 : Option (Int32 × St)} {g : St → Option (Int32 × St)} (v : Int) (c : Nat) (hc : 1 ≤ c ∧ c ≤ 6) (hv : v = -(c : Int)) (h1 : x1 = f_X7_refuse (iI v) S) (h2 : ∀ S1 : St, S1.1 75 = S.1 75 → S1.1 74 = S.1 74 → g S1 = f_X8_no (iI v) S1) : ∃ z1 z2, x1 = some z1 ∧ g z1.2 = some z2 ∧ z1.1 = z2.1 ∧ Inv z2.2 := by
  rw [cRef hc hv] at h1
  have h3 := h2 (up S 73 c (S.1 73 c + iI 1)) (up_ne (by omega)) (up_ne (by omega))
  rw [rNo hc hv] at h3
  exact e_mk h1 h3 (hS.no hc)
