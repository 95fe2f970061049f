-- ===== the queue =====
def pick (fr : Nat → Int) : Nat → Nat
  | 0 => 0
  | x + 1 => if fr (pick fr x) ≤ fr x then pick fr x else x
def setF (fr : Nat → Int) (p : Nat) (v : Int) : Nat → Int := fun i => if i = p then v else fr i
def qM (a : Nat → Int) (j now : Nat) : Int := sFw a j now (sGY a j now)
def sQ (a : Nat → Int) (now h : Nat) : Nat → (Nat → Int) × Int
  | 0 => (fun _ => 0, 0)
  | x + 1 => if a (20 + x) < 0 ∧ 0 ≤ qM a x now then
      (setF (sQ a now h x).1 (pick (sQ a now h x).1 h) ((sQ a now h x).1 (pick (sQ a now h x).1 h) + qM a x now),
        if (sQ a now h x).2 < (sQ a now h x).1 (pick (sQ a now h x).1 h) + qM a x now then (sQ a now h x).1 (pick (sQ a now h x).1 h) + qM a x now else (sQ a now h x).2)
    else sQ a now h x
def sQb (a : Nat → Int) (now h x : Nat) : Int := if a (20 + x) < 0 ∧ 0 ≤ qM a x now then (sQ a now h x).1 (pick (sQ a now h x).1 h) else -9
theorem pick_lt (fr : Nat → Int) : ∀ h, 0 < h → pick fr h < h := by
  intro h
  induction h with
  | zero => intro z; omega
  | succ h ih =>
    intro _
    rw [pick]
    by_cases c : h = 0
    · subst c
      show (if fr 0 ≤ fr 0 then 0 else 0) < 1
      split <;> omega
    · have := ih (by omega)
      split <;> omega
theorem qM_b (a : Nat → Int) (j now : Nat) : qM a j now = -9 ∨ (0 ≤ qM a j now ∧ qM a j now ≤ 95) := sFw_b _ _ _ _
theorem sQ_b (a : Nat → Int) (now h : Nat) : ∀ x, (∀ p, 0 ≤ (sQ a now h x).1 p ∧ (sQ a now h x).1 p ≤ 95 * (x : Int)) ∧ 0 ≤ (sQ a now h x).2 ∧ (sQ a now h x).2 ≤ 95 * (x : Int) := by
  intro x
  induction x with
  | zero => exact ⟨fun p => ⟨Int.le_refl _, Int.le_refl _⟩, Int.le_refl _, Int.le_refl _⟩
  | succ x ih =>
    have m := qM_b a x now
    have e : 95 * ((x + 1 : Nat) : Int) = 95 * (x : Int) + 95 := by omega
    have hp := ih.1 (pick (sQ a now h x).1 h)
    rw [sQ, e]
    by_cases c : a (20 + x) < 0 ∧ 0 ≤ qM a x now
    · rw [if_pos c]
      refine ⟨fun p => ?_, ?_⟩
      · have := ih.1 p
        show 0 ≤ (if p = pick (sQ a now h x).1 h then (sQ a now h x).1 (pick (sQ a now h x).1 h) + qM a x now else (sQ a now h x).1 p) ∧ (if p = pick (sQ a now h x).1 h then (sQ a now h x).1 (pick (sQ a now h x).1 h) + qM a x now else (sQ a now h x).1 p) ≤ _
        split <;> omega
      · show 0 ≤ (if (sQ a now h x).2 < (sQ a now h x).1 (pick (sQ a now h x).1 h) + qM a x now then (sQ a now h x).1 (pick (sQ a now h x).1 h) + qM a x now else (sQ a now h x).2) ∧ (if (sQ a now h x).2 < (sQ a now h x).1 (pick (sQ a now h x).1 h) + qM a x now then (sQ a now h x).1 (pick (sQ a now h x).1 h) + qM a x now else (sQ a now h x).2) ≤ _
        split <;> omega
    · rw [if_neg c]
      refine ⟨fun p => ?_, ?_⟩
      · have := ih.1 p; omega
      · omega
theorem cPick {S : St} {fr : Nat → Int} {h : Nat} (hh : h ≤ 4) (hf : ∀ p, p < 4 → S.1 69 p = iI (fr p)) (hb : ∀ p, 0 ≤ fr p ∧ fr p ≤ 99999) {a1 : Int32} {k : Int32 → Option (Int32 × St)} :
    ∀ d n x : Nat, 0 < x → x + d = h → d < n → f_X0_begin_L5 n a1 (iI h) (iI (pick fr x)) (iI x) S k = k (iI (pick fr h)) := by
  intro d
  induction d with
  | zero =>
    intro n x h0 hx hd
    obtain ⟨n, rfl⟩ : ∃ p, n = p + 1 := ⟨n - 1, by omega⟩
    obtain rfl : x = h := by omega
    rw [f_X0_begin_L5]
    simp (disch := omega) only [li_0, li_1, li_2, li_3, li_4, li_5, li_6, li_7, li_8, li_9, li_10, li_11, li_12, li_16, li_19, li_20, li_28, li_48, li_57, li_59, li_60, li_96, li_97, li_99, li_100, li_102, li_103, li_104, li_112, li_115, li_116, li_118, li_119, li_121, li_124, li_132, li_255, li_256, li_1000, li_2000, li_1000000000, iI_add, iI_sub, iI_mul, iI_neg, iI_lt, iI_le, iI_eq, iI_clamp, iI_s, iI_m1, iI_div, bs, tn, tn4, tn12, tn20, tn124, tn28, itT, itF, if_pos, if_neg]
  | succ d ih =>
    intro n x h0 hx hd
    obtain ⟨n, rfl⟩ : ∃ p, n = p + 1 := ⟨n - 1, by omega⟩
    have i1 := ih n (x + 1) (by omega) (by omega) (by omega)
    have pl := pick_lt fr x h0
    have e1 := hf x (by omega)
    have e2 := hf (pick fr x) (by omega)
    have b1 := hb x
    have b2 := hb (pick fr x)
    rw [pick] at i1
    rw [f_X0_begin_L5]
    by_cases c : fr (pick fr x) ≤ fr x
    · rw [if_pos c] at i1
      simp (disch := omega) only [li_0, li_1, li_2, li_3, li_4, li_5, li_6, li_7, li_8, li_9, li_10, li_11, li_12, li_16, li_19, li_20, li_28, li_48, li_57, li_59, li_60, li_96, li_97, li_99, li_100, li_102, li_103, li_104, li_112, li_115, li_116, li_118, li_119, li_121, li_124, li_132, li_255, li_256, li_1000, li_2000, li_1000000000, iI_add, iI_sub, iI_mul, iI_neg, iI_lt, iI_le, iI_eq, iI_clamp, iI_s, iI_m1, iI_div, bs, tn, tn4, tn12, tn20, tn124, tn28, itT, itF, if_pos, if_neg, e1, e2, i1]
    · rw [if_neg c] at i1
      simp (disch := omega) only [li_0, li_1, li_2, li_3, li_4, li_5, li_6, li_7, li_8, li_9, li_10, li_11, li_12, li_16, li_19, li_20, li_28, li_48, li_57, li_59, li_60, li_96, li_97, li_99, li_100, li_102, li_103, li_104, li_112, li_115, li_116, li_118, li_119, li_121, li_124, li_132, li_255, li_256, li_1000, li_2000, li_1000000000, iI_add, iI_sub, iI_mul, iI_neg, iI_lt, iI_le, iI_eq, iI_clamp, iI_s, iI_m1, iI_div, bs, tn, tn4, tn12, tn20, tn124, tn28, itT, itF, if_pos, if_neg, e1, e2, i1]
theorem cBegin {S : St} {fr : Nat → Int} {h : Nat} (hh : h ≤ 4) (h0 : 0 < h) (hf : ∀ p, p < 4 → S.1 69 p = iI (fr p)) (hb : ∀ p, 0 ≤ fr p ∧ fr p ≤ 9999) {m en : Int} (hm : 0 ≤ m ∧ m ≤ 99) (he : S.1 67 2 = iI en) (hen : 0 ≤ en ∧ en ≤ 9999) :
    f_X0_begin (iI m) (iI h) S = some (iI (fr (pick fr h)), up (up S 69 (pick fr h) (iI (fr (pick fr h) + m))) 67 2 (iI (if en < fr (pick fr h) + m then fr (pick fr h) + m else en))) := by
  have e1 : ∀ k, f_X0_begin_L5 2000 (iI m) (iI h) (iI 0) (iI 1) S k = k (iI (pick fr h)) := fun k => by
    have hp1 : pick fr 1 = 0 := by show (if fr 0 ≤ fr 0 then 0 else 0) = 0; split <;> rfl
    have i := cPick (S := S) hh hf (fun p => by have := hb p; omega) (a1 := iI m) (k := k) (h - 1) 2000 1 (by omega) (by omega) (by omega)
    rw [hp1] at i
    exact i
  have pl := pick_lt fr h h0
  have e2 := hf (pick fr h) (by omega)
  have b2 := hb (pick fr h)
  by_cases c : en < fr (pick fr h) + m
  · simp (disch := omega) only [li_0, li_1, li_2, li_3, li_4, li_5, li_6, li_7, li_8, li_9, li_10, li_11, li_12, li_16, li_19, li_20, li_28, li_48, li_57, li_59, li_60, li_96, li_97, li_99, li_100, li_102, li_103, li_104, li_112, li_115, li_116, li_118, li_119, li_121, li_124, li_132, li_255, li_256, li_1000, li_2000, li_1000000000, iI_add, iI_sub, iI_mul, iI_neg, iI_lt, iI_le, iI_eq, iI_clamp, iI_s, iI_m1, iI_div, bs, tn, tn4, tn12, tn20, tn124, tn28, itT, itF, if_pos, if_neg, up_s, up_n, f_X0_begin, e1, e2, he]
  · simp (disch := omega) only [li_0, li_1, li_2, li_3, li_4, li_5, li_6, li_7, li_8, li_9, li_10, li_11, li_12, li_16, li_19, li_20, li_28, li_48, li_57, li_59, li_60, li_96, li_97, li_99, li_100, li_102, li_103, li_104, li_112, li_115, li_116, li_118, li_119, li_121, li_124, li_132, li_255, li_256, li_1000, li_2000, li_1000000000, iI_add, iI_sub, iI_mul, iI_neg, iI_lt, iI_le, iI_eq, iI_clamp, iI_s, iI_m1, iI_div, bs, tn, tn4, tn12, tn20, tn124, tn28, itT, itF, if_pos, if_neg, up_s, up_n, f_X0_begin, e1, e2, he]
def QI (a : Nat → Int) (now h : Nat) (S : St) (x : Nat) (S' : St) : Prop := (∀ i k, ¬ (i = 67 ∨ i = 68 ∨ i = 69) → S'.1 i k = S.1 i k) ∧ (∀ p, p < 4 → S'.1 69 p = iI ((sQ a now h x).1 p)) ∧ S'.1 67 2 = iI (sQ a now h x).2 ∧ ∀ y, y < x → S'.1 68 y = iI (sQb a now h y)
theorem RC.frq {S S' : St} {a : Nat → Int} (h : RC S 1 a) (hs : ∀ i k, 1 ≤ i → i ≤ 19 → S'.1 i k = S.1 i k) : RC S' 1 a := by
  refine ⟨fun k hk => ?_, fun j hj => ?_, fun j hj hl => ⟨?_, ?_, ?_, fun y hy => ?_⟩⟩
  · rw [hs _ _ (by omega) (by omega)]; exact h.1 k hk
  · rw [hs _ _ (by omega) (by omega)]; exact h.2.1 j hj
  · rw [hs _ _ (by omega) (by omega)]; exact (h.2.2 j hj hl).1
  · rw [hs _ _ (by omega) (by omega)]; exact (h.2.2 j hj hl).2.1
  · rw [hs _ _ (by omega) (by omega)]; exact (h.2.2 j hj hl).2.2.1
  · rw [hs _ _ (by omega) (by omega)]; exact (h.2.2 j hj hl).2.2.2 y hy
theorem cQL {S : St} {a : Nat → Int} {now h N : Nat} (hc : RC S 1 a) (hw : WFa a) (hN : a 0 = N) (hn : now ≤ 11) (hnow : a 1 = now) (hh : a 3 = h) {k : St → Option St} :
    ∀ d n x : Nat, ∀ S', x + d = N → d < n → QI a now h S x S' → ∃ S'', QI a now h S N S'' ∧ f_X0_arrange_L27 n 1 (iI x) S' k = k S'' := by
  have h8 := hw.1
  have w3 := hw.2.2.2.1
  intro d
  induction d with
  | zero =>
    intro n x S' hx hd q
    obtain ⟨n, rfl⟩ : ∃ p, n = p + 1 := ⟨n - 1, by omega⟩
    obtain rfl : x = N := by omega
    have e0 : S'.1 1 0 = iI x := by rw [q.1 _ _ (by omega), hc.1 0 (by omega), hN]
    refine ⟨S', q, ?_⟩
    rw [f_X0_arrange_L27]
    simp (disch := omega) only [li_0, li_1, li_2, li_3, li_4, li_5, li_6, li_7, li_8, li_9, li_10, li_11, li_12, li_16, li_19, li_20, li_28, li_48, li_57, li_59, li_60, li_96, li_97, li_99, li_100, li_102, li_103, li_104, li_112, li_115, li_116, li_118, li_119, li_121, li_124, li_132, li_255, li_256, li_1000, li_2000, li_1000000000, iI_add, iI_sub, iI_mul, iI_neg, iI_lt, iI_le, iI_eq, iI_clamp, iI_s, iI_m1, iI_div, bs, tn, tn4, tn12, tn20, tn124, tn28, itT, itF, if_pos, if_neg, e0]
  | succ d ih =>
    intro n x S' hx hd q
    obtain ⟨n, rfl⟩ : ∃ p, n = p + 1 := ⟨n - 1, by omega⟩
    have hc' : RC S' 1 a := hc.frq (fun i k h1 h2 => q.1 i k (by omega))
    have e0 : S'.1 1 0 = iI N := by rw [hc'.1 0 (by omega), hN]
    have ep : S'.1 1 1 = iI now := by rw [hc'.1 1 (by omega), hnow]
    have eh : S'.1 1 3 = iI h := by rw [hc'.1 3 (by omega), hh]
    have ht := hc'.t (j := x) (by omega) (by omega)
    have hwt := hw.t (j := x) (by omega)
    have e1 := cAt (S := S') (q := 1) (j := x) (by omega)
    have e2 := cSet ht hwt
    have e3 := cGY ht hwt hn
    have yb := sGY_le a x now
    have e4 : f_X6_fewestFor (1 + 1 + 2 + 2 * x) (iI (sGY a x now)) (iI now) S' = some (iI (qM a x now)) := cFew ht hwt hn (by omega)
    have mb := qM_b a x now
    have bQ := sQ_b a now h x
    by_cases c1 : a (20 + x) < 0
    · by_cases c2 : qM a x now = -9
      · have eS : sQ a now h (x + 1) = sQ a now h x := if_neg (by omega)
        have eB : sQb a now h x = -9 := if_neg (by omega)
        obtain ⟨S'', g1, g2⟩ := ih n (x + 1) (up S' 68 x (iI (-9))) (by omega) (by omega) ⟨fun i k hi => by rw [up_ne (by omega)]; exact q.1 i k hi, fun p hp => by rw [up_ne (by omega), eS]; exact q.2.1 p hp, by rw [up_ne (by omega), eS]; exact q.2.2.1, fun y hy => by
          by_cases e : y = x
          · rw [e, up_s, eB]
          · rw [up_n (by omega)]; exact q.2.2.2 y (by omega)⟩
        refine ⟨S'', g1, ?_⟩
        rw [f_X0_arrange_L27]
        simp (disch := omega) only [li_0, li_1, li_2, li_3, li_4, li_5, li_6, li_7, li_8, li_9, li_10, li_11, li_12, li_16, li_19, li_20, li_28, li_48, li_57, li_59, li_60, li_96, li_97, li_99, li_100, li_102, li_103, li_104, li_112, li_115, li_116, li_118, li_119, li_121, li_124, li_132, li_255, li_256, li_1000, li_2000, li_1000000000, iI_add, iI_sub, iI_mul, iI_neg, iI_lt, iI_le, iI_eq, iI_clamp, iI_s, iI_m1, iI_div, bs, tn, tn4, tn12, tn20, tn124, tn28, itT, itF, if_pos, if_neg, e0, e1, e2, ep, e3, e4, g2]
      · have e5 := cBegin (S := S') (fr := (sQ a now h x).1) (h := h) (m := qM a x now) (en := (sQ a now h x).2) (by omega) (by omega) q.2.1 (fun p => by have := bQ.1 p; omega) (by omega) q.2.2.1 (by omega)
        have eS : sQ a now h (x + 1) = (setF (sQ a now h x).1 (pick (sQ a now h x).1 h) ((sQ a now h x).1 (pick (sQ a now h x).1 h) + qM a x now),
          if (sQ a now h x).2 < (sQ a now h x).1 (pick (sQ a now h x).1 h) + qM a x now then (sQ a now h x).1 (pick (sQ a now h x).1 h) + qM a x now else (sQ a now h x).2) := if_pos (by omega)
        have eB : sQb a now h x = (sQ a now h x).1 (pick (sQ a now h x).1 h) := if_pos (by omega)
        obtain ⟨S'', g1, g2⟩ := ih n (x + 1) (up (up (up S' 69 (pick (sQ a now h x).1 h) (iI ((sQ a now h x).1 (pick (sQ a now h x).1 h) + qM a x now))) 67 2 (iI (if (sQ a now h x).2 < (sQ a now h x).1 (pick (sQ a now h x).1 h) + qM a x now then (sQ a now h x).1 (pick (sQ a now h x).1 h) + qM a x now else (sQ a now h x).2))) 68 x (iI ((sQ a now h x).1 (pick (sQ a now h x).1 h)))) (by omega) (by omega) ⟨fun i k hi => by rw [up_ne (by omega), up_ne (by omega), up_ne (by omega)]; exact q.1 i k hi, fun p hp => by
            rw [up_ne (by omega), up_ne (by omega), eS]
            show _ = iI (if p = pick (sQ a now h x).1 h then (sQ a now h x).1 (pick (sQ a now h x).1 h) + qM a x now else (sQ a now h x).1 p)
            by_cases e : p = pick (sQ a now h x).1 h
            · rw [if_pos e, e, up_s]
            · rw [if_neg e, up_n (Or.inr e)]; exact q.2.1 p hp, by rw [up_ne (by omega), up_s, eS], fun y hy => by
          by_cases e : y = x
          · rw [e, up_s, eB]
          · rw [up_n (by omega), up_ne (by omega), up_ne (by omega)]; exact q.2.2.2 y (by omega)⟩
        refine ⟨S'', g1, ?_⟩
        rw [f_X0_arrange_L27]
        simp (disch := omega) only [li_0, li_1, li_2, li_3, li_4, li_5, li_6, li_7, li_8, li_9, li_10, li_11, li_12, li_16, li_19, li_20, li_28, li_48, li_57, li_59, li_60, li_96, li_97, li_99, li_100, li_102, li_103, li_104, li_112, li_115, li_116, li_118, li_119, li_121, li_124, li_132, li_255, li_256, li_1000, li_2000, li_1000000000, iI_add, iI_sub, iI_mul, iI_neg, iI_lt, iI_le, iI_eq, iI_clamp, iI_s, iI_m1, iI_div, bs, tn, tn4, tn12, tn20, tn124, tn28, itT, itF, if_pos, if_neg, e0, e1, e2, ep, e3, e4, eh, e5, g2]
    · have eS : sQ a now h (x + 1) = sQ a now h x := if_neg (by omega)
      have eB : sQb a now h x = -9 := if_neg (by omega)
      obtain ⟨S'', g1, g2⟩ := ih n (x + 1) (up S' 68 x (iI (-9))) (by omega) (by omega) ⟨fun i k hi => by rw [up_ne (by omega)]; exact q.1 i k hi, fun p hp => by rw [up_ne (by omega), eS]; exact q.2.1 p hp, by rw [up_ne (by omega), eS]; exact q.2.2.1, fun y hy => by
        by_cases e : y = x
        · rw [e, up_s, eB]
        · rw [up_n (by omega)]; exact q.2.2.2 y (by omega)⟩
      refine ⟨S'', g1, ?_⟩
      rw [f_X0_arrange_L27]
      simp (disch := omega) only [li_0, li_1, li_2, li_3, li_4, li_5, li_6, li_7, li_8, li_9, li_10, li_11, li_12, li_16, li_19, li_20, li_28, li_48, li_57, li_59, li_60, li_96, li_97, li_99, li_100, li_102, li_103, li_104, li_112, li_115, li_116, li_118, li_119, li_121, li_124, li_132, li_255, li_256, li_1000, li_2000, li_1000000000, iI_add, iI_sub, iI_mul, iI_neg, iI_lt, iI_le, iI_eq, iI_clamp, iI_s, iI_m1, iI_div, bs, tn, tn4, tn12, tn20, tn124, tn28, itT, itF, if_pos, if_neg, e0, e1, e2, g2]
theorem cQ0 {S : St} {q1 : Nat} {k : St → Option St} : ∀ d n x : Nat, ∀ S' : St, x + d = 4 → d < n → (∀ i k, i ≠ 69 → S'.1 i k = S.1 i k) → (∀ p, p < x → S'.1 69 p = iI 0) → ∃ S'', (∀ i k, i ≠ 69 → S''.1 i k = S.1 i k) ∧ (∀ p, p < 4 → S''.1 69 p = iI 0) ∧ f_X0_arrange_L7 n q1 (iI x) S' k = k S'' := by
  intro d
  induction d with
  | zero =>
    intro n x S' hx hd h1 h2
    obtain ⟨n, rfl⟩ : ∃ p, n = p + 1 := ⟨n - 1, by omega⟩
    obtain rfl : x = 4 := by omega
    refine ⟨S', h1, h2, ?_⟩
    rw [f_X0_arrange_L7]
    simp (disch := omega) only [li_0, li_1, li_2, li_3, li_4, li_5, li_6, li_7, li_8, li_9, li_10, li_11, li_12, li_16, li_19, li_20, li_28, li_48, li_57, li_59, li_60, li_96, li_97, li_99, li_100, li_102, li_103, li_104, li_112, li_115, li_116, li_118, li_119, li_121, li_124, li_132, li_255, li_256, li_1000, li_2000, li_1000000000, iI_add, iI_sub, iI_mul, iI_neg, iI_lt, iI_le, iI_eq, iI_clamp, iI_s, iI_m1, iI_div, bs, tn, tn4, tn12, tn20, tn124, tn28, itT, itF, if_pos, if_neg]
  | succ d ih =>
    intro n x S' hx hd h1 h2
    obtain ⟨n, rfl⟩ : ∃ p, n = p + 1 := ⟨n - 1, by omega⟩
    obtain ⟨S'', g1, g2, g3⟩ := ih n (x + 1) (up S' 69 x (iI 0)) (by omega) (by omega) (fun i k hi => by rw [up_ne hi]; exact h1 i k hi) (fun p hp => by
      by_cases e : p = x
      · rw [e, up_s]
      · rw [up_n (Or.inr e)]; exact h2 p (by omega))
    refine ⟨S'', g1, g2, ?_⟩
    rw [f_X0_arrange_L7]
    simp (disch := omega) only [li_0, li_1, li_2, li_3, li_4, li_5, li_6, li_7, li_8, li_9, li_10, li_11, li_12, li_16, li_19, li_20, li_28, li_48, li_57, li_59, li_60, li_96, li_97, li_99, li_100, li_102, li_103, li_104, li_112, li_115, li_116, li_118, li_119, li_121, li_124, li_132, li_255, li_256, li_1000, li_2000, li_1000000000, iI_add, iI_sub, iI_mul, iI_neg, iI_lt, iI_le, iI_eq, iI_clamp, iI_s, iI_m1, iI_div, bs, tn, tn4, tn12, tn20, tn124, tn28, itT, itF, if_pos, if_neg, g3]
theorem cQ {S : St} {a : Nat → Int} {now h N : Nat} (hc : RC S 1 a) (hw : WFa a) (hN : a 0 = N) (hn : now ≤ 11) (hnow : a 1 = now) (hh : a 3 = h) : ∃ S', f_X0_arrange 1 S = some S' ∧ (∀ i k, ¬ (i = 67 ∨ i = 68 ∨ i = 69) → S'.1 i k = S.1 i k) ∧ S'.1 67 2 = iI (sQ a now h N).2 ∧ ∀ y, y < N → S'.1 68 y = iI (sQb a now h y) := by
  have h8 := hw.1
  obtain ⟨S1, r1, r2, r3⟩ := cQ0 (S := up S 67 2 (iI 0)) (q1 := 1) (k := fun s => f_X0_arrange_L27 2000 1 (iI 0) s (fun s => some s)) 4 2000 0 (up S 67 2 (iI 0)) (by omega) (by omega) (fun _ _ _ => rfl) (fun p hp => absurd hp (by omega))
  have fr1 : ∀ i k, ¬ (i = 67 ∨ i = 68 ∨ i = 69) → S1.1 i k = S.1 i k := fun i k hi => by rw [r1 _ _ (by omega), up_ne (by omega)]
  obtain ⟨S2, q, g⟩ := cQL (S := S) hc hw hN hn hnow hh (k := fun s => some s) N 2000 0 S1 (by omega) (by omega) ⟨fr1, fun p hp => r2 p hp, by rw [r1 _ _ (by omega), up_s]; rfl, fun y hy => absurd hy (by omega)⟩
  refine ⟨S2, ?_, q.1, q.2.2.1, q.2.2.2⟩
  rw [f_X0_arrange]
  exact r3.trans g
-- the reference
theorem rPick {S : St} {fr : Nat → Int} {h : Nat} (hh : h ≤ 4) (e3 : S.1 75 3 = iI h) (hf : ∀ p, p < 4 → S.1 83 p = iI (fr p)) (hb : ∀ p, 0 ≤ fr p ∧ fr p ≤ 99999) {y1 y3 y4 y5 y6 : Int32} {k : Int32 → Option (Int32 × St)} :
    ∀ d n x : Nat, 0 < x → x + d = h → d < n → f_X8_queue_L110 n y1 y3 y4 y5 y6 (iI (pick fr x)) (iI x) S k = k (iI (pick fr h)) := by
  intro d
  induction d with
  | zero =>
    intro n x h0 hx hd
    obtain ⟨n, rfl⟩ : ∃ p, n = p + 1 := ⟨n - 1, by omega⟩
    obtain rfl : x = h := by omega
    rw [f_X8_queue_L110]
    simp (disch := omega) only [li_0, li_1, li_2, li_3, li_4, li_5, li_6, li_7, li_8, li_9, li_10, li_11, li_12, li_16, li_19, li_20, li_28, li_48, li_57, li_59, li_60, li_96, li_97, li_99, li_100, li_102, li_103, li_104, li_112, li_115, li_116, li_118, li_119, li_121, li_124, li_132, li_255, li_256, li_1000, li_2000, li_1000000000, iI_add, iI_sub, iI_mul, iI_neg, iI_lt, iI_le, iI_eq, iI_clamp, iI_s, iI_m1, iI_div, bs, tn, tn4, tn12, tn20, tn124, tn28, itT, itF, if_pos, if_neg, e3]
  | succ d ih =>
    intro n x h0 hx hd
    obtain ⟨n, rfl⟩ : ∃ p, n = p + 1 := ⟨n - 1, by omega⟩
    have i1 := ih n (x + 1) (by omega) (by omega) (by omega)
    have pl := pick_lt fr x h0
    have e1 := hf x (by omega)
    have e2 := hf (pick fr x) (by omega)
    have b1 := hb x
    have b2 := hb (pick fr x)
    rw [pick] at i1
    rw [f_X8_queue_L110]
    by_cases c : fr (pick fr x) ≤ fr x
    · rw [if_pos c] at i1
      simp (disch := omega) only [li_0, li_1, li_2, li_3, li_4, li_5, li_6, li_7, li_8, li_9, li_10, li_11, li_12, li_16, li_19, li_20, li_28, li_48, li_57, li_59, li_60, li_96, li_97, li_99, li_100, li_102, li_103, li_104, li_112, li_115, li_116, li_118, li_119, li_121, li_124, li_132, li_255, li_256, li_1000, li_2000, li_1000000000, iI_add, iI_sub, iI_mul, iI_neg, iI_lt, iI_le, iI_eq, iI_clamp, iI_s, iI_m1, iI_div, bs, tn, tn4, tn12, tn20, tn124, tn28, itT, itF, if_pos, if_neg, e3, e1, e2, i1]
    · rw [if_neg c] at i1
      simp (disch := omega) only [li_0, li_1, li_2, li_3, li_4, li_5, li_6, li_7, li_8, li_9, li_10, li_11, li_12, li_16, li_19, li_20, li_28, li_48, li_57, li_59, li_60, li_96, li_97, li_99, li_100, li_102, li_103, li_104, li_112, li_115, li_116, li_118, li_119, li_121, li_124, li_132, li_255, li_256, li_1000, li_2000, li_1000000000, iI_add, iI_sub, iI_mul, iI_neg, iI_lt, iI_le, iI_eq, iI_clamp, iI_s, iI_m1, iI_div, bs, tn, tn4, tn12, tn20, tn124, tn28, itT, itF, if_pos, if_neg, e3, e1, e2, i1]
/-- what the reference has heard of thing y when it is at x -/
def sQa (a : Nat → Int) (now h : Nat) (y : Int) (x : Nat) : Int := if 0 ≤ y ∧ y < x then sQb a now h y.toNat else -9
theorem rQL {S : St} {a : Nat → Int} {now h N : Nat} (hm : ∀ k, k < 132 → S.1 75 k = iI (a k)) (hw : WFa a) (hN : a 0 = N) (hn : now ≤ 11) (hnow : a 1 = now) (hh : a 3 = h) {y : Int} (hy : -2147483648 ≤ y ∧ y < 2147483648) {k : Int32 → Int32 → St → Option (Int32 × St)} :
    ∀ d n x : Nat, ∀ S' : St, x + d = N → d < n → (∀ i k, i ≠ 83 → S'.1 i k = S.1 i k) → (∀ p, p < 4 → S'.1 83 p = iI ((sQ a now h x).1 p)) → ∃ S'', (∀ i k, i ≠ 83 → S''.1 i k = S.1 i k) ∧ f_X8_queue_L50 n (iI y) (iI (sQ a now h x).2) (iI (sQa a now h y x)) (iI x) S' k = k (iI (sQ a now h N).2) (iI (sQa a now h y N)) S'' := by
  have h8 := hw.1
  have w3 := hw.2.2.2.1
  intro d
  induction d with
  | zero =>
    intro n x S' hx hd q1 q2
    obtain ⟨n, rfl⟩ : ∃ p, n = p + 1 := ⟨n - 1, by omega⟩
    obtain rfl : x = N := by omega
    have e0 : S'.1 75 0 = iI x := by rw [q1 _ _ (by omega), hm 0 (by omega), hN]
    refine ⟨S', q1, ?_⟩
    rw [f_X8_queue_L50]
    simp (disch := omega) only [li_0, li_1, li_2, li_3, li_4, li_5, li_6, li_7, li_8, li_9, li_10, li_11, li_12, li_16, li_19, li_20, li_28, li_48, li_57, li_59, li_60, li_96, li_97, li_99, li_100, li_102, li_103, li_104, li_112, li_115, li_116, li_118, li_119, li_121, li_124, li_132, li_255, li_256, li_1000, li_2000, li_1000000000, iI_add, iI_sub, iI_mul, iI_neg, iI_lt, iI_le, iI_eq, iI_clamp, iI_s, iI_m1, iI_div, bs, tn, tn4, tn12, tn20, tn124, tn28, itT, itF, if_pos, if_neg, e0]
  | succ d ih =>
    intro n x S' hx hd q1 q2
    obtain ⟨n, rfl⟩ : ∃ p, n = p + 1 := ⟨n - 1, by omega⟩
    have hm' : ∀ k, k < 132 → S'.1 75 k = iI (a k) := fun k hk => by rw [q1 _ _ (by omega)]; exact hm k hk
    have e0 : S'.1 75 0 = iI N := by rw [hm' 0 (by omega), hN]
    have eh : S'.1 75 3 = iI h := by rw [hm' 3 (by omega), hh]
    have hwt := hw.t (j := x) (by omega)
    have k1 := hwt.2.2.1
    have e2 := hm' (20 + x) (by omega)
    have e3 := rGY hm' (j := x) (by omega) hwt hn hnow
    have yb := sGY_le a x now
    have e4 : f_X8_fewestOf 75 (iI x) (iI (sGY a x now)) S' = some (iI (qM a x now)) := rFew hm' (by omega) hwt hn hnow (by omega)
    have mb := qM_b a x now
    have bQ := sQ_b a now h x
    by_cases c : a (20 + x) < 0 ∧ 0 ≤ qM a x now
    · have hp1 : pick (sQ a now h x).1 1 = 0 := by show (if (sQ a now h x).1 0 ≤ (sQ a now h x).1 0 then 0 else 0) = 0; split <;> rfl
      have e5 : ∀ y1 y3 y4 y5 y6 k, f_X8_queue_L110 2000 y1 y3 y4 y5 y6 (iI 0) (iI 1) S' k = k (iI (pick (sQ a now h x).1 h)) := fun y1 y3 y4 y5 y6 k => by
        have i := rPick (S := S') (h := h) (by omega) eh q2 (fun p => by have := bQ.1 p; omega) (y1 := y1) (y3 := y3) (y4 := y4) (y5 := y5) (y6 := y6) (k := k) (h - 1) 2000 1 (by omega) (by omega) (by omega)
        rw [hp1] at i
        exact i
      have pl := pick_lt (sQ a now h x).1 h (by omega)
      have e6 := q2 (pick (sQ a now h x).1 h) (by omega)
      have b2 := bQ.1 (pick (sQ a now h x).1 h)
      have eS : sQ a now h (x + 1) = (setF (sQ a now h x).1 (pick (sQ a now h x).1 h) ((sQ a now h x).1 (pick (sQ a now h x).1 h) + qM a x now),
          if (sQ a now h x).2 < (sQ a now h x).1 (pick (sQ a now h x).1 h) + qM a x now then (sQ a now h x).1 (pick (sQ a now h x).1 h) + qM a x now else (sQ a now h x).2) := if_pos c
      have eB : sQb a now h x = (sQ a now h x).1 (pick (sQ a now h x).1 h) := if_pos c
      obtain ⟨S'', g1, g2⟩ := ih n (x + 1) (up S' 83 (pick (sQ a now h x).1 h) (iI ((sQ a now h x).1 (pick (sQ a now h x).1 h) + qM a x now))) (by omega) (by omega) (fun i k hi => by rw [up_ne hi]; exact q1 i k hi) (fun p hp => by
        rw [eS]
        show _ = iI (if p = pick (sQ a now h x).1 h then (sQ a now h x).1 (pick (sQ a now h x).1 h) + qM a x now else (sQ a now h x).1 p)
        by_cases e : p = pick (sQ a now h x).1 h
        · rw [if_pos e, e, up_s]
        · rw [if_neg e, up_n (Or.inr e)]; exact q2 p hp)
      refine ⟨S'', g1, ?_⟩
      rw [eS] at g2
      rw [f_X8_queue_L50, ← g2]
      have e7 := rMost (x := (sQ a now h x).2) (y := (sQ a now h x).1 (pick (sQ a now h x).1 h) + qM a x now) (by omega) (by omega) (by omega) (by omega)
      have e8 : (if (sQ a now h x).2 ≤ (sQ a now h x).1 (pick (sQ a now h x).1 h) + qM a x now then (sQ a now h x).1 (pick (sQ a now h x).1 h) + qM a x now else (sQ a now h x).2) = (if (sQ a now h x).2 < (sQ a now h x).1 (pick (sQ a now h x).1 h) + qM a x now then (sQ a now h x).1 (pick (sQ a now h x).1 h) + qM a x now else (sQ a now h x).2) := by
        split <;> split <;> omega
      rw [e8] at e7
      by_cases cy : (x : Int) = y
      · have eA : sQa a now h y (x + 1) = (sQ a now h x).1 (pick (sQ a now h x).1 h) := by
          rw [sQa, if_pos (by omega), ← cy]; exact eB
        rw [eA]
        simp (disch := omega) only [li_0, li_1, li_2, li_3, li_4, li_5, li_6, li_7, li_8, li_9, li_10, li_11, li_12, li_16, li_19, li_20, li_28, li_48, li_57, li_59, li_60, li_96, li_97, li_99, li_100, li_102, li_103, li_104, li_112, li_115, li_116, li_118, li_119, li_121, li_124, li_132, li_255, li_256, li_1000, li_2000, li_1000000000, iI_add, iI_sub, iI_mul, iI_neg, iI_lt, iI_le, iI_eq, iI_clamp, iI_s, iI_m1, iI_div, bs, tn, tn4, tn12, tn20, tn124, tn28, itT, itF, if_pos, if_neg, up_s, up_n, e0, e2, e3, e4, e5, e6, e7]
      · have eA : sQa a now h y (x + 1) = sQa a now h y x := by
          unfold sQa
          by_cases c9 : 0 ≤ y ∧ y < (x : Int)
          · rw [if_pos c9, if_pos (by omega)]
          · rw [if_neg c9, if_neg (by omega)]
        rw [eA]
        simp (disch := omega) only [li_0, li_1, li_2, li_3, li_4, li_5, li_6, li_7, li_8, li_9, li_10, li_11, li_12, li_16, li_19, li_20, li_28, li_48, li_57, li_59, li_60, li_96, li_97, li_99, li_100, li_102, li_103, li_104, li_112, li_115, li_116, li_118, li_119, li_121, li_124, li_132, li_255, li_256, li_1000, li_2000, li_1000000000, iI_add, iI_sub, iI_mul, iI_neg, iI_lt, iI_le, iI_eq, iI_clamp, iI_s, iI_m1, iI_div, bs, tn, tn4, tn12, tn20, tn124, tn28, itT, itF, if_pos, if_neg, up_s, up_n, e0, e2, e3, e4, e5, e6, e7]
    · have eS : sQ a now h (x + 1) = sQ a now h x := if_neg c
      have eB : sQb a now h x = -9 := if_neg c
      have eA : sQa a now h y (x + 1) = sQa a now h y x := by
        unfold sQa
        by_cases c9 : 0 ≤ y ∧ y < (x : Int)
        · rw [if_pos c9, if_pos (by omega)]
        · rw [if_neg c9]
          by_cases c10 : y = (x : Int)
          · rw [if_pos (by omega), c10]; exact eB
          · rw [if_neg (by omega)]
      obtain ⟨S'', g1, g2⟩ := ih n (x + 1) S' (by omega) (by omega) q1 (fun p hp => by rw [eS]; exact q2 p hp)
      refine ⟨S'', g1, ?_⟩
      rw [eS, eA] at g2
      rw [f_X8_queue_L50, ← g2]
      by_cases c1 : a (20 + x) < 0
      · simp (disch := omega) only [li_0, li_1, li_2, li_3, li_4, li_5, li_6, li_7, li_8, li_9, li_10, li_11, li_12, li_16, li_19, li_20, li_28, li_48, li_57, li_59, li_60, li_96, li_97, li_99, li_100, li_102, li_103, li_104, li_112, li_115, li_116, li_118, li_119, li_121, li_124, li_132, li_255, li_256, li_1000, li_2000, li_1000000000, iI_add, iI_sub, iI_mul, iI_neg, iI_lt, iI_le, iI_eq, iI_clamp, iI_s, iI_m1, iI_div, bs, tn, tn4, tn12, tn20, tn124, tn28, itT, itF, if_pos, if_neg, e0, e2, e3, e4]
      · simp (disch := omega) only [li_0, li_1, li_2, li_3, li_4, li_5, li_6, li_7, li_8, li_9, li_10, li_11, li_12, li_16, li_19, li_20, li_28, li_48, li_57, li_59, li_60, li_96, li_97, li_99, li_100, li_102, li_103, li_104, li_112, li_115, li_116, li_118, li_119, li_121, li_124, li_132, li_255, li_256, li_1000, li_2000, li_1000000000, iI_add, iI_sub, iI_mul, iI_neg, iI_lt, iI_le, iI_eq, iI_clamp, iI_s, iI_m1, iI_div, bs, tn, tn4, tn12, tn20, tn124, tn28, itT, itF, if_pos, if_neg, e0, e2]
theorem rQ0 {S : St} {y : Int32} {k : St → Option (Int32 × St)} : ∀ d n x : Nat, ∀ S' : St, x + d = 4 → d < n → (∀ i k, i ≠ 83 → S'.1 i k = S.1 i k) → (∀ p, p < x → S'.1 83 p = iI 0) → ∃ S'', (∀ i k, i ≠ 83 → S''.1 i k = S.1 i k) ∧ (∀ p, p < 4 → S''.1 83 p = iI 0) ∧ f_X8_queue_L26 n y (iI x) S' k = k S'' := by
  intro d
  induction d with
  | zero =>
    intro n x S' hx hd h1 h2
    obtain ⟨n, rfl⟩ : ∃ p, n = p + 1 := ⟨n - 1, by omega⟩
    obtain rfl : x = 4 := by omega
    refine ⟨S', h1, h2, ?_⟩
    rw [f_X8_queue_L26]
    simp (disch := omega) only [li_0, li_1, li_2, li_3, li_4, li_5, li_6, li_7, li_8, li_9, li_10, li_11, li_12, li_16, li_19, li_20, li_28, li_48, li_57, li_59, li_60, li_96, li_97, li_99, li_100, li_102, li_103, li_104, li_112, li_115, li_116, li_118, li_119, li_121, li_124, li_132, li_255, li_256, li_1000, li_2000, li_1000000000, iI_add, iI_sub, iI_mul, iI_neg, iI_lt, iI_le, iI_eq, iI_clamp, iI_s, iI_m1, iI_div, bs, tn, tn4, tn12, tn20, tn124, tn28, itT, itF, if_pos, if_neg]
  | succ d ih =>
    intro n x S' hx hd h1 h2
    obtain ⟨n, rfl⟩ : ∃ p, n = p + 1 := ⟨n - 1, by omega⟩
    obtain ⟨S'', g1, g2, g3⟩ := ih n (x + 1) (up S' 83 x (iI 0)) (by omega) (by omega) (fun i k hi => by rw [up_ne hi]; exact h1 i k hi) (fun p hp => by
      by_cases e : p = x
      · rw [e, up_s]
      · rw [up_n (Or.inr e)]; exact h2 p (by omega))
    refine ⟨S'', g1, g2, ?_⟩
    rw [f_X8_queue_L26]
    simp (disch := omega) only [li_0, li_1, li_2, li_3, li_4, li_5, li_6, li_7, li_8, li_9, li_10, li_11, li_12, li_16, li_19, li_20, li_28, li_48, li_57, li_59, li_60, li_96, li_97, li_99, li_100, li_102, li_103, li_104, li_112, li_115, li_116, li_118, li_119, li_121, li_124, li_132, li_255, li_256, li_1000, li_2000, li_1000000000, iI_add, iI_sub, iI_mul, iI_neg, iI_lt, iI_le, iI_eq, iI_clamp, iI_s, iI_m1, iI_div, bs, tn, tn4, tn12, tn20, tn124, tn28, itT, itF, if_pos, if_neg, g3]
theorem e_queue {S : St} (hS : Inv S) (a1 : Int32) : ∃ (z1 : Int32 × St) (z2 : Int32 × St), f_X7_queue a1 S = some z1 ∧ f_X8_queue a1 z1.2 = some z2 ∧ z1.1 = z2.1 ∧ Inv z2.2 := by
  obtain ⟨⟨a, hw, hc, hm0⟩, -⟩ := id hS
  have hm : ∀ k, k < 132 → S.1 75 k = iI (a k) := hm0
  have h8 := hw.1
  have w1 := hw.2.1
  have w2 := hw.2.2.1
  have w3 := hw.2.2.2.1
  obtain ⟨now, hnow⟩ : ∃ n : Nat, a 1 = n := ⟨(a 1).toNat, by omega⟩
  obtain ⟨N, hN⟩ : ∃ n : Nat, a 0 = n := ⟨(a 0).toNat, by omega⟩
  have hn : now ≤ 11 := by omega
  have hN8 : N ≤ 8 := by omega
  have p1 : S.1 1 1 = iI now := by rw [hc.1 1 (by omega), hnow]
  have p0 : S.1 1 0 = iI N := by rw [hc.1 0 (by omega), hN]
  have m0 : S.1 75 0 = iI N := by rw [hm 0 (by omega), hN]
  have m1 : S.1 75 1 = iI now := by rw [hm 1 (by omega), hnow]
  obtain ⟨x, x1, x2, rfl⟩ := iI_any a1
  have e1 := cLacks hc hw x1 x2
  by_cases c : x = -1 ∨ (0 ≤ x ∧ x < a 0)
  · obtain ⟨h, hh⟩ : ∃ h : Nat, a 3 = h := ⟨(a 3).toNat, by omega⟩
    obtain ⟨S1, c1, c2, c3, c4⟩ := cQ hc hw hN hn hnow hh
    have hm1 : ∀ k, k < 132 → S1.1 75 k = iI (a k) := fun k hk => by rw [c2 _ _ (by omega)]; exact hm k hk
    have m0' : S1.1 75 0 = iI N := by rw [hm1 0 (by omega), hN]
    obtain ⟨S2, r1, r2, r3⟩ := rQ0 (S := S1) (y := iI x) (k := fun s => f_X8_queue_L50 2000 (iI x) (iI 0) (iI (-9)) (iI 0) s (fun y27 y28 S29 => if iI 0 ≤ iI x then some (y28, S29) else some (y27, S29))) 4 2000 0 S1 (by omega) (by omega) (fun _ _ _ => rfl) (fun p hp => absurd hp (by omega))
    have hm2 : ∀ k, k < 132 → S2.1 75 k = iI (a k) := fun k hk => by rw [r1 _ _ (by omega)]; exact hm1 k hk
    obtain ⟨S3, q1, q2⟩ := rQL (S := S2) hm2 hw hN hn hnow hh (y := x) (by omega) (k := fun y27 y28 S29 => if iI 0 ≤ iI x then some (y28, S29) else some (y27, S29)) N 2000 0 S2 (by omega) (by omega) (fun _ _ _ => rfl) (fun p hp => r2 p hp)
    have q3 : f_X8_queue_L50 2000 (iI x) (iI 0) (iI (-9)) (iI 0) S2 (fun y27 y28 S29 => if iI 0 ≤ iI x then some (y28, S29) else some (y27, S29)) = if iI 0 ≤ iI x then some (iI (sQa a now h x N), S3) else some (iI (sQ a now h N).2, S3) := by
      have e0 : sQa a now h x 0 = -9 := if_neg (by omega)
      rw [e0] at q2
      exact q2
    have g1 := r3.trans q3
    have i9 : Inv S3 := hS.sm (fun i k hs => by
      unfold scr at hs
      rw [q1 _ _ (by omega), r1 _ _ (by omega), c2 _ _ (by omega)])
    by_cases cx : x = -1
    · subst cx
      rw [if_neg (by decide)] at g1
      refine e_mk (v := iI (sQ a now h N).2) (S1 := S1) (S2 := S3) (by simp (disch := omega) only [li_0, li_1, li_2, li_3, li_4, li_5, li_6, li_7, li_8, li_9, li_10, li_11, li_12, li_16, li_19, li_20, li_28, li_48, li_57, li_59, li_60, li_96, li_97, li_99, li_100, li_102, li_103, li_104, li_112, li_115, li_116, li_118, li_119, li_121, li_124, li_132, li_255, li_256, li_1000, li_2000, li_1000000000, iI_add, iI_sub, iI_mul, iI_neg, iI_lt, iI_le, iI_eq, iI_clamp, iI_s, iI_m1, iI_div, bs, tn, tn4, tn12, tn20, tn124, tn28, itT, itF, if_pos, if_neg, f_X7_queue, c1, c3]) ?_ i9
      rw [f_X8_queue, if_pos (show iI (-1) = -1 from rfl)]
      refine Eq.trans ?_ g1
      rfl
    · obtain ⟨j, rfl⟩ : ∃ n : Nat, x = n := ⟨x.toNat, by omega⟩
      rw [if_pos (by rw [iI_le (by omega) (by omega) (by omega) (by omega)]; omega)] at g1
      have eA : sQa a now h (j : Int) N = sQb a now h j := if_pos (by omega)
      rw [eA] at g1
      have g2 : f_X8_isThing (iI j) S1 = some (iI 1) := by rw [rThing m0' hN8 x1 x2, if_pos (by omega)]
      have c5 := c4 j (by omega)
      refine e_mk (v := iI (sQb a now h j)) (S1 := S1) (S2 := S3) (by simp (disch := omega) only [li_0, li_1, li_2, li_3, li_4, li_5, li_6, li_7, li_8, li_9, li_10, li_11, li_12, li_16, li_19, li_20, li_28, li_48, li_57, li_59, li_60, li_96, li_97, li_99, li_100, li_102, li_103, li_104, li_112, li_115, li_116, li_118, li_119, li_121, li_124, li_132, li_255, li_256, li_1000, li_2000, li_1000000000, iI_add, iI_sub, iI_mul, iI_neg, iI_lt, iI_le, iI_eq, iI_clamp, iI_s, iI_m1, iI_div, bs, tn, tn4, tn12, tn20, tn124, tn28, itT, itF, if_pos, if_neg, f_X7_queue, f_X0_beginOf, e1, c1, c5]) ?_ i9
      rw [f_X8_queue, if_neg (by rw [show (-1 : Int32) = iI (-1) from rfl, iI_eq (by omega) (by omega) (by omega) (by omega)]; omega), g2, bs, if_neg (by decide)]
      refine Eq.trans ?_ g1
      rfl
  · exact e_no hS (-1) 1 (by omega) (by omega) (by simp (disch := omega) only [li_0, li_1, li_2, li_3, li_4, li_5, li_6, li_7, li_8, li_9, li_10, li_11, li_12, li_16, li_19, li_20, li_28, li_48, li_57, li_59, li_60, li_96, li_97, li_99, li_100, li_102, li_103, li_104, li_112, li_115, li_116, li_118, li_119, li_121, li_124, li_132, li_255, li_256, li_1000, li_2000, li_1000000000, iI_add, iI_sub, iI_mul, iI_neg, iI_lt, iI_le, iI_eq, iI_clamp, iI_s, iI_m1, iI_div, bs, tn, tn4, tn12, tn20, tn124, tn28, itT, itF, if_pos, if_neg, f_X7_queue, e1, bse]) (fun S1 q1 q2 => by
      have g1 := rThing (S := S1) (by rw [q1]; exact m0) hN8 x1 x2
      simp (disch := omega) only [li_0, li_1, li_2, li_3, li_4, li_5, li_6, li_7, li_8, li_9, li_10, li_11, li_12, li_16, li_19, li_20, li_28, li_48, li_57, li_59, li_60, li_96, li_97, li_99, li_100, li_102, li_103, li_104, li_112, li_115, li_116, li_118, li_119, li_121, li_124, li_132, li_255, li_256, li_1000, li_2000, li_1000000000, iI_add, iI_sub, iI_mul, iI_neg, iI_lt, iI_le, iI_eq, iI_clamp, iI_s, iI_m1, iI_div, bs, tn, tn4, tn12, tn20, tn124, tn28, itT, itF, if_pos, if_neg, f_X8_queue, g1, bse])
