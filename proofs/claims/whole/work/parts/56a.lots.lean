-- ===== lots: the walk =====
def lY (b : Nat → Int) (now x : Nat) (s : Int32) : Int := (sY b x now (dz (nx s) 60) (dz (nx (nx s)) 4) : Int)
def sLot (a : Nat → Int) (s : Int32) (now : Nat) : Nat → (Nat → Int) × Int32
  | 0 => (a, s)
  | x + 1 => if (sLot a s now x).1 (20 + x) < 0 then (st (sLot a s now x).1 (20 + x) (lY (sLot a s now x).1 now x (sLot a s now x).2), nx (nx (sLot a s now x).2)) else sLot a s now x
theorem sLot_wf {a : Nat → Int} (hw : WFa a) (s : Int32) {now : Nat} (hn : now ≤ 11) : ∀ x, x ≤ 8 → WFa (sLot a s now x).1 ∧ (sLot a s now x).1 0 = a 0 ∧ (sLot a s now x).1 1 = a 1 := by
  intro x
  induction x with
  | zero => intro _; exact ⟨hw, rfl, rfl⟩
  | succ x ih =>
    intro h
    obtain ⟨h1, h2, h3⟩ := ih (by omega)
    rw [sLot]
    by_cases c : (sLot a s now x).1 (20 + x) < 0
    · rw [if_pos c]
      have yb := sY_le (sLot a s now x).1 x now (dz (nx (sLot a s now x).2) 60) (dz (nx (nx (sLot a s now x).2)) 4)
      exact ⟨h1.sts (by omega) (by unfold lY; omega), (st_n (by omega)).trans h2, (st_n (by omega)).trans h3⟩
    · rw [if_neg c]; exact ⟨h1, h2, h3⟩
theorem RC.frt {S S' : St} {q : Nat} {a : Nat → Int} (h : RC S q a) (hs : ∀ i k, q ≤ i → i ≤ q + 18 → S'.1 i k = S.1 i k) : RC S' q a := by
  refine ⟨fun k hk => ?_, fun j hj => ?_, fun j hj hl => ⟨?_, ?_, ?_, fun y hy => ?_⟩⟩
  · rw [hs _ _ (by omega) (by omega)]; exact h.1 k hk
  · rw [hs _ _ (by omega) (by omega)]; exact h.2.1 j hj
  · rw [hs _ _ (by omega) (by omega)]; exact (h.2.2 j hj hl).1
  · rw [hs _ _ (by omega) (by omega)]; exact (h.2.2 j hj hl).2.1
  · rw [hs _ _ (by omega) (by omega)]; exact (h.2.2 j hj hl).2.2.1
  · rw [hs _ _ (by omega) (by omega)]; exact (h.2.2 j hj hl).2.2.2 y hy
def cFr (S S' : St) : Prop := ∀ i k, ¬ ((39 ≤ i ∧ i ≤ 57) ∨ (i = 0 ∧ k = 12)) → S'.1 i k = S.1 i k
def rFr (S S' : St) : Prop := ∀ i k, ¬ (i = 76 ∨ (i = 74 ∧ k = 15)) → S'.1 i k = S.1 i k
