-- ===== each letter read =====
section RL
variable {S : St} {L : Nat → Int} {n : Nat}
theorem rs_start (h : IR S L n) {p : Nat} (hp : p ≤ 700) (h1 : S.1 74 10 = iI p) {c : Int} (hc : ltr L n p = c) : f_X8_here S = some (iI c) ∧ up S 74 10 (S.1 74 10 + 1) = up S 74 10 (iI ((p + 1 : Nat) : Int)) ∧ IR (up S 74 10 (iI ((p + 1 : Nat) : Int))) L n ∧ f82 S (up S 74 10 (iI ((p + 1 : Nat) : Int))) ∧ (up S 74 10 (iI ((p + 1 : Nat) : Int))).1 74 10 = iI ((p + 1 : Nat) : Int) := by
  have e1 := rHere h (p := p) (by omega) h1
  rw [hc] at e1
  have fr : f82 S (up S 74 10 (iI ((p + 1 : Nat) : Int))) := fun i k hi => up_n (by omega)
  refine ⟨e1, ?_, h.f fr, fr, up_s⟩
  rw [h1, show (1 : Int32) = iI 1 from rfl, iI_add]
  rfl
theorem rs_100 (h : IR S L n) {p : Nat} (hp : p ≤ 700) (h1 : S.1 74 10 = iI p) (hc : ltr L n p = 100) : RS S (ltr L n) p := by
  obtain ⟨e1, e2, k0, f0, q0⟩ := rs_start h hp h1 hc
  have main : RD (f_X8_readsStatement S) S (ltr L n) 2 (p + 1) (fun S' => (S'.1 82 0 = iI (nv (ltr L n) 2 (p + 1))) ∧ (0 ≤ nv (ltr L n) 2 (p + 1) ∧ nv (ltr L n) 2 (p + 1) ≤ 99)) := by
    rw [f_X8_readsStatement, e1, bs, if_pos (show iI 100 = 100 from rfl), e2]
    refine rd_num (f := 0) (x := p + 1) (e := 2) (d := 0) k0 (by omega) (by omega) q0 (by omega) f0 (fun S1 => fr00) (fun S1 a1 k1 q1 f1 v1 b1 => ?_)
    dsimp only
    rw [if_neg h10]
    exact rd_end (x := p + 3) k1 (by omega) q1 f1 ⟨(by rw [up_ne (by omega)]; exact v1), ⟨b1.1, b1.2.1⟩⟩
  refine RS.of (d := 2) (by rw [hc]; rfl) (by decide) (by rw [hc]; decide) main (fun S' z => ⟨fun _ => ⟨z.1, z.2.1, z.2.2⟩, fun w => absurd (hc.symm.trans w) (by decide), fun w => absurd (hc.symm.trans w) (by decide), fun w => absurd (hc.symm.trans w) (by decide), fun w => absurd (hc.symm.trans w) (by decide), fun w => absurd (hc.symm.trans w) (by decide), fun w => absurd (hc.symm.trans w) (by decide)⟩)
theorem rs_104 (h : IR S L n) {p : Nat} (hp : p ≤ 700) (h1 : S.1 74 10 = iI p) (hc : ltr L n p = 104) : RS S (ltr L n) p := by
  obtain ⟨e1, e2, k0, f0, q0⟩ := rs_start h hp h1 hc
  have main : RD (f_X8_readsStatement S) S (ltr L n) 2 (p + 1) (fun S' => (S'.1 82 0 = iI (nv (ltr L n) 1 (p + 1)) ∧ S'.1 82 1 = iI (nv (ltr L n) 1 (p + 2))) ∧ (0 ≤ nv (ltr L n) 1 (p + 1) ∧ nv (ltr L n) 1 (p + 1) ≤ 9) ∧ (0 ≤ nv (ltr L n) 1 (p + 2) ∧ nv (ltr L n) 1 (p + 2) ≤ 9)) := by
    rw [f_X8_readsStatement, e1, bs, if_neg (show ¬ iI 104 = 100 by decide), if_neg (show ¬ iI 104 = 103 by decide), if_pos (show iI 104 = 104 from rfl), e2]
    refine rd_num (f := 0) (x := p + 1) (e := 1) (d := 1) k0 (by omega) (by omega) q0 (by omega) f0 (fun S1 => fr00) (fun S1 a1 k1 q1 f1 v1 b1 => ?_)
    dsimp only
    rw [if_neg h10]
    refine rd_num (f := 1) (x := p + 2) (e := 1) (d := 0) k1 (by omega) (by omega) q1 (by omega) f1 (fun S1 => fr00) (fun S2 a2 k2 q2 f2 v2 b2 => ?_)
    dsimp only
    rw [if_neg h10]
    exact rd_end (x := p + 3) k2 (by omega) q2 f2 ⟨⟨(by rw [up_ne (by omega), a2 _ _ (by omega)]; exact v1), (by rw [up_ne (by omega)]; exact v2)⟩, ⟨b1.1, b1.2.2 rfl⟩, ⟨b2.1, b2.2.2 rfl⟩⟩
  refine RS.of (d := 2) (by rw [hc]; rfl) (by decide) (by rw [hc]; decide) main (fun S' z => ⟨fun w => absurd (hc.symm.trans w) (by decide), fun w => absurd (hc.symm.trans w) (by decide), fun _ => z, fun w => absurd (hc.symm.trans w) (by decide), fun w => absurd (hc.symm.trans w) (by decide), fun w => absurd (hc.symm.trans w) (by decide), fun w => absurd (hc.symm.trans w) (by decide)⟩)
theorem rs_115 (h : IR S L n) {p : Nat} (hp : p ≤ 700) (h1 : S.1 74 10 = iI p) (hc : ltr L n p = 115) : RS S (ltr L n) p := by
  obtain ⟨e1, e2, k0, f0, q0⟩ := rs_start h hp h1 hc
  have main : RD (f_X8_readsStatement S) S (ltr L n) 4 (p + 1) (fun S' => (S'.1 82 0 = iI (nv (ltr L n) 1 (p + 1)) ∧ S'.1 82 1 = iI (nv (ltr L n) 2 (p + 2)) ∧ S'.1 82 2 = iI (nv (ltr L n) 1 (p + 4))) ∧ (0 ≤ nv (ltr L n) 1 (p + 1) ∧ nv (ltr L n) 1 (p + 1) ≤ 9) ∧ (0 ≤ nv (ltr L n) 2 (p + 2) ∧ nv (ltr L n) 2 (p + 2) ≤ 99) ∧ (0 ≤ nv (ltr L n) 1 (p + 4) ∧ nv (ltr L n) 1 (p + 4) ≤ 9)) := by
    rw [f_X8_readsStatement, e1, bs, if_neg (show ¬ iI 115 = 100 by decide), if_neg (show ¬ iI 115 = 103 by decide), if_neg (show ¬ iI 115 = 104 by decide), if_pos (show iI 115 = 115 from rfl), e2]
    refine rd_num (f := 0) (x := p + 1) (e := 1) (d := 3) k0 (by omega) (by omega) q0 (by omega) f0 (fun S1 => fr00) (fun S1 a1 k1 q1 f1 v1 b1 => ?_)
    dsimp only
    rw [if_neg h10]
    refine rd_num (f := 1) (x := p + 2) (e := 2) (d := 1) k1 (by omega) (by omega) q1 (by omega) f1 (fun S1 => fr00) (fun S2 a2 k2 q2 f2 v2 b2 => ?_)
    dsimp only
    rw [if_neg h10]
    refine rd_num (f := 2) (x := p + 4) (e := 1) (d := 0) k2 (by omega) (by omega) q2 (by omega) f2 (fun S1 => fr00) (fun S3 a3 k3 q3 f3 v3 b3 => ?_)
    dsimp only
    rw [if_neg h10]
    exact rd_end (x := p + 5) k3 (by omega) q3 f3 ⟨⟨(by rw [up_ne (by omega), a3 _ _ (by omega), a2 _ _ (by omega)]; exact v1), (by rw [up_ne (by omega), a3 _ _ (by omega)]; exact v2), (by rw [up_ne (by omega)]; exact v3)⟩, ⟨b1.1, b1.2.2 rfl⟩, ⟨b2.1, b2.2.1⟩, ⟨b3.1, b3.2.2 rfl⟩⟩
  refine RS.of (d := 4) (by rw [hc]; rfl) (by decide) (by rw [hc]; decide) main (fun S' z => ⟨fun w => absurd (hc.symm.trans w) (by decide), fun w => absurd (hc.symm.trans w) (by decide), fun w => absurd (hc.symm.trans w) (by decide), fun _ => z, fun w => absurd (hc.symm.trans w) (by decide), fun w => absurd (hc.symm.trans w) (by decide), fun w => absurd (hc.symm.trans w) (by decide)⟩)
theorem rs_118 (h : IR S L n) {p : Nat} (hp : p ≤ 700) (h1 : S.1 74 10 = iI p) (hc : ltr L n p = 118) : RS S (ltr L n) p := by
  obtain ⟨e1, e2, k0, f0, q0⟩ := rs_start h hp h1 hc
  have main : RD (f_X8_readsStatement S) S (ltr L n) 7 (p + 1) (fun S' => (S'.1 82 0 = iI (nv (ltr L n) 1 (p + 1)) ∧ S'.1 82 1 = iI (nv (ltr L n) 2 (p + 2)) ∧ S'.1 82 2 = iI (nv (ltr L n) 2 (p + 4)) ∧ S'.1 82 3 = iI (nv (ltr L n) 2 (p + 6))) ∧ (0 ≤ nv (ltr L n) 1 (p + 1) ∧ nv (ltr L n) 1 (p + 1) ≤ 9) ∧ (0 ≤ nv (ltr L n) 2 (p + 2) ∧ nv (ltr L n) 2 (p + 2) ≤ 99) ∧ (0 ≤ nv (ltr L n) 2 (p + 4) ∧ nv (ltr L n) 2 (p + 4) ≤ 99) ∧ (0 ≤ nv (ltr L n) 2 (p + 6) ∧ nv (ltr L n) 2 (p + 6) ≤ 99)) := by
    rw [f_X8_readsStatement, e1, bs, if_neg (show ¬ iI 118 = 100 by decide), if_neg (show ¬ iI 118 = 103 by decide), if_neg (show ¬ iI 118 = 104 by decide), if_neg (show ¬ iI 118 = 115 by decide), if_neg (show ¬ iI 118 = 116 by decide), if_pos (show iI 118 = 118 from rfl), e2]
    refine rd_num (f := 0) (x := p + 1) (e := 1) (d := 6) k0 (by omega) (by omega) q0 (by omega) f0 (fun S1 => fr00) (fun S1 a1 k1 q1 f1 v1 b1 => ?_)
    dsimp only
    rw [if_neg h10]
    refine rd_num (f := 1) (x := p + 2) (e := 2) (d := 4) k1 (by omega) (by omega) q1 (by omega) f1 (fun S1 => fr00) (fun S2 a2 k2 q2 f2 v2 b2 => ?_)
    dsimp only
    rw [if_neg h10]
    refine rd_num (f := 2) (x := p + 4) (e := 2) (d := 2) k2 (by omega) (by omega) q2 (by omega) f2 (fun S1 => fr00) (fun S3 a3 k3 q3 f3 v3 b3 => ?_)
    dsimp only
    rw [if_neg h10]
    refine rd_num (f := 3) (x := p + 6) (e := 2) (d := 0) k3 (by omega) (by omega) q3 (by omega) f3 (fun S1 => fr00) (fun S4 a4 k4 q4 f4 v4 b4 => ?_)
    dsimp only
    rw [if_neg h10]
    exact rd_end (x := p + 8) k4 (by omega) q4 f4 ⟨⟨(by rw [up_ne (by omega), a4 _ _ (by omega), a3 _ _ (by omega), a2 _ _ (by omega)]; exact v1), (by rw [up_ne (by omega), a4 _ _ (by omega), a3 _ _ (by omega)]; exact v2), (by rw [up_ne (by omega), a4 _ _ (by omega)]; exact v3), (by rw [up_ne (by omega)]; exact v4)⟩, ⟨b1.1, b1.2.2 rfl⟩, ⟨b2.1, b2.2.1⟩, ⟨b3.1, b3.2.1⟩, ⟨b4.1, b4.2.1⟩⟩
  refine RS.of (d := 7) (by rw [hc]; rfl) (by decide) (by rw [hc]; decide) main (fun S' z => ⟨fun w => absurd (hc.symm.trans w) (by decide), fun w => absurd (hc.symm.trans w) (by decide), fun w => absurd (hc.symm.trans w) (by decide), fun w => absurd (hc.symm.trans w) (by decide), fun w => absurd (hc.symm.trans w) (by decide), fun _ => z, fun w => absurd (hc.symm.trans w) (by decide)⟩)
theorem rs_121 (h : IR S L n) {p : Nat} (hp : p ≤ 700) (h1 : S.1 74 10 = iI p) (hc : ltr L n p = 121) : RS S (ltr L n) p := by
  obtain ⟨e1, e2, k0, f0, q0⟩ := rs_start h hp h1 hc
  have main : RD (f_X8_readsStatement S) S (ltr L n) 2 (p + 1) (fun S' => (S'.1 82 0 = iI (nv (ltr L n) 2 (p + 1))) ∧ (0 ≤ nv (ltr L n) 2 (p + 1) ∧ nv (ltr L n) 2 (p + 1) ≤ 99)) := by
    rw [f_X8_readsStatement, e1, bs, if_neg (show ¬ iI 121 = 100 by decide), if_neg (show ¬ iI 121 = 103 by decide), if_neg (show ¬ iI 121 = 104 by decide), if_neg (show ¬ iI 121 = 115 by decide), if_neg (show ¬ iI 121 = 116 by decide), if_neg (show ¬ iI 121 = 118 by decide), if_pos (show iI 121 = 121 from rfl), e2]
    refine rd_num (f := 0) (x := p + 1) (e := 2) (d := 0) k0 (by omega) (by omega) q0 (by omega) f0 (fun S1 => fr00) (fun S1 a1 k1 q1 f1 v1 b1 => ?_)
    dsimp only
    rw [if_neg h10]
    exact rd_end (x := p + 3) k1 (by omega) q1 f1 ⟨(by rw [up_ne (by omega)]; exact v1), ⟨b1.1, b1.2.1⟩⟩
  refine RS.of (d := 2) (by rw [hc]; rfl) (by decide) (by rw [hc]; decide) main (fun S' z => ⟨fun w => absurd (hc.symm.trans w) (by decide), fun w => absurd (hc.symm.trans w) (by decide), fun w => absurd (hc.symm.trans w) (by decide), fun w => absurd (hc.symm.trans w) (by decide), fun w => absurd (hc.symm.trans w) (by decide), fun w => absurd (hc.symm.trans w) (by decide), fun _ => ⟨z.1, z.2.1, z.2.2⟩⟩)
theorem rs_103 (h : IR S L n) {p : Nat} (hp : p ≤ 700) (h1 : S.1 74 10 = iI p) (hc : ltr L n p = 103) : RS S (ltr L n) p := by
  obtain ⟨e1, e2, k0, f0, q0⟩ := rs_start h hp h1 hc
  have frg : ∀ {S1 : St}, ∃ S1', (some (0, up S1 82 2 (S1.1 82 1)) : Option (Int32 × St)) = some (iI 0, S1') ∧ f82 S1 S1' ∧ S1'.1 74 10 = S1.1 74 10 := fun {S1} => ⟨up S1 82 2 (S1.1 82 1), rfl, fun i k hi => up_n (show i ≠ 82 ∨ k ≠ 2 by omega), up_n (show 74 ≠ 82 ∨ 10 ≠ 2 by omega)⟩
  have main : RD (f_X8_readsStatement S) S (ltr L n) 5 (p + 1) (fun S' => (S'.1 82 0 = iI (nv (ltr L n) 1 (p + 1)) ∧ S'.1 82 1 = iI (nv (ltr L n) 2 (p + 2)) ∧ S'.1 82 2 = iI (nv (ltr L n) 2 (p + 2)) ∧ S'.1 82 3 = iI (nv (ltr L n) 2 (p + 4))) ∧ (0 ≤ nv (ltr L n) 1 (p + 1) ∧ nv (ltr L n) 1 (p + 1) ≤ 9) ∧ (0 ≤ nv (ltr L n) 2 (p + 2) ∧ nv (ltr L n) 2 (p + 2) ≤ 99) ∧ (0 ≤ nv (ltr L n) 2 (p + 4) ∧ nv (ltr L n) 2 (p + 4) ≤ 99)) := by
    rw [f_X8_readsStatement, e1, bs, if_neg (show ¬ iI 103 = 100 by decide), if_pos (show iI 103 = 103 from rfl), e2]
    refine rd_num (f := 0) (x := p + 1) (e := 1) (d := 4) k0 (by omega) (by omega) q0 (by omega) f0 (fun S1 => frg) (fun S1 a1 k1 q1 f1 v1 b1 => ?_)
    dsimp only
    rw [if_neg h10]
    refine rd_num (f := 1) (x := p + 2) (e := 2) (d := 2) k1 (by omega) (by omega) q1 (by omega) f1 (fun S1 => frg) (fun S2 a2 k2 q2 f2 v2 b2 => ?_)
    dsimp only
    rw [if_neg h10]
    refine rd_num (f := 3) (x := p + 4) (e := 2) (d := 0) k2 (by omega) (by omega) q2 (by omega) f2 (fun S1 => frg) (fun S3 a3 k3 q3 f3 v3 b3 => ?_)
    dsimp only
    rw [if_neg h10]
    have w1 : S3.1 82 1 = iI (nv (ltr L n) 2 (p + 2)) := by rw [a3 _ _ (by omega)]; exact v2
    rw [w1]
    have f4 : f82 S3 (up S3 82 2 (iI (nv (ltr L n) 2 (p + 2)))) := fun i k hi => up_n (by omega)
    exact rd_end (S := up S3 82 2 (iI (nv (ltr L n) 2 (p + 2)))) (x := p + 6) (k3.f f4) (by omega) (by rw [up_ne (by omega)]; exact q3) (f3.tr f4) ⟨⟨(by rw [up_ne (by omega), up_n (by omega), a3 _ _ (by omega), a2 _ _ (by omega)]; exact v1), (by rw [up_ne (by omega), up_n (by omega)]; exact w1), (by rw [up_ne (by omega), up_s]), (by rw [up_ne (by omega), up_n (by omega)]; exact v3)⟩, ⟨b1.1, b1.2.2 rfl⟩, ⟨b2.1, b2.2.1⟩, ⟨b3.1, b3.2.1⟩⟩
  refine RS.of (d := 5) (by rw [hc]; rfl) (by decide) (by rw [hc]; decide) main (fun S' z => ⟨fun w => absurd (hc.symm.trans w) (by decide), fun _ => z, fun w => absurd (hc.symm.trans w) (by decide), fun w => absurd (hc.symm.trans w) (by decide), fun w => absurd (hc.symm.trans w) (by decide), fun w => absurd (hc.symm.trans w) (by decide), fun w => absurd (hc.symm.trans w) (by decide)⟩)
theorem rKindBy {c : Int} (h : -1 ≤ c ∧ c ≤ 255) : f_X8_kindBy (iI c) = some (iI (if 0 ≤ kdOf c then kdOf c else -9)) := by
  by_cases c0 : c = -1
  · subst c0
    rfl
  · obtain ⟨m, rfl⟩ : ∃ m : Nat, c = m := ⟨c.toNat, by omega⟩
    have h2 : ∀ m, m < 256 → f_X8_kindBy (iI ((m : Nat) : Int)) = some (iI (if 0 ≤ kdOf ((m : Nat) : Int) then kdOf ((m : Nat) : Int) else -9)) := by decide +kernel
    exact h2 m (by omega)
theorem rs_116 (h : IR S L n) {p : Nat} (hp : p ≤ 700) (h1 : S.1 74 10 = iI p) (hc : ltr L n p = 116) : RS S (ltr L n) p := by
  obtain ⟨e1, e2, k0, f0, q0⟩ := rs_start h hp h1 hc
  obtain ⟨S0, hS0⟩ : ∃ S0, S0 = up S 74 10 (iI ((p + 1 : Nat) : Int)) := ⟨_, rfl⟩
  rw [← hS0] at k0 f0 q0
  have b := ltr_b h.2.1 (p + 1)
  have e3 := rHere k0 (p := p + 1) (by omega) q0
  have e4 := rKindBy b
  have kb := kdOf_b (ltr L n (p + 1))
  have e5 : mis (ltr L n) p = if 0 ≤ kdOf (ltr L n (p + 1)) then scan (ltr L n) 1 (p + 2) else ((p + 1 : Nat) : Int) := by
    unfold mis
    rw [if_neg (by rw [hc]; decide), if_pos hc]
  have e6 : parts (ltr L n p) = 2 := by rw [hc]; rfl
  rw [RS, f_X8_readsStatement, e1, bs, if_neg (show ¬ iI 116 = 100 by decide), if_neg (show ¬ iI 116 = 103 by decide), if_neg (show ¬ iI 116 = 104 by decide), if_neg (show ¬ iI 116 = 115 by decide), if_pos (show iI 116 = 116 from rfl), e2, ← hS0, e5, e6]
  by_cases c : 0 ≤ kdOf (ltr L n (p + 1))
  · rw [if_pos c] at e4 ⊢
    obtain ⟨S2, hS2⟩ : ∃ S2, S2 = up (up S0 82 0 (iI (kdOf (ltr L n (p + 1))))) 74 10 (iI ((p + 1 + 1 : Nat) : Int)) := ⟨_, rfl⟩
    have e7 : f_X8_readsKind S0 = some (1, S2) := by
      have u1 : (up S0 82 0 (iI (kdOf (ltr L n (p + 1))))).1 82 0 = iI (kdOf (ltr L n (p + 1))) := up_s
      have u2 : (up S0 82 0 (iI (kdOf (ltr L n (p + 1))))).1 74 10 + 1 = iI ((p + 1 + 1 : Nat) : Int) := by
        rw [up_ne (by omega), q0, show (1 : Int32) = iI 1 from rfl, iI_add]; rfl
      have u3 : S2.1 82 0 = iI (kdOf (ltr L n (p + 1))) := by rw [hS2, up_ne (by omega), up_s]
      rw [f_X8_readsKind, e3, bs, e4, bs, u1, if_pos (by rw [show (0 : Int32) = iI 0 from rfl, iI_le (by omega) (by omega) (by omega) (by omega)]; exact c), u2, ← hS2, u3, if_neg (by rw [show (0 : Int32) = iI 0 from rfl, iI_lt (by omega) (by omega) (by omega) (by omega)]; omega)]
    have f2 : f82 S S2 := fun i k hi => by rw [hS2, up_n (by omega), up_n (by omega)]; exact f0 i k hi
    have main : RD ((f_X8_readsKind S0).bind fun z44 => (if z44.1 = 0 then some (0, z44.2) else (f_X8_readsNumber 1 1 z44.2).bind fun z47 => (if z47.1 = 0 then some (0, z47.2) else (f_X8_here z47.2).bind fun v51 => (if v51 = 59 then some (1, (up z47.2 74 10 ((z47.2.1 74 10) + 1))) else some (0, z47.2))))) S (ltr L n) 1 (p + 2) (fun S' => (S'.1 82 0 = iI (kdOf (ltr L n (p + 1))) ∧ S'.1 82 1 = iI (nv (ltr L n) 1 (p + 2))) ∧ (0 ≤ nv (ltr L n) 1 (p + 2) ∧ nv (ltr L n) 1 (p + 2) ≤ 9)) := by
      rw [e7, bs]
      dsimp only
      rw [if_neg (show ¬ (1 : Int32) = 0 by decide)]
      refine rd_num (f := 1) (x := p + 2) (e := 1) (d := 0) (h.f f2) (by omega) (by omega) (by rw [hS2, up_s]) (by omega) f2 (fun S1 => fr00) (fun S3 a3 k3 q3 f3 v3 b3 => ?_)
      dsimp only
      rw [if_neg h10]
      exact rd_end (x := p + 3) k3 (by omega) q3 f3 ⟨⟨(by rw [up_ne (by omega), a3 _ _ (by omega), hS2, up_ne (by omega), up_s]), (by rw [up_ne (by omega)]; exact v3)⟩, ⟨b3.1, b3.2.2 rfl⟩⟩
    obtain ⟨r, S', a1, a2, a3⟩ := main
    refine ⟨r, S', a1, a2, ?_⟩
    rcases a3 with ⟨b1, b2, b3, b4⟩ | b'
    · left
      exact ⟨b1, b2, b3, ⟨fun w => absurd (hc.symm.trans w) (by decide), fun w => absurd (hc.symm.trans w) (by decide), fun w => absurd (hc.symm.trans w) (by decide), fun w => absurd (hc.symm.trans w) (by decide), fun _ => ⟨b4.1, c, b4.2⟩, fun w => absurd (hc.symm.trans w) (by decide), fun w => absurd (hc.symm.trans w) (by decide)⟩⟩
    · exact Or.inr b'
  · rw [if_neg c] at e4 ⊢
    obtain ⟨S2, hS2⟩ : ∃ S2, S2 = up (up S0 82 0 (iI (-9))) 74 10 (iI ((p + 1 : Nat) : Int)) := ⟨_, rfl⟩
    have e7 : f_X8_readsKind S0 = some (0, S2) := by
      have u1 : (up S0 82 0 (iI (-9))).1 82 0 = iI (-9) := up_s
      have u2 : (up S0 82 0 (iI (-9))).1 74 10 + 0 = iI ((p + 1 : Nat) : Int) := by
        rw [up_ne (by omega), q0, show (0 : Int32) = iI 0 from rfl, iI_add, Int.add_zero]
      have u3 : S2.1 82 0 = iI (-9) := by rw [hS2, up_ne (by omega), up_s]
      rw [f_X8_readsKind, e3, bs, e4, bs, u1, if_neg (by decide), u2, ← hS2, u3, if_pos (by decide)]
    rw [e7, bs]
    dsimp only
    rw [if_pos rfl]
    exact ⟨0, S2, rfl, fun i k hi => by rw [hS2, up_n (by omega), up_n (by omega)]; exact f0 i k hi, Or.inr ⟨rfl, p + 1, by rw [hS2, up_s], rfl⟩⟩
theorem rs_no (h : IR S L n) {p : Nat} (hp : p ≤ 700) (h1 : S.1 74 10 = iI p) (hc : parts (ltr L n p) = 0) : RS S (ltr L n) p := by
  obtain ⟨e1, e2, k0, f0, q0⟩ := rs_start h hp h1 rfl
  have b := ltr_b h.2.1 p
  have ne : ∀ c : Int, parts c ≠ 0 → ltr L n p ≠ c := fun c hn z => hn (by rw [← z]; exact hc)
  have n1 := ne 100 (by decide)
  have n2 := ne 103 (by decide)
  have n3 := ne 104 (by decide)
  have n4 := ne 115 (by decide)
  have n5 := ne 116 (by decide)
  have n6 := ne 118 (by decide)
  have n7 := ne 121 (by decide)
  have e5 : mis (ltr L n) p = (p : Int) := if_pos hc
  have u2 : (up S 74 10 (iI ((p + 1 : Nat) : Int))).1 74 10 - 1 = iI p := by
    rw [q0, show (1 : Int32) = iI 1 from rfl, iI_sub]
    congr 1
    omega
  have ng : ∀ c : Int, -1 ≤ c → c ≤ 255 → ltr L n p ≠ c → ¬ iI (ltr L n p) = iI c := fun c h1 h2 h3 => by rw [iI_eq (by omega) (by omega) (by omega) (by omega)]; exact h3
  refine ⟨0, up (up S 74 10 (iI ((p + 1 : Nat) : Int))) 74 10 (iI p), ?_, fun i k hi => by rw [up_n (by omega), up_n (by omega)], Or.inr ⟨rfl, p, up_s, e5⟩⟩
  rw [f_X8_readsStatement, e1, bs, if_neg (show ¬ iI (ltr L n p) = 100 from ng 100 (by omega) (by omega) n1), if_neg (show ¬ iI (ltr L n p) = 103 from ng 103 (by omega) (by omega) n2), if_neg (show ¬ iI (ltr L n p) = 104 from ng 104 (by omega) (by omega) n3), if_neg (show ¬ iI (ltr L n p) = 115 from ng 115 (by omega) (by omega) n4), if_neg (show ¬ iI (ltr L n p) = 116 from ng 116 (by omega) (by omega) n5), if_neg (show ¬ iI (ltr L n p) = 118 from ng 118 (by omega) (by omega) n6), if_neg (show ¬ iI (ltr L n p) = 121 from ng 121 (by omega) (by omega) n7), e2, u2]
  rfl
theorem parts_c (c : Int) : parts c = 0 ∨ c = 100 ∨ c = 103 ∨ c = 104 ∨ c = 115 ∨ c = 116 ∨ c = 118 ∨ c = 121 := by
  unfold parts
  repeat (first | omega | split)
theorem rSt (h : IR S L n) {p : Nat} (hp : p ≤ 700) (h1 : S.1 74 10 = iI p) : RS S (ltr L n) p := by
  rcases parts_c (ltr L n p) with c | c | c | c | c | c | c | c
  · exact rs_no h hp h1 c
  · exact rs_100 h hp h1 c
  · exact rs_103 h hp h1 c
  · exact rs_104 h hp h1 c
  · exact rs_115 h hp h1 c
  · exact rs_116 h hp h1 c
  · exact rs_118 h hp h1 c
  · exact rs_121 h hp h1 c
end RL
