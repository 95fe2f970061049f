-- ===== the reference reads =====
def f82 (S S' : St) : Prop := ∀ i k, ¬ (i = 82 ∨ (i = 74 ∧ k = 10)) → S'.1 i k = S.1 i k
def nFr (f : Nat) (S S' : St) : Prop := ∀ i k, ¬ ((i = 82 ∧ k = f) ∨ (i = 74 ∧ k = 10)) → S'.1 i k = S.1 i k
theorem nFr.f {f : Nat} {S S' : St} (h : nFr f S S') : f82 S S' := fun i k hi => h i k (by omega)
theorem f82.tr {S S' S'' : St} (h : f82 S S') (h' : f82 S' S'') : f82 S S'' := fun i k hi => (h' i k hi).trans (h i k hi)
theorem IR.f {S S' : St} {L : Nat → Int} {n : Nat} (h : IR S L n) (hf : f82 S S') : IR S' L n :=
  ⟨h.1, h.2.1, by rw [hf _ _ (by omega)]; exact h.2.2.1, fun p hp => by rw [hf _ _ (by omega)]; exact h.2.2.2 p hp⟩
def nv (l : Nat → Int) (e p : Nat) : Int := if e = 1 then l p - 48 else 10 * (l p - 48) + l (p + 1) - 48
theorem h10 : ¬ (iI 1 : Int32) = 0 := by decide
theorem h00 : (iI 0 : Int32) = 0 := rfl
section RN
variable {S : St} {L : Nat → Int} {n : Nat}
theorem rDig (h : IR S L n) {p : Nat} (hp : p ≤ 900) (h1 : S.1 74 10 = iI p) : f_X8_here S = some (iI (ltr L n p)) ∧ f_X8_isIn (iI (ltr L n p)) (iI 48) (iI 57) = some (iI (if 48 ≤ ltr L n p ∧ ltr L n p ≤ 57 then 1 else 0)) := by
  have b := ltr_b h.2.1 p
  exact ⟨rHere h (by omega) h1, rIn (by omega) (by omega) (by omega) (by omega) (by omega) (by omega)⟩
theorem rNumS (h : IR S L n) {p f i : Nat} (hp : p ≤ 900) (hf : f < 4) (h1 : S.1 74 10 = iI p) {acc len : Int} (h2 : S.1 82 f = iI acc) (hl : (i : Int) < len ∧ len ≤ 9) {k28 k69 : St → Option (Int32 × St)} (m : Nat) (hd : 48 ≤ ltr L n p ∧ ltr L n p ≤ 57) :
    f_X8_readsNumber_L9 (m + 1) (iI f) (iI len) (iI i) S k28 k69 = f_X8_readsNumber_L9 m (iI f) (iI len) (iI ((i + 1 : Nat) : Int)) (up (up S 82 f (iI (10 * acc + ltr L n p - 48))) 74 10 (iI ((p + 1 : Nat) : Int))) k28 k69 := by
  obtain ⟨e1, e2⟩ := rDig h hp h1
  rw [if_pos hd] at e2
  have j1 : (iI (f : Int)).toNatClampNeg = f := by rw [iI_clamp (by omega) (by omega)]; rfl
  have j2 : ¬ (iI (f : Int) < 0 ∨ 4 ≤ f) := by rw [show (0 : Int32) = iI 0 from rfl, iI_lt (by omega) (by omega) (by omega) (by omega)]; omega
  have e3 : iI (i : Int) + 1 = iI ((i + 1 : Nat) : Int) := by rw [show (1 : Int32) = iI 1 from rfl, iI_add]; rfl
  have e4 : ¬ iI len ≤ iI (i : Int) := by rw [iI_le (by omega) (by omega) (by omega) (by omega)]; omega
  have e5 : (up S 82 f (iI (10 * acc + ltr L n p - 48))).1 74 10 = iI p := by rw [up_ne (by omega)]; exact h1
  have e6 : iI (p : Int) + 1 = iI ((p + 1 : Nat) : Int) := by rw [show (1 : Int32) = iI 1 from rfl, iI_add]; rfl
  rw [f_X8_readsNumber_L9, if_neg e4, e1, bs, show (48 : Int32) = iI 48 from rfl, show (57 : Int32) = iI 57 from rfl, e2, bs, if_neg h10, j1, if_neg j2, bs, if_neg j2, h2, show (10 : Int32) = iI 10 from rfl, iI_mul, iI_add, iI_sub, e5, e6, e3]
theorem rNumF (h : IR S L n) {p f i : Nat} (hp : p ≤ 900) (h1 : S.1 74 10 = iI p) {len : Int} (hl : (i : Int) < len ∧ len ≤ 9) {k28 k69 : St → Option (Int32 × St)} (m : Nat) (hd : ¬ (48 ≤ ltr L n p ∧ ltr L n p ≤ 57)) :
    f_X8_readsNumber_L9 (m + 1) (iI f) (iI len) (iI i) S k28 k69 = k28 S := by
  obtain ⟨e1, e2⟩ := rDig h hp h1
  rw [if_neg hd] at e2
  have e4 : ¬ iI len ≤ iI (i : Int) := by rw [iI_le (by omega) (by omega) (by omega) (by omega)]; omega
  rw [f_X8_readsNumber_L9, if_neg e4, e1, bs, show (48 : Int32) = iI 48 from rfl, show (57 : Int32) = iI 57 from rfl, e2, bs, if_pos h00]
theorem rNumE {f i : Nat} (hi : i ≤ 9) {k28 k69 : St → Option (Int32 × St)} (m : Nat) : f_X8_readsNumber_L9 (m + 1) (iI f) (iI i) (iI i) S k28 k69 = k69 S := by
  rw [f_X8_readsNumber_L9, if_pos (by rw [iI_le (by omega) (by omega) (by omega) (by omega)]; omega)]
theorem rNum0 {f : Nat} (hf : f < 4) {len : Int32} : f_X8_readsNumber (iI f) len S = f_X8_readsNumber_L9 2000 (iI f) len 0 (up S 82 f (iI 0)) (fun S9 => some (0, S9)) (fun S10 => some (1, S10)) := by
  have j1 : (iI (f : Int)).toNatClampNeg = f := by rw [iI_clamp (by omega) (by omega)]; rfl
  have j2 : ¬ (iI (f : Int) < 0 ∨ 4 ≤ f) := by rw [show (0 : Int32) = iI 0 from rfl, iI_lt (by omega) (by omega) (by omega) (by omega)]; omega
  rw [f_X8_readsNumber, j1, if_neg j2]
  rfl
theorem rNum {f p e : Nat} (h : IR S L n) (hf : f < 4) (hp : p ≤ 800) (h1 : S.1 74 10 = iI p) (he : e = 1 ∨ e = 2) :
    ∃ (r : Int) (S' : St), f_X8_readsNumber (iI f) (iI e) S = some (iI r, S') ∧ nFr f S S' ∧ ((r = 1 ∧ S'.1 74 10 = iI ((p + e : Nat) : Int) ∧ S'.1 82 f = iI (nv (ltr L n) e p) ∧ (0 ≤ nv (ltr L n) e p ∧ nv (ltr L n) e p ≤ 99 ∧ (e = 1 → nv (ltr L n) e p ≤ 9)) ∧ ∀ d, scan (ltr L n) (d + e) p = scan (ltr L n) d (p + e)) ∨ (r = 0 ∧ ∃ q : Nat, S'.1 74 10 = iI q ∧ ∀ d, scan (ltr L n) (d + e) p = (q : Int))) := by
  obtain ⟨S0, hS0⟩ : ∃ S0, S0 = up S 82 f (iI 0) := ⟨_, rfl⟩
  have fr0 : nFr f S S0 := fun i k hi => by rw [hS0, up_n (by omega)]
  have hI0 := h.f fr0.f
  have p0 : S0.1 74 10 = iI p := by rw [hS0, up_ne (by omega)]; exact h1
  have v0 : S0.1 82 f = iI 0 := by rw [hS0, up_s]
  by_cases c : 48 ≤ ltr L n p ∧ ltr L n p ≤ 57
  · obtain ⟨S1, hS1⟩ : ∃ S1, S1 = up (up S0 82 f (iI (10 * 0 + ltr L n p - 48))) 74 10 (iI ((p + 1 : Nat) : Int)) := ⟨_, rfl⟩
    have fr1 : nFr f S S1 := fun i k hi => by rw [hS1, up_n (by omega), up_n (by omega)]; exact fr0 i k hi
    have hI1 := h.f fr1.f
    have p1 : S1.1 74 10 = iI ((p + 1 : Nat) : Int) := by rw [hS1, up_s]
    have v1 : S1.1 82 f = iI (10 * 0 + ltr L n p - 48) := by rw [hS1, up_ne (by omega), up_s]
    have sc1 : ∀ d, scan (ltr L n) (d + 1) p = scan (ltr L n) d (p + 1) := fun d => by rw [scan, if_pos c]
    rcases he with rfl | rfl
    · have s1 := rNumS hI0 (p := p) (f := f) (i := 0) (by omega) hf p0 (acc := 0) (len := ((1 : Nat) : Int)) v0 (by omega) (k28 := fun S9 => some (0, S9)) (k69 := fun S10 => some (1, S10)) 1999 c
      rw [← hS1] at s1
      have s2 := rNumE (S := S1) (f := f) (i := 1) (by omega) (k28 := fun S9 => some (0, S9)) (k69 := fun S10 => some (1, S10)) 1998
      refine ⟨1, S1, ?_, fr1, Or.inl ⟨rfl, p1, ?_, ?_, sc1⟩⟩
      · rw [rNum0 hf, ← hS0]
        exact s1.trans s2
      · rw [v1]
        congr 1
        show 10 * 0 + ltr L n p - 48 = ltr L n p - 48
        omega
      · show 0 ≤ ltr L n p - 48 ∧ ltr L n p - 48 ≤ 99 ∧ (1 = 1 → ltr L n p - 48 ≤ 9)
        omega
    · have s1 := rNumS hI0 (p := p) (f := f) (i := 0) (by omega) hf p0 (acc := 0) (len := ((2 : Nat) : Int)) v0 (by omega) (k28 := fun S9 => some (0, S9)) (k69 := fun S10 => some (1, S10)) 1999 c
      rw [← hS1] at s1
      by_cases c2 : 48 ≤ ltr L n (p + 1) ∧ ltr L n (p + 1) ≤ 57
      · have s2 := rNumS hI1 (p := p + 1) (f := f) (i := 1) (by omega) hf p1 (len := ((2 : Nat) : Int)) v1 (by omega) (k28 := fun S9 => some (0, S9)) (k69 := fun S10 => some (1, S10)) 1998 c2
        obtain ⟨S2, hS2⟩ : ∃ S2, S2 = up (up S1 82 f (iI (10 * (10 * 0 + ltr L n p - 48) + ltr L n (p + 1) - 48))) 74 10 (iI ((p + 1 + 1 : Nat) : Int)) := ⟨_, rfl⟩
        rw [← hS2] at s2
        have s3 := rNumE (S := S2) (f := f) (i := 2) (by omega) (k28 := fun S9 => some (0, S9)) (k69 := fun S10 => some (1, S10)) 1997
        refine ⟨1, S2, ?_, fun i k hi => by rw [hS2, up_n (by omega), up_n (by omega)]; exact fr1 i k hi, Or.inl ⟨rfl, by rw [hS2, up_s], ?_, ?_, fun d => ?_⟩⟩
        · rw [rNum0 hf, ← hS0]
          exact s1.trans (s2.trans s3)
        · rw [hS2, up_ne (by omega), up_s]
          congr 1
          show 10 * (10 * 0 + ltr L n p - 48) + ltr L n (p + 1) - 48 = 10 * (ltr L n p - 48) + ltr L n (p + 1) - 48
          omega
        · show 0 ≤ 10 * (ltr L n p - 48) + ltr L n (p + 1) - 48 ∧ 10 * (ltr L n p - 48) + ltr L n (p + 1) - 48 ≤ 99 ∧ (2 = 1 → _)
          exact ⟨by omega, by omega, fun z => absurd z (by omega)⟩
        · show scan (ltr L n) (d + 1 + 1) p = _
          rw [sc1 (d + 1), scan, if_pos c2]
      · have s2 := rNumF hI1 (p := p + 1) (f := f) (i := 1) (by omega) p1 (len := ((2 : Nat) : Int)) (by omega) (k28 := fun S9 => some (0, S9)) (k69 := fun S10 => some (1, S10)) 1998 c2
        refine ⟨0, S1, ?_, fr1, Or.inr ⟨rfl, p + 1, p1, fun d => ?_⟩⟩
        · rw [rNum0 hf, ← hS0]
          exact s1.trans s2
        · show scan (ltr L n) (d + 1 + 1) p = _
          rw [sc1 (d + 1), scan, if_neg c2]
  · have s1 : ∀ len : Int, 0 < len ∧ len ≤ 9 → f_X8_readsNumber_L9 2000 (iI f) (iI len) (iI ((0 : Nat) : Int)) S0 (fun S9 => some (0, S9)) (fun S10 => some (1, S10)) = some (0, S0) := fun len hl => rNumF hI0 (p := p) (f := f) (i := 0) (by omega) p0 (len := len) (by omega) (k28 := fun S9 => some (0, S9)) (k69 := fun S10 => some (1, S10)) 1999 c
    refine ⟨0, S0, ?_, fr0, Or.inr ⟨rfl, p, p0, fun d => ?_⟩⟩
    · rw [rNum0 hf, ← hS0]
      rcases he with rfl | rfl
      · exact s1 1 (by omega)
      · exact s1 2 (by omega)
    · rcases he with rfl | rfl
      · rw [scan, if_neg c]
      · show scan (ltr L n) (d + 1 + 1) p = _
        rw [scan, if_neg c]
/-- what a reading comes to: 1, the place behind; or 0 and the place of the misfit -/
def RD (T : Option (Int32 × St)) (S0 : St) (l : Nat → Int) (d x : Nat) (P : St → Prop) : Prop := ∃ (r : Int) (S' : St), T = some (iI r, S') ∧ f82 S0 S' ∧ ((r = 1 ∧ scan l d x = -9 ∧ S'.1 74 10 = iI ((x + d + 1 : Nat) : Int) ∧ P S') ∨ (r = 0 ∧ ∃ q : Nat, S'.1 74 10 = iI q ∧ scan l d x = (q : Int)))
theorem rd_num {S0 : St} {f x e d : Nat} {P : St → Prop} {C : Int32 × St → Option (Int32 × St)} (h : IR S L n) (hf : f < 4) (hx : x ≤ 800) (h1 : S.1 74 10 = iI x) (he : e = 1 ∨ e = 2) (h0 : f82 S0 S)
    (hF : ∀ S1, ∃ S1', C (iI 0, S1) = some (iI 0, S1') ∧ f82 S1 S1' ∧ S1'.1 74 10 = S1.1 74 10)
    (hK : ∀ S1, nFr f S S1 → IR S1 L n → S1.1 74 10 = iI ((x + e : Nat) : Int) → f82 S0 S1 → S1.1 82 f = iI (nv (ltr L n) e x) → 0 ≤ nv (ltr L n) e x ∧ nv (ltr L n) e x ≤ 99 ∧ (e = 1 → nv (ltr L n) e x ≤ 9) → RD (C (iI 1, S1)) S0 (ltr L n) d (x + e) P) :
    RD ((f_X8_readsNumber (iI f) (iI e) S).bind C) S0 (ltr L n) (d + e) x P := by
  obtain ⟨r, S1, a1, a2, a3⟩ := rNum h hf hx h1 he
  rw [a1]
  rcases a3 with ⟨rfl, b1, b2, b3, b4⟩ | ⟨rfl, q, b1, b2⟩
  · obtain ⟨r, S', c1, c2, c3⟩ := hK S1 a2 (h.f a2.f) b1 (h0.tr a2.f) b2 b3
    refine ⟨r, S', c1, c2, ?_⟩
    rw [b4 d]
    rcases c3 with ⟨c3, c4, c5, c6⟩ | c3
    · left
      exact ⟨c3, c4, by rw [c5, show x + e + d + 1 = x + (d + e) + 1 by omega], c6⟩
    · exact Or.inr c3
  · obtain ⟨S1', c1, c2, c3⟩ := hF S1
    exact ⟨0, S1', c1, (h0.tr a2.f).tr c2, Or.inr ⟨rfl, q, by rw [c3]; exact b1, b2 d⟩⟩
theorem rd_end {S0 : St} {x : Nat} {P : St → Prop} (h : IR S L n) (hx : x ≤ 800) (h1 : S.1 74 10 = iI x) (h0 : f82 S0 S) (hP : P (up S 74 10 (iI ((x + 1 : Nat) : Int)))) :
    RD ((f_X8_here S).bind fun v => if v = 59 then some (1, up S 74 10 (S.1 74 10 + 1)) else some (0, S)) S0 (ltr L n) 0 x P := by
  have e1 := rHere h (p := x) (by omega) h1
  have b := ltr_b h.2.1 x
  have e2 : S.1 74 10 + 1 = iI ((x + 1 : Nat) : Int) := by rw [h1, show (1 : Int32) = iI 1 from rfl, iI_add]; rfl
  rw [e1, bs, e2]
  by_cases c : ltr L n x = 59
  · rw [if_pos (by rw [c]; rfl)]
    refine ⟨1, _, rfl, h0.tr (fun i k hi => up_n (by omega)), Or.inl ⟨rfl, ?_, up_s, hP⟩⟩
    rw [scan, if_pos c]
  · rw [if_neg (by rw [show (59 : Int32) = iI 59 from rfl, iI_eq (by omega) (by omega) (by omega) (by omega)]; exact c)]
    refine ⟨0, S, rfl, h0, Or.inr ⟨rfl, x, h1, ?_⟩⟩
    rw [scan, if_neg c]
theorem fr00 {S1 : St} : ∃ S1', (some (0, S1) : Option (Int32 × St)) = some (iI 0, S1') ∧ f82 S1 S1' ∧ S1'.1 74 10 = S1.1 74 10 := ⟨S1, rfl, fun _ _ _ => rfl, rfl⟩
/-- the numbers of a statement -/
def NB (l : Nat → Int) (p : Nat) (S' : St) : Prop :=
  (l p = 100 → S'.1 82 0 = iI (nv l 2 (p + 1)) ∧ 0 ≤ nv l 2 (p + 1) ∧ nv l 2 (p + 1) ≤ 99) ∧
  (l p = 103 → (S'.1 82 0 = iI (nv l 1 (p + 1)) ∧ S'.1 82 1 = iI (nv l 2 (p + 2)) ∧ S'.1 82 2 = iI (nv l 2 (p + 2)) ∧ S'.1 82 3 = iI (nv l 2 (p + 4))) ∧ (0 ≤ nv l 1 (p + 1) ∧ nv l 1 (p + 1) ≤ 9) ∧ (0 ≤ nv l 2 (p + 2) ∧ nv l 2 (p + 2) ≤ 99) ∧ (0 ≤ nv l 2 (p + 4) ∧ nv l 2 (p + 4) ≤ 99)) ∧
  (l p = 104 → (S'.1 82 0 = iI (nv l 1 (p + 1)) ∧ S'.1 82 1 = iI (nv l 1 (p + 2))) ∧ (0 ≤ nv l 1 (p + 1) ∧ nv l 1 (p + 1) ≤ 9) ∧ (0 ≤ nv l 1 (p + 2) ∧ nv l 1 (p + 2) ≤ 9)) ∧
  (l p = 115 → (S'.1 82 0 = iI (nv l 1 (p + 1)) ∧ S'.1 82 1 = iI (nv l 2 (p + 2)) ∧ S'.1 82 2 = iI (nv l 1 (p + 4))) ∧ (0 ≤ nv l 1 (p + 1) ∧ nv l 1 (p + 1) ≤ 9) ∧ (0 ≤ nv l 2 (p + 2) ∧ nv l 2 (p + 2) ≤ 99) ∧ (0 ≤ nv l 1 (p + 4) ∧ nv l 1 (p + 4) ≤ 9)) ∧
  (l p = 116 → (S'.1 82 0 = iI (kdOf (l (p + 1))) ∧ S'.1 82 1 = iI (nv l 1 (p + 2))) ∧ (0 ≤ kdOf (l (p + 1))) ∧ (0 ≤ nv l 1 (p + 2) ∧ nv l 1 (p + 2) ≤ 9)) ∧
  (l p = 118 → (S'.1 82 0 = iI (nv l 1 (p + 1)) ∧ S'.1 82 1 = iI (nv l 2 (p + 2)) ∧ S'.1 82 2 = iI (nv l 2 (p + 4)) ∧ S'.1 82 3 = iI (nv l 2 (p + 6))) ∧ (0 ≤ nv l 1 (p + 1) ∧ nv l 1 (p + 1) ≤ 9) ∧ (0 ≤ nv l 2 (p + 2) ∧ nv l 2 (p + 2) ≤ 99) ∧ (0 ≤ nv l 2 (p + 4) ∧ nv l 2 (p + 4) ≤ 99) ∧ (0 ≤ nv l 2 (p + 6) ∧ nv l 2 (p + 6) ≤ 99)) ∧
  (l p = 121 → S'.1 82 0 = iI (nv l 2 (p + 1)) ∧ 0 ≤ nv l 2 (p + 1) ∧ nv l 2 (p + 1) ≤ 99)
/-- what the reference's reading of a statement comes to -/
def RS (S : St) (l : Nat → Int) (p : Nat) : Prop := ∃ (r : Int) (S' : St), f_X8_readsStatement S = some (iI r, S') ∧ f82 S S' ∧ ((r = 1 ∧ mis l p = -9 ∧ S'.1 74 10 = iI ((p + parts (l p) + 2 : Nat) : Int) ∧ NB l p S') ∨ (r = 0 ∧ ∃ q : Nat, S'.1 74 10 = iI q ∧ mis l p = (q : Int)))
theorem RS.of {l : Nat → Int} {p d : Nat} {P : St → Prop} (hd : d = parts (l p)) (hd0 : d ≠ 0) (h6 : l p ≠ 116) (h : RD (f_X8_readsStatement S) S l d (p + 1) P) (hP : ∀ S', P S' → NB l p S') : RS S l p := by
  obtain ⟨r, S', a1, a2, a3⟩ := h
  have e : mis l p = scan l d (p + 1) := by
    unfold mis
    rw [if_neg (by omega), if_neg h6, hd]
  refine ⟨r, S', a1, a2, ?_⟩
  rw [e]
  rcases a3 with ⟨b1, b2, b3, b4⟩ | b
  · left
    exact ⟨b1, b2, by rw [b3, ← hd, show p + 1 + d + 1 = p + d + 2 by omega], hP S' b4⟩
  · exact Or.inr b
end RN
