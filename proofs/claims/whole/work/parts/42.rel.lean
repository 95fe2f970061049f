-- ===== what holds between calls: a shop is a row of whole numbers, laid as the reference lays it =====
def bitI (a : Int) (b : Nat) : Bool := a.toNat.testBit b
def WFa (a : Nat → Int) : Prop :=
  (0 ≤ a 0 ∧ a 0 ≤ 8) ∧ (0 ≤ a 1 ∧ a 1 ≤ 11) ∧ (0 ≤ a 2 ∧ a 2 ≤ 99) ∧ (1 ≤ a 3 ∧ a 3 ≤ 4) ∧
  (∀ j, j < 8 → (0 ≤ a (4 + j) ∧ a (4 + j) ≤ 5) ∧ (0 ≤ a (12 + j) ∧ a (12 + j) ≤ 9) ∧ (a (20 + j) = -9 ∨ (0 ≤ a (20 + j) ∧ a (20 + j) ≤ 11)) ∧ (∀ y, y < 12 → 0 ≤ a (28 + 12 * j + y) ∧ a (28 + 12 * j + y) ≤ 99) ∧ (0 ≤ a (124 + j) ∧ a (124 + j) ≤ 255)) ∧
  (∀ i j : Nat, i < 8 → j < 8 → bitI (a (124 + i)) j = true → bitI (a (124 + j)) i = true ∧ i ≠ j ∧ (i : Int) < a 0 ∧ (j : Int) < a 0)
/-- the class' shop at q -/
def RC (S : St) (q : Nat) (a : Nat → Int) : Prop :=
  (∀ k, k < 4 → S.1 q k = iI (a k)) ∧ (∀ j, j < 8 → S.1 (q + 2) j = iI (a (124 + j))) ∧
  ∀ j : Nat, j < 8 → (j : Int) < a 0 → S.1 (q + 1 + 2 + 2 * j) 0 = iI (a (4 + j)) ∧ S.1 (q + 1 + 2 + 2 * j) 1 = iI (a (12 + j)) ∧ S.1 (q + 1 + 2 + 2 * j) 2 = iI (a (20 + j)) ∧ ∀ y, y < 12 → S.1 (q + 1 + 2 + 2 * j + 1) y = iI (a (28 + 12 * j + y))
/-- the reference's row at q -/
def RM (S : St) (q : Nat) (a : Nat → Int) : Prop := ∀ k, k < 132 → S.1 q k = iI (a k)
def Both (S : St) (q r : Nat) : Prop := ∃ a : Nat → Int, WFa a ∧ RC S q a ∧ RM S r a
def InvText (S : St) : Prop := ∃ n : Nat, n ≤ 96 ∧ S.1 60 1 = iI n ∧ S.1 74 8 = iI n ∧ ∀ k, k < n → S.1 79 k = S.1 61 k ∧ ∃ c : Nat, c ≤ 255 ∧ S.1 61 k = iI c
def InvRow (S : St) : Prop := ∃ n : Nat, n ≤ 16 ∧ S.1 62 1 = iI n ∧ S.1 74 9 = iI n ∧ ∀ k, k < n → S.1 80 k = S.1 63 k
def Inv (S : St) : Prop :=
  Both S 1 75 ∧ InvText S ∧ InvRow S ∧ (∀ k, k < 7 → S.1 73 k = S.1 81 k) ∧ S.1 0 11 = S.1 74 4 ∧ (S.1 0 11 = 0 ∨ (S.1 0 11 = 1 ∧ Both S 20 77))
