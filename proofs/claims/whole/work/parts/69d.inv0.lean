-- ===== at the start =====
def a00 : Nat → Int := fun k => if k = 2 then 20 else if k = 3 then 1 else 0
theorem a00_z {k : Nat} (h2 : k ≠ 2) (h3 : k ≠ 3) : a00 k = 0 := by
  unfold a00
  rw [if_neg h2, if_neg h3]
theorem a00_wf : WFa a00 := by
  have e0 := a00_z (k := 0) (by omega) (by omega)
  have e1 := a00_z (k := 1) (by omega) (by omega)
  have e2 : a00 2 = 20 := rfl
  have e3 : a00 3 = 1 := rfl
  refine ⟨by omega, by omega, by omega, by omega, fun j hj => ⟨?_, ?_, ?_, fun y hy => ?_, ?_⟩, fun i j hi hj hb => ?_⟩
  · rw [a00_z (by omega) (by omega)]; omega
  · rw [a00_z (by omega) (by omega)]; omega
  · rw [a00_z (by omega) (by omega)]; omega
  · rw [a00_z (by omega) (by omega)]; omega
  · rw [a00_z (by omega) (by omega)]; omega
  · rw [a00_z (by omega) (by omega)] at hb
    unfold bitI at hb
    rw [show (0 : Int).toNat = 0 from rfl, Nat.zero_testBit] at hb
    cases hb
theorem inv_S0 : Inv S0 := by
  refine ⟨⟨a00, a00_wf, ⟨?_, ?_, fun j hj hl => ?_⟩, ?_⟩, ⟨0, by omega, ?_, ?_, fun k hk => absurd hk (by omega)⟩, ⟨0, by omega, ?_, ?_, fun k hk => absurd hk (by omega)⟩, ?_, ?_, Or.inl ?_⟩
  · exact (by decide +kernel : ∀ k, k < 4 → S0.1 1 k = iI (a00 k))
  · exact (by decide +kernel : ∀ j, j < 8 → S0.1 (1 + 2) j = iI (a00 (124 + j)))
  · rw [a00_z (k := 0) (by omega) (by omega)] at hl
    omega
  · exact (by decide +kernel : ∀ k, k < 132 → S0.1 75 k = iI (a00 k))
  · exact (by decide +kernel : S0.1 60 1 = iI ((0 : Nat) : Int))
  · exact (by decide +kernel : S0.1 74 8 = iI ((0 : Nat) : Int))
  · exact (by decide +kernel : S0.1 62 1 = iI ((0 : Nat) : Int))
  · exact (by decide +kernel : S0.1 74 9 = iI ((0 : Nat) : Int))
  · exact (by decide +kernel : ∀ k, k < 7 → S0.1 73 k = S0.1 81 k)
  · exact (by decide +kernel : S0.1 0 11 = S0.1 74 4)
  · exact (by decide +kernel : S0.1 0 11 = 0)
