theorem e_shop {S : St} (hS : Inv S)  : ∃ (z1 : Int32 × St) (z2 : Int32 × St), f_X7_shop S = some z1 ∧ f_X8_shop z1.2 = some z2 ∧ z1.1 = z2.1 ∧ Inv z2.2 := by
  obtain ⟨⟨a, hw, hc, hm0⟩, -⟩ := id hS
  have hm : ∀ k, k < 132 → S.1 75 k = iI (a k) := hm0
  have h8 := hw.1
  have w1 := hw.2.1
  have w2 := hw.2.2.1
  have w3 := hw.2.2.2.1
  obtain ⟨now, hnow⟩ : ∃ n : Nat, a 1 = n := ⟨(a 1).toNat, by omega⟩
  obtain ⟨N, hN⟩ : ∃ n : Nat, a 0 = n := ⟨(a 0).toNat, by omega⟩
  have hn : now ≤ 11 := by omega
  have hN8 : N ≤ 8 := by omega
  have p1 : S.1 1 1 = iI now := by rw [hc.1 1 (by omega), hnow]
  have p0 : S.1 1 0 = iI N := by rw [hc.1 0 (by omega), hN]
  have m0 : S.1 75 0 = iI N := by rw [hm 0 (by omega), hN]
  have m1 : S.1 75 1 = iI now := by rw [hm 1 (by omega), hnow]
  obtain ⟨_, ⟨n, t1, t2, t3, t4⟩, _⟩ := id hS
  obtain ⟨L, hL⟩ : ∃ L : Nat → Int, ∀ p, p < n → (0 ≤ L p ∧ L p ≤ 255) ∧ S.1 61 p = iI (L p) := by
    refine ⟨fun p => (S.1 61 p).toInt, fun p hp => ⟨?_, iI_of _⟩⟩
    obtain ⟨_, c, hc1, hc2⟩ := t4 p hp
    show 0 ≤ (S.1 61 p).toInt ∧ (S.1 61 p).toInt ≤ 255
    rw [hc2, iI_toInt (by omega) (by omega)]
    omega
  have hI : IT S L n := ⟨t1, fun p hp => (hL p hp).1, t2, fun p hp => (hL p hp).2⟩
  have hR : IR S L n := ⟨t1, fun p hp => (hL p hp).1, t3, fun p hp => by rw [(t4 p hp).1]; exact (hL p hp).2⟩
  have n9 : (-9 : Int32) = iI (-9) := rfl
  have fb := fm_b (ltr L n) n 25 0 (by omega) t1
  have cb := cs_le (ltr L n) n 25 0
  have fmN : n = 0 → mis (ltr L n) 0 = 0 := fun z => by
    subst z
    have e : ltr L 0 0 = -1 := if_neg (by omega)
    unfold mis
    rw [e, if_pos (by decide)]
    rfl
  have e1 : 0 < n → f_X5_firstMisfit_L13 2000 (iI ((0 : Nat) : Int)) (iI ((0 : Nat) : Int)) S (fun y => some y) (fun _ => some (iI (-9))) = some (iI (fm (ltr L n) n 25 0)) := fun _ => by
    have h := cFM hI (k39 := fun y => some y) (k53 := fun _ => some (iI (-9))) 25 2000 0 0 (by omega) (by omega) (by omega) (by omega)
    rw [h]
    by_cases c : fm (ltr L n) n 25 0 = -9
    · rw [if_pos c, c]
    · rw [if_neg c]
  -- the first misfit, told by both
  obtain ⟨F, hF⟩ : ∃ F : Int, F = if n = 0 then 0 else fm (ltr L n) n 25 0 := ⟨_, rfl⟩
  have eF : f_X5_firstMisfit S = some (iI F) := by
    rw [f_X5_firstMisfit, t2]
    by_cases c : n = 0
    · rw [hF, if_pos c, c, if_pos (show iI ((0 : Nat) : Int) = 0 from rfl)]
      rfl
    · rw [hF, if_neg c, if_neg (by rw [show (0 : Int32) = iI 0 from rfl, iI_eq (by omega) (by omega) (by omega) (by omega)]; omega)]
      exact e1 (by omega)
  have Fb : F = -9 ∨ (0 ≤ F ∧ F ≤ 120) := by
    rw [hF]
    by_cases c : n = 0
    · rw [if_pos c]; omega
    · rw [if_neg c]; exact fb
  -- the reference's first loop, from any store that shows the same text
  have R1 : ∀ (S1 : St) (k46 : Int32 → Int32 → St → Option (Int32 × St)), IR S1 L n → S1.1 74 10 = iI ((0 : Nat) : Int) → ∃ (cnt : Nat) (S'' : St), f82 S1 S'' ∧ (F = -9 → cnt = cs (ltr L n) n 25 0) ∧ f_X8_shop_L10 2000 (iI ((0 : Nat) : Int)) (iI (-9)) S1 k46 = k46 (iI cnt) (iI (if F = -9 then -9 else -1000 - F)) S'' := by
    intro S1 k46 h1 h2
    by_cases c : n = 0
    · obtain ⟨r, S2, a1, a2, a3⟩ := rSt h1 (p := 0) (by omega) h2
      rcases a3 with ⟨_, b1, _, _⟩ | ⟨rfl, q, b2, b3⟩
      · rw [fmN c] at b1; omega
      · rw [fmN c] at b3
        have hq : q = 0 := by omega
        subst hq
        have F0 : F = 0 := by rw [hF, if_pos c]
        refine ⟨1, S2, a2, fun z => absurd z (by omega), ?_⟩
        rw [F0, show 2000 = 1999 + 1 from rfl, f_X8_shop_L10, a1, bs]
        dsimp only
        rw [if_pos h00, b2, show (-1000 : Int32) = iI (-1000) from rfl, n9, iI_sub, if_neg (by decide)]
        rfl
    · obtain ⟨cnt, S'', g1, g2, g3⟩ := rL10 h1 (k46 := k46) 25 2000 0 0 S1 (by omega) (by omega) (by omega) (fun _ _ _ => rfl) h2
      have eFF : F = fm (ltr L n) n 25 0 := by rw [hF, if_neg c]
      rw [eFF]
      exact ⟨cnt, S'', g1, fun z => by rw [g2 z]; omega, g3⟩
  have hT : ∀ S' : St, S'.1 60 1 = iI 0 → S'.1 74 8 = iI 0 → InvText S' := fun S' h1 h2 => ⟨0, by omega, h1, h2, fun k hk => absurd hk (by omega)⟩
  by_cases cF : F = -9
  · -- a text without misfit
    have nn : n ≠ 0 := fun z => by rw [hF, if_pos z] at cF; omega
    have fm9 : fm (ltr L n) n 25 0 = -9 := by rw [hF, if_neg nn] at cF; exact cF
    have cs1 : 1 ≤ cs (ltr L n) n 25 0 := by
      show 1 ≤ (if n ≤ 0 then 0 else _ + 1)
      rw [if_neg (by omega)]
      omega
    obtain ⟨S1, c1, c2, c3⟩ := cCopy (q0 := 39) (q1 := 1) (by omega) S
    have hI1 : IT S1 L n := ⟨t1, hI.2.1, by rw [c2 _ _ (by omega)]; exact t2, fun p hp => by rw [c2 _ _ (by omega)]; exact hI.2.2.2 p hp⟩
    have hR1 : IR S1 L n := ⟨t1, hR.2.1, by rw [c2 _ _ (by omega)]; exact t3, fun p hp => by rw [c2 _ _ (by omega)]; exact hR.2.2.2 p hp⟩
    obtain ⟨S2, d1, d2, d3, d4⟩ := cTR (a := a) hI1 hR1 (k40 := fun y7 S8 => some (iI (-2000) - y7, S8)) (k61 := fun y9 S10 => some (y9, S10)) 25 2000 0 0 S1 a (by omega) (by omega) (by omega) (by omega) fm9 (fun _ _ _ => rfl) (c3 a hc) hw
    have fr2 : ∀ i k, ¬ (39 ≤ i ∧ i ≤ 57) → S2.1 i k = S.1 i k := fun i k hi => by rw [d1 i k hi, c2 _ _ (by omega)]
    have eTT : f_X7_tellTrial S = f_X7_tellTrial_L15 2000 (iI ((0 : Nat) : Int)) (iI ((0 : Nat) : Int)) S1 (fun y7 S8 => some (iI (-2000) - y7, S8)) (fun y9 S10 => some (y9, S10)) := by
      rw [f_X7_tellTrial, c1, bs]
      rfl
    -- the reference behind the class: from a store V that shows a at 75 and the text in 79
    have R2 : ∀ V : St, (∀ i k, ¬ ((1 ≤ i ∧ i ≤ 19) ∨ (39 ≤ i ∧ i ≤ 57) ∨ i = 60) → V.1 i k = S.1 i k) → ∃ W : St, (∀ i k, ¬ (i = 75 ∨ i = 78 ∨ i = 82 ∨ (i = 74 ∧ (k = 10 ∨ k = 8))) → W.1 i k = V.1 i k) ∧ W.1 74 8 = iI 0 ∧
        ((tr (ltr L n) n 25 0 a).1 = none → RM W 75 (tr (ltr L n) n 25 0 a).2 ∧ f_X8_shop V = some (iI (cs (ltr L n) n 25 0), W)) ∧ (∀ q, (tr (ltr L n) n 25 0 a).1 = some q → RM W 75 a ∧ f_X8_shop V = some (iI (-2000 - (q : Int)), W)) := by
      intro V hV
      obtain ⟨V0, hV0⟩ : ∃ V0, V0 = up V 74 10 (iI ((0 : Nat) : Int)) := ⟨_, rfl⟩
      have hRV : IR V0 L n := ⟨t1, hR.2.1, by rw [hV0, up_n (by omega), hV _ _ (by omega)]; exact t3, fun p hp => by rw [hV0, up_ne (by omega), hV _ _ (by omega)]; exact hR.2.2.2 p hp⟩
      have main : ∀ k46, ∃ (S'' : St), f82 V0 S'' ∧ f_X8_shop_L10 2000 (iI ((0 : Nat) : Int)) (iI (-9)) V0 k46 = k46 (iI (cs (ltr L n) n 25 0)) (iI (-9)) S'' := fun k46 => by
        obtain ⟨cnt, S'', g1, g2, g3⟩ := R1 V0 k46 hRV (by rw [hV0, up_s])
        rw [g2 cF, if_pos cF] at g3
        exact ⟨S'', g1, g3⟩
      obtain ⟨S9, g1, g3⟩ := main (fun y7 y8 S9 => (f_X8_lays 75 78 S9).bind fun S10 => f_X8_shop_L62 2000 y7 y8 (up S10 74 10 0) (fun y18 S19 => if y18 = iI (-9) then some (y7, up S19 74 8 0) else some (y18, up S19 74 8 0)))
      obtain ⟨S10, l1, l2, l3⟩ := rLays (q0 := 75) (q1 := 78) (by omega) S9
      have fr9 : ∀ i k, ¬ (i = 82 ∨ (i = 74 ∧ k = 10)) → S9.1 i k = V.1 i k := fun i k hi => by rw [g1 i k hi, hV0, up_n (by omega)]
      obtain ⟨T, hT0⟩ : ∃ T, T = up S10 74 10 (iI ((0 : Nat) : Int)) := ⟨_, rfl⟩
      have frT : ∀ i k, ¬ (i = 78 ∨ i = 82 ∨ (i = 74 ∧ k = 10)) → T.1 i k = V.1 i k := fun i k hi => by rw [hT0, up_n (by omega), l2 _ _ (by omega), fr9 _ _ (by omega)]
      have hRT : IR T L n := ⟨t1, hR.2.1, by rw [frT _ _ (by omega), hV _ _ (by omega)]; exact t3, fun p hp => by rw [frT _ _ (by omega), hV _ _ (by omega)]; exact hR.2.2.2 p hp⟩
      have mT : RM T 75 a := fun k hk => by rw [frT _ _ (by omega), hV _ _ (by omega)]; exact hm k hk
      have mT8 : RM T 78 a := fun k hk => by rw [hT0, up_ne (by omega), l3 k hk, fr9 _ _ (by omega), hV _ _ (by omega)]; exact hm k hk
      obtain ⟨W0, w1', w2', w3'⟩ := rL62 (a0 := a) hRT mT8 (x1 := iI (cs (ltr L n) n 25 0)) (k128 := fun y18 S19 => if y18 = iI (-9) then some (iI (cs (ltr L n) n 25 0), up S19 74 8 0) else some (y18, up S19 74 8 0)) 25 2000 0 T a (by omega) (by omega) (by omega) fm9 (fun _ _ _ => rfl) (by rw [hT0, up_s]) mT hw
      have eS : f_X8_shop V = f_X8_shop_L62 2000 (iI (cs (ltr L n) n 25 0)) (iI (-9)) T (fun y18 S19 => if y18 = iI (-9) then some (iI (cs (ltr L n) n 25 0), up S19 74 8 0) else some (y18, up S19 74 8 0)) := by
        rw [f_X8_shop]
        refine (show _ = _ from ?_).trans (g3.trans ?_)
        · rw [hV0]; rfl
        · rw [l1, bs, hT0]; rfl
      refine ⟨up W0 74 8 (iI 0), fun i k hi => by rw [up_n (by omega), w1' _ _ (by omega), frT _ _ (by omega)], up_s, fun z => ?_, fun q z => ?_⟩
      · obtain ⟨u1, u2⟩ := w2' z
        refine ⟨u1.ne (by omega), ?_⟩
        rw [eS, u2, if_pos rfl]
        rfl
      · obtain ⟨u1, u2⟩ := w3' q z
        have qb := (d4 q z).1
        refine ⟨u1.ne (by omega), ?_⟩
        rw [eS, u2, if_neg (by rw [iI_eq (by omega) (by omega) (by omega) (by omega)]; omega)]
        rfl
    have z0 : (0 : Int32) = iI 0 := rfl
    cases hq : (tr (ltr L n) n 25 0 a).1 with
    | none =>
      obtain ⟨u1, u2⟩ := d3 hq
      rw [Nat.zero_add] at u2
      obtain ⟨S3, v1, v2, v3⟩ := cCopy (q0 := 1) (q1 := 39) (by omega) S2
      have frV : ∀ i k, ¬ ((1 ≤ i ∧ i ≤ 19) ∨ (39 ≤ i ∧ i ≤ 57) ∨ i = 60) → (up S3 60 1 (iI 0)).1 i k = S.1 i k := fun i k hi => by rw [up_ne (by omega), v2 _ _ (by omega), fr2 _ _ (by omega)]
      obtain ⟨W, x1, x2, x3, x4⟩ := R2 (up S3 60 1 (iI 0)) frV
      obtain ⟨y1, y2⟩ := x3 hq
      refine e_mk (v := iI (cs (ltr L n) n 25 0)) (S1 := up S3 60 1 (iI 0)) (S2 := W) ?_ y2 ?_
      · rw [f_X7_shop, eF, bs, cF, n9, if_pos rfl, eTT, u2, bs]
        dsimp only
        rw [z0, if_neg (by rw [iI_le (by omega) (by omega) (by omega) (by omega)]; omega), v1, bs]
      · have hc3 := v3 _ u1
        refine hS.all ⟨(tr (ltr L n) n 25 0 a).2, d2, ?_, y1⟩ (hT W (by rw [x1 _ _ (by omega), up_s]) x2) (fun i k hi => ?_)
        · exact RC.frq (S := S3) hc3 (fun i k h1 h2 => by rw [x1 _ _ (by omega), up_ne (by omega)])
        · unfold scr at hi
          rw [x1 _ _ (by omega), up_ne (by omega), v2 _ _ (by omega), fr2 _ _ (by omega)]
    | some q =>
      obtain ⟨qb, u2⟩ := d4 q hq
      have frV : ∀ i k, ¬ ((1 ≤ i ∧ i ≤ 19) ∨ (39 ≤ i ∧ i ≤ 57) ∨ i = 60) → (up S2 60 1 (iI 0)).1 i k = S.1 i k := fun i k hi => by rw [up_ne (by omega), fr2 _ _ (by omega)]
      obtain ⟨W, x1, x2, x3, x4⟩ := R2 (up S2 60 1 (iI 0)) frV
      obtain ⟨y1, y2⟩ := x4 q hq
      refine e_mk (v := iI (-2000 - (q : Int))) (S1 := up S2 60 1 (iI 0)) (S2 := W) ?_ y2 ?_
      · rw [f_X7_shop, eF, bs, cF, n9, if_pos rfl, eTT, u2, bs]
        dsimp only
        rw [z0, iI_sub, if_pos (by rw [iI_le (by omega) (by omega) (by omega) (by omega)]; omega)]
      · refine hS.all ⟨a, hw, ?_, y1⟩ (hT W (by rw [x1 _ _ (by omega), up_s]) x2) (fun i k hi => ?_)
        · exact hc.frq (fun i k h1 h2 => by rw [x1 _ _ (by omega), up_ne (by omega), fr2 _ _ (by omega)])
        · unfold scr at hi
          rw [x1 _ _ (by omega), up_ne (by omega), fr2 _ _ (by omega)]
  · -- a misfit
    obtain ⟨V, hV⟩ : ∃ V, V = up S 60 1 (iI 0) := ⟨_, rfl⟩
    have frV : ∀ i k, i ≠ 60 → V.1 i k = S.1 i k := fun i k hi => by rw [hV, up_ne hi]
    obtain ⟨V0, hV0⟩ : ∃ V0, V0 = up V 74 10 (iI ((0 : Nat) : Int)) := ⟨_, rfl⟩
    have hRV : IR V0 L n := ⟨t1, hR.2.1, by rw [hV0, up_n (by omega), frV _ _ (by omega)]; exact t3, fun p hp => by rw [hV0, up_ne (by omega), frV _ _ (by omega)]; exact hR.2.2.2 p hp⟩
    obtain ⟨cnt, S9, g1, _, g3⟩ := R1 V0 (fun y7 y8 S9 => (f_X8_lays 75 78 S9).bind fun S10 => f_X8_shop_L62 2000 y7 y8 (up S10 74 10 0) (fun y18 S19 => if y18 = iI (-9) then some (y7, up S19 74 8 0) else some (y18, up S19 74 8 0))) hRV (by rw [hV0, up_s])
    rw [if_neg cF] at g3
    obtain ⟨S10, l1, l2, l3⟩ := rLays (q0 := 75) (q1 := 78) (by omega) S9
    have fr10 : ∀ i k, ¬ (i = 60 ∨ i = 78 ∨ i = 82 ∨ (i = 74 ∧ k = 10)) → S10.1 i k = S.1 i k := fun i k hi => by rw [l2 _ _ (by omega), g1 _ _ (by omega), hV0, up_n (by omega), frV _ _ (by omega)]
    have z0 : (0 : Int32) = iI 0 := rfl
    have s60 : S10.1 60 1 = iI 0 := by rw [l2 _ _ (by omega), g1 _ _ (by omega), hV0, up_ne (by omega), hV, up_s]
    refine e_mk (v := iI (-1000 - F)) (S1 := V) (S2 := up (up S10 74 10 (iI 0)) 74 8 (iI 0)) ?_ ?_ ?_
    · rw [f_X7_shop, eF, bs, n9, if_neg (by rw [iI_eq (by omega) (by omega) (by omega) (by omega)]; exact cF), show (-1000 : Int32) = iI (-1000) from rfl, iI_sub, z0, if_pos (by rw [iI_le (by omega) (by omega) (by omega) (by omega)]; omega), hV]
    · rw [f_X8_shop]
      refine (show _ = _ from ?_).trans (g3.trans ?_)
      · rw [hV0]; rfl
      · rw [l1, bs, show 2000 = 1999 + 1 from rfl, f_X8_shop_L62, n9, if_neg (by rw [iI_eq (by omega) (by omega) (by omega) (by omega)]; omega), if_neg (by rw [iI_eq (by omega) (by omega) (by omega) (by omega)]; omega)]
        rfl
    · refine hS.all ⟨a, hw, ?_, fun k hk => ?_⟩ (hT _ (by rw [up_ne (by omega), up_ne (by omega)]; exact s60) up_s) (fun i k hi => ?_)
      · exact hc.frq (fun i k h1 h2 => by rw [up_ne (by omega), up_ne (by omega), fr10 _ _ (by omega)])
      · rw [up_ne (by omega), up_ne (by omega), fr10 _ _ (by omega)]; exact hm k hk
      · unfold scr at hi
        rw [up_n (by omega), up_n (by omega), fr10 _ _ (by omega)]
