-- ===== lots 56e =====
theorem rLotsL {S : St} {a : Nat → Int} {now N : Nat} (hm : RM S 75 a) (hw : WFa a) (hN : a 0 = N) (hn : now ≤ 11) (hn1 : a 1 = now) (s : Int32) {M : Nat} (hM : M ≤ 20) {z : Int} (hz : z = 0 ∨ z = 1) {k : Int32 → St → Option (Int32 × St)} :
    ∀ d n x : Nat, ∀ S' : St, x + d = M → d < n → rFr S S' → S'.1 74 15 = (sLots a s N now z x).2 → ∃ S'', rFr S S'' ∧ f_X8_lots_L52 n (iI M) (iI z) (iI (sLots a s N now z x).1) (iI x) S' k = k (iI (sLots a s N now z M).1) S'' := by
  have h8 := hw.1
  intro d
  induction d with
  | zero =>
    intro n x S' hx hd q1 q3
    obtain ⟨n, rfl⟩ : ∃ p, n = p + 1 := ⟨n - 1, by omega⟩
    obtain rfl : x = M := by omega
    refine ⟨S', q1, ?_⟩
    rw [f_X8_lots_L52]
    simp (disch := omega) only [li_0, li_1, li_2, li_3, li_4, li_5, li_6, li_7, li_8, li_9, li_10, li_11, li_12, li_16, li_19, li_20, li_28, li_48, li_57, li_59, li_60, li_96, li_97, li_99, li_100, li_102, li_103, li_104, li_112, li_115, li_116, li_118, li_119, li_121, li_124, li_132, li_255, li_256, li_1000, li_2000, li_1000000000, iI_add, iI_sub, iI_mul, iI_neg, iI_lt, iI_le, iI_eq, iI_clamp, iI_s, iI_m1, iI_div, bs, tn, tn4, tn12, tn20, tn124, tn28, itT, itF, if_pos, if_neg]
  | succ d ih =>
    intro n x S' hx hd q1 q3
    obtain ⟨n, rfl⟩ : ∃ p, n = p + 1 := ⟨n - 1, by omega⟩
    obtain ⟨S1, c1, c2, c3⟩ := rLays (q0 := 75) (q1 := 76) (by omega) S'
    have g : ∀ k, ∃ S2, rFr S1 S2 ∧ RM S2 76 (sLot a (sLots a s N now z x).2 now N).1 ∧ S2.1 74 15 = (sLot a (sLots a s N now z x).2 now N).2 ∧ f_X8_lots_L72 2000 (iI M) (iI z) (iI (sLots a s N now z x).1) (iI x) (iI ((0 : Nat) : Int)) S1 k = k S2 := fun k =>
      rLotL (S := S1) hw hN hn hn1 (sLots a s N now z x).2 (k := k) N 2000 0 S1 (by omega) (by omega) (fun _ _ _ => rfl) (fun k hk => by rw [c3 k hk, q1 _ _ (by omega)]; exact hm k hk) (by rw [c2 _ _ (by omega)]; exact q3)
    obtain ⟨w1, w2, w3⟩ := sLot_wf hw (sLots a s N now z x).2 hn N (by omega)
    rw [hN] at w2
    rw [hn1] at w3
    rw [f_X8_lots_L52]
    simp (disch := omega) only [li_0, li_1, li_2, li_3, li_4, li_5, li_6, li_7, li_8, li_9, li_10, li_11, li_12, li_16, li_19, li_20, li_28, li_48, li_57, li_59, li_60, li_96, li_97, li_99, li_100, li_102, li_103, li_104, li_112, li_115, li_116, li_118, li_119, li_121, li_124, li_132, li_255, li_256, li_1000, li_2000, li_1000000000, iI_add, iI_sub, iI_mul, iI_neg, iI_lt, iI_le, iI_eq, iI_clamp, iI_s, iI_m1, iI_div, bs, tn, tn4, tn12, tn20, tn124, tn28, itT, itF, if_pos, if_neg, c1]
    obtain ⟨S2, g1, g2, g3, g4⟩ := g (fun S14 => if z = 0 then (f_X8_gladAll 76 S14).bind fun v17 => f_X8_lots_L52 n (iI M) (iI z) (iI (sLots a s N now z x).1 + v17) (iI ((x + 1 : Nat) : Int)) S14 k else (f_X8_agreeMany 76 S14).bind fun v16 => f_X8_lots_L52 n (iI M) (iI z) (iI (sLots a s N now z x).1 + v16) (iI ((x + 1 : Nat) : Int)) S14 k)
    have e2 := rAll g2 (fun j hj => w1.t (by omega)) w2 (by omega) hn w3
    have e3 := rAgr g2 w1 w2
    obtain ⟨S'', h1, h2⟩ := ih n (x + 1) S2 (by omega) (by omega) (fun i k hi => by rw [g1 i k hi, c2 _ _ (by omega)]; exact q1 i k hi) g3
    refine ⟨S'', h1, ?_⟩
    rw [sLots] at h2
    refine Eq.trans g4 ?_
    rcases hz with rfl | rfl
    · rw [show lV (sLot a (sLots a s N now 0 x).2 now N).1 N now 0 = sAll (sLot a (sLots a s N now 0 x).2 now N).1 N now from if_pos rfl] at h2
      simp (disch := omega) only [li_0, li_1, li_2, li_3, li_4, li_5, li_6, li_7, li_8, li_9, li_10, li_11, li_12, li_16, li_19, li_20, li_28, li_48, li_57, li_59, li_60, li_96, li_97, li_99, li_100, li_102, li_103, li_104, li_112, li_115, li_116, li_118, li_119, li_121, li_124, li_132, li_255, li_256, li_1000, li_2000, li_1000000000, iI_add, iI_sub, iI_mul, iI_neg, iI_lt, iI_le, iI_eq, iI_clamp, iI_s, iI_m1, iI_div, bs, tn, tn4, tn12, tn20, tn124, tn28, itT, itF, if_pos, if_neg, e2, h2]
    · rw [show lV (sLot a (sLots a s N now 1 x).2 now N).1 N now 1 = out2 (fAgr (sLot a (sLots a s N now 1 x).2 now N).1) N N from if_neg (by omega)] at h2
      simp (disch := omega) only [li_0, li_1, li_2, li_3, li_4, li_5, li_6, li_7, li_8, li_9, li_10, li_11, li_12, li_16, li_19, li_20, li_28, li_48, li_57, li_59, li_60, li_96, li_97, li_99, li_100, li_102, li_103, li_104, li_112, li_115, li_116, li_118, li_119, li_121, li_124, li_132, li_255, li_256, li_1000, li_2000, li_1000000000, iI_add, iI_sub, iI_mul, iI_neg, iI_lt, iI_le, iI_eq, iI_clamp, iI_s, iI_m1, iI_div, bs, tn, tn4, tn12, tn20, tn124, tn28, itT, itF, if_pos, if_neg, e3, h2]
