-- ===== lots 56d =====
def lV (b : Nat → Int) (N now : Nat) (z : Int) : Int := if z = 0 then sAll b N now else out2 (fAgr b) N N
def sLots (a : Nat → Int) (s : Int32) (N now : Nat) (z : Int) : Nat → Int × Int32
  | 0 => (0, s)
  | x + 1 => ((sLots a s N now z x).1 + lV (sLot a (sLots a s N now z x).2 now N).1 N now z, (sLot a (sLots a s N now z x).2 now N).2)
theorem cLotsL {S : St} {a : Nat → Int} {now N : Nat} (hc : RC S 1 a) (hw : WFa a) (hN : a 0 = N) (hn : now ≤ 11) (hn1 : a 1 = now) (s : Int32) {M : Nat} (hM : M ≤ 20) {z : Int} (hz : z = 0 ∨ z = 1) {k : Int32 → St → Option (Int32 × St)} :
    ∀ d n x : Nat, ∀ S' : St, x + d = M → d < n → cFr S S' → S'.1 0 12 = (sLots a s N now z x).2 → ∃ S'', cFr S S'' ∧ f_X7_lots_L46 n (iI M) (iI z) (iI (sLots a s N now z x).1) (iI x) S' k = k (iI (sLots a s N now z M).1) S'' := by
  have h8 := hw.1
  intro d
  induction d with
  | zero =>
    intro n x S' hx hd q1 q3
    obtain ⟨n, rfl⟩ : ∃ p, n = p + 1 := ⟨n - 1, by omega⟩
    obtain rfl : x = M := by omega
    refine ⟨S', q1, ?_⟩
    rw [f_X7_lots_L46]
    simp (disch := omega) only [li_0, li_1, li_2, li_3, li_4, li_5, li_6, li_7, li_8, li_9, li_10, li_11, li_12, li_16, li_19, li_20, li_28, li_48, li_57, li_59, li_60, li_96, li_97, li_99, li_100, li_102, li_103, li_104, li_112, li_115, li_116, li_118, li_119, li_121, li_124, li_132, li_255, li_256, li_1000, li_2000, li_1000000000, iI_add, iI_sub, iI_mul, iI_neg, iI_lt, iI_le, iI_eq, iI_clamp, iI_s, iI_m1, iI_div, bs, tn, tn4, tn12, tn20, tn124, tn28, itT, itF, if_pos, if_neg]
  | succ d ih =>
    intro n x S' hx hd q1 q3
    obtain ⟨n, rfl⟩ : ∃ p, n = p + 1 := ⟨n - 1, by omega⟩
    have hc1 : RC S' 1 a := hc.frt (fun i k h1 h2 => q1 i k (by omega))
    obtain ⟨S1, c1, c2, c3⟩ := cCopy (q0 := 39) (q1 := 1) (by omega) S'
    obtain ⟨S2, g1, g2, g3, g4⟩ := cLotL (S := S1) hw hN hn hn1 (sLots a s N now z x).2 (k := fun s => some s) N 2000 0 S1 (by omega) (by omega) (fun _ _ _ => rfl) (c3 a hc1) (by rw [c2 _ _ (by omega)]; exact q3)
    have e1 : f_X7_glueByLot S' = some S2 := by
      rw [f_X7_glueByLot, c1, bs]; exact g4
    obtain ⟨w1, w2, w3⟩ := sLot_wf hw (sLots a s N now z x).2 hn N (by omega)
    rw [hN] at w2
    rw [hn1] at w3
    have e2 := cAll g2 w1 w2 hn
    have e3 := cAgr g2 w1 w2
    have en : S2.1 39 1 = iI now := by rw [g2.1 1 (by omega), w3]
    obtain ⟨S'', h1, h2⟩ := ih n (x + 1) S2 (by omega) (by omega) (fun i k hi => by rw [g1 i k hi, c2 _ _ (by omega)]; exact q1 i k hi) g3
    refine ⟨S'', h1, ?_⟩
    rw [sLots] at h2
    rw [f_X7_lots_L46]
    rcases hz with rfl | rfl
    · rw [show lV (sLot a (sLots a s N now 0 x).2 now N).1 N now 0 = sAll (sLot a (sLots a s N now 0 x).2 now N).1 N now from if_pos rfl] at h2
      simp (disch := omega) only [li_0, li_1, li_2, li_3, li_4, li_5, li_6, li_7, li_8, li_9, li_10, li_11, li_12, li_16, li_19, li_20, li_28, li_48, li_57, li_59, li_60, li_96, li_97, li_99, li_100, li_102, li_103, li_104, li_112, li_115, li_116, li_118, li_119, li_121, li_124, li_132, li_255, li_256, li_1000, li_2000, li_1000000000, iI_add, iI_sub, iI_mul, iI_neg, iI_lt, iI_le, iI_eq, iI_clamp, iI_s, iI_m1, iI_div, bs, tn, tn4, tn12, tn20, tn124, tn28, itT, itF, if_pos, if_neg, e1, en, e2, h2]
    · rw [show lV (sLot a (sLots a s N now 1 x).2 now N).1 N now 1 = out2 (fAgr (sLot a (sLots a s N now 1 x).2 now N).1) N N from if_neg (by omega)] at h2
      simp (disch := omega) only [li_0, li_1, li_2, li_3, li_4, li_5, li_6, li_7, li_8, li_9, li_10, li_11, li_12, li_16, li_19, li_20, li_28, li_48, li_57, li_59, li_60, li_96, li_97, li_99, li_100, li_102, li_103, li_104, li_112, li_115, li_116, li_118, li_119, li_121, li_124, li_132, li_255, li_256, li_1000, li_2000, li_1000000000, iI_add, iI_sub, iI_mul, iI_neg, iI_lt, iI_le, iI_eq, iI_clamp, iI_s, iI_m1, iI_div, bs, tn, tn4, tn12, tn20, tn124, tn28, itT, itF, if_pos, if_neg, e1, e3, h2]
