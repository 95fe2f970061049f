theorem law_lt {i L : Nat} (h1 : i ≤ 4000) (h2 : L ≤ 3072) (h3 : L < i + 6) : nI L - 6 < nI i := by
  rw [Int32.lt_iff_toInt_lt, show nI L - 6 = nI L - nI 6 from rfl, pk_sub_toInt (by omega) (by omega), nI_toInt (by omega)]
  omega
theorem law_63 (x : Int32) : 0 ≤ (x &&& 63).toInt ∧ (x &&& 63).toInt < 64 := by
  obtain ⟨j, hj, e⟩ := pk_andE x (m := 63) 6 (by decide)
  rw [e, nI_toInt (by omega)]
  omega
theorem law_j {x : Int32} (h : 0 ≤ x.toInt ∧ x.toInt < 64) (q : x.toInt.toNat ≤ 40) : ∃ j, j ≤ 40 ∧ x = nI j := by
  refine ⟨x.toInt.toNat, q, ?_⟩
  rw [← Int32.toInt_inj, nI_toInt (by omega)]
  omega
set_option maxHeartbeats 4000000 in
theorem law_loop {l : Launch} {L : Nat} {xs : Nat → Int32} (hL : L ≤ 3072) : ∀ (n i : Nat) (S : St), L + 1 ≤ i + n → Inv S → i ≤ L + 6 → Y l L xs 18 [(0, .float 0), (1, .ref 0), (2, .ref 74), (3, .int (nI i))] [] S := by
  intro n
  induction n with
  | zero =>
    intro i S h1 hS h2
    refine y_iload 3 dL_law_18 rfl ?_
    refine y_aloadS 0 dL_law_19 rfl ?_
    refine y_len dL_law_20 ?_
    refine y_bipush (v := 6) dL_law_21 rfl ?_
    refine y_isub dL_law_23 ?_
    refine y_icmp_gt (tgt := 1353) dL_law_24 (by decide) (fun c => ?_) (fun c => ?_)
    · refine y_iconst (v := 1) dL_law_1353 rfl ?_
      exact y_ret1 dL_law_1354
    · exact absurd (law_lt (by omega) (by omega) (by omega)) c
  | succ n ih0 =>
    intro i S h1 hS h2
    refine y_iload 3 dL_law_18 rfl ?_
    refine y_aloadS 0 dL_law_19 rfl ?_
    refine y_len dL_law_20 ?_
    refine y_bipush (v := 6) dL_law_21 rfl ?_
    refine y_isub dL_law_23 ?_
    refine y_icmp_gt (tgt := 1353) dL_law_24 (by decide) (fun c => ?_) (fun c => ?_)
    · refine y_iconst (v := 1) dL_law_1353 rfl ?_
      exact y_ret1 dL_law_1354
    · have hi : i + 6 ≤ L := by
        rcases Nat.lt_or_ge L (i + 6) with q | q
        · exact absurd (law_lt (by omega) (by omega) q) c
        · exact q
      have ih : ∀ S2, Inv S2 → Y l L xs 1347 [(0, .float 0), (1, .ref 0), (2, .ref 74), (3, .int (nI i))] [] S2 := by
        intro S2 hS2
        refine y_iinc (a1 := .null) (a2 := .null) (v := nI (i + 6)) dL_law_1347 (nI_add i 6) ?_ rfl rfl
        refine y_goto (tgt := 18) dL_law_1350 (by decide) ?_
        exact ih0 (i + 6) S2 (by omega) hS2 (by omega)
      refine y_aloadS 0 dL_law_27 rfl ?_
      refine y_iload 3 dL_law_28 rfl ?_
      refine y_sld (j := i) dL_law_29 rfl (by omega) hL ?_
      refine y_bipush (v := 63) dL_law_30 rfl ?_
      refine y_iand dL_law_32 ?_
      by_cases c0 : xs i &&& 63 = 0
      · refine y_tableIn (off := 179) (tgt := 212) dL_law_33 (by rw [c0]; decide) (by rw [c0]; decide) (by rw [c0]; rfl) (by decide) ?_
        exact y_op_0 hL hi hS ih
      by_cases c1 : xs i &&& 63 = 1
      · refine y_tableIn (off := 202) (tgt := 235) dL_law_33 (by rw [c1]; decide) (by rw [c1]; decide) (by rw [c1]; rfl) (by decide) ?_
        exact y_op_1 hL hi hS ih
      by_cases c2 : xs i &&& 63 = 2
      · refine y_tableIn (off := 215) (tgt := 248) dL_law_33 (by rw [c2]; decide) (by rw [c2]; decide) (by rw [c2]; rfl) (by decide) ?_
        exact y_op_2 hL hi hS ih
      by_cases c3 : xs i &&& 63 = 3
      · refine y_tableIn (off := 248) (tgt := 281) dL_law_33 (by rw [c3]; decide) (by rw [c3]; decide) (by rw [c3]; rfl) (by decide) ?_
        exact y_op_3 hL hi hS ih
      by_cases c4 : xs i &&& 63 = 4
      · refine y_tableIn (off := 281) (tgt := 314) dL_law_33 (by rw [c4]; decide) (by rw [c4]; decide) (by rw [c4]; rfl) (by decide) ?_
        exact y_op_4 hL hi hS ih
      by_cases c5 : xs i &&& 63 = 5
      · refine y_tableIn (off := 314) (tgt := 347) dL_law_33 (by rw [c5]; decide) (by rw [c5]; decide) (by rw [c5]; rfl) (by decide) ?_
        exact y_op_5 hL hi hS ih
      by_cases c6 : xs i &&& 63 = 6
      · refine y_tableIn (off := 357) (tgt := 390) dL_law_33 (by rw [c6]; decide) (by rw [c6]; decide) (by rw [c6]; rfl) (by decide) ?_
        exact y_op_6 hL hi hS ih
      by_cases c7 : xs i &&& 63 = 7
      · refine y_tableIn (off := 400) (tgt := 433) dL_law_33 (by rw [c7]; decide) (by rw [c7]; decide) (by rw [c7]; rfl) (by decide) ?_
        exact y_op_7 hL hi hS ih
      by_cases c8 : xs i &&& 63 = 8
      · refine y_tableIn (off := 433) (tgt := 466) dL_law_33 (by rw [c8]; decide) (by rw [c8]; decide) (by rw [c8]; rfl) (by decide) ?_
        exact y_op_8 hL hi hS ih
      by_cases c9 : xs i &&& 63 = 9
      · refine y_tableIn (off := 456) (tgt := 489) dL_law_33 (by rw [c9]; decide) (by rw [c9]; decide) (by rw [c9]; rfl) (by decide) ?_
        exact y_op_9 hL hi hS ih
      by_cases c10 : xs i &&& 63 = 10
      · refine y_tableIn (off := 479) (tgt := 512) dL_law_33 (by rw [c10]; decide) (by rw [c10]; decide) (by rw [c10]; rfl) (by decide) ?_
        exact y_op_10 hL hi hS ih
      by_cases c11 : xs i &&& 63 = 11
      · refine y_tableIn (off := 502) (tgt := 535) dL_law_33 (by rw [c11]; decide) (by rw [c11]; decide) (by rw [c11]; rfl) (by decide) ?_
        exact y_op_11 hL hi hS ih
      by_cases c12 : xs i &&& 63 = 12
      · refine y_tableIn (off := 545) (tgt := 578) dL_law_33 (by rw [c12]; decide) (by rw [c12]; decide) (by rw [c12]; rfl) (by decide) ?_
        exact y_op_12 hL hi hS ih
      by_cases c13 : xs i &&& 63 = 13
      · refine y_tableIn (off := 568) (tgt := 601) dL_law_33 (by rw [c13]; decide) (by rw [c13]; decide) (by rw [c13]; rfl) (by decide) ?_
        exact y_op_13 hL hi hS ih
      by_cases c14 : xs i &&& 63 = 14
      · refine y_tableIn (off := 621) (tgt := 654) dL_law_33 (by rw [c14]; decide) (by rw [c14]; decide) (by rw [c14]; rfl) (by decide) ?_
        exact y_op_14 hL hi hS ih
      by_cases c15 : xs i &&& 63 = 15
      · refine y_tableIn (off := 644) (tgt := 677) dL_law_33 (by rw [c15]; decide) (by rw [c15]; decide) (by rw [c15]; rfl) (by decide) ?_
        exact y_op_15 hL hi hS ih
      by_cases c16 : xs i &&& 63 = 16
      · refine y_tableIn (off := 677) (tgt := 710) dL_law_33 (by rw [c16]; decide) (by rw [c16]; decide) (by rw [c16]; rfl) (by decide) ?_
        exact y_op_16 hL hi hS ih
      by_cases c17 : xs i &&& 63 = 17
      · refine y_tableIn (off := 690) (tgt := 723) dL_law_33 (by rw [c17]; decide) (by rw [c17]; decide) (by rw [c17]; rfl) (by decide) ?_
        exact y_op_17 hL hi hS ih
      by_cases c18 : xs i &&& 63 = 18
      · refine y_tableIn (off := 713) (tgt := 746) dL_law_33 (by rw [c18]; decide) (by rw [c18]; decide) (by rw [c18]; rfl) (by decide) ?_
        exact y_op_18 hL hi hS ih
      by_cases c19 : xs i &&& 63 = 19
      · refine y_tableIn (off := 736) (tgt := 769) dL_law_33 (by rw [c19]; decide) (by rw [c19]; decide) (by rw [c19]; rfl) (by decide) ?_
        exact y_op_19 hL hi hS ih
      by_cases c20 : xs i &&& 63 = 20
      · refine y_tableIn (off := 759) (tgt := 792) dL_law_33 (by rw [c20]; decide) (by rw [c20]; decide) (by rw [c20]; rfl) (by decide) ?_
        exact y_op_20 hL hi hS ih
      by_cases c21 : xs i &&& 63 = 21
      · refine y_tableIn (off := 772) (tgt := 805) dL_law_33 (by rw [c21]; decide) (by rw [c21]; decide) (by rw [c21]; rfl) (by decide) ?_
        exact y_op_21 hL hi hS ih
      by_cases c22 : xs i &&& 63 = 22
      · refine y_tableIn (off := 815) (tgt := 848) dL_law_33 (by rw [c22]; decide) (by rw [c22]; decide) (by rw [c22]; rfl) (by decide) ?_
        exact y_op_22 hL hi hS ih
      by_cases c23 : xs i &&& 63 = 23
      · refine y_tableIn (off := 838) (tgt := 871) dL_law_33 (by rw [c23]; decide) (by rw [c23]; decide) (by rw [c23]; rfl) (by decide) ?_
        exact y_op_23 hL hi hS ih
      by_cases c24 : xs i &&& 63 = 24
      · refine y_tableIn (off := 851) (tgt := 884) dL_law_33 (by rw [c24]; decide) (by rw [c24]; decide) (by rw [c24]; rfl) (by decide) ?_
        exact y_op_24 hL hi hS ih
      by_cases c25 : xs i &&& 63 = 25
      · refine y_tableIn (off := 864) (tgt := 897) dL_law_33 (by rw [c25]; decide) (by rw [c25]; decide) (by rw [c25]; rfl) (by decide) ?_
        exact y_op_25 hL hi hS ih
      by_cases c26 : xs i &&& 63 = 26
      · refine y_tableIn (off := 887) (tgt := 920) dL_law_33 (by rw [c26]; decide) (by rw [c26]; decide) (by rw [c26]; rfl) (by decide) ?_
        exact y_op_26 hL hi hS ih
      by_cases c27 : xs i &&& 63 = 27
      · refine y_tableIn (off := 900) (tgt := 933) dL_law_33 (by rw [c27]; decide) (by rw [c27]; decide) (by rw [c27]; rfl) (by decide) ?_
        exact y_op_27 hL hi hS ih
      by_cases c28 : xs i &&& 63 = 28
      · refine y_tableIn (off := 913) (tgt := 946) dL_law_33 (by rw [c28]; decide) (by rw [c28]; decide) (by rw [c28]; rfl) (by decide) ?_
        exact y_op_28 hL hi hS ih
      by_cases c29 : xs i &&& 63 = 29
      · refine y_tableIn (off := 936) (tgt := 969) dL_law_33 (by rw [c29]; decide) (by rw [c29]; decide) (by rw [c29]; rfl) (by decide) ?_
        exact y_op_29 hL hi hS ih
      by_cases c30 : xs i &&& 63 = 30
      · refine y_tableIn (off := 969) (tgt := 1002) dL_law_33 (by rw [c30]; decide) (by rw [c30]; decide) (by rw [c30]; rfl) (by decide) ?_
        exact y_op_30 hL hi hS ih
      by_cases c31 : xs i &&& 63 = 31
      · refine y_tableIn (off := 1033) (tgt := 1066) dL_law_33 (by rw [c31]; decide) (by rw [c31]; decide) (by rw [c31]; rfl) (by decide) ?_
        exact y_op_31 hL hi hS ih
      by_cases c32 : xs i &&& 63 = 32
      · refine y_tableIn (off := 1087) (tgt := 1120) dL_law_33 (by rw [c32]; decide) (by rw [c32]; decide) (by rw [c32]; rfl) (by decide) ?_
        exact y_op_32 hL hi hS ih
      by_cases c33 : xs i &&& 63 = 33
      · refine y_tableIn (off := 1120) (tgt := 1153) dL_law_33 (by rw [c33]; decide) (by rw [c33]; decide) (by rw [c33]; rfl) (by decide) ?_
        exact y_op_33 hL hi hS ih
      by_cases c34 : xs i &&& 63 = 34
      · refine y_tableIn (off := 1163) (tgt := 1196) dL_law_33 (by rw [c34]; decide) (by rw [c34]; decide) (by rw [c34]; rfl) (by decide) ?_
        exact y_op_34 hL hi hS ih
      by_cases c35 : xs i &&& 63 = 35
      · refine y_tableIn (off := 1186) (tgt := 1219) dL_law_33 (by rw [c35]; decide) (by rw [c35]; decide) (by rw [c35]; rfl) (by decide) ?_
        exact y_op_35 hL hi hS ih
      by_cases c36 : xs i &&& 63 = 36
      · refine y_tableIn (off := 1209) (tgt := 1242) dL_law_33 (by rw [c36]; decide) (by rw [c36]; decide) (by rw [c36]; rfl) (by decide) ?_
        exact y_op_36 hL hi hS ih
      by_cases c37 : xs i &&& 63 = 37
      · refine y_tableIn (off := 1222) (tgt := 1255) dL_law_33 (by rw [c37]; decide) (by rw [c37]; decide) (by rw [c37]; rfl) (by decide) ?_
        exact y_op_37 hL hi hS ih
      by_cases c38 : xs i &&& 63 = 38
      · refine y_tableIn (off := 1265) (tgt := 1298) dL_law_33 (by rw [c38]; decide) (by rw [c38]; decide) (by rw [c38]; rfl) (by decide) ?_
        exact y_op_38 hL hi hS ih
      by_cases c39 : xs i &&& 63 = 39
      · refine y_tableIn (off := 1278) (tgt := 1311) dL_law_33 (by rw [c39]; decide) (by rw [c39]; decide) (by rw [c39]; rfl) (by decide) ?_
        exact y_op_39 hL hi hS ih
      by_cases c40 : xs i &&& 63 = 40
      · refine y_tableIn (off := 1291) (tgt := 1324) dL_law_33 (by rw [c40]; decide) (by rw [c40]; decide) (by rw [c40]; rfl) (by decide) ?_
        exact y_op_40 hL hi hS ih
      refine y_tableOut (tgt := 1347) dL_law_33 ?_ (by decide) (ih S hS)
      have hb := law_63 (xs i)
      rcases Nat.lt_or_ge 40 (xs i &&& 63).toInt.toNat with q | q
      · exact Or.inr (by omega)
      · exfalso
        obtain ⟨j, hj, e⟩ := law_j hb q
        rcases (show j = 0 ∨ j = 1 ∨ j = 2 ∨ j = 3 ∨ j = 4 ∨ j = 5 ∨ j = 6 ∨ j = 7 ∨ j = 8 ∨ j = 9 ∨ j = 10 ∨ j = 11 ∨ j = 12 ∨ j = 13 ∨ j = 14 ∨ j = 15 ∨ j = 16 ∨ j = 17 ∨ j = 18 ∨ j = 19 ∨ j = 20 ∨ j = 21 ∨ j = 22 ∨ j = 23 ∨ j = 24 ∨ j = 25 ∨ j = 26 ∨ j = 27 ∨ j = 28 ∨ j = 29 ∨ j = 30 ∨ j = 31 ∨ j = 32 ∨ j = 33 ∨ j = 34 ∨ j = 35 ∨ j = 36 ∨ j = 37 ∨ j = 38 ∨ j = 39 ∨ j = 40 by omega) with rfl | rfl | rfl | rfl | rfl | rfl | rfl | rfl | rfl | rfl | rfl | rfl | rfl | rfl | rfl | rfl | rfl | rfl | rfl | rfl | rfl | rfl | rfl | rfl | rfl | rfl | rfl | rfl | rfl | rfl | rfl | rfl | rfl | rfl | rfl | rfl | rfl | rfl | rfl | rfl | rfl
        · exact c0 (by rw [e]; rfl)
        · exact c1 (by rw [e]; rfl)
        · exact c2 (by rw [e]; rfl)
        · exact c3 (by rw [e]; rfl)
        · exact c4 (by rw [e]; rfl)
        · exact c5 (by rw [e]; rfl)
        · exact c6 (by rw [e]; rfl)
        · exact c7 (by rw [e]; rfl)
        · exact c8 (by rw [e]; rfl)
        · exact c9 (by rw [e]; rfl)
        · exact c10 (by rw [e]; rfl)
        · exact c11 (by rw [e]; rfl)
        · exact c12 (by rw [e]; rfl)
        · exact c13 (by rw [e]; rfl)
        · exact c14 (by rw [e]; rfl)
        · exact c15 (by rw [e]; rfl)
        · exact c16 (by rw [e]; rfl)
        · exact c17 (by rw [e]; rfl)
        · exact c18 (by rw [e]; rfl)
        · exact c19 (by rw [e]; rfl)
        · exact c20 (by rw [e]; rfl)
        · exact c21 (by rw [e]; rfl)
        · exact c22 (by rw [e]; rfl)
        · exact c23 (by rw [e]; rfl)
        · exact c24 (by rw [e]; rfl)
        · exact c25 (by rw [e]; rfl)
        · exact c26 (by rw [e]; rfl)
        · exact c27 (by rw [e]; rfl)
        · exact c28 (by rw [e]; rfl)
        · exact c29 (by rw [e]; rfl)
        · exact c30 (by rw [e]; rfl)
        · exact c31 (by rw [e]; rfl)
        · exact c32 (by rw [e]; rfl)
        · exact c33 (by rw [e]; rfl)
        · exact c34 (by rw [e]; rfl)
        · exact c35 (by rw [e]; rfl)
        · exact c36 (by rw [e]; rfl)
        · exact c37 (by rw [e]; rfl)
        · exact c38 (by rw [e]; rfl)
        · exact c39 (by rw [e]; rfl)
        · exact c40 (by rw [e]; rfl)
