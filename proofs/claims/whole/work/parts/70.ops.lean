-- ===== each call: both answer alike, and what holds goes on to hold =====
theorem e_letter {S : St} (hS : Inv S) (a1 : Int32) : ∃ (z1 : Int32 × St) (z2 : Int32 × St), f_X7_letter a1 S = some z1 ∧ f_X8_letter a1 z1.2 = some z2 ∧ z1.1 = z2.1 ∧ Inv z2.2 := by
  sorry
theorem e_shop {S : St} (hS : Inv S)  : ∃ (z1 : Int32 × St) (z2 : Int32 × St), f_X7_shop S = some z1 ∧ f_X8_shop z1.2 = some z2 ∧ z1.1 = z2.1 ∧ Inv z2.2 := by
  sorry
theorem e_thing {S : St} (hS : Inv S) (a1 : Int32) (a2 : Int32) : ∃ (z1 : Int32 × St) (z2 : Int32 × St), f_X7_thing a1 a2 S = some z1 ∧ f_X8_thing a1 a2 z1.2 = some z2 ∧ z1.1 = z2.1 ∧ Inv z2.2 := by
  sorry
theorem e_glad {S : St} (hS : Inv S) (a1 : Int32) (a2 : Int32) : ∃ (z1 : Int32 × St) (z2 : Int32 × St), f_X7_glad a1 a2 S = some z1 ∧ f_X8_glad a1 a2 z1.2 = some z2 ∧ z1.1 = z2.1 ∧ Inv z2.2 := by
  sorry
theorem e_halves {S : St} (hS : Inv S) (a1 : Int32) (a2 : Int32) : ∃ (z1 : Int32 × St) (z2 : Int32 × St), f_X7_halves a1 a2 S = some z1 ∧ f_X8_halves a1 a2 z1.2 = some z2 ∧ z1.1 = z2.1 ∧ Inv z2.2 := by
  sorry
theorem e_turn {S : St} (hS : Inv S) (a1 : Int32) (a2 : Int32) (a3 : Int32) : ∃ (z1 : Int32 × St) (z2 : Int32 × St), f_X7_turn a1 a2 a3 S = some z1 ∧ f_X8_turn a1 a2 a3 z1.2 = some z2 ∧ z1.1 = z2.1 ∧ Inv z2.2 := by
  sorry
theorem e_makes {S : St} (hS : Inv S) (a1 : Int32) (a2 : Int32) (a3 : Int32) : ∃ (z1 : Int32 × St) (z2 : Int32 × St), f_X7_makes a1 a2 a3 S = some z1 ∧ f_X8_makes a1 a2 a3 z1.2 = some z2 ∧ z1.1 = z2.1 ∧ Inv z2.2 := by
  sorry
theorem e_pairs {S : St} (hS : Inv S) (a1 : Int32) (a2 : Int32) : ∃ (z1 : Int32 × St) (z2 : Int32 × St), f_X7_pairs a1 a2 S = some z1 ∧ f_X8_pairs a1 a2 z1.2 = some z2 ∧ z1.1 = z2.1 ∧ Inv z2.2 := by
  sorry
theorem e_now {S : St} (hS : Inv S) (a1 : Int32) : ∃ (z1 : Int32 × St) (z2 : Int32 × St), f_X7_now a1 S = some z1 ∧ f_X8_now a1 z1.2 = some z2 ∧ z1.1 = z2.1 ∧ Inv z2.2 := by
  sorry
theorem e_hands {S : St} (hS : Inv S) (a1 : Int32) : ∃ (z1 : Int32 × St) (z2 : Int32 × St), f_X7_hands a1 S = some z1 ∧ f_X8_hands a1 z1.2 = some z2 ∧ z1.1 = z2.1 ∧ Inv z2.2 := by
  sorry
theorem e_pours {S : St} (hS : Inv S) (a1 : Int32) : ∃ (z1 : Int32 × St) (z2 : Int32 × St), f_X7_pours a1 S = some z1 ∧ f_X8_pours a1 z1.2 = some z2 ∧ z1.1 = z2.1 ∧ Inv z2.2 := by
  sorry
theorem e_glues {S : St} (hS : Inv S) (a1 : Int32) (a2 : Int32) (a3 : Int32) : ∃ (z1 : Int32 × St) (z2 : Int32 × St), f_X7_glues a1 a2 a3 S = some z1 ∧ f_X8_glues a1 a2 a3 z1.2 = some z2 ∧ z1.1 = z2.1 ∧ Inv z2.2 := by
  sorry
theorem e_washes {S : St} (hS : Inv S) (a1 : Int32) : ∃ (z1 : Int32 × St) (z2 : Int32 × St), f_X7_washes a1 S = some z1 ∧ f_X8_washes a1 z1.2 = some z2 ∧ z1.1 = z2.1 ∧ Inv z2.2 := by
  sorry
theorem e_would {S : St} (hS : Inv S) (a1 : Int32) (a2 : Int32) (a3 : Int32) (a4 : Int32) : ∃ (z1 : Int32 × St) (z2 : Int32 × St), f_X7_would a1 a2 a3 a4 S = some z1 ∧ f_X8_would a1 a2 a3 a4 z1.2 = some z2 ∧ z1.1 = z2.1 ∧ Inv z2.2 := by
  sorry
theorem e_can {S : St} (hS : Inv S) (a1 : Int32) : ∃ (z1 : Int32 × St) (z2 : Int32 × St), f_X7_can a1 S = some z1 ∧ f_X8_can a1 z1.2 = some z2 ∧ z1.1 = z2.1 ∧ Inv z2.2 := by
  sorry
theorem e_fewest {S : St} (hS : Inv S) (a1 : Int32) (a2 : Int32) : ∃ (z1 : Int32 × St) (z2 : Int32 × St), f_X7_fewest a1 a2 S = some z1 ∧ f_X8_fewest a1 a2 z1.2 = some z2 ∧ z1.1 = z2.1 ∧ Inv z2.2 := by
  sorry
theorem e_gladness {S : St} (hS : Inv S)  : ∃ (z1 : Int32) (z2 : Int32), f_X7_gladness S = some z1 ∧ f_X8_gladness S = some z2 ∧ z1 = z2 ∧ Inv S := by
  sorry
theorem e_agree {S : St} (hS : Inv S) (a1 : Int32) : ∃ (z1 : Int32 × St) (z2 : Int32 × St), f_X7_agree a1 S = some z1 ∧ f_X8_agree a1 z1.2 = some z2 ∧ z1.1 = z2.1 ∧ Inv z2.2 := by
  sorry
theorem e_most {S : St} (hS : Inv S) (a1 : Int32) : ∃ (z1 : Int32 × St) (z2 : Int32 × St), f_X7_most a1 S = some z1 ∧ f_X8_most_ a1 z1.2 = some z2 ∧ z1.1 = z2.1 ∧ Inv z2.2 := by
  sorry
theorem e_byMinutes {S : St} (hS : Inv S) (a1 : Int32) : ∃ (z1 : Int32 × St) (z2 : Int32 × St), f_X7_byMinutes a1 S = some z1 ∧ f_X8_byMinutes a1 z1.2 = some z2 ∧ z1.1 = z2.1 ∧ Inv z2.2 := by
  sorry
theorem e_fewDrops {S : St} (hS : Inv S)  : ∃ (z1 : Int32 × St) (z2 : Int32 × St), f_X7_fewDrops S = some z1 ∧ f_X8_fewDrops z1.2 = some z2 ∧ z1.1 = z2.1 ∧ Inv z2.2 := by
  sorry
theorem e_together {S : St} (hS : Inv S) (a1 : Int32) (a2 : Int32) (a3 : Int32) : ∃ (z1 : Int32 × St) (z2 : Int32 × St), f_X7_together a1 a2 a3 S = some z1 ∧ f_X8_together a1 a2 a3 z1.2 = some z2 ∧ z1.1 = z2.1 ∧ Inv z2.2 := by
  sorry
theorem e_queue {S : St} (hS : Inv S) (a1 : Int32) : ∃ (z1 : Int32 × St) (z2 : Int32 × St), f_X7_queue a1 S = some z1 ∧ f_X8_queue a1 z1.2 = some z2 ∧ z1.1 = z2.1 ∧ Inv z2.2 := by
  sorry
theorem e_oneMore {S : St} (hS : Inv S)  : ∃ (z1 : Int32) (z2 : Int32 × St), f_X7_oneMore S = some z1 ∧ f_X8_oneMore S = some z2 ∧ z1 = z2.1 ∧ Inv z2.2 := by
  sorry
theorem e_bestYear {S : St} (hS : Inv S)  : ∃ (z1 : Int32 × St) (z2 : Int32 × St), f_X7_bestYear S = some z1 ∧ f_X8_bestYear z1.2 = some z2 ∧ z1.1 = z2.1 ∧ Inv z2.2 := by
  sorry
theorem e_water {S : St} (hS : Inv S) (a1 : Int32) : ∃ (z1 : Int32 × St) (z2 : Int32 × St), f_X7_water a1 S = some z1 ∧ f_X8_water a1 z1.2 = some z2 ∧ z1.1 = z2.1 ∧ Inv z2.2 := by
  sorry
theorem e_bestWash {S : St} (hS : Inv S)  : ∃ (z1 : Int32) (z2 : Int32), f_X7_bestWash S = some z1 ∧ f_X8_bestWash S = some z2 ∧ z1 = z2 ∧ Inv S := by
  sorry
theorem e_sour {S : St} (hS : Inv S)  : ∃ (z1 : Int32) (z2 : Int32), f_X7_sour S = some z1 ∧ f_X8_sour S = some z2 ∧ z1 = z2 ∧ Inv S := by
  sorry
theorem e_regret {S : St} (hS : Inv S) (a1 : Int32) : ∃ (z1 : Int32 × St) (z2 : Int32 × St), f_X7_regret a1 S = some z1 ∧ f_X8_regret a1 z1.2 = some z2 ∧ z1.1 = z2.1 ∧ Inv z2.2 := by
  sorry
theorem e_two {S : St} (hS : Inv S) (a1 : Int32) (a2 : Int32) : ∃ (z1 : Int32 × St) (z2 : Int32 × St), f_X7_two a1 a2 S = some z1 ∧ f_X8_two a1 a2 z1.2 = some z2 ∧ z1.1 = z2.1 ∧ Inv z2.2 := by
  sorry
theorem e_slip {S : St} (hS : Inv S) (a1 : Int32) (a2 : Int32) (a3 : Int32) (a4 : Int32) (a5 : Int32) : ∃ (z1 : Int64 × St) (z2 : Int64 × St), f_X7_slip a1 a2 a3 a4 a5 S = some z1 ∧ f_X8_slip a1 a2 a3 a4 a5 z1.2 = some z2 ∧ z1.1 = z2.1 ∧ Inv z2.2 := by
  sorry
theorem e_mean {S : St} (hS : Inv S) (a1 : Int32) (a2 : Int32) (a3 : Int32) (a4 : Int32) : ∃ (z1 : Int64 × St) (z2 : Int64 × St), f_X7_mean a1 a2 a3 a4 S = some z1 ∧ f_X8_mean a1 a2 a3 a4 z1.2 = some z2 ∧ z1.1 = z2.1 ∧ Inv z2.2 := by
  sorry
theorem e_whatWas {S : St} (hS : Inv S) (a1 : Int32) (a2 : Int32) : ∃ (z1 : Int32 × St) (z2 : Int32 × St), f_X7_whatWas a1 a2 S = some z1 ∧ f_X8_whatWas a1 a2 z1.2 = some z2 ∧ z1.1 = z2.1 ∧ Inv z2.2 := by
  sorry
theorem e_mended {S : St} (hS : Inv S) (a1 : Int32) (a2 : Int32) (a3 : Int32) : ∃ (z1 : Int32 × St) (z2 : Int32 × St), f_X7_mended a1 a2 a3 S = some z1 ∧ f_X8_mended a1 a2 a3 z1.2 = some z2 ∧ z1.1 = z2.1 ∧ Inv z2.2 := by
  sorry
theorem e_row {S : St} (hS : Inv S) (a1 : Int32) : ∃ (z1 : Int32 × St) (z2 : Int32 × St), f_X7_row a1 S = some z1 ∧ f_X8_row a1 z1.2 = some z2 ∧ z1.1 = z2.1 ∧ Inv z2.2 := by
  sorry
theorem e_judge {S : St} (hS : Inv S) (a1 : Int32) : ∃ (z1 : Int32 × St) (z2 : Int32 × St), f_X7_judge a1 S = some z1 ∧ f_X8_judge a1 z1.2 = some z2 ∧ z1.1 = z2.1 ∧ Inv z2.2 := by
  sorry
theorem e_clear {S : St} (hS : Inv S)  : ∃ (z1 : Int32 × St) (z2 : Int32 × St), f_X7_clear S = some z1 ∧ f_X8_clear z1.2 = some z2 ∧ z1.1 = z2.1 ∧ Inv z2.2 := by
  sorry
theorem e_lots {S : St} (hS : Inv S) (a1 : Int32) (a2 : Int32) (a3 : Int32) : ∃ (z1 : Int32 × St) (z2 : Int32 × St), f_X7_lots a1 a2 a3 S = some z1 ∧ f_X8_lots a1 a2 a3 z1.2 = some z2 ∧ z1.1 = z2.1 ∧ Inv z2.2 := by
  sorry
theorem e_image {S : St} (hS : Inv S)  : ∃ (z1 : Int32 × St) (z2 : Int32 × St), f_X7_image S = some z1 ∧ f_X8_image z1.2 = some z2 ∧ z1.1 = z2.1 ∧ Inv z2.2 := by
  sorry
theorem e_on {S : St} (hS : Inv S)  : ∃ (z1 : Int32 × St) (z2 : Int32 × St), f_X7_on S = some z1 ∧ f_X8_on z1.2 = some z2 ∧ z1.1 = z2.1 ∧ Inv z2.2 := by
  sorry
theorem e_count {S : St} (hS : Inv S) (a1 : Int32) : ∃ (z1 : Int32) (z2 : Int32), f_X7_count a1 S = some z1 ∧ f_X8_count a1 S = some z2 ∧ z1 = z2 ∧ Inv S := by
  sorry
