theorem yint (l : List Int32) : ∀ x ∈ l.map Value.int, ∀ z, x ≠ .float z := by
  intro x hx z
  obtain ⟨a, -, rfl⟩ := List.mem_map.mp hx
  exact fun q => by cases q
theorem lgc (a : Int64) : lg_cmp a a = 0 := by simp [lg_cmp]
theorem yl_13 : Cond.methodLink RL 13 yX7_letter ∈ WS := (ws_at 289 (by decide +kernel) rfl)
theorem y2_13 : Cond.initialized yX7_letter.cls ∈ WS ∧ Cond.code yX7_letter M_X7_letter.2.1 M_X7_letter.2.2.1 M_X7_letter.2.2.2.1 ∈ WS ∧ (yX7_letter.cls ≠ "java/lang/invoke/MethodHandle" ∧ yX7_letter.cls ≠ "java/lang/invoke/VarHandle" ∧ (parseMethodDescriptor yX7_letter.desc).map (fun d => d.parameters.length) = some 1) := ⟨(ws_at 86 (by decide +kernel) rfl), (ws_at 292 (by decide +kernel) rfl), ⟨by decide +kernel, by decide +kernel, by decide +kernel⟩⟩
theorem yl_17 : Cond.methodLink RL 17 yX8_letter ∈ WS := (ws_at 922 (by decide +kernel) rfl)
theorem y2_17 : Cond.initialized yX8_letter.cls ∈ WS ∧ Cond.code yX8_letter M_X8_letter.2.1 M_X8_letter.2.2.1 M_X8_letter.2.2.2.1 ∈ WS ∧ (yX8_letter.cls ≠ "java/lang/invoke/MethodHandle" ∧ yX8_letter.cls ≠ "java/lang/invoke/VarHandle" ∧ (parseMethodDescriptor yX8_letter.desc).map (fun d => d.parameters.length) = some 1) := ⟨(ws_at 94 (by decide +kernel) rfl), (ws_at 925 (by decide +kernel) rfl), ⟨by decide +kernel, by decide +kernel, by decide +kernel⟩⟩
theorem yl_18 : Cond.methodLink RL 18 yX7_shop ∈ WS := (ws_at 306 (by decide +kernel) rfl)
theorem y2_18 : Cond.initialized yX7_shop.cls ∈ WS ∧ Cond.code yX7_shop M_X7_shop.2.1 M_X7_shop.2.2.1 M_X7_shop.2.2.2.1 ∈ WS ∧ (yX7_shop.cls ≠ "java/lang/invoke/MethodHandle" ∧ yX7_shop.cls ≠ "java/lang/invoke/VarHandle" ∧ (parseMethodDescriptor yX7_shop.desc).map (fun d => d.parameters.length) = some 0) := ⟨(ws_at 86 (by decide +kernel) rfl), (ws_at 309 (by decide +kernel) rfl), ⟨by decide +kernel, by decide +kernel, by decide +kernel⟩⟩
theorem yl_22 : Cond.methodLink RL 22 yX8_shop ∈ WS := (ws_at 930 (by decide +kernel) rfl)
theorem y2_22 : Cond.initialized yX8_shop.cls ∈ WS ∧ Cond.code yX8_shop M_X8_shop.2.1 M_X8_shop.2.2.1 M_X8_shop.2.2.2.1 ∈ WS ∧ (yX8_shop.cls ≠ "java/lang/invoke/MethodHandle" ∧ yX8_shop.cls ≠ "java/lang/invoke/VarHandle" ∧ (parseMethodDescriptor yX8_shop.desc).map (fun d => d.parameters.length) = some 0) := ⟨(ws_at 94 (by decide +kernel) rfl), (ws_at 933 (by decide +kernel) rfl), ⟨by decide +kernel, by decide +kernel, by decide +kernel⟩⟩
theorem yl_23 : Cond.methodLink RL 23 yX7_thing ∈ WS := (ws_at 520 (by decide +kernel) rfl)
theorem y2_23 : Cond.initialized yX7_thing.cls ∈ WS ∧ Cond.code yX7_thing M_X7_thing.2.1 M_X7_thing.2.2.1 M_X7_thing.2.2.2.1 ∈ WS ∧ (yX7_thing.cls ≠ "java/lang/invoke/MethodHandle" ∧ yX7_thing.cls ≠ "java/lang/invoke/VarHandle" ∧ (parseMethodDescriptor yX7_thing.desc).map (fun d => d.parameters.length) = some 2) := ⟨(ws_at 86 (by decide +kernel) rfl), (ws_at 523 (by decide +kernel) rfl), ⟨by decide +kernel, by decide +kernel, by decide +kernel⟩⟩
theorem yl_27 : Cond.methodLink RL 27 yX8_thing ∈ WS := (ws_at 1003 (by decide +kernel) rfl)
theorem y2_27 : Cond.initialized yX8_thing.cls ∈ WS ∧ Cond.code yX8_thing M_X8_thing.2.1 M_X8_thing.2.2.1 M_X8_thing.2.2.2.1 ∈ WS ∧ (yX8_thing.cls ≠ "java/lang/invoke/MethodHandle" ∧ yX8_thing.cls ≠ "java/lang/invoke/VarHandle" ∧ (parseMethodDescriptor yX8_thing.desc).map (fun d => d.parameters.length) = some 2) := ⟨(ws_at 94 (by decide +kernel) rfl), (ws_at 1006 (by decide +kernel) rfl), ⟨by decide +kernel, by decide +kernel, by decide +kernel⟩⟩
theorem yl_28 : Cond.methodLink RL 28 yX7_glad ∈ WS := (ws_at 532 (by decide +kernel) rfl)
theorem y2_28 : Cond.initialized yX7_glad.cls ∈ WS ∧ Cond.code yX7_glad M_X7_glad.2.1 M_X7_glad.2.2.1 M_X7_glad.2.2.2.1 ∈ WS ∧ (yX7_glad.cls ≠ "java/lang/invoke/MethodHandle" ∧ yX7_glad.cls ≠ "java/lang/invoke/VarHandle" ∧ (parseMethodDescriptor yX7_glad.desc).map (fun d => d.parameters.length) = some 2) := ⟨(ws_at 86 (by decide +kernel) rfl), (ws_at 535 (by decide +kernel) rfl), ⟨by decide +kernel, by decide +kernel, by decide +kernel⟩⟩
theorem yl_31 : Cond.methodLink RL 31 yX8_glad ∈ WS := (ws_at 1010 (by decide +kernel) rfl)
theorem y2_31 : Cond.initialized yX8_glad.cls ∈ WS ∧ Cond.code yX8_glad M_X8_glad.2.1 M_X8_glad.2.2.1 M_X8_glad.2.2.2.1 ∈ WS ∧ (yX8_glad.cls ≠ "java/lang/invoke/MethodHandle" ∧ yX8_glad.cls ≠ "java/lang/invoke/VarHandle" ∧ (parseMethodDescriptor yX8_glad.desc).map (fun d => d.parameters.length) = some 2) := ⟨(ws_at 94 (by decide +kernel) rfl), (ws_at 1013 (by decide +kernel) rfl), ⟨by decide +kernel, by decide +kernel, by decide +kernel⟩⟩
theorem yl_32 : Cond.methodLink RL 32 yX7_halves ∈ WS := (ws_at 538 (by decide +kernel) rfl)
theorem y2_32 : Cond.initialized yX7_halves.cls ∈ WS ∧ Cond.code yX7_halves M_X7_halves.2.1 M_X7_halves.2.2.1 M_X7_halves.2.2.2.1 ∈ WS ∧ (yX7_halves.cls ≠ "java/lang/invoke/MethodHandle" ∧ yX7_halves.cls ≠ "java/lang/invoke/VarHandle" ∧ (parseMethodDescriptor yX7_halves.desc).map (fun d => d.parameters.length) = some 2) := ⟨(ws_at 86 (by decide +kernel) rfl), (ws_at 541 (by decide +kernel) rfl), ⟨by decide +kernel, by decide +kernel, by decide +kernel⟩⟩
theorem yl_35 : Cond.methodLink RL 35 yX8_halves ∈ WS := (ws_at 1014 (by decide +kernel) rfl)
theorem y2_35 : Cond.initialized yX8_halves.cls ∈ WS ∧ Cond.code yX8_halves M_X8_halves.2.1 M_X8_halves.2.2.1 M_X8_halves.2.2.2.1 ∈ WS ∧ (yX8_halves.cls ≠ "java/lang/invoke/MethodHandle" ∧ yX8_halves.cls ≠ "java/lang/invoke/VarHandle" ∧ (parseMethodDescriptor yX8_halves.desc).map (fun d => d.parameters.length) = some 2) := ⟨(ws_at 94 (by decide +kernel) rfl), (ws_at 1017 (by decide +kernel) rfl), ⟨by decide +kernel, by decide +kernel, by decide +kernel⟩⟩
theorem yl_36 : Cond.methodLink RL 36 yX7_turn ∈ WS := (ws_at 547 (by decide +kernel) rfl)
theorem y2_36 : Cond.initialized yX7_turn.cls ∈ WS ∧ Cond.code yX7_turn M_X7_turn.2.1 M_X7_turn.2.2.1 M_X7_turn.2.2.2.1 ∈ WS ∧ (yX7_turn.cls ≠ "java/lang/invoke/MethodHandle" ∧ yX7_turn.cls ≠ "java/lang/invoke/VarHandle" ∧ (parseMethodDescriptor yX7_turn.desc).map (fun d => d.parameters.length) = some 3) := ⟨(ws_at 86 (by decide +kernel) rfl), (ws_at 550 (by decide +kernel) rfl), ⟨by decide +kernel, by decide +kernel, by decide +kernel⟩⟩
theorem yl_40 : Cond.methodLink RL 40 yX8_turn ∈ WS := (ws_at 1022 (by decide +kernel) rfl)
theorem y2_40 : Cond.initialized yX8_turn.cls ∈ WS ∧ Cond.code yX8_turn M_X8_turn.2.1 M_X8_turn.2.2.1 M_X8_turn.2.2.2.1 ∈ WS ∧ (yX8_turn.cls ≠ "java/lang/invoke/MethodHandle" ∧ yX8_turn.cls ≠ "java/lang/invoke/VarHandle" ∧ (parseMethodDescriptor yX8_turn.desc).map (fun d => d.parameters.length) = some 3) := ⟨(ws_at 94 (by decide +kernel) rfl), (ws_at 1025 (by decide +kernel) rfl), ⟨by decide +kernel, by decide +kernel, by decide +kernel⟩⟩
theorem yl_41 : Cond.methodLink RL 41 yX7_makes ∈ WS := (ws_at 554 (by decide +kernel) rfl)
theorem y2_41 : Cond.initialized yX7_makes.cls ∈ WS ∧ Cond.code yX7_makes M_X7_makes.2.1 M_X7_makes.2.2.1 M_X7_makes.2.2.2.1 ∈ WS ∧ (yX7_makes.cls ≠ "java/lang/invoke/MethodHandle" ∧ yX7_makes.cls ≠ "java/lang/invoke/VarHandle" ∧ (parseMethodDescriptor yX7_makes.desc).map (fun d => d.parameters.length) = some 3) := ⟨(ws_at 86 (by decide +kernel) rfl), (ws_at 557 (by decide +kernel) rfl), ⟨by decide +kernel, by decide +kernel, by decide +kernel⟩⟩
theorem yl_44 : Cond.methodLink RL 44 yX8_makes ∈ WS := (ws_at 1026 (by decide +kernel) rfl)
theorem y2_44 : Cond.initialized yX8_makes.cls ∈ WS ∧ Cond.code yX8_makes M_X8_makes.2.1 M_X8_makes.2.2.1 M_X8_makes.2.2.2.1 ∈ WS ∧ (yX8_makes.cls ≠ "java/lang/invoke/MethodHandle" ∧ yX8_makes.cls ≠ "java/lang/invoke/VarHandle" ∧ (parseMethodDescriptor yX8_makes.desc).map (fun d => d.parameters.length) = some 3) := ⟨(ws_at 94 (by decide +kernel) rfl), (ws_at 1029 (by decide +kernel) rfl), ⟨by decide +kernel, by decide +kernel, by decide +kernel⟩⟩
theorem yl_45 : Cond.methodLink RL 45 yX7_pairs ∈ WS := (ws_at 559 (by decide +kernel) rfl)
theorem y2_45 : Cond.initialized yX7_pairs.cls ∈ WS ∧ Cond.code yX7_pairs M_X7_pairs.2.1 M_X7_pairs.2.2.1 M_X7_pairs.2.2.2.1 ∈ WS ∧ (yX7_pairs.cls ≠ "java/lang/invoke/MethodHandle" ∧ yX7_pairs.cls ≠ "java/lang/invoke/VarHandle" ∧ (parseMethodDescriptor yX7_pairs.desc).map (fun d => d.parameters.length) = some 2) := ⟨(ws_at 86 (by decide +kernel) rfl), (ws_at 562 (by decide +kernel) rfl), ⟨by decide +kernel, by decide +kernel, by decide +kernel⟩⟩
theorem yl_48 : Cond.methodLink RL 48 yX8_pairs ∈ WS := (ws_at 1030 (by decide +kernel) rfl)
theorem y2_48 : Cond.initialized yX8_pairs.cls ∈ WS ∧ Cond.code yX8_pairs M_X8_pairs.2.1 M_X8_pairs.2.2.1 M_X8_pairs.2.2.2.1 ∈ WS ∧ (yX8_pairs.cls ≠ "java/lang/invoke/MethodHandle" ∧ yX8_pairs.cls ≠ "java/lang/invoke/VarHandle" ∧ (parseMethodDescriptor yX8_pairs.desc).map (fun d => d.parameters.length) = some 2) := ⟨(ws_at 94 (by decide +kernel) rfl), (ws_at 1033 (by decide +kernel) rfl), ⟨by decide +kernel, by decide +kernel, by decide +kernel⟩⟩
theorem yl_49 : Cond.methodLink RL 49 yX7_now ∈ WS := (ws_at 563 (by decide +kernel) rfl)
theorem y2_49 : Cond.initialized yX7_now.cls ∈ WS ∧ Cond.code yX7_now M_X7_now.2.1 M_X7_now.2.2.1 M_X7_now.2.2.2.1 ∈ WS ∧ (yX7_now.cls ≠ "java/lang/invoke/MethodHandle" ∧ yX7_now.cls ≠ "java/lang/invoke/VarHandle" ∧ (parseMethodDescriptor yX7_now.desc).map (fun d => d.parameters.length) = some 1) := ⟨(ws_at 86 (by decide +kernel) rfl), (ws_at 566 (by decide +kernel) rfl), ⟨by decide +kernel, by decide +kernel, by decide +kernel⟩⟩
theorem yl_52 : Cond.methodLink RL 52 yX8_now ∈ WS := (ws_at 1034 (by decide +kernel) rfl)
theorem y2_52 : Cond.initialized yX8_now.cls ∈ WS ∧ Cond.code yX8_now M_X8_now.2.1 M_X8_now.2.2.1 M_X8_now.2.2.2.1 ∈ WS ∧ (yX8_now.cls ≠ "java/lang/invoke/MethodHandle" ∧ yX8_now.cls ≠ "java/lang/invoke/VarHandle" ∧ (parseMethodDescriptor yX8_now.desc).map (fun d => d.parameters.length) = some 1) := ⟨(ws_at 94 (by decide +kernel) rfl), (ws_at 1037 (by decide +kernel) rfl), ⟨by decide +kernel, by decide +kernel, by decide +kernel⟩⟩
theorem yl_53 : Cond.methodLink RL 53 yX7_hands ∈ WS := (ws_at 567 (by decide +kernel) rfl)
theorem y2_53 : Cond.initialized yX7_hands.cls ∈ WS ∧ Cond.code yX7_hands M_X7_hands.2.1 M_X7_hands.2.2.1 M_X7_hands.2.2.2.1 ∈ WS ∧ (yX7_hands.cls ≠ "java/lang/invoke/MethodHandle" ∧ yX7_hands.cls ≠ "java/lang/invoke/VarHandle" ∧ (parseMethodDescriptor yX7_hands.desc).map (fun d => d.parameters.length) = some 1) := ⟨(ws_at 86 (by decide +kernel) rfl), (ws_at 570 (by decide +kernel) rfl), ⟨by decide +kernel, by decide +kernel, by decide +kernel⟩⟩
theorem yl_56 : Cond.methodLink RL 56 yX8_hands ∈ WS := (ws_at 1038 (by decide +kernel) rfl)
theorem y2_56 : Cond.initialized yX8_hands.cls ∈ WS ∧ Cond.code yX8_hands M_X8_hands.2.1 M_X8_hands.2.2.1 M_X8_hands.2.2.2.1 ∈ WS ∧ (yX8_hands.cls ≠ "java/lang/invoke/MethodHandle" ∧ yX8_hands.cls ≠ "java/lang/invoke/VarHandle" ∧ (parseMethodDescriptor yX8_hands.desc).map (fun d => d.parameters.length) = some 1) := ⟨(ws_at 94 (by decide +kernel) rfl), (ws_at 1041 (by decide +kernel) rfl), ⟨by decide +kernel, by decide +kernel, by decide +kernel⟩⟩
theorem yl_57 : Cond.methodLink RL 57 yX7_pours ∈ WS := (ws_at 571 (by decide +kernel) rfl)
theorem y2_57 : Cond.initialized yX7_pours.cls ∈ WS ∧ Cond.code yX7_pours M_X7_pours.2.1 M_X7_pours.2.2.1 M_X7_pours.2.2.2.1 ∈ WS ∧ (yX7_pours.cls ≠ "java/lang/invoke/MethodHandle" ∧ yX7_pours.cls ≠ "java/lang/invoke/VarHandle" ∧ (parseMethodDescriptor yX7_pours.desc).map (fun d => d.parameters.length) = some 1) := ⟨(ws_at 86 (by decide +kernel) rfl), (ws_at 574 (by decide +kernel) rfl), ⟨by decide +kernel, by decide +kernel, by decide +kernel⟩⟩
theorem yl_60 : Cond.methodLink RL 60 yX8_pours ∈ WS := (ws_at 1042 (by decide +kernel) rfl)
theorem y2_60 : Cond.initialized yX8_pours.cls ∈ WS ∧ Cond.code yX8_pours M_X8_pours.2.1 M_X8_pours.2.2.1 M_X8_pours.2.2.2.1 ∈ WS ∧ (yX8_pours.cls ≠ "java/lang/invoke/MethodHandle" ∧ yX8_pours.cls ≠ "java/lang/invoke/VarHandle" ∧ (parseMethodDescriptor yX8_pours.desc).map (fun d => d.parameters.length) = some 1) := ⟨(ws_at 94 (by decide +kernel) rfl), (ws_at 1045 (by decide +kernel) rfl), ⟨by decide +kernel, by decide +kernel, by decide +kernel⟩⟩
theorem yl_61 : Cond.methodLink RL 61 yX7_glues ∈ WS := (ws_at 575 (by decide +kernel) rfl)
theorem y2_61 : Cond.initialized yX7_glues.cls ∈ WS ∧ Cond.code yX7_glues M_X7_glues.2.1 M_X7_glues.2.2.1 M_X7_glues.2.2.2.1 ∈ WS ∧ (yX7_glues.cls ≠ "java/lang/invoke/MethodHandle" ∧ yX7_glues.cls ≠ "java/lang/invoke/VarHandle" ∧ (parseMethodDescriptor yX7_glues.desc).map (fun d => d.parameters.length) = some 3) := ⟨(ws_at 86 (by decide +kernel) rfl), (ws_at 578 (by decide +kernel) rfl), ⟨by decide +kernel, by decide +kernel, by decide +kernel⟩⟩
theorem yl_64 : Cond.methodLink RL 64 yX8_glues ∈ WS := (ws_at 1046 (by decide +kernel) rfl)
theorem y2_64 : Cond.initialized yX8_glues.cls ∈ WS ∧ Cond.code yX8_glues M_X8_glues.2.1 M_X8_glues.2.2.1 M_X8_glues.2.2.2.1 ∈ WS ∧ (yX8_glues.cls ≠ "java/lang/invoke/MethodHandle" ∧ yX8_glues.cls ≠ "java/lang/invoke/VarHandle" ∧ (parseMethodDescriptor yX8_glues.desc).map (fun d => d.parameters.length) = some 3) := ⟨(ws_at 94 (by decide +kernel) rfl), (ws_at 1049 (by decide +kernel) rfl), ⟨by decide +kernel, by decide +kernel, by decide +kernel⟩⟩
theorem yl_65 : Cond.methodLink RL 65 yX7_washes ∈ WS := (ws_at 583 (by decide +kernel) rfl)
theorem y2_65 : Cond.initialized yX7_washes.cls ∈ WS ∧ Cond.code yX7_washes M_X7_washes.2.1 M_X7_washes.2.2.1 M_X7_washes.2.2.2.1 ∈ WS ∧ (yX7_washes.cls ≠ "java/lang/invoke/MethodHandle" ∧ yX7_washes.cls ≠ "java/lang/invoke/VarHandle" ∧ (parseMethodDescriptor yX7_washes.desc).map (fun d => d.parameters.length) = some 1) := ⟨(ws_at 86 (by decide +kernel) rfl), (ws_at 586 (by decide +kernel) rfl), ⟨by decide +kernel, by decide +kernel, by decide +kernel⟩⟩
theorem yl_68 : Cond.methodLink RL 68 yX8_washes ∈ WS := (ws_at 1054 (by decide +kernel) rfl)
theorem y2_68 : Cond.initialized yX8_washes.cls ∈ WS ∧ Cond.code yX8_washes M_X8_washes.2.1 M_X8_washes.2.2.1 M_X8_washes.2.2.2.1 ∈ WS ∧ (yX8_washes.cls ≠ "java/lang/invoke/MethodHandle" ∧ yX8_washes.cls ≠ "java/lang/invoke/VarHandle" ∧ (parseMethodDescriptor yX8_washes.desc).map (fun d => d.parameters.length) = some 1) := ⟨(ws_at 94 (by decide +kernel) rfl), (ws_at 1057 (by decide +kernel) rfl), ⟨by decide +kernel, by decide +kernel, by decide +kernel⟩⟩
theorem yl_69 : Cond.methodLink RL 69 yX7_would ∈ WS := (ws_at 588 (by decide +kernel) rfl)
theorem y2_69 : Cond.initialized yX7_would.cls ∈ WS ∧ Cond.code yX7_would M_X7_would.2.1 M_X7_would.2.2.1 M_X7_would.2.2.2.1 ∈ WS ∧ (yX7_would.cls ≠ "java/lang/invoke/MethodHandle" ∧ yX7_would.cls ≠ "java/lang/invoke/VarHandle" ∧ (parseMethodDescriptor yX7_would.desc).map (fun d => d.parameters.length) = some 4) := ⟨(ws_at 86 (by decide +kernel) rfl), (ws_at 591 (by decide +kernel) rfl), ⟨by decide +kernel, by decide +kernel, by decide +kernel⟩⟩
theorem yl_73 : Cond.methodLink RL 73 yX8_would ∈ WS := (ws_at 1058 (by decide +kernel) rfl)
theorem y2_73 : Cond.initialized yX8_would.cls ∈ WS ∧ Cond.code yX8_would M_X8_would.2.1 M_X8_would.2.2.1 M_X8_would.2.2.2.1 ∈ WS ∧ (yX8_would.cls ≠ "java/lang/invoke/MethodHandle" ∧ yX8_would.cls ≠ "java/lang/invoke/VarHandle" ∧ (parseMethodDescriptor yX8_would.desc).map (fun d => d.parameters.length) = some 4) := ⟨(ws_at 94 (by decide +kernel) rfl), (ws_at 1061 (by decide +kernel) rfl), ⟨by decide +kernel, by decide +kernel, by decide +kernel⟩⟩
theorem yl_74 : Cond.methodLink RL 74 yX7_can ∈ WS := (ws_at 594 (by decide +kernel) rfl)
theorem y2_74 : Cond.initialized yX7_can.cls ∈ WS ∧ Cond.code yX7_can M_X7_can.2.1 M_X7_can.2.2.1 M_X7_can.2.2.2.1 ∈ WS ∧ (yX7_can.cls ≠ "java/lang/invoke/MethodHandle" ∧ yX7_can.cls ≠ "java/lang/invoke/VarHandle" ∧ (parseMethodDescriptor yX7_can.desc).map (fun d => d.parameters.length) = some 1) := ⟨(ws_at 86 (by decide +kernel) rfl), (ws_at 597 (by decide +kernel) rfl), ⟨by decide +kernel, by decide +kernel, by decide +kernel⟩⟩
theorem yl_77 : Cond.methodLink RL 77 yX8_can ∈ WS := (ws_at 1062 (by decide +kernel) rfl)
theorem y2_77 : Cond.initialized yX8_can.cls ∈ WS ∧ Cond.code yX8_can M_X8_can.2.1 M_X8_can.2.2.1 M_X8_can.2.2.2.1 ∈ WS ∧ (yX8_can.cls ≠ "java/lang/invoke/MethodHandle" ∧ yX8_can.cls ≠ "java/lang/invoke/VarHandle" ∧ (parseMethodDescriptor yX8_can.desc).map (fun d => d.parameters.length) = some 1) := ⟨(ws_at 94 (by decide +kernel) rfl), (ws_at 1065 (by decide +kernel) rfl), ⟨by decide +kernel, by decide +kernel, by decide +kernel⟩⟩
theorem yl_78 : Cond.methodLink RL 78 yX7_fewest ∈ WS := (ws_at 598 (by decide +kernel) rfl)
theorem y2_78 : Cond.initialized yX7_fewest.cls ∈ WS ∧ Cond.code yX7_fewest M_X7_fewest.2.1 M_X7_fewest.2.2.1 M_X7_fewest.2.2.2.1 ∈ WS ∧ (yX7_fewest.cls ≠ "java/lang/invoke/MethodHandle" ∧ yX7_fewest.cls ≠ "java/lang/invoke/VarHandle" ∧ (parseMethodDescriptor yX7_fewest.desc).map (fun d => d.parameters.length) = some 2) := ⟨(ws_at 86 (by decide +kernel) rfl), (ws_at 601 (by decide +kernel) rfl), ⟨by decide +kernel, by decide +kernel, by decide +kernel⟩⟩
theorem yl_81 : Cond.methodLink RL 81 yX8_fewest ∈ WS := (ws_at 1069 (by decide +kernel) rfl)
theorem y2_81 : Cond.initialized yX8_fewest.cls ∈ WS ∧ Cond.code yX8_fewest M_X8_fewest.2.1 M_X8_fewest.2.2.1 M_X8_fewest.2.2.2.1 ∈ WS ∧ (yX8_fewest.cls ≠ "java/lang/invoke/MethodHandle" ∧ yX8_fewest.cls ≠ "java/lang/invoke/VarHandle" ∧ (parseMethodDescriptor yX8_fewest.desc).map (fun d => d.parameters.length) = some 2) := ⟨(ws_at 94 (by decide +kernel) rfl), (ws_at 1072 (by decide +kernel) rfl), ⟨by decide +kernel, by decide +kernel, by decide +kernel⟩⟩
theorem yl_82 : Cond.methodLink RL 82 yX7_gladness ∈ WS := (ws_at 607 (by decide +kernel) rfl)
theorem y2_82 : Cond.initialized yX7_gladness.cls ∈ WS ∧ Cond.code yX7_gladness M_X7_gladness.2.1 M_X7_gladness.2.2.1 M_X7_gladness.2.2.2.1 ∈ WS ∧ (yX7_gladness.cls ≠ "java/lang/invoke/MethodHandle" ∧ yX7_gladness.cls ≠ "java/lang/invoke/VarHandle" ∧ (parseMethodDescriptor yX7_gladness.desc).map (fun d => d.parameters.length) = some 0) := ⟨(ws_at 86 (by decide +kernel) rfl), (ws_at 610 (by decide +kernel) rfl), ⟨by decide +kernel, by decide +kernel, by decide +kernel⟩⟩
theorem yl_85 : Cond.methodLink RL 85 yX8_gladness ∈ WS := (ws_at 1076 (by decide +kernel) rfl)
theorem y2_85 : Cond.initialized yX8_gladness.cls ∈ WS ∧ Cond.code yX8_gladness M_X8_gladness.2.1 M_X8_gladness.2.2.1 M_X8_gladness.2.2.2.1 ∈ WS ∧ (yX8_gladness.cls ≠ "java/lang/invoke/MethodHandle" ∧ yX8_gladness.cls ≠ "java/lang/invoke/VarHandle" ∧ (parseMethodDescriptor yX8_gladness.desc).map (fun d => d.parameters.length) = some 0) := ⟨(ws_at 94 (by decide +kernel) rfl), (ws_at 1079 (by decide +kernel) rfl), ⟨by decide +kernel, by decide +kernel, by decide +kernel⟩⟩
theorem yl_86 : Cond.methodLink RL 86 yX7_agree ∈ WS := (ws_at 616 (by decide +kernel) rfl)
theorem y2_86 : Cond.initialized yX7_agree.cls ∈ WS ∧ Cond.code yX7_agree M_X7_agree.2.1 M_X7_agree.2.2.1 M_X7_agree.2.2.2.1 ∈ WS ∧ (yX7_agree.cls ≠ "java/lang/invoke/MethodHandle" ∧ yX7_agree.cls ≠ "java/lang/invoke/VarHandle" ∧ (parseMethodDescriptor yX7_agree.desc).map (fun d => d.parameters.length) = some 1) := ⟨(ws_at 86 (by decide +kernel) rfl), (ws_at 619 (by decide +kernel) rfl), ⟨by decide +kernel, by decide +kernel, by decide +kernel⟩⟩
theorem yl_89 : Cond.methodLink RL 89 yX8_agree ∈ WS := (ws_at 1083 (by decide +kernel) rfl)
theorem y2_89 : Cond.initialized yX8_agree.cls ∈ WS ∧ Cond.code yX8_agree M_X8_agree.2.1 M_X8_agree.2.2.1 M_X8_agree.2.2.2.1 ∈ WS ∧ (yX8_agree.cls ≠ "java/lang/invoke/MethodHandle" ∧ yX8_agree.cls ≠ "java/lang/invoke/VarHandle" ∧ (parseMethodDescriptor yX8_agree.desc).map (fun d => d.parameters.length) = some 1) := ⟨(ws_at 94 (by decide +kernel) rfl), (ws_at 1086 (by decide +kernel) rfl), ⟨by decide +kernel, by decide +kernel, by decide +kernel⟩⟩
theorem yl_90 : Cond.methodLink RL 90 yX7_most ∈ WS := (ws_at 636 (by decide +kernel) rfl)
theorem y2_90 : Cond.initialized yX7_most.cls ∈ WS ∧ Cond.code yX7_most M_X7_most.2.1 M_X7_most.2.2.1 M_X7_most.2.2.2.1 ∈ WS ∧ (yX7_most.cls ≠ "java/lang/invoke/MethodHandle" ∧ yX7_most.cls ≠ "java/lang/invoke/VarHandle" ∧ (parseMethodDescriptor yX7_most.desc).map (fun d => d.parameters.length) = some 1) := ⟨(ws_at 86 (by decide +kernel) rfl), (ws_at 639 (by decide +kernel) rfl), ⟨by decide +kernel, by decide +kernel, by decide +kernel⟩⟩
theorem yl_93 : Cond.methodLink RL 93 yX8_most_ ∈ WS := (ws_at 1095 (by decide +kernel) rfl)
theorem y2_93 : Cond.initialized yX8_most_.cls ∈ WS ∧ Cond.code yX8_most_ M_X8_most_.2.1 M_X8_most_.2.2.1 M_X8_most_.2.2.2.1 ∈ WS ∧ (yX8_most_.cls ≠ "java/lang/invoke/MethodHandle" ∧ yX8_most_.cls ≠ "java/lang/invoke/VarHandle" ∧ (parseMethodDescriptor yX8_most_.desc).map (fun d => d.parameters.length) = some 1) := ⟨(ws_at 94 (by decide +kernel) rfl), (ws_at 1098 (by decide +kernel) rfl), ⟨by decide +kernel, by decide +kernel, by decide +kernel⟩⟩
theorem yl_94 : Cond.methodLink RL 94 yX7_byMinutes ∈ WS := (ws_at 668 (by decide +kernel) rfl)
theorem y2_94 : Cond.initialized yX7_byMinutes.cls ∈ WS ∧ Cond.code yX7_byMinutes M_X7_byMinutes.2.1 M_X7_byMinutes.2.2.1 M_X7_byMinutes.2.2.2.1 ∈ WS ∧ (yX7_byMinutes.cls ≠ "java/lang/invoke/MethodHandle" ∧ yX7_byMinutes.cls ≠ "java/lang/invoke/VarHandle" ∧ (parseMethodDescriptor yX7_byMinutes.desc).map (fun d => d.parameters.length) = some 1) := ⟨(ws_at 86 (by decide +kernel) rfl), (ws_at 671 (by decide +kernel) rfl), ⟨by decide +kernel, by decide +kernel, by decide +kernel⟩⟩
theorem yl_97 : Cond.methodLink RL 97 yX8_byMinutes ∈ WS := (ws_at 1103 (by decide +kernel) rfl)
theorem y2_97 : Cond.initialized yX8_byMinutes.cls ∈ WS ∧ Cond.code yX8_byMinutes M_X8_byMinutes.2.1 M_X8_byMinutes.2.2.1 M_X8_byMinutes.2.2.2.1 ∈ WS ∧ (yX8_byMinutes.cls ≠ "java/lang/invoke/MethodHandle" ∧ yX8_byMinutes.cls ≠ "java/lang/invoke/VarHandle" ∧ (parseMethodDescriptor yX8_byMinutes.desc).map (fun d => d.parameters.length) = some 1) := ⟨(ws_at 94 (by decide +kernel) rfl), (ws_at 1106 (by decide +kernel) rfl), ⟨by decide +kernel, by decide +kernel, by decide +kernel⟩⟩
theorem yl_98 : Cond.methodLink RL 98 yX7_fewDrops ∈ WS := (ws_at 677 (by decide +kernel) rfl)
theorem y2_98 : Cond.initialized yX7_fewDrops.cls ∈ WS ∧ Cond.code yX7_fewDrops M_X7_fewDrops.2.1 M_X7_fewDrops.2.2.1 M_X7_fewDrops.2.2.2.1 ∈ WS ∧ (yX7_fewDrops.cls ≠ "java/lang/invoke/MethodHandle" ∧ yX7_fewDrops.cls ≠ "java/lang/invoke/VarHandle" ∧ (parseMethodDescriptor yX7_fewDrops.desc).map (fun d => d.parameters.length) = some 0) := ⟨(ws_at 86 (by decide +kernel) rfl), (ws_at 680 (by decide +kernel) rfl), ⟨by decide +kernel, by decide +kernel, by decide +kernel⟩⟩
theorem yl_101 : Cond.methodLink RL 101 yX8_fewDrops ∈ WS := (ws_at 1107 (by decide +kernel) rfl)
theorem y2_101 : Cond.initialized yX8_fewDrops.cls ∈ WS ∧ Cond.code yX8_fewDrops M_X8_fewDrops.2.1 M_X8_fewDrops.2.2.1 M_X8_fewDrops.2.2.2.1 ∈ WS ∧ (yX8_fewDrops.cls ≠ "java/lang/invoke/MethodHandle" ∧ yX8_fewDrops.cls ≠ "java/lang/invoke/VarHandle" ∧ (parseMethodDescriptor yX8_fewDrops.desc).map (fun d => d.parameters.length) = some 0) := ⟨(ws_at 94 (by decide +kernel) rfl), (ws_at 1110 (by decide +kernel) rfl), ⟨by decide +kernel, by decide +kernel, by decide +kernel⟩⟩
theorem yl_102 : Cond.methodLink RL 102 yX7_together ∈ WS := (ws_at 686 (by decide +kernel) rfl)
theorem y2_102 : Cond.initialized yX7_together.cls ∈ WS ∧ Cond.code yX7_together M_X7_together.2.1 M_X7_together.2.2.1 M_X7_together.2.2.2.1 ∈ WS ∧ (yX7_together.cls ≠ "java/lang/invoke/MethodHandle" ∧ yX7_together.cls ≠ "java/lang/invoke/VarHandle" ∧ (parseMethodDescriptor yX7_together.desc).map (fun d => d.parameters.length) = some 3) := ⟨(ws_at 86 (by decide +kernel) rfl), (ws_at 689 (by decide +kernel) rfl), ⟨by decide +kernel, by decide +kernel, by decide +kernel⟩⟩
theorem yl_105 : Cond.methodLink RL 105 yX8_together ∈ WS := (ws_at 1111 (by decide +kernel) rfl)
theorem y2_105 : Cond.initialized yX8_together.cls ∈ WS ∧ Cond.code yX8_together M_X8_together.2.1 M_X8_together.2.2.1 M_X8_together.2.2.2.1 ∈ WS ∧ (yX8_together.cls ≠ "java/lang/invoke/MethodHandle" ∧ yX8_together.cls ≠ "java/lang/invoke/VarHandle" ∧ (parseMethodDescriptor yX8_together.desc).map (fun d => d.parameters.length) = some 3) := ⟨(ws_at 94 (by decide +kernel) rfl), (ws_at 1114 (by decide +kernel) rfl), ⟨by decide +kernel, by decide +kernel, by decide +kernel⟩⟩
theorem yl_106 : Cond.methodLink RL 106 yX7_queue ∈ WS := (ws_at 694 (by decide +kernel) rfl)
theorem y2_106 : Cond.initialized yX7_queue.cls ∈ WS ∧ Cond.code yX7_queue M_X7_queue.2.1 M_X7_queue.2.2.1 M_X7_queue.2.2.2.1 ∈ WS ∧ (yX7_queue.cls ≠ "java/lang/invoke/MethodHandle" ∧ yX7_queue.cls ≠ "java/lang/invoke/VarHandle" ∧ (parseMethodDescriptor yX7_queue.desc).map (fun d => d.parameters.length) = some 1) := ⟨(ws_at 86 (by decide +kernel) rfl), (ws_at 697 (by decide +kernel) rfl), ⟨by decide +kernel, by decide +kernel, by decide +kernel⟩⟩
theorem yl_109 : Cond.methodLink RL 109 yX8_queue ∈ WS := (ws_at 1116 (by decide +kernel) rfl)
theorem y2_109 : Cond.initialized yX8_queue.cls ∈ WS ∧ Cond.code yX8_queue M_X8_queue.2.1 M_X8_queue.2.2.1 M_X8_queue.2.2.2.1 ∈ WS ∧ (yX8_queue.cls ≠ "java/lang/invoke/MethodHandle" ∧ yX8_queue.cls ≠ "java/lang/invoke/VarHandle" ∧ (parseMethodDescriptor yX8_queue.desc).map (fun d => d.parameters.length) = some 1) := ⟨(ws_at 94 (by decide +kernel) rfl), (ws_at 1119 (by decide +kernel) rfl), ⟨by decide +kernel, by decide +kernel, by decide +kernel⟩⟩
theorem yl_110 : Cond.methodLink RL 110 yX7_oneMore ∈ WS := (ws_at 718 (by decide +kernel) rfl)
theorem y2_110 : Cond.initialized yX7_oneMore.cls ∈ WS ∧ Cond.code yX7_oneMore M_X7_oneMore.2.1 M_X7_oneMore.2.2.1 M_X7_oneMore.2.2.2.1 ∈ WS ∧ (yX7_oneMore.cls ≠ "java/lang/invoke/MethodHandle" ∧ yX7_oneMore.cls ≠ "java/lang/invoke/VarHandle" ∧ (parseMethodDescriptor yX7_oneMore.desc).map (fun d => d.parameters.length) = some 0) := ⟨(ws_at 86 (by decide +kernel) rfl), (ws_at 721 (by decide +kernel) rfl), ⟨by decide +kernel, by decide +kernel, by decide +kernel⟩⟩
theorem yl_113 : Cond.methodLink RL 113 yX8_oneMore ∈ WS := (ws_at 1124 (by decide +kernel) rfl)
theorem y2_113 : Cond.initialized yX8_oneMore.cls ∈ WS ∧ Cond.code yX8_oneMore M_X8_oneMore.2.1 M_X8_oneMore.2.2.1 M_X8_oneMore.2.2.2.1 ∈ WS ∧ (yX8_oneMore.cls ≠ "java/lang/invoke/MethodHandle" ∧ yX8_oneMore.cls ≠ "java/lang/invoke/VarHandle" ∧ (parseMethodDescriptor yX8_oneMore.desc).map (fun d => d.parameters.length) = some 0) := ⟨(ws_at 94 (by decide +kernel) rfl), (ws_at 1127 (by decide +kernel) rfl), ⟨by decide +kernel, by decide +kernel, by decide +kernel⟩⟩
theorem yl_114 : Cond.methodLink RL 114 yX7_bestYear ∈ WS := (ws_at 723 (by decide +kernel) rfl)
theorem y2_114 : Cond.initialized yX7_bestYear.cls ∈ WS ∧ Cond.code yX7_bestYear M_X7_bestYear.2.1 M_X7_bestYear.2.2.1 M_X7_bestYear.2.2.2.1 ∈ WS ∧ (yX7_bestYear.cls ≠ "java/lang/invoke/MethodHandle" ∧ yX7_bestYear.cls ≠ "java/lang/invoke/VarHandle" ∧ (parseMethodDescriptor yX7_bestYear.desc).map (fun d => d.parameters.length) = some 0) := ⟨(ws_at 86 (by decide +kernel) rfl), (ws_at 726 (by decide +kernel) rfl), ⟨by decide +kernel, by decide +kernel, by decide +kernel⟩⟩
theorem yl_117 : Cond.methodLink RL 117 yX8_bestYear ∈ WS := (ws_at 1131 (by decide +kernel) rfl)
theorem y2_117 : Cond.initialized yX8_bestYear.cls ∈ WS ∧ Cond.code yX8_bestYear M_X8_bestYear.2.1 M_X8_bestYear.2.2.1 M_X8_bestYear.2.2.2.1 ∈ WS ∧ (yX8_bestYear.cls ≠ "java/lang/invoke/MethodHandle" ∧ yX8_bestYear.cls ≠ "java/lang/invoke/VarHandle" ∧ (parseMethodDescriptor yX8_bestYear.desc).map (fun d => d.parameters.length) = some 0) := ⟨(ws_at 94 (by decide +kernel) rfl), (ws_at 1134 (by decide +kernel) rfl), ⟨by decide +kernel, by decide +kernel, by decide +kernel⟩⟩
theorem yl_118 : Cond.methodLink RL 118 yX7_water ∈ WS := (ws_at 727 (by decide +kernel) rfl)
theorem y2_118 : Cond.initialized yX7_water.cls ∈ WS ∧ Cond.code yX7_water M_X7_water.2.1 M_X7_water.2.2.1 M_X7_water.2.2.2.1 ∈ WS ∧ (yX7_water.cls ≠ "java/lang/invoke/MethodHandle" ∧ yX7_water.cls ≠ "java/lang/invoke/VarHandle" ∧ (parseMethodDescriptor yX7_water.desc).map (fun d => d.parameters.length) = some 1) := ⟨(ws_at 86 (by decide +kernel) rfl), (ws_at 730 (by decide +kernel) rfl), ⟨by decide +kernel, by decide +kernel, by decide +kernel⟩⟩
theorem yl_121 : Cond.methodLink RL 121 yX8_water ∈ WS := (ws_at 1135 (by decide +kernel) rfl)
theorem y2_121 : Cond.initialized yX8_water.cls ∈ WS ∧ Cond.code yX8_water M_X8_water.2.1 M_X8_water.2.2.1 M_X8_water.2.2.2.1 ∈ WS ∧ (yX8_water.cls ≠ "java/lang/invoke/MethodHandle" ∧ yX8_water.cls ≠ "java/lang/invoke/VarHandle" ∧ (parseMethodDescriptor yX8_water.desc).map (fun d => d.parameters.length) = some 1) := ⟨(ws_at 94 (by decide +kernel) rfl), (ws_at 1138 (by decide +kernel) rfl), ⟨by decide +kernel, by decide +kernel, by decide +kernel⟩⟩
theorem yl_122 : Cond.methodLink RL 122 yX7_bestWash ∈ WS := (ws_at 737 (by decide +kernel) rfl)
theorem y2_122 : Cond.initialized yX7_bestWash.cls ∈ WS ∧ Cond.code yX7_bestWash M_X7_bestWash.2.1 M_X7_bestWash.2.2.1 M_X7_bestWash.2.2.2.1 ∈ WS ∧ (yX7_bestWash.cls ≠ "java/lang/invoke/MethodHandle" ∧ yX7_bestWash.cls ≠ "java/lang/invoke/VarHandle" ∧ (parseMethodDescriptor yX7_bestWash.desc).map (fun d => d.parameters.length) = some 0) := ⟨(ws_at 86 (by decide +kernel) rfl), (ws_at 740 (by decide +kernel) rfl), ⟨by decide +kernel, by decide +kernel, by decide +kernel⟩⟩
theorem yl_125 : Cond.methodLink RL 125 yX8_bestWash ∈ WS := (ws_at 1147 (by decide +kernel) rfl)
theorem y2_125 : Cond.initialized yX8_bestWash.cls ∈ WS ∧ Cond.code yX8_bestWash M_X8_bestWash.2.1 M_X8_bestWash.2.2.1 M_X8_bestWash.2.2.2.1 ∈ WS ∧ (yX8_bestWash.cls ≠ "java/lang/invoke/MethodHandle" ∧ yX8_bestWash.cls ≠ "java/lang/invoke/VarHandle" ∧ (parseMethodDescriptor yX8_bestWash.desc).map (fun d => d.parameters.length) = some 0) := ⟨(ws_at 94 (by decide +kernel) rfl), (ws_at 1150 (by decide +kernel) rfl), ⟨by decide +kernel, by decide +kernel, by decide +kernel⟩⟩
theorem yl_126 : Cond.methodLink RL 126 yX7_sour ∈ WS := (ws_at 741 (by decide +kernel) rfl)
theorem y2_126 : Cond.initialized yX7_sour.cls ∈ WS ∧ Cond.code yX7_sour M_X7_sour.2.1 M_X7_sour.2.2.1 M_X7_sour.2.2.2.1 ∈ WS ∧ (yX7_sour.cls ≠ "java/lang/invoke/MethodHandle" ∧ yX7_sour.cls ≠ "java/lang/invoke/VarHandle" ∧ (parseMethodDescriptor yX7_sour.desc).map (fun d => d.parameters.length) = some 0) := ⟨(ws_at 86 (by decide +kernel) rfl), (ws_at 744 (by decide +kernel) rfl), ⟨by decide +kernel, by decide +kernel, by decide +kernel⟩⟩
theorem yl_129 : Cond.methodLink RL 129 yX8_sour ∈ WS := (ws_at 1151 (by decide +kernel) rfl)
theorem y2_129 : Cond.initialized yX8_sour.cls ∈ WS ∧ Cond.code yX8_sour M_X8_sour.2.1 M_X8_sour.2.2.1 M_X8_sour.2.2.2.1 ∈ WS ∧ (yX8_sour.cls ≠ "java/lang/invoke/MethodHandle" ∧ yX8_sour.cls ≠ "java/lang/invoke/VarHandle" ∧ (parseMethodDescriptor yX8_sour.desc).map (fun d => d.parameters.length) = some 0) := ⟨(ws_at 94 (by decide +kernel) rfl), (ws_at 1154 (by decide +kernel) rfl), ⟨by decide +kernel, by decide +kernel, by decide +kernel⟩⟩
theorem yl_130 : Cond.methodLink RL 130 yX7_regret ∈ WS := (ws_at 745 (by decide +kernel) rfl)
theorem y2_130 : Cond.initialized yX7_regret.cls ∈ WS ∧ Cond.code yX7_regret M_X7_regret.2.1 M_X7_regret.2.2.1 M_X7_regret.2.2.2.1 ∈ WS ∧ (yX7_regret.cls ≠ "java/lang/invoke/MethodHandle" ∧ yX7_regret.cls ≠ "java/lang/invoke/VarHandle" ∧ (parseMethodDescriptor yX7_regret.desc).map (fun d => d.parameters.length) = some 1) := ⟨(ws_at 86 (by decide +kernel) rfl), (ws_at 748 (by decide +kernel) rfl), ⟨by decide +kernel, by decide +kernel, by decide +kernel⟩⟩
theorem yl_133 : Cond.methodLink RL 133 yX8_regret ∈ WS := (ws_at 1155 (by decide +kernel) rfl)
theorem y2_133 : Cond.initialized yX8_regret.cls ∈ WS ∧ Cond.code yX8_regret M_X8_regret.2.1 M_X8_regret.2.2.1 M_X8_regret.2.2.2.1 ∈ WS ∧ (yX8_regret.cls ≠ "java/lang/invoke/MethodHandle" ∧ yX8_regret.cls ≠ "java/lang/invoke/VarHandle" ∧ (parseMethodDescriptor yX8_regret.desc).map (fun d => d.parameters.length) = some 1) := ⟨(ws_at 94 (by decide +kernel) rfl), (ws_at 1158 (by decide +kernel) rfl), ⟨by decide +kernel, by decide +kernel, by decide +kernel⟩⟩
theorem yl_134 : Cond.methodLink RL 134 yX7_two ∈ WS := (ws_at 750 (by decide +kernel) rfl)
theorem y2_134 : Cond.initialized yX7_two.cls ∈ WS ∧ Cond.code yX7_two M_X7_two.2.1 M_X7_two.2.2.1 M_X7_two.2.2.2.1 ∈ WS ∧ (yX7_two.cls ≠ "java/lang/invoke/MethodHandle" ∧ yX7_two.cls ≠ "java/lang/invoke/VarHandle" ∧ (parseMethodDescriptor yX7_two.desc).map (fun d => d.parameters.length) = some 2) := ⟨(ws_at 86 (by decide +kernel) rfl), (ws_at 753 (by decide +kernel) rfl), ⟨by decide +kernel, by decide +kernel, by decide +kernel⟩⟩
theorem yl_137 : Cond.methodLink RL 137 yX8_two ∈ WS := (ws_at 1159 (by decide +kernel) rfl)
theorem y2_137 : Cond.initialized yX8_two.cls ∈ WS ∧ Cond.code yX8_two M_X8_two.2.1 M_X8_two.2.2.1 M_X8_two.2.2.2.1 ∈ WS ∧ (yX8_two.cls ≠ "java/lang/invoke/MethodHandle" ∧ yX8_two.cls ≠ "java/lang/invoke/VarHandle" ∧ (parseMethodDescriptor yX8_two.desc).map (fun d => d.parameters.length) = some 2) := ⟨(ws_at 94 (by decide +kernel) rfl), (ws_at 1162 (by decide +kernel) rfl), ⟨by decide +kernel, by decide +kernel, by decide +kernel⟩⟩
theorem yl_138 : Cond.methodLink RL 138 yX7_slip ∈ WS := (ws_at 758 (by decide +kernel) rfl)
theorem y2_138 : Cond.initialized yX7_slip.cls ∈ WS ∧ Cond.code yX7_slip M_X7_slip.2.1 M_X7_slip.2.2.1 M_X7_slip.2.2.2.1 ∈ WS ∧ (yX7_slip.cls ≠ "java/lang/invoke/MethodHandle" ∧ yX7_slip.cls ≠ "java/lang/invoke/VarHandle" ∧ (parseMethodDescriptor yX7_slip.desc).map (fun d => d.parameters.length) = some 5) := ⟨(ws_at 86 (by decide +kernel) rfl), (ws_at 761 (by decide +kernel) rfl), ⟨by decide +kernel, by decide +kernel, by decide +kernel⟩⟩
theorem yl_142 : Cond.methodLink RL 142 yX8_slip ∈ WS := (ws_at 1163 (by decide +kernel) rfl)
theorem y2_142 : Cond.initialized yX8_slip.cls ∈ WS ∧ Cond.code yX8_slip M_X8_slip.2.1 M_X8_slip.2.2.1 M_X8_slip.2.2.2.1 ∈ WS ∧ (yX8_slip.cls ≠ "java/lang/invoke/MethodHandle" ∧ yX8_slip.cls ≠ "java/lang/invoke/VarHandle" ∧ (parseMethodDescriptor yX8_slip.desc).map (fun d => d.parameters.length) = some 5) := ⟨(ws_at 94 (by decide +kernel) rfl), (ws_at 1166 (by decide +kernel) rfl), ⟨by decide +kernel, by decide +kernel, by decide +kernel⟩⟩
theorem yl_143 : Cond.methodLink RL 143 yX7_mean ∈ WS := (ws_at 785 (by decide +kernel) rfl)
theorem y2_143 : Cond.initialized yX7_mean.cls ∈ WS ∧ Cond.code yX7_mean M_X7_mean.2.1 M_X7_mean.2.2.1 M_X7_mean.2.2.2.1 ∈ WS ∧ (yX7_mean.cls ≠ "java/lang/invoke/MethodHandle" ∧ yX7_mean.cls ≠ "java/lang/invoke/VarHandle" ∧ (parseMethodDescriptor yX7_mean.desc).map (fun d => d.parameters.length) = some 4) := ⟨(ws_at 86 (by decide +kernel) rfl), (ws_at 788 (by decide +kernel) rfl), ⟨by decide +kernel, by decide +kernel, by decide +kernel⟩⟩
theorem yl_147 : Cond.methodLink RL 147 yX8_mean ∈ WS := (ws_at 1188 (by decide +kernel) rfl)
theorem y2_147 : Cond.initialized yX8_mean.cls ∈ WS ∧ Cond.code yX8_mean M_X8_mean.2.1 M_X8_mean.2.2.1 M_X8_mean.2.2.2.1 ∈ WS ∧ (yX8_mean.cls ≠ "java/lang/invoke/MethodHandle" ∧ yX8_mean.cls ≠ "java/lang/invoke/VarHandle" ∧ (parseMethodDescriptor yX8_mean.desc).map (fun d => d.parameters.length) = some 4) := ⟨(ws_at 94 (by decide +kernel) rfl), (ws_at 1191 (by decide +kernel) rfl), ⟨by decide +kernel, by decide +kernel, by decide +kernel⟩⟩
theorem yl_148 : Cond.methodLink RL 148 yX7_whatWas ∈ WS := (ws_at 794 (by decide +kernel) rfl)
theorem y2_148 : Cond.initialized yX7_whatWas.cls ∈ WS ∧ Cond.code yX7_whatWas M_X7_whatWas.2.1 M_X7_whatWas.2.2.1 M_X7_whatWas.2.2.2.1 ∈ WS ∧ (yX7_whatWas.cls ≠ "java/lang/invoke/MethodHandle" ∧ yX7_whatWas.cls ≠ "java/lang/invoke/VarHandle" ∧ (parseMethodDescriptor yX7_whatWas.desc).map (fun d => d.parameters.length) = some 2) := ⟨(ws_at 86 (by decide +kernel) rfl), (ws_at 797 (by decide +kernel) rfl), ⟨by decide +kernel, by decide +kernel, by decide +kernel⟩⟩
theorem yl_151 : Cond.methodLink RL 151 yX8_whatWas ∈ WS := (ws_at 1192 (by decide +kernel) rfl)
theorem y2_151 : Cond.initialized yX8_whatWas.cls ∈ WS ∧ Cond.code yX8_whatWas M_X8_whatWas.2.1 M_X8_whatWas.2.2.1 M_X8_whatWas.2.2.2.1 ∈ WS ∧ (yX8_whatWas.cls ≠ "java/lang/invoke/MethodHandle" ∧ yX8_whatWas.cls ≠ "java/lang/invoke/VarHandle" ∧ (parseMethodDescriptor yX8_whatWas.desc).map (fun d => d.parameters.length) = some 2) := ⟨(ws_at 94 (by decide +kernel) rfl), (ws_at 1195 (by decide +kernel) rfl), ⟨by decide +kernel, by decide +kernel, by decide +kernel⟩⟩
theorem yl_152 : Cond.methodLink RL 152 yX7_mended ∈ WS := (ws_at 804 (by decide +kernel) rfl)
theorem y2_152 : Cond.initialized yX7_mended.cls ∈ WS ∧ Cond.code yX7_mended M_X7_mended.2.1 M_X7_mended.2.2.1 M_X7_mended.2.2.2.1 ∈ WS ∧ (yX7_mended.cls ≠ "java/lang/invoke/MethodHandle" ∧ yX7_mended.cls ≠ "java/lang/invoke/VarHandle" ∧ (parseMethodDescriptor yX7_mended.desc).map (fun d => d.parameters.length) = some 3) := ⟨(ws_at 86 (by decide +kernel) rfl), (ws_at 807 (by decide +kernel) rfl), ⟨by decide +kernel, by decide +kernel, by decide +kernel⟩⟩
theorem yl_155 : Cond.methodLink RL 155 yX8_mended ∈ WS := (ws_at 1196 (by decide +kernel) rfl)
theorem y2_155 : Cond.initialized yX8_mended.cls ∈ WS ∧ Cond.code yX8_mended M_X8_mended.2.1 M_X8_mended.2.2.1 M_X8_mended.2.2.2.1 ∈ WS ∧ (yX8_mended.cls ≠ "java/lang/invoke/MethodHandle" ∧ yX8_mended.cls ≠ "java/lang/invoke/VarHandle" ∧ (parseMethodDescriptor yX8_mended.desc).map (fun d => d.parameters.length) = some 3) := ⟨(ws_at 94 (by decide +kernel) rfl), (ws_at 1199 (by decide +kernel) rfl), ⟨by decide +kernel, by decide +kernel, by decide +kernel⟩⟩
theorem yl_156 : Cond.methodLink RL 156 yX7_row ∈ WS := (ws_at 808 (by decide +kernel) rfl)
theorem y2_156 : Cond.initialized yX7_row.cls ∈ WS ∧ Cond.code yX7_row M_X7_row.2.1 M_X7_row.2.2.1 M_X7_row.2.2.2.1 ∈ WS ∧ (yX7_row.cls ≠ "java/lang/invoke/MethodHandle" ∧ yX7_row.cls ≠ "java/lang/invoke/VarHandle" ∧ (parseMethodDescriptor yX7_row.desc).map (fun d => d.parameters.length) = some 1) := ⟨(ws_at 86 (by decide +kernel) rfl), (ws_at 811 (by decide +kernel) rfl), ⟨by decide +kernel, by decide +kernel, by decide +kernel⟩⟩
theorem yl_159 : Cond.methodLink RL 159 yX8_row ∈ WS := (ws_at 1200 (by decide +kernel) rfl)
theorem y2_159 : Cond.initialized yX8_row.cls ∈ WS ∧ Cond.code yX8_row M_X8_row.2.1 M_X8_row.2.2.1 M_X8_row.2.2.2.1 ∈ WS ∧ (yX8_row.cls ≠ "java/lang/invoke/MethodHandle" ∧ yX8_row.cls ≠ "java/lang/invoke/VarHandle" ∧ (parseMethodDescriptor yX8_row.desc).map (fun d => d.parameters.length) = some 1) := ⟨(ws_at 94 (by decide +kernel) rfl), (ws_at 1203 (by decide +kernel) rfl), ⟨by decide +kernel, by decide +kernel, by decide +kernel⟩⟩
theorem yl_160 : Cond.methodLink RL 160 yX7_judge ∈ WS := (ws_at 821 (by decide +kernel) rfl)
theorem y2_160 : Cond.initialized yX7_judge.cls ∈ WS ∧ Cond.code yX7_judge M_X7_judge.2.1 M_X7_judge.2.2.1 M_X7_judge.2.2.2.1 ∈ WS ∧ (yX7_judge.cls ≠ "java/lang/invoke/MethodHandle" ∧ yX7_judge.cls ≠ "java/lang/invoke/VarHandle" ∧ (parseMethodDescriptor yX7_judge.desc).map (fun d => d.parameters.length) = some 1) := ⟨(ws_at 86 (by decide +kernel) rfl), (ws_at 824 (by decide +kernel) rfl), ⟨by decide +kernel, by decide +kernel, by decide +kernel⟩⟩
theorem yl_163 : Cond.methodLink RL 163 yX8_judge ∈ WS := (ws_at 1204 (by decide +kernel) rfl)
theorem y2_163 : Cond.initialized yX8_judge.cls ∈ WS ∧ Cond.code yX8_judge M_X8_judge.2.1 M_X8_judge.2.2.1 M_X8_judge.2.2.2.1 ∈ WS ∧ (yX8_judge.cls ≠ "java/lang/invoke/MethodHandle" ∧ yX8_judge.cls ≠ "java/lang/invoke/VarHandle" ∧ (parseMethodDescriptor yX8_judge.desc).map (fun d => d.parameters.length) = some 1) := ⟨(ws_at 94 (by decide +kernel) rfl), (ws_at 1207 (by decide +kernel) rfl), ⟨by decide +kernel, by decide +kernel, by decide +kernel⟩⟩
theorem yl_164 : Cond.methodLink RL 164 yX7_clear ∈ WS := (ws_at 831 (by decide +kernel) rfl)
theorem y2_164 : Cond.initialized yX7_clear.cls ∈ WS ∧ Cond.code yX7_clear M_X7_clear.2.1 M_X7_clear.2.2.1 M_X7_clear.2.2.2.1 ∈ WS ∧ (yX7_clear.cls ≠ "java/lang/invoke/MethodHandle" ∧ yX7_clear.cls ≠ "java/lang/invoke/VarHandle" ∧ (parseMethodDescriptor yX7_clear.desc).map (fun d => d.parameters.length) = some 0) := ⟨(ws_at 86 (by decide +kernel) rfl), (ws_at 834 (by decide +kernel) rfl), ⟨by decide +kernel, by decide +kernel, by decide +kernel⟩⟩
theorem yl_167 : Cond.methodLink RL 167 yX8_clear ∈ WS := (ws_at 1208 (by decide +kernel) rfl)
theorem y2_167 : Cond.initialized yX8_clear.cls ∈ WS ∧ Cond.code yX8_clear M_X8_clear.2.1 M_X8_clear.2.2.1 M_X8_clear.2.2.2.1 ∈ WS ∧ (yX8_clear.cls ≠ "java/lang/invoke/MethodHandle" ∧ yX8_clear.cls ≠ "java/lang/invoke/VarHandle" ∧ (parseMethodDescriptor yX8_clear.desc).map (fun d => d.parameters.length) = some 0) := ⟨(ws_at 94 (by decide +kernel) rfl), (ws_at 1211 (by decide +kernel) rfl), ⟨by decide +kernel, by decide +kernel, by decide +kernel⟩⟩
theorem yl_168 : Cond.methodLink RL 168 yX7_lots ∈ WS := (ws_at 835 (by decide +kernel) rfl)
theorem y2_168 : Cond.initialized yX7_lots.cls ∈ WS ∧ Cond.code yX7_lots M_X7_lots.2.1 M_X7_lots.2.2.1 M_X7_lots.2.2.2.1 ∈ WS ∧ (yX7_lots.cls ≠ "java/lang/invoke/MethodHandle" ∧ yX7_lots.cls ≠ "java/lang/invoke/VarHandle" ∧ (parseMethodDescriptor yX7_lots.desc).map (fun d => d.parameters.length) = some 3) := ⟨(ws_at 86 (by decide +kernel) rfl), (ws_at 838 (by decide +kernel) rfl), ⟨by decide +kernel, by decide +kernel, by decide +kernel⟩⟩
theorem yl_171 : Cond.methodLink RL 171 yX8_lots ∈ WS := (ws_at 1212 (by decide +kernel) rfl)
theorem y2_171 : Cond.initialized yX8_lots.cls ∈ WS ∧ Cond.code yX8_lots M_X8_lots.2.1 M_X8_lots.2.2.1 M_X8_lots.2.2.2.1 ∈ WS ∧ (yX8_lots.cls ≠ "java/lang/invoke/MethodHandle" ∧ yX8_lots.cls ≠ "java/lang/invoke/VarHandle" ∧ (parseMethodDescriptor yX8_lots.desc).map (fun d => d.parameters.length) = some 3) := ⟨(ws_at 94 (by decide +kernel) rfl), (ws_at 1215 (by decide +kernel) rfl), ⟨by decide +kernel, by decide +kernel, by decide +kernel⟩⟩
theorem yl_172 : Cond.methodLink RL 172 yX7_image ∈ WS := (ws_at 850 (by decide +kernel) rfl)
theorem y2_172 : Cond.initialized yX7_image.cls ∈ WS ∧ Cond.code yX7_image M_X7_image.2.1 M_X7_image.2.2.1 M_X7_image.2.2.2.1 ∈ WS ∧ (yX7_image.cls ≠ "java/lang/invoke/MethodHandle" ∧ yX7_image.cls ≠ "java/lang/invoke/VarHandle" ∧ (parseMethodDescriptor yX7_image.desc).map (fun d => d.parameters.length) = some 0) := ⟨(ws_at 86 (by decide +kernel) rfl), (ws_at 853 (by decide +kernel) rfl), ⟨by decide +kernel, by decide +kernel, by decide +kernel⟩⟩
theorem yl_175 : Cond.methodLink RL 175 yX8_image ∈ WS := (ws_at 1223 (by decide +kernel) rfl)
theorem y2_175 : Cond.initialized yX8_image.cls ∈ WS ∧ Cond.code yX8_image M_X8_image.2.1 M_X8_image.2.2.1 M_X8_image.2.2.2.1 ∈ WS ∧ (yX8_image.cls ≠ "java/lang/invoke/MethodHandle" ∧ yX8_image.cls ≠ "java/lang/invoke/VarHandle" ∧ (parseMethodDescriptor yX8_image.desc).map (fun d => d.parameters.length) = some 0) := ⟨(ws_at 94 (by decide +kernel) rfl), (ws_at 1226 (by decide +kernel) rfl), ⟨by decide +kernel, by decide +kernel, by decide +kernel⟩⟩
theorem yl_176 : Cond.methodLink RL 176 yX7_on ∈ WS := (ws_at 854 (by decide +kernel) rfl)
theorem y2_176 : Cond.initialized yX7_on.cls ∈ WS ∧ Cond.code yX7_on M_X7_on.2.1 M_X7_on.2.2.1 M_X7_on.2.2.2.1 ∈ WS ∧ (yX7_on.cls ≠ "java/lang/invoke/MethodHandle" ∧ yX7_on.cls ≠ "java/lang/invoke/VarHandle" ∧ (parseMethodDescriptor yX7_on.desc).map (fun d => d.parameters.length) = some 0) := ⟨(ws_at 86 (by decide +kernel) rfl), (ws_at 857 (by decide +kernel) rfl), ⟨by decide +kernel, by decide +kernel, by decide +kernel⟩⟩
theorem yl_179 : Cond.methodLink RL 179 yX8_on ∈ WS := (ws_at 1227 (by decide +kernel) rfl)
theorem y2_179 : Cond.initialized yX8_on.cls ∈ WS ∧ Cond.code yX8_on M_X8_on.2.1 M_X8_on.2.2.1 M_X8_on.2.2.2.1 ∈ WS ∧ (yX8_on.cls ≠ "java/lang/invoke/MethodHandle" ∧ yX8_on.cls ≠ "java/lang/invoke/VarHandle" ∧ (parseMethodDescriptor yX8_on.desc).map (fun d => d.parameters.length) = some 0) := ⟨(ws_at 94 (by decide +kernel) rfl), (ws_at 1230 (by decide +kernel) rfl), ⟨by decide +kernel, by decide +kernel, by decide +kernel⟩⟩
theorem yl_180 : Cond.methodLink RL 180 yX7_count ∈ WS := (ws_at 858 (by decide +kernel) rfl)
theorem y2_180 : Cond.initialized yX7_count.cls ∈ WS ∧ Cond.code yX7_count M_X7_count.2.1 M_X7_count.2.2.1 M_X7_count.2.2.2.1 ∈ WS ∧ (yX7_count.cls ≠ "java/lang/invoke/MethodHandle" ∧ yX7_count.cls ≠ "java/lang/invoke/VarHandle" ∧ (parseMethodDescriptor yX7_count.desc).map (fun d => d.parameters.length) = some 1) := ⟨(ws_at 86 (by decide +kernel) rfl), (ws_at 861 (by decide +kernel) rfl), ⟨by decide +kernel, by decide +kernel, by decide +kernel⟩⟩
theorem yl_183 : Cond.methodLink RL 183 yX8_count ∈ WS := (ws_at 1231 (by decide +kernel) rfl)
theorem y2_183 : Cond.initialized yX8_count.cls ∈ WS ∧ Cond.code yX8_count M_X8_count.2.1 M_X8_count.2.2.1 M_X8_count.2.2.2.1 ∈ WS ∧ (yX8_count.cls ≠ "java/lang/invoke/MethodHandle" ∧ yX8_count.cls ≠ "java/lang/invoke/VarHandle" ∧ (parseMethodDescriptor yX8_count.desc).map (fun d => d.parameters.length) = some 1) := ⟨(ws_at 94 (by decide +kernel) rfl), (ws_at 1234 (by decide +kernel) rfl), ⟨by decide +kernel, by decide +kernel, by decide +kernel⟩⟩
set_option maxHeartbeats 1000000 in
theorem y_op_0 {l : Launch} {L : Nat} {xs : Nat → Int32} (hL : L ≤ 3072) {i : Nat} (hi : i + 6 ≤ L) {S : St} (hS : Inv S) (ih : ∀ S2, Inv S2 → Y l L xs 1347 [(0, .float 0), (1, .ref 0), (2, .ref 74), (3, .int (nI i))] [] S2) : Y l L xs 212 [(0, .float 0), (1, .ref 0), (2, .ref 74), (3, .int (nI i))] [] S := by
  obtain ⟨z1, z2, h1, h2, hr, hI⟩ := e_letter hS (xs (i + 1))
  refine y_aload 1 dL_law_212 rfl ?_
  refine y_aloadS 0 dL_law_213 rfl ?_
  refine y_iload 3 dL_law_214 rfl ?_
  refine y_iconst (v := 1) dL_law_215 rfl ?_
  refine y_iadd dL_law_216 ?_
  refine y_sld (j := i + 1) dL_law_217 (nI_add i 1) (by omega) hL ?_
  refine y_call (as := [.int (xs (i + 1))]) dL_law_218 yl_13 y2_13 mv_X7_letter (t_X7_letter l h1) kdl_0 ⟨by decide, rfl⟩ rfl rfl (fun _ _ => Nat.le_of_ble_eq_true rfl) (yint [(xs (i + 1))]) (fun x z q => by cases q; exact fun q => by cases q) ⟨Nat.le_of_ble_eq_true rfl, Nat.le_of_ble_eq_true rfl⟩ rfl ?_
  refine y_aload 2 dL_law_221 rfl ?_
  refine y_aloadS 0 dL_law_222 rfl ?_
  refine y_iload 3 dL_law_223 rfl ?_
  refine y_iconst (v := 1) dL_law_224 rfl ?_
  refine y_iadd dL_law_225 ?_
  refine y_sld (j := i + 1) dL_law_226 (nI_add i 1) (by omega) hL ?_
  refine y_call (as := [.int (xs (i + 1))]) dL_law_227 yl_17 y2_17 mv_X8_letter (t_X8_letter l h2) kdl_74 ⟨by decide, rfl⟩ rfl rfl (fun _ _ => Nat.le_of_ble_eq_true rfl) (yint [(xs (i + 1))]) (fun x z q => by cases q; exact fun q => by cases q) ⟨Nat.le_of_ble_eq_true rfl, Nat.le_of_ble_eq_true rfl⟩ rfl ?_
  refine y_icmp_eq (tgt := 1347) dL_law_230 (by decide) hr ?_
  exact ih _ hI
set_option maxHeartbeats 1000000 in
theorem y_op_1 {l : Launch} {L : Nat} {xs : Nat → Int32} (hL : L ≤ 3072) {i : Nat} (hi : i + 6 ≤ L) {S : St} (hS : Inv S) (ih : ∀ S2, Inv S2 → Y l L xs 1347 [(0, .float 0), (1, .ref 0), (2, .ref 74), (3, .int (nI i))] [] S2) : Y l L xs 235 [(0, .float 0), (1, .ref 0), (2, .ref 74), (3, .int (nI i))] [] S := by
  obtain ⟨z1, z2, h1, h2, hr, hI⟩ := e_shop hS
  refine y_aload 1 dL_law_235 rfl ?_
  refine y_call (as := []) dL_law_236 yl_18 y2_18 mv_X7_shop (t_X7_shop l h1) kdl_0 ⟨by decide, rfl⟩ rfl rfl (fun _ _ => Nat.le_of_ble_eq_true rfl) (yint []) (fun x z q => by cases q; exact fun q => by cases q) ⟨Nat.le_of_ble_eq_true rfl, Nat.le_of_ble_eq_true rfl⟩ rfl ?_
  refine y_aload 2 dL_law_239 rfl ?_
  refine y_call (as := []) dL_law_240 yl_22 y2_22 mv_X8_shop (t_X8_shop l h2) kdl_74 ⟨by decide, rfl⟩ rfl rfl (fun _ _ => Nat.le_of_ble_eq_true rfl) (yint []) (fun x z q => by cases q; exact fun q => by cases q) ⟨Nat.le_of_ble_eq_true rfl, Nat.le_of_ble_eq_true rfl⟩ rfl ?_
  refine y_icmp_eq (tgt := 1347) dL_law_243 (by decide) hr ?_
  exact ih _ hI
set_option maxHeartbeats 1000000 in
theorem y_op_2 {l : Launch} {L : Nat} {xs : Nat → Int32} (hL : L ≤ 3072) {i : Nat} (hi : i + 6 ≤ L) {S : St} (hS : Inv S) (ih : ∀ S2, Inv S2 → Y l L xs 1347 [(0, .float 0), (1, .ref 0), (2, .ref 74), (3, .int (nI i))] [] S2) : Y l L xs 248 [(0, .float 0), (1, .ref 0), (2, .ref 74), (3, .int (nI i))] [] S := by
  obtain ⟨z1, z2, h1, h2, hr, hI⟩ := e_thing hS (xs (i + 1)) (xs (i + 2))
  refine y_aload 1 dL_law_248 rfl ?_
  refine y_aloadS 0 dL_law_249 rfl ?_
  refine y_iload 3 dL_law_250 rfl ?_
  refine y_iconst (v := 1) dL_law_251 rfl ?_
  refine y_iadd dL_law_252 ?_
  refine y_sld (j := i + 1) dL_law_253 (nI_add i 1) (by omega) hL ?_
  refine y_aloadS 0 dL_law_254 rfl ?_
  refine y_iload 3 dL_law_255 rfl ?_
  refine y_iconst (v := 2) dL_law_256 rfl ?_
  refine y_iadd dL_law_257 ?_
  refine y_sld (j := i + 2) dL_law_258 (nI_add i 2) (by omega) hL ?_
  refine y_call (as := [.int (xs (i + 1)), .int (xs (i + 2))]) dL_law_259 yl_23 y2_23 mv_X7_thing (t_X7_thing l h1) kdl_0 ⟨by decide, rfl⟩ rfl rfl (fun _ _ => Nat.le_of_ble_eq_true rfl) (yint [(xs (i + 1)), (xs (i + 2))]) (fun x z q => by cases q; exact fun q => by cases q) ⟨Nat.le_of_ble_eq_true rfl, Nat.le_of_ble_eq_true rfl⟩ rfl ?_
  refine y_aload 2 dL_law_262 rfl ?_
  refine y_aloadS 0 dL_law_263 rfl ?_
  refine y_iload 3 dL_law_264 rfl ?_
  refine y_iconst (v := 1) dL_law_265 rfl ?_
  refine y_iadd dL_law_266 ?_
  refine y_sld (j := i + 1) dL_law_267 (nI_add i 1) (by omega) hL ?_
  refine y_aloadS 0 dL_law_268 rfl ?_
  refine y_iload 3 dL_law_269 rfl ?_
  refine y_iconst (v := 2) dL_law_270 rfl ?_
  refine y_iadd dL_law_271 ?_
  refine y_sld (j := i + 2) dL_law_272 (nI_add i 2) (by omega) hL ?_
  refine y_call (as := [.int (xs (i + 1)), .int (xs (i + 2))]) dL_law_273 yl_27 y2_27 mv_X8_thing (t_X8_thing l h2) kdl_74 ⟨by decide, rfl⟩ rfl rfl (fun _ _ => Nat.le_of_ble_eq_true rfl) (yint [(xs (i + 1)), (xs (i + 2))]) (fun x z q => by cases q; exact fun q => by cases q) ⟨Nat.le_of_ble_eq_true rfl, Nat.le_of_ble_eq_true rfl⟩ rfl ?_
  refine y_icmp_eq (tgt := 1347) dL_law_276 (by decide) hr ?_
  exact ih _ hI
set_option maxHeartbeats 1000000 in
theorem y_op_3 {l : Launch} {L : Nat} {xs : Nat → Int32} (hL : L ≤ 3072) {i : Nat} (hi : i + 6 ≤ L) {S : St} (hS : Inv S) (ih : ∀ S2, Inv S2 → Y l L xs 1347 [(0, .float 0), (1, .ref 0), (2, .ref 74), (3, .int (nI i))] [] S2) : Y l L xs 281 [(0, .float 0), (1, .ref 0), (2, .ref 74), (3, .int (nI i))] [] S := by
  obtain ⟨z1, z2, h1, h2, hr, hI⟩ := e_glad hS (xs (i + 1)) (xs (i + 2))
  refine y_aload 1 dL_law_281 rfl ?_
  refine y_aloadS 0 dL_law_282 rfl ?_
  refine y_iload 3 dL_law_283 rfl ?_
  refine y_iconst (v := 1) dL_law_284 rfl ?_
  refine y_iadd dL_law_285 ?_
  refine y_sld (j := i + 1) dL_law_286 (nI_add i 1) (by omega) hL ?_
  refine y_aloadS 0 dL_law_287 rfl ?_
  refine y_iload 3 dL_law_288 rfl ?_
  refine y_iconst (v := 2) dL_law_289 rfl ?_
  refine y_iadd dL_law_290 ?_
  refine y_sld (j := i + 2) dL_law_291 (nI_add i 2) (by omega) hL ?_
  refine y_call (as := [.int (xs (i + 1)), .int (xs (i + 2))]) dL_law_292 yl_28 y2_28 mv_X7_glad (t_X7_glad l h1) kdl_0 ⟨by decide, rfl⟩ rfl rfl (fun _ _ => Nat.le_of_ble_eq_true rfl) (yint [(xs (i + 1)), (xs (i + 2))]) (fun x z q => by cases q; exact fun q => by cases q) ⟨Nat.le_of_ble_eq_true rfl, Nat.le_of_ble_eq_true rfl⟩ rfl ?_
  refine y_aload 2 dL_law_295 rfl ?_
  refine y_aloadS 0 dL_law_296 rfl ?_
  refine y_iload 3 dL_law_297 rfl ?_
  refine y_iconst (v := 1) dL_law_298 rfl ?_
  refine y_iadd dL_law_299 ?_
  refine y_sld (j := i + 1) dL_law_300 (nI_add i 1) (by omega) hL ?_
  refine y_aloadS 0 dL_law_301 rfl ?_
  refine y_iload 3 dL_law_302 rfl ?_
  refine y_iconst (v := 2) dL_law_303 rfl ?_
  refine y_iadd dL_law_304 ?_
  refine y_sld (j := i + 2) dL_law_305 (nI_add i 2) (by omega) hL ?_
  refine y_call (as := [.int (xs (i + 1)), .int (xs (i + 2))]) dL_law_306 yl_31 y2_31 mv_X8_glad (t_X8_glad l h2) kdl_74 ⟨by decide, rfl⟩ rfl rfl (fun _ _ => Nat.le_of_ble_eq_true rfl) (yint [(xs (i + 1)), (xs (i + 2))]) (fun x z q => by cases q; exact fun q => by cases q) ⟨Nat.le_of_ble_eq_true rfl, Nat.le_of_ble_eq_true rfl⟩ rfl ?_
  refine y_icmp_eq (tgt := 1347) dL_law_309 (by decide) hr ?_
  exact ih _ hI
set_option maxHeartbeats 1000000 in
theorem y_op_4 {l : Launch} {L : Nat} {xs : Nat → Int32} (hL : L ≤ 3072) {i : Nat} (hi : i + 6 ≤ L) {S : St} (hS : Inv S) (ih : ∀ S2, Inv S2 → Y l L xs 1347 [(0, .float 0), (1, .ref 0), (2, .ref 74), (3, .int (nI i))] [] S2) : Y l L xs 314 [(0, .float 0), (1, .ref 0), (2, .ref 74), (3, .int (nI i))] [] S := by
  obtain ⟨z1, z2, h1, h2, hr, hI⟩ := e_halves hS (xs (i + 1)) (xs (i + 2))
  refine y_aload 1 dL_law_314 rfl ?_
  refine y_aloadS 0 dL_law_315 rfl ?_
  refine y_iload 3 dL_law_316 rfl ?_
  refine y_iconst (v := 1) dL_law_317 rfl ?_
  refine y_iadd dL_law_318 ?_
  refine y_sld (j := i + 1) dL_law_319 (nI_add i 1) (by omega) hL ?_
  refine y_aloadS 0 dL_law_320 rfl ?_
  refine y_iload 3 dL_law_321 rfl ?_
  refine y_iconst (v := 2) dL_law_322 rfl ?_
  refine y_iadd dL_law_323 ?_
  refine y_sld (j := i + 2) dL_law_324 (nI_add i 2) (by omega) hL ?_
  refine y_call (as := [.int (xs (i + 1)), .int (xs (i + 2))]) dL_law_325 yl_32 y2_32 mv_X7_halves (t_X7_halves l h1) kdl_0 ⟨by decide, rfl⟩ rfl rfl (fun _ _ => Nat.le_of_ble_eq_true rfl) (yint [(xs (i + 1)), (xs (i + 2))]) (fun x z q => by cases q; exact fun q => by cases q) ⟨Nat.le_of_ble_eq_true rfl, Nat.le_of_ble_eq_true rfl⟩ rfl ?_
  refine y_aload 2 dL_law_328 rfl ?_
  refine y_aloadS 0 dL_law_329 rfl ?_
  refine y_iload 3 dL_law_330 rfl ?_
  refine y_iconst (v := 1) dL_law_331 rfl ?_
  refine y_iadd dL_law_332 ?_
  refine y_sld (j := i + 1) dL_law_333 (nI_add i 1) (by omega) hL ?_
  refine y_aloadS 0 dL_law_334 rfl ?_
  refine y_iload 3 dL_law_335 rfl ?_
  refine y_iconst (v := 2) dL_law_336 rfl ?_
  refine y_iadd dL_law_337 ?_
  refine y_sld (j := i + 2) dL_law_338 (nI_add i 2) (by omega) hL ?_
  refine y_call (as := [.int (xs (i + 1)), .int (xs (i + 2))]) dL_law_339 yl_35 y2_35 mv_X8_halves (t_X8_halves l h2) kdl_74 ⟨by decide, rfl⟩ rfl rfl (fun _ _ => Nat.le_of_ble_eq_true rfl) (yint [(xs (i + 1)), (xs (i + 2))]) (fun x z q => by cases q; exact fun q => by cases q) ⟨Nat.le_of_ble_eq_true rfl, Nat.le_of_ble_eq_true rfl⟩ rfl ?_
  refine y_icmp_eq (tgt := 1347) dL_law_342 (by decide) hr ?_
  exact ih _ hI
set_option maxHeartbeats 1000000 in
theorem y_op_5 {l : Launch} {L : Nat} {xs : Nat → Int32} (hL : L ≤ 3072) {i : Nat} (hi : i + 6 ≤ L) {S : St} (hS : Inv S) (ih : ∀ S2, Inv S2 → Y l L xs 1347 [(0, .float 0), (1, .ref 0), (2, .ref 74), (3, .int (nI i))] [] S2) : Y l L xs 347 [(0, .float 0), (1, .ref 0), (2, .ref 74), (3, .int (nI i))] [] S := by
  obtain ⟨z1, z2, h1, h2, hr, hI⟩ := e_turn hS (xs (i + 1)) (xs (i + 2)) (xs (i + 3))
  refine y_aload 1 dL_law_347 rfl ?_
  refine y_aloadS 0 dL_law_348 rfl ?_
  refine y_iload 3 dL_law_349 rfl ?_
  refine y_iconst (v := 1) dL_law_350 rfl ?_
  refine y_iadd dL_law_351 ?_
  refine y_sld (j := i + 1) dL_law_352 (nI_add i 1) (by omega) hL ?_
  refine y_aloadS 0 dL_law_353 rfl ?_
  refine y_iload 3 dL_law_354 rfl ?_
  refine y_iconst (v := 2) dL_law_355 rfl ?_
  refine y_iadd dL_law_356 ?_
  refine y_sld (j := i + 2) dL_law_357 (nI_add i 2) (by omega) hL ?_
  refine y_aloadS 0 dL_law_358 rfl ?_
  refine y_iload 3 dL_law_359 rfl ?_
  refine y_iconst (v := 3) dL_law_360 rfl ?_
  refine y_iadd dL_law_361 ?_
  refine y_sld (j := i + 3) dL_law_362 (nI_add i 3) (by omega) hL ?_
  refine y_call (as := [.int (xs (i + 1)), .int (xs (i + 2)), .int (xs (i + 3))]) dL_law_363 yl_36 y2_36 mv_X7_turn (t_X7_turn l h1) kdl_0 ⟨by decide, rfl⟩ rfl rfl (fun _ _ => Nat.le_of_ble_eq_true rfl) (yint [(xs (i + 1)), (xs (i + 2)), (xs (i + 3))]) (fun x z q => by cases q; exact fun q => by cases q) ⟨Nat.le_of_ble_eq_true rfl, Nat.le_of_ble_eq_true rfl⟩ rfl ?_
  refine y_aload 2 dL_law_366 rfl ?_
  refine y_aloadS 0 dL_law_367 rfl ?_
  refine y_iload 3 dL_law_368 rfl ?_
  refine y_iconst (v := 1) dL_law_369 rfl ?_
  refine y_iadd dL_law_370 ?_
  refine y_sld (j := i + 1) dL_law_371 (nI_add i 1) (by omega) hL ?_
  refine y_aloadS 0 dL_law_372 rfl ?_
  refine y_iload 3 dL_law_373 rfl ?_
  refine y_iconst (v := 2) dL_law_374 rfl ?_
  refine y_iadd dL_law_375 ?_
  refine y_sld (j := i + 2) dL_law_376 (nI_add i 2) (by omega) hL ?_
  refine y_aloadS 0 dL_law_377 rfl ?_
  refine y_iload 3 dL_law_378 rfl ?_
  refine y_iconst (v := 3) dL_law_379 rfl ?_
  refine y_iadd dL_law_380 ?_
  refine y_sld (j := i + 3) dL_law_381 (nI_add i 3) (by omega) hL ?_
  refine y_call (as := [.int (xs (i + 1)), .int (xs (i + 2)), .int (xs (i + 3))]) dL_law_382 yl_40 y2_40 mv_X8_turn (t_X8_turn l h2) kdl_74 ⟨by decide, rfl⟩ rfl rfl (fun _ _ => Nat.le_of_ble_eq_true rfl) (yint [(xs (i + 1)), (xs (i + 2)), (xs (i + 3))]) (fun x z q => by cases q; exact fun q => by cases q) ⟨Nat.le_of_ble_eq_true rfl, Nat.le_of_ble_eq_true rfl⟩ rfl ?_
  refine y_icmp_eq (tgt := 1347) dL_law_385 (by decide) hr ?_
  exact ih _ hI
set_option maxHeartbeats 1000000 in
theorem y_op_6 {l : Launch} {L : Nat} {xs : Nat → Int32} (hL : L ≤ 3072) {i : Nat} (hi : i + 6 ≤ L) {S : St} (hS : Inv S) (ih : ∀ S2, Inv S2 → Y l L xs 1347 [(0, .float 0), (1, .ref 0), (2, .ref 74), (3, .int (nI i))] [] S2) : Y l L xs 390 [(0, .float 0), (1, .ref 0), (2, .ref 74), (3, .int (nI i))] [] S := by
  obtain ⟨z1, z2, h1, h2, hr, hI⟩ := e_makes hS (xs (i + 1)) (xs (i + 2)) (xs (i + 3))
  refine y_aload 1 dL_law_390 rfl ?_
  refine y_aloadS 0 dL_law_391 rfl ?_
  refine y_iload 3 dL_law_392 rfl ?_
  refine y_iconst (v := 1) dL_law_393 rfl ?_
  refine y_iadd dL_law_394 ?_
  refine y_sld (j := i + 1) dL_law_395 (nI_add i 1) (by omega) hL ?_
  refine y_aloadS 0 dL_law_396 rfl ?_
  refine y_iload 3 dL_law_397 rfl ?_
  refine y_iconst (v := 2) dL_law_398 rfl ?_
  refine y_iadd dL_law_399 ?_
  refine y_sld (j := i + 2) dL_law_400 (nI_add i 2) (by omega) hL ?_
  refine y_aloadS 0 dL_law_401 rfl ?_
  refine y_iload 3 dL_law_402 rfl ?_
  refine y_iconst (v := 3) dL_law_403 rfl ?_
  refine y_iadd dL_law_404 ?_
  refine y_sld (j := i + 3) dL_law_405 (nI_add i 3) (by omega) hL ?_
  refine y_call (as := [.int (xs (i + 1)), .int (xs (i + 2)), .int (xs (i + 3))]) dL_law_406 yl_41 y2_41 mv_X7_makes (t_X7_makes l h1) kdl_0 ⟨by decide, rfl⟩ rfl rfl (fun _ _ => Nat.le_of_ble_eq_true rfl) (yint [(xs (i + 1)), (xs (i + 2)), (xs (i + 3))]) (fun x z q => by cases q; exact fun q => by cases q) ⟨Nat.le_of_ble_eq_true rfl, Nat.le_of_ble_eq_true rfl⟩ rfl ?_
  refine y_aload 2 dL_law_409 rfl ?_
  refine y_aloadS 0 dL_law_410 rfl ?_
  refine y_iload 3 dL_law_411 rfl ?_
  refine y_iconst (v := 1) dL_law_412 rfl ?_
  refine y_iadd dL_law_413 ?_
  refine y_sld (j := i + 1) dL_law_414 (nI_add i 1) (by omega) hL ?_
  refine y_aloadS 0 dL_law_415 rfl ?_
  refine y_iload 3 dL_law_416 rfl ?_
  refine y_iconst (v := 2) dL_law_417 rfl ?_
  refine y_iadd dL_law_418 ?_
  refine y_sld (j := i + 2) dL_law_419 (nI_add i 2) (by omega) hL ?_
  refine y_aloadS 0 dL_law_420 rfl ?_
  refine y_iload 3 dL_law_421 rfl ?_
  refine y_iconst (v := 3) dL_law_422 rfl ?_
  refine y_iadd dL_law_423 ?_
  refine y_sld (j := i + 3) dL_law_424 (nI_add i 3) (by omega) hL ?_
  refine y_call (as := [.int (xs (i + 1)), .int (xs (i + 2)), .int (xs (i + 3))]) dL_law_425 yl_44 y2_44 mv_X8_makes (t_X8_makes l h2) kdl_74 ⟨by decide, rfl⟩ rfl rfl (fun _ _ => Nat.le_of_ble_eq_true rfl) (yint [(xs (i + 1)), (xs (i + 2)), (xs (i + 3))]) (fun x z q => by cases q; exact fun q => by cases q) ⟨Nat.le_of_ble_eq_true rfl, Nat.le_of_ble_eq_true rfl⟩ rfl ?_
  refine y_icmp_eq (tgt := 1347) dL_law_428 (by decide) hr ?_
  exact ih _ hI
set_option maxHeartbeats 1000000 in
theorem y_op_7 {l : Launch} {L : Nat} {xs : Nat → Int32} (hL : L ≤ 3072) {i : Nat} (hi : i + 6 ≤ L) {S : St} (hS : Inv S) (ih : ∀ S2, Inv S2 → Y l L xs 1347 [(0, .float 0), (1, .ref 0), (2, .ref 74), (3, .int (nI i))] [] S2) : Y l L xs 433 [(0, .float 0), (1, .ref 0), (2, .ref 74), (3, .int (nI i))] [] S := by
  obtain ⟨z1, z2, h1, h2, hr, hI⟩ := e_pairs hS (xs (i + 1)) (xs (i + 2))
  refine y_aload 1 dL_law_433 rfl ?_
  refine y_aloadS 0 dL_law_434 rfl ?_
  refine y_iload 3 dL_law_435 rfl ?_
  refine y_iconst (v := 1) dL_law_436 rfl ?_
  refine y_iadd dL_law_437 ?_
  refine y_sld (j := i + 1) dL_law_438 (nI_add i 1) (by omega) hL ?_
  refine y_aloadS 0 dL_law_439 rfl ?_
  refine y_iload 3 dL_law_440 rfl ?_
  refine y_iconst (v := 2) dL_law_441 rfl ?_
  refine y_iadd dL_law_442 ?_
  refine y_sld (j := i + 2) dL_law_443 (nI_add i 2) (by omega) hL ?_
  refine y_call (as := [.int (xs (i + 1)), .int (xs (i + 2))]) dL_law_444 yl_45 y2_45 mv_X7_pairs (t_X7_pairs l h1) kdl_0 ⟨by decide, rfl⟩ rfl rfl (fun _ _ => Nat.le_of_ble_eq_true rfl) (yint [(xs (i + 1)), (xs (i + 2))]) (fun x z q => by cases q; exact fun q => by cases q) ⟨Nat.le_of_ble_eq_true rfl, Nat.le_of_ble_eq_true rfl⟩ rfl ?_
  refine y_aload 2 dL_law_447 rfl ?_
  refine y_aloadS 0 dL_law_448 rfl ?_
  refine y_iload 3 dL_law_449 rfl ?_
  refine y_iconst (v := 1) dL_law_450 rfl ?_
  refine y_iadd dL_law_451 ?_
  refine y_sld (j := i + 1) dL_law_452 (nI_add i 1) (by omega) hL ?_
  refine y_aloadS 0 dL_law_453 rfl ?_
  refine y_iload 3 dL_law_454 rfl ?_
  refine y_iconst (v := 2) dL_law_455 rfl ?_
  refine y_iadd dL_law_456 ?_
  refine y_sld (j := i + 2) dL_law_457 (nI_add i 2) (by omega) hL ?_
  refine y_call (as := [.int (xs (i + 1)), .int (xs (i + 2))]) dL_law_458 yl_48 y2_48 mv_X8_pairs (t_X8_pairs l h2) kdl_74 ⟨by decide, rfl⟩ rfl rfl (fun _ _ => Nat.le_of_ble_eq_true rfl) (yint [(xs (i + 1)), (xs (i + 2))]) (fun x z q => by cases q; exact fun q => by cases q) ⟨Nat.le_of_ble_eq_true rfl, Nat.le_of_ble_eq_true rfl⟩ rfl ?_
  refine y_icmp_eq (tgt := 1347) dL_law_461 (by decide) hr ?_
  exact ih _ hI
set_option maxHeartbeats 1000000 in
theorem y_op_8 {l : Launch} {L : Nat} {xs : Nat → Int32} (hL : L ≤ 3072) {i : Nat} (hi : i + 6 ≤ L) {S : St} (hS : Inv S) (ih : ∀ S2, Inv S2 → Y l L xs 1347 [(0, .float 0), (1, .ref 0), (2, .ref 74), (3, .int (nI i))] [] S2) : Y l L xs 466 [(0, .float 0), (1, .ref 0), (2, .ref 74), (3, .int (nI i))] [] S := by
  obtain ⟨z1, z2, h1, h2, hr, hI⟩ := e_now hS (xs (i + 1))
  refine y_aload 1 dL_law_466 rfl ?_
  refine y_aloadS 0 dL_law_467 rfl ?_
  refine y_iload 3 dL_law_468 rfl ?_
  refine y_iconst (v := 1) dL_law_469 rfl ?_
  refine y_iadd dL_law_470 ?_
  refine y_sld (j := i + 1) dL_law_471 (nI_add i 1) (by omega) hL ?_
  refine y_call (as := [.int (xs (i + 1))]) dL_law_472 yl_49 y2_49 mv_X7_now (t_X7_now l h1) kdl_0 ⟨by decide, rfl⟩ rfl rfl (fun _ _ => Nat.le_of_ble_eq_true rfl) (yint [(xs (i + 1))]) (fun x z q => by cases q; exact fun q => by cases q) ⟨Nat.le_of_ble_eq_true rfl, Nat.le_of_ble_eq_true rfl⟩ rfl ?_
  refine y_aload 2 dL_law_475 rfl ?_
  refine y_aloadS 0 dL_law_476 rfl ?_
  refine y_iload 3 dL_law_477 rfl ?_
  refine y_iconst (v := 1) dL_law_478 rfl ?_
  refine y_iadd dL_law_479 ?_
  refine y_sld (j := i + 1) dL_law_480 (nI_add i 1) (by omega) hL ?_
  refine y_call (as := [.int (xs (i + 1))]) dL_law_481 yl_52 y2_52 mv_X8_now (t_X8_now l h2) kdl_74 ⟨by decide, rfl⟩ rfl rfl (fun _ _ => Nat.le_of_ble_eq_true rfl) (yint [(xs (i + 1))]) (fun x z q => by cases q; exact fun q => by cases q) ⟨Nat.le_of_ble_eq_true rfl, Nat.le_of_ble_eq_true rfl⟩ rfl ?_
  refine y_icmp_eq (tgt := 1347) dL_law_484 (by decide) hr ?_
  exact ih _ hI
set_option maxHeartbeats 1000000 in
theorem y_op_9 {l : Launch} {L : Nat} {xs : Nat → Int32} (hL : L ≤ 3072) {i : Nat} (hi : i + 6 ≤ L) {S : St} (hS : Inv S) (ih : ∀ S2, Inv S2 → Y l L xs 1347 [(0, .float 0), (1, .ref 0), (2, .ref 74), (3, .int (nI i))] [] S2) : Y l L xs 489 [(0, .float 0), (1, .ref 0), (2, .ref 74), (3, .int (nI i))] [] S := by
  obtain ⟨z1, z2, h1, h2, hr, hI⟩ := e_hands hS (xs (i + 1))
  refine y_aload 1 dL_law_489 rfl ?_
  refine y_aloadS 0 dL_law_490 rfl ?_
  refine y_iload 3 dL_law_491 rfl ?_
  refine y_iconst (v := 1) dL_law_492 rfl ?_
  refine y_iadd dL_law_493 ?_
  refine y_sld (j := i + 1) dL_law_494 (nI_add i 1) (by omega) hL ?_
  refine y_call (as := [.int (xs (i + 1))]) dL_law_495 yl_53 y2_53 mv_X7_hands (t_X7_hands l h1) kdl_0 ⟨by decide, rfl⟩ rfl rfl (fun _ _ => Nat.le_of_ble_eq_true rfl) (yint [(xs (i + 1))]) (fun x z q => by cases q; exact fun q => by cases q) ⟨Nat.le_of_ble_eq_true rfl, Nat.le_of_ble_eq_true rfl⟩ rfl ?_
  refine y_aload 2 dL_law_498 rfl ?_
  refine y_aloadS 0 dL_law_499 rfl ?_
  refine y_iload 3 dL_law_500 rfl ?_
  refine y_iconst (v := 1) dL_law_501 rfl ?_
  refine y_iadd dL_law_502 ?_
  refine y_sld (j := i + 1) dL_law_503 (nI_add i 1) (by omega) hL ?_
  refine y_call (as := [.int (xs (i + 1))]) dL_law_504 yl_56 y2_56 mv_X8_hands (t_X8_hands l h2) kdl_74 ⟨by decide, rfl⟩ rfl rfl (fun _ _ => Nat.le_of_ble_eq_true rfl) (yint [(xs (i + 1))]) (fun x z q => by cases q; exact fun q => by cases q) ⟨Nat.le_of_ble_eq_true rfl, Nat.le_of_ble_eq_true rfl⟩ rfl ?_
  refine y_icmp_eq (tgt := 1347) dL_law_507 (by decide) hr ?_
  exact ih _ hI
set_option maxHeartbeats 1000000 in
theorem y_op_10 {l : Launch} {L : Nat} {xs : Nat → Int32} (hL : L ≤ 3072) {i : Nat} (hi : i + 6 ≤ L) {S : St} (hS : Inv S) (ih : ∀ S2, Inv S2 → Y l L xs 1347 [(0, .float 0), (1, .ref 0), (2, .ref 74), (3, .int (nI i))] [] S2) : Y l L xs 512 [(0, .float 0), (1, .ref 0), (2, .ref 74), (3, .int (nI i))] [] S := by
  obtain ⟨z1, z2, h1, h2, hr, hI⟩ := e_pours hS (xs (i + 1))
  refine y_aload 1 dL_law_512 rfl ?_
  refine y_aloadS 0 dL_law_513 rfl ?_
  refine y_iload 3 dL_law_514 rfl ?_
  refine y_iconst (v := 1) dL_law_515 rfl ?_
  refine y_iadd dL_law_516 ?_
  refine y_sld (j := i + 1) dL_law_517 (nI_add i 1) (by omega) hL ?_
  refine y_call (as := [.int (xs (i + 1))]) dL_law_518 yl_57 y2_57 mv_X7_pours (t_X7_pours l h1) kdl_0 ⟨by decide, rfl⟩ rfl rfl (fun _ _ => Nat.le_of_ble_eq_true rfl) (yint [(xs (i + 1))]) (fun x z q => by cases q; exact fun q => by cases q) ⟨Nat.le_of_ble_eq_true rfl, Nat.le_of_ble_eq_true rfl⟩ rfl ?_
  refine y_aload 2 dL_law_521 rfl ?_
  refine y_aloadS 0 dL_law_522 rfl ?_
  refine y_iload 3 dL_law_523 rfl ?_
  refine y_iconst (v := 1) dL_law_524 rfl ?_
  refine y_iadd dL_law_525 ?_
  refine y_sld (j := i + 1) dL_law_526 (nI_add i 1) (by omega) hL ?_
  refine y_call (as := [.int (xs (i + 1))]) dL_law_527 yl_60 y2_60 mv_X8_pours (t_X8_pours l h2) kdl_74 ⟨by decide, rfl⟩ rfl rfl (fun _ _ => Nat.le_of_ble_eq_true rfl) (yint [(xs (i + 1))]) (fun x z q => by cases q; exact fun q => by cases q) ⟨Nat.le_of_ble_eq_true rfl, Nat.le_of_ble_eq_true rfl⟩ rfl ?_
  refine y_icmp_eq (tgt := 1347) dL_law_530 (by decide) hr ?_
  exact ih _ hI
set_option maxHeartbeats 1000000 in
theorem y_op_11 {l : Launch} {L : Nat} {xs : Nat → Int32} (hL : L ≤ 3072) {i : Nat} (hi : i + 6 ≤ L) {S : St} (hS : Inv S) (ih : ∀ S2, Inv S2 → Y l L xs 1347 [(0, .float 0), (1, .ref 0), (2, .ref 74), (3, .int (nI i))] [] S2) : Y l L xs 535 [(0, .float 0), (1, .ref 0), (2, .ref 74), (3, .int (nI i))] [] S := by
  obtain ⟨z1, z2, h1, h2, hr, hI⟩ := e_glues hS (xs (i + 1)) (xs (i + 2)) (xs (i + 3))
  refine y_aload 1 dL_law_535 rfl ?_
  refine y_aloadS 0 dL_law_536 rfl ?_
  refine y_iload 3 dL_law_537 rfl ?_
  refine y_iconst (v := 1) dL_law_538 rfl ?_
  refine y_iadd dL_law_539 ?_
  refine y_sld (j := i + 1) dL_law_540 (nI_add i 1) (by omega) hL ?_
  refine y_aloadS 0 dL_law_541 rfl ?_
  refine y_iload 3 dL_law_542 rfl ?_
  refine y_iconst (v := 2) dL_law_543 rfl ?_
  refine y_iadd dL_law_544 ?_
  refine y_sld (j := i + 2) dL_law_545 (nI_add i 2) (by omega) hL ?_
  refine y_aloadS 0 dL_law_546 rfl ?_
  refine y_iload 3 dL_law_547 rfl ?_
  refine y_iconst (v := 3) dL_law_548 rfl ?_
  refine y_iadd dL_law_549 ?_
  refine y_sld (j := i + 3) dL_law_550 (nI_add i 3) (by omega) hL ?_
  refine y_call (as := [.int (xs (i + 1)), .int (xs (i + 2)), .int (xs (i + 3))]) dL_law_551 yl_61 y2_61 mv_X7_glues (t_X7_glues l h1) kdl_0 ⟨by decide, rfl⟩ rfl rfl (fun _ _ => Nat.le_of_ble_eq_true rfl) (yint [(xs (i + 1)), (xs (i + 2)), (xs (i + 3))]) (fun x z q => by cases q; exact fun q => by cases q) ⟨Nat.le_of_ble_eq_true rfl, Nat.le_of_ble_eq_true rfl⟩ rfl ?_
  refine y_aload 2 dL_law_554 rfl ?_
  refine y_aloadS 0 dL_law_555 rfl ?_
  refine y_iload 3 dL_law_556 rfl ?_
  refine y_iconst (v := 1) dL_law_557 rfl ?_
  refine y_iadd dL_law_558 ?_
  refine y_sld (j := i + 1) dL_law_559 (nI_add i 1) (by omega) hL ?_
  refine y_aloadS 0 dL_law_560 rfl ?_
  refine y_iload 3 dL_law_561 rfl ?_
  refine y_iconst (v := 2) dL_law_562 rfl ?_
  refine y_iadd dL_law_563 ?_
  refine y_sld (j := i + 2) dL_law_564 (nI_add i 2) (by omega) hL ?_
  refine y_aloadS 0 dL_law_565 rfl ?_
  refine y_iload 3 dL_law_566 rfl ?_
  refine y_iconst (v := 3) dL_law_567 rfl ?_
  refine y_iadd dL_law_568 ?_
  refine y_sld (j := i + 3) dL_law_569 (nI_add i 3) (by omega) hL ?_
  refine y_call (as := [.int (xs (i + 1)), .int (xs (i + 2)), .int (xs (i + 3))]) dL_law_570 yl_64 y2_64 mv_X8_glues (t_X8_glues l h2) kdl_74 ⟨by decide, rfl⟩ rfl rfl (fun _ _ => Nat.le_of_ble_eq_true rfl) (yint [(xs (i + 1)), (xs (i + 2)), (xs (i + 3))]) (fun x z q => by cases q; exact fun q => by cases q) ⟨Nat.le_of_ble_eq_true rfl, Nat.le_of_ble_eq_true rfl⟩ rfl ?_
  refine y_icmp_eq (tgt := 1347) dL_law_573 (by decide) hr ?_
  exact ih _ hI
set_option maxHeartbeats 1000000 in
theorem y_op_12 {l : Launch} {L : Nat} {xs : Nat → Int32} (hL : L ≤ 3072) {i : Nat} (hi : i + 6 ≤ L) {S : St} (hS : Inv S) (ih : ∀ S2, Inv S2 → Y l L xs 1347 [(0, .float 0), (1, .ref 0), (2, .ref 74), (3, .int (nI i))] [] S2) : Y l L xs 578 [(0, .float 0), (1, .ref 0), (2, .ref 74), (3, .int (nI i))] [] S := by
  obtain ⟨z1, z2, h1, h2, hr, hI⟩ := e_washes hS (xs (i + 1))
  refine y_aload 1 dL_law_578 rfl ?_
  refine y_aloadS 0 dL_law_579 rfl ?_
  refine y_iload 3 dL_law_580 rfl ?_
  refine y_iconst (v := 1) dL_law_581 rfl ?_
  refine y_iadd dL_law_582 ?_
  refine y_sld (j := i + 1) dL_law_583 (nI_add i 1) (by omega) hL ?_
  refine y_call (as := [.int (xs (i + 1))]) dL_law_584 yl_65 y2_65 mv_X7_washes (t_X7_washes l h1) kdl_0 ⟨by decide, rfl⟩ rfl rfl (fun _ _ => Nat.le_of_ble_eq_true rfl) (yint [(xs (i + 1))]) (fun x z q => by cases q; exact fun q => by cases q) ⟨Nat.le_of_ble_eq_true rfl, Nat.le_of_ble_eq_true rfl⟩ rfl ?_
  refine y_aload 2 dL_law_587 rfl ?_
  refine y_aloadS 0 dL_law_588 rfl ?_
  refine y_iload 3 dL_law_589 rfl ?_
  refine y_iconst (v := 1) dL_law_590 rfl ?_
  refine y_iadd dL_law_591 ?_
  refine y_sld (j := i + 1) dL_law_592 (nI_add i 1) (by omega) hL ?_
  refine y_call (as := [.int (xs (i + 1))]) dL_law_593 yl_68 y2_68 mv_X8_washes (t_X8_washes l h2) kdl_74 ⟨by decide, rfl⟩ rfl rfl (fun _ _ => Nat.le_of_ble_eq_true rfl) (yint [(xs (i + 1))]) (fun x z q => by cases q; exact fun q => by cases q) ⟨Nat.le_of_ble_eq_true rfl, Nat.le_of_ble_eq_true rfl⟩ rfl ?_
  refine y_icmp_eq (tgt := 1347) dL_law_596 (by decide) hr ?_
  exact ih _ hI
set_option maxHeartbeats 1000000 in
theorem y_op_13 {l : Launch} {L : Nat} {xs : Nat → Int32} (hL : L ≤ 3072) {i : Nat} (hi : i + 6 ≤ L) {S : St} (hS : Inv S) (ih : ∀ S2, Inv S2 → Y l L xs 1347 [(0, .float 0), (1, .ref 0), (2, .ref 74), (3, .int (nI i))] [] S2) : Y l L xs 601 [(0, .float 0), (1, .ref 0), (2, .ref 74), (3, .int (nI i))] [] S := by
  obtain ⟨z1, z2, h1, h2, hr, hI⟩ := e_would hS (xs (i + 1)) (xs (i + 2)) (xs (i + 3)) (xs (i + 4))
  refine y_aload 1 dL_law_601 rfl ?_
  refine y_aloadS 0 dL_law_602 rfl ?_
  refine y_iload 3 dL_law_603 rfl ?_
  refine y_iconst (v := 1) dL_law_604 rfl ?_
  refine y_iadd dL_law_605 ?_
  refine y_sld (j := i + 1) dL_law_606 (nI_add i 1) (by omega) hL ?_
  refine y_aloadS 0 dL_law_607 rfl ?_
  refine y_iload 3 dL_law_608 rfl ?_
  refine y_iconst (v := 2) dL_law_609 rfl ?_
  refine y_iadd dL_law_610 ?_
  refine y_sld (j := i + 2) dL_law_611 (nI_add i 2) (by omega) hL ?_
  refine y_aloadS 0 dL_law_612 rfl ?_
  refine y_iload 3 dL_law_613 rfl ?_
  refine y_iconst (v := 3) dL_law_614 rfl ?_
  refine y_iadd dL_law_615 ?_
  refine y_sld (j := i + 3) dL_law_616 (nI_add i 3) (by omega) hL ?_
  refine y_aloadS 0 dL_law_617 rfl ?_
  refine y_iload 3 dL_law_618 rfl ?_
  refine y_iconst (v := 4) dL_law_619 rfl ?_
  refine y_iadd dL_law_620 ?_
  refine y_sld (j := i + 4) dL_law_621 (nI_add i 4) (by omega) hL ?_
  refine y_call (as := [.int (xs (i + 1)), .int (xs (i + 2)), .int (xs (i + 3)), .int (xs (i + 4))]) dL_law_622 yl_69 y2_69 mv_X7_would (t_X7_would l h1) kdl_0 ⟨by decide, rfl⟩ rfl rfl (fun _ _ => Nat.le_of_ble_eq_true rfl) (yint [(xs (i + 1)), (xs (i + 2)), (xs (i + 3)), (xs (i + 4))]) (fun x z q => by cases q; exact fun q => by cases q) ⟨Nat.le_of_ble_eq_true rfl, Nat.le_of_ble_eq_true rfl⟩ rfl ?_
  refine y_aload 2 dL_law_625 rfl ?_
  refine y_aloadS 0 dL_law_626 rfl ?_
  refine y_iload 3 dL_law_627 rfl ?_
  refine y_iconst (v := 1) dL_law_628 rfl ?_
  refine y_iadd dL_law_629 ?_
  refine y_sld (j := i + 1) dL_law_630 (nI_add i 1) (by omega) hL ?_
  refine y_aloadS 0 dL_law_631 rfl ?_
  refine y_iload 3 dL_law_632 rfl ?_
  refine y_iconst (v := 2) dL_law_633 rfl ?_
  refine y_iadd dL_law_634 ?_
  refine y_sld (j := i + 2) dL_law_635 (nI_add i 2) (by omega) hL ?_
  refine y_aloadS 0 dL_law_636 rfl ?_
  refine y_iload 3 dL_law_637 rfl ?_
  refine y_iconst (v := 3) dL_law_638 rfl ?_
  refine y_iadd dL_law_639 ?_
  refine y_sld (j := i + 3) dL_law_640 (nI_add i 3) (by omega) hL ?_
  refine y_aloadS 0 dL_law_641 rfl ?_
  refine y_iload 3 dL_law_642 rfl ?_
  refine y_iconst (v := 4) dL_law_643 rfl ?_
  refine y_iadd dL_law_644 ?_
  refine y_sld (j := i + 4) dL_law_645 (nI_add i 4) (by omega) hL ?_
  refine y_call (as := [.int (xs (i + 1)), .int (xs (i + 2)), .int (xs (i + 3)), .int (xs (i + 4))]) dL_law_646 yl_73 y2_73 mv_X8_would (t_X8_would l h2) kdl_74 ⟨by decide, rfl⟩ rfl rfl (fun _ _ => Nat.le_of_ble_eq_true rfl) (yint [(xs (i + 1)), (xs (i + 2)), (xs (i + 3)), (xs (i + 4))]) (fun x z q => by cases q; exact fun q => by cases q) ⟨Nat.le_of_ble_eq_true rfl, Nat.le_of_ble_eq_true rfl⟩ rfl ?_
  refine y_icmp_eq (tgt := 1347) dL_law_649 (by decide) hr ?_
  exact ih _ hI
set_option maxHeartbeats 1000000 in
theorem y_op_14 {l : Launch} {L : Nat} {xs : Nat → Int32} (hL : L ≤ 3072) {i : Nat} (hi : i + 6 ≤ L) {S : St} (hS : Inv S) (ih : ∀ S2, Inv S2 → Y l L xs 1347 [(0, .float 0), (1, .ref 0), (2, .ref 74), (3, .int (nI i))] [] S2) : Y l L xs 654 [(0, .float 0), (1, .ref 0), (2, .ref 74), (3, .int (nI i))] [] S := by
  obtain ⟨z1, z2, h1, h2, hr, hI⟩ := e_can hS (xs (i + 1))
  refine y_aload 1 dL_law_654 rfl ?_
  refine y_aloadS 0 dL_law_655 rfl ?_
  refine y_iload 3 dL_law_656 rfl ?_
  refine y_iconst (v := 1) dL_law_657 rfl ?_
  refine y_iadd dL_law_658 ?_
  refine y_sld (j := i + 1) dL_law_659 (nI_add i 1) (by omega) hL ?_
  refine y_call (as := [.int (xs (i + 1))]) dL_law_660 yl_74 y2_74 mv_X7_can (t_X7_can l h1) kdl_0 ⟨by decide, rfl⟩ rfl rfl (fun _ _ => Nat.le_of_ble_eq_true rfl) (yint [(xs (i + 1))]) (fun x z q => by cases q; exact fun q => by cases q) ⟨Nat.le_of_ble_eq_true rfl, Nat.le_of_ble_eq_true rfl⟩ rfl ?_
  refine y_aload 2 dL_law_663 rfl ?_
  refine y_aloadS 0 dL_law_664 rfl ?_
  refine y_iload 3 dL_law_665 rfl ?_
  refine y_iconst (v := 1) dL_law_666 rfl ?_
  refine y_iadd dL_law_667 ?_
  refine y_sld (j := i + 1) dL_law_668 (nI_add i 1) (by omega) hL ?_
  refine y_call (as := [.int (xs (i + 1))]) dL_law_669 yl_77 y2_77 mv_X8_can (t_X8_can l h2) kdl_74 ⟨by decide, rfl⟩ rfl rfl (fun _ _ => Nat.le_of_ble_eq_true rfl) (yint [(xs (i + 1))]) (fun x z q => by cases q; exact fun q => by cases q) ⟨Nat.le_of_ble_eq_true rfl, Nat.le_of_ble_eq_true rfl⟩ rfl ?_
  refine y_icmp_eq (tgt := 1347) dL_law_672 (by decide) hr ?_
  exact ih _ hI
set_option maxHeartbeats 1000000 in
theorem y_op_15 {l : Launch} {L : Nat} {xs : Nat → Int32} (hL : L ≤ 3072) {i : Nat} (hi : i + 6 ≤ L) {S : St} (hS : Inv S) (ih : ∀ S2, Inv S2 → Y l L xs 1347 [(0, .float 0), (1, .ref 0), (2, .ref 74), (3, .int (nI i))] [] S2) : Y l L xs 677 [(0, .float 0), (1, .ref 0), (2, .ref 74), (3, .int (nI i))] [] S := by
  obtain ⟨z1, z2, h1, h2, hr, hI⟩ := e_fewest hS (xs (i + 1)) (xs (i + 2))
  refine y_aload 1 dL_law_677 rfl ?_
  refine y_aloadS 0 dL_law_678 rfl ?_
  refine y_iload 3 dL_law_679 rfl ?_
  refine y_iconst (v := 1) dL_law_680 rfl ?_
  refine y_iadd dL_law_681 ?_
  refine y_sld (j := i + 1) dL_law_682 (nI_add i 1) (by omega) hL ?_
  refine y_aloadS 0 dL_law_683 rfl ?_
  refine y_iload 3 dL_law_684 rfl ?_
  refine y_iconst (v := 2) dL_law_685 rfl ?_
  refine y_iadd dL_law_686 ?_
  refine y_sld (j := i + 2) dL_law_687 (nI_add i 2) (by omega) hL ?_
  refine y_call (as := [.int (xs (i + 1)), .int (xs (i + 2))]) dL_law_688 yl_78 y2_78 mv_X7_fewest (t_X7_fewest l h1) kdl_0 ⟨by decide, rfl⟩ rfl rfl (fun _ _ => Nat.le_of_ble_eq_true rfl) (yint [(xs (i + 1)), (xs (i + 2))]) (fun x z q => by cases q; exact fun q => by cases q) ⟨Nat.le_of_ble_eq_true rfl, Nat.le_of_ble_eq_true rfl⟩ rfl ?_
  refine y_aload 2 dL_law_691 rfl ?_
  refine y_aloadS 0 dL_law_692 rfl ?_
  refine y_iload 3 dL_law_693 rfl ?_
  refine y_iconst (v := 1) dL_law_694 rfl ?_
  refine y_iadd dL_law_695 ?_
  refine y_sld (j := i + 1) dL_law_696 (nI_add i 1) (by omega) hL ?_
  refine y_aloadS 0 dL_law_697 rfl ?_
  refine y_iload 3 dL_law_698 rfl ?_
  refine y_iconst (v := 2) dL_law_699 rfl ?_
  refine y_iadd dL_law_700 ?_
  refine y_sld (j := i + 2) dL_law_701 (nI_add i 2) (by omega) hL ?_
  refine y_call (as := [.int (xs (i + 1)), .int (xs (i + 2))]) dL_law_702 yl_81 y2_81 mv_X8_fewest (t_X8_fewest l h2) kdl_74 ⟨by decide, rfl⟩ rfl rfl (fun _ _ => Nat.le_of_ble_eq_true rfl) (yint [(xs (i + 1)), (xs (i + 2))]) (fun x z q => by cases q; exact fun q => by cases q) ⟨Nat.le_of_ble_eq_true rfl, Nat.le_of_ble_eq_true rfl⟩ rfl ?_
  refine y_icmp_eq (tgt := 1347) dL_law_705 (by decide) hr ?_
  exact ih _ hI
set_option maxHeartbeats 1000000 in
theorem y_op_16 {l : Launch} {L : Nat} {xs : Nat → Int32} (hL : L ≤ 3072) {i : Nat} (hi : i + 6 ≤ L) {S : St} (hS : Inv S) (ih : ∀ S2, Inv S2 → Y l L xs 1347 [(0, .float 0), (1, .ref 0), (2, .ref 74), (3, .int (nI i))] [] S2) : Y l L xs 710 [(0, .float 0), (1, .ref 0), (2, .ref 74), (3, .int (nI i))] [] S := by
  obtain ⟨z1, z2, h1, h2, hr, hI⟩ := e_gladness hS
  refine y_aload 1 dL_law_710 rfl ?_
  refine y_call (as := []) dL_law_711 yl_82 y2_82 mv_X7_gladness (t_X7_gladness l h1) kdl_0 ⟨by decide, rfl⟩ rfl rfl (fun _ _ => Nat.le_of_ble_eq_true rfl) (yint []) (fun x z q => by cases q; exact fun q => by cases q) ⟨Nat.le_of_ble_eq_true rfl, Nat.le_of_ble_eq_true rfl⟩ rfl ?_
  refine y_aload 2 dL_law_714 rfl ?_
  refine y_call (as := []) dL_law_715 yl_85 y2_85 mv_X8_gladness (t_X8_gladness l h2) kdl_74 ⟨by decide, rfl⟩ rfl rfl (fun _ _ => Nat.le_of_ble_eq_true rfl) (yint []) (fun x z q => by cases q; exact fun q => by cases q) ⟨Nat.le_of_ble_eq_true rfl, Nat.le_of_ble_eq_true rfl⟩ rfl ?_
  refine y_icmp_eq (tgt := 1347) dL_law_718 (by decide) hr ?_
  exact ih _ hI
set_option maxHeartbeats 1000000 in
theorem y_op_17 {l : Launch} {L : Nat} {xs : Nat → Int32} (hL : L ≤ 3072) {i : Nat} (hi : i + 6 ≤ L) {S : St} (hS : Inv S) (ih : ∀ S2, Inv S2 → Y l L xs 1347 [(0, .float 0), (1, .ref 0), (2, .ref 74), (3, .int (nI i))] [] S2) : Y l L xs 723 [(0, .float 0), (1, .ref 0), (2, .ref 74), (3, .int (nI i))] [] S := by
  obtain ⟨z1, z2, h1, h2, hr, hI⟩ := e_agree hS (xs (i + 1))
  refine y_aload 1 dL_law_723 rfl ?_
  refine y_aloadS 0 dL_law_724 rfl ?_
  refine y_iload 3 dL_law_725 rfl ?_
  refine y_iconst (v := 1) dL_law_726 rfl ?_
  refine y_iadd dL_law_727 ?_
  refine y_sld (j := i + 1) dL_law_728 (nI_add i 1) (by omega) hL ?_
  refine y_call (as := [.int (xs (i + 1))]) dL_law_729 yl_86 y2_86 mv_X7_agree (t_X7_agree l h1) kdl_0 ⟨by decide, rfl⟩ rfl rfl (fun _ _ => Nat.le_of_ble_eq_true rfl) (yint [(xs (i + 1))]) (fun x z q => by cases q; exact fun q => by cases q) ⟨Nat.le_of_ble_eq_true rfl, Nat.le_of_ble_eq_true rfl⟩ rfl ?_
  refine y_aload 2 dL_law_732 rfl ?_
  refine y_aloadS 0 dL_law_733 rfl ?_
  refine y_iload 3 dL_law_734 rfl ?_
  refine y_iconst (v := 1) dL_law_735 rfl ?_
  refine y_iadd dL_law_736 ?_
  refine y_sld (j := i + 1) dL_law_737 (nI_add i 1) (by omega) hL ?_
  refine y_call (as := [.int (xs (i + 1))]) dL_law_738 yl_89 y2_89 mv_X8_agree (t_X8_agree l h2) kdl_74 ⟨by decide, rfl⟩ rfl rfl (fun _ _ => Nat.le_of_ble_eq_true rfl) (yint [(xs (i + 1))]) (fun x z q => by cases q; exact fun q => by cases q) ⟨Nat.le_of_ble_eq_true rfl, Nat.le_of_ble_eq_true rfl⟩ rfl ?_
  refine y_icmp_eq (tgt := 1347) dL_law_741 (by decide) hr ?_
  exact ih _ hI
set_option maxHeartbeats 1000000 in
theorem y_op_18 {l : Launch} {L : Nat} {xs : Nat → Int32} (hL : L ≤ 3072) {i : Nat} (hi : i + 6 ≤ L) {S : St} (hS : Inv S) (ih : ∀ S2, Inv S2 → Y l L xs 1347 [(0, .float 0), (1, .ref 0), (2, .ref 74), (3, .int (nI i))] [] S2) : Y l L xs 746 [(0, .float 0), (1, .ref 0), (2, .ref 74), (3, .int (nI i))] [] S := by
  obtain ⟨z1, z2, h1, h2, hr, hI⟩ := e_most hS (xs (i + 1))
  refine y_aload 1 dL_law_746 rfl ?_
  refine y_aloadS 0 dL_law_747 rfl ?_
  refine y_iload 3 dL_law_748 rfl ?_
  refine y_iconst (v := 1) dL_law_749 rfl ?_
  refine y_iadd dL_law_750 ?_
  refine y_sld (j := i + 1) dL_law_751 (nI_add i 1) (by omega) hL ?_
  refine y_call (as := [.int (xs (i + 1))]) dL_law_752 yl_90 y2_90 mv_X7_most (t_X7_most l h1) kdl_0 ⟨by decide, rfl⟩ rfl rfl (fun _ _ => Nat.le_of_ble_eq_true rfl) (yint [(xs (i + 1))]) (fun x z q => by cases q; exact fun q => by cases q) ⟨Nat.le_of_ble_eq_true rfl, Nat.le_of_ble_eq_true rfl⟩ rfl ?_
  refine y_aload 2 dL_law_755 rfl ?_
  refine y_aloadS 0 dL_law_756 rfl ?_
  refine y_iload 3 dL_law_757 rfl ?_
  refine y_iconst (v := 1) dL_law_758 rfl ?_
  refine y_iadd dL_law_759 ?_
  refine y_sld (j := i + 1) dL_law_760 (nI_add i 1) (by omega) hL ?_
  refine y_call (as := [.int (xs (i + 1))]) dL_law_761 yl_93 y2_93 mv_X8_most_ (t_X8_most_ l h2) kdl_74 ⟨by decide, rfl⟩ rfl rfl (fun _ _ => Nat.le_of_ble_eq_true rfl) (yint [(xs (i + 1))]) (fun x z q => by cases q; exact fun q => by cases q) ⟨Nat.le_of_ble_eq_true rfl, Nat.le_of_ble_eq_true rfl⟩ rfl ?_
  refine y_icmp_eq (tgt := 1347) dL_law_764 (by decide) hr ?_
  exact ih _ hI
set_option maxHeartbeats 1000000 in
theorem y_op_19 {l : Launch} {L : Nat} {xs : Nat → Int32} (hL : L ≤ 3072) {i : Nat} (hi : i + 6 ≤ L) {S : St} (hS : Inv S) (ih : ∀ S2, Inv S2 → Y l L xs 1347 [(0, .float 0), (1, .ref 0), (2, .ref 74), (3, .int (nI i))] [] S2) : Y l L xs 769 [(0, .float 0), (1, .ref 0), (2, .ref 74), (3, .int (nI i))] [] S := by
  obtain ⟨z1, z2, h1, h2, hr, hI⟩ := e_byMinutes hS (xs (i + 1))
  refine y_aload 1 dL_law_769 rfl ?_
  refine y_aloadS 0 dL_law_770 rfl ?_
  refine y_iload 3 dL_law_771 rfl ?_
  refine y_iconst (v := 1) dL_law_772 rfl ?_
  refine y_iadd dL_law_773 ?_
  refine y_sld (j := i + 1) dL_law_774 (nI_add i 1) (by omega) hL ?_
  refine y_call (as := [.int (xs (i + 1))]) dL_law_775 yl_94 y2_94 mv_X7_byMinutes (t_X7_byMinutes l h1) kdl_0 ⟨by decide, rfl⟩ rfl rfl (fun _ _ => Nat.le_of_ble_eq_true rfl) (yint [(xs (i + 1))]) (fun x z q => by cases q; exact fun q => by cases q) ⟨Nat.le_of_ble_eq_true rfl, Nat.le_of_ble_eq_true rfl⟩ rfl ?_
  refine y_aload 2 dL_law_778 rfl ?_
  refine y_aloadS 0 dL_law_779 rfl ?_
  refine y_iload 3 dL_law_780 rfl ?_
  refine y_iconst (v := 1) dL_law_781 rfl ?_
  refine y_iadd dL_law_782 ?_
  refine y_sld (j := i + 1) dL_law_783 (nI_add i 1) (by omega) hL ?_
  refine y_call (as := [.int (xs (i + 1))]) dL_law_784 yl_97 y2_97 mv_X8_byMinutes (t_X8_byMinutes l h2) kdl_74 ⟨by decide, rfl⟩ rfl rfl (fun _ _ => Nat.le_of_ble_eq_true rfl) (yint [(xs (i + 1))]) (fun x z q => by cases q; exact fun q => by cases q) ⟨Nat.le_of_ble_eq_true rfl, Nat.le_of_ble_eq_true rfl⟩ rfl ?_
  refine y_icmp_eq (tgt := 1347) dL_law_787 (by decide) hr ?_
  exact ih _ hI
set_option maxHeartbeats 1000000 in
theorem y_op_20 {l : Launch} {L : Nat} {xs : Nat → Int32} (hL : L ≤ 3072) {i : Nat} (hi : i + 6 ≤ L) {S : St} (hS : Inv S) (ih : ∀ S2, Inv S2 → Y l L xs 1347 [(0, .float 0), (1, .ref 0), (2, .ref 74), (3, .int (nI i))] [] S2) : Y l L xs 792 [(0, .float 0), (1, .ref 0), (2, .ref 74), (3, .int (nI i))] [] S := by
  obtain ⟨z1, z2, h1, h2, hr, hI⟩ := e_fewDrops hS
  refine y_aload 1 dL_law_792 rfl ?_
  refine y_call (as := []) dL_law_793 yl_98 y2_98 mv_X7_fewDrops (t_X7_fewDrops l h1) kdl_0 ⟨by decide, rfl⟩ rfl rfl (fun _ _ => Nat.le_of_ble_eq_true rfl) (yint []) (fun x z q => by cases q; exact fun q => by cases q) ⟨Nat.le_of_ble_eq_true rfl, Nat.le_of_ble_eq_true rfl⟩ rfl ?_
  refine y_aload 2 dL_law_796 rfl ?_
  refine y_call (as := []) dL_law_797 yl_101 y2_101 mv_X8_fewDrops (t_X8_fewDrops l h2) kdl_74 ⟨by decide, rfl⟩ rfl rfl (fun _ _ => Nat.le_of_ble_eq_true rfl) (yint []) (fun x z q => by cases q; exact fun q => by cases q) ⟨Nat.le_of_ble_eq_true rfl, Nat.le_of_ble_eq_true rfl⟩ rfl ?_
  refine y_icmp_eq (tgt := 1347) dL_law_800 (by decide) hr ?_
  exact ih _ hI
set_option maxHeartbeats 1000000 in
theorem y_op_21 {l : Launch} {L : Nat} {xs : Nat → Int32} (hL : L ≤ 3072) {i : Nat} (hi : i + 6 ≤ L) {S : St} (hS : Inv S) (ih : ∀ S2, Inv S2 → Y l L xs 1347 [(0, .float 0), (1, .ref 0), (2, .ref 74), (3, .int (nI i))] [] S2) : Y l L xs 805 [(0, .float 0), (1, .ref 0), (2, .ref 74), (3, .int (nI i))] [] S := by
  obtain ⟨z1, z2, h1, h2, hr, hI⟩ := e_together hS (xs (i + 1)) (xs (i + 2)) (xs (i + 3))
  refine y_aload 1 dL_law_805 rfl ?_
  refine y_aloadS 0 dL_law_806 rfl ?_
  refine y_iload 3 dL_law_807 rfl ?_
  refine y_iconst (v := 1) dL_law_808 rfl ?_
  refine y_iadd dL_law_809 ?_
  refine y_sld (j := i + 1) dL_law_810 (nI_add i 1) (by omega) hL ?_
  refine y_aloadS 0 dL_law_811 rfl ?_
  refine y_iload 3 dL_law_812 rfl ?_
  refine y_iconst (v := 2) dL_law_813 rfl ?_
  refine y_iadd dL_law_814 ?_
  refine y_sld (j := i + 2) dL_law_815 (nI_add i 2) (by omega) hL ?_
  refine y_aloadS 0 dL_law_816 rfl ?_
  refine y_iload 3 dL_law_817 rfl ?_
  refine y_iconst (v := 3) dL_law_818 rfl ?_
  refine y_iadd dL_law_819 ?_
  refine y_sld (j := i + 3) dL_law_820 (nI_add i 3) (by omega) hL ?_
  refine y_call (as := [.int (xs (i + 1)), .int (xs (i + 2)), .int (xs (i + 3))]) dL_law_821 yl_102 y2_102 mv_X7_together (t_X7_together l h1) kdl_0 ⟨by decide, rfl⟩ rfl rfl (fun _ _ => Nat.le_of_ble_eq_true rfl) (yint [(xs (i + 1)), (xs (i + 2)), (xs (i + 3))]) (fun x z q => by cases q; exact fun q => by cases q) ⟨Nat.le_of_ble_eq_true rfl, Nat.le_of_ble_eq_true rfl⟩ rfl ?_
  refine y_aload 2 dL_law_824 rfl ?_
  refine y_aloadS 0 dL_law_825 rfl ?_
  refine y_iload 3 dL_law_826 rfl ?_
  refine y_iconst (v := 1) dL_law_827 rfl ?_
  refine y_iadd dL_law_828 ?_
  refine y_sld (j := i + 1) dL_law_829 (nI_add i 1) (by omega) hL ?_
  refine y_aloadS 0 dL_law_830 rfl ?_
  refine y_iload 3 dL_law_831 rfl ?_
  refine y_iconst (v := 2) dL_law_832 rfl ?_
  refine y_iadd dL_law_833 ?_
  refine y_sld (j := i + 2) dL_law_834 (nI_add i 2) (by omega) hL ?_
  refine y_aloadS 0 dL_law_835 rfl ?_
  refine y_iload 3 dL_law_836 rfl ?_
  refine y_iconst (v := 3) dL_law_837 rfl ?_
  refine y_iadd dL_law_838 ?_
  refine y_sld (j := i + 3) dL_law_839 (nI_add i 3) (by omega) hL ?_
  refine y_call (as := [.int (xs (i + 1)), .int (xs (i + 2)), .int (xs (i + 3))]) dL_law_840 yl_105 y2_105 mv_X8_together (t_X8_together l h2) kdl_74 ⟨by decide, rfl⟩ rfl rfl (fun _ _ => Nat.le_of_ble_eq_true rfl) (yint [(xs (i + 1)), (xs (i + 2)), (xs (i + 3))]) (fun x z q => by cases q; exact fun q => by cases q) ⟨Nat.le_of_ble_eq_true rfl, Nat.le_of_ble_eq_true rfl⟩ rfl ?_
  refine y_icmp_eq (tgt := 1347) dL_law_843 (by decide) hr ?_
  exact ih _ hI
set_option maxHeartbeats 1000000 in
theorem y_op_22 {l : Launch} {L : Nat} {xs : Nat → Int32} (hL : L ≤ 3072) {i : Nat} (hi : i + 6 ≤ L) {S : St} (hS : Inv S) (ih : ∀ S2, Inv S2 → Y l L xs 1347 [(0, .float 0), (1, .ref 0), (2, .ref 74), (3, .int (nI i))] [] S2) : Y l L xs 848 [(0, .float 0), (1, .ref 0), (2, .ref 74), (3, .int (nI i))] [] S := by
  obtain ⟨z1, z2, h1, h2, hr, hI⟩ := e_queue hS (xs (i + 1))
  refine y_aload 1 dL_law_848 rfl ?_
  refine y_aloadS 0 dL_law_849 rfl ?_
  refine y_iload 3 dL_law_850 rfl ?_
  refine y_iconst (v := 1) dL_law_851 rfl ?_
  refine y_iadd dL_law_852 ?_
  refine y_sld (j := i + 1) dL_law_853 (nI_add i 1) (by omega) hL ?_
  refine y_call (as := [.int (xs (i + 1))]) dL_law_854 yl_106 y2_106 mv_X7_queue (t_X7_queue l h1) kdl_0 ⟨by decide, rfl⟩ rfl rfl (fun _ _ => Nat.le_of_ble_eq_true rfl) (yint [(xs (i + 1))]) (fun x z q => by cases q; exact fun q => by cases q) ⟨Nat.le_of_ble_eq_true rfl, Nat.le_of_ble_eq_true rfl⟩ rfl ?_
  refine y_aload 2 dL_law_857 rfl ?_
  refine y_aloadS 0 dL_law_858 rfl ?_
  refine y_iload 3 dL_law_859 rfl ?_
  refine y_iconst (v := 1) dL_law_860 rfl ?_
  refine y_iadd dL_law_861 ?_
  refine y_sld (j := i + 1) dL_law_862 (nI_add i 1) (by omega) hL ?_
  refine y_call (as := [.int (xs (i + 1))]) dL_law_863 yl_109 y2_109 mv_X8_queue (t_X8_queue l h2) kdl_74 ⟨by decide, rfl⟩ rfl rfl (fun _ _ => Nat.le_of_ble_eq_true rfl) (yint [(xs (i + 1))]) (fun x z q => by cases q; exact fun q => by cases q) ⟨Nat.le_of_ble_eq_true rfl, Nat.le_of_ble_eq_true rfl⟩ rfl ?_
  refine y_icmp_eq (tgt := 1347) dL_law_866 (by decide) hr ?_
  exact ih _ hI
set_option maxHeartbeats 1000000 in
theorem y_op_23 {l : Launch} {L : Nat} {xs : Nat → Int32} (hL : L ≤ 3072) {i : Nat} (hi : i + 6 ≤ L) {S : St} (hS : Inv S) (ih : ∀ S2, Inv S2 → Y l L xs 1347 [(0, .float 0), (1, .ref 0), (2, .ref 74), (3, .int (nI i))] [] S2) : Y l L xs 871 [(0, .float 0), (1, .ref 0), (2, .ref 74), (3, .int (nI i))] [] S := by
  obtain ⟨z1, z2, h1, h2, hr, hI⟩ := e_oneMore hS
  refine y_aload 1 dL_law_871 rfl ?_
  refine y_call (as := []) dL_law_872 yl_110 y2_110 mv_X7_oneMore (t_X7_oneMore l h1) kdl_0 ⟨by decide, rfl⟩ rfl rfl (fun _ _ => Nat.le_of_ble_eq_true rfl) (yint []) (fun x z q => by cases q; exact fun q => by cases q) ⟨Nat.le_of_ble_eq_true rfl, Nat.le_of_ble_eq_true rfl⟩ rfl ?_
  refine y_aload 2 dL_law_875 rfl ?_
  refine y_call (as := []) dL_law_876 yl_113 y2_113 mv_X8_oneMore (t_X8_oneMore l h2) kdl_74 ⟨by decide, rfl⟩ rfl rfl (fun _ _ => Nat.le_of_ble_eq_true rfl) (yint []) (fun x z q => by cases q; exact fun q => by cases q) ⟨Nat.le_of_ble_eq_true rfl, Nat.le_of_ble_eq_true rfl⟩ rfl ?_
  refine y_icmp_eq (tgt := 1347) dL_law_879 (by decide) hr ?_
  exact ih _ hI
set_option maxHeartbeats 1000000 in
theorem y_op_24 {l : Launch} {L : Nat} {xs : Nat → Int32} (hL : L ≤ 3072) {i : Nat} (hi : i + 6 ≤ L) {S : St} (hS : Inv S) (ih : ∀ S2, Inv S2 → Y l L xs 1347 [(0, .float 0), (1, .ref 0), (2, .ref 74), (3, .int (nI i))] [] S2) : Y l L xs 884 [(0, .float 0), (1, .ref 0), (2, .ref 74), (3, .int (nI i))] [] S := by
  obtain ⟨z1, z2, h1, h2, hr, hI⟩ := e_bestYear hS
  refine y_aload 1 dL_law_884 rfl ?_
  refine y_call (as := []) dL_law_885 yl_114 y2_114 mv_X7_bestYear (t_X7_bestYear l h1) kdl_0 ⟨by decide, rfl⟩ rfl rfl (fun _ _ => Nat.le_of_ble_eq_true rfl) (yint []) (fun x z q => by cases q; exact fun q => by cases q) ⟨Nat.le_of_ble_eq_true rfl, Nat.le_of_ble_eq_true rfl⟩ rfl ?_
  refine y_aload 2 dL_law_888 rfl ?_
  refine y_call (as := []) dL_law_889 yl_117 y2_117 mv_X8_bestYear (t_X8_bestYear l h2) kdl_74 ⟨by decide, rfl⟩ rfl rfl (fun _ _ => Nat.le_of_ble_eq_true rfl) (yint []) (fun x z q => by cases q; exact fun q => by cases q) ⟨Nat.le_of_ble_eq_true rfl, Nat.le_of_ble_eq_true rfl⟩ rfl ?_
  refine y_icmp_eq (tgt := 1347) dL_law_892 (by decide) hr ?_
  exact ih _ hI
set_option maxHeartbeats 1000000 in
theorem y_op_25 {l : Launch} {L : Nat} {xs : Nat → Int32} (hL : L ≤ 3072) {i : Nat} (hi : i + 6 ≤ L) {S : St} (hS : Inv S) (ih : ∀ S2, Inv S2 → Y l L xs 1347 [(0, .float 0), (1, .ref 0), (2, .ref 74), (3, .int (nI i))] [] S2) : Y l L xs 897 [(0, .float 0), (1, .ref 0), (2, .ref 74), (3, .int (nI i))] [] S := by
  obtain ⟨z1, z2, h1, h2, hr, hI⟩ := e_water hS (xs (i + 1))
  refine y_aload 1 dL_law_897 rfl ?_
  refine y_aloadS 0 dL_law_898 rfl ?_
  refine y_iload 3 dL_law_899 rfl ?_
  refine y_iconst (v := 1) dL_law_900 rfl ?_
  refine y_iadd dL_law_901 ?_
  refine y_sld (j := i + 1) dL_law_902 (nI_add i 1) (by omega) hL ?_
  refine y_call (as := [.int (xs (i + 1))]) dL_law_903 yl_118 y2_118 mv_X7_water (t_X7_water l h1) kdl_0 ⟨by decide, rfl⟩ rfl rfl (fun _ _ => Nat.le_of_ble_eq_true rfl) (yint [(xs (i + 1))]) (fun x z q => by cases q; exact fun q => by cases q) ⟨Nat.le_of_ble_eq_true rfl, Nat.le_of_ble_eq_true rfl⟩ rfl ?_
  refine y_aload 2 dL_law_906 rfl ?_
  refine y_aloadS 0 dL_law_907 rfl ?_
  refine y_iload 3 dL_law_908 rfl ?_
  refine y_iconst (v := 1) dL_law_909 rfl ?_
  refine y_iadd dL_law_910 ?_
  refine y_sld (j := i + 1) dL_law_911 (nI_add i 1) (by omega) hL ?_
  refine y_call (as := [.int (xs (i + 1))]) dL_law_912 yl_121 y2_121 mv_X8_water (t_X8_water l h2) kdl_74 ⟨by decide, rfl⟩ rfl rfl (fun _ _ => Nat.le_of_ble_eq_true rfl) (yint [(xs (i + 1))]) (fun x z q => by cases q; exact fun q => by cases q) ⟨Nat.le_of_ble_eq_true rfl, Nat.le_of_ble_eq_true rfl⟩ rfl ?_
  refine y_icmp_eq (tgt := 1347) dL_law_915 (by decide) hr ?_
  exact ih _ hI
set_option maxHeartbeats 1000000 in
theorem y_op_26 {l : Launch} {L : Nat} {xs : Nat → Int32} (hL : L ≤ 3072) {i : Nat} (hi : i + 6 ≤ L) {S : St} (hS : Inv S) (ih : ∀ S2, Inv S2 → Y l L xs 1347 [(0, .float 0), (1, .ref 0), (2, .ref 74), (3, .int (nI i))] [] S2) : Y l L xs 920 [(0, .float 0), (1, .ref 0), (2, .ref 74), (3, .int (nI i))] [] S := by
  obtain ⟨z1, z2, h1, h2, hr, hI⟩ := e_bestWash hS
  refine y_aload 1 dL_law_920 rfl ?_
  refine y_call (as := []) dL_law_921 yl_122 y2_122 mv_X7_bestWash (t_X7_bestWash l h1) kdl_0 ⟨by decide, rfl⟩ rfl rfl (fun _ _ => Nat.le_of_ble_eq_true rfl) (yint []) (fun x z q => by cases q; exact fun q => by cases q) ⟨Nat.le_of_ble_eq_true rfl, Nat.le_of_ble_eq_true rfl⟩ rfl ?_
  refine y_aload 2 dL_law_924 rfl ?_
  refine y_call (as := []) dL_law_925 yl_125 y2_125 mv_X8_bestWash (t_X8_bestWash l h2) kdl_74 ⟨by decide, rfl⟩ rfl rfl (fun _ _ => Nat.le_of_ble_eq_true rfl) (yint []) (fun x z q => by cases q; exact fun q => by cases q) ⟨Nat.le_of_ble_eq_true rfl, Nat.le_of_ble_eq_true rfl⟩ rfl ?_
  refine y_icmp_eq (tgt := 1347) dL_law_928 (by decide) hr ?_
  exact ih _ hI
set_option maxHeartbeats 1000000 in
theorem y_op_27 {l : Launch} {L : Nat} {xs : Nat → Int32} (hL : L ≤ 3072) {i : Nat} (hi : i + 6 ≤ L) {S : St} (hS : Inv S) (ih : ∀ S2, Inv S2 → Y l L xs 1347 [(0, .float 0), (1, .ref 0), (2, .ref 74), (3, .int (nI i))] [] S2) : Y l L xs 933 [(0, .float 0), (1, .ref 0), (2, .ref 74), (3, .int (nI i))] [] S := by
  obtain ⟨z1, z2, h1, h2, hr, hI⟩ := e_sour hS
  refine y_aload 1 dL_law_933 rfl ?_
  refine y_call (as := []) dL_law_934 yl_126 y2_126 mv_X7_sour (t_X7_sour l h1) kdl_0 ⟨by decide, rfl⟩ rfl rfl (fun _ _ => Nat.le_of_ble_eq_true rfl) (yint []) (fun x z q => by cases q; exact fun q => by cases q) ⟨Nat.le_of_ble_eq_true rfl, Nat.le_of_ble_eq_true rfl⟩ rfl ?_
  refine y_aload 2 dL_law_937 rfl ?_
  refine y_call (as := []) dL_law_938 yl_129 y2_129 mv_X8_sour (t_X8_sour l h2) kdl_74 ⟨by decide, rfl⟩ rfl rfl (fun _ _ => Nat.le_of_ble_eq_true rfl) (yint []) (fun x z q => by cases q; exact fun q => by cases q) ⟨Nat.le_of_ble_eq_true rfl, Nat.le_of_ble_eq_true rfl⟩ rfl ?_
  refine y_icmp_eq (tgt := 1347) dL_law_941 (by decide) hr ?_
  exact ih _ hI
set_option maxHeartbeats 1000000 in
theorem y_op_28 {l : Launch} {L : Nat} {xs : Nat → Int32} (hL : L ≤ 3072) {i : Nat} (hi : i + 6 ≤ L) {S : St} (hS : Inv S) (ih : ∀ S2, Inv S2 → Y l L xs 1347 [(0, .float 0), (1, .ref 0), (2, .ref 74), (3, .int (nI i))] [] S2) : Y l L xs 946 [(0, .float 0), (1, .ref 0), (2, .ref 74), (3, .int (nI i))] [] S := by
  obtain ⟨z1, z2, h1, h2, hr, hI⟩ := e_regret hS (xs (i + 1))
  refine y_aload 1 dL_law_946 rfl ?_
  refine y_aloadS 0 dL_law_947 rfl ?_
  refine y_iload 3 dL_law_948 rfl ?_
  refine y_iconst (v := 1) dL_law_949 rfl ?_
  refine y_iadd dL_law_950 ?_
  refine y_sld (j := i + 1) dL_law_951 (nI_add i 1) (by omega) hL ?_
  refine y_call (as := [.int (xs (i + 1))]) dL_law_952 yl_130 y2_130 mv_X7_regret (t_X7_regret l h1) kdl_0 ⟨by decide, rfl⟩ rfl rfl (fun _ _ => Nat.le_of_ble_eq_true rfl) (yint [(xs (i + 1))]) (fun x z q => by cases q; exact fun q => by cases q) ⟨Nat.le_of_ble_eq_true rfl, Nat.le_of_ble_eq_true rfl⟩ rfl ?_
  refine y_aload 2 dL_law_955 rfl ?_
  refine y_aloadS 0 dL_law_956 rfl ?_
  refine y_iload 3 dL_law_957 rfl ?_
  refine y_iconst (v := 1) dL_law_958 rfl ?_
  refine y_iadd dL_law_959 ?_
  refine y_sld (j := i + 1) dL_law_960 (nI_add i 1) (by omega) hL ?_
  refine y_call (as := [.int (xs (i + 1))]) dL_law_961 yl_133 y2_133 mv_X8_regret (t_X8_regret l h2) kdl_74 ⟨by decide, rfl⟩ rfl rfl (fun _ _ => Nat.le_of_ble_eq_true rfl) (yint [(xs (i + 1))]) (fun x z q => by cases q; exact fun q => by cases q) ⟨Nat.le_of_ble_eq_true rfl, Nat.le_of_ble_eq_true rfl⟩ rfl ?_
  refine y_icmp_eq (tgt := 1347) dL_law_964 (by decide) hr ?_
  exact ih _ hI
set_option maxHeartbeats 1000000 in
theorem y_op_29 {l : Launch} {L : Nat} {xs : Nat → Int32} (hL : L ≤ 3072) {i : Nat} (hi : i + 6 ≤ L) {S : St} (hS : Inv S) (ih : ∀ S2, Inv S2 → Y l L xs 1347 [(0, .float 0), (1, .ref 0), (2, .ref 74), (3, .int (nI i))] [] S2) : Y l L xs 969 [(0, .float 0), (1, .ref 0), (2, .ref 74), (3, .int (nI i))] [] S := by
  obtain ⟨z1, z2, h1, h2, hr, hI⟩ := e_two hS (xs (i + 1)) (xs (i + 2))
  refine y_aload 1 dL_law_969 rfl ?_
  refine y_aloadS 0 dL_law_970 rfl ?_
  refine y_iload 3 dL_law_971 rfl ?_
  refine y_iconst (v := 1) dL_law_972 rfl ?_
  refine y_iadd dL_law_973 ?_
  refine y_sld (j := i + 1) dL_law_974 (nI_add i 1) (by omega) hL ?_
  refine y_aloadS 0 dL_law_975 rfl ?_
  refine y_iload 3 dL_law_976 rfl ?_
  refine y_iconst (v := 2) dL_law_977 rfl ?_
  refine y_iadd dL_law_978 ?_
  refine y_sld (j := i + 2) dL_law_979 (nI_add i 2) (by omega) hL ?_
  refine y_call (as := [.int (xs (i + 1)), .int (xs (i + 2))]) dL_law_980 yl_134 y2_134 mv_X7_two (t_X7_two l h1) kdl_0 ⟨by decide, rfl⟩ rfl rfl (fun _ _ => Nat.le_of_ble_eq_true rfl) (yint [(xs (i + 1)), (xs (i + 2))]) (fun x z q => by cases q; exact fun q => by cases q) ⟨Nat.le_of_ble_eq_true rfl, Nat.le_of_ble_eq_true rfl⟩ rfl ?_
  refine y_aload 2 dL_law_983 rfl ?_
  refine y_aloadS 0 dL_law_984 rfl ?_
  refine y_iload 3 dL_law_985 rfl ?_
  refine y_iconst (v := 1) dL_law_986 rfl ?_
  refine y_iadd dL_law_987 ?_
  refine y_sld (j := i + 1) dL_law_988 (nI_add i 1) (by omega) hL ?_
  refine y_aloadS 0 dL_law_989 rfl ?_
  refine y_iload 3 dL_law_990 rfl ?_
  refine y_iconst (v := 2) dL_law_991 rfl ?_
  refine y_iadd dL_law_992 ?_
  refine y_sld (j := i + 2) dL_law_993 (nI_add i 2) (by omega) hL ?_
  refine y_call (as := [.int (xs (i + 1)), .int (xs (i + 2))]) dL_law_994 yl_137 y2_137 mv_X8_two (t_X8_two l h2) kdl_74 ⟨by decide, rfl⟩ rfl rfl (fun _ _ => Nat.le_of_ble_eq_true rfl) (yint [(xs (i + 1)), (xs (i + 2))]) (fun x z q => by cases q; exact fun q => by cases q) ⟨Nat.le_of_ble_eq_true rfl, Nat.le_of_ble_eq_true rfl⟩ rfl ?_
  refine y_icmp_eq (tgt := 1347) dL_law_997 (by decide) hr ?_
  exact ih _ hI
set_option maxHeartbeats 1000000 in
theorem y_op_30 {l : Launch} {L : Nat} {xs : Nat → Int32} (hL : L ≤ 3072) {i : Nat} (hi : i + 6 ≤ L) {S : St} (hS : Inv S) (ih : ∀ S2, Inv S2 → Y l L xs 1347 [(0, .float 0), (1, .ref 0), (2, .ref 74), (3, .int (nI i))] [] S2) : Y l L xs 1002 [(0, .float 0), (1, .ref 0), (2, .ref 74), (3, .int (nI i))] [] S := by
  obtain ⟨z1, z2, h1, h2, hr, hI⟩ := e_slip hS (xs (i + 1)) (xs (i + 2)) (xs (i + 3)) (xs (i + 4)) (xs (i + 5))
  refine y_aload 1 dL_law_1002 rfl ?_
  refine y_aloadS 0 dL_law_1003 rfl ?_
  refine y_iload 3 dL_law_1004 rfl ?_
  refine y_iconst (v := 1) dL_law_1005 rfl ?_
  refine y_iadd dL_law_1006 ?_
  refine y_sld (j := i + 1) dL_law_1007 (nI_add i 1) (by omega) hL ?_
  refine y_aloadS 0 dL_law_1008 rfl ?_
  refine y_iload 3 dL_law_1009 rfl ?_
  refine y_iconst (v := 2) dL_law_1010 rfl ?_
  refine y_iadd dL_law_1011 ?_
  refine y_sld (j := i + 2) dL_law_1012 (nI_add i 2) (by omega) hL ?_
  refine y_aloadS 0 dL_law_1013 rfl ?_
  refine y_iload 3 dL_law_1014 rfl ?_
  refine y_iconst (v := 3) dL_law_1015 rfl ?_
  refine y_iadd dL_law_1016 ?_
  refine y_sld (j := i + 3) dL_law_1017 (nI_add i 3) (by omega) hL ?_
  refine y_aloadS 0 dL_law_1018 rfl ?_
  refine y_iload 3 dL_law_1019 rfl ?_
  refine y_iconst (v := 4) dL_law_1020 rfl ?_
  refine y_iadd dL_law_1021 ?_
  refine y_sld (j := i + 4) dL_law_1022 (nI_add i 4) (by omega) hL ?_
  refine y_aloadS 0 dL_law_1023 rfl ?_
  refine y_iload 3 dL_law_1024 rfl ?_
  refine y_iconst (v := 5) dL_law_1025 rfl ?_
  refine y_iadd dL_law_1026 ?_
  refine y_sld (j := i + 5) dL_law_1027 (nI_add i 5) (by omega) hL ?_
  refine y_call (as := [.int (xs (i + 1)), .int (xs (i + 2)), .int (xs (i + 3)), .int (xs (i + 4)), .int (xs (i + 5))]) dL_law_1028 yl_138 y2_138 mv_X7_slip (t_X7_slip l h1) kdl_0 ⟨by decide, rfl⟩ rfl rfl (fun _ _ => Nat.le_of_ble_eq_true rfl) (yint [(xs (i + 1)), (xs (i + 2)), (xs (i + 3)), (xs (i + 4)), (xs (i + 5))]) (fun x z q => by cases q; exact fun q => by cases q) ⟨Nat.le_of_ble_eq_true rfl, Nat.le_of_ble_eq_true rfl⟩ rfl ?_
  refine y_aload 2 dL_law_1031 rfl ?_
  refine y_aloadS 0 dL_law_1032 rfl ?_
  refine y_iload 3 dL_law_1033 rfl ?_
  refine y_iconst (v := 1) dL_law_1034 rfl ?_
  refine y_iadd dL_law_1035 ?_
  refine y_sld (j := i + 1) dL_law_1036 (nI_add i 1) (by omega) hL ?_
  refine y_aloadS 0 dL_law_1037 rfl ?_
  refine y_iload 3 dL_law_1038 rfl ?_
  refine y_iconst (v := 2) dL_law_1039 rfl ?_
  refine y_iadd dL_law_1040 ?_
  refine y_sld (j := i + 2) dL_law_1041 (nI_add i 2) (by omega) hL ?_
  refine y_aloadS 0 dL_law_1042 rfl ?_
  refine y_iload 3 dL_law_1043 rfl ?_
  refine y_iconst (v := 3) dL_law_1044 rfl ?_
  refine y_iadd dL_law_1045 ?_
  refine y_sld (j := i + 3) dL_law_1046 (nI_add i 3) (by omega) hL ?_
  refine y_aloadS 0 dL_law_1047 rfl ?_
  refine y_iload 3 dL_law_1048 rfl ?_
  refine y_iconst (v := 4) dL_law_1049 rfl ?_
  refine y_iadd dL_law_1050 ?_
  refine y_sld (j := i + 4) dL_law_1051 (nI_add i 4) (by omega) hL ?_
  refine y_aloadS 0 dL_law_1052 rfl ?_
  refine y_iload 3 dL_law_1053 rfl ?_
  refine y_iconst (v := 5) dL_law_1054 rfl ?_
  refine y_iadd dL_law_1055 ?_
  refine y_sld (j := i + 5) dL_law_1056 (nI_add i 5) (by omega) hL ?_
  refine y_call (as := [.int (xs (i + 1)), .int (xs (i + 2)), .int (xs (i + 3)), .int (xs (i + 4)), .int (xs (i + 5))]) dL_law_1057 yl_142 y2_142 mv_X8_slip (t_X8_slip l h2) kdl_74 ⟨by decide, rfl⟩ rfl rfl (fun _ _ => Nat.le_of_ble_eq_true rfl) (yint [(xs (i + 1)), (xs (i + 2)), (xs (i + 3)), (xs (i + 4)), (xs (i + 5))]) (fun x z q => by cases q; exact fun q => by cases q) ⟨Nat.le_of_ble_eq_true rfl, Nat.le_of_ble_eq_true rfl⟩ rfl ?_
  refine y_lcmp dL_law_1060 ?_
  refine y_if_eq (tgt := 1347) dL_law_1061 (by decide) (by rw [hr]; exact lgc _) ?_
  exact ih _ hI
set_option maxHeartbeats 1000000 in
theorem y_op_31 {l : Launch} {L : Nat} {xs : Nat → Int32} (hL : L ≤ 3072) {i : Nat} (hi : i + 6 ≤ L) {S : St} (hS : Inv S) (ih : ∀ S2, Inv S2 → Y l L xs 1347 [(0, .float 0), (1, .ref 0), (2, .ref 74), (3, .int (nI i))] [] S2) : Y l L xs 1066 [(0, .float 0), (1, .ref 0), (2, .ref 74), (3, .int (nI i))] [] S := by
  obtain ⟨z1, z2, h1, h2, hr, hI⟩ := e_mean hS (xs (i + 1)) (xs (i + 2)) (xs (i + 3)) (xs (i + 4))
  refine y_aload 1 dL_law_1066 rfl ?_
  refine y_aloadS 0 dL_law_1067 rfl ?_
  refine y_iload 3 dL_law_1068 rfl ?_
  refine y_iconst (v := 1) dL_law_1069 rfl ?_
  refine y_iadd dL_law_1070 ?_
  refine y_sld (j := i + 1) dL_law_1071 (nI_add i 1) (by omega) hL ?_
  refine y_aloadS 0 dL_law_1072 rfl ?_
  refine y_iload 3 dL_law_1073 rfl ?_
  refine y_iconst (v := 2) dL_law_1074 rfl ?_
  refine y_iadd dL_law_1075 ?_
  refine y_sld (j := i + 2) dL_law_1076 (nI_add i 2) (by omega) hL ?_
  refine y_aloadS 0 dL_law_1077 rfl ?_
  refine y_iload 3 dL_law_1078 rfl ?_
  refine y_iconst (v := 3) dL_law_1079 rfl ?_
  refine y_iadd dL_law_1080 ?_
  refine y_sld (j := i + 3) dL_law_1081 (nI_add i 3) (by omega) hL ?_
  refine y_aloadS 0 dL_law_1082 rfl ?_
  refine y_iload 3 dL_law_1083 rfl ?_
  refine y_iconst (v := 4) dL_law_1084 rfl ?_
  refine y_iadd dL_law_1085 ?_
  refine y_sld (j := i + 4) dL_law_1086 (nI_add i 4) (by omega) hL ?_
  refine y_call (as := [.int (xs (i + 1)), .int (xs (i + 2)), .int (xs (i + 3)), .int (xs (i + 4))]) dL_law_1087 yl_143 y2_143 mv_X7_mean (t_X7_mean l h1) kdl_0 ⟨by decide, rfl⟩ rfl rfl (fun _ _ => Nat.le_of_ble_eq_true rfl) (yint [(xs (i + 1)), (xs (i + 2)), (xs (i + 3)), (xs (i + 4))]) (fun x z q => by cases q; exact fun q => by cases q) ⟨Nat.le_of_ble_eq_true rfl, Nat.le_of_ble_eq_true rfl⟩ rfl ?_
  refine y_aload 2 dL_law_1090 rfl ?_
  refine y_aloadS 0 dL_law_1091 rfl ?_
  refine y_iload 3 dL_law_1092 rfl ?_
  refine y_iconst (v := 1) dL_law_1093 rfl ?_
  refine y_iadd dL_law_1094 ?_
  refine y_sld (j := i + 1) dL_law_1095 (nI_add i 1) (by omega) hL ?_
  refine y_aloadS 0 dL_law_1096 rfl ?_
  refine y_iload 3 dL_law_1097 rfl ?_
  refine y_iconst (v := 2) dL_law_1098 rfl ?_
  refine y_iadd dL_law_1099 ?_
  refine y_sld (j := i + 2) dL_law_1100 (nI_add i 2) (by omega) hL ?_
  refine y_aloadS 0 dL_law_1101 rfl ?_
  refine y_iload 3 dL_law_1102 rfl ?_
  refine y_iconst (v := 3) dL_law_1103 rfl ?_
  refine y_iadd dL_law_1104 ?_
  refine y_sld (j := i + 3) dL_law_1105 (nI_add i 3) (by omega) hL ?_
  refine y_aloadS 0 dL_law_1106 rfl ?_
  refine y_iload 3 dL_law_1107 rfl ?_
  refine y_iconst (v := 4) dL_law_1108 rfl ?_
  refine y_iadd dL_law_1109 ?_
  refine y_sld (j := i + 4) dL_law_1110 (nI_add i 4) (by omega) hL ?_
  refine y_call (as := [.int (xs (i + 1)), .int (xs (i + 2)), .int (xs (i + 3)), .int (xs (i + 4))]) dL_law_1111 yl_147 y2_147 mv_X8_mean (t_X8_mean l h2) kdl_74 ⟨by decide, rfl⟩ rfl rfl (fun _ _ => Nat.le_of_ble_eq_true rfl) (yint [(xs (i + 1)), (xs (i + 2)), (xs (i + 3)), (xs (i + 4))]) (fun x z q => by cases q; exact fun q => by cases q) ⟨Nat.le_of_ble_eq_true rfl, Nat.le_of_ble_eq_true rfl⟩ rfl ?_
  refine y_lcmp dL_law_1114 ?_
  refine y_if_eq (tgt := 1347) dL_law_1115 (by decide) (by rw [hr]; exact lgc _) ?_
  exact ih _ hI
set_option maxHeartbeats 1000000 in
theorem y_op_32 {l : Launch} {L : Nat} {xs : Nat → Int32} (hL : L ≤ 3072) {i : Nat} (hi : i + 6 ≤ L) {S : St} (hS : Inv S) (ih : ∀ S2, Inv S2 → Y l L xs 1347 [(0, .float 0), (1, .ref 0), (2, .ref 74), (3, .int (nI i))] [] S2) : Y l L xs 1120 [(0, .float 0), (1, .ref 0), (2, .ref 74), (3, .int (nI i))] [] S := by
  obtain ⟨z1, z2, h1, h2, hr, hI⟩ := e_whatWas hS (xs (i + 1)) (xs (i + 2))
  refine y_aload 1 dL_law_1120 rfl ?_
  refine y_aloadS 0 dL_law_1121 rfl ?_
  refine y_iload 3 dL_law_1122 rfl ?_
  refine y_iconst (v := 1) dL_law_1123 rfl ?_
  refine y_iadd dL_law_1124 ?_
  refine y_sld (j := i + 1) dL_law_1125 (nI_add i 1) (by omega) hL ?_
  refine y_aloadS 0 dL_law_1126 rfl ?_
  refine y_iload 3 dL_law_1127 rfl ?_
  refine y_iconst (v := 2) dL_law_1128 rfl ?_
  refine y_iadd dL_law_1129 ?_
  refine y_sld (j := i + 2) dL_law_1130 (nI_add i 2) (by omega) hL ?_
  refine y_call (as := [.int (xs (i + 1)), .int (xs (i + 2))]) dL_law_1131 yl_148 y2_148 mv_X7_whatWas (t_X7_whatWas l h1) kdl_0 ⟨by decide, rfl⟩ rfl rfl (fun _ _ => Nat.le_of_ble_eq_true rfl) (yint [(xs (i + 1)), (xs (i + 2))]) (fun x z q => by cases q; exact fun q => by cases q) ⟨Nat.le_of_ble_eq_true rfl, Nat.le_of_ble_eq_true rfl⟩ rfl ?_
  refine y_aload 2 dL_law_1134 rfl ?_
  refine y_aloadS 0 dL_law_1135 rfl ?_
  refine y_iload 3 dL_law_1136 rfl ?_
  refine y_iconst (v := 1) dL_law_1137 rfl ?_
  refine y_iadd dL_law_1138 ?_
  refine y_sld (j := i + 1) dL_law_1139 (nI_add i 1) (by omega) hL ?_
  refine y_aloadS 0 dL_law_1140 rfl ?_
  refine y_iload 3 dL_law_1141 rfl ?_
  refine y_iconst (v := 2) dL_law_1142 rfl ?_
  refine y_iadd dL_law_1143 ?_
  refine y_sld (j := i + 2) dL_law_1144 (nI_add i 2) (by omega) hL ?_
  refine y_call (as := [.int (xs (i + 1)), .int (xs (i + 2))]) dL_law_1145 yl_151 y2_151 mv_X8_whatWas (t_X8_whatWas l h2) kdl_74 ⟨by decide, rfl⟩ rfl rfl (fun _ _ => Nat.le_of_ble_eq_true rfl) (yint [(xs (i + 1)), (xs (i + 2))]) (fun x z q => by cases q; exact fun q => by cases q) ⟨Nat.le_of_ble_eq_true rfl, Nat.le_of_ble_eq_true rfl⟩ rfl ?_
  refine y_icmp_eq (tgt := 1347) dL_law_1148 (by decide) hr ?_
  exact ih _ hI
set_option maxHeartbeats 1000000 in
theorem y_op_33 {l : Launch} {L : Nat} {xs : Nat → Int32} (hL : L ≤ 3072) {i : Nat} (hi : i + 6 ≤ L) {S : St} (hS : Inv S) (ih : ∀ S2, Inv S2 → Y l L xs 1347 [(0, .float 0), (1, .ref 0), (2, .ref 74), (3, .int (nI i))] [] S2) : Y l L xs 1153 [(0, .float 0), (1, .ref 0), (2, .ref 74), (3, .int (nI i))] [] S := by
  obtain ⟨z1, z2, h1, h2, hr, hI⟩ := e_mended hS (xs (i + 1)) (xs (i + 2)) (xs (i + 3))
  refine y_aload 1 dL_law_1153 rfl ?_
  refine y_aloadS 0 dL_law_1154 rfl ?_
  refine y_iload 3 dL_law_1155 rfl ?_
  refine y_iconst (v := 1) dL_law_1156 rfl ?_
  refine y_iadd dL_law_1157 ?_
  refine y_sld (j := i + 1) dL_law_1158 (nI_add i 1) (by omega) hL ?_
  refine y_aloadS 0 dL_law_1159 rfl ?_
  refine y_iload 3 dL_law_1160 rfl ?_
  refine y_iconst (v := 2) dL_law_1161 rfl ?_
  refine y_iadd dL_law_1162 ?_
  refine y_sld (j := i + 2) dL_law_1163 (nI_add i 2) (by omega) hL ?_
  refine y_aloadS 0 dL_law_1164 rfl ?_
  refine y_iload 3 dL_law_1165 rfl ?_
  refine y_iconst (v := 3) dL_law_1166 rfl ?_
  refine y_iadd dL_law_1167 ?_
  refine y_sld (j := i + 3) dL_law_1168 (nI_add i 3) (by omega) hL ?_
  refine y_call (as := [.int (xs (i + 1)), .int (xs (i + 2)), .int (xs (i + 3))]) dL_law_1169 yl_152 y2_152 mv_X7_mended (t_X7_mended l h1) kdl_0 ⟨by decide, rfl⟩ rfl rfl (fun _ _ => Nat.le_of_ble_eq_true rfl) (yint [(xs (i + 1)), (xs (i + 2)), (xs (i + 3))]) (fun x z q => by cases q; exact fun q => by cases q) ⟨Nat.le_of_ble_eq_true rfl, Nat.le_of_ble_eq_true rfl⟩ rfl ?_
  refine y_aload 2 dL_law_1172 rfl ?_
  refine y_aloadS 0 dL_law_1173 rfl ?_
  refine y_iload 3 dL_law_1174 rfl ?_
  refine y_iconst (v := 1) dL_law_1175 rfl ?_
  refine y_iadd dL_law_1176 ?_
  refine y_sld (j := i + 1) dL_law_1177 (nI_add i 1) (by omega) hL ?_
  refine y_aloadS 0 dL_law_1178 rfl ?_
  refine y_iload 3 dL_law_1179 rfl ?_
  refine y_iconst (v := 2) dL_law_1180 rfl ?_
  refine y_iadd dL_law_1181 ?_
  refine y_sld (j := i + 2) dL_law_1182 (nI_add i 2) (by omega) hL ?_
  refine y_aloadS 0 dL_law_1183 rfl ?_
  refine y_iload 3 dL_law_1184 rfl ?_
  refine y_iconst (v := 3) dL_law_1185 rfl ?_
  refine y_iadd dL_law_1186 ?_
  refine y_sld (j := i + 3) dL_law_1187 (nI_add i 3) (by omega) hL ?_
  refine y_call (as := [.int (xs (i + 1)), .int (xs (i + 2)), .int (xs (i + 3))]) dL_law_1188 yl_155 y2_155 mv_X8_mended (t_X8_mended l h2) kdl_74 ⟨by decide, rfl⟩ rfl rfl (fun _ _ => Nat.le_of_ble_eq_true rfl) (yint [(xs (i + 1)), (xs (i + 2)), (xs (i + 3))]) (fun x z q => by cases q; exact fun q => by cases q) ⟨Nat.le_of_ble_eq_true rfl, Nat.le_of_ble_eq_true rfl⟩ rfl ?_
  refine y_icmp_eq (tgt := 1347) dL_law_1191 (by decide) hr ?_
  exact ih _ hI
set_option maxHeartbeats 1000000 in
theorem y_op_34 {l : Launch} {L : Nat} {xs : Nat → Int32} (hL : L ≤ 3072) {i : Nat} (hi : i + 6 ≤ L) {S : St} (hS : Inv S) (ih : ∀ S2, Inv S2 → Y l L xs 1347 [(0, .float 0), (1, .ref 0), (2, .ref 74), (3, .int (nI i))] [] S2) : Y l L xs 1196 [(0, .float 0), (1, .ref 0), (2, .ref 74), (3, .int (nI i))] [] S := by
  obtain ⟨z1, z2, h1, h2, hr, hI⟩ := e_row hS (xs (i + 1))
  refine y_aload 1 dL_law_1196 rfl ?_
  refine y_aloadS 0 dL_law_1197 rfl ?_
  refine y_iload 3 dL_law_1198 rfl ?_
  refine y_iconst (v := 1) dL_law_1199 rfl ?_
  refine y_iadd dL_law_1200 ?_
  refine y_sld (j := i + 1) dL_law_1201 (nI_add i 1) (by omega) hL ?_
  refine y_call (as := [.int (xs (i + 1))]) dL_law_1202 yl_156 y2_156 mv_X7_row (t_X7_row l h1) kdl_0 ⟨by decide, rfl⟩ rfl rfl (fun _ _ => Nat.le_of_ble_eq_true rfl) (yint [(xs (i + 1))]) (fun x z q => by cases q; exact fun q => by cases q) ⟨Nat.le_of_ble_eq_true rfl, Nat.le_of_ble_eq_true rfl⟩ rfl ?_
  refine y_aload 2 dL_law_1205 rfl ?_
  refine y_aloadS 0 dL_law_1206 rfl ?_
  refine y_iload 3 dL_law_1207 rfl ?_
  refine y_iconst (v := 1) dL_law_1208 rfl ?_
  refine y_iadd dL_law_1209 ?_
  refine y_sld (j := i + 1) dL_law_1210 (nI_add i 1) (by omega) hL ?_
  refine y_call (as := [.int (xs (i + 1))]) dL_law_1211 yl_159 y2_159 mv_X8_row (t_X8_row l h2) kdl_74 ⟨by decide, rfl⟩ rfl rfl (fun _ _ => Nat.le_of_ble_eq_true rfl) (yint [(xs (i + 1))]) (fun x z q => by cases q; exact fun q => by cases q) ⟨Nat.le_of_ble_eq_true rfl, Nat.le_of_ble_eq_true rfl⟩ rfl ?_
  refine y_icmp_eq (tgt := 1347) dL_law_1214 (by decide) hr ?_
  exact ih _ hI
set_option maxHeartbeats 1000000 in
theorem y_op_35 {l : Launch} {L : Nat} {xs : Nat → Int32} (hL : L ≤ 3072) {i : Nat} (hi : i + 6 ≤ L) {S : St} (hS : Inv S) (ih : ∀ S2, Inv S2 → Y l L xs 1347 [(0, .float 0), (1, .ref 0), (2, .ref 74), (3, .int (nI i))] [] S2) : Y l L xs 1219 [(0, .float 0), (1, .ref 0), (2, .ref 74), (3, .int (nI i))] [] S := by
  obtain ⟨z1, z2, h1, h2, hr, hI⟩ := e_judge hS (xs (i + 1))
  refine y_aload 1 dL_law_1219 rfl ?_
  refine y_aloadS 0 dL_law_1220 rfl ?_
  refine y_iload 3 dL_law_1221 rfl ?_
  refine y_iconst (v := 1) dL_law_1222 rfl ?_
  refine y_iadd dL_law_1223 ?_
  refine y_sld (j := i + 1) dL_law_1224 (nI_add i 1) (by omega) hL ?_
  refine y_call (as := [.int (xs (i + 1))]) dL_law_1225 yl_160 y2_160 mv_X7_judge (t_X7_judge l h1) kdl_0 ⟨by decide, rfl⟩ rfl rfl (fun _ _ => Nat.le_of_ble_eq_true rfl) (yint [(xs (i + 1))]) (fun x z q => by cases q; exact fun q => by cases q) ⟨Nat.le_of_ble_eq_true rfl, Nat.le_of_ble_eq_true rfl⟩ rfl ?_
  refine y_aload 2 dL_law_1228 rfl ?_
  refine y_aloadS 0 dL_law_1229 rfl ?_
  refine y_iload 3 dL_law_1230 rfl ?_
  refine y_iconst (v := 1) dL_law_1231 rfl ?_
  refine y_iadd dL_law_1232 ?_
  refine y_sld (j := i + 1) dL_law_1233 (nI_add i 1) (by omega) hL ?_
  refine y_call (as := [.int (xs (i + 1))]) dL_law_1234 yl_163 y2_163 mv_X8_judge (t_X8_judge l h2) kdl_74 ⟨by decide, rfl⟩ rfl rfl (fun _ _ => Nat.le_of_ble_eq_true rfl) (yint [(xs (i + 1))]) (fun x z q => by cases q; exact fun q => by cases q) ⟨Nat.le_of_ble_eq_true rfl, Nat.le_of_ble_eq_true rfl⟩ rfl ?_
  refine y_icmp_eq (tgt := 1347) dL_law_1237 (by decide) hr ?_
  exact ih _ hI
set_option maxHeartbeats 1000000 in
theorem y_op_36 {l : Launch} {L : Nat} {xs : Nat → Int32} (hL : L ≤ 3072) {i : Nat} (hi : i + 6 ≤ L) {S : St} (hS : Inv S) (ih : ∀ S2, Inv S2 → Y l L xs 1347 [(0, .float 0), (1, .ref 0), (2, .ref 74), (3, .int (nI i))] [] S2) : Y l L xs 1242 [(0, .float 0), (1, .ref 0), (2, .ref 74), (3, .int (nI i))] [] S := by
  obtain ⟨z1, z2, h1, h2, hr, hI⟩ := e_clear hS
  refine y_aload 1 dL_law_1242 rfl ?_
  refine y_call (as := []) dL_law_1243 yl_164 y2_164 mv_X7_clear (t_X7_clear l h1) kdl_0 ⟨by decide, rfl⟩ rfl rfl (fun _ _ => Nat.le_of_ble_eq_true rfl) (yint []) (fun x z q => by cases q; exact fun q => by cases q) ⟨Nat.le_of_ble_eq_true rfl, Nat.le_of_ble_eq_true rfl⟩ rfl ?_
  refine y_aload 2 dL_law_1246 rfl ?_
  refine y_call (as := []) dL_law_1247 yl_167 y2_167 mv_X8_clear (t_X8_clear l h2) kdl_74 ⟨by decide, rfl⟩ rfl rfl (fun _ _ => Nat.le_of_ble_eq_true rfl) (yint []) (fun x z q => by cases q; exact fun q => by cases q) ⟨Nat.le_of_ble_eq_true rfl, Nat.le_of_ble_eq_true rfl⟩ rfl ?_
  refine y_icmp_eq (tgt := 1347) dL_law_1250 (by decide) hr ?_
  exact ih _ hI
set_option maxHeartbeats 1000000 in
theorem y_op_37 {l : Launch} {L : Nat} {xs : Nat → Int32} (hL : L ≤ 3072) {i : Nat} (hi : i + 6 ≤ L) {S : St} (hS : Inv S) (ih : ∀ S2, Inv S2 → Y l L xs 1347 [(0, .float 0), (1, .ref 0), (2, .ref 74), (3, .int (nI i))] [] S2) : Y l L xs 1255 [(0, .float 0), (1, .ref 0), (2, .ref 74), (3, .int (nI i))] [] S := by
  obtain ⟨z1, z2, h1, h2, hr, hI⟩ := e_lots hS (xs (i + 1)) (xs (i + 2)) (xs (i + 3))
  refine y_aload 1 dL_law_1255 rfl ?_
  refine y_aloadS 0 dL_law_1256 rfl ?_
  refine y_iload 3 dL_law_1257 rfl ?_
  refine y_iconst (v := 1) dL_law_1258 rfl ?_
  refine y_iadd dL_law_1259 ?_
  refine y_sld (j := i + 1) dL_law_1260 (nI_add i 1) (by omega) hL ?_
  refine y_aloadS 0 dL_law_1261 rfl ?_
  refine y_iload 3 dL_law_1262 rfl ?_
  refine y_iconst (v := 2) dL_law_1263 rfl ?_
  refine y_iadd dL_law_1264 ?_
  refine y_sld (j := i + 2) dL_law_1265 (nI_add i 2) (by omega) hL ?_
  refine y_aloadS 0 dL_law_1266 rfl ?_
  refine y_iload 3 dL_law_1267 rfl ?_
  refine y_iconst (v := 3) dL_law_1268 rfl ?_
  refine y_iadd dL_law_1269 ?_
  refine y_sld (j := i + 3) dL_law_1270 (nI_add i 3) (by omega) hL ?_
  refine y_call (as := [.int (xs (i + 1)), .int (xs (i + 2)), .int (xs (i + 3))]) dL_law_1271 yl_168 y2_168 mv_X7_lots (t_X7_lots l h1) kdl_0 ⟨by decide, rfl⟩ rfl rfl (fun _ _ => Nat.le_of_ble_eq_true rfl) (yint [(xs (i + 1)), (xs (i + 2)), (xs (i + 3))]) (fun x z q => by cases q; exact fun q => by cases q) ⟨Nat.le_of_ble_eq_true rfl, Nat.le_of_ble_eq_true rfl⟩ rfl ?_
  refine y_aload 2 dL_law_1274 rfl ?_
  refine y_aloadS 0 dL_law_1275 rfl ?_
  refine y_iload 3 dL_law_1276 rfl ?_
  refine y_iconst (v := 1) dL_law_1277 rfl ?_
  refine y_iadd dL_law_1278 ?_
  refine y_sld (j := i + 1) dL_law_1279 (nI_add i 1) (by omega) hL ?_
  refine y_aloadS 0 dL_law_1280 rfl ?_
  refine y_iload 3 dL_law_1281 rfl ?_
  refine y_iconst (v := 2) dL_law_1282 rfl ?_
  refine y_iadd dL_law_1283 ?_
  refine y_sld (j := i + 2) dL_law_1284 (nI_add i 2) (by omega) hL ?_
  refine y_aloadS 0 dL_law_1285 rfl ?_
  refine y_iload 3 dL_law_1286 rfl ?_
  refine y_iconst (v := 3) dL_law_1287 rfl ?_
  refine y_iadd dL_law_1288 ?_
  refine y_sld (j := i + 3) dL_law_1289 (nI_add i 3) (by omega) hL ?_
  refine y_call (as := [.int (xs (i + 1)), .int (xs (i + 2)), .int (xs (i + 3))]) dL_law_1290 yl_171 y2_171 mv_X8_lots (t_X8_lots l h2) kdl_74 ⟨by decide, rfl⟩ rfl rfl (fun _ _ => Nat.le_of_ble_eq_true rfl) (yint [(xs (i + 1)), (xs (i + 2)), (xs (i + 3))]) (fun x z q => by cases q; exact fun q => by cases q) ⟨Nat.le_of_ble_eq_true rfl, Nat.le_of_ble_eq_true rfl⟩ rfl ?_
  refine y_icmp_eq (tgt := 1347) dL_law_1293 (by decide) hr ?_
  exact ih _ hI
set_option maxHeartbeats 1000000 in
theorem y_op_38 {l : Launch} {L : Nat} {xs : Nat → Int32} (hL : L ≤ 3072) {i : Nat} (hi : i + 6 ≤ L) {S : St} (hS : Inv S) (ih : ∀ S2, Inv S2 → Y l L xs 1347 [(0, .float 0), (1, .ref 0), (2, .ref 74), (3, .int (nI i))] [] S2) : Y l L xs 1298 [(0, .float 0), (1, .ref 0), (2, .ref 74), (3, .int (nI i))] [] S := by
  obtain ⟨z1, z2, h1, h2, hr, hI⟩ := e_image hS
  refine y_aload 1 dL_law_1298 rfl ?_
  refine y_call (as := []) dL_law_1299 yl_172 y2_172 mv_X7_image (t_X7_image l h1) kdl_0 ⟨by decide, rfl⟩ rfl rfl (fun _ _ => Nat.le_of_ble_eq_true rfl) (yint []) (fun x z q => by cases q; exact fun q => by cases q) ⟨Nat.le_of_ble_eq_true rfl, Nat.le_of_ble_eq_true rfl⟩ rfl ?_
  refine y_aload 2 dL_law_1302 rfl ?_
  refine y_call (as := []) dL_law_1303 yl_175 y2_175 mv_X8_image (t_X8_image l h2) kdl_74 ⟨by decide, rfl⟩ rfl rfl (fun _ _ => Nat.le_of_ble_eq_true rfl) (yint []) (fun x z q => by cases q; exact fun q => by cases q) ⟨Nat.le_of_ble_eq_true rfl, Nat.le_of_ble_eq_true rfl⟩ rfl ?_
  refine y_icmp_eq (tgt := 1347) dL_law_1306 (by decide) hr ?_
  exact ih _ hI
set_option maxHeartbeats 1000000 in
theorem y_op_39 {l : Launch} {L : Nat} {xs : Nat → Int32} (hL : L ≤ 3072) {i : Nat} (hi : i + 6 ≤ L) {S : St} (hS : Inv S) (ih : ∀ S2, Inv S2 → Y l L xs 1347 [(0, .float 0), (1, .ref 0), (2, .ref 74), (3, .int (nI i))] [] S2) : Y l L xs 1311 [(0, .float 0), (1, .ref 0), (2, .ref 74), (3, .int (nI i))] [] S := by
  obtain ⟨z1, z2, h1, h2, hr, hI⟩ := e_on hS
  refine y_aload 1 dL_law_1311 rfl ?_
  refine y_call (as := []) dL_law_1312 yl_176 y2_176 mv_X7_on (t_X7_on l h1) kdl_0 ⟨by decide, rfl⟩ rfl rfl (fun _ _ => Nat.le_of_ble_eq_true rfl) (yint []) (fun x z q => by cases q; exact fun q => by cases q) ⟨Nat.le_of_ble_eq_true rfl, Nat.le_of_ble_eq_true rfl⟩ rfl ?_
  refine y_aload 2 dL_law_1315 rfl ?_
  refine y_call (as := []) dL_law_1316 yl_179 y2_179 mv_X8_on (t_X8_on l h2) kdl_74 ⟨by decide, rfl⟩ rfl rfl (fun _ _ => Nat.le_of_ble_eq_true rfl) (yint []) (fun x z q => by cases q; exact fun q => by cases q) ⟨Nat.le_of_ble_eq_true rfl, Nat.le_of_ble_eq_true rfl⟩ rfl ?_
  refine y_icmp_eq (tgt := 1347) dL_law_1319 (by decide) hr ?_
  exact ih _ hI
set_option maxHeartbeats 1000000 in
theorem y_op_40 {l : Launch} {L : Nat} {xs : Nat → Int32} (hL : L ≤ 3072) {i : Nat} (hi : i + 6 ≤ L) {S : St} (hS : Inv S) (ih : ∀ S2, Inv S2 → Y l L xs 1347 [(0, .float 0), (1, .ref 0), (2, .ref 74), (3, .int (nI i))] [] S2) : Y l L xs 1324 [(0, .float 0), (1, .ref 0), (2, .ref 74), (3, .int (nI i))] [] S := by
  obtain ⟨z1, z2, h1, h2, hr, hI⟩ := e_count hS (xs (i + 1))
  refine y_aload 1 dL_law_1324 rfl ?_
  refine y_aloadS 0 dL_law_1325 rfl ?_
  refine y_iload 3 dL_law_1326 rfl ?_
  refine y_iconst (v := 1) dL_law_1327 rfl ?_
  refine y_iadd dL_law_1328 ?_
  refine y_sld (j := i + 1) dL_law_1329 (nI_add i 1) (by omega) hL ?_
  refine y_call (as := [.int (xs (i + 1))]) dL_law_1330 yl_180 y2_180 mv_X7_count (t_X7_count l h1) kdl_0 ⟨by decide, rfl⟩ rfl rfl (fun _ _ => Nat.le_of_ble_eq_true rfl) (yint [(xs (i + 1))]) (fun x z q => by cases q; exact fun q => by cases q) ⟨Nat.le_of_ble_eq_true rfl, Nat.le_of_ble_eq_true rfl⟩ rfl ?_
  refine y_aload 2 dL_law_1333 rfl ?_
  refine y_aloadS 0 dL_law_1334 rfl ?_
  refine y_iload 3 dL_law_1335 rfl ?_
  refine y_iconst (v := 1) dL_law_1336 rfl ?_
  refine y_iadd dL_law_1337 ?_
  refine y_sld (j := i + 1) dL_law_1338 (nI_add i 1) (by omega) hL ?_
  refine y_call (as := [.int (xs (i + 1))]) dL_law_1339 yl_183 y2_183 mv_X8_count (t_X8_count l h2) kdl_74 ⟨by decide, rfl⟩ rfl rfl (fun _ _ => Nat.le_of_ble_eq_true rfl) (yint [(xs (i + 1))]) (fun x z q => by cases q; exact fun q => by cases q) ⟨Nat.le_of_ble_eq_true rfl, Nat.le_of_ble_eq_true rfl⟩ rfl ?_
  refine y_icmp_eq (tgt := 1347) dL_law_1342 (by decide) hr ?_
  exact ih _ hI
