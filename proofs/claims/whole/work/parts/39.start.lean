theorem in_7 : Cond.instantiable RX7 13 ∈ WS ∧ Cond.initialized RX7 ∈ WS := ⟨(ws_at 103 (by decide +kernel) rfl), (ws_at 86 (by decide +kernel) rfl)⟩
theorem lnw_7 : Cond.classLink RL 7 RX7 ∈ WS := (ws_at 102 (by decide +kernel) rfl)
theorem lct_7 : Cond.methodLink RL 9 yX7_init ∈ WS := (ws_at 104 (by decide +kernel) rfl)
theorem cc_7 : Cond.initialized yX7_init.cls ∈ WS ∧ Cond.code yX7_init M_X7_init.2.1 M_X7_init.2.2.1 none ∈ WS ∧ Cond.instanceMethod yX7_init ∈ WS ∧ (yX7_init.cls ≠ "java/lang/invoke/MethodHandle" ∧ yX7_init.cls ≠ "java/lang/invoke/VarHandle" ∧ (parseMethodDescriptor yX7_init.desc).map (fun d => d.parameters.length) = some 0) := ⟨(ws_at 86 (by decide +kernel) rfl), (ws_at 106 (by decide +kernel) rfl), (ws_at 105 (by decide +kernel) rfl), ⟨by decide +kernel, by decide +kernel, by decide +kernel⟩⟩
theorem in_8 : Cond.instantiable RX8 16 ∈ WS ∧ Cond.initialized RX8 ∈ WS := ⟨(ws_at 868 (by decide +kernel) rfl), (ws_at 94 (by decide +kernel) rfl)⟩
theorem lnw_8 : Cond.classLink RL 10 RX8 ∈ WS := (ws_at 867 (by decide +kernel) rfl)
theorem lct_8 : Cond.methodLink RL 12 yX8_init ∈ WS := (ws_at 869 (by decide +kernel) rfl)
theorem cc_8 : Cond.initialized yX8_init.cls ∈ WS ∧ Cond.code yX8_init M_X8_init.2.1 M_X8_init.2.2.1 none ∈ WS ∧ Cond.instanceMethod yX8_init ∈ WS ∧ (yX8_init.cls ≠ "java/lang/invoke/MethodHandle" ∧ yX8_init.cls ≠ "java/lang/invoke/VarHandle" ∧ (parseMethodDescriptor yX8_init.desc).map (fun d => d.parameters.length) = some 0) := ⟨(ws_at 94 (by decide +kernel) rfl), (ws_at 871 (by decide +kernel) rfl), (ws_at 870 (by decide +kernel) rfl), ⟨by decide +kernel, by decide +kernel, by decide +kernel⟩⟩
theorem lao : Cond.arrayOver (.object RX6) ∈ lw_tbl := List.mem_of_getElem? (i := 117) (by decide +kernel)
theorem lsr : Cond.stringRef RX5 27 "tcdpfw" ∈ lw_tbl := List.mem_of_getElem? (i := 330) (by decide +kernel)
theorem lls : Cond.laysStatic "java/lang/String" "COMPACT_STRINGS" "Z" ∈ lw_tbl := List.mem_of_getElem? (i := 344) (by decide +kernel)
theorem lsi : Cond.initialized "java/lang/String" ∈ WS := (ws_at 95 (by decide +kernel) rfl)
theorem start_K {s : State} {b : Nat} (hts : ∀ w ∈ lw_tbl, w.before #[Value.ref b] s = true) : ∃ D : va_G, ∀ (k : Nat) (q : vw_C), CL[k]? = some q → u_Kn s q.1 q.2.1 q.2.2 (D.1 k) (D.2 k) := by
  obtain ⟨c0, i0, h0⟩ := u_known (C := RX0) (T := TX0) (N := 3) (n := 3) hts (fun w hw => ws_tbl (wsu_0 w hw)) (hts _ (ws_tbl in_0.1))
  obtain ⟨c1, i1, h1⟩ := u_known (C := RX1) (T := TX1) (N := 5) (n := 5) hts (fun w hw => ws_tbl (wsu_1 w hw)) (hts _ (ws_tbl in_1.1))
  obtain ⟨c2, i2, h2⟩ := u_known (C := RX2) (T := TX2) (N := 2) (n := 2) hts (fun w hw => ws_tbl (wsu_2 w hw)) (hts _ (ws_tbl in_2.1))
  obtain ⟨c3, i3, h3⟩ := u_known (C := RX3) (T := TX3) (N := 6) (n := 6) hts (fun w hw => ws_tbl (wsu_3 w hw)) (hts _ (ws_tbl in_3.1))
  obtain ⟨c4, i4, h4⟩ := u_known (C := RX4) (T := TX4) (N := 1) (n := 1) hts (fun w hw => ws_tbl (wsu_4 w hw)) (hts _ (ws_tbl in_4.1))
  obtain ⟨c5, i5, h5⟩ := u_known (C := RX5) (T := TX5) (N := 2) (n := 2) hts (fun w hw => ws_tbl (wsu_5 w hw)) (hts _ (ws_tbl in_5.1))
  obtain ⟨c6, i6, h6⟩ := u_known (C := RX6) (T := TX6) (N := 4) (n := 4) hts (fun w hw => ws_tbl (wsu_6 w hw)) (hts _ (ws_tbl in_6.1))
  obtain ⟨c7, i7, h7⟩ := u_known (C := RX7) (T := TX7) (N := 13) (n := 13) hts (fun w hw => ws_tbl (wsu_7 w hw)) (hts _ (ws_tbl in_7.1))
  obtain ⟨c8, i8, h8⟩ := u_known (C := RX8) (T := TX8) (N := 16) (n := 16) hts (fun w hw => ws_tbl (wsu_8 w hw)) (hts _ (ws_tbl in_8.1))
  refine ⟨(fun k => [c0, c1, c2, c3, c4, c5, c6, c7, c8].getD k c0, fun k => [i0, i1, i2, i3, i4, i5, i6, i7, i8].getD k i0), ?_⟩
  intro k q hq
  match k, hq with
  | 0, hq => cases hq; exact h0
  | 1, hq => cases hq; exact h1
  | 2, hq => cases hq; exact h2
  | 3, hq => cases hq; exact h3
  | 4, hq => cases hq; exact h4
  | 5, hq => cases hq; exact h5
  | 6, hq => cases hq; exact h6
  | 7, hq => cases hq; exact h7
  | 8, hq => cases hq; exact h8
  | k + 9, hq => simp [CL] at hq
theorem start_E {s : State} {b : Nat} (hts : ∀ w ∈ lw_tbl, w.before #[Value.ref b] s = true) (hgv : (Jvm.Cond.and given_1 narrow_1).before #[Value.ref b] s = true) (A : Nat → Prop) (hA : ∀ a : Nat, a < s.heap.size → ¬ A a) : ∃ (D : va_G) (cs : ClassId × ClassId × ClassId) (sk : Nat × Nat), ∀ ad : Nat → Nat, zE (D, ad, cs, sk) A s s.heap ∧ va_AO RX6 s := by
  obtain ⟨D, hD⟩ := start_K hts
  obtain ⟨cI, kI, mI, nI1, nI2, nI3⟩ := Cond.arrayClass_spec (hts _ (ws_tbl wi_int))
  obtain ⟨cJ, kJ, mJ, nJ1, nJ2, nJ3⟩ := Cond.arrayClass_spec (hts _ (ws_tbl wi_long))
  have hao : va_AO RX6 s := va_AO.of (hts _ lao)
  obtain ⟨mT, cT, kT, t1, t2, t3, t4, t5⟩ := Cond.arrayOver_spec hao
  have hflat := flat_of_before _ hgv
  obtain ⟨adK, adV, hS, hev⟩ := vk_Sof (args := #[Value.ref b]) (s := s) (N := 1) (tm := fun _ => Term.string RX5 27) (len := [6]) (byt := [[116, 99, 100, 112, 102, 119]]) (A := A) (by intro i hi; rcases (show i = 0 by omega) with rfl; decide) (by intro i hi; exact hflat _ (by decide +kernel)) (by intro i hi; exact hflat _ (by decide +kernel)) (by intro i hi; exact hflat _ (by decide +kernel)) (by intro i hi; rcases (show i = 0 by omega) with rfl; exact hflat _ (by decide +kernel))
    (by
      intro i hi j hj
      rcases (show i = 0 by omega) with rfl
      have hj6 : j < 6 := hj
      rcases (show j = 0 ∨ j = 1 ∨ j = 2 ∨ j = 3 ∨ j = 4 ∨ j = 5 by omega) with rfl | rfl | rfl | rfl | rfl | rfl <;> exact hflat _ (by decide +kernel))
    (by intro i j hi hj hne; omega) hA
  refine ⟨D, (cI, cJ, cT), (adK 0, adV 0), fun ad => ⟨⟨⟨hD, ?_⟩, fun w hw => va_Nw.of (nws_kind hw).1 (hts w (List.mem_filter.mp hw).1), vk_R.of (A := #[Value.ref b]) (hts _ lsr) (hev 0 (by decide)), ?_, va_Zof (hts _ lls) (hts _ (ws_tbl lsi)) (va_eqi (hflat _ (by decide +kernel))) hA⟩, hao⟩⟩
  · intro k q hk
    match k, hk with
    | 0, hk => cases hk; exact ⟨fun n z => ⟨fun k h => (by cases h), kI, nI2, mI, nI3⟩, nI1⟩
    | 1, hk => cases hk; exact ⟨fun n z => ⟨fun k h => (by cases h), kJ, nJ2, mJ, nJ3⟩, nJ1⟩
    | 2, hk => cases hk; exact ⟨fun n z => ⟨fun k h => (by cases h), kT, t3, mT, t4⟩, kT, mT, t3, t4, t1, t5⟩
    | k + 3, hk => simp [ztys] at hk
  · refine ⟨fun i hi => ?_, fun i j hi hj _ => by omega⟩
    rcases (show i = 0 by omega) with rfl
    exact hS.1 0 (by decide)
