section LST
variable {p : Program} {l : Launch} {e : Env} {s : State} {m : MethodId} {args : Array Value} {below : List Frame} {meth : Method} {c : Code} {H : Heap} {locs : List Loc} {cells slots : Nat} {Q : State → Prop} {ρ : zR} {pc : Nat} {ls : Array Slot} {st : List Value} {n : Nat} {f : Nat → va_E}
theorem l_ctor {idx k n2 mc2 ms2 : Nat} {y2 : MethodName} {M2 : zM} {post2 : (Nat → va_E) → Prop} (hx : p.tables.exec = Jvm.exec) (hb : c.code = code) (hml : c.maxLocals = 4) (hown : s.vm.findClass RL = some m.cls) (hts : ∀ w ∈ lw_tbl, w.before args s = true) (hg : gS ρ) (hE : gE ρ (gA ρ) s s.heap) (hls : ls.size = 4)
    (d : decode code pc = .ok (.invokespecial idx, 3)) (ml : Cond.methodLink RL idx y2 ∈ WS) (hini : Cond.initialized y2.cls ∈ WS) (hcode : Cond.code y2 M2.2.1 M2.2.2.1 none ∈ WS) (hinst : Cond.instanceMethod y2 ∈ WS) (hy : y2.name = "<init>") (hyd : y2.cls ≠ "java/lang/invoke/MethodHandle" ∧ y2.cls ≠ "java/lang/invoke/VarHandle" ∧ (parseMethodDescriptor y2.desc).map (fun d => d.parameters.length) = some 0) (hret : M2.2.2.2.1 = none)
    (hc : GT l y2 M2 mc2 ms2 ρ k n f n2 post2) (hcat : (st.map fun v => v.category).sum ≤ 8) (hroom : M2.2.2.2.2.1 + 1 ≤ 13 ∧ 8 + (M2.2.2.1 + 11) + M2.2.2.2.2.2 ≤ 502) (hcells : cells + mc2 ≤ 600000) (hslots : slots + ms2 ≤ 7302250) (hz : H.size = ρ.2.1 n) (hP : va_P ρ.1 CL (wd ρ n f) H) (hS : va_S (gA ρ) s.heap H locs)
    (kk : ∀ (f' : Nat → va_E) (H' : Heap) (locs' : List Loc), H'.size = ρ.2.1 n2 → va_P ρ.1 CL (wd ρ n2 f') H' → post2 f' → va_S (gA ρ) s.heap H' locs' → W p l e room_1 s m args below meth c H' locs' (cells + mc2) (slots + ms2) Q (F0 m (pc + 3) ls st)) : W p l e room_1 s m args below meth c H locs cells slots Q (F0 m pc ls (.ref (ρ.2.1 k) :: st)) := by
  have hM : Met l y2 (.code y2 M2.2.1 M2.2.2.1 none :: WS) (vrm M2 mc2 ms2) (va_Pc [.ref (ρ.2.1 k)] (gB ρ n f)) (gQ ρ n2 post2) mc2 ms2 (gA ρ) := by
    have h := hc
    unfold GT at h
    rw [hret] at h
    exact h
  have hpre : PreS s H (va_Pc [.ref (ρ.2.1 k)] (gB ρ n f)) (.ref (ρ.2.1 k) :: []) := ⟨gB_blind _ _ _ _, fun U hU hW => ⟨rfl, by rw [hU]; exact hz, hg, by rw [hU]; exact hP, gE_call hE hS U hU hW⟩⟩
  have hrun : va_Run p l e room_1 s m args below meth c H locs cells slots mc2 ms2 (F0 m pc ls (.ref (ρ.2.1 k) :: st)) st (gQ ρ n2 post2 (Value.ref (ρ.2.1 k) :: ([] : List Value)).toArray) (gA ρ) :=
    va_runI (maxL := M2.2.2.1) (bytes := M2.2.1) (As := []) (Ts := lw_tbl) ⟨hx, hb, hml, hown, hts⟩ hM (cwI 0 hts (fun w hw => by
        rcases List.mem_cons.mp hw with rfl | h2
        · exact ⟨ws_tbl hcode, good_of_word (ws_good hcode)⟩
        · exact ⟨ws_tbl h2, good_of_word (ws_good h2)⟩) rfl rfl rfl (hts _ (ws_tbl hini)) (hts _ (ws_tbl ml)) (hts _ (ws_tbl hinst)) hy hyd hroom) hpre rfl rfl hls rfl (lv_room hcat) d ⟨hcells, hslots⟩
  intro T hT XT
  obtain ⟨w, st₀, t, T', Ls, h0, X', hL, e1, e2, ⟨⟨hv1, hz1, f', hP1, hp1⟩, hz2, hk1⟩, stp⟩ := hrun T hT XT
  cases hv1
  rw [h0] at hz2 hk1
  have hS1 : va_S (gA ρ) s.heap T'.heap (locs ++ Ls) := ⟨Nat.le_trans hS.1 (by rw [e1]; exact hz2), fun q h1 h2 => by rw [e1, hk1 q (Nat.lt_of_lt_of_le h1 hS.1) h2]; exact hS.2.1 q h1 h2, fun q hq => by
      rcases List.mem_append.mp hq with h | h
      · exact hS.2.2 q h
      · exact hL q h⟩
  obtain ⟨t2, a1, b1⟩ := kk f' T'.heap (locs ++ Ls) (by rw [e1]; exact hz1) (by rw [e1]; exact hP1) hp1 hS1 T' rfl X'
  exact ⟨t2, stp t2 a1, b1⟩
theorem l_new {idx ci : Nat} {fs : List Value} (hx : p.tables.exec = Jvm.exec) (hb : c.code = code) (hown : s.vm.findClass RL = some m.cls) (hts : ∀ w ∈ lw_tbl, w.before args s = true) (hg : gS ρ) (hE : gE ρ (gA ρ) s s.heap) (d : decode code pc = .ok (.new idx, 3)) (C : String) (T : u_T) (N : Nat) (ty : Nat → FieldType) (hc : CL[ci]? = some (C, T, N)) (hws : ∀ w ∈ u_ws C T N, w ∈ WS) (hty : ∀ k, k < N → parseFieldDescriptor (T k).2.2.1 = some (ty k)) (hcl : Cond.classLink RL idx C ∈ WS) (hinst : Cond.instantiable C N ∈ WS) (hini : Cond.initialized C ∈ WS) (hfs : ∀ j, j < N → defaultValue (ty j) = vp_V fs j) (hcells : cells + 1 ≤ 600000) (hslots : slots + N ≤ 7302250) (hz : H.size = ρ.2.1 n) (hP : va_P ρ.1 CL (wd ρ n f) H) (hS : va_S (gA ρ) s.heap H locs)
    (kk : ∀ H' : Heap, H'.size = ρ.2.1 (n + 1) → va_P ρ.1 CL (wd ρ (n + 1) (va_up f n (.inr (ci, fs)))) H' → va_S (gA ρ) s.heap H' locs → W p l e room_1 s m args below meth c H' locs (cells + 1) (slots + N) Q (F0 m (pc + 3) ls (.ref (ρ.2.1 n) :: st))) : W p l e room_1 s m args below meth c H locs cells slots Q (F0 m pc ls st) := by
  have hKn := hE.1.1.1 ci _ hc
  refine W.newcK hx hb hown (hts _ (ws_tbl hcl)) (hts _ (ws_tbl hinst)) (hts _ (ws_tbl hini)) rfl d hcells hslots hKn.2.1 hz fun H1 kC hkC e1 z1 o1 => ?_
  refine kk H1 (by rw [z1, hg (n + 1), hg n]; omega) ?_ ⟨Nat.le_trans hS.1 (by rw [hz, z1]; omega), fun x h1 h2 => (o1 x (by rw [← hz]; exact Nat.lt_of_lt_of_le h1 hS.1)).trans (hS.2.1 x h1 h2), hS.2.2⟩
  exact g_push hg hz hP (fun q hq => o1 q (by rw [← hz]; exact hq)) ⟨_, hc, (u_born ty hts (fun w hw => ws_tbl (hws w hw)) hKn hkC e1 hty).to hfs⟩
end LST
set_option maxHeartbeats 4000000 in
theorem whole_start0 {p : Program} {e : Env} {s : State} {m : MethodId} {below : List Frame} {meth : Method} {c : Code} (l : Launch) {b L : Nat} {xs : Nat → Int32} (C0 : lw_At p s m meth c b L xs) (hY : Y l L xs 18 [(0, .float 0), (1, .ref 0), (2, .ref 74), (3, .int (nI 0))] [] S0) : W p l e room_1 s m #[Value.ref b] below meth c s.heap [] 0 0 (lw_Z below #[Value.ref b] s) (entryFrame m ([Value.ref b] : List Value).toArray 4) := by
  obtain ⟨hx, hb, hr, hml, hown, hts, hX, hbl, hlocks, hgv⟩ := id C0
  obtain ⟨D, cs, sk, hEall⟩ := start_E hts hgv (lwA s) (fun a h => Nat.not_le.mpr h)
  obtain ⟨ρ, hρ⟩ : ∃ ρ : zR, ρ = (D, fun i => s.heap.size + i, cs, sk) := ⟨_, rfl⟩
  have had : ∀ i, ρ.2.1 i = s.heap.size + i := by rw [hρ]; intro i; rfl
  have hg : gS ρ := fun i => by rw [had i, had 0]; omega
  have hAe : gA ρ = lwA s := by
    funext q
    show (ρ.2.1 0 ≤ q) = (s.heap.size ≤ q)
    rw [had 0, Nat.add_zero]
  have hE : gE ρ (gA ρ) s s.heap := by rw [hAe, hρ]; exact hEall _
  have hl := lv_entry ([.ref b]) (n := 4) (Nat.le_of_ble_eq_true rfl)
  rw [lg_entry_eq]
  generalize (lg_sl ([.ref b]) ++ List.replicate (4 - (lg_sl ([.ref b])).length) Slot.unset).toArray = ls at hl ⊢
  have hl : lv_has ls 4 [(0, .ref b)] := hl
  have hP0 : va_P ρ.1 CL (wd ρ 0 (fun _ => .inr (0, []))) s.heap := fun k q hk => by simp [wd] at hk
  refine l_new (n := 0) (ci := 7) (f := fun _ => .inr (0, [])) (fs := [.null, .null, .null, .null, .null, .null, .null, .null, .null, .null, .null, .int 0, .int 0]) hx hb hown hts hg hE dL_law_0 RX7 TX7 13 tyX7 rfl wsu_7 tyX7_ok lnw_7 in_7.1 in_7.2 dfs_7 (Nat.le_of_ble_eq_true rfl) (Nat.le_of_ble_eq_true rfl) (by rw [had]; rfl) hP0 va_S.rf (fun H1 z1 P1 S1 => ?_)
  refine lv_dup hx hb dL_law_3 rfl ?_
  refine l_ctor (k := 0) hx hb hml hown hts hg hE hl.1 dL_law_4 lct_7 cc_7.1 cc_7.2.1 cc_7.2.2.1 rfl cc_7.2.2.2 rfl (g_X7_init l ρ _ va_eq) (Nat.le_of_ble_eq_true rfl) ⟨Nat.le_of_ble_eq_true rfl, Nat.le_of_ble_eq_true rfl⟩ (Nat.le_of_ble_eq_true rfl) (Nat.le_of_ble_eq_true rfl) z1 P1 S1 (fun f2 H2 locs2 z2 P2 hz2 S2 => ?_)
  refine lv_astore_n (lv' := [(1, .ref (ρ.2.1 0)), (0, .ref b)]) hx hb dL_law_7 rfl hl (by decide) rfl (fun ls hl => ?_)
  refine l_new (n := 74) (ci := 8) (fs := [.null, .null, .null, .null, .int 0, .null, .null, .null, .int 0, .int 0, .int 0, .null, .int 0, .null, .null, .int 0]) hx hb hown hts hg hE dL_law_8 RX8 TX8 16 tyX8 rfl wsu_8 tyX8_ok lnw_8 in_8.1 in_8.2 dfs_8 (Nat.le_of_ble_eq_true rfl) (Nat.le_of_ble_eq_true rfl) z2 P2 S2 (fun H3 z3 P3 S3 => ?_)
  refine lv_dup hx hb dL_law_11 rfl ?_
  have hz3 : Pz ρ (va_up f2 74 (.inr (8, [.null, .null, .null, .null, .int 0, .null, .null, .null, .int 0, .int 0, .int 0, .null, .int 0, .null, .null, .int 0]))) 0 74 := by
    intro i h1 h2
    rw [va_ne (Nat.ne_of_lt h2)]
    exact hz2 i h1 h2
  refine l_ctor (k := 74) hx hb hml hown hts hg hE hl.1 dL_law_12 lct_8 cc_8.1 cc_8.2.1 cc_8.2.2.1 rfl cc_8.2.2.2 rfl (g_X8_init l ρ _ va_eq hz3) (Nat.le_of_ble_eq_true rfl) ⟨Nat.le_of_ble_eq_true rfl, Nat.le_of_ble_eq_true rfl⟩ (Nat.le_of_ble_eq_true rfl) (Nat.le_of_ble_eq_true rfl) z3 P3 S3 (fun f4 H4 locs4 z4 P4 hz4 S4 => ?_)
  refine lv_astore_n (lv' := [(2, .ref (ρ.2.1 74)), (1, .ref (ρ.2.1 0)), (0, .ref b)]) hx hb dL_law_15 rfl hl (by decide) rfl (fun ls hl => ?_)
  refine lv_iconst (v := 0) hx hb dL_law_16 rfl ?_
  refine lv_istore_n (lv' := [(3, .int 0), (2, .ref (ρ.2.1 74)), (1, .ref (ρ.2.1 0)), (0, .ref b)]) hx hb dL_law_17 rfl hl (by decide) rfl (fun ls hl => ?_)
  refine W.widen (k := 600000) (n := 7302250) (Nat.le_of_ble_eq_true rfl) (Nat.le_of_ble_eq_true rfl) ?_
  have hPw : va_P ρ.1 CL (world ρ S0) H4 := by
    intro k q hk
    obtain ⟨h1, rfl⟩ := world_of hk
    exact hz4 k (Nat.zero_le k) h1 _ _ (P4 k _ (wd_at h1))
  rw [hAe] at S4
  exact hY ρ p e s m below meth c b ⟨C0, fun i j _ _ h => by rw [had i, had j] at h; omega, fun i _ => by rw [had i]; omega, by rw [← hAe]; exact hE.1⟩ H4 locs4 ls hPw S4 (lv_sub hl [3, 2, 1, 0] rfl)
