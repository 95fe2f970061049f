-- ===== calls =====
section ZC
variable {p : Program} {l : Launch} {e : Env} {R : Room} {s : State} {m : MethodId} {args : Array Value} {below : List Frame} {meth : Method} {c : Code} {H : Heap} {locs : List Loc} {Q : State → Prop}
theorem zrun_goes {ρ : zR} {v : Option Value} {S1 : St} {sz pc : Nat} {ls : Array Slot} {st0 rest : List Value} {a : Array Value} (hr : va_Run p l e R s m args below meth c H locs 0 0 0 0 (F0 m pc ls st0) rest (zQ ρ v S1 (zA ρ.2.1 H.size) a) (zA ρ.2.1 H.size)) (hsz : s.heap.size = sz) (hS : va_S (zA ρ.2.1 sz) s.heap H locs)
    (kk : ∀ (H1 : Heap) (locs1 : List Loc), va_P ρ.1 CL (world ρ S1) H1 → va_S (zA ρ.2.1 sz) s.heap H1 locs1 → W p l e R s m args below meth c H1 locs1 0 0 Q (F0 m (pc + 3) ls ((v.map (rv ρ.2.1)).toList ++ rest))) : W p l e R s m args below meth c H locs 0 0 Q (F0 m pc ls st0) := by
  have hA : ∀ q, zA ρ.2.1 H.size q → zA ρ.2.1 sz q := fun q h => zA_up (by rw [← hsz]; exact hS.1) h
  intro T hT X
  obtain ⟨w, st₀, t, T', L, h0, X', hL, e1, e2, ⟨⟨hv, hP1⟩, hz, hk⟩, st⟩ := hr T hT X
  cases hv
  rw [h0] at hz hk
  obtain ⟨t2, a1, b1⟩ := kk T'.heap (locs ++ L) (by rw [e1]; exact hP1)
    ⟨Nat.le_trans hS.1 (by rw [e1]; exact hz), fun q h1 h2 => by rw [e1, hk q (Nat.lt_of_lt_of_le h1 hS.1) (fun z => h2 (hA q z))]; exact hS.2.1 q h1 h2, fun q hq => by
      rcases List.mem_append.mp hq with h | h
      · exact hS.2.2 q h
      · exact hA _ (hL q h)⟩ T' rfl X'
  exact ⟨t2, st t2 a1, b1⟩
end ZC
theorem zB_blind (ρ : zR) (sz : Nat) (S : St) (av : List Value) : FrameBlind (va_Pc av (zB ρ sz S)) := fun a U g mk q => ⟨q.1, q.2.1, q.2.2.1, q.2.2.2.1, zE.same (u := U) (U := U.calling g mk a) (H := U.heap) rfl q.2.2.2.2⟩
theorem zB_call {ρ : zR} {y : MethodName} {M : zM} {sz : Nat} {p : Program} {s : State} {m : MethodId} {args : Array Value} {meth : Method} {c : Code} (X : zX y M ρ sz p s m args meth c) {H : Heap} {locs : List Loc} {S : St} (hP : va_P ρ.1 CL (world ρ S) H) (hS : va_S (zA ρ.2.1 sz) s.heap H locs) (U : State) (hU : U.heap = H) (hW : s.WarmedH U.vm) : zB ρ H.size S U := by
  obtain ⟨hx, hb, hr, hml, hlo, hown, hts, hsz, hI, hE⟩ := X
  subst hU
  exact ⟨rfl, hI, hP, zE.warm hW ((hE.kept hS.2.1).narrow (fun q h => zA_up (by rw [← hsz]; exact hS.1) h))⟩
/-- the words of a call, its link by the caller's class and entry -/
def zML (own : String) (idx : Nat) (y2 : MethodName) (M2 : zM) (n : Nat) : Prop :=
  ((y2.cls = own ∧ Cond.methodLink own idx y2 ∈ WS) ∨ ∃ host, Cond.methodLinkNest own idx y2 host ∈ NWS) ∧ Cond.initialized y2.cls ∈ WS ∧ Cond.code y2 M2.2.1 M2.2.2.1 M2.2.2.2.1 ∈ WS ∧
  (y2.cls ≠ "java/lang/invoke/MethodHandle" ∧ y2.cls ≠ "java/lang/invoke/VarHandle" ∧ (parseMethodDescriptor y2.desc).map (fun d => d.parameters.length) = some n)
def zMV (y2 : MethodName) : Prop := Cond.instanceMethod y2 ∈ WS ∧ Cond.selects y2.cls y2 y2 ∈ WS
section ZCC
variable {l : Launch} {y : MethodName} {M : zM} {pc : Nat} {lv : List (Nat × Value)} {st : List Value} {S : St} {w : Option Value} {S' : St}
theorem zcats (ad : Nat → Nat) (st : List Value) : ((st.map (rv ad)).map fun v => v.category) = st.map Value.category := by
  rw [List.map_map]
  apply List.map_congr_left
  intro v _
  exact rv_cat ad v
theorem z_callV {idx n q ci : Nat} {y2 : MethodName} {M2 : zM} {as : List Value} {v : Option Value} {S1 : St} {st0 st1 : List Value} (d : decode M.2.1 pc = .ok (.invokevirtual idx, 3)) (ml : zML y.cls idx y2 M2 n) (mv : zMV y2) (hc : CT l y2 M2 (.ref q :: as) S v S1) (hk : kd q = ci) (hci : ci < 9 ∧ (CL[ci]?).map (fun r => r.1) = some y2.cls) (hn : as.length = n) (hst : as.reverse ++ .ref q :: st = st0) (hcat : (st.map Value.category).sum ≤ 8)
    (hroom : M2.2.2.2.2.1 + 1 ≤ M.2.2.2.2.1 ∧ 8 + (M2.2.2.1 + 11) + M2.2.2.2.2.2 ≤ M.2.2.2.2.2) (hst1 : v.toList ++ st = st1) (k : Z l y M (pc + 3) lv st1 S1 w S') : Z l y M pc lv st0 S w S' := by
  intro ρ sz p e s m args below meth c X H locs ls hP hS hl
  have XX := X
  obtain ⟨hx, hb, hr, hml, hlo, hown, hts, hsz, hI, hE⟩ := X
  subst hst
  subst hst1
  have hM := hc ρ H.size
  have hq : q < NC := kd_lt hk (by omega)
  have hrecv : ∃ cellB : Cell, H[ρ.2.1 q]? = some cellB ∧ cellB.vm.isStatics = false ∧ s.vm.findClass y2.cls = some cellB.cls := by
    cases hcl : CL[ci]? with
    | none => rw [hcl] at hci; simp at hci
    | some r =>
      rw [hcl] at hci
      have h1 : r.1 = y2.cls := by simpa using hci.2
      rw [← h1]
      exact va_recv hE.1 hP hcl (q0 := q) (by rw [world_at ρ S hq, zc_obj hk hci.1])
  have hpre : PreV s H y2.cls (ρ.2.1 q) (va_Pc ((Value.ref q :: as).map (rv ρ.2.1)) (zB ρ H.size S)) (as.map (rv ρ.2.1)) := ⟨zB_blind _ _ _ _, hrecv, fun U hU hW => ⟨rfl, zB_call XX hP hS U hU hW⟩⟩
  have hstack : (F0 m pc ls ((as.reverse ++ .ref q :: st).map (rv ρ.2.1))).stack = (as.map (rv ρ.2.1)).reverse ++ .ref (ρ.2.1 q) :: st.map (rv ρ.2.1) := by
    show (as.reverse ++ .ref q :: st).map (rv ρ.2.1) = _
    rw [List.map_append, List.map_reverse]
    rfl
  have hcat2 : ((st.map (rv ρ.2.1)).map fun v => v.category).sum ≤ 8 := by rw [zcats]; exact hcat
  have hrun : va_Run p l e (zrm M) s m args below meth c H locs 0 0 0 0 (F0 m pc ls ((as.reverse ++ .ref q :: st).map (rv ρ.2.1))) (st.map (rv ρ.2.1)) (zQ ρ v S1 (zA ρ.2.1 H.size) (Value.ref (ρ.2.1 q) :: as.map (rv ρ.2.1)).toArray) (zA ρ.2.1 H.size) := by
    rcases ml.1 with ⟨-, h1⟩ | ⟨host, h1⟩
    · exact va_runV (C := y2.cls) (ret := M2.2.2.2.1) (maxL := M2.2.2.1) (bytes := M2.2.1) (As := as.map (rv ρ.2.1)) ⟨hx, hb, hml, hown, hts⟩ hM (cwV n hts (zgi (fun w hw => by
        rcases List.mem_append.mp hw with h2 | h2
        · simp only [List.mem_cons, List.not_mem_nil, or_false] at h2
          rcases h2 with rfl | rfl | rfl | rfl
          · exact h1
          · exact mv.1
          · exact mv.2
          · exact ml.2.1
        · rcases List.mem_cons.mp h2 with rfl | h2
          · exact ml.2.2.1
          · exact h2)) rfl rfl rfl ⟨rfl, ml.2.2.2⟩ hroom) hpre rfl (by rw [List.length_map]; exact hn) hl.1 hstack (lv_room hcat2) d ⟨Nat.le_refl _, Nat.le_refl _⟩
    · exact va_runVN (C := y2.cls) (host := host) (ret := M2.2.2.2.1) (maxL := M2.2.2.1) (bytes := M2.2.1) (As := as.map (rv ρ.2.1)) ⟨hx, hb, hml, hown, hts⟩ hM ⟨va_cnB n hts (zgi (fun w hw => by
        rcases List.mem_cons.mp hw with rfl | h2
        · exact ml.2.2.1
        · exact h2)) rfl rfl rfl (hE.2.1 _ h1) (hts _ (List.mem_cons_of_mem _ ml.2.1)) ml.2.2.2 hroom, hts _ (List.mem_cons_of_mem _ mv.1), hts _ (List.mem_cons_of_mem _ mv.2)⟩ hpre rfl (by rw [List.length_map]; exact hn) hl.1 hstack (lv_room hcat2) d ⟨Nat.le_refl _, Nat.le_refl _⟩
  refine zrun_goes hrun hsz hS (fun H1 locs1 p1 s1 => ?_)
  have kk := k ρ sz p e s m args below meth c XX H1 locs1 ls p1 s1 hl
  rw [List.map_append] at kk
  cases v <;> exact kk
theorem z_callS {idx n : Nat} {y2 : MethodName} {M2 : zM} {as : List Value} {v : Option Value} {S1 : St} {st0 st1 : List Value} (d : decode M.2.1 pc = .ok (.invokestatic idx, 3)) (ml : zML y.cls idx y2 M2 n) (mv : Cond.static y2 ∈ WS) (hc : CT l y2 M2 as S v S1) (hn : as.length = n) (hst : as.reverse ++ st = st0) (hcat : (st.map Value.category).sum ≤ 8)
    (hroom : M2.2.2.2.2.1 + 1 ≤ M.2.2.2.2.1 ∧ 8 + (M2.2.2.1 + 11) + M2.2.2.2.2.2 ≤ M.2.2.2.2.2) (hst1 : v.toList ++ st = st1) (k : Z l y M (pc + 3) lv st1 S1 w S') : Z l y M pc lv st0 S w S' := by
  intro ρ sz p e s m args below meth c X H locs ls hP hS hl
  have XX := X
  obtain ⟨hx, hb, hr, hml, hlo, hown, hts, hsz, hI, hE⟩ := X
  subst hst
  subst hst1
  have hM := hc ρ H.size
  have hpre : PreS s H (va_Pc (as.map (rv ρ.2.1)) (zB ρ H.size S)) (as.map (rv ρ.2.1)) := ⟨zB_blind _ _ _ _, fun U hU hW => ⟨rfl, zB_call XX hP hS U hU hW⟩⟩
  have hstack : (F0 m pc ls ((as.reverse ++ st).map (rv ρ.2.1))).stack = (as.map (rv ρ.2.1)).reverse ++ st.map (rv ρ.2.1) := by
    show (as.reverse ++ st).map (rv ρ.2.1) = _
    rw [List.map_append, List.map_reverse]
  have hcat2 : ((st.map (rv ρ.2.1)).map fun v => v.category).sum ≤ 8 := by rw [zcats]; exact hcat
  have hrun : va_Run p l e (zrm M) s m args below meth c H locs 0 0 0 0 (F0 m pc ls ((as.reverse ++ st).map (rv ρ.2.1))) (st.map (rv ρ.2.1)) (zQ ρ v S1 (zA ρ.2.1 H.size) (as.map (rv ρ.2.1)).toArray) (zA ρ.2.1 H.size) := by
    rcases ml.1 with ⟨ho, h1⟩ | ⟨host, h1⟩
    · exact va_runS (ret := M2.2.2.2.1) (maxL := M2.2.2.1) (bytes := M2.2.1) (As := as.map (rv ρ.2.1)) ⟨hx, hb, hml, hown, hts⟩ hM (cwS n hts (zgi (fun w hw => by
        rcases List.mem_append.mp hw with h2 | h2
        · simp only [List.mem_cons, List.not_mem_nil, or_false] at h2
          rcases h2 with rfl | rfl | rfl
          · exact h1
          · exact mv
          · rw [← ho]; exact ml.2.1
        · rcases List.mem_cons.mp h2 with rfl | h2
          · exact ml.2.2.1
          · exact h2)) rfl rfl rfl ⟨ho, ml.2.2.2⟩ hroom) hpre rfl (by rw [List.length_map]; exact hn) hl.1 hstack (lv_room hcat2) d ⟨Nat.le_refl _, Nat.le_refl _⟩
    · exact va_runSN (host := host) (ret := M2.2.2.2.1) (maxL := M2.2.2.1) (bytes := M2.2.1) (As := as.map (rv ρ.2.1)) ⟨hx, hb, hml, hown, hts⟩ hM ⟨va_cnB n hts (zgi (fun w hw => by
        rcases List.mem_cons.mp hw with rfl | h2
        · exact ml.2.2.1
        · exact h2)) rfl rfl rfl (hE.2.1 _ h1) (hts _ (List.mem_cons_of_mem _ ml.2.1)) ml.2.2.2 hroom, hts _ (List.mem_cons_of_mem _ mv), trivial⟩ hpre rfl (by rw [List.length_map]; exact hn) hl.1 hstack (lv_room hcat2) d ⟨Nat.le_refl _, Nat.le_refl _⟩
  refine zrun_goes hrun hsz hS (fun H1 locs1 p1 s1 => ?_)
  have kk := k ρ sz p e s m args below meth c XX H1 locs1 ls p1 s1 hl
  rw [List.map_append] at kk
  cases v <;> exact kk
def zmx (own : String) (idx : Nat) : Prop := Cond.methodLink own idx Lib.Math.max.name ∈ WS ∧ Cond.static Lib.Math.max.name ∈ WS ∧ Cond.initialized "java/lang/Math" ∈ WS ∧ Cond.code Lib.Math.max.name Lib.Math.max.code 2 (some .int) ∈ WS
def zmn (own : String) (idx : Nat) : Prop := Cond.methodLink own idx Lib.Math.min.name ∈ WS ∧ Cond.static Lib.Math.min.name ∈ WS ∧ Cond.initialized "java/lang/Math" ∈ WS ∧ Cond.code Lib.Math.min.name Lib.Math.min.code 2 (some .int) ∈ WS
theorem z_max {idx : Nat} {a b : Int32} (d : decode M.2.1 pc = .ok (.invokestatic idx, 3)) (ml : zmx y.cls idx) (hf : 1 ≤ M.2.2.2.2.1) (hcat : (st.map Value.category).sum + 13 ≤ M.2.2.2.2.2) (k : Z l y M (pc + 3) lv (.int (if a < b then b else a) :: st) S w S') : Z l y M pc lv (.int b :: .int a :: st) S w S' := by
  intro ρ sz p e s m args below meth c X H locs ls hP hS hl
  have kk := k ρ sz p e s m args below meth c X H locs ls hP hS hl
  obtain ⟨hx, hb, hr, hml, hlo, hown, hts, hsz, hI, hE⟩ := X
  have g : ∀ w ∈ WS, w.before args s = true := fun w hw => hts _ (List.mem_cons_of_mem _ hw)
  exact va_mmax hx hb (hml.trans hl.1.symm) hown (g _ ml.1) (g _ ml.2.1) (g _ ml.2.2.1) (g _ ml.2.2.2) hf (by rw [zcats]; exact hcat) (Nat.le_refl _) (Nat.le_refl _) d kk
theorem z_min {idx : Nat} {a b : Int32} (d : decode M.2.1 pc = .ok (.invokestatic idx, 3)) (ml : zmn y.cls idx) (hf : 1 ≤ M.2.2.2.2.1) (hcat : (st.map Value.category).sum + 13 ≤ M.2.2.2.2.2) (k : Z l y M (pc + 3) lv (.int (if b < a then b else a) :: st) S w S') : Z l y M pc lv (.int b :: .int a :: st) S w S' := by
  intro ρ sz p e s m args below meth c X H locs ls hP hS hl
  have kk := k ρ sz p e s m args below meth c X H locs ls hP hS hl
  obtain ⟨hx, hb, hr, hml, hlo, hown, hts, hsz, hI, hE⟩ := X
  have g : ∀ w ∈ WS, w.before args s = true := fun w hw => hts _ (List.mem_cons_of_mem _ hw)
  exact va_mmin hx hb (hml.trans hl.1.symm) hown (g _ ml.1) (g _ ml.2.1) (g _ ml.2.2.1) (g _ ml.2.2.2) hf (by rw [zcats]; exact hcat) (Nat.le_refl _) (Nat.le_refl _) d kk
def zcp (own : String) (idx : Nat) : Prop := Cond.methodLink own idx arraycopyName ∈ WS ∧ Cond.native arraycopyName ∈ WS ∧ Cond.static arraycopyName ∈ WS ∧ Cond.initialized "java/lang/System" ∈ WS
theorem z_copy {idx q0 q1 k0 : Nat} {sp dp n : Int32} (d : decode M.2.1 pc = .ok (.invokestatic idx, 3)) (ml : zcp y.cls idx) (h0 : kd q0 = k0) (h1 : kd q1 = k0) (hc : ¬ k0 < 9 ∧ k0 < 20) (hne : q0 ≠ q1) (g1 : ¬ sp < 0) (g2 : ¬ dp < 0) (g3 : ¬ n < 0) (g4 : sp.toNatClampNeg + n.toNatClampNeg ≤ il k0) (g5 : dp.toNatClampNeg + n.toNatClampNeg ≤ il k0) (hf : 1 ≤ M.2.2.2.2.1) (hcat : (st.map Value.category).sum + (nativeFrameWords "java/lang/System" "arraycopy" 5 + 11) ≤ M.2.2.2.2.2)
    (k : Z l y M (pc + 3) lv st (upc S q0 q1 sp.toNatClampNeg dp.toNatClampNeg n.toNatClampNeg) w S') : Z l y M pc lv (.int n :: .int dp :: .ref q1 :: .int sp :: .ref q0 :: st) S w S' := by
  intro ρ sz p e s m args below meth c X H locs ls hP hS hl
  have XX := X
  obtain ⟨hx, hb, hr, hml, hlo, hown, hts, hsz, hI, hE⟩ := X
  have g : ∀ w ∈ WS, w.before args s = true := fun w hw => hts _ (List.mem_cons_of_mem _ hw)
  have e0 : (world ρ S)[q0]? = some (ρ.2.1 q0, .inl (ρ.2.2.1.1, (il k0, .inl (S.1 q0)))) := by rw [world_at ρ S (kd_lt h0 (by omega)), zc_ints h0 hc.1 hc.2]
  have e1 : (world ρ S)[q1]? = some (ρ.2.1 q1, .inl (ρ.2.2.1.1, (il k0, .inl (S.1 q1)))) := by rw [world_at ρ S (kd_lt h1 (by omega)), zc_ints h1 hc.1 hc.2]
  refine va_copyi hx hb (hml.trans hl.1.symm) hown (g _ ml.1) (g _ ml.2.1) (g _ ml.2.2.1) (g _ ml.2.2.2) hE.1 hP (z_D hI) hS q0 q1 0 0 e0 e1 (ty := .int) rfl rfl rfl g1 g2 g3 g4 g5 (fun _ _ => rfl) hf (by rw [zcats]; exact hcat) d (fun H1 locs1 p1 _ s1 => ?_)
  have hw : (world ρ S).set q1 (ρ.2.1 q1, .inl (ρ.2.2.1.1, il k0, .inl (va_cpy (S.1 q0) (S.1 q1) sp.toNatClampNeg dp.toNatClampNeg n.toNatClampNeg))) = world ρ (upc S q0 q1 sp.toNatClampNeg dp.toNatClampNeg n.toNatClampNeg) := by
    refine world_set ?_ (fun i _ h => zc_upc_ne h)
    rw [zc_ints h1 hc.1 hc.2, upc_row]
  rw [hw] at p1
  exact k ρ sz p e s m args below meth c XX H1 locs1 ls p1 s1 hl
end ZCC
-- ===== what a written function says =====
theorem oi {α : Type} {c : Prop} [Decidable c] {F : Option α} {r : α} (h : (if c then none else F) = some r) : ¬ c ∧ F = some r := by
  by_cases hc : c
  · rw [if_pos hc] at h; cases h
  · rw [if_neg hc] at h; exact ⟨hc, h⟩
theorem ob {α β : Type} {x : Option α} {f : α → Option β} {r : β} (h : x.bind f = some r) : ∃ a, x = some a ∧ f a = some r := by
  cases x with
  | none => cases h
  | some a => exact ⟨a, rfl, h⟩
theorem ip {α : Type} {c : Prop} [Decidable c] {A B r : α} (hc : c) (h : (if c then A else B) = r) : A = r := by rwa [if_pos hc] at h
theorem ig {α : Type} {c : Prop} [Decidable c] {A B r : α} (hc : ¬ c) (h : (if c then A else B) = r) : B = r := by rwa [if_neg hc] at h
theorem zrn {x : Int32} : ∀ k ∈ ([] : List Int), ¬ x.toInt = k := fun _ h => absurd h List.not_mem_nil
theorem zrc {x : Int32} {a : Int} {l : List Int} (h : ¬ x.toInt = a) (t : ∀ k ∈ l, ¬ x.toInt = k) : ∀ k ∈ a :: l, ¬ x.toInt = k := List.forall_mem_cons.mpr ⟨h, t⟩
theorem znb {v : Int32} (h : v = 0 ∨ v = 1) : narrow .boolean (.int v) = .int v := by rcases h with rfl | rfl <;> rfl
section ZSW
variable {l : Launch} {y : MethodName} {M : zM} {pc : Nat} {lv : List (Nat × Value)} {st : List Value} {S : St} {w : Option Value} {S' : St}
theorem z_ldcw {index : Nat} {v : Int32} (hc : Cond.constant y.cls index v ∈ WS) (d : decode M.2.1 pc = .ok (.ldc_w index, 3)) (k : Z l y M (pc + 3) lv (.int v :: st) S w S') : Z l y M pc lv st S w S' := fun ρ sz p e s m args below meth c X H locs ls hP hS hl =>
  lv_ldcw X.1 X.2.1 X.2.2.2.2.2.1 (X.2.2.2.2.2.2.1 _ (List.mem_cons_of_mem _ hc)) d (k ρ sz p e s m args below meth c X H locs ls hP hS hl)
theorem z_tableG {dflt lo hi : Int} {offs : Array Int} {len n : Nat} {x : Int32} {tgt : Nat} (real : List Int) (d : decode M.2.1 pc = .ok (.tableswitch dflt lo hi offs, len)) (hn : hi = lo + n - 1) (hg : ∀ i, i < n → (lo + i) ∈ real ∨ offs[i]? = some dflt) (hx : ∀ k ∈ real, ¬ x.toInt = k) (ht : (pc : Int) + dflt = (tgt : Int)) (k : Z l y M tgt lv st S w S') : Z l y M pc lv (.int x :: st) S w S' := by
  by_cases h1 : x.toInt < lo
  · exact z_tableOut d (Or.inl h1) ht k
  · by_cases h2 : hi < x.toInt
    · exact z_tableOut d (Or.inr h2) ht k
    · rcases hg (x.toInt - lo).toNat (by omega) with h | h
      · exact absurd (by omega) (hx _ h)
      · exact z_tableIn d h1 h2 h ht k
end ZSW
