-- ===== end of PART A; then your names; then what follows =====
/-! THE CLAIM OUT OF ONE WALK OF THE LAW'S BODY. Your part is whole_start (and what it stands on); all else here is the same for every law, but numbers. -/
def R_law : String := "GluedInLifetimeLaw"
def lw_P (b : Addr) (xs : List Int32) (args : Array Value) (s : State) : Prop := args = #[.ref b] ∧ s.IntsAt b xs ∧ xs.length ≤ 3072 ∧ (Jvm.Cond.and given_1 narrow_1).before args s = true
def lw_Q (_ : Array Value) (s : State) (o : Outcome) (t : State) : Prop := o = .returned (some (.int 1)) ∧ Framed s o t [] 600000 7302250
def lw_Z (below : List Frame) (a : Array Value) (s : State) : State → Prop := fun t => ∃ o, t.status = .running ∧ Ended t below o ∧ lw_Q a s o t
/-- the law's own end, with 1 on the stack, nothing written that was there before, its room as the claim has it -/
theorem lw_ret {p : Program} {l : Launch} {e : Env} {s : State} {m : MethodId} {below : List Frame} {meth : Method} {c : Code} {b : Nat} (hx : p.tables.exec = Jvm.exec) (hb : c.code = code) (hr : meth.sig.returnType = ret) (hlocks : meth.locks = false) {pc : Nat} {H : Heap} {ls : Array Slot} (hdg : decode code pc = .ok (.ireturn, 1)) : W p l e room_1 s m #[Value.ref b] below meth c H [] 600000 7302250 (lw_Z below #[Value.ref b] s) (F0 m pc ls [.int 1]) := by
  intro T hT X
  obtain ⟨fs, hret, hrun, hended, hW, hframe⟩ := X.leave (v := some (.int 1)) (hlocks := hlocks) (fun h => by rw [hr] at h; cases h)
  have hmeth' : T.vm.method? m = some meth := X.method'
  refine ⟨T.setFrames fs, ?_, .returned (some (.int 1)), hrun, hended, rfl, ⟨_, rfl⟩, hW, hframe⟩
  jvm_step X.here [X.here.top, hx, hb, hdg, hmeth', hr, ret, narrow_b1]
  (try refine ⟨rfl, ?_⟩); (try refine ⟨rfl, ?_⟩)
  first | (intro acts; rw [hret _ acts rfl rfl rfl]) | rw [hret _ _ rfl rfl rfl]
  exact Steps.refl _
/-- what holds at the law's entry: the machine, the code, the tables' words (any of lw_tbl by 'hts w (by decide +kernel)'), the script of L ints xs at the cell b, what the Statement gives of the start (any of its parts by flat_of_before) -/
def lw_At (p : Program) (s : State) (m : MethodId) (meth : Method) (c : Code) (b L : Nat) (xs : Nat → Int32) : Prop :=
  p.tables.exec = Jvm.exec ∧ c.code = code ∧ meth.sig.returnType = ret ∧ c.maxLocals = 4 ∧ s.vm.findClass R_law = some m.cls ∧ (∀ w ∈ lw_tbl, w.before #[Value.ref b] s = true) ∧ va_X b L xs s s.heap ∧ b < s.heap.size ∧ meth.locks = false ∧ (Jvm.Cond.and given_1 narrow_1).before #[Value.ref b] s = true
abbrev RL : String := "GluedInLifetimeLaw"
-- ===== the law's walk: its own base =====
def yv (ad : Nat → Nat) (b : Nat) : Value → Value
  | .float _ => .ref b
  | .ref a => .ref (ad a)
  | v => v
theorem yv_cat (ad : Nat → Nat) (b : Nat) (v : Value) (h : ∀ x, v ≠ .float x) : yv ad b v = rv ad v := by cases v <;> first | rfl | exact absurd rfl (h _)
def yl (ad : Nat → Nat) (b : Nat) (q : Nat × Value) : Nat × Value := (q.1, yv ad b q.2)
def lwA (s : State) : Nat → Prop := fun q => s.heap.size ≤ q
def lw_X (ρ : zR) (p : Program) (s : State) (m : MethodId) (meth : Method) (c : Code) (b L : Nat) (xs : Nat → Int32) : Prop :=
  lw_At p s m meth c b L xs ∧ zI ρ.2.1 ∧ (∀ i, i < NC → s.heap.size ≤ ρ.2.1 i) ∧ zE ρ (lwA s) s s.heap
def Y (l : Launch) (L : Nat) (xs : Nat → Int32) (pc : Nat) (lv : List (Nat × Value)) (st : List Value) (S : St) : Prop :=
  ∀ (ρ : zR) (p : Program) (e : Env) (s : State) (m : MethodId) (below : List Frame) (meth : Method) (c : Code) (b : Nat), lw_X ρ p s m meth c b L xs →
    ∀ (H : Heap) (locs : List Loc) (ls : Array Slot), va_P ρ.1 CL (world ρ S) H → va_S (lwA s) s.heap H locs → lv_has ls 4 (lv.map (yl ρ.2.1 b)) →
      W p l e room_1 s m #[Value.ref b] below meth c H locs 600000 7302250 (lw_Z below #[Value.ref b] s) (F0 m pc ls (st.map (yv ρ.2.1 b)))
theorem lwD {ρ : zR} {S : St} {s : State} (h : zI ρ.2.1) (h2 : ∀ i, i < NC → s.heap.size ≤ ρ.2.1 i) : va_D (lwA s) (world ρ S) := by
  refine ⟨fun i j p q hi hj e => ?_, fun k q hk => ?_⟩
  · obtain ⟨h1, rfl⟩ := world_of hi
    obtain ⟨h3, rfl⟩ := world_of hj
    exact h i j h1 h3 e
  · obtain ⟨h1, rfl⟩ := world_of hk
    exact h2 k h1
section YY
variable {l : Launch} {L : Nat} {xs : Nat → Int32} {pc : Nat} {lv : List (Nat × Value)} {st : List Value} {S : St}
theorem yl_at {ad : Nat → Nat} {b : Nat} {ls : Array Slot} {n : Nat} {lv : List (Nat × Value)} (hl : lv_has ls n (lv.map (yl ad b))) {j i : Nat} {v : Value} (h : lv[j]? = some (i, v)) : ls[i]? = some (.val (yv ad b v)) :=
  lv_at hl j (i := i) (v := yv ad b v) (by rw [List.getElem?_map, h]; rfl)
theorem y_iload {k : Fin 4} {v : Int32} (j : Nat) (d : decode code pc = .ok (.iload_n k, 1)) (h : lv[j]? = some ((k : Nat), .int v)) (kk : Y l L xs (pc + 1) lv (.int v :: st) S) : Y l L xs pc lv st S := fun ρ p e s m below meth c b X H locs ls hP hS hl =>
  lv_iload_n X.1.1 X.1.2.1 d rfl (yl_at hl h) (kk ρ p e s m below meth c b X H locs ls hP hS hl)
theorem y_aload {k : Fin 4} {v : Nat} (j : Nat) (d : decode code pc = .ok (.aload_n k, 1)) (h : lv[j]? = some ((k : Nat), .ref v)) (kk : Y l L xs (pc + 1) lv (.ref v :: st) S) : Y l L xs pc lv st S := fun ρ p e s m below meth c b X H locs ls hP hS hl =>
  lv_aload_n X.1.1 X.1.2.1 d rfl (yl_at hl h) (kk ρ p e s m below meth c b X H locs ls hP hS hl)
theorem y_aloadS {k : Fin 4} (j : Nat) (d : decode code pc = .ok (.aload_n k, 1)) (h : lv[j]? = some ((k : Nat), .float 0)) (kk : Y l L xs (pc + 1) lv (.float 0 :: st) S) : Y l L xs pc lv st S := fun ρ p e s m below meth c b X H locs ls hP hS hl =>
  lv_aload_n X.1.1 X.1.2.1 d rfl (yl_at hl h) (kk ρ p e s m below meth c b X H locs ls hP hS hl)
theorem y_iconst {n : Int} {v : Int32} (d : decode code pc = .ok (.iconst n, 1)) (hv : Int32.ofInt n = v) (kk : Y l L xs (pc + 1) lv (.int v :: st) S) : Y l L xs pc lv st S := fun ρ p e s m below meth c b X H locs ls hP hS hl =>
  lv_iconst X.1.1 X.1.2.1 d hv (kk ρ p e s m below meth c b X H locs ls hP hS hl)
theorem y_bipush {n : Int} {v : Int32} (d : decode code pc = .ok (.bipush n, 2)) (hv : (Int8.ofInt n).toInt32 = v) (kk : Y l L xs (pc + 2) lv (.int v :: st) S) : Y l L xs pc lv st S := fun ρ p e s m below meth c b X H locs ls hP hS hl =>
  lv_bipush X.1.1 X.1.2.1 d hv (kk ρ p e s m below meth c b X H locs ls hP hS hl)
theorem y_iadd {a b : Int32} (d : decode code pc = .ok (.iadd, 1)) (kk : Y l L xs (pc + 1) lv (.int (a + b) :: st) S) : Y l L xs pc lv (.int b :: .int a :: st) S := fun ρ p e s m below meth c b X H locs ls hP hS hl =>
  lv_iadd X.1.1 X.1.2.1 d (kk ρ p e s m below meth c b X H locs ls hP hS hl)
theorem y_isub {a b : Int32} (d : decode code pc = .ok (.isub, 1)) (kk : Y l L xs (pc + 1) lv (.int (a - b) :: st) S) : Y l L xs pc lv (.int b :: .int a :: st) S := fun ρ p e s m below meth c b X H locs ls hP hS hl =>
  lv_isub X.1.1 X.1.2.1 d (kk ρ p e s m below meth c b X H locs ls hP hS hl)
theorem y_iand {a b : Int32} (d : decode code pc = .ok (.iand, 1)) (kk : Y l L xs (pc + 1) lv (.int (a &&& b) :: st) S) : Y l L xs pc lv (.int b :: .int a :: st) S := fun ρ p e s m below meth c b X H locs ls hP hS hl =>
  lv_iand X.1.1 X.1.2.1 d (kk ρ p e s m below meth c b X H locs ls hP hS hl)
theorem y_lcmp {a b : Int64} (d : decode code pc = .ok (.lcmp, 1)) (kk : Y l L xs (pc + 1) lv (.int (lg_cmp a b) :: st) S) : Y l L xs pc lv (.long b :: .long a :: st) S := fun ρ p e s m below meth c b X H locs ls hP hS hl =>
  W.lcmp X.1.1 X.1.2.1 d (kk ρ p e s m below meth c b X H locs ls hP hS hl)
theorem y_len (d : decode code pc = .ok (.arraylength, 1)) (kk : Y l L xs (pc + 1) lv (.int (nI L) :: st) S) : Y l L xs pc lv (.float 0 :: st) S := fun ρ p e s m below meth c b X H locs ls hP hS hl =>
  va_slen (A := lwA s) X.1.1 X.1.2.1 X.1.2.2.2.2.2.2.1 X.1.2.2.2.2.2.2.2.1 (Nat.not_le.mpr X.1.2.2.2.2.2.2.2.1) hS d (kk ρ p e s m below meth c b X H locs ls hP hS hl)
theorem y_sld {i : Int32} {j : Nat} (d : decode code pc = .ok (.iaload, 1)) (hi : i = nI j) (hj : j < L) (hL : L ≤ 3072) (kk : Y l L xs (pc + 1) lv (.int (xs j) :: st) S) : Y l L xs pc lv (.int i :: .float 0 :: st) S := by
  intro ρ p e s m below meth c b X H locs ls hP hS hl
  have k2 := kk ρ p e s m below meth c b X H locs ls hP hS hl
  subst hi
  refine va_sld (A := lwA s) X.1.1 X.1.2.1 X.1.2.2.2.2.2.2.1 X.1.2.2.2.2.2.2.2.1 (Nat.not_le.mpr X.1.2.2.2.2.2.2.2.1) hS (vp_in_nI hj (by omega)) d ?_
  rw [nI_clamp (by omega)]
  exact k2
theorem y_goto {off : Int} {tgt : Nat} (d : decode code pc = .ok (.goto off, 3)) (ht : (pc : Int) + off = (tgt : Int)) (kk : Y l L xs tgt lv st S) : Y l L xs pc lv st S := fun ρ p e s m below meth c b X H locs ls hP hS hl =>
  lv_goto X.1.1 X.1.2.1 d ht (kk ρ p e s m below meth c b X H locs ls hP hS hl)
theorem y_icmp_gt {a b : Int32} {off : Int} {tgt : Nat} (d : decode code pc = .ok (.if_icmp .gt off, 3)) (ht : (pc : Int) + off = (tgt : Int)) (kt : b < a → Y l L xs tgt lv st S) (kf : ¬ b < a → Y l L xs (pc + 3) lv st S) : Y l L xs pc lv (.int b :: .int a :: st) S := fun ρ p e s m below meth c b X H locs ls hP hS hl =>
  lv_icmp_gt X.1.1 X.1.2.1 d ht (fun q => kt q ρ p e s m below meth c b X H locs ls hP hS hl) (fun q => kf q ρ p e s m below meth c b X H locs ls hP hS hl)
theorem y_icmp_eq {a b : Int32} {off : Int} {tgt : Nat} (d : decode code pc = .ok (.if_icmp .eq off, 3)) (ht : (pc : Int) + off = (tgt : Int)) (hab : a = b) (kt : Y l L xs tgt lv st S) : Y l L xs pc lv (.int b :: .int a :: st) S := fun ρ p e s m below meth c b X H locs ls hP hS hl =>
  lv_icmp_eq X.1.1 X.1.2.1 d ht (fun q => kt ρ p e s m below meth c b X H locs ls hP hS hl) (fun q => absurd hab q)
theorem y_if_eq {a : Int32} {off : Int} {tgt : Nat} (d : decode code pc = .ok (.ifCond .eq off, 3)) (ht : (pc : Int) + off = (tgt : Int)) (hab : a = 0) (kt : Y l L xs tgt lv st S) : Y l L xs pc lv (.int a :: st) S := fun ρ p e s m below meth c b X H locs ls hP hS hl =>
  lv_if_eq X.1.1 X.1.2.1 d ht (fun q => kt ρ p e s m below meth c b X H locs ls hP hS hl) (fun q => absurd hab q)
theorem y_tableIn {dflt lo hi : Int} {offs : Array Int} {len : Nat} {x : Int32} {off : Int} {tgt : Nat} (d : decode code pc = .ok (.tableswitch dflt lo hi offs, len)) (h1 : ¬ x.toInt < lo) (h2 : ¬ hi < x.toInt) (ho : offs[(x.toInt - lo).toNat]? = some off) (ht : (pc : Int) + off = (tgt : Int)) (k : Y l L xs tgt lv st S) : Y l L xs pc lv (.int x :: st) S := fun ρ p e s m below meth c b X H locs ls hP hS hl =>
  lv_tableIn X.1.1 X.1.2.1 d h1 h2 ho ht (k ρ p e s m below meth c b X H locs ls hP hS hl)
theorem y_tableOut {dflt lo hi : Int} {offs : Array Int} {len : Nat} {x : Int32} {tgt : Nat} (d : decode code pc = .ok (.tableswitch dflt lo hi offs, len)) (h : x.toInt < lo ∨ hi < x.toInt) (ht : (pc : Int) + dflt = (tgt : Int)) (k : Y l L xs tgt lv st S) : Y l L xs pc lv (.int x :: st) S := fun ρ p e s m below meth c b X H locs ls hP hS hl =>
  lv_tableOut X.1.1 X.1.2.1 d h ht (k ρ p e s m below meth c b X H locs ls hP hS hl)
theorem y_iinc {x v : Int32} {n : Int} {a0 a1 a2 : Value} (d : decode code pc = .ok (.iinc 3 n, 3)) (hv : x + Int32.ofInt n = v) (kk : Y l L xs (pc + 3) [(0, a0), (1, .ref 0), (2, .ref 74), (3, .int v)] st S) (e0 : lv = [(0, a0), (1, .ref 0), (2, .ref 74), (3, .int x)]) (h0 : a0 = .float 0) : Y l L xs pc lv st S := by
  subst e0
  subst h0
  intro ρ p e s m below meth c b X H locs ls hP hS hl
  refine lv_iinc (k := 3) (v := v) (lv' := [(3, .int v), (0, .ref b), (1, .ref (ρ.2.1 0)), (2, .ref (ρ.2.1 74))]) X.1.1 X.1.2.1 d hl rfl hv (by decide) rfl (fun ls' hl' => ?_)
  exact kk ρ p e s m below meth c b X H locs ls' hP hS (lv_sub hl' [1, 2, 3, 0] rfl)
theorem y_ret1 (d : decode code pc = .ok (.ireturn, 1)) : Y l L xs pc lv [.int 1] S := fun ρ p e s m below meth c b X H locs ls hP hS hl =>
  va_forget (fun q hq => hS.2.2 q hq) (lw_ret X.1.1 X.1.2.1 X.1.2.2.1 X.1.2.2.2.2.2.2.2.2.1 d)
theorem y_call {idx n q ci : Nat} {y2 : MethodName} {M2 : zM} {as : List Value} {v : Option Value} {S1 : St} {st0 st1 : List Value} (d : decode code pc = .ok (.invokevirtual idx, 3)) (ml : Cond.methodLink RL idx y2 ∈ WS) (ml2 : Cond.initialized y2.cls ∈ WS ∧ Cond.code y2 M2.2.1 M2.2.2.1 M2.2.2.2.1 ∈ WS ∧ (y2.cls ≠ "java/lang/invoke/MethodHandle" ∧ y2.cls ≠ "java/lang/invoke/VarHandle" ∧ (parseMethodDescriptor y2.desc).map (fun d => d.parameters.length) = some n)) (mv : zMV y2) (hc : CT l y2 M2 (.ref q :: as) S v S1) (hk : kd q = ci) (hci : ci < 9 ∧ (CL[ci]?).map (fun r => r.1) = some y2.cls) (hn : as.length = n) (hst : as.reverse ++ .ref q :: st = st0) (hcat : ∀ b ad, ((st.map (yv ad b)).map Value.category).sum ≤ 8)
    (has : ∀ x ∈ as, ∀ z, x ≠ .float z) (hv : ∀ x z, v = some x → x ≠ .float z) (hroom : M2.2.2.2.2.1 + 1 ≤ 13 ∧ 8 + (M2.2.2.1 + 11) + M2.2.2.2.2.2 ≤ 502) (hst1 : v.toList ++ st = st1) (k : Y l L xs (pc + 3) lv st1 S1) : Y l L xs pc lv st0 S := by
  intro ρ p e s m below meth c b X H locs ls hP hS hl
  have XX := X
  obtain ⟨⟨hx, hb, hr, hml, hown, hts, hX, hbl, hlocks, hgv⟩, hI, hA2, hE⟩ := X
  subst hst
  subst hst1
  have hM := hc ρ H.size
  have hq : q < NC := kd_lt hk (by omega)
  have hnar : ∀ q', zA ρ.2.1 H.size q' → lwA s q' := by
    intro q' h
    rcases h with ⟨i, hi, rfl⟩ | h
    · exact hA2 i hi
    · exact Nat.le_trans hS.1 h
  have hrecv : ∃ cellB : Cell, H[ρ.2.1 q]? = some cellB ∧ cellB.vm.isStatics = false ∧ s.vm.findClass y2.cls = some cellB.cls := by
    cases hcl : CL[ci]? with
    | none => rw [hcl] at hci; simp at hci
    | some r =>
      rw [hcl] at hci
      have h1 : r.1 = y2.cls := by simpa using hci.2
      rw [← h1]
      exact va_recv hE.1 hP hcl (q0 := q) (by rw [world_at ρ S hq, zc_obj hk hci.1])
  have hpre : PreV s H y2.cls (ρ.2.1 q) (va_Pc ((Value.ref q :: as).map (rv ρ.2.1)) (zB ρ H.size S)) (as.map (rv ρ.2.1)) := ⟨zB_blind _ _ _ _, hrecv, fun U hU hW => ⟨rfl, by
    subst hU
    exact ⟨rfl, hI, hP, zE.warm hW ((hE.kept hS.2.1).narrow hnar)⟩⟩⟩
  have hasm : as.map (yv ρ.2.1 b) = as.map (rv ρ.2.1) := List.map_congr_left (fun x hx => yv_cat _ _ _ (has x hx))
  have hstack : (F0 m pc ls ((as.reverse ++ .ref q :: st).map (yv ρ.2.1 b))).stack = (as.map (rv ρ.2.1)).reverse ++ .ref (ρ.2.1 q) :: st.map (yv ρ.2.1 b) := by
    show (as.reverse ++ .ref q :: st).map (yv ρ.2.1 b) = _
    rw [List.map_append, List.map_reverse, hasm]
    rfl
  have hrun : va_Run p l e room_1 s m #[Value.ref b] below meth c H locs 600000 7302250 0 0 (F0 m pc ls ((as.reverse ++ .ref q :: st).map (yv ρ.2.1 b))) (st.map (yv ρ.2.1 b)) (zQ ρ v S1 (zA ρ.2.1 H.size) (Value.ref (ρ.2.1 q) :: as.map (rv ρ.2.1)).toArray) (zA ρ.2.1 H.size) := by
    exact va_runV (C := y2.cls) (ret := M2.2.2.2.1) (maxL := M2.2.2.1) (bytes := M2.2.1) (As := as.map (rv ρ.2.1)) ⟨hx, hb, hml, hown, hts⟩ hM (cwV n hts (fun w hw => by
        rcases List.mem_append.mp hw with h2 | h2
        · simp only [List.mem_cons, List.not_mem_nil, or_false] at h2
          rcases h2 with rfl | rfl | rfl | rfl
          · exact ⟨ws_tbl ml, good_of_word (ws_good ml)⟩
          · exact ⟨ws_tbl mv.1, good_of_word (ws_good mv.1)⟩
          · exact ⟨ws_tbl mv.2, good_of_word (ws_good mv.2)⟩
          · exact ⟨ws_tbl ml2.1, good_of_word (ws_good ml2.1)⟩
        · rcases List.mem_cons.mp h2 with rfl | h2
          · exact ⟨ws_tbl ml2.2.1, good_of_word (ws_good ml2.2.1)⟩
          · exact ⟨ws_tbl h2, good_of_word (ws_good h2)⟩) rfl rfl rfl ⟨rfl, ml2.2.2⟩ hroom) hpre rfl (by rw [List.length_map]; exact hn) hl.1 hstack (lv_room (hcat _ _)) d ⟨Nat.le_refl _, Nat.le_refl _⟩
  intro T hT XT
  obtain ⟨w, st₀, t, T', Ls, h0, X', hL, e1, e2, ⟨⟨hv1, hP1⟩, hz, hk1⟩, stp⟩ := hrun T hT XT
  cases hv1
  rw [h0] at hz hk1
  have hS1 : va_S (lwA s) s.heap T'.heap (locs ++ Ls) := ⟨Nat.le_trans hS.1 (by rw [e1]; exact hz), fun q h1 h2 => by rw [e1, hk1 q (Nat.lt_of_lt_of_le h1 hS.1) (fun z => h2 (hnar q z))]; exact hS.2.1 q h1 h2, fun q hq => by
      rcases List.mem_append.mp hq with h | h
      · exact hS.2.2 q h
      · exact hnar _ (hL q h)⟩
  have kk := k ρ p e s m below meth c b XX T'.heap (locs ++ Ls) ls (by rw [e1]; exact hP1) hS1 hl
  have hst2 : (v.toList ++ st).map (yv ρ.2.1 b) = (v.map (rv ρ.2.1)).toList ++ st.map (yv ρ.2.1 b) := by
    cases v with
    | none => rfl
    | some x =>
      show yv ρ.2.1 b x :: _ = rv ρ.2.1 x :: _
      rw [yv_cat _ _ _ (fun z => hv x z rfl)]
      rfl
  rw [hst2] at kk
  obtain ⟨t2, a1, b1⟩ := kk T' rfl X'
  exact ⟨t2, stp t2 a1, b1⟩
end YY
