-- ===== the words that every method shares =====
def zNest : Cond → Bool
  | .fieldLinkNest .. => true
  | .methodLinkNest .. => true
  | _ => false
def WS : List Cond := lw_tbl.filter goodWord
def NWS : List Cond := lw_tbl.filter zNest
theorem ws_at {w : Cond} (i : Nat) (h : lw_tbl[i]? = some w) (g : goodWord w = true) : w ∈ WS := List.mem_filter.mpr ⟨List.mem_of_getElem? h, g⟩
theorem nws_at {w : Cond} (i : Nat) (h : lw_tbl[i]? = some w) (g : zNest w = true) : w ∈ NWS := List.mem_filter.mpr ⟨List.mem_of_getElem? h, g⟩
theorem ws_good {w : Cond} (h : w ∈ WS) : goodWord w = true := (List.mem_filter.mp h).2
theorem ws_tbl {w : Cond} (h : w ∈ WS) : w ∈ lw_tbl := (List.mem_filter.mp h).1
theorem zgi {c0 : Cond} {x : List Cond} (h : ∀ w ∈ x, w ∈ WS) : GoodIn (c0 :: WS) x := fun w hw => ⟨List.mem_cons_of_mem _ (h w hw), good_of_word (ws_good (h w hw))⟩
-- ===== the classes, the cells, the store =====
abbrev CL : List vw_C := [(RX0, TX0, 3), (RX1, TX1, 5), (RX2, TX2, 2), (RX3, TX3, 6), (RX4, TX4, 1), (RX5, TX5, 2), (RX6, TX6, 4), (RX7, TX7, 13), (RX8, TX8, 16)]
/-- what a number is: the store of ints (a cell's number, a place in it), the one row of longs -/
abbrev St : Type := (Nat → Nat → Int32) × (Nat → Int64)
def zshop : List Nat := [3, 20, 10, 6, 11, 6, 11, 6, 11, 6, 11, 6, 11, 6, 11, 6, 11, 6, 11]
def zkinds : List Nat := 7 :: (zshop ++ zshop ++ zshop ++ [6, 11, 5, 12, 2, 13, 1, 10, 10, 0, 10, 14, 4, 21, 15, 16, 8, 17, 17, 17, 17, 12, 13, 16, 14, 18, 18])
/-- the kind of a cell: below 9 its class, 10 .. 18 a row of ints, 20 a row of things, 21 the row of longs -/
def kd (i : Nat) : Nat := zkinds.getD i 99
abbrev NC : Nat := 85
theorem kd_th {q : Nat} (h : kd q = 6) : kd (q + 1) = 11 := by
  have hq : q < 85 := by
    rcases Nat.lt_or_ge q 85 with g | g
    · exact g
    · have : kd q = 99 := by simp [kd, List.getD_eq_getElem?_getD, List.getElem?_eq_none (l := zkinds) (i := q) g]
      omega
  have key : ∀ i, i < 85 → kd i = 6 → kd (i + 1) = 11 := by decide +kernel
  exact key q hq h
theorem kd_lt {q k : Nat} (h : kd q = k) (hk : k < 99) : q < NC := by
  rcases Nat.lt_or_ge q 85 with g | g
  · exact g
  · have : kd q = 99 := by simp [kd, List.getD_eq_getElem?_getD, List.getElem?_eq_none (l := zkinds) (i := q) g]
    omega
theorem kd_sh1 {q : Nat} (h : kd q = 3) : kd (q + 1) = 20 := by
  have key : ∀ i, i < 85 → kd i = 3 → kd (i + 1) = 20 := by decide +kernel
  exact key q (kd_lt h (by decide)) h
theorem kd_sh2 {q : Nat} (h : kd q = 3) : kd (q + 2) = 10 := by
  have key : ∀ i, i < 85 → kd i = 3 → kd (i + 2) = 10 := by decide +kernel
  exact key q (kd_lt h (by decide)) h
theorem kd_sht {q j : Nat} (h : kd q = 3) (hj : j < 8) : kd (q + 1 + 2 + 2 * j) = 6 := by
  have key : ∀ i, i < 85 → ∀ j, j < 8 → kd i = 3 → kd (i + 1 + 2 + 2 * j) = 6 := by decide +kernel
  exact key q (kd_lt h (by decide)) j hj h
/-- the fields of an object, by its class, its number, its ints -/
def zf : Nat → Nat → (Nat → Int32) → List Value
  | 0, q, r => [.ref (q + 1), .ref (q + 2), .int (r 2)]
  | 1, q, r => [.ref (q + 1), .ref (q + 2), .int (r 2), .int (r 3), .int (r 4)]
  | 2, q, r => [.ref (q + 1), .int (r 1)]
  | 3, q, r => [.int (r 0), .int (r 1), .int (r 2), .int (r 3), .ref (q + 1), .ref (q + 2)]
  | 4, q, _ => [.ref (q + 1)]
  | 5, q, r => [.ref (q + 1), .int (r 1)]
  | 6, q, r => [.int (r 0), .int (r 1), .int (r 2), .ref (q + 1)]
  | 7, _, r => [.ref 1, .ref 20, .ref 39, .ref 58, .ref 60, .ref 62, .ref 64, .ref 67, .ref 70, .ref 72, .ref 73, .int (r 11), .int (r 12)]
  | _, _, r => [.ref 75, .ref 76, .ref 77, .ref 78, .int (r 4), .ref 79, .ref 80, .ref 81, .int (r 8), .int (r 9), .int (r 10), .ref 82, .int (r 12), .ref 83, .ref 84, .int (r 15)]
def il (k : Nat) : Nat := ([8, 12, 96, 16, 4, 20, 7, 132, 100] : List Nat).getD (k - 10) 0
/-- where the cells lie, and what the machine calls their classes -/
abbrev zR : Type := va_G × (Nat → Nat) × (ClassId × ClassId × ClassId) × (Nat × Nat)
def rv (ad : Nat → Nat) : Value → Value
  | .ref a => .ref (ad a)
  | v => v
theorem rv_cat (ad : Nat → Nat) (v : Value) : (rv ad v).category = v.category := by cases v <;> rfl
def zk (k : Nat) (ρ : zR) (i : Nat) (r : Nat → Int32) (L : Nat → Int64) : va_E :=
  if k < 9 then .inr (k, (zf k i r).map (rv ρ.2.1))
  else if k < 20 then .inl (ρ.2.2.1.1, (il k, .inl r))
  else if k = 20 then .inl (ρ.2.2.1.2.2, (8, .inr (.inr (.inr (.inr (fun j => some (ρ.2.1 (i + 2 + 2 * j))))))))
  else .inl (ρ.2.2.1.2.1, (9, .inr (.inl L)))
def zc (ρ : zR) (S : St) (i : Nat) : va_E := zk (kd i) ρ i (S.1 i) S.2
def world (ρ : zR) (S : St) : va_W := (List.range NC).map (fun i => (ρ.2.1 i, zc ρ S i))
def ztys (ρ : zR) : List (ClassId × FieldType) := [(ρ.2.2.1.1, .int), (ρ.2.2.1.2.1, .long), (ρ.2.2.1.2.2, .object RX6)]
theorem world_at (ρ : zR) (S : St) {i : Nat} (h : i < NC) : (world ρ S)[i]? = some (ρ.2.1 i, zc ρ S i) := by
  simp [world, h]
theorem world_len (ρ : zR) (S : St) : (world ρ S).length = NC := by simp [world]
theorem world_of {ρ : zR} {S : St} {k : Nat} {q : Nat × va_E} (h : (world ρ S)[k]? = some q) : k < NC ∧ q = (ρ.2.1 k, zc ρ S k) := by
  have hk : k < NC := by
    have := (List.getElem?_eq_some_iff.mp h).1
    rwa [world_len] at this
  rw [world_at ρ S hk] at h
  exact ⟨hk, (Option.some.inj h).symm⟩
theorem world_set {ρ : zR} {S S' : St} {q : Nat} {e : va_E} (h1 : zc ρ S' q = e) (h2 : ∀ i, i < NC → i ≠ q → zc ρ S' i = zc ρ S i) : (world ρ S).set q (ρ.2.1 q, e) = world ρ S' := by
  apply List.ext_getElem?
  intro i
  by_cases hi : i < NC
  · rw [world_at ρ S' hi]
    by_cases hq : i = q
    · subst hq
      rw [List.getElem?_set_self (by rw [world_len]; exact hi), h1]
    · rw [List.getElem?_set_ne (fun z => hq z.symm), world_at ρ S hi, h2 i hi hq]
  · rw [List.getElem?_eq_none (by simp [world_len]; omega), List.getElem?_eq_none (by simp [world_len]; omega)]
/-- writes -/
def up (S : St) (q k : Nat) (x : Int32) : St := (fun i j => if i = q ∧ j = k then x else S.1 i j, S.2)
def upL (S : St) (k : Nat) (x : Int64) : St := (S.1, vp_updL S.2 k x)
def upc (S : St) (q0 q sp dp n : Nat) : St := (fun i => if i = q then va_cpy (S.1 q0) (S.1 q) sp dp n else S.1 i, S.2)
theorem up_row (S : St) (q k : Nat) (x : Int32) : (up S q k x).1 q = upd (S.1 q) k x := by
  funext j
  simp [up, upd]
theorem up_ne {S : St} {q k : Nat} {x : Int32} {i : Nat} (h : i ≠ q) : (up S q k x).1 i = S.1 i := by
  funext j
  simp [up, h]
theorem upc_row (S : St) (q0 q sp dp n : Nat) : (upc S q0 q sp dp n).1 q = va_cpy (S.1 q0) (S.1 q) sp dp n := by simp [upc]
theorem upc_ne {S : St} {q0 q sp dp n i : Nat} (h : i ≠ q) : (upc S q0 q sp dp n).1 i = S.1 i := by simp [upc, h]
-- ===== the world's faces =====
def zI (ad : Nat → Nat) : Prop := ∀ i j, i < NC → j < NC → ad i = ad j → i = j
def zA (ad : Nat → Nat) (sz : Nat) : Nat → Prop := fun q => (∃ i, i < NC ∧ q = ad i) ∨ sz ≤ q
theorem zA_in {ad : Nat → Nat} {sz i : Nat} (h : i < NC) : zA ad sz (ad i) := Or.inl ⟨i, h, rfl⟩
theorem zA_up {ad : Nat → Nat} {a b q : Nat} (h : a ≤ b) (hq : zA ad b q) : zA ad a q := hq.elim Or.inl (fun x => Or.inr (Nat.le_trans h x))
theorem z_D {ρ : zR} {S : St} {sz : Nat} (h : zI ρ.2.1) : va_D (zA ρ.2.1 sz) (world ρ S) := by
  refine ⟨fun i j p q hi hj e => ?_, fun k q hk => ?_⟩
  · obtain ⟨h1, rfl⟩ := world_of hi
    obtain ⟨h2, rfl⟩ := world_of hj
    exact h i j h1 h2 e
  · obtain ⟨h1, rfl⟩ := world_of hk
    exact zA_in h1
/-- what stays: the tables, the nest mates' words, the one text -/
def zE (ρ : zR) (A : Nat → Prop) (U : State) (H : Heap) : Prop :=
  va_K ρ.1 CL (ztys ρ) U ∧ (∀ w ∈ NWS, va_Nw w U) ∧ vk_R RX5 27 "tcdpfw" ρ.2.2.2.1 U ∧
  vk_S 1 [6] [[116, 99, 100, 112, 102, 119]] (fun _ => ρ.2.2.2.1) (fun _ => ρ.2.2.2.2) A U H ∧ va_Z "java/lang/String" "COMPACT_STRINGS" "Z" (.int 1) A U H
theorem nws_kind {w : Cond} (h : w ∈ NWS) : w.onTables = true ∧ ((∃ a i b n d o, w = .fieldLinkNest a i b n d o) ∨ ∃ a i x o, w = .methodLinkNest a i x o) := by
  have h2 := (List.mem_filter.mp h).2
  cases w <;> first | (simp [zNest] at h2; done) | exact ⟨rfl, Or.inl ⟨_, _, _, _, _, _, rfl⟩⟩ | exact ⟨rfl, Or.inr ⟨_, _, _, _, rfl⟩⟩
theorem zE.same {ρ : zR} {A : Nat → Prop} {u U : State} {H : Heap} (hv : U.vm = u.vm) (h : zE ρ A u H) : zE ρ A U H := by
  have hal : u.vm.Alike U.vm := by rw [hv]; exact Vm.Alike.refl _
  exact ⟨va_K.moved hal h.1, fun w hw => va_Nw.same (nws_kind hw).1 hv.symm (h.2.1 w hw), vk_R.same hv h.2.2.1, vk_S.moved hal h.2.2.2.1, va_Z.moved hal h.2.2.2.2⟩
theorem zE.warm {ρ : zR} {A : Nat → Prop} {s U : State} {H : Heap} (hW : s.WarmedH U.vm) (h : zE ρ A s H) : zE ρ A U H := by
  refine ⟨va_K.moved hW.alike h.1, fun w hw => ?_, vk_R.warm hW h.2.2.1, vk_S.moved hW.alike h.2.2.2.1, va_Z.moved hW.alike h.2.2.2.2⟩
  rcases (nws_kind hw).2 with ⟨a, i, b, n, d, o, rfl⟩ | ⟨a, i, x, o, rfl⟩
  · exact va_Nw.warmF hW (h.2.1 _ hw)
  · exact va_Nw.warmM hW (h.2.1 _ hw)
theorem zE.kept {ρ : zR} {A : Nat → Prop} {U : State} {H H1 : Heap} (h : zE ρ A U H) (hq : ∀ a : Nat, a < H.size → ¬ A a → H1[a]? = H[a]?) : zE ρ A U H1 :=
  ⟨h.1, h.2.1, h.2.2.1, h.2.2.2.1.kept hq, h.2.2.2.2.kept hq⟩
theorem zE.narrow {ρ : zR} {A B : Nat → Prop} {U : State} {H : Heap} (h : zE ρ A U H) (hAB : ∀ q, B q → A q) : zE ρ B U H :=
  ⟨h.1, h.2.1, h.2.2.1, h.2.2.2.1.narrow hAB, h.2.2.2.2.narrow hAB⟩
/-- a method: its class, its code, its locals, what it answers, its room -/
abbrev zM : Type := String × ByteArray × Nat × Option FieldType × Nat × Nat
abbrev zrm (M : zM) : Room := { frames := M.2.2.2.2.1, cells := 0, slots := 0, locals := M.2.2.2.2.2 }
def zQ (ρ : zR) (w : Option Value) (S' : St) (A : Nat → Prop) : Array Value → State → Outcome → State → Prop := fun _ st oc t =>
  (oc = .returned (w.map (rv ρ.2.1)) ∧ va_P ρ.1 CL (world ρ S') t.heap) ∧ va_F A st t
def zB (ρ : zR) (sz : Nat) (S : St) (U : State) : Prop := U.heap.size = sz ∧ zI ρ.2.1 ∧ va_P ρ.1 CL (world ρ S) U.heap ∧ zE ρ (zA ρ.2.1 sz) U U.heap
/-- the contract: from the store S, with these arguments, the method answers w, and the store is S' -/
def CT (l : Launch) (y : MethodName) (M : zM) (as : List Value) (S : St) (w : Option Value) (S' : St) : Prop :=
  ∀ (ρ : zR) (sz : Nat), Met l y (.code y M.2.1 M.2.2.1 M.2.2.2.1 :: WS) (zrm M) (va_Pc (as.map (rv ρ.2.1)) (zB ρ sz S)) (zQ ρ w S' (zA ρ.2.1 sz)) 0 0 (zA ρ.2.1 sz)
def zX (y : MethodName) (M : zM) (ρ : zR) (sz : Nat) (p : Program) (s : State) (m : MethodId) (args : Array Value) (meth : Method) (c : Code) : Prop :=
  p.tables.exec = Jvm.exec ∧ c.code = M.2.1 ∧ meth.sig.returnType = M.2.2.2.1 ∧ c.maxLocals = M.2.2.1 ∧ meth.locks = false ∧ s.vm.findClass y.cls = some m.cls ∧
  (∀ w ∈ (Cond.code y M.2.1 M.2.2.1 M.2.2.2.1 :: WS), w.before args s = true) ∧ s.heap.size = sz ∧ zI ρ.2.1 ∧ zE ρ (zA ρ.2.1 sz) s s.heap
def zl (ad : Nat → Nat) (q : Nat × Value) : Nat × Value := (q.1, rv ad q.2)
/-- the machine in the method, at pc, with these locals, this stack, this store, comes to its end with w, S' -/
def Z (l : Launch) (y : MethodName) (M : zM) (pc : Nat) (lv : List (Nat × Value)) (st : List Value) (S : St) (w : Option Value) (S' : St) : Prop :=
  ∀ (ρ : zR) (sz : Nat) (p : Program) (e : Env) (s : State) (m : MethodId) (args : Array Value) (below : List Frame) (meth : Method) (c : Code), zX y M ρ sz p s m args meth c →
    ∀ (H : Heap) (locs : List Loc) (ls : Array Slot), va_P ρ.1 CL (world ρ S) H → va_S (zA ρ.2.1 sz) s.heap H locs → lv_has ls M.2.2.1 (lv.map (zl ρ.2.1)) →
      W p l e (zrm M) s m args below meth c H locs 0 0 (MQ below (zQ ρ w S' (zA ρ.2.1 sz)) args s 0 0 (zA ρ.2.1 sz)) (F0 m pc ls (st.map (rv ρ.2.1)))
theorem zargs (ad : Nat → Nat) : ∀ (i : Nat) (as : List Value), lv_args i (as.map (rv ad)) = (lv_args i as).map (zl ad)
  | _, [] => rfl
  | i, v :: vs => by
    show (i, rv ad v) :: lv_args (if (rv ad v).category = 2 then i + 2 else i + 1) (vs.map (rv ad)) = (i, rv ad v) :: (lv_args (if v.category = 2 then i + 2 else i + 1) vs).map (zl ad)
    rw [rv_cat, zargs ad _ vs]
theorem zlen (ad : Nat → Nat) : ∀ as : List Value, (lg_sl (as.map (rv ad))).length = (as.map Value.category).sum
  | [] => rfl
  | v :: vs => by
    have h2 : (lg_sl ((v :: vs).map (rv ad))).length = (if (rv ad v).category = 2 then 2 else 1) + (lg_sl (vs.map (rv ad))).length := by
      simp only [lg_sl, List.map_cons, List.flatMap_cons, List.length_append]
      split <;> rfl
    rw [h2, zlen ad vs, rv_cat, List.map_cons, List.sum_cons]
    cases v <;> rfl
/-- from the walk to the contract -/
theorem ct_of {l : Launch} {y : MethodName} {M : zM} {as : List Value} {S : St} {w : Option Value} {S' : St} {lv : List (Nat × Value)} (hy : plainName y.cls = true) (hlv : lv_args 0 as = lv) (hn : (as.map Value.category).sum ≤ M.2.2.1) (k : Z l y M 0 lv [] S w S') : CT l y M as S w S' := by
  intro ρ sz
  refine Met.ofW (cc := M.2.1) (maxL := M.2.2.1) (ret := M.2.2.2.1) hy rfl ?_
  intro p e s m args below meth c s₁ B hml hv
  obtain ⟨rfl, hsz, hI, hP, hE⟩ := hv
  have hts := atoms_spec (ws := Cond.code y M.2.1 M.2.2.1 M.2.2.2.1 :: WS) B.pre
  have hown : s.vm.findClass y.cls = some m.cls := findClass_of_methodNamed B.named
  have hlen : (lg_sl (as.map (rv ρ.2.1))).length ≤ M.2.2.1 := Nat.le_trans (Nat.le_of_eq (zlen ρ.2.1 as)) hn
  have hl := lv_entry (as.map (rv ρ.2.1)) (n := M.2.2.1) hlen
  rw [lg_entry_eq]
  rw [zargs, hlv] at hl
  exact k ρ sz p e s m _ below meth c ⟨B.exec, B.bytes, B.returns, hml, B.notSynchronized, hown, hts, hsz, hI, hE⟩ s.heap [] _ hP va_S.rf hl
section ZZ
variable {l : Launch} {y : MethodName} {M : zM} {pc : Nat} {lv : List (Nat × Value)} {st : List Value} {S : St} {w : Option Value} {S' : St}
theorem z_iconst {n : Int} {v : Int32} (d : decode M.2.1 pc = .ok (.iconst n, 1)) (hv : Int32.ofInt n = v) (k : Z l y M (pc + 1) lv (.int v :: st) S w S') : Z l y M pc lv (st) S w S' := fun ρ sz p e s m args below meth c X H locs ls hP hS hl =>
  lv_iconst X.1 X.2.1 d hv (k ρ sz p e s m args below meth c X H locs ls hP hS hl)
theorem z_bipush {n : Int} {v : Int32} (d : decode M.2.1 pc = .ok (.bipush n, 2)) (hv : (Int8.ofInt n).toInt32 = v) (k : Z l y M (pc + 2) lv (.int v :: st) S w S') : Z l y M pc lv (st) S w S' := fun ρ sz p e s m args below meth c X H locs ls hP hS hl =>
  lv_bipush X.1 X.2.1 d hv (k ρ sz p e s m args below meth c X H locs ls hP hS hl)
theorem z_sipush {n : Int} {v : Int32} (d : decode M.2.1 pc = .ok (.sipush n, 3)) (hv : (Int16.ofInt n).toInt32 = v) (k : Z l y M (pc + 3) lv (.int v :: st) S w S') : Z l y M pc lv (st) S w S' := fun ρ sz p e s m args below meth c X H locs ls hP hS hl =>
  lv_sipush X.1 X.2.1 d hv (k ρ sz p e s m args below meth c X H locs ls hP hS hl)
theorem z_lconst {n : Fin 2} {v : Int64} (d : decode M.2.1 pc = .ok (.lconst n, 1)) (hv : Int64.ofNat (n : Nat) = v) (k : Z l y M (pc + 1) lv (.long v :: st) S w S') : Z l y M pc lv (st) S w S' := fun ρ sz p e s m args below meth c X H locs ls hP hS hl =>
  lv_lconst X.1 X.2.1 d hv (k ρ sz p e s m args below meth c X H locs ls hP hS hl)
theorem z_iadd {a b : Int32} (d : decode M.2.1 pc = .ok (.iadd, 1)) (k : Z l y M (pc + 1) lv (.int (a + b) :: st) S w S') : Z l y M pc lv (.int b :: .int a :: st) S w S' := fun ρ sz p e s m args below meth c X H locs ls hP hS hl =>
  lv_iadd X.1 X.2.1 d (k ρ sz p e s m args below meth c X H locs ls hP hS hl)
theorem z_isub {a b : Int32} (d : decode M.2.1 pc = .ok (.isub, 1)) (k : Z l y M (pc + 1) lv (.int (a - b) :: st) S w S') : Z l y M pc lv (.int b :: .int a :: st) S w S' := fun ρ sz p e s m args below meth c X H locs ls hP hS hl =>
  lv_isub X.1 X.2.1 d (k ρ sz p e s m args below meth c X H locs ls hP hS hl)
theorem z_imul {a b : Int32} (d : decode M.2.1 pc = .ok (.imul, 1)) (k : Z l y M (pc + 1) lv (.int (a * b) :: st) S w S') : Z l y M pc lv (.int b :: .int a :: st) S w S' := fun ρ sz p e s m args below meth c X H locs ls hP hS hl =>
  lv_imul X.1 X.2.1 d (k ρ sz p e s m args below meth c X H locs ls hP hS hl)
theorem z_ishl {a b : Int32} (d : decode M.2.1 pc = .ok (.ishl, 1)) (k : Z l y M (pc + 1) lv (.int (a <<< (b &&& 31)) :: st) S w S') : Z l y M pc lv (.int b :: .int a :: st) S w S' := fun ρ sz p e s m args below meth c X H locs ls hP hS hl =>
  lv_ishl X.1 X.2.1 d (k ρ sz p e s m args below meth c X H locs ls hP hS hl)
theorem z_ishr {a b : Int32} (d : decode M.2.1 pc = .ok (.ishr, 1)) (k : Z l y M (pc + 1) lv (.int (a >>> (b &&& 31)) :: st) S w S') : Z l y M pc lv (.int b :: .int a :: st) S w S' := fun ρ sz p e s m args below meth c X H locs ls hP hS hl =>
  lv_ishr X.1 X.2.1 d (k ρ sz p e s m args below meth c X H locs ls hP hS hl)
theorem z_iand {a b : Int32} (d : decode M.2.1 pc = .ok (.iand, 1)) (k : Z l y M (pc + 1) lv (.int (a &&& b) :: st) S w S') : Z l y M pc lv (.int b :: .int a :: st) S w S' := fun ρ sz p e s m args below meth c X H locs ls hP hS hl =>
  lv_iand X.1 X.2.1 d (k ρ sz p e s m args below meth c X H locs ls hP hS hl)
theorem z_ior {a b : Int32} (d : decode M.2.1 pc = .ok (.ior, 1)) (k : Z l y M (pc + 1) lv (.int (a ||| b) :: st) S w S') : Z l y M pc lv (.int b :: .int a :: st) S w S' := fun ρ sz p e s m args below meth c X H locs ls hP hS hl =>
  lv_ior X.1 X.2.1 d (k ρ sz p e s m args below meth c X H locs ls hP hS hl)
theorem z_ixor {a b : Int32} (d : decode M.2.1 pc = .ok (.ixor, 1)) (k : Z l y M (pc + 1) lv (.int (a ^^^ b) :: st) S w S') : Z l y M pc lv (.int b :: .int a :: st) S w S' := fun ρ sz p e s m args below meth c X H locs ls hP hS hl =>
  lv_ixor X.1 X.2.1 d (k ρ sz p e s m args below meth c X H locs ls hP hS hl)
theorem z_idiv {a b : Int32} (d : decode M.2.1 pc = .ok (.idiv, 1)) (h : ¬ b = 0) (k : Z l y M (pc + 1) lv (.int (a / b) :: st) S w S') : Z l y M pc lv (.int b :: .int a :: st) S w S' := fun ρ sz p e s m args below meth c X H locs ls hP hS hl =>
  lv_idiv X.1 X.2.1 d h (k ρ sz p e s m args below meth c X H locs ls hP hS hl)
theorem z_irem {a b : Int32} (d : decode M.2.1 pc = .ok (.irem, 1)) (h : ¬ b = 0) (k : Z l y M (pc + 1) lv (.int (a - a / b * b) :: st) S w S') : Z l y M pc lv (.int b :: .int a :: st) S w S' := fun ρ sz p e s m args below meth c X H locs ls hP hS hl =>
  lv_irem X.1 X.2.1 d h (k ρ sz p e s m args below meth c X H locs ls hP hS hl)
theorem z_ineg {a : Int32} (d : decode M.2.1 pc = .ok (.ineg, 1)) (k : Z l y M (pc + 1) lv (.int (-a) :: st) S w S') : Z l y M pc lv (.int a :: st) S w S' := fun ρ sz p e s m args below meth c X H locs ls hP hS hl =>
  lv_ineg X.1 X.2.1 d (k ρ sz p e s m args below meth c X H locs ls hP hS hl)
theorem z_i2l {a : Int32} (d : decode M.2.1 pc = .ok (.i2l, 1)) (k : Z l y M (pc + 1) lv (.long a.toInt64 :: st) S w S') : Z l y M pc lv (.int a :: st) S w S' := fun ρ sz p e s m args below meth c X H locs ls hP hS hl =>
  lv_i2l X.1 X.2.1 d rfl (k ρ sz p e s m args below meth c X H locs ls hP hS hl)
theorem z_i2c {a : Int32} (d : decode M.2.1 pc = .ok (.i2c, 1)) (k : Z l y M (pc + 1) lv (.int (a.toUInt32 % 65536).toInt32 :: st) S w S') : Z l y M pc lv (.int a :: st) S w S' := fun ρ sz p e s m args below meth c X H locs ls hP hS hl =>
  lv_i2c X.1 X.2.1 d rfl (k ρ sz p e s m args below meth c X H locs ls hP hS hl)
theorem z_ladd {a b : Int64} (d : decode M.2.1 pc = .ok (.ladd, 1)) (k : Z l y M (pc + 1) lv (.long (a + b) :: st) S w S') : Z l y M pc lv (.long b :: .long a :: st) S w S' := fun ρ sz p e s m args below meth c X H locs ls hP hS hl =>
  lv_ladd X.1 X.2.1 d (k ρ sz p e s m args below meth c X H locs ls hP hS hl)
theorem z_lsub {a b : Int64} (d : decode M.2.1 pc = .ok (.lsub, 1)) (k : Z l y M (pc + 1) lv (.long (a - b) :: st) S w S') : Z l y M pc lv (.long b :: .long a :: st) S w S' := fun ρ sz p e s m args below meth c X H locs ls hP hS hl =>
  lv_lsub X.1 X.2.1 d (k ρ sz p e s m args below meth c X H locs ls hP hS hl)
theorem z_lmul {a b : Int64} (d : decode M.2.1 pc = .ok (.lmul, 1)) (k : Z l y M (pc + 1) lv (.long (a * b) :: st) S w S') : Z l y M pc lv (.long b :: .long a :: st) S w S' := fun ρ sz p e s m args below meth c X H locs ls hP hS hl =>
  lv_lmul X.1 X.2.1 d (k ρ sz p e s m args below meth c X H locs ls hP hS hl)
theorem z_ldiv {a b : Int64} (d : decode M.2.1 pc = .ok (.ldiv, 1)) (h : ¬ b = 0) (k : Z l y M (pc + 1) lv (.long (a / b) :: st) S w S') : Z l y M pc lv (.long b :: .long a :: st) S w S' := fun ρ sz p e s m args below meth c X H locs ls hP hS hl =>
  lv_ldiv X.1 X.2.1 d h (k ρ sz p e s m args below meth c X H locs ls hP hS hl)
theorem z_lrem {a b : Int64} (d : decode M.2.1 pc = .ok (.lrem, 1)) (h : ¬ b = 0) (k : Z l y M (pc + 1) lv (.long (a - a / b * b) :: st) S w S') : Z l y M pc lv (.long b :: .long a :: st) S w S' := fun ρ sz p e s m args below meth c X H locs ls hP hS hl =>
  lv_lrem X.1 X.2.1 d h (k ρ sz p e s m args below meth c X H locs ls hP hS hl)
theorem z_lcmp {a b : Int64} (d : decode M.2.1 pc = .ok (.lcmp, 1)) (k : Z l y M (pc + 1) lv (.int (lg_cmp a b) :: st) S w S') : Z l y M pc lv (.long b :: .long a :: st) S w S' := fun ρ sz p e s m args below meth c X H locs ls hP hS hl =>
  W.lcmp X.1 X.2.1 d (k ρ sz p e s m args below meth c X H locs ls hP hS hl)
theorem z_dup {v : Value} (d : decode M.2.1 pc = .ok (.dup, 1)) (hv : v.category = 1) (k : Z l y M (pc + 1) lv (v :: v :: st) S w S') : Z l y M pc lv (v :: st) S w S' := fun ρ sz p e s m args below meth c X H locs ls hP hS hl =>
  lv_dup X.1 X.2.1 d (by rw [rv_cat]; exact hv) (k ρ sz p e s m args below meth c X H locs ls hP hS hl)
theorem z_pop {v : Value} (d : decode M.2.1 pc = .ok (.pop, 1)) (hv : v.category = 1) (k : Z l y M (pc + 1) lv st S w S') : Z l y M pc lv (v :: st) S w S' := fun ρ sz p e s m args below meth c X H locs ls hP hS hl =>
  lv_pop X.1 X.2.1 d (by rw [rv_cat]; exact hv) (k ρ sz p e s m args below meth c X H locs ls hP hS hl)
theorem z_dup2 {v u : Value} (d : decode M.2.1 pc = .ok (.dup2, 1)) (hv : v.category = 1) (hu : u.category = 1) (k : Z l y M (pc + 1) lv (v :: u :: v :: u :: st) S w S') : Z l y M pc lv (v :: u :: st) S w S' := fun ρ sz p e s m args below meth c X H locs ls hP hS hl =>
  lv_dup2_11 X.1 X.2.1 d (by rw [rv_cat]; exact hv) (by rw [rv_cat]; exact hu) (k ρ sz p e s m args below meth c X H locs ls hP hS hl)
theorem zl_at {ad : Nat → Nat} {ls : Array Slot} {n : Nat} {lv : List (Nat × Value)} (hl : lv_has ls n (lv.map (zl ad))) {j i : Nat} {v : Value} (h : lv[j]? = some (i, v)) : ls[i]? = some (.val (rv ad v)) :=
  lv_at hl j (i := i) (v := rv ad v) (by rw [List.getElem?_map, h]; rfl)
theorem z_iload_n {k : Fin 4} {v : Int32} (j : Nat) (d : decode M.2.1 pc = .ok (.iload_n k, 1)) (h : lv[j]? = some ((k : Nat), .int v)) (kk : Z l y M (pc + 1) lv (.int v :: st) S w S') : Z l y M pc lv st S w S' := fun ρ sz p e s m args below meth c X H locs ls hP hS hl =>
  lv_iload_n X.1 X.2.1 d rfl (zl_at hl h) (kk ρ sz p e s m args below meth c X H locs ls hP hS hl)
theorem z_iload {i : Nat} {v : Int32} (j : Nat) (d : decode M.2.1 pc = .ok (.iload i, 2)) (h : lv[j]? = some (i, .int v)) (kk : Z l y M (pc + 2) lv (.int v :: st) S w S') : Z l y M pc lv st S w S' := fun ρ sz p e s m args below meth c X H locs ls hP hS hl =>
  lv_iload X.1 X.2.1 d (zl_at hl h) (kk ρ sz p e s m args below meth c X H locs ls hP hS hl)
theorem z_lload_n {k : Fin 4} {v : Int64} (j : Nat) (d : decode M.2.1 pc = .ok (.lload_n k, 1)) (h : lv[j]? = some ((k : Nat), .long v)) (kk : Z l y M (pc + 1) lv (.long v :: st) S w S') : Z l y M pc lv st S w S' := fun ρ sz p e s m args below meth c X H locs ls hP hS hl =>
  lv_lload_n X.1 X.2.1 d rfl (zl_at hl h) (kk ρ sz p e s m args below meth c X H locs ls hP hS hl)
theorem z_lload {i : Nat} {v : Int64} (j : Nat) (d : decode M.2.1 pc = .ok (.lload i, 2)) (h : lv[j]? = some (i, .long v)) (kk : Z l y M (pc + 2) lv (.long v :: st) S w S') : Z l y M pc lv st S w S' := fun ρ sz p e s m args below meth c X H locs ls hP hS hl =>
  lv_lload X.1 X.2.1 d (zl_at hl h) (kk ρ sz p e s m args below meth c X H locs ls hP hS hl)
theorem z_aload_n {k : Fin 4} {v : Nat} (j : Nat) (d : decode M.2.1 pc = .ok (.aload_n k, 1)) (h : lv[j]? = some ((k : Nat), .ref v)) (kk : Z l y M (pc + 1) lv (.ref v :: st) S w S') : Z l y M pc lv st S w S' := fun ρ sz p e s m args below meth c X H locs ls hP hS hl =>
  lv_aload_n X.1 X.2.1 d rfl (zl_at hl h) (kk ρ sz p e s m args below meth c X H locs ls hP hS hl)
theorem z_aload {i : Nat} {v : Nat} (j : Nat) (d : decode M.2.1 pc = .ok (.aload i, 2)) (h : lv[j]? = some (i, .ref v)) (kk : Z l y M (pc + 2) lv (.ref v :: st) S w S') : Z l y M pc lv st S w S' := fun ρ sz p e s m args below meth c X H locs ls hP hS hl =>
  lv_aload X.1 X.2.1 d (zl_at hl h) (kk ρ sz p e s m args below meth c X H locs ls hP hS hl)
theorem zpick {ad : Nat → Nat} {ls : Array Slot} {n : Nat} {l1 l2 : List (Nat × Value)} (ks : List Nat) (hl : lv_has ls n (l1.map (zl ad))) (h : lv_pick l1 ks = l2) : lv_has ls n (l2.map (zl ad)) := by
  refine lv_sub hl ks ?_
  subst h
  simp only [lv_pick]
  induction ks with
  | nil => rfl
  | cons k ks ih =>
    simp only [List.filterMap_cons, List.getElem?_map]
    cases l1[k]? with
    | none => simpa using ih
    | some q => simp only [Option.map_some, List.map_cons]; rw [← ih]; simp [List.getElem?_map]
def zf1 (i : Nat) (lv : List (Nat × Value)) : List (Nat × Value) := lv.filter (fun q => !(q.1 == i) && !(q.1 + 1 == i && q.2.category == 2))
def zf2 (i : Nat) (lv : List (Nat × Value)) : List (Nat × Value) := lv.filter (fun q => !(q.1 == i) && (!(q.1 == i + 1) && !(q.1 + 1 == i && q.2.category == 2)))
theorem zf1_map (ad : Nat → Nat) (i : Nat) (v : Value) (lv : List (Nat × Value)) : (i, rv ad v) :: (lv.map (zl ad)).filter (fun q => !(q.1 == i) && !(q.1 + 1 == i && q.2.category == 2)) = ((i, v) :: zf1 i lv).map (zl ad) := by
  simp only [List.map_cons, zf1, List.filter_map]
  congr 2
  apply List.filter_congr
  intro q _
  simp [zl, rv_cat]
theorem zf2_map (ad : Nat → Nat) (i : Nat) (v : Value) (lv : List (Nat × Value)) : (i, rv ad v) :: (lv.map (zl ad)).filter (fun q => !(q.1 == i) && (!(q.1 == i + 1) && !(q.1 + 1 == i && q.2.category == 2))) = ((i, v) :: zf2 i lv).map (zl ad) := by
  simp only [List.map_cons, zf2, List.filter_map]
  congr 2
  apply List.filter_congr
  intro q _
  simp [zl, rv_cat]
theorem z_istore_n {k : Fin 4} {v : Int32} {lv' : List (Nat × Value)} (ks : List Nat) (d : decode M.2.1 pc = .ok (.istore_n k, 1)) (hn : (k : Nat) < M.2.2.1) (h : lv_pick (((k : Nat), .int v) :: zf1 k lv) ks = lv') (kk : Z l y M (pc + 1) lv' st S w S') : Z l y M pc lv (.int v :: st) S w S' := fun ρ sz p e s m args below meth c X H locs ls hP hS hl =>
  lv_istore_n X.1 X.2.1 d rfl hl hn (zf1_map ρ.2.1 k (.int v) lv) (fun ls' hl' => kk ρ sz p e s m args below meth c X H locs ls' hP hS (zpick ks hl' h))
theorem z_istore {i : Nat} {v : Int32} {lv' : List (Nat × Value)} (ks : List Nat) (d : decode M.2.1 pc = .ok (.istore i, 2)) (hn : i < M.2.2.1) (h : lv_pick ((i, .int v) :: zf1 i lv) ks = lv') (kk : Z l y M (pc + 2) lv' st S w S') : Z l y M pc lv (.int v :: st) S w S' := fun ρ sz p e s m args below meth c X H locs ls hP hS hl =>
  lv_istore X.1 X.2.1 d hl hn (zf1_map ρ.2.1 i (.int v) lv) (fun ls' hl' => kk ρ sz p e s m args below meth c X H locs ls' hP hS (zpick ks hl' h))
theorem z_astore_n {k : Fin 4} {v : Nat} {lv' : List (Nat × Value)} (ks : List Nat) (d : decode M.2.1 pc = .ok (.astore_n k, 1)) (hn : (k : Nat) < M.2.2.1) (h : lv_pick (((k : Nat), .ref v) :: zf1 k lv) ks = lv') (kk : Z l y M (pc + 1) lv' st S w S') : Z l y M pc lv (.ref v :: st) S w S' := fun ρ sz p e s m args below meth c X H locs ls hP hS hl =>
  lv_astore_n X.1 X.2.1 d rfl hl hn (zf1_map ρ.2.1 k (.ref v) lv) (fun ls' hl' => kk ρ sz p e s m args below meth c X H locs ls' hP hS (zpick ks hl' h))
theorem z_astore {i : Nat} {v : Nat} {lv' : List (Nat × Value)} (ks : List Nat) (d : decode M.2.1 pc = .ok (.astore i, 2)) (hn : i < M.2.2.1) (h : lv_pick ((i, .ref v) :: zf1 i lv) ks = lv') (kk : Z l y M (pc + 2) lv' st S w S') : Z l y M pc lv (.ref v :: st) S w S' := fun ρ sz p e s m args below meth c X H locs ls hP hS hl =>
  lv_astore X.1 X.2.1 d hl hn (zf1_map ρ.2.1 i (.ref v) lv) (fun ls' hl' => kk ρ sz p e s m args below meth c X H locs ls' hP hS (zpick ks hl' h))
theorem z_lstore_n {k : Fin 4} {v : Int64} {lv' : List (Nat × Value)} (ks : List Nat) (d : decode M.2.1 pc = .ok (.lstore_n k, 1)) (hn : (k : Nat) + 1 < M.2.2.1) (h : lv_pick (((k : Nat), .long v) :: zf2 k lv) ks = lv') (kk : Z l y M (pc + 1) lv' st S w S') : Z l y M pc lv (.long v :: st) S w S' := fun ρ sz p e s m args below meth c X H locs ls hP hS hl =>
  lv_lstore_n X.1 X.2.1 d rfl hl hn (zf2_map ρ.2.1 k (.long v) lv) (fun ls' hl' => kk ρ sz p e s m args below meth c X H locs ls' hP hS (zpick ks hl' h))
theorem z_lstore {i : Nat} {v : Int64} {lv' : List (Nat × Value)} (ks : List Nat) (d : decode M.2.1 pc = .ok (.lstore i, 2)) (hn : i + 1 < M.2.2.1) (h : lv_pick ((i, .long v) :: zf2 i lv) ks = lv') (kk : Z l y M (pc + 2) lv' st S w S') : Z l y M pc lv (.long v :: st) S w S' := fun ρ sz p e s m args below meth c X H locs ls hP hS hl =>
  lv_lstore X.1 X.2.1 d hl hn (zf2_map ρ.2.1 i (.long v) lv) (fun ls' hl' => kk ρ sz p e s m args below meth c X H locs ls' hP hS (zpick ks hl' h))
theorem z_iinc {i : Nat} {n : Int} {x v : Int32} {lv' : List (Nat × Value)} (j : Nat) (ks : List Nat) (d : decode M.2.1 pc = .ok (.iinc i n, 3)) (hx : lv[j]? = some (i, .int x)) (hv : x + Int32.ofInt n = v) (hn : i < M.2.2.1) (h : lv_pick ((i, .int v) :: zf1 i lv) ks = lv') (kk : Z l y M (pc + 3) lv' st S w S') : Z l y M pc lv st S w S' := fun ρ sz p e s m args below meth c X H locs ls hP hS hl =>
  lv_iinc (k := j) X.1 X.2.1 d hl (by rw [List.getElem?_map, hx]; rfl) hv hn (zf1_map ρ.2.1 i (.int v) lv) (fun ls' hl' => kk ρ sz p e s m args below meth c X H locs ls' hP hS (zpick ks hl' h))
/-- fewer locals, in any order -/
theorem z_sub {lv' : List (Nat × Value)} (ks : List Nat) (h : lv_pick lv ks = lv') (kk : Z l y M pc lv' st S w S') : Z l y M pc lv st S w S' := fun ρ sz p e s m args below meth c X H locs ls hP hS hl =>
  kk ρ sz p e s m args below meth c X H locs ls hP hS (zpick ks hl h)
theorem z_goto {off : Int} {tgt : Nat} (d : decode M.2.1 pc = .ok (.goto off, 3)) (ht : (pc : Int) + off = (tgt : Int)) (k : Z l y M tgt lv st S w S') : Z l y M pc lv st S w S' := fun ρ sz p e s m args below meth c X H locs ls hP hS hl =>
  lv_goto X.1 X.2.1 d ht (k ρ sz p e s m args below meth c X H locs ls hP hS hl)
theorem z_icmp_eq {a b : Int32} {off : Int} {tgt : Nat} (d : decode M.2.1 pc = .ok (.if_icmp .eq off, 3)) (ht : (pc : Int) + off = (tgt : Int)) (kt : a = b → Z l y M tgt lv st S w S') (kf : ¬ a = b → Z l y M (pc + 3) lv st S w S') : Z l y M pc lv (.int b :: .int a :: st) S w S' := fun ρ sz p e s m args below meth c X H locs ls hP hS hl =>
  lv_icmp_eq X.1 X.2.1 d ht (fun q => kt q ρ sz p e s m args below meth c X H locs ls hP hS hl) (fun q => kf q ρ sz p e s m args below meth c X H locs ls hP hS hl)
theorem z_icmp_ne {a b : Int32} {off : Int} {tgt : Nat} (d : decode M.2.1 pc = .ok (.if_icmp .ne off, 3)) (ht : (pc : Int) + off = (tgt : Int)) (kt : ¬ a = b → Z l y M tgt lv st S w S') (kf : a = b → Z l y M (pc + 3) lv st S w S') : Z l y M pc lv (.int b :: .int a :: st) S w S' := fun ρ sz p e s m args below meth c X H locs ls hP hS hl =>
  lv_icmp_ne X.1 X.2.1 d ht (fun q => kt q ρ sz p e s m args below meth c X H locs ls hP hS hl) (fun q => kf q ρ sz p e s m args below meth c X H locs ls hP hS hl)
theorem z_icmp_lt {a b : Int32} {off : Int} {tgt : Nat} (d : decode M.2.1 pc = .ok (.if_icmp .lt off, 3)) (ht : (pc : Int) + off = (tgt : Int)) (kt : a < b → Z l y M tgt lv st S w S') (kf : ¬ a < b → Z l y M (pc + 3) lv st S w S') : Z l y M pc lv (.int b :: .int a :: st) S w S' := fun ρ sz p e s m args below meth c X H locs ls hP hS hl =>
  lv_icmp_lt X.1 X.2.1 d ht (fun q => kt q ρ sz p e s m args below meth c X H locs ls hP hS hl) (fun q => kf q ρ sz p e s m args below meth c X H locs ls hP hS hl)
theorem z_icmp_ge {a b : Int32} {off : Int} {tgt : Nat} (d : decode M.2.1 pc = .ok (.if_icmp .ge off, 3)) (ht : (pc : Int) + off = (tgt : Int)) (kt : b ≤ a → Z l y M tgt lv st S w S') (kf : ¬ b ≤ a → Z l y M (pc + 3) lv st S w S') : Z l y M pc lv (.int b :: .int a :: st) S w S' := fun ρ sz p e s m args below meth c X H locs ls hP hS hl =>
  lv_icmp_ge X.1 X.2.1 d ht (fun q => kt q ρ sz p e s m args below meth c X H locs ls hP hS hl) (fun q => kf q ρ sz p e s m args below meth c X H locs ls hP hS hl)
theorem z_icmp_gt {a b : Int32} {off : Int} {tgt : Nat} (d : decode M.2.1 pc = .ok (.if_icmp .gt off, 3)) (ht : (pc : Int) + off = (tgt : Int)) (kt : b < a → Z l y M tgt lv st S w S') (kf : ¬ b < a → Z l y M (pc + 3) lv st S w S') : Z l y M pc lv (.int b :: .int a :: st) S w S' := fun ρ sz p e s m args below meth c X H locs ls hP hS hl =>
  lv_icmp_gt X.1 X.2.1 d ht (fun q => kt q ρ sz p e s m args below meth c X H locs ls hP hS hl) (fun q => kf q ρ sz p e s m args below meth c X H locs ls hP hS hl)
theorem z_icmp_le {a b : Int32} {off : Int} {tgt : Nat} (d : decode M.2.1 pc = .ok (.if_icmp .le off, 3)) (ht : (pc : Int) + off = (tgt : Int)) (kt : a ≤ b → Z l y M tgt lv st S w S') (kf : ¬ a ≤ b → Z l y M (pc + 3) lv st S w S') : Z l y M pc lv (.int b :: .int a :: st) S w S' := fun ρ sz p e s m args below meth c X H locs ls hP hS hl =>
  lv_icmp_le X.1 X.2.1 d ht (fun q => kt q ρ sz p e s m args below meth c X H locs ls hP hS hl) (fun q => kf q ρ sz p e s m args below meth c X H locs ls hP hS hl)
theorem z_if_eq {a : Int32} {off : Int} {tgt : Nat} (d : decode M.2.1 pc = .ok (.ifCond .eq off, 3)) (ht : (pc : Int) + off = (tgt : Int)) (kt : a = 0 → Z l y M tgt lv st S w S') (kf : ¬ a = 0 → Z l y M (pc + 3) lv st S w S') : Z l y M pc lv (.int a :: st) S w S' := fun ρ sz p e s m args below meth c X H locs ls hP hS hl =>
  lv_if_eq X.1 X.2.1 d ht (fun q => kt q ρ sz p e s m args below meth c X H locs ls hP hS hl) (fun q => kf q ρ sz p e s m args below meth c X H locs ls hP hS hl)
theorem z_if_ne {a : Int32} {off : Int} {tgt : Nat} (d : decode M.2.1 pc = .ok (.ifCond .ne off, 3)) (ht : (pc : Int) + off = (tgt : Int)) (kt : ¬ a = 0 → Z l y M tgt lv st S w S') (kf : a = 0 → Z l y M (pc + 3) lv st S w S') : Z l y M pc lv (.int a :: st) S w S' := fun ρ sz p e s m args below meth c X H locs ls hP hS hl =>
  lv_if_ne X.1 X.2.1 d ht (fun q => kt q ρ sz p e s m args below meth c X H locs ls hP hS hl) (fun q => kf q ρ sz p e s m args below meth c X H locs ls hP hS hl)
theorem z_if_lt {a : Int32} {off : Int} {tgt : Nat} (d : decode M.2.1 pc = .ok (.ifCond .lt off, 3)) (ht : (pc : Int) + off = (tgt : Int)) (kt : a < 0 → Z l y M tgt lv st S w S') (kf : ¬ a < 0 → Z l y M (pc + 3) lv st S w S') : Z l y M pc lv (.int a :: st) S w S' := fun ρ sz p e s m args below meth c X H locs ls hP hS hl =>
  lv_if_lt X.1 X.2.1 d ht (fun q => kt q ρ sz p e s m args below meth c X H locs ls hP hS hl) (fun q => kf q ρ sz p e s m args below meth c X H locs ls hP hS hl)
theorem z_if_ge {a : Int32} {off : Int} {tgt : Nat} (d : decode M.2.1 pc = .ok (.ifCond .ge off, 3)) (ht : (pc : Int) + off = (tgt : Int)) (kt : 0 ≤ a → Z l y M tgt lv st S w S') (kf : ¬ 0 ≤ a → Z l y M (pc + 3) lv st S w S') : Z l y M pc lv (.int a :: st) S w S' := fun ρ sz p e s m args below meth c X H locs ls hP hS hl =>
  lv_if_ge X.1 X.2.1 d ht (fun q => kt q ρ sz p e s m args below meth c X H locs ls hP hS hl) (fun q => kf q ρ sz p e s m args below meth c X H locs ls hP hS hl)
theorem z_if_gt {a : Int32} {off : Int} {tgt : Nat} (d : decode M.2.1 pc = .ok (.ifCond .gt off, 3)) (ht : (pc : Int) + off = (tgt : Int)) (kt : 0 < a → Z l y M tgt lv st S w S') (kf : ¬ 0 < a → Z l y M (pc + 3) lv st S w S') : Z l y M pc lv (.int a :: st) S w S' := fun ρ sz p e s m args below meth c X H locs ls hP hS hl =>
  lv_if_gt X.1 X.2.1 d ht (fun q => kt q ρ sz p e s m args below meth c X H locs ls hP hS hl) (fun q => kf q ρ sz p e s m args below meth c X H locs ls hP hS hl)
theorem z_if_le {a : Int32} {off : Int} {tgt : Nat} (d : decode M.2.1 pc = .ok (.ifCond .le off, 3)) (ht : (pc : Int) + off = (tgt : Int)) (kt : a ≤ 0 → Z l y M tgt lv st S w S') (kf : ¬ a ≤ 0 → Z l y M (pc + 3) lv st S w S') : Z l y M pc lv (.int a :: st) S w S' := fun ρ sz p e s m args below meth c X H locs ls hP hS hl =>
  lv_if_le X.1 X.2.1 d ht (fun q => kt q ρ sz p e s m args below meth c X H locs ls hP hS hl) (fun q => kf q ρ sz p e s m args below meth c X H locs ls hP hS hl)
theorem z_lookup {dflt : Int} {ps : Array (Int × Int)} {len : Nat} {x : Int32} {off : Int} {tgt : Nat} (d : decode M.2.1 pc = .ok (.lookupswitch dflt ps, len)) (hp : (ps.toList.zip (ps.toList.drop 1)).all (fun (a, next) => a.1 < next.1) = true) (ho : Op.lookupswitch.offset ps.toList dflt x.toInt = off) (ht : (pc : Int) + off = (tgt : Int)) (k : Z l y M tgt lv st S w S') : Z l y M pc lv (.int x :: st) S w S' := fun ρ sz p e s m args below meth c X H locs ls hP hS hl =>
  lv_lookup X.1 X.2.1 d hp ho ht (k ρ sz p e s m args below meth c X H locs ls hP hS hl)
theorem z_tableOut {dflt lo hi : Int} {offs : Array Int} {len : Nat} {x : Int32} {tgt : Nat} (d : decode M.2.1 pc = .ok (.tableswitch dflt lo hi offs, len)) (h : x.toInt < lo ∨ hi < x.toInt) (ht : (pc : Int) + dflt = (tgt : Int)) (k : Z l y M tgt lv st S w S') : Z l y M pc lv (.int x :: st) S w S' := fun ρ sz p e s m args below meth c X H locs ls hP hS hl =>
  lv_tableOut X.1 X.2.1 d h ht (k ρ sz p e s m args below meth c X H locs ls hP hS hl)
theorem z_tableIn {dflt lo hi : Int} {offs : Array Int} {len : Nat} {x : Int32} {off : Int} {tgt : Nat} (d : decode M.2.1 pc = .ok (.tableswitch dflt lo hi offs, len)) (h1 : ¬ x.toInt < lo) (h2 : ¬ hi < x.toInt) (ho : offs[(x.toInt - lo).toNat]? = some off) (ht : (pc : Int) + off = (tgt : Int)) (k : Z l y M tgt lv st S w S') : Z l y M pc lv (.int x :: st) S w S' := fun ρ sz p e s m args below meth c X H locs ls hP hS hl =>
  lv_tableIn X.1 X.2.1 d h1 h2 ho ht (k ρ sz p e s m args below meth c X H locs ls hP hS hl)
theorem z_ldc {index : Nat} {v : Int32} (hc : Cond.constant y.cls index v ∈ WS) (d : decode M.2.1 pc = .ok (.ldc index, 2)) (k : Z l y M (pc + 2) lv (.int v :: st) S w S') : Z l y M pc lv st S w S' := fun ρ sz p e s m args below meth c X H locs ls hP hS hl =>
  lv_ldc X.1 X.2.1 X.2.2.2.2.2.1 (X.2.2.2.2.2.2.1 _ (List.mem_cons_of_mem _ hc)) d (k ρ sz p e s m args below meth c X H locs ls hP hS hl)
theorem z_ldc2 {index : Nat} {v : Int64} (hc : Cond.constantLong y.cls index v ∈ WS) (d : decode M.2.1 pc = .ok (.ldc2_w index, 3)) (k : Z l y M (pc + 3) lv (.long v :: st) S w S') : Z l y M pc lv st S w S' := fun ρ sz p e s m args below meth c X H locs ls hP hS hl =>
  lv_ldc2 X.1 X.2.1 X.2.2.2.2.2.1 (X.2.2.2.2.2.2.1 _ (List.mem_cons_of_mem _ hc)) d (k ρ sz p e s m args below meth c X H locs ls hP hS hl)
theorem zc_obj {ρ : zR} {S : St} {q ci : Nat} (hk : kd q = ci) (hc : ci < 9) : zc ρ S q = .inr (ci, (zf ci q (S.1 q)).map (rv ρ.2.1)) := by
  unfold zc zk
  rw [hk, if_pos hc]
theorem zc_ints {ρ : zR} {S : St} {q k : Nat} (hk : kd q = k) (hc : ¬ k < 9) (h2 : k < 20) : zc ρ S q = .inl (ρ.2.2.1.1, (il k, .inl (S.1 q))) := by
  unfold zc zk
  rw [hk, if_neg hc, if_pos h2]
theorem zc_things {ρ : zR} {S : St} {q : Nat} (hk : kd q = 20) : zc ρ S q = .inl (ρ.2.2.1.2.2, (8, .inr (.inr (.inr (.inr (fun j => some (ρ.2.1 (q + 2 + 2 * j)))))))) := by
  unfold zc zk
  rw [hk, if_neg (by decide), if_neg (by decide), if_pos rfl]
theorem zc_longs {ρ : zR} {S : St} {q : Nat} (hk : kd q = 21) : zc ρ S q = .inl (ρ.2.2.1.2.1, (9, .inr (.inl S.2))) := by
  unfold zc zk
  rw [hk, if_neg (by decide), if_neg (by decide), if_neg (by decide)]
theorem zc_up_ne {ρ : zR} {S : St} {q k : Nat} {x : Int32} {i : Nat} (h : i ≠ q) : zc ρ (up S q k x) i = zc ρ S i := by
  unfold zc
  rw [up_ne h]
  rfl
theorem zc_upc_ne {ρ : zR} {S : St} {q0 q sp dp n i : Nat} (h : i ≠ q) : zc ρ (upc S q0 q sp dp n) i = zc ρ S i := by
  unfold zc
  rw [upc_ne h]
  rfl
/-- a link of a field: own class' entry idx is field k of class ci -/
def zFL (own : String) (idx : Nat) (ci k : Nat) : Prop := ∃ (C : String) (T : u_T) (N : Nat), CL[ci]? = some (C, T, N) ∧ ci < 9 ∧ k < N ∧ (∀ w ∈ u_ws C T N, w ∈ WS) ∧ (T k).1 = C ∧
  (Cond.fieldLink own idx C (T k).2.1 (T k).2.2.1 ∈ WS ∨ ∃ host, Cond.fieldLinkNest own idx C (T k).2.1 (T k).2.2.1 host ∈ NWS)
theorem z_get {idx q ci fk : Nat} {v : Value} (d : decode M.2.1 pc = .ok (.getfield idx, 3)) (lk : zFL y.cls idx ci fk) (hk : kd q = ci) (hv : (zf ci q (S.1 q))[fk]? = some v) (k : Z l y M (pc + 3) lv (v :: st) S w S') : Z l y M pc lv (.ref q :: st) S w S' := by
  intro ρ sz p e s m args below meth c X H locs ls hP hS hl
  obtain ⟨C, T, N, h1, h2, h3, h4, h5, h6⟩ := lk
  obtain ⟨hx, hb, hr, hml, hlo, hown, hts, hsz, hI, hE⟩ := id X
  have he : (world ρ S)[q]? = some (ρ.2.1 q, .inr (ci, (zf ci q (S.1 q)).map (rv ρ.2.1))) := by
    rw [world_at ρ S (kd_lt hk (by omega)), zc_obj hk h2]
  have hv' : ((zf ci q (S.1 q)).map (rv ρ.2.1))[fk]? = some (rv ρ.2.1 v) := by rw [List.getElem?_map, hv]; rfl
  have kk := k ρ sz p e s m args below meth c X H locs ls hP hS hl
  have hin : ∀ w ∈ u_ws C T N, w ∈ (Cond.code y M.2.1 M.2.2.1 M.2.2.2.1 :: WS) := fun w hw => List.mem_cons_of_mem _ (h4 w hw)
  rcases h6 with h6 | ⟨host, h6⟩
  · exact va_get (D := ρ.1) (ci := ci) (ref := C) (C := C) (T := T) (N := N) hx hb hts hin hown hE.1 hP q he h1 fk h3 (hts _ (List.mem_cons_of_mem _ h6)) (by rw [h5]; exact fun _ h9 => h9) hv' d kk
  · exact va_getN (D := ρ.1) (ci := ci) (ref := C) (C := C) (T := T) (N := N) hx hb hts hin hown hE.1 hP q he h1 fk h3 (va_Nw.use rfl (hE.2.1 _ h6)) (by rw [h5]; exact fun _ h9 => h9) hv' d kk
/-- what a field may be written with -/
def zFP (ci k : Nat) (ty : FieldType) : Prop := ∃ (C : String) (T : u_T) (N : Nat) (ty0 : Nat → FieldType), CL[ci]? = some (C, T, N) ∧ (∀ k, k < N → parseFieldDescriptor (T k).2.2.1 = some (ty0 k)) ∧ (∀ a, a < N → ∀ b, b < N → a ≠ b → (T a).2.1 ≠ (T b).2.1) ∧ (T k).2.2.2 = false ∧ parseFieldDescriptor (T k).2.2.1 = some ty
theorem z_put {idx q ci fk : Nat} {x : Int32} {ty : FieldType} (d : decode M.2.1 pc = .ok (.putfield idx, 3)) (lk : zFL y.cls idx ci fk) (lp : zFP ci fk ty) (hk : kd q = ci) (hn : narrow ty (.int x) = .int x) (hfit : fits ty (.int x) = true) (hv : zf ci q (upd (S.1 q) fk x) = (zf ci q (S.1 q)).set fk (.int x)) (hl0 : fk < (zf ci q (S.1 q)).length) (k : Z l y M (pc + 3) lv st (up S q fk x) w S') : Z l y M pc lv (.int x :: .ref q :: st) S w S' := by
  intro ρ sz p e s m args below meth c X H locs ls hP hS hl
  obtain ⟨C, T, N, h1, h2, h3, h4, h5, h6⟩ := lk
  obtain ⟨C', T', N', ty0, g1, g2, g3, g4, g5⟩ := lp
  obtain ⟨rfl, rfl, rfl⟩ : C' = C ∧ T' = T ∧ N' = N := by
    have := g1.symm.trans h1
    simpa using this
  obtain ⟨hx, hb, hr, hml, hlo, hown, hts, hsz, hI, hE⟩ := id X
  have hq : q < NC := kd_lt hk (by omega)
  have he : (world ρ S)[q]? = some (ρ.2.1 q, .inr (ci, (zf ci q (S.1 q)).map (rv ρ.2.1))) := by
    rw [world_at ρ S hq, zc_obj hk h2]
  have hin : ∀ w ∈ u_ws C' T' N', w ∈ (Cond.code y M.2.1 M.2.2.1 M.2.2.2.1 :: WS) := fun w hw => List.mem_cons_of_mem _ (h4 w hw)
  have hw : (world ρ S).set q (ρ.2.1 q, .inr (ci, ((zf ci q (S.1 q)).map (rv ρ.2.1)).set fk (.int x))) = world ρ (up S q fk x) := by
    refine world_set ?_ (fun i _ h => zc_up_ne h)
    rw [zc_obj hk h2, up_row, hv, List.map_set]
    rfl
  have kk : ∀ (H1 : Heap) (locs1 : List Loc), va_P ρ.1 CL ((world ρ S).set q (ρ.2.1 q, .inr (ci, ((zf ci q (S.1 q)).map (rv ρ.2.1)).set fk (.int x)))) H1 → va_D (zA ρ.2.1 sz) ((world ρ S).set q (ρ.2.1 q, .inr (ci, ((zf ci q (S.1 q)).map (rv ρ.2.1)).set fk (.int x)))) → va_S (zA ρ.2.1 sz) s.heap H1 locs1 → W p l e (zrm M) s m args below meth c H1 locs1 0 0 (MQ below (zQ ρ w S' (zA ρ.2.1 sz)) args s 0 0 (zA ρ.2.1 sz)) (F0 m (pc + 3) ls (st.map (rv ρ.2.1))) := by
    intro H1 locs1 p1 _ s1
    rw [hw] at p1
    exact k ρ sz p e s m args below meth c X H1 locs1 ls p1 s1 hl
  rcases h6 with h6 | ⟨host, h6⟩
  · exact va_put (D := ρ.1) (ci := ci) (v := .int x) (ref := C') (C := C') (T := T') (N := N') hx hb hts hin ty0 g2 g3 hown hE.1 hP (z_D hI) hS q he h1 fk h3 (hts _ (List.mem_cons_of_mem _ h6)) (by rw [h5]; exact fun _ h9 => h9) g4 g5 hn hfit (by rw [List.length_map]; exact hl0) d kk
  · exact va_putN (D := ρ.1) (ci := ci) (v := .int x) (ref := C') (C := C') (T := T') (N := N') hx hb hts hin ty0 g2 g3 hown hE.1 hP (z_D hI) hS q he h1 fk h3 (va_Nw.use rfl (hE.2.1 _ h6)) (by rw [h5]; exact fun _ h9 => h9) g4 g5 hn hfit (by rw [List.length_map]; exact hl0) d kk
theorem z_iald {q k0 : Nat} {i : Int32} (d : decode M.2.1 pc = .ok (.iaload, 1)) (hk : kd q = k0) (hc : ¬ k0 < 9 ∧ k0 < 20) (hin : ¬ (i < 0 ∨ il k0 ≤ i.toNatClampNeg)) (k : Z l y M (pc + 1) lv (.int (S.1 q i.toNatClampNeg) :: st) S w S') : Z l y M pc lv (.int i :: .ref q :: st) S w S' := by
  intro ρ sz p e s m args below meth c X H locs ls hP hS hl
  have he : (world ρ S)[q]? = some (ρ.2.1 q, .inl (ρ.2.2.1.1, (il k0, .inl (S.1 q)))) := by rw [world_at ρ S (kd_lt hk (by omega)), zc_ints hk hc.1 hc.2]
  exact va_iald X.1 X.2.1 X.2.2.2.2.2.2.2.2.2.1 hP q 0 he rfl hin d (k ρ sz p e s m args below meth c X H locs ls hP hS hl)
theorem z_iast {q k0 : Nat} {i x : Int32} (d : decode M.2.1 pc = .ok (.iastore, 1)) (hk : kd q = k0) (hc : ¬ k0 < 9 ∧ k0 < 20) (hin : ¬ (i < 0 ∨ il k0 ≤ i.toNatClampNeg)) (k : Z l y M (pc + 1) lv st (up S q i.toNatClampNeg x) w S') : Z l y M pc lv (.int x :: .int i :: .ref q :: st) S w S' := by
  intro ρ sz p e s m args below meth c X H locs ls hP hS hl
  have he : (world ρ S)[q]? = some (ρ.2.1 q, .inl (ρ.2.2.1.1, (il k0, .inl (S.1 q)))) := by rw [world_at ρ S (kd_lt hk (by omega)), zc_ints hk hc.1 hc.2]
  refine va_iast X.1 X.2.1 X.2.2.2.2.2.2.2.2.2.1 hP (z_D X.2.2.2.2.2.2.2.2.1) hS q 0 he rfl hin d (fun H1 locs1 p1 _ s1 => ?_)
  have hw : (world ρ S).set q (ρ.2.1 q, .inl (ρ.2.2.1.1, il k0, .inl (upd (S.1 q) i.toNatClampNeg x))) = world ρ (up S q i.toNatClampNeg x) := by
    refine world_set ?_ (fun i _ h => zc_up_ne h)
    rw [zc_ints hk hc.1 hc.2, up_row]
  rw [hw] at p1
  exact k ρ sz p e s m args below meth c X H1 locs1 ls p1 s1 hl
theorem z_lald {q : Nat} {i : Int32} (d : decode M.2.1 pc = .ok (.laload, 1)) (hk : kd q = 21) (hin : ¬ (i < 0 ∨ 9 ≤ i.toNatClampNeg)) (k : Z l y M (pc + 1) lv (.long (S.2 i.toNatClampNeg) :: st) S w S') : Z l y M pc lv (.int i :: .ref q :: st) S w S' := by
  intro ρ sz p e s m args below meth c X H locs ls hP hS hl
  have he : (world ρ S)[q]? = some (ρ.2.1 q, .inl (ρ.2.2.1.2.1, (9, .inr (.inl S.2)))) := by rw [world_at ρ S (kd_lt hk (by omega)), zc_longs hk]
  exact va_lald X.1 X.2.1 X.2.2.2.2.2.2.2.2.2.1 hP q 1 he rfl hin d (k ρ sz p e s m args below meth c X H locs ls hP hS hl)
theorem kd_longs {i : Nat} (hi : i < NC) (h : kd i = 21) : i = 71 := by
  have key : ∀ i, i < 85 → kd i = 21 → i = 71 := by decide +kernel
  exact key i hi h
theorem kd_all {i : Nat} (hi : i < NC) : kd i < 9 ∨ (¬ kd i < 9 ∧ kd i < 20) ∨ kd i = 20 ∨ kd i = 21 := by
  have key : ∀ i, i < 85 → kd i < 9 ∨ (¬ kd i < 9 ∧ kd i < 20) ∨ kd i = 20 ∨ kd i = 21 := by decide +kernel
  exact key i hi
theorem z_last {q : Nat} {i : Int32} {x : Int64} (d : decode M.2.1 pc = .ok (.lastore, 1)) (hk : kd q = 21) (hin : ¬ (i < 0 ∨ 9 ≤ i.toNatClampNeg)) (k : Z l y M (pc + 1) lv st (upL S i.toNatClampNeg x) w S') : Z l y M pc lv (.long x :: .int i :: .ref q :: st) S w S' := by
  intro ρ sz p e s m args below meth c X H locs ls hP hS hl
  have hq : q < NC := kd_lt hk (by omega)
  have he : (world ρ S)[q]? = some (ρ.2.1 q, .inl (ρ.2.2.1.2.1, (9, .inr (.inl S.2)))) := by rw [world_at ρ S hq, zc_longs hk]
  refine va_last X.1 X.2.1 X.2.2.2.2.2.2.2.2.2.1 hP (z_D X.2.2.2.2.2.2.2.2.1) hS q 1 he rfl hin d (fun H1 locs1 p1 _ s1 => ?_)
  have hw : (world ρ S).set q (ρ.2.1 q, .inl (ρ.2.2.1.2.1, 9, .inr (.inl (vp_updL S.2 i.toNatClampNeg x)))) = world ρ (upL S i.toNatClampNeg x) := by
    refine world_set ?_ (fun j hj h => ?_)
    · rw [zc_longs hk]
      rfl
    · rcases kd_all hj with h1 | h1 | h1 | h1
      · rw [zc_obj rfl h1, zc_obj rfl h1]; rfl
      · rw [zc_ints rfl h1.1 h1.2, zc_ints rfl h1.1 h1.2]; rfl
      · rw [zc_things h1, zc_things h1]
      · exact absurd ((kd_longs hj h1).trans (kd_longs hq hk).symm) h
  rw [hw] at p1
  exact k ρ sz p e s m args below meth c X H1 locs1 ls p1 s1 hl
theorem z_aald {q : Nat} {i : Int32} (d : decode M.2.1 pc = .ok (.aaload, 1)) (hk : kd q = 20) (hin : ¬ (i < 0 ∨ 8 ≤ i.toNatClampNeg)) (k : Z l y M (pc + 1) lv (.ref (q + 2 + 2 * i.toNatClampNeg) :: st) S w S') : Z l y M pc lv (.int i :: .ref q :: st) S w S' := by
  intro ρ sz p e s m args below meth c X H locs ls hP hS hl
  have he : (world ρ S)[q]? = some (ρ.2.1 q, .inl (ρ.2.2.1.2.2, (8, .inr (.inr (.inr (.inr (fun j => some (ρ.2.1 (q + 2 + 2 * j))))))))) := by rw [world_at ρ S (kd_lt hk (by omega)), zc_things hk]
  exact va_aldq X.1 X.2.1 X.2.2.2.2.2.2.2.2.2.1 hP q 2 (C := RX6) he rfl hin d (k ρ sz p e s m args below meth c X H locs ls hP hS hl)
theorem z_alen {q k0 : Nat} {v : Int32} (d : decode M.2.1 pc = .ok (.arraylength, 1)) (hk : kd q = k0) (hc : ¬ k0 < 9 ∧ k0 < 20) (hv : Int32.ofNat (il k0) = v) (k : Z l y M (pc + 1) lv (.int v :: st) S w S') : Z l y M pc lv (.ref q :: st) S w S' := by
  intro ρ sz p e s m args below meth c X H locs ls hP hS hl
  have he : (world ρ S)[q]? = some (ρ.2.1 q, .inl (ρ.2.2.1.1, (il k0, .inl (S.1 q)))) := by rw [world_at ρ S (kd_lt hk (by omega)), zc_ints hk hc.1 hc.2]
  exact va_alen X.1 X.2.1 X.2.2.2.2.2.2.2.2.2.1 hP q 0 he (ty := .int) rfl hv d (k ρ sz p e s m args below meth c X H locs ls hP hS hl)
-- ===== the ends =====
theorem z_iret {v : Int32} {ty : FieldType} (d : decode M.2.1 pc = .ok (.ireturn, 1)) (hr : M.2.2.2.1 = some ty) (hn : narrow ty (.int v) = .int v) : Z l y M pc lv [.int v] S (some (.int v)) S := fun ρ sz p e s m args below meth c X H locs ls hP hS hl =>
  W.zret (v := v) X.1 X.2.1 (X.2.2.1.trans hr) hn (fun t ht hW => ⟨⟨rfl, by rw [ht]; exact hP⟩, hS.F ht⟩) hS.2.2 d X.2.2.2.2.1
theorem z_lret {v : Int64} (d : decode M.2.1 pc = .ok (.lreturn, 1)) (hr : M.2.2.2.1 = some .long) : Z l y M pc lv [.long v] S (some (.long v)) S := fun ρ sz p e s m args below meth c X H locs ls hP hS hl =>
  W.lret (v := v) X.1 X.2.1 (X.2.2.1.trans hr) (fun t ht hW => ⟨⟨rfl, by rw [ht]; exact hP⟩, hS.F ht⟩) hS.2.2 d X.2.2.2.2.1
theorem z_vret (d : decode M.2.1 pc = .ok (.return_, 1)) (hr : M.2.2.2.1 = none) : Z l y M pc lv [] S none S := fun ρ sz p e s m args below meth c X H locs ls hP hS hl =>
  W.vret X.1 X.2.1 (X.2.2.1.trans hr) (fun t ht hW => ⟨⟨rfl, by rw [ht]; exact hP⟩, hS.F ht⟩) hS.2.2 d X.2.2.2.2.1
theorem z_aret {q : Nat} {n : String} (d : decode M.2.1 pc = .ok (.areturn, 1)) (hr : M.2.2.2.1 = some (.object n)) : Z l y M pc lv [.ref q] S (some (.ref q)) S := fun ρ sz p e s m args below meth c X H locs ls hP hS hl =>
  W.aret (v := .ref (ρ.2.1 q)) X.1 X.2.1 (X.2.2.1.trans hr) (Or.inl ⟨_, rfl⟩) (Or.inr ⟨_, rfl⟩) (fun t ht hW => ⟨⟨rfl, by rw [ht]; exact hP⟩, hS.F ht⟩) hS.2.2 d X.2.2.2.2.1
end ZZ
