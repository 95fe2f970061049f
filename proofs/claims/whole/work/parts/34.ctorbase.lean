-- ===== constructors: the cells come one behind another =====
def gS (ρ : zR) : Prop := ∀ i, ρ.2.1 i = ρ.2.1 0 + i
def wd (ρ : zR) (n : Nat) (f : Nat → va_E) : va_W := (List.range n).map (fun i => (ρ.2.1 i, f i))
def gA (ρ : zR) : Nat → Prop := fun q => ρ.2.1 0 ≤ q
theorem wd_at {ρ : zR} {n : Nat} {f : Nat → va_E} {i : Nat} (h : i < n) : (wd ρ n f)[i]? = some (ρ.2.1 i, f i) := by simp [wd, h]
theorem wd_len (ρ : zR) (n : Nat) (f : Nat → va_E) : (wd ρ n f).length = n := by simp [wd]
theorem wd_of {ρ : zR} {n : Nat} {f : Nat → va_E} {k : Nat} {q : Nat × va_E} (h : (wd ρ n f)[k]? = some q) : k < n ∧ q = (ρ.2.1 k, f k) := by
  have hk : k < n := by
    have := (List.getElem?_eq_some_iff.mp h).1
    rwa [wd_len] at this
  rw [wd_at hk] at h
  exact ⟨hk, (Option.some.inj h).symm⟩
theorem wd_set {ρ : zR} {n : Nat} {f : Nat → va_E} {k : Nat} {e : va_E} (hk : k < n) : (wd ρ n f).set k (ρ.2.1 k, e) = wd ρ n (va_up f k e) := by
  apply List.ext_getElem?
  intro i
  by_cases hi : i < n
  · rw [wd_at hi]
    by_cases h : i = k
    · subst h
      rw [List.getElem?_set_self (by rw [wd_len]; exact hi)]
      simp [va_up]
    · rw [List.getElem?_set_ne (fun z => h z.symm), wd_at hi]
      simp [va_up, h]
  · rw [List.getElem?_eq_none (by simp [wd_len]; omega), List.getElem?_eq_none (by simp [wd_len]; omega)]
theorem g_D {ρ : zR} (h : gS ρ) (n : Nat) (f : Nat → va_E) : va_D (gA ρ) (wd ρ n f) := by
  refine ⟨fun i j p q hi hj e => ?_, fun k q hk => ?_⟩
  · obtain ⟨h1, rfl⟩ := wd_of hi
    obtain ⟨h2, rfl⟩ := wd_of hj
    have h3 : ρ.2.1 i = ρ.2.1 j := e
    rw [h i, h j] at h3
    omega
  · obtain ⟨h1, rfl⟩ := wd_of hk
    show ρ.2.1 0 ≤ ρ.2.1 k
    rw [h k]
    omega
/-- a cell more, at the heap's end -/
theorem g_push {ρ : zR} (hg : gS ρ) {n : Nat} {f : Nat → va_E} {H H1 : Heap} {e : va_E} (hsz : H.size = ρ.2.1 n) (hP : va_P ρ.1 CL (wd ρ n f) H) (o1 : ∀ q, q < H.size → H1[q]? = H[q]?) (he : va_at ρ.1 CL (ρ.2.1 n, e) H1) : va_P ρ.1 CL (wd ρ (n + 1) (va_up f n e)) H1 := by
  intro k q hk
  obtain ⟨h1, rfl⟩ := wd_of hk
  by_cases h : k = n
  · subst h
    simp only [va_up, if_pos]
    exact he
  · have hkn : k < n := by omega
    have h2 := hP k _ (wd_at (f := f) hkn)
    simp only [va_up, h, if_false]
    exact h2.kept (o1 _ (by show ρ.2.1 k < _; rw [hsz, hg k, hg n]; omega))
def gE (ρ : zR) (A : Nat → Prop) (U : State) (H : Heap) : Prop := zE ρ A U H ∧ va_AO RX6 U
def gB (ρ : zR) (n : Nat) (f : Nat → va_E) (U : State) : Prop := U.heap.size = ρ.2.1 n ∧ gS ρ ∧ va_P ρ.1 CL (wd ρ n f) U.heap ∧ gE ρ (gA ρ) U U.heap
def gQ (ρ : zR) (n' : Nat) (post : (Nat → va_E) → Prop) : Array Value → State → Outcome → State → Prop := fun _ st oc t =>
  (oc = .returned none ∧ t.heap.size = ρ.2.1 n' ∧ ∃ f', va_P ρ.1 CL (wd ρ n' f') t.heap ∧ post f') ∧ va_F (gA ρ) st t
abbrev vrm (M : zM) (mc ms : Nat) : Room := { frames := M.2.2.2.2.1, cells := mc, slots := ms, locals := M.2.2.2.2.2 }
/-- a constructor's contract, called on cell k when there are n cells, f in them -/
def GT (l : Launch) (y : MethodName) (M : zM) (mc ms : Nat) (ρ : zR) (k n : Nat) (f : Nat → va_E) (n' : Nat) (post : (Nat → va_E) → Prop) : Prop :=
  Met l y (.code y M.2.1 M.2.2.1 M.2.2.2.1 :: WS) (vrm M mc ms) (va_Pc [.ref (ρ.2.1 k)] (gB ρ n f)) (gQ ρ n' post) mc ms (gA ρ)
def vX (y : MethodName) (M : zM) (ρ : zR) (p : Program) (s : State) (m : MethodId) (args : Array Value) (meth : Method) (c : Code) : Prop :=
  p.tables.exec = Jvm.exec ∧ c.code = M.2.1 ∧ meth.sig.returnType = M.2.2.2.1 ∧ c.maxLocals = M.2.2.1 ∧ meth.locks = false ∧ s.vm.findClass y.cls = some m.cls ∧
  (∀ w ∈ WS, w.before args s = true) ∧ ρ.2.1 0 ≤ s.heap.size ∧ gS ρ ∧ gE ρ (gA ρ) s s.heap ∧ meth.name = "<init>"
def V (l : Launch) (y : MethodName) (M : zM) (mc ms : Nat) (ρ : zR) (n' : Nat) (post : (Nat → va_E) → Prop) (cells slots pc : Nat) (lv : List (Nat × Value)) (st : List Value) (n : Nat) (f : Nat → va_E) : Prop :=
  ∀ (p : Program) (e : Env) (s : State) (m : MethodId) (args : Array Value) (below : List Frame) (meth : Method) (c : Code), vX y M ρ p s m args meth c →
    ∀ (H : Heap) (locs : List Loc) (ls : Array Slot), H.size = ρ.2.1 n → va_P ρ.1 CL (wd ρ n f) H → va_S (gA ρ) s.heap H locs → lv_has ls M.2.2.1 lv →
      W p l e (vrm M mc ms) s m args below meth c H locs cells slots (MQ below (gQ ρ n' post) args s mc ms (gA ρ)) (F0 m pc ls st)
theorem gt_of {l : Launch} {y : MethodName} {M : zM} {mc ms : Nat} {ρ : zR} {k n : Nat} {f : Nat → va_E} {n' : Nat} {post : (Nat → va_E) → Prop} (hy : plainName y.cls = true) (hi : y.name = "<init>") (hn : 1 ≤ M.2.2.1) (kk : V l y M mc ms ρ n' post 0 0 0 [(0, .ref (ρ.2.1 k))] [] n f) : GT l y M mc ms ρ k n f n' post := by
  refine Met.ofW (cc := M.2.1) (maxL := M.2.2.1) (ret := M.2.2.2.1) hy rfl ?_
  intro p e s m args below meth c s₁ B hml hv
  obtain ⟨rfl, hsz, hg, hP, hE⟩ := hv
  have hts := atoms_spec (ws := Cond.code y M.2.1 M.2.2.1 M.2.2.2.1 :: WS) B.pre
  have hown : s.vm.findClass y.cls = some m.cls := findClass_of_methodNamed B.named
  have hin : meth.name = "<init>" := (name_of_methodNamed B.named B.method).1.trans hi
  have hl := lv_entry ([.ref (ρ.2.1 k)]) (n := M.2.2.1) hn
  rw [lg_entry_eq]
  exact kk p e s m _ below meth c ⟨B.exec, B.bytes, B.returns, hml, B.notSynchronized, hown, fun w hw => hts w (List.mem_cons_of_mem _ hw), by rw [hsz, hg n]; omega, hg, hE, hin⟩ s.heap [] _ hsz hP va_S.rf hl
section VV
variable {l : Launch} {y : MethodName} {M : zM} {mc ms : Nat} {ρ : zR} {n' : Nat} {post : (Nat → va_E) → Prop} {cells slots pc : Nat} {lv : List (Nat × Value)} {st : List Value} {n : Nat} {f : Nat → va_E}
theorem v_aload_n {k : Fin 4} {v : Nat} (j : Nat) (d : decode M.2.1 pc = .ok (.aload_n k, 1)) (h : lv[j]? = some ((k : Nat), .ref v)) (kk : V l y M mc ms ρ n' post cells slots (pc + 1) lv (.ref v :: st) n f) : V l y M mc ms ρ n' post cells slots pc lv st n f := fun p e s m args below meth c X H locs ls hz hP hS hl =>
  lv_aload_n X.1 X.2.1 d rfl (lv_at hl j h) (kk p e s m args below meth c X H locs ls hz hP hS hl)
theorem v_iload_n {k : Fin 4} {v : Int32} (j : Nat) (d : decode M.2.1 pc = .ok (.iload_n k, 1)) (h : lv[j]? = some ((k : Nat), .int v)) (kk : V l y M mc ms ρ n' post cells slots (pc + 1) lv (.int v :: st) n f) : V l y M mc ms ρ n' post cells slots pc lv st n f := fun p e s m args below meth c X H locs ls hz hP hS hl =>
  lv_iload_n X.1 X.2.1 d rfl (lv_at hl j h) (kk p e s m args below meth c X H locs ls hz hP hS hl)
theorem v_dup {v : Nat} (d : decode M.2.1 pc = .ok (.dup, 1)) (kk : V l y M mc ms ρ n' post cells slots (pc + 1) lv (.ref v :: .ref v :: st) n f) : V l y M mc ms ρ n' post cells slots pc lv (.ref v :: st) n f := fun p e s m args below meth c X H locs ls hz hP hS hl =>
  lv_dup X.1 X.2.1 d rfl (kk p e s m args below meth c X H locs ls hz hP hS hl)
theorem v_iconst {z : Int} {v : Int32} (d : decode M.2.1 pc = .ok (.iconst z, 1)) (hv : Int32.ofInt z = v) (kk : V l y M mc ms ρ n' post cells slots (pc + 1) lv (.int v :: st) n f) : V l y M mc ms ρ n' post cells slots pc lv st n f := fun p e s m args below meth c X H locs ls hz hP hS hl =>
  lv_iconst X.1 X.2.1 d hv (kk p e s m args below meth c X H locs ls hz hP hS hl)
theorem v_bipush {z : Int} {v : Int32} (d : decode M.2.1 pc = .ok (.bipush z, 2)) (hv : (Int8.ofInt z).toInt32 = v) (kk : V l y M mc ms ρ n' post cells slots (pc + 2) lv (.int v :: st) n f) : V l y M mc ms ρ n' post cells slots pc lv st n f := fun p e s m args below meth c X H locs ls hz hP hS hl =>
  lv_bipush X.1 X.2.1 d hv (kk p e s m args below meth c X H locs ls hz hP hS hl)
theorem v_sipush {z : Int} {v : Int32} (d : decode M.2.1 pc = .ok (.sipush z, 3)) (hv : (Int16.ofInt z).toInt32 = v) (kk : V l y M mc ms ρ n' post cells slots (pc + 3) lv (.int v :: st) n f) : V l y M mc ms ρ n' post cells slots pc lv st n f := fun p e s m args below meth c X H locs ls hz hP hS hl =>
  lv_sipush X.1 X.2.1 d hv (kk p e s m args below meth c X H locs ls hz hP hS hl)
theorem v_goto {off : Int} {tgt : Nat} (d : decode M.2.1 pc = .ok (.goto off, 3)) (ht : (pc : Int) + off = (tgt : Int)) (kk : V l y M mc ms ρ n' post cells slots tgt lv st n f) : V l y M mc ms ρ n' post cells slots pc lv st n f := fun p e s m args below meth c X H locs ls hz hP hS hl =>
  lv_goto X.1 X.2.1 d ht (kk p e s m args below meth c X H locs ls hz hP hS hl)
theorem v_icmp_ge {a b : Int32} {off : Int} {tgt : Nat} (d : decode M.2.1 pc = .ok (.if_icmp .ge off, 3)) (ht : (pc : Int) + off = (tgt : Int)) (kt : b ≤ a → V l y M mc ms ρ n' post cells slots tgt lv st n f) (kf : ¬ b ≤ a → V l y M mc ms ρ n' post cells slots (pc + 3) lv st n f) : V l y M mc ms ρ n' post cells slots pc lv (.int b :: .int a :: st) n f := fun p e s m args below meth c X H locs ls hz hP hS hl =>
  lv_icmp_ge X.1 X.2.1 d ht (fun q => kt q p e s m args below meth c X H locs ls hz hP hS hl) (fun q => kf q p e s m args below meth c X H locs ls hz hP hS hl)
theorem v_istore {k : Fin 4} {x : Int32} {lv' : List (Nat × Value)} (d : decode M.2.1 pc = .ok (.istore_n k, 1)) (hn : (k : Nat) < M.2.2.1) (h : ((k : Nat), Value.int x) :: lv.filter (fun q => !(q.1 == (k : Nat)) && !(q.1 + 1 == (k : Nat) && q.2.category == 2)) = lv') (kk : V l y M mc ms ρ n' post cells slots (pc + 1) lv' st n f) : V l y M mc ms ρ n' post cells slots pc lv (.int x :: st) n f := fun p e s m args below meth c X H locs ls hz hP hS hl =>
  lv_istore_n X.1 X.2.1 d rfl hl hn h (fun ls' hl' => kk p e s m args below meth c X H locs ls' hz hP hS hl')
theorem v_iinc {i : Nat} {z : Int} {x v : Int32} {lv' : List (Nat × Value)} (j : Nat) (d : decode M.2.1 pc = .ok (.iinc i z, 3)) (hx : lv[j]? = some (i, .int x)) (hv : x + Int32.ofInt z = v) (hn : i < M.2.2.1) (h : (i, Value.int v) :: lv.filter (fun q => !(q.1 == i) && !(q.1 + 1 == i && q.2.category == 2)) = lv') (kk : V l y M mc ms ρ n' post cells slots (pc + 3) lv' st n f) : V l y M mc ms ρ n' post cells slots pc lv st n f := fun p e s m args below meth c X H locs ls hz hP hS hl =>
  lv_iinc (k := j) X.1 X.2.1 d hl hx hv hn h (fun ls' hl' => kk p e s m args below meth c X H locs ls' hz hP hS hl')
theorem v_objInit {idx : Nat} (d : decode M.2.1 pc = .ok (.invokespecial idx, 3)) (hw : Cond.methodLink y.cls idx objectInit ∈ WS ∧ Cond.instanceMethod objectInit ∈ WS ∧ Cond.code objectInit ⟨#[0xb1]⟩ 1 none ∈ WS) (hf : 1 ≤ M.2.2.2.2.1) (hcat : (st.map fun v => v.category).sum + 12 ≤ M.2.2.2.2.2) (a : Nat) (kk : V l y M mc ms ρ n' post cells slots (pc + 3) lv st n f) : V l y M mc ms ρ n' post cells slots pc lv (.ref a :: st) n f := by
  intro p e s m args below meth c X H locs ls hz hP hS hl
  refine W.objInit X.1 X.2.1 X.2.2.2.2.2.1 (X.2.2.2.2.2.2.1 _ hw.1) (X.2.2.2.2.2.2.1 _ hw.2.1) (X.2.2.2.2.2.2.1 _ hw.2.2) rfl (by rw [X.2.2.2.1]; exact hl.1) rfl d hf (by show 2 * 0 + _ + 12 ≤ M.2.2.2.2.2; omega) ?_
  exact kk p e s m args below meth c X H locs ls hz hP hS hl
theorem v_put {idx k ci fk : Nat} {fs : List Value} {v : Value} {ty : FieldType} (d : decode M.2.1 pc = .ok (.putfield idx, 3)) (C : String) (T : u_T) (N : Nat) (ty0 : Nat → FieldType) (hc : CL[ci]? = some (C, T, N)) (hws : ∀ w ∈ u_ws C T N, w ∈ WS) (hty : ∀ k, k < N → parseFieldDescriptor (T k).2.2.1 = some (ty0 k)) (hnm : ∀ a, a < N → ∀ b, b < N → a ≠ b → (T a).2.1 ≠ (T b).2.1) (hfk : fk < N) (hT1 : (T fk).1 = C) (hyc : y.cls = C)
    (hlink : Cond.fieldLink C idx C (T fk).2.1 (T fk).2.2.1 ∈ WS) (hd : parseFieldDescriptor (T fk).2.2.1 = some ty) (hn : narrow ty v = v) (hfit : fits ty v = true) (hk : k < n) (hf : f k = .inr (ci, fs)) (hl0 : fk < fs.length) (kk : V l y M mc ms ρ n' post cells slots (pc + 3) lv st n (va_up f k (.inr (ci, fs.set fk v)))) : V l y M mc ms ρ n' post cells slots pc lv (v :: .ref (ρ.2.1 k) :: st) n f := by
  intro p e s m args below meth c X H locs ls hz hP hS hl
  obtain ⟨hx, hb, hr, hml, hlo, hown, hts, hsz0, hg, hE, hin⟩ := id X
  have he : (wd ρ n f)[k]? = some (ρ.2.1 k, .inr (ci, fs)) := by rw [wd_at hk, hf]
  have hD := g_D hg n f
  have hap := va_apart (own := C) hts hws ty0 hty hnm hE.1.1 hc
  obtain ⟨r, h1, cell, q1, q2, q3, q4⟩ := hP k _ he
  have hrr : r = (C, T, N) := Option.some.inj (h1.symm.trans hc)
  subst hrr
  obtain ⟨hSl, hfc, kC, hkC, hkind⟩ := hE.1.1.1 ci _ hc
  obtain ⟨cf, kf, fi, fd, hi, hsl⟩ := hSl fk hfk
  have hlay := u_lays hts hws hfk
  have hst := (u_facts hfc hkC hlay hi).1
  have hsame : s.fieldFound? C (T fk).2.1 (T fk).2.2.1 = some (cf, kf, fi, fd) := by rw [← hi]; show _ = s.fieldFound? (T fk).1 _ _; rw [hT1]
  have hown2 : s.vm.findClass C = some m.cls := by rw [← hyc]; exact hown
  have h6 := u_fits hfc hkC hkind hlay hi hd hn hfit
  have fin : ∀ H' : Heap, H'[ρ.2.1 k]? = some (cell.setSlot fd.slot v) → H'.size = H.size → (∀ q, q ≠ ρ.2.1 k → H'[q]? = H[q]?) → W p l e (vrm M mc ms) s m args below meth c H' (locs ++ [⟨ρ.2.1 k, fd.slot⟩]) cells slots (MQ below (gQ ρ n' post) args s mc ms (gA ρ)) (F0 m (pc + 3) ls st) := by
    intro H' e1 e2 e3
    refine kk p e s m args below meth c X H' _ ls (e2.trans hz) ?_ (hS.put e2 e3 (hD.2 k _ he)) hl
    rw [← wd_set hk]
    refine hP.set hD he ⟨_, hc, ?_⟩ e3
    rw [hsl] at e1
    exact t_OB.to (V := updV (vp_V fs) fk v) ⟨_, e1, q2, q3, t_set q4 hap hfk v⟩ (fun j _ => vp_updV_set hl0 v j)
  rcases hlay with hlay | hlay
  · exact W.putK hx hb (f := fd) ⟨hown2, hts _ hlink, ⟨_, _, _, hsame⟩, hst⟩ (by rw [q2]; exact u_store hfc hkC hkind hlay hi hd hn hfit) q1 q3 (by rw [hsl]; exact k2_hasslot (q4 fk hfk)) rfl rfl d fin
  · have hcf : m.cls = cf := by
      obtain ⟨_, _, c', _, _, _, -, -, hf', -, -, -, hown3, -⟩ := Cond.laysFinal_spec hlay
      have e1 : c' = cf := by have := hi.symm.trans hf'; simp at this; exact this.1.symm
      rw [hT1] at hown3
      rw [← e1]; exact Option.some.inj (hown2.symm.trans hown3)
    exact W.putFinK hx hb hown2 (hts _ hlink) hsame hst hcf hin (by rw [q2]; exact h6) q1 q3 (by rw [hsl]; exact k2_hasslot (q4 fk hfk)) rfl rfl d fin
theorem v_new {idx ci : Nat} {fs : List Value} (d : decode M.2.1 pc = .ok (.new idx, 3)) (C : String) (T : u_T) (N : Nat) (ty : Nat → FieldType) (hc : CL[ci]? = some (C, T, N)) (hws : ∀ w ∈ u_ws C T N, w ∈ WS) (hty : ∀ k, k < N → parseFieldDescriptor (T k).2.2.1 = some (ty k)) (hcl : Cond.classLink y.cls idx C ∈ WS) (hinst : Cond.instantiable C N ∈ WS) (hini : Cond.initialized C ∈ WS) (hfs : ∀ j, j < N → defaultValue (ty j) = vp_V fs j) (hcells : cells + 1 ≤ mc) (hslots : slots + N ≤ ms)
    (kk : V l y M mc ms ρ n' post (cells + 1) (slots + N) (pc + 3) lv (.ref (ρ.2.1 n) :: st) (n + 1) (va_up f n (.inr (ci, fs)))) : V l y M mc ms ρ n' post cells slots pc lv st n f := by
  intro p e s m args below meth c X H locs ls hz hP hS hl
  obtain ⟨hx, hb, hr, hml, hlo, hown, hts, hsz0, hg, hE, hin⟩ := id X
  have hKn := hE.1.1.1 ci _ hc
  refine W.newcK hx hb hown (hts _ hcl) (hts _ hinst) (hts _ hini) rfl d hcells hslots hKn.2.1 hz fun H1 kC hkC e1 z1 o1 => ?_
  refine kk p e s m args below meth c X H1 locs ls (by rw [z1, hg (n + 1), hg n]; omega) ?_ ⟨Nat.le_trans hS.1 (by rw [hz, z1]; omega), fun x h1 h2 => (o1 x (by rw [← hz]; exact Nat.lt_of_lt_of_le h1 hS.1)).trans (hS.2.1 x h1 h2), hS.2.2⟩ hl
  exact g_push hg hz hP (fun q hq => o1 q (by rw [← hz]; exact hq)) ⟨_, hc, (u_born ty hts hws hKn hkC e1 hty).to hfs⟩
theorem v_newi {len : Int32} {N' : Nat} (d : decode M.2.1 pc = .ok (.newarray .int, 2)) (harr : Cond.arrayClass .int ∈ WS) (hn : ¬ len < 0) (hN : len.toNatClampNeg = N') (hb2 : N' * componentBytes .int ≤ 536870912) (hcells : cells + 1 ≤ mc) (hslots : slots + N' ≤ ms)
    (kk : V l y M mc ms ρ n' post (cells + 1) (slots + N') (pc + 2) lv (.ref (ρ.2.1 n) :: st) (n + 1) (va_up f n (.inl (ρ.2.2.1.1, (N', .inl (fun _ => 0)))))) : V l y M mc ms ρ n' post cells slots pc lv (.int len :: st) n f := by
  intro p e s m args below meth c X H locs ls hz hP hS hl
  obtain ⟨hx, hb, hr, hml, hlo, hown, hts, hsz0, hg, hE, hin⟩ := id X
  refine va_newaK (atype := .int) hx hb (hts _ harr) rfl d rfl hn hN hb2 hcells hslots hz fun H1 cA e1 z1 o1 hAr hNm => ?_
  have hcA : cA = ρ.2.2.1.1 := by
    have h1 := (hE.1.1.2 0 (ρ.2.2.1.1, .int) rfl).2
    exact Option.some.inj (hNm.symm.trans h1)
  subst hcA
  refine kk p e s m args below meth c X H1 locs ls (by rw [z1, hg (n + 1), hg n]; omega) ?_ ⟨Nat.le_trans hS.1 (by rw [hz, z1]; omega), fun x h1 h2 => (o1 x (by rw [← hz]; exact Nat.lt_of_lt_of_le h1 hS.1)).trans (hS.2.1 x h1 h2), hS.2.2⟩ hl
  exact g_push hg hz hP (fun q hq => o1 q (by rw [← hz]; exact hq)) e1
theorem v_newl {len : Int32} {N' : Nat} (d : decode M.2.1 pc = .ok (.newarray .long, 2)) (harr : Cond.arrayClass .long ∈ WS) (hn : ¬ len < 0) (hN : len.toNatClampNeg = N') (hb2 : N' * componentBytes .long ≤ 536870912) (hcells : cells + 1 ≤ mc) (hslots : slots + N' ≤ ms)
    (kk : V l y M mc ms ρ n' post (cells + 1) (slots + N') (pc + 2) lv (.ref (ρ.2.1 n) :: st) (n + 1) (va_up f n (.inl (ρ.2.2.1.2.1, (N', .inr (.inl (fun _ => 0))))))) : V l y M mc ms ρ n' post cells slots pc lv (.int len :: st) n f := by
  intro p e s m args below meth c X H locs ls hz hP hS hl
  obtain ⟨hx, hb, hr, hml, hlo, hown, hts, hsz0, hg, hE, hin⟩ := id X
  refine va_newaK (atype := .long) hx hb (hts _ harr) rfl d rfl hn hN hb2 hcells hslots hz fun H1 cA e1 z1 o1 hAr hNm => ?_
  have hcA : cA = ρ.2.2.1.2.1 := by
    have h1 := (hE.1.1.2 1 (ρ.2.2.1.2.1, .long) rfl).2
    exact Option.some.inj (hNm.symm.trans h1)
  subst hcA
  refine kk p e s m args below meth c X H1 locs ls (by rw [z1, hg (n + 1), hg n]; omega) ?_ ⟨Nat.le_trans hS.1 (by rw [hz, z1]; omega), fun x h1 h2 => (o1 x (by rw [← hz]; exact Nat.lt_of_lt_of_le h1 hS.1)).trans (hS.2.1 x h1 h2), hS.2.2⟩ hl
  exact g_push hg hz hP (fun q hq => o1 q (by rw [← hz]; exact hq)) e1
theorem v_newq {idx : Nat} {len : Int32} {N' : Nat} (d : decode M.2.1 pc = .ok (.anewarray idx, 3)) (hcl : Cond.classLink y.cls idx RX6 ∈ WS) (hn : ¬ len < 0) (hN : len.toNatClampNeg = N') (hb2 : N' * 4 ≤ 536870912) (hcells : cells + 1 ≤ mc) (hslots : slots + N' ≤ ms)
    (kk : V l y M mc ms ρ n' post (cells + 1) (slots + N') (pc + 3) lv (.ref (ρ.2.1 n) :: st) (n + 1) (va_up f n (.inl (ρ.2.2.1.2.2, (N', .inr (.inr (.inr (.inr (fun _ => none))))))))) : V l y M mc ms ρ n' post cells slots pc lv (.int len :: st) n f := by
  intro p e s m args below meth c X H locs ls hz hP hS hl
  obtain ⟨hx, hb, hr, hml, hlo, hown, hts, hsz0, hg, hE, hin⟩ := id X
  subst hN
  refine W.anew (C := RX6) hx hb hown (hts _ hcl) (va_AO.use hE.2) rfl d rfl hn hb2 hcells hslots fun cA kA comp f1 f2 f3 f4 => ?_
  generalize hH1 : H.push ({ cls := cA, slots := Array.replicate len.toNatClampNeg .null, vm := .none } : Cell) = H1
  have z1 : H1.size = H.size + 1 := by rw [← hH1, Array.size_push]
  have e1 : H1[H.size]? = some (arrV cA len.toNatClampNeg (fun _ => .null)) := by rw [← hH1, Array.getElem?_push_size, ← arrV_new]
  have o1 : ∀ q : Nat, q < H.size → H1[q]? = H[q]? := fun q hq => by rw [← hH1, Array.getElem?_push, if_neg (Nat.ne_of_lt hq)]
  have hcA : cA = ρ.2.2.1.2.2 := by
    obtain ⟨kB, cb, g1, g2, g3, g4⟩ := (hE.1.1.2 2 (ρ.2.2.1.2.2, .object RX6) rfl).2
    exact Option.some.inj (f1.symm.trans g4)
  subst hcA
  have kq := kk p e s m args below meth c X H1 locs ls (by rw [z1, hz, hg (n + 1), hg n]; omega) (g_push hg hz hP o1 (by show H1[_]? = some (vp_cell _ _); rw [vp_cell_q]; show H1[ρ.2.1 n]? = _; rw [← hz]; exact e1)) ⟨Nat.le_trans hS.1 (by omega), fun x h1 h2 => (o1 x (Nat.lt_of_lt_of_le h1 hS.1)).trans (hS.2.1 x h1 h2), hS.2.2⟩ hl
  rw [← hz] at kq
  exact kq
theorem v_get {idx k ci fk : Nat} {fs : List Value} {v : Value} (d : decode M.2.1 pc = .ok (.getfield idx, 3)) (C : String) (T : u_T) (N : Nat) (hc : CL[ci]? = some (C, T, N)) (hws : ∀ w ∈ u_ws C T N, w ∈ WS) (hfk : fk < N) (hT1 : (T fk).1 = C) (hyc : y.cls = C) (hlink : Cond.fieldLink C idx C (T fk).2.1 (T fk).2.2.1 ∈ WS) (hk : k < n) (hf : f k = .inr (ci, fs)) (hv : fs[fk]? = some v) (kk : V l y M mc ms ρ n' post cells slots (pc + 3) lv (v :: st) n f) : V l y M mc ms ρ n' post cells slots pc lv (.ref (ρ.2.1 k) :: st) n f := by
  intro p e s m args below meth c X H locs ls hz hP hS hl
  obtain ⟨hx, hb, hr, hml, hlo, hown, hts, hsz0, hg, hE, hin⟩ := id X
  subst hyc
  exact va_get (D := ρ.1) (ci := ci) (ref := y.cls) (C := y.cls) (T := T) (N := N) hx hb hts hws hown hE.1.1 hP k (by rw [wd_at hk, hf]) hc fk hfk (hts _ hlink) (by rw [hT1]; exact fun _ h9 => h9) hv d (kk p e s m args below meth c X H locs ls hz hP hS hl)
theorem v_ret (d : decode M.2.1 pc = .ok (.return_, 1)) (hr : M.2.2.2.1 = none) (hn : n = n') (hp : post f) (hc : cells ≤ mc) (hs : slots ≤ ms) : V l y M mc ms ρ n' post cells slots pc lv [] n f := by
  intro p e s m args below meth c X H locs ls hz hP hS hl
  subst hn
  refine W.widen (k := mc) (n := ms) hc hs ?_
  exact W.vret X.1 X.2.1 (X.2.2.1.trans hr) (fun t ht hW => ⟨⟨rfl, by rw [ht]; exact hz, f, by rw [ht]; exact hP, hp⟩, hS.F ht⟩) hS.2.2 d X.2.2.2.2.1
end VV
section VC
variable {l : Launch} {y : MethodName} {M : zM} {mc ms : Nat} {ρ : zR} {n' : Nat} {post : (Nat → va_E) → Prop} {cells slots pc : Nat} {lv : List (Nat × Value)} {st : List Value} {n : Nat} {f : Nat → va_E}
theorem gB_blind (ρ : zR) (n : Nat) (f : Nat → va_E) (av : List Value) : FrameBlind (va_Pc av (gB ρ n f)) := fun a U g mk q => ⟨q.1, q.2.1, q.2.2.1, q.2.2.2.1, zE.same (u := U) (U := U.calling g mk a) (H := U.heap) rfl q.2.2.2.2.1, va_AO.moved (u := U) (U := U.calling g mk a) (Vm.Alike.refl U.vm) q.2.2.2.2.2⟩
theorem gE_call {ρ : zR} {s : State} {H : Heap} {locs : List Loc} (hE : gE ρ (gA ρ) s s.heap) (hS : va_S (gA ρ) s.heap H locs) (U : State) (hU : U.heap = H) (hW : s.WarmedH U.vm) : gE ρ (gA ρ) U U.heap := by
  subst hU
  exact ⟨zE.warm hW (hE.1.kept hS.2.1), va_AO.moved hW.alike hE.2⟩
theorem v_ctor {idx k n2 mc2 ms2 : Nat} {y2 : MethodName} {M2 : zM} {post2 : (Nat → va_E) → Prop} (d : decode M.2.1 pc = .ok (.invokespecial idx, 3)) (host : String) (ml : Cond.methodLinkNest y.cls idx y2 host ∈ NWS) (hini : Cond.initialized y2.cls ∈ WS) (hcode : Cond.code y2 M2.2.1 M2.2.2.1 none ∈ WS) (hinst : Cond.instanceMethod y2 ∈ WS) (hy : y2.name = "<init>") (hyd : y2.cls ≠ "java/lang/invoke/MethodHandle" ∧ y2.cls ≠ "java/lang/invoke/VarHandle" ∧ (parseMethodDescriptor y2.desc).map (fun d => d.parameters.length) = some 0) (hret : M2.2.2.2.1 = none)
    (hc : GT l y2 M2 mc2 ms2 ρ k n f n2 post2) (hcat : (st.map fun v => v.category).sum ≤ 8) (hroom : M2.2.2.2.2.1 + 1 ≤ M.2.2.2.2.1 ∧ 8 + (M2.2.2.1 + 11) + M2.2.2.2.2.2 ≤ M.2.2.2.2.2) (hcells : cells + mc2 ≤ mc) (hslots : slots + ms2 ≤ ms)
    (kk : ∀ f', post2 f' → V l y M mc ms ρ n' post (cells + mc2) (slots + ms2) (pc + 3) lv st n2 f') : V l y M mc ms ρ n' post cells slots pc lv (.ref (ρ.2.1 k) :: st) n f := by
  intro p e s m args below meth c X H locs ls hz hP hS hl
  have XX := X
  obtain ⟨hx, hb, hr, hml, hlo, hown, hts, hsz0, hg, hE, hin⟩ := X
  have hM : Met l y2 (.code y2 M2.2.1 M2.2.2.1 none :: WS) (vrm M2 mc2 ms2) (va_Pc [.ref (ρ.2.1 k)] (gB ρ n f)) (gQ ρ n2 post2) mc2 ms2 (gA ρ) := by
    have h := hc
    unfold GT at h
    rw [hret] at h
    exact h
  have hpre : PreS s H (va_Pc [.ref (ρ.2.1 k)] (gB ρ n f)) (.ref (ρ.2.1 k) :: []) := ⟨gB_blind _ _ _ _, fun U hU hW => ⟨rfl, by rw [hU]; exact hz, hg, by rw [hU]; exact hP, gE_call hE hS U hU hW⟩⟩
  have hrun : va_Run p l e (vrm M mc ms) s m args below meth c H locs cells slots mc2 ms2 (F0 m pc ls (.ref (ρ.2.1 k) :: st)) st (gQ ρ n2 post2 (Value.ref (ρ.2.1 k) :: ([] : List Value)).toArray) (gA ρ) :=
    va_runIN (host := host) (maxL := M2.2.2.1) (bytes := M2.2.1) (As := []) (Ts := WS) ⟨hx, hb, hml, hown, hts⟩ hM ⟨va_cnB 0 hts (fun w hw => by
        rcases List.mem_cons.mp hw with rfl | h2
        · exact ⟨hcode, good_of_word (ws_good hcode)⟩
        · exact ⟨h2, good_of_word (ws_good h2)⟩) rfl rfl rfl (hE.1.2.1 _ ml) (hts _ hini) hyd hroom, hy, hts _ hinst⟩ hpre rfl rfl hl.1 rfl (lv_room hcat) d ⟨hcells, hslots⟩
  intro T hT XT
  obtain ⟨w, st₀, t, T', Ls, h0, X', hL, e1, e2, ⟨⟨hv1, hz1, f', hP1, hp1⟩, hz2, hk1⟩, stp⟩ := hrun T hT XT
  cases hv1
  rw [h0] at hz2 hk1
  have hS1 : va_S (gA ρ) s.heap T'.heap (locs ++ Ls) := ⟨Nat.le_trans hS.1 (by rw [e1]; exact hz2), fun q h1 h2 => by rw [e1, hk1 q (Nat.lt_of_lt_of_le h1 hS.1) h2]; exact hS.2.1 q h1 h2, fun q hq => by
      rcases List.mem_append.mp hq with h | h
      · exact hS.2.2 q h
      · exact hL q h⟩
  obtain ⟨t2, a1, b1⟩ := kk f' hp1 p e s m args below meth c XX T'.heap (locs ++ Ls) ls (by rw [e1]; exact hz1) (by rw [e1]; exact hP1) hS1 hl T' rfl X'
  exact ⟨t2, stp t2 a1, b1⟩
/-- a thing into the row of things -/
theorem v_astq {k0 k1 N : Nat} {vs : List Value} {g : Nat → Option Nat} {i : Int32} (d : decode M.2.1 pc = .ok (.aastore, 1)) (h0 : k0 < n) (hf0 : f k0 = .inl (ρ.2.2.1.2.2, (N, .inr (.inr (.inr (.inr g)))))) (h1 : k1 < n) (hf1 : f k1 = .inr (6, vs)) (hin : vp_in i N)
    (kk : V l y M mc ms ρ n' post cells slots (pc + 1) lv st n (va_up f k0 (.inl (ρ.2.2.1.2.2, (N, .inr (.inr (.inr (.inr (va_up g i.toNatClampNeg (some (ρ.2.1 k1)))))))))) ) : V l y M mc ms ρ n' post cells slots pc lv (.ref (ρ.2.1 k1) :: .int i :: .ref (ρ.2.1 k0) :: st) n f := by
  intro p e s m args below meth c X H locs ls hz hP hS hl
  obtain ⟨hx, hb, hr, hml, hlo, hown, hts, hsz0, hg, hE, hinit⟩ := id X
  have ha : (wd ρ n f)[k0]? = some (ρ.2.1 k0, .inl (ρ.2.2.1.2.2, (N, .inr (.inr (.inr (.inr g)))))) := by rw [wd_at h0, hf0]
  have hv : (wd ρ n f)[k1]? = some (ρ.2.1 k1, .inr (6, vs)) := by rw [wd_at h1, hf1]
  have hD := g_D hg n f
  have hlt : i.toNatClampNeg < N := Nat.not_le.mp fun q => hin (Or.inr q)
  have h00 : ¬ i < 0 := fun q => hin (Or.inl q)
  obtain ⟨r', hr', cellV, g1, g2, g3, -⟩ := hP k1 _ hv
  have hcls := (hE.1.1.1 6 (RX6, TX6, 4) rfl).2
  obtain ⟨kA, comp, q1, q2, q3, -⟩ := (hE.1.1.2 2 (ρ.2.2.1.2.2, .object RX6) rfl).2
  have hcomp : comp = ρ.1.1 6 := Option.some.inj (q3.symm.trans hcls.1)
  subst hcomp
  obtain ⟨kC, hkC, -⟩ := hcls.2
  refine W.aast hx hb (hP k0 _ ha) (fun q h => by cases h) (fun h => by cases h) q1 q2 rfl hkC ⟨h00, by show _ < (arrV _ _ _).slots.size; rw [arrV_size]; exact hlt⟩ g1 (fun q h => by rw [g3] at h; cases h) (by rw [g2]; exact hkC) (by rw [g2]; exact va_assign hcls) rfl rfl d fun H1 e1 z oq => ?_
  refine kk p e s m args below meth c X H1 _ ls (z.trans hz) ?_ (hS.put z oq (hD.2 k0 _ ha)) hl
  rw [← wd_set h0]
  refine hP.set hD ha ?_ oq
  show H1[_]? = some (vp_cell _ _)
  rw [e1]
  rw [vp_cell_q, vp_cell_q, arrV_store]
  congr 2
  funext q
  by_cases hq : q = i.toNatClampNeg
  · subst hq
    simp [updV, va_up, va_rf]
  · simp [updV, va_up, hq]
theorem v_iast {k0 N : Nat} {g : Nat → Int32} {i x : Int32} (d : decode M.2.1 pc = .ok (.iastore, 1)) (h0 : k0 < n) (hf0 : f k0 = .inl (ρ.2.2.1.1, (N, .inl g))) (hin : vp_in i N)
    (kk : V l y M mc ms ρ n' post cells slots (pc + 1) lv st n (va_up f k0 (.inl (ρ.2.2.1.1, (N, .inl (upd g i.toNatClampNeg x)))))) : V l y M mc ms ρ n' post cells slots pc lv (.int x :: .int i :: .ref (ρ.2.1 k0) :: st) n f := by
  intro p e s m args below meth c X H locs ls hz hP hS hl
  obtain ⟨hx, hb, hr, hml, hlo, hown, hts, hsz0, hg, hE, hinit⟩ := id X
  have ha : (wd ρ n f)[k0]? = some (ρ.2.1 k0, .inl (ρ.2.2.1.1, (N, .inl g))) := by rw [wd_at h0, hf0]
  have hD := g_D hg n f
  refine W.iast hx hb (hP k0 _ ha) ((hE.1.1.2 0 (ρ.2.2.1.1, .int) rfl).1 N (fun j => .int (g j))) (fun q => by cases q) (by show ¬ (i < 0 ∨ (arrV _ _ _).slots.size ≤ _); rw [arrV_size]; exact hin) rfl rfl d fun H1 e1 z oq => ?_
  refine kk p e s m args below meth c X H1 _ ls (z.trans hz) ?_ (hS.put z oq (hD.2 k0 _ ha)) hl
  rw [← wd_set h0]
  refine hP.set hD ha ?_ oq
  show H1[_]? = some (vp_cell _ _)
  rw [e1]
  rw [vp_cell_i, vp_cell_i, arrV_store]
  congr 2
  funext q
  by_cases hq : q = i.toNatClampNeg
  · subst hq
    simp [updV, upd]
  · simp [updV, upd, hq]
end VC
