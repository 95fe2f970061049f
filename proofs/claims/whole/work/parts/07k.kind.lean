-- ===== the place of a letter in a constant text: the machine, by hand =====
theorem dJ0_length_8abf5_0 : decode cJ0_length_8abf5 0 = .ok (.aload_n 0, 1) := by decide +kernel
theorem dJ0_length_8abf5_1 : decode cJ0_length_8abf5 1 = .ok (.getfield 9, 3) := by decide +kernel
theorem dJ0_length_8abf5_4 : decode cJ0_length_8abf5 4 = .ok (.arraylength, 1) := by decide +kernel
theorem dJ0_length_8abf5_5 : decode cJ0_length_8abf5 5 = .ok (.aload_n 0, 1) := by decide +kernel
theorem dJ0_length_8abf5_6 : decode cJ0_length_8abf5 6 = .ok (.invokevirtual 335, 3) := by decide +kernel
theorem dJ0_length_8abf5_9 : decode cJ0_length_8abf5 9 = .ok (.ishr, 1) := by decide +kernel
theorem dJ0_length_8abf5_10 : decode cJ0_length_8abf5 10 = .ok (.ireturn, 1) := by decide +kernel
theorem dJ0_indexOf_0f7a4_0 : decode cJ0_indexOf_0f7a4 0 = .ok (.aload_n 0, 1) := by decide +kernel
theorem dJ0_indexOf_0f7a4_1 : decode cJ0_indexOf_0f7a4 1 = .ok (.iload_n 1, 1) := by decide +kernel
theorem dJ0_indexOf_0f7a4_2 : decode cJ0_indexOf_0f7a4 2 = .ok (.iconst 0, 1) := by decide +kernel
theorem dJ0_indexOf_0f7a4_3 : decode cJ0_indexOf_0f7a4 3 = .ok (.invokevirtual 633, 3) := by decide +kernel
theorem dJ0_indexOf_0f7a4_6 : decode cJ0_indexOf_0f7a4 6 = .ok (.ireturn, 1) := by decide +kernel
theorem dJ0_indexOf_7cf53_0 : decode cJ0_indexOf_7cf53 0 = .ok (.aload_n 0, 1) := by decide +kernel
theorem dJ0_indexOf_7cf53_1 : decode cJ0_indexOf_7cf53 1 = .ok (.invokevirtual 492, 3) := by decide +kernel
theorem dJ0_indexOf_7cf53_4 : decode cJ0_indexOf_7cf53 4 = .ok (.ifCond .eq 19, 3) := by decide +kernel
theorem dJ0_indexOf_7cf53_7 : decode cJ0_indexOf_7cf53 7 = .ok (.aload_n 0, 1) := by decide +kernel
theorem dJ0_indexOf_7cf53_8 : decode cJ0_indexOf_7cf53 8 = .ok (.getfield 9, 3) := by decide +kernel
theorem dJ0_indexOf_7cf53_11 : decode cJ0_indexOf_7cf53 11 = .ok (.iload_n 1, 1) := by decide +kernel
theorem dJ0_indexOf_7cf53_12 : decode cJ0_indexOf_7cf53 12 = .ok (.iload_n 2, 1) := by decide +kernel
theorem dJ0_indexOf_7cf53_13 : decode cJ0_indexOf_7cf53 13 = .ok (.aload_n 0, 1) := by decide +kernel
theorem dJ0_indexOf_7cf53_14 : decode cJ0_indexOf_7cf53 14 = .ok (.invokevirtual 505, 3) := by decide +kernel
theorem dJ0_indexOf_7cf53_17 : decode cJ0_indexOf_7cf53 17 = .ok (.invokestatic 637, 3) := by decide +kernel
theorem dJ0_indexOf_7cf53_20 : decode cJ0_indexOf_7cf53 20 = .ok (.goto 16, 3) := by decide +kernel
theorem dJ0_indexOf_7cf53_23 : decode cJ0_indexOf_7cf53 23 = .ok (.aload_n 0, 1) := by decide +kernel
theorem dJ0_indexOf_7cf53_24 : decode cJ0_indexOf_7cf53 24 = .ok (.getfield 9, 3) := by decide +kernel
theorem dJ0_indexOf_7cf53_27 : decode cJ0_indexOf_7cf53 27 = .ok (.iload_n 1, 1) := by decide +kernel
theorem dJ0_indexOf_7cf53_28 : decode cJ0_indexOf_7cf53 28 = .ok (.iload_n 2, 1) := by decide +kernel
theorem dJ0_indexOf_7cf53_29 : decode cJ0_indexOf_7cf53 29 = .ok (.aload_n 0, 1) := by decide +kernel
theorem dJ0_indexOf_7cf53_30 : decode cJ0_indexOf_7cf53 30 = .ok (.invokevirtual 505, 3) := by decide +kernel
theorem dJ0_indexOf_7cf53_33 : decode cJ0_indexOf_7cf53 33 = .ok (.invokestatic 640, 3) := by decide +kernel
theorem dJ0_indexOf_7cf53_36 : decode cJ0_indexOf_7cf53 36 = .ok (.ireturn, 1) := by decide +kernel
theorem dJ0_coder_7d493_0 : decode cJ0_coder_7d493 0 = .ok (.getstatic 38, 3) := by decide +kernel
theorem dJ0_coder_7d493_3 : decode cJ0_coder_7d493 3 = .ok (.ifCond .eq 10, 3) := by decide +kernel
theorem dJ0_coder_7d493_6 : decode cJ0_coder_7d493 6 = .ok (.aload_n 0, 1) := by decide +kernel
theorem dJ0_coder_7d493_7 : decode cJ0_coder_7d493 7 = .ok (.getfield 15, 3) := by decide +kernel
theorem dJ0_coder_7d493_10 : decode cJ0_coder_7d493 10 = .ok (.goto 4, 3) := by decide +kernel
theorem dJ0_coder_7d493_13 : decode cJ0_coder_7d493 13 = .ok (.iconst 1, 1) := by decide +kernel
theorem dJ0_coder_7d493_14 : decode cJ0_coder_7d493 14 = .ok (.ireturn, 1) := by decide +kernel
theorem dJ0_isLatin1_aae02_0 : decode cJ0_isLatin1_aae02 0 = .ok (.getstatic 38, 3) := by decide +kernel
theorem dJ0_isLatin1_aae02_3 : decode cJ0_isLatin1_aae02 3 = .ok (.ifCond .eq 14, 3) := by decide +kernel
theorem dJ0_isLatin1_aae02_6 : decode cJ0_isLatin1_aae02 6 = .ok (.aload_n 0, 1) := by decide +kernel
theorem dJ0_isLatin1_aae02_7 : decode cJ0_isLatin1_aae02 7 = .ok (.getfield 15, 3) := by decide +kernel
theorem dJ0_isLatin1_aae02_10 : decode cJ0_isLatin1_aae02 10 = .ok (.ifCond .ne 7, 3) := by decide +kernel
theorem dJ0_isLatin1_aae02_13 : decode cJ0_isLatin1_aae02 13 = .ok (.iconst 1, 1) := by decide +kernel
theorem dJ0_isLatin1_aae02_14 : decode cJ0_isLatin1_aae02 14 = .ok (.goto 4, 3) := by decide +kernel
theorem dJ0_isLatin1_aae02_17 : decode cJ0_isLatin1_aae02 17 = .ok (.iconst 0, 1) := by decide +kernel
theorem dJ0_isLatin1_aae02_18 : decode cJ0_isLatin1_aae02 18 = .ok (.ireturn, 1) := by decide +kernel
theorem dJ1_canEncode_9a6ad_0 : decode cJ1_canEncode_9a6ad 0 = .ok (.iload_n 0, 1) := by decide +kernel
theorem dJ1_canEncode_9a6ad_1 : decode cJ1_canEncode_9a6ad 1 = .ok (.ifCond .lt 14, 3) := by decide +kernel
theorem dJ1_canEncode_9a6ad_4 : decode cJ1_canEncode_9a6ad 4 = .ok (.iload_n 0, 1) := by decide +kernel
theorem dJ1_canEncode_9a6ad_5 : decode cJ1_canEncode_9a6ad 5 = .ok (.sipush 255, 3) := by decide +kernel
theorem dJ1_canEncode_9a6ad_8 : decode cJ1_canEncode_9a6ad 8 = .ok (.if_icmp .gt 7, 3) := by decide +kernel
theorem dJ1_canEncode_9a6ad_11 : decode cJ1_canEncode_9a6ad 11 = .ok (.iconst 1, 1) := by decide +kernel
theorem dJ1_canEncode_9a6ad_12 : decode cJ1_canEncode_9a6ad 12 = .ok (.goto 4, 3) := by decide +kernel
theorem dJ1_canEncode_9a6ad_15 : decode cJ1_canEncode_9a6ad 15 = .ok (.iconst 0, 1) := by decide +kernel
theorem dJ1_canEncode_9a6ad_16 : decode cJ1_canEncode_9a6ad 16 = .ok (.ireturn, 1) := by decide +kernel
theorem dJ1_indexOf_4cfef_0 : decode cJ1_indexOf_4cfef 0 = .ok (.iload_n 1, 1) := by decide +kernel
theorem dJ1_indexOf_4cfef_1 : decode cJ1_indexOf_4cfef 1 = .ok (.invokestatic 88, 3) := by decide +kernel
theorem dJ1_indexOf_4cfef_4 : decode cJ1_indexOf_4cfef 4 = .ok (.ifCond .ne 5, 3) := by decide +kernel
theorem dJ1_indexOf_4cfef_7 : decode cJ1_indexOf_4cfef 7 = .ok (.iconst (-1), 1) := by decide +kernel
theorem dJ1_indexOf_4cfef_8 : decode cJ1_indexOf_4cfef 8 = .ok (.ireturn, 1) := by decide +kernel
theorem dJ1_indexOf_4cfef_9 : decode cJ1_indexOf_4cfef 9 = .ok (.iload_n 2, 1) := by decide +kernel
theorem dJ1_indexOf_4cfef_10 : decode cJ1_indexOf_4cfef 10 = .ok (.iconst 0, 1) := by decide +kernel
theorem dJ1_indexOf_4cfef_11 : decode cJ1_indexOf_4cfef 11 = .ok (.invokestatic 92, 3) := by decide +kernel
theorem dJ1_indexOf_4cfef_14 : decode cJ1_indexOf_4cfef 14 = .ok (.istore_n 2, 1) := by decide +kernel
theorem dJ1_indexOf_4cfef_15 : decode cJ1_indexOf_4cfef 15 = .ok (.iload_n 3, 1) := by decide +kernel
theorem dJ1_indexOf_4cfef_16 : decode cJ1_indexOf_4cfef 16 = .ok (.aload_n 0, 1) := by decide +kernel
theorem dJ1_indexOf_4cfef_17 : decode cJ1_indexOf_4cfef 17 = .ok (.arraylength, 1) := by decide +kernel
theorem dJ1_indexOf_4cfef_18 : decode cJ1_indexOf_4cfef 18 = .ok (.invokestatic 38, 3) := by decide +kernel
theorem dJ1_indexOf_4cfef_21 : decode cJ1_indexOf_4cfef 21 = .ok (.istore_n 3, 1) := by decide +kernel
theorem dJ1_indexOf_4cfef_22 : decode cJ1_indexOf_4cfef 22 = .ok (.iload_n 2, 1) := by decide +kernel
theorem dJ1_indexOf_4cfef_23 : decode cJ1_indexOf_4cfef 23 = .ok (.iload_n 3, 1) := by decide +kernel
theorem dJ1_indexOf_4cfef_24 : decode cJ1_indexOf_4cfef 24 = .ok (.if_icmp .lt 5, 3) := by decide +kernel
theorem dJ1_indexOf_4cfef_27 : decode cJ1_indexOf_4cfef 27 = .ok (.iconst (-1), 1) := by decide +kernel
theorem dJ1_indexOf_4cfef_28 : decode cJ1_indexOf_4cfef 28 = .ok (.ireturn, 1) := by decide +kernel
theorem dJ1_indexOf_4cfef_29 : decode cJ1_indexOf_4cfef 29 = .ok (.aload_n 0, 1) := by decide +kernel
theorem dJ1_indexOf_4cfef_30 : decode cJ1_indexOf_4cfef 30 = .ok (.iload_n 1, 1) := by decide +kernel
theorem dJ1_indexOf_4cfef_31 : decode cJ1_indexOf_4cfef 31 = .ok (.iload_n 2, 1) := by decide +kernel
theorem dJ1_indexOf_4cfef_32 : decode cJ1_indexOf_4cfef 32 = .ok (.iload_n 3, 1) := by decide +kernel
theorem dJ1_indexOf_4cfef_33 : decode cJ1_indexOf_4cfef 33 = .ok (.invokestatic 95, 3) := by decide +kernel
theorem dJ1_indexOf_4cfef_36 : decode cJ1_indexOf_4cfef 36 = .ok (.ireturn, 1) := by decide +kernel
theorem dJ1_indexOfChar_4cfef_0 : decode cJ1_indexOfChar_4cfef 0 = .ok (.iload_n 1, 1) := by decide +kernel
theorem dJ1_indexOfChar_4cfef_1 : decode cJ1_indexOfChar_4cfef 1 = .ok (.i2b, 1) := by decide +kernel
theorem dJ1_indexOfChar_4cfef_2 : decode cJ1_indexOfChar_4cfef 2 = .ok (.istore 4, 2) := by decide +kernel
theorem dJ1_indexOfChar_4cfef_4 : decode cJ1_indexOfChar_4cfef 4 = .ok (.iload_n 2, 1) := by decide +kernel
theorem dJ1_indexOfChar_4cfef_5 : decode cJ1_indexOfChar_4cfef 5 = .ok (.istore 5, 2) := by decide +kernel
theorem dJ1_indexOfChar_4cfef_7 : decode cJ1_indexOfChar_4cfef 7 = .ok (.iload 5, 2) := by decide +kernel
theorem dJ1_indexOfChar_4cfef_9 : decode cJ1_indexOfChar_4cfef 9 = .ok (.iload_n 3, 1) := by decide +kernel
theorem dJ1_indexOfChar_4cfef_10 : decode cJ1_indexOfChar_4cfef 10 = .ok (.if_icmp .ge 21, 3) := by decide +kernel
theorem dJ1_indexOfChar_4cfef_13 : decode cJ1_indexOfChar_4cfef 13 = .ok (.aload_n 0, 1) := by decide +kernel
theorem dJ1_indexOfChar_4cfef_14 : decode cJ1_indexOfChar_4cfef 14 = .ok (.iload 5, 2) := by decide +kernel
theorem dJ1_indexOfChar_4cfef_16 : decode cJ1_indexOfChar_4cfef 16 = .ok (.baload, 1) := by decide +kernel
theorem dJ1_indexOfChar_4cfef_17 : decode cJ1_indexOfChar_4cfef 17 = .ok (.iload 4, 2) := by decide +kernel
theorem dJ1_indexOfChar_4cfef_19 : decode cJ1_indexOfChar_4cfef 19 = .ok (.if_icmp .ne 6, 3) := by decide +kernel
theorem dJ1_indexOfChar_4cfef_22 : decode cJ1_indexOfChar_4cfef 22 = .ok (.iload 5, 2) := by decide +kernel
theorem dJ1_indexOfChar_4cfef_24 : decode cJ1_indexOfChar_4cfef 24 = .ok (.ireturn, 1) := by decide +kernel
theorem dJ1_indexOfChar_4cfef_25 : decode cJ1_indexOfChar_4cfef 25 = .ok (.iinc 5 1, 3) := by decide +kernel
theorem dJ1_indexOfChar_4cfef_28 : decode cJ1_indexOfChar_4cfef 28 = .ok (.goto (-21), 3) := by decide +kernel
theorem dJ1_indexOfChar_4cfef_31 : decode cJ1_indexOfChar_4cfef 31 = .ok (.iconst (-1), 1) := by decide +kernel
theorem dJ1_indexOfChar_4cfef_32 : decode cJ1_indexOfChar_4cfef 32 = .ok (.ireturn, 1) := by decide +kernel
/-- a contract over one world's names, its values as they lie in the heap -/
def CK (l : Launch) (ρ : zR) (y : MethodName) (M : zM) (as : List Value) (S : St) (w : Option Value) : Prop :=
  ∀ (sz : Nat), Met l y (.code y M.2.1 M.2.2.1 M.2.2.2.1 :: WS) (zrm M) (va_Pc as (zB ρ sz S)) (zQ ρ w S (zA ρ.2.1 sz)) 0 0 (zA ρ.2.1 sz)
def ZK (l : Launch) (ρ : zR) (y : MethodName) (M : zM) (pc : Nat) (lv : List (Nat × Value)) (st : List Value) (S : St) (w : Option Value) : Prop :=
  ∀ (sz : Nat) (p : Program) (e : Env) (s : State) (m : MethodId) (args : Array Value) (below : List Frame) (meth : Method) (c : Code), zX y M ρ sz p s m args meth c →
    ∀ (H : Heap) (locs : List Loc) (ls : Array Slot), va_P ρ.1 CL (world ρ S) H → va_S (zA ρ.2.1 sz) s.heap H locs → lv_has ls M.2.2.1 lv →
      W p l e (zrm M) s m args below meth c H locs 0 0 (MQ below (zQ ρ w S (zA ρ.2.1 sz)) args s 0 0 (zA ρ.2.1 sz)) (F0 m pc ls st)
theorem ck_of {l : Launch} {ρ : zR} {y : MethodName} {M : zM} {as : List Value} {S : St} {w : Option Value} {lv : List (Nat × Value)} (hy : plainName y.cls = true) (hlv : lv_args 0 as = lv) (hn : (lg_sl as).length ≤ M.2.2.1) (k : ZK l ρ y M 0 lv [] S w) : CK l ρ y M as S w := by
  intro sz
  refine Met.ofW (cc := M.2.1) (maxL := M.2.2.1) (ret := M.2.2.2.1) hy rfl ?_
  intro p e s m args below meth c s₁ B hml hv
  obtain ⟨rfl, hsz, hI, hP, hE⟩ := hv
  have hts := atoms_spec (ws := Cond.code y M.2.1 M.2.2.1 M.2.2.2.1 :: WS) B.pre
  have hown : s.vm.findClass y.cls = some m.cls := findClass_of_methodNamed B.named
  have hl := lv_entry as (n := M.2.2.1) hn
  rw [lg_entry_eq]
  rw [hlv] at hl
  exact k sz p e s m _ below meth c ⟨B.exec, B.bytes, B.returns, hml, B.notSynchronized, hown, hts, hsz, hI, hE⟩ s.heap [] _ hP va_S.rf hl
section KK
variable {l : Launch} {ρ : zR} {y : MethodName} {M : zM} {pc : Nat} {lv : List (Nat × Value)} {st : List Value} {S : St} {w : Option Value}
theorem k_iconst {n : Int} {v : Int32} (d : decode M.2.1 pc = .ok (.iconst n, 1)) (hv : Int32.ofInt n = v) (kk : ZK l ρ y M (pc + 1) lv (.int v :: st) S w) : ZK l ρ y M pc lv st S w := fun sz p e s m args below meth c X H locs ls hP hS hl =>
  lv_iconst X.1 X.2.1 d hv (kk sz p e s m args below meth c X H locs ls hP hS hl)
theorem k_bipush {n : Int} {v : Int32} (d : decode M.2.1 pc = .ok (.bipush n, 2)) (hv : (Int8.ofInt n).toInt32 = v) (kk : ZK l ρ y M (pc + 2) lv (.int v :: st) S w) : ZK l ρ y M pc lv st S w := fun sz p e s m args below meth c X H locs ls hP hS hl =>
  lv_bipush X.1 X.2.1 d hv (kk sz p e s m args below meth c X H locs ls hP hS hl)
theorem k_sipush {n : Int} {v : Int32} (d : decode M.2.1 pc = .ok (.sipush n, 3)) (hv : (Int16.ofInt n).toInt32 = v) (kk : ZK l ρ y M (pc + 3) lv (.int v :: st) S w) : ZK l ρ y M pc lv st S w := fun sz p e s m args below meth c X H locs ls hP hS hl =>
  lv_sipush X.1 X.2.1 d hv (kk sz p e s m args below meth c X H locs ls hP hS hl)
theorem k_iload_n {k : Fin 4} {v : Int32} (j : Nat) (d : decode M.2.1 pc = .ok (.iload_n k, 1)) (h : lv[j]? = some ((k : Nat), .int v)) (kk : ZK l ρ y M (pc + 1) lv (.int v :: st) S w) : ZK l ρ y M pc lv st S w := fun sz p e s m args below meth c X H locs ls hP hS hl =>
  lv_iload_n X.1 X.2.1 d rfl (lv_at hl j h) (kk sz p e s m args below meth c X H locs ls hP hS hl)
theorem k_iload {i : Nat} {v : Int32} (j : Nat) (d : decode M.2.1 pc = .ok (.iload i, 2)) (h : lv[j]? = some (i, .int v)) (kk : ZK l ρ y M (pc + 2) lv (.int v :: st) S w) : ZK l ρ y M pc lv st S w := fun sz p e s m args below meth c X H locs ls hP hS hl =>
  lv_iload X.1 X.2.1 d (lv_at hl j h) (kk sz p e s m args below meth c X H locs ls hP hS hl)
theorem k_aload_n {k : Fin 4} {v : Nat} (j : Nat) (d : decode M.2.1 pc = .ok (.aload_n k, 1)) (h : lv[j]? = some ((k : Nat), .ref v)) (kk : ZK l ρ y M (pc + 1) lv (.ref v :: st) S w) : ZK l ρ y M pc lv st S w := fun sz p e s m args below meth c X H locs ls hP hS hl =>
  lv_aload_n X.1 X.2.1 d rfl (lv_at hl j h) (kk sz p e s m args below meth c X H locs ls hP hS hl)
theorem k_istore_n {k : Fin 4} {v : Int32} {lv2 : List (Nat × Value)} (d : decode M.2.1 pc = .ok (.istore_n k, 1)) (hn : (k : Nat) < M.2.2.1) (h : ((k : Nat), Value.int v) :: lv.filter (fun q => !(q.1 == (k : Nat)) && !(q.1 + 1 == (k : Nat) && q.2.category == 2)) = lv2) (kk : ZK l ρ y M (pc + 1) lv2 st S w) : ZK l ρ y M pc lv (.int v :: st) S w := fun sz p e s m args below meth c X H locs ls hP hS hl =>
  lv_istore_n X.1 X.2.1 d rfl hl hn h (fun ls2 hl2 => kk sz p e s m args below meth c X H locs ls2 hP hS hl2)
theorem k_istore {i : Nat} {v : Int32} {lv2 : List (Nat × Value)} (d : decode M.2.1 pc = .ok (.istore i, 2)) (hn : i < M.2.2.1) (h : (i, Value.int v) :: lv.filter (fun q => !(q.1 == i) && !(q.1 + 1 == i && q.2.category == 2)) = lv2) (kk : ZK l ρ y M (pc + 2) lv2 st S w) : ZK l ρ y M pc lv (.int v :: st) S w := fun sz p e s m args below meth c X H locs ls hP hS hl =>
  lv_istore X.1 X.2.1 d hl hn h (fun ls2 hl2 => kk sz p e s m args below meth c X H locs ls2 hP hS hl2)
theorem k_iinc {i : Nat} {n : Int} {x v : Int32} {lv2 : List (Nat × Value)} (j : Nat) (d : decode M.2.1 pc = .ok (.iinc i n, 3)) (hx : lv[j]? = some (i, .int x)) (hv : x + Int32.ofInt n = v) (hn : i < M.2.2.1) (h : (i, Value.int v) :: lv.filter (fun q => !(q.1 == i) && !(q.1 + 1 == i && q.2.category == 2)) = lv2) (kk : ZK l ρ y M (pc + 3) lv2 st S w) : ZK l ρ y M pc lv st S w := fun sz p e s m args below meth c X H locs ls hP hS hl =>
  lv_iinc (k := j) X.1 X.2.1 d hl hx hv hn h (fun ls2 hl2 => kk sz p e s m args below meth c X H locs ls2 hP hS hl2)
theorem k_goto {off : Int} {tgt : Nat} (d : decode M.2.1 pc = .ok (.goto off, 3)) (ht : (pc : Int) + off = (tgt : Int)) (kk : ZK l ρ y M tgt lv st S w) : ZK l ρ y M pc lv st S w := fun sz p e s m args below meth c X H locs ls hP hS hl =>
  lv_goto X.1 X.2.1 d ht (kk sz p e s m args below meth c X H locs ls hP hS hl)
theorem k_if_eq {a : Int32} {off : Int} {tgt : Nat} (d : decode M.2.1 pc = .ok (.ifCond .eq off, 3)) (ht : (pc : Int) + off = (tgt : Int)) (kt : a = 0 → ZK l ρ y M tgt lv st S w) (kf : ¬ a = 0 → ZK l ρ y M (pc + 3) lv st S w) : ZK l ρ y M pc lv (.int a :: st) S w := fun sz p e s m args below meth c X H locs ls hP hS hl =>
  lv_if_eq X.1 X.2.1 d ht (fun q => kt q sz p e s m args below meth c X H locs ls hP hS hl) (fun q => kf q sz p e s m args below meth c X H locs ls hP hS hl)
theorem k_if_ne {a : Int32} {off : Int} {tgt : Nat} (d : decode M.2.1 pc = .ok (.ifCond .ne off, 3)) (ht : (pc : Int) + off = (tgt : Int)) (kt : ¬ a = 0 → ZK l ρ y M tgt lv st S w) (kf : a = 0 → ZK l ρ y M (pc + 3) lv st S w) : ZK l ρ y M pc lv (.int a :: st) S w := fun sz p e s m args below meth c X H locs ls hP hS hl =>
  lv_if_ne X.1 X.2.1 d ht (fun q => kt q sz p e s m args below meth c X H locs ls hP hS hl) (fun q => kf q sz p e s m args below meth c X H locs ls hP hS hl)
theorem k_if_lt {a : Int32} {off : Int} {tgt : Nat} (d : decode M.2.1 pc = .ok (.ifCond .lt off, 3)) (ht : (pc : Int) + off = (tgt : Int)) (kt : a < 0 → ZK l ρ y M tgt lv st S w) (kf : ¬ a < 0 → ZK l ρ y M (pc + 3) lv st S w) : ZK l ρ y M pc lv (.int a :: st) S w := fun sz p e s m args below meth c X H locs ls hP hS hl =>
  lv_if_lt X.1 X.2.1 d ht (fun q => kt q sz p e s m args below meth c X H locs ls hP hS hl) (fun q => kf q sz p e s m args below meth c X H locs ls hP hS hl)
theorem k_if_ge {a : Int32} {off : Int} {tgt : Nat} (d : decode M.2.1 pc = .ok (.ifCond .ge off, 3)) (ht : (pc : Int) + off = (tgt : Int)) (kt : 0 ≤ a → ZK l ρ y M tgt lv st S w) (kf : ¬ 0 ≤ a → ZK l ρ y M (pc + 3) lv st S w) : ZK l ρ y M pc lv (.int a :: st) S w := fun sz p e s m args below meth c X H locs ls hP hS hl =>
  lv_if_ge X.1 X.2.1 d ht (fun q => kt q sz p e s m args below meth c X H locs ls hP hS hl) (fun q => kf q sz p e s m args below meth c X H locs ls hP hS hl)
theorem k_icmp_ne {a b : Int32} {off : Int} {tgt : Nat} (d : decode M.2.1 pc = .ok (.if_icmp .ne off, 3)) (ht : (pc : Int) + off = (tgt : Int)) (kt : ¬ a = b → ZK l ρ y M tgt lv st S w) (kf : a = b → ZK l ρ y M (pc + 3) lv st S w) : ZK l ρ y M pc lv (.int b :: .int a :: st) S w := fun sz p e s m args below meth c X H locs ls hP hS hl =>
  lv_icmp_ne X.1 X.2.1 d ht (fun q => kt q sz p e s m args below meth c X H locs ls hP hS hl) (fun q => kf q sz p e s m args below meth c X H locs ls hP hS hl)
theorem k_icmp_lt {a b : Int32} {off : Int} {tgt : Nat} (d : decode M.2.1 pc = .ok (.if_icmp .lt off, 3)) (ht : (pc : Int) + off = (tgt : Int)) (kt : a < b → ZK l ρ y M tgt lv st S w) (kf : ¬ a < b → ZK l ρ y M (pc + 3) lv st S w) : ZK l ρ y M pc lv (.int b :: .int a :: st) S w := fun sz p e s m args below meth c X H locs ls hP hS hl =>
  lv_icmp_lt X.1 X.2.1 d ht (fun q => kt q sz p e s m args below meth c X H locs ls hP hS hl) (fun q => kf q sz p e s m args below meth c X H locs ls hP hS hl)
theorem k_icmp_ge {a b : Int32} {off : Int} {tgt : Nat} (d : decode M.2.1 pc = .ok (.if_icmp .ge off, 3)) (ht : (pc : Int) + off = (tgt : Int)) (kt : b ≤ a → ZK l ρ y M tgt lv st S w) (kf : ¬ b ≤ a → ZK l ρ y M (pc + 3) lv st S w) : ZK l ρ y M pc lv (.int b :: .int a :: st) S w := fun sz p e s m args below meth c X H locs ls hP hS hl =>
  lv_icmp_ge X.1 X.2.1 d ht (fun q => kt q sz p e s m args below meth c X H locs ls hP hS hl) (fun q => kf q sz p e s m args below meth c X H locs ls hP hS hl)
theorem k_icmp_gt {a b : Int32} {off : Int} {tgt : Nat} (d : decode M.2.1 pc = .ok (.if_icmp .gt off, 3)) (ht : (pc : Int) + off = (tgt : Int)) (kt : b < a → ZK l ρ y M tgt lv st S w) (kf : ¬ b < a → ZK l ρ y M (pc + 3) lv st S w) : ZK l ρ y M pc lv (.int b :: .int a :: st) S w := fun sz p e s m args below meth c X H locs ls hP hS hl =>
  lv_icmp_gt X.1 X.2.1 d ht (fun q => kt q sz p e s m args below meth c X H locs ls hP hS hl) (fun q => kf q sz p e s m args below meth c X H locs ls hP hS hl)
theorem k_i2b {a : Int32} (d : decode M.2.1 pc = .ok (.i2b, 1)) (kk : ZK l ρ y M (pc + 1) lv (.int a.toInt8.toInt32 :: st) S w) : ZK l ρ y M pc lv (.int a :: st) S w := fun sz p e s m args below meth c X H locs ls hP hS hl =>
  lv_i2b X.1 X.2.1 d rfl (kk sz p e s m args below meth c X H locs ls hP hS hl)
theorem k_i2c {a : Int32} (d : decode M.2.1 pc = .ok (.i2c, 1)) (kk : ZK l ρ y M (pc + 1) lv (.int (a.toUInt32 % 65536).toInt32 :: st) S w) : ZK l ρ y M pc lv (.int a :: st) S w := fun sz p e s m args below meth c X H locs ls hP hS hl =>
  lv_i2c X.1 X.2.1 d rfl (kk sz p e s m args below meth c X H locs ls hP hS hl)
theorem k_ishr {a b : Int32} (d : decode M.2.1 pc = .ok (.ishr, 1)) (kk : ZK l ρ y M (pc + 1) lv (.int (a >>> (b &&& 31)) :: st) S w) : ZK l ρ y M pc lv (.int b :: .int a :: st) S w := fun sz p e s m args below meth c X H locs ls hP hS hl =>
  lv_ishr X.1 X.2.1 d (kk sz p e s m args below meth c X H locs ls hP hS hl)
theorem k_iret {v : Int32} {ty : FieldType} (d : decode M.2.1 pc = .ok (.ireturn, 1)) (hr : M.2.2.2.1 = some ty) (hn : narrow ty (.int v) = .int v) : ZK l ρ y M pc lv [.int v] S (some (.int v)) := fun sz p e s m args below meth c X H locs ls hP hS hl =>
  W.zret (v := v) X.1 X.2.1 (X.2.2.1.trans hr) hn (fun t ht hW => ⟨⟨rfl, by rw [ht]; exact hP⟩, hS.F ht⟩) hS.2.2 d X.2.2.2.2.1
def kF (own : String) (idx : Nat) (n d : String) : Prop := Cond.fieldLink own idx "java/lang/String" n d ∈ WS
theorem k_coder {idx : Nat} (lk : kF y.cls idx "coder" "B") (d : decode M.2.1 pc = .ok (.getfield idx, 3)) (kk : ZK l ρ y M (pc + 3) lv (.int 0 :: st) S w) : ZK l ρ y M pc lv (.ref ρ.2.2.2.1 :: st) S w := fun sz p e s m args below meth c X H locs ls hP hS hl => by
  obtain ⟨hx, hb, hr, hml, hlo, hown, hts, hsz, hI, hE⟩ := id X
  exact vk_getf hx hb ((hE.2.2.2.1.1 0 (by decide)).2.1) hS hown (hts _ (List.mem_cons_of_mem _ lk)) (fun x h => h) d (kk sz p e s m args below meth c X H locs ls hP hS hl)
theorem k_value {idx : Nat} (lk : kF y.cls idx "value" "[B") (d : decode M.2.1 pc = .ok (.getfield idx, 3)) (kk : ZK l ρ y M (pc + 3) lv (.ref ρ.2.2.2.2 :: st) S w) : ZK l ρ y M pc lv (.ref ρ.2.2.2.1 :: st) S w := fun sz p e s m args below meth c X H locs ls hP hS hl => by
  obtain ⟨hx, hb, hr, hml, hlo, hown, hts, hsz, hI, hE⟩ := id X
  exact vk_getf hx hb ((hE.2.2.2.1.1 0 (by decide)).2.2.1) hS hown (hts _ (List.mem_cons_of_mem _ lk)) (fun x h => h) d (kk sz p e s m args below meth c X H locs ls hP hS hl)
theorem k_compact {idx : Nat} (lk : Cond.fieldLink y.cls idx "java/lang/String" "COMPACT_STRINGS" "Z" ∈ WS) (d : decode M.2.1 pc = .ok (.getstatic idx, 3)) (kk : ZK l ρ y M (pc + 3) lv (.int 1 :: st) S w) : ZK l ρ y M pc lv st S w := fun sz p e s m args below meth c X H locs ls hP hS hl => by
  obtain ⟨hx, hb, hr, hml, hlo, hown, hts, hsz, hI, hE⟩ := id X
  exact va_gets hx hb hE.2.2.2.2 hS hown (hts _ (List.mem_cons_of_mem _ lk)) (fun x h => h) d (kk sz p e s m args below meth c X H locs ls hP hS hl)
theorem k_tlen (d : decode M.2.1 pc = .ok (.arraylength, 1)) (kk : ZK l ρ y M (pc + 1) lv (.int 6 :: st) S w) : ZK l ρ y M pc lv (.ref ρ.2.2.2.2 :: st) S w := fun sz p e s m args below meth c X H locs ls hP hS hl => by
  obtain ⟨hx, hb, hr, hml, hlo, hown, hts, hsz, hI, hE⟩ := id X
  exact va_tlen hx hb ((hE.2.2.2.1.1 0 (by decide)).2.2.2) hS rfl d (kk sz p e s m args below meth c X H locs ls hP hS hl)
theorem k_baload {i v : Int32} (hin : vp_in i 6) (hv : (([[116, 99, 100, 112, 102, 119]] : List (List Int32)).getD 0 []).getD i.toNatClampNeg 0 = v) (d : decode M.2.1 pc = .ok (.baload, 1)) (kk : ZK l ρ y M (pc + 1) lv (.int v :: st) S w) : ZK l ρ y M pc lv (.int i :: .ref ρ.2.2.2.2 :: st) S w := fun sz p e s m args below meth c X H locs ls hP hS hl => by
  obtain ⟨hx, hb, hr, hml, hlo, hown, hts, hsz, hI, hE⟩ := id X
  exact va_tb hx hb ((hE.2.2.2.1.1 0 (by decide)).2.2.2) hS hin (v := .int v) (congrArg Value.int hv) d (kk sz p e s m args below meth c X H locs ls hP hS hl)
theorem k_ldcS {idx : Nat} (hy : y.cls = RX5) (hi : idx = 27) (d : decode M.2.1 pc = .ok (.ldc idx, 2)) (kk : ZK l ρ y M (pc + 2) lv (.ref ρ.2.2.2.1 :: st) S w) : ZK l ρ y M pc lv st S w := fun sz p e s m args below meth c X H locs ls hP hS hl => by
  obtain ⟨hx, hb, hr, hml, hlo, hown, hts, hsz, hI, hE⟩ := id X
  subst hi
  rw [hy] at hown
  exact va_ldcS hx hb hown hE.2.2.1 d (kk sz p e s m args below meth c X H locs ls hP hS hl)
def kML (own : String) (idx : Nat) (y2 : MethodName) (M2 : zM) (n : Nat) : Prop :=
  Cond.methodLink own idx y2 ∈ WS ∧ Cond.initialized y2.cls ∈ WS ∧ Cond.code y2 M2.2.1 M2.2.2.1 M2.2.2.2.1 ∈ WS ∧
  (y2.cls ≠ "java/lang/invoke/MethodHandle" ∧ y2.cls ≠ "java/lang/invoke/VarHandle" ∧ (parseMethodDescriptor y2.desc).map (fun d => d.parameters.length) = some n)
theorem k_callW {idx n b : Nat} {y2 : MethodName} {M2 : zM} {as : List Value} {v : Option Value} {st0 st1 : List Value} (d : decode M.2.1 pc = .ok (.invokevirtual idx, 3)) (ml : kML y.cls idx y2 M2 n) (mv : zMV y2) (hc : CK l ρ y2 M2 (.ref b :: as) S v)
    (hrc : ∀ (sz : Nat) (s : State) (H : Heap) (locs : List Loc), va_P ρ.1 CL (world ρ S) H → va_S (zA ρ.2.1 sz) s.heap H locs → zE ρ (zA ρ.2.1 sz) s s.heap → ∃ cellB : Cell, H[b]? = some cellB ∧ cellB.vm.isStatics = false ∧ s.vm.findClass y2.cls = some cellB.cls) (hn : as.length = n) (hst : as.reverse ++ .ref b :: st = st0) (hcat : (st.map Value.category).sum ≤ 8)
    (hroom : M2.2.2.2.2.1 + 1 ≤ M.2.2.2.2.1 ∧ 8 + (M2.2.2.1 + 11) + M2.2.2.2.2.2 ≤ M.2.2.2.2.2) (hst1 : (v.map (rv ρ.2.1)).toList ++ st = st1) (k : ZK l ρ y M (pc + 3) lv st1 S w) : ZK l ρ y M pc lv st0 S w := by
  intro sz p e s m args below meth c X H locs ls hP hS hl
  have XX := X
  obtain ⟨hx, hb, hr, hml, hlo, hown, hts, hsz, hI, hE⟩ := X
  subst hst
  subst hst1
  have hM := hc H.size
  have hpre : PreV s H y2.cls b (va_Pc (Value.ref b :: as) (zB ρ H.size S)) as := ⟨zB_blind _ _ _ _, hrc sz s H locs hP hS hE, fun U hU hW => ⟨rfl, zB_call XX hP hS U hU hW⟩⟩
  have hrun : va_Run p l e (zrm M) s m args below meth c H locs 0 0 0 0 (F0 m pc ls (as.reverse ++ .ref b :: st)) st (zQ ρ v S (zA ρ.2.1 H.size) (Value.ref b :: as).toArray) (zA ρ.2.1 H.size) :=
    va_runV (C := y2.cls) (ret := M2.2.2.2.1) (maxL := M2.2.2.1) (bytes := M2.2.1) (As := as) ⟨hx, hb, hml, hown, hts⟩ hM (cwV n hts (zgi (fun w hw => by
        rcases List.mem_append.mp hw with h2 | h2
        · simp only [List.mem_cons, List.not_mem_nil, or_false] at h2
          rcases h2 with rfl | rfl | rfl | rfl
          · exact ml.1
          · exact mv.1
          · exact mv.2
          · exact ml.2.1
        · rcases List.mem_cons.mp h2 with rfl | h2
          · exact ml.2.2.1
          · exact h2)) rfl rfl rfl ⟨rfl, ml.2.2.2⟩ hroom) hpre rfl hn hl.1 rfl (lv_room hcat) d ⟨Nat.le_refl _, Nat.le_refl _⟩
  exact zrun_goes hrun hsz hS (fun H1 locs1 p1 s1 => k sz p e s m args below meth c XX H1 locs1 ls p1 s1 hl)
theorem k_callS {idx n : Nat} {y2 : MethodName} {M2 : zM} {as : List Value} {v : Option Value} {st0 st1 : List Value} (d : decode M.2.1 pc = .ok (.invokestatic idx, 3)) (ml : kML y.cls idx y2 M2 n) (mv : Cond.static y2 ∈ WS) (hc : CK l ρ y2 M2 as S v) (hn : as.length = n) (hst : as.reverse ++ st = st0) (hcat : (st.map Value.category).sum ≤ 8)
    (hroom : M2.2.2.2.2.1 + 1 ≤ M.2.2.2.2.1 ∧ 8 + (M2.2.2.1 + 11) + M2.2.2.2.2.2 ≤ M.2.2.2.2.2) (hst1 : (v.map (rv ρ.2.1)).toList ++ st = st1) (k : ZK l ρ y M (pc + 3) lv st1 S w) : ZK l ρ y M pc lv st0 S w := by
  intro sz p e s m args below meth c X H locs ls hP hS hl
  have XX := X
  obtain ⟨hx, hb, hr, hml, hlo, hown, hts, hsz, hI, hE⟩ := X
  subst hst
  subst hst1
  have hM := hc H.size
  have hpre : PreS s H (va_Pc as (zB ρ H.size S)) as := ⟨zB_blind _ _ _ _, fun U hU hW => ⟨rfl, zB_call XX hP hS U hU hW⟩⟩
  have hrun : va_Run p l e (zrm M) s m args below meth c H locs 0 0 0 0 (F0 m pc ls (as.reverse ++ st)) st (zQ ρ v S (zA ρ.2.1 H.size) as.toArray) (zA ρ.2.1 H.size) :=
    va_runS (ret := M2.2.2.2.1) (maxL := M2.2.2.1) (bytes := M2.2.1) (As := as) ⟨hx, hb, hml, hown, hts⟩ hM (va_cwS n hts (zgi (fun w hw => by
        rcases List.mem_append.mp hw with h2 | h2
        · simp only [List.mem_cons, List.not_mem_nil, or_false] at h2
          rcases h2 with rfl | rfl | rfl
          · exact ml.1
          · exact mv
          · exact ml.2.1
        · rcases List.mem_cons.mp h2 with rfl | h2
          · exact ml.2.2.1
          · exact h2)) rfl rfl rfl ml.2.2.2 hroom) hpre rfl hn hl.1 rfl (lv_room hcat) d ⟨Nat.le_refl _, Nat.le_refl _⟩
  exact zrun_goes hrun hsz hS (fun H1 locs1 p1 s1 => k sz p e s m args below meth c XX H1 locs1 ls p1 s1 hl)
theorem k_max {idx : Nat} {a b : Int32} (d : decode M.2.1 pc = .ok (.invokestatic idx, 3)) (ml : zmx y.cls idx) (hf : 1 ≤ M.2.2.2.2.1) (hcat : (st.map Value.category).sum + 13 ≤ M.2.2.2.2.2) (kk : ZK l ρ y M (pc + 3) lv (.int (if a < b then b else a) :: st) S w) : ZK l ρ y M pc lv (.int b :: .int a :: st) S w := by
  intro sz p e s m args below meth c X H locs ls hP hS hl
  have k2 := kk sz p e s m args below meth c X H locs ls hP hS hl
  obtain ⟨hx, hb, hr, hml, hlo, hown, hts, hsz, hI, hE⟩ := X
  have g : ∀ w ∈ WS, w.before args s = true := fun w hw => hts _ (List.mem_cons_of_mem _ hw)
  exact va_mmax hx hb (hml.trans hl.1.symm) hown (g _ ml.1) (g _ ml.2.1) (g _ ml.2.2.1) (g _ ml.2.2.2) hf hcat (Nat.le_refl _) (Nat.le_refl _) d k2
theorem k_min {idx : Nat} {a b : Int32} (d : decode M.2.1 pc = .ok (.invokestatic idx, 3)) (ml : zmn y.cls idx) (hf : 1 ≤ M.2.2.2.2.1) (hcat : (st.map Value.category).sum + 13 ≤ M.2.2.2.2.2) (kk : ZK l ρ y M (pc + 3) lv (.int (if b < a then b else a) :: st) S w) : ZK l ρ y M pc lv (.int b :: .int a :: st) S w := by
  intro sz p e s m args below meth c X H locs ls hP hS hl
  have k2 := kk sz p e s m args below meth c X H locs ls hP hS hl
  obtain ⟨hx, hb, hr, hml, hlo, hown, hts, hsz, hI, hE⟩ := X
  have g : ∀ w ∈ WS, w.before args s = true := fun w hw => hts _ (List.mem_cons_of_mem _ hw)
  exact va_mmin hx hb (hml.trans hl.1.symm) hown (g _ ml.1) (g _ ml.2.1) (g _ ml.2.2.1) (g _ ml.2.2.2) hf hcat (Nat.le_refl _) (Nat.le_refl _) d k2
end KK
abbrev MK_io1 : zM := (RJ0, cJ0_indexOf_0f7a4, 2, (some .int), 5, 129)
abbrev MK_io2 : zM := (RJ0, cJ0_indexOf_7cf53, 3, (some .int), 4, 107)
abbrev MK_lat : zM := (RJ0, cJ0_isLatin1_aae02, 1, (some .boolean), 0, 0)
abbrev MK_len : zM := (RJ0, cJ0_length_8abf5, 1, (some .int), 1, 40)
abbrev MK_cod : zM := (RJ0, cJ0_coder_7d493, 1, (some .byte), 0, 0)
abbrev MK_lio : zM := (RJ1, cJ1_indexOf_4cfef, 4, (some .int), 1, 60)
abbrev MK_enc : zM := (RJ1, cJ1_canEncode_9a6ad, 1, (some .boolean), 0, 0)
abbrev MK_ioc : zM := (RJ1, cJ1_indexOfChar_4cfef, 6, (some .int), 0, 0)
theorem kl_5_29 : kML RX5 29 yJ0_indexOf_0f7a4 MK_io1 1 := ⟨(ws_at 331 (by decide +kernel) rfl), (ws_at 95 (by decide +kernel) rfl), (ws_at 334 (by decide +kernel) rfl), ⟨by decide +kernel, by decide +kernel, by decide +kernel⟩⟩
theorem kl_5_23 : kML RX5 23 yX5_letterAt M_X5_letterAt 1 := ⟨(ws_at 322 (by decide +kernel) rfl), (ws_at 89 (by decide +kernel) rfl), (ws_at 325 (by decide +kernel) rfl), ⟨by decide +kernel, by decide +kernel, by decide +kernel⟩⟩
theorem kl_io2 : kML RJ0 633 yJ0_indexOf_7cf53 MK_io2 2 := ⟨(ws_at 335 (by decide +kernel) rfl), (ws_at 95 (by decide +kernel) rfl), (ws_at 338 (by decide +kernel) rfl), ⟨by decide +kernel, by decide +kernel, by decide +kernel⟩⟩
theorem kl_lat : kML RJ0 492 yJ0_isLatin1_aae02 MK_lat 0 := ⟨(ws_at 339 (by decide +kernel) rfl), (ws_at 95 (by decide +kernel) rfl), (ws_at 342 (by decide +kernel) rfl), ⟨by decide +kernel, by decide +kernel, by decide +kernel⟩⟩
theorem kl_len : kML RJ0 505 yJ0_length_8abf5 MK_len 0 := ⟨(ws_at 345 (by decide +kernel) rfl), (ws_at 95 (by decide +kernel) rfl), (ws_at 348 (by decide +kernel) rfl), ⟨by decide +kernel, by decide +kernel, by decide +kernel⟩⟩
theorem kl_cod : kML RJ0 335 yJ0_coder_7d493 MK_cod 0 := ⟨(ws_at 349 (by decide +kernel) rfl), (ws_at 95 (by decide +kernel) rfl), (ws_at 352 (by decide +kernel) rfl), ⟨by decide +kernel, by decide +kernel, by decide +kernel⟩⟩
theorem kl_lio : kML RJ0 637 yJ1_indexOf_4cfef MK_lio 4 := ⟨(ws_at 353 (by decide +kernel) rfl), (ws_at 96 (by decide +kernel) rfl), (ws_at 355 (by decide +kernel) rfl), ⟨by decide +kernel, by decide +kernel, by decide +kernel⟩⟩
theorem kl_enc : kML RJ1 88 yJ1_canEncode_9a6ad MK_enc 1 := ⟨(ws_at 356 (by decide +kernel) rfl), (ws_at 96 (by decide +kernel) rfl), (ws_at 358 (by decide +kernel) rfl), ⟨by decide +kernel, by decide +kernel, by decide +kernel⟩⟩
theorem kl_ioc : kML RJ1 95 yJ1_indexOfChar_4cfef MK_ioc 4 := ⟨(ws_at 365 (by decide +kernel) rfl), (ws_at 96 (by decide +kernel) rfl), (ws_at 367 (by decide +kernel) rfl), ⟨by decide +kernel, by decide +kernel, by decide +kernel⟩⟩
theorem kv_io1 : zMV yJ0_indexOf_0f7a4 := ⟨(ws_at 332 (by decide +kernel) rfl), (ws_at 333 (by decide +kernel) rfl)⟩
theorem kv_io2 : zMV yJ0_indexOf_7cf53 := ⟨(ws_at 336 (by decide +kernel) rfl), (ws_at 337 (by decide +kernel) rfl)⟩
theorem kv_lat : zMV yJ0_isLatin1_aae02 := ⟨(ws_at 340 (by decide +kernel) rfl), (ws_at 341 (by decide +kernel) rfl)⟩
theorem kv_len : zMV yJ0_length_8abf5 := ⟨(ws_at 346 (by decide +kernel) rfl), (ws_at 347 (by decide +kernel) rfl)⟩
theorem kv_cod : zMV yJ0_coder_7d493 := ⟨(ws_at 350 (by decide +kernel) rfl), (ws_at 351 (by decide +kernel) rfl)⟩
theorem kx_max : zmx RJ1 92 := ⟨(ws_at 359 (by decide +kernel) rfl), (ws_at 360 (by decide +kernel) rfl), (ws_at 97 (by decide +kernel) rfl), (ws_at 361 (by decide +kernel) rfl)⟩
theorem kx_min : zmn RJ1 38 := ⟨(ws_at 362 (by decide +kernel) rfl), (ws_at 363 (by decide +kernel) rfl), (ws_at 97 (by decide +kernel) rfl), (ws_at 364 (by decide +kernel) rfl)⟩
theorem kf_coder : kF RJ0 15 "coder" "B" := (ws_at 1235 (by decide +kernel) rfl)
theorem kf_value : kF RJ0 9 "value" "[B" := (ws_at 1236 (by decide +kernel) rfl)
theorem kf_compact : Cond.fieldLink RJ0 38 "java/lang/String" "COMPACT_STRINGS" "Z" ∈ WS := (ws_at 343 (by decide +kernel) rfl)
theorem k_recvS {ρ : zR} {S : St} : ∀ (sz : Nat) (s : State) (H : Heap) (locs : List Loc), va_P ρ.1 CL (world ρ S) H → va_S (zA ρ.2.1 sz) s.heap H locs → zE ρ (zA ρ.2.1 sz) s s.heap → ∃ cellB : Cell, H[ρ.2.2.2.1]? = some cellB ∧ cellB.vm.isStatics = false ∧ s.vm.findClass "java/lang/String" = some cellB.cls :=
  fun sz s H locs hP hS hE => vk_recv (i := 0) hE.2.2.2.1 (by decide) hS
theorem k_recvT {ρ : zR} {S : St} : ∀ (sz : Nat) (s : State) (H : Heap) (locs : List Loc), va_P ρ.1 CL (world ρ S) H → va_S (zA ρ.2.1 sz) s.heap H locs → zE ρ (zA ρ.2.1 sz) s s.heap → ∃ cellB : Cell, H[ρ.2.1 60]? = some cellB ∧ cellB.vm.isStatics = false ∧ s.vm.findClass yX5_letterAt.cls = some cellB.cls := by
  intro sz s H locs hP hS hE
  exact va_recv hE.1 hP (ci := 5) rfl (q0 := 60) (by rw [world_at ρ S (by decide), zc_obj kdl_60 (by decide)])
-- ===== the methods =====
theorem ck_lat (l : Launch) (ρ : zR) (S : St) : CK l ρ yJ0_isLatin1_aae02 MK_lat [.ref ρ.2.2.2.1] S (some (.int 1)) := by
  refine ck_of (lv := [(0, .ref ρ.2.2.2.1)]) (by decide) rfl (Nat.le_of_ble_eq_true rfl) ?_
  refine k_compact kf_compact dJ0_isLatin1_aae02_0 ?_
  refine k_if_eq (tgt := 17) dJ0_isLatin1_aae02_3 (by decide) (fun c1 => absurd c1 (by decide)) (fun c1 => ?_)
  refine k_aload_n 0 dJ0_isLatin1_aae02_6 rfl ?_
  refine k_coder kf_coder dJ0_isLatin1_aae02_7 ?_
  refine k_if_ne (tgt := 17) dJ0_isLatin1_aae02_10 (by decide) (fun c1 => absurd rfl c1) (fun c1 => ?_)
  refine k_iconst (v := 1) dJ0_isLatin1_aae02_13 rfl ?_
  refine k_goto (tgt := 18) dJ0_isLatin1_aae02_14 (by decide) ?_
  exact k_iret dJ0_isLatin1_aae02_18 rfl rfl
theorem ck_cod (l : Launch) (ρ : zR) (S : St) : CK l ρ yJ0_coder_7d493 MK_cod [.ref ρ.2.2.2.1] S (some (.int 0)) := by
  refine ck_of (lv := [(0, .ref ρ.2.2.2.1)]) (by decide) rfl (Nat.le_of_ble_eq_true rfl) ?_
  refine k_compact kf_compact dJ0_coder_7d493_0 ?_
  refine k_if_eq (tgt := 13) dJ0_coder_7d493_3 (by decide) (fun c1 => absurd c1 (by decide)) (fun c1 => ?_)
  refine k_aload_n 0 dJ0_coder_7d493_6 rfl ?_
  refine k_coder kf_coder dJ0_coder_7d493_7 ?_
  refine k_goto (tgt := 14) dJ0_coder_7d493_10 (by decide) ?_
  exact k_iret dJ0_coder_7d493_14 rfl rfl
theorem ck_len (l : Launch) (ρ : zR) (S : St) : CK l ρ yJ0_length_8abf5 MK_len [.ref ρ.2.2.2.1] S (some (.int 6)) := by
  refine ck_of (lv := [(0, .ref ρ.2.2.2.1)]) (by decide) rfl (Nat.le_of_ble_eq_true rfl) ?_
  refine k_aload_n 0 dJ0_length_8abf5_0 rfl ?_
  refine k_value kf_value dJ0_length_8abf5_1 ?_
  refine k_tlen dJ0_length_8abf5_4 ?_
  refine k_aload_n 0 dJ0_length_8abf5_5 rfl ?_
  refine k_callW (b := ρ.2.2.2.1) (as := []) (v := some (.int 0)) (st := [.int 6]) (st1 := [.int 0, .int 6]) dJ0_length_8abf5_6 kl_cod kv_cod (ck_cod l ρ S) k_recvS rfl rfl (by decide) (by decide) rfl ?_
  refine k_ishr dJ0_length_8abf5_9 ?_
  rw [show (6 : Int32) >>> ((0 : Int32) &&& 31) = 6 by decide]
  exact k_iret dJ0_length_8abf5_10 rfl rfl
theorem ck_enc (l : Launch) (ρ : zR) (S : St) (c : Int32) : CK l ρ yJ1_canEncode_9a6ad MK_enc [.int c] S (some (.int (if c < 0 then 0 else if 255 < c then 0 else 1))) := by
  refine ck_of (lv := [(0, .int c)]) (by decide) rfl (Nat.le_of_ble_eq_true rfl) ?_
  refine k_iload_n 0 dJ1_canEncode_9a6ad_0 rfl ?_
  refine k_if_lt (tgt := 15) dJ1_canEncode_9a6ad_1 (by decide) (fun c1 => ?_) (fun c1 => ?_)
  · rw [if_pos c1]
    refine k_iconst (v := 0) dJ1_canEncode_9a6ad_15 rfl ?_
    exact k_iret dJ1_canEncode_9a6ad_16 rfl rfl
  · rw [if_neg c1]
    refine k_iload_n 0 dJ1_canEncode_9a6ad_4 rfl ?_
    refine k_sipush (v := 255) dJ1_canEncode_9a6ad_5 rfl ?_
    refine k_icmp_gt (tgt := 15) dJ1_canEncode_9a6ad_8 (by decide) (fun c2 => ?_) (fun c2 => ?_)
    · rw [if_pos c2]
      refine k_iconst (v := 0) dJ1_canEncode_9a6ad_15 rfl ?_
      exact k_iret dJ1_canEncode_9a6ad_16 rfl rfl
    · rw [if_neg c2]
      refine k_iconst (v := 1) dJ1_canEncode_9a6ad_11 rfl ?_
      refine k_goto (tgt := 16) dJ1_canEncode_9a6ad_12 (by decide) ?_
      exact k_iret dJ1_canEncode_9a6ad_16 rfl rfl
theorem ck_ioc (l : Launch) (ρ : zR) (S : St) (c : Int32) : CK l ρ yJ1_indexOfChar_4cfef MK_ioc [.ref ρ.2.2.2.2, .int c, .int 0, .int 6] S (some (.int (zix c.toInt8.toInt32))) := by
  obtain ⟨v, hv⟩ : ∃ v, v = c.toInt8.toInt32 := ⟨_, rfl⟩
  rw [← hv]
  refine ck_of (lv := [(0, .ref ρ.2.2.2.2), (1, .int c), (2, .int 0), (3, .int 6)]) (by decide) rfl (Nat.le_of_ble_eq_true rfl) ?_
  refine k_iload_n 1 dJ1_indexOfChar_4cfef_0 rfl ?_
  refine k_i2b dJ1_indexOfChar_4cfef_1 ?_
  rw [← hv]
  refine k_istore (lv2 := [(4, .int v), (0, .ref ρ.2.2.2.2), (1, .int c), (2, .int 0), (3, .int 6)]) dJ1_indexOfChar_4cfef_2 (by decide) rfl ?_
  refine k_iload_n 3 dJ1_indexOfChar_4cfef_4 rfl ?_
  refine k_istore (lv2 := [(5, .int 0), (4, .int v), (0, .ref ρ.2.2.2.2), (1, .int c), (2, .int 0), (3, .int 6)]) dJ1_indexOfChar_4cfef_5 (by decide) rfl ?_
  unfold zix
  refine k_iload 0 dJ1_indexOfChar_4cfef_7 rfl ?_
  refine k_iload_n 5 dJ1_indexOfChar_4cfef_9 rfl ?_
  refine k_icmp_ge (tgt := 31) dJ1_indexOfChar_4cfef_10 (by decide) (fun q => absurd q (by decide)) (fun q => ?_)
  refine k_aload_n 2 dJ1_indexOfChar_4cfef_13 rfl ?_
  refine k_iload 0 dJ1_indexOfChar_4cfef_14 rfl ?_
  refine k_baload (v := 116) (show ¬ ((0 : Int32) < 0 ∨ 6 ≤ (0 : Int32).toNatClampNeg) by decide) rfl dJ1_indexOfChar_4cfef_16 ?_
  refine k_iload 1 dJ1_indexOfChar_4cfef_17 rfl ?_
  by_cases c0 : v = 116
  · rw [if_pos c0]
    refine k_icmp_ne (tgt := 25) dJ1_indexOfChar_4cfef_19 (by decide) (fun q => absurd c0.symm q) (fun q => ?_)
    refine k_iload 0 dJ1_indexOfChar_4cfef_22 rfl ?_
    exact k_iret dJ1_indexOfChar_4cfef_24 rfl rfl
  rw [if_neg c0]
  refine k_icmp_ne (tgt := 25) dJ1_indexOfChar_4cfef_19 (by decide) (fun q => ?_) (fun q => absurd q.symm c0)
  refine k_iinc (v := 1) (lv2 := [(5, .int 1), (4, .int v), (0, .ref ρ.2.2.2.2), (1, .int c), (2, .int 0), (3, .int 6)]) 0 dJ1_indexOfChar_4cfef_25 rfl (by decide) (by decide) rfl ?_
  refine k_goto (tgt := 7) dJ1_indexOfChar_4cfef_28 (by decide) ?_
  refine k_iload 0 dJ1_indexOfChar_4cfef_7 rfl ?_
  refine k_iload_n 5 dJ1_indexOfChar_4cfef_9 rfl ?_
  refine k_icmp_ge (tgt := 31) dJ1_indexOfChar_4cfef_10 (by decide) (fun q => absurd q (by decide)) (fun q => ?_)
  refine k_aload_n 2 dJ1_indexOfChar_4cfef_13 rfl ?_
  refine k_iload 0 dJ1_indexOfChar_4cfef_14 rfl ?_
  refine k_baload (v := 99) (show ¬ ((1 : Int32) < 0 ∨ 6 ≤ (1 : Int32).toNatClampNeg) by decide) rfl dJ1_indexOfChar_4cfef_16 ?_
  refine k_iload 1 dJ1_indexOfChar_4cfef_17 rfl ?_
  by_cases c1 : v = 99
  · rw [if_pos c1]
    refine k_icmp_ne (tgt := 25) dJ1_indexOfChar_4cfef_19 (by decide) (fun q => absurd c1.symm q) (fun q => ?_)
    refine k_iload 0 dJ1_indexOfChar_4cfef_22 rfl ?_
    exact k_iret dJ1_indexOfChar_4cfef_24 rfl rfl
  rw [if_neg c1]
  refine k_icmp_ne (tgt := 25) dJ1_indexOfChar_4cfef_19 (by decide) (fun q => ?_) (fun q => absurd q.symm c1)
  refine k_iinc (v := 2) (lv2 := [(5, .int 2), (4, .int v), (0, .ref ρ.2.2.2.2), (1, .int c), (2, .int 0), (3, .int 6)]) 0 dJ1_indexOfChar_4cfef_25 rfl (by decide) (by decide) rfl ?_
  refine k_goto (tgt := 7) dJ1_indexOfChar_4cfef_28 (by decide) ?_
  refine k_iload 0 dJ1_indexOfChar_4cfef_7 rfl ?_
  refine k_iload_n 5 dJ1_indexOfChar_4cfef_9 rfl ?_
  refine k_icmp_ge (tgt := 31) dJ1_indexOfChar_4cfef_10 (by decide) (fun q => absurd q (by decide)) (fun q => ?_)
  refine k_aload_n 2 dJ1_indexOfChar_4cfef_13 rfl ?_
  refine k_iload 0 dJ1_indexOfChar_4cfef_14 rfl ?_
  refine k_baload (v := 100) (show ¬ ((2 : Int32) < 0 ∨ 6 ≤ (2 : Int32).toNatClampNeg) by decide) rfl dJ1_indexOfChar_4cfef_16 ?_
  refine k_iload 1 dJ1_indexOfChar_4cfef_17 rfl ?_
  by_cases c2 : v = 100
  · rw [if_pos c2]
    refine k_icmp_ne (tgt := 25) dJ1_indexOfChar_4cfef_19 (by decide) (fun q => absurd c2.symm q) (fun q => ?_)
    refine k_iload 0 dJ1_indexOfChar_4cfef_22 rfl ?_
    exact k_iret dJ1_indexOfChar_4cfef_24 rfl rfl
  rw [if_neg c2]
  refine k_icmp_ne (tgt := 25) dJ1_indexOfChar_4cfef_19 (by decide) (fun q => ?_) (fun q => absurd q.symm c2)
  refine k_iinc (v := 3) (lv2 := [(5, .int 3), (4, .int v), (0, .ref ρ.2.2.2.2), (1, .int c), (2, .int 0), (3, .int 6)]) 0 dJ1_indexOfChar_4cfef_25 rfl (by decide) (by decide) rfl ?_
  refine k_goto (tgt := 7) dJ1_indexOfChar_4cfef_28 (by decide) ?_
  refine k_iload 0 dJ1_indexOfChar_4cfef_7 rfl ?_
  refine k_iload_n 5 dJ1_indexOfChar_4cfef_9 rfl ?_
  refine k_icmp_ge (tgt := 31) dJ1_indexOfChar_4cfef_10 (by decide) (fun q => absurd q (by decide)) (fun q => ?_)
  refine k_aload_n 2 dJ1_indexOfChar_4cfef_13 rfl ?_
  refine k_iload 0 dJ1_indexOfChar_4cfef_14 rfl ?_
  refine k_baload (v := 112) (show ¬ ((3 : Int32) < 0 ∨ 6 ≤ (3 : Int32).toNatClampNeg) by decide) rfl dJ1_indexOfChar_4cfef_16 ?_
  refine k_iload 1 dJ1_indexOfChar_4cfef_17 rfl ?_
  by_cases c3 : v = 112
  · rw [if_pos c3]
    refine k_icmp_ne (tgt := 25) dJ1_indexOfChar_4cfef_19 (by decide) (fun q => absurd c3.symm q) (fun q => ?_)
    refine k_iload 0 dJ1_indexOfChar_4cfef_22 rfl ?_
    exact k_iret dJ1_indexOfChar_4cfef_24 rfl rfl
  rw [if_neg c3]
  refine k_icmp_ne (tgt := 25) dJ1_indexOfChar_4cfef_19 (by decide) (fun q => ?_) (fun q => absurd q.symm c3)
  refine k_iinc (v := 4) (lv2 := [(5, .int 4), (4, .int v), (0, .ref ρ.2.2.2.2), (1, .int c), (2, .int 0), (3, .int 6)]) 0 dJ1_indexOfChar_4cfef_25 rfl (by decide) (by decide) rfl ?_
  refine k_goto (tgt := 7) dJ1_indexOfChar_4cfef_28 (by decide) ?_
  refine k_iload 0 dJ1_indexOfChar_4cfef_7 rfl ?_
  refine k_iload_n 5 dJ1_indexOfChar_4cfef_9 rfl ?_
  refine k_icmp_ge (tgt := 31) dJ1_indexOfChar_4cfef_10 (by decide) (fun q => absurd q (by decide)) (fun q => ?_)
  refine k_aload_n 2 dJ1_indexOfChar_4cfef_13 rfl ?_
  refine k_iload 0 dJ1_indexOfChar_4cfef_14 rfl ?_
  refine k_baload (v := 102) (show ¬ ((4 : Int32) < 0 ∨ 6 ≤ (4 : Int32).toNatClampNeg) by decide) rfl dJ1_indexOfChar_4cfef_16 ?_
  refine k_iload 1 dJ1_indexOfChar_4cfef_17 rfl ?_
  by_cases c4 : v = 102
  · rw [if_pos c4]
    refine k_icmp_ne (tgt := 25) dJ1_indexOfChar_4cfef_19 (by decide) (fun q => absurd c4.symm q) (fun q => ?_)
    refine k_iload 0 dJ1_indexOfChar_4cfef_22 rfl ?_
    exact k_iret dJ1_indexOfChar_4cfef_24 rfl rfl
  rw [if_neg c4]
  refine k_icmp_ne (tgt := 25) dJ1_indexOfChar_4cfef_19 (by decide) (fun q => ?_) (fun q => absurd q.symm c4)
  refine k_iinc (v := 5) (lv2 := [(5, .int 5), (4, .int v), (0, .ref ρ.2.2.2.2), (1, .int c), (2, .int 0), (3, .int 6)]) 0 dJ1_indexOfChar_4cfef_25 rfl (by decide) (by decide) rfl ?_
  refine k_goto (tgt := 7) dJ1_indexOfChar_4cfef_28 (by decide) ?_
  refine k_iload 0 dJ1_indexOfChar_4cfef_7 rfl ?_
  refine k_iload_n 5 dJ1_indexOfChar_4cfef_9 rfl ?_
  refine k_icmp_ge (tgt := 31) dJ1_indexOfChar_4cfef_10 (by decide) (fun q => absurd q (by decide)) (fun q => ?_)
  refine k_aload_n 2 dJ1_indexOfChar_4cfef_13 rfl ?_
  refine k_iload 0 dJ1_indexOfChar_4cfef_14 rfl ?_
  refine k_baload (v := 119) (show ¬ ((5 : Int32) < 0 ∨ 6 ≤ (5 : Int32).toNatClampNeg) by decide) rfl dJ1_indexOfChar_4cfef_16 ?_
  refine k_iload 1 dJ1_indexOfChar_4cfef_17 rfl ?_
  by_cases c5 : v = 119
  · rw [if_pos c5]
    refine k_icmp_ne (tgt := 25) dJ1_indexOfChar_4cfef_19 (by decide) (fun q => absurd c5.symm q) (fun q => ?_)
    refine k_iload 0 dJ1_indexOfChar_4cfef_22 rfl ?_
    exact k_iret dJ1_indexOfChar_4cfef_24 rfl rfl
  rw [if_neg c5]
  refine k_icmp_ne (tgt := 25) dJ1_indexOfChar_4cfef_19 (by decide) (fun q => ?_) (fun q => absurd q.symm c5)
  refine k_iinc (v := 6) (lv2 := [(5, .int 6), (4, .int v), (0, .ref ρ.2.2.2.2), (1, .int c), (2, .int 0), (3, .int 6)]) 0 dJ1_indexOfChar_4cfef_25 rfl (by decide) (by decide) rfl ?_
  refine k_goto (tgt := 7) dJ1_indexOfChar_4cfef_28 (by decide) ?_
  refine k_iload 0 dJ1_indexOfChar_4cfef_7 rfl ?_
  refine k_iload_n 5 dJ1_indexOfChar_4cfef_9 rfl ?_
  refine k_icmp_ge (tgt := 31) dJ1_indexOfChar_4cfef_10 (by decide) (fun q => ?_) (fun q => absurd (by decide) q)
  refine k_iconst (v := -1) dJ1_indexOfChar_4cfef_31 rfl ?_
  exact k_iret dJ1_indexOfChar_4cfef_32 rfl rfl
theorem zix_b (c : Int32) : (¬ c < 0 → ¬ 255 < c → zix c.toInt8.toInt32 = zix c) ∧ ((c < 0 ∨ 255 < c) → zix c = -1) := by
  constructor
  · intro h1 h2
    obtain ⟨j, hj, rfl⟩ := nI_of2 (M := 255) (n := 255) rfl h1 (Int32.not_lt.mp h2)
    exact (by decide +kernel : ∀ m, m < 256 → zix (nI m).toInt8.toInt32 = zix (nI m)) j (by omega)
  · intro h
    unfold zix
    have ne : ∀ k : Int32, ¬ k < 0 → ¬ 255 < k → ¬ c = k := fun k h1 h2 z => by
      rw [z] at h
      exact h.elim h1 h2
    rw [if_neg (ne 116 (by decide) (by decide)), if_neg (ne 99 (by decide) (by decide)), if_neg (ne 100 (by decide) (by decide)), if_neg (ne 112 (by decide) (by decide)), if_neg (ne 102 (by decide) (by decide)), if_neg (ne 119 (by decide) (by decide))]
theorem ck_lio (l : Launch) (ρ : zR) (S : St) (c : Int32) : CK l ρ yJ1_indexOf_4cfef MK_lio [.ref ρ.2.2.2.2, .int c, .int 0, .int 6] S (some (.int (zix c))) := by
  obtain ⟨zb1, zb2⟩ := zix_b c
  refine ck_of (lv := [(0, .ref ρ.2.2.2.2), (1, .int c), (2, .int 0), (3, .int 6)]) (by decide) rfl (Nat.le_of_ble_eq_true rfl) ?_
  refine k_iload_n 1 dJ1_indexOf_4cfef_0 rfl ?_
  have he := ck_enc l ρ S c
  by_cases c1 : c < 0 ∨ 255 < c
  · have e0 : (if c < 0 then (0 : Int32) else if 255 < c then 0 else 1) = 0 := by
      by_cases c2 : c < 0
      · rw [if_pos c2]
      · rw [if_neg c2, if_pos (c1.resolve_left c2)]
    rw [e0] at he
    rw [zb2 c1]
    refine k_callS (as := [.int c]) (v := some (.int 0)) (st := []) (st1 := [.int 0]) dJ1_indexOf_4cfef_1 kl_enc (ws_at 357 (by decide +kernel) rfl) he rfl rfl (by decide) (by decide) rfl ?_
    refine k_if_ne (tgt := 9) dJ1_indexOf_4cfef_4 (by decide) (fun q => absurd rfl q) (fun q => ?_)
    refine k_iconst (v := -1) dJ1_indexOf_4cfef_7 rfl ?_
    exact k_iret dJ1_indexOf_4cfef_8 rfl rfl
  · have c2 : ¬ c < 0 := fun z => c1 (Or.inl z)
    have c3 : ¬ 255 < c := fun z => c1 (Or.inr z)
    rw [if_neg c2, if_neg c3] at he
    rw [← zb1 c2 c3]
    refine k_callS (as := [.int c]) (v := some (.int 1)) (st := []) (st1 := [.int 1]) dJ1_indexOf_4cfef_1 kl_enc (ws_at 357 (by decide +kernel) rfl) he rfl rfl (by decide) (by decide) rfl ?_
    refine k_if_ne (tgt := 9) dJ1_indexOf_4cfef_4 (by decide) (fun q => ?_) (fun q => absurd q (by decide))
    refine k_iload_n 2 dJ1_indexOf_4cfef_9 rfl ?_
    refine k_iconst (v := 0) dJ1_indexOf_4cfef_10 rfl ?_
    refine k_max dJ1_indexOf_4cfef_11 kx_max (by decide) (by decide) ?_
    rw [show (if (0 : Int32) < 0 then (0 : Int32) else 0) = 0 by decide]
    refine k_istore_n (lv2 := [(2, .int 0), (0, .ref ρ.2.2.2.2), (1, .int c), (3, .int 6)]) dJ1_indexOf_4cfef_14 (by decide) rfl ?_
    refine k_iload_n 3 dJ1_indexOf_4cfef_15 rfl ?_
    refine k_aload_n 1 dJ1_indexOf_4cfef_16 rfl ?_
    refine k_tlen dJ1_indexOf_4cfef_17 ?_
    refine k_min dJ1_indexOf_4cfef_18 kx_min (by decide) (by decide) ?_
    rw [show (if (6 : Int32) < 6 then (6 : Int32) else 6) = 6 by decide]
    refine k_istore_n (lv2 := [(3, .int 6), (2, .int 0), (0, .ref ρ.2.2.2.2), (1, .int c)]) dJ1_indexOf_4cfef_21 (by decide) rfl ?_
    refine k_iload_n 1 dJ1_indexOf_4cfef_22 rfl ?_
    refine k_iload_n 0 dJ1_indexOf_4cfef_23 rfl ?_
    refine k_icmp_lt (tgt := 29) dJ1_indexOf_4cfef_24 (by decide) (fun q => ?_) (fun q => absurd (by decide) q)
    refine k_aload_n 2 dJ1_indexOf_4cfef_29 rfl ?_
    refine k_iload_n 3 dJ1_indexOf_4cfef_30 rfl ?_
    refine k_iload_n 1 dJ1_indexOf_4cfef_31 rfl ?_
    refine k_iload_n 0 dJ1_indexOf_4cfef_32 rfl ?_
    refine k_callS (as := [.ref ρ.2.2.2.2, .int c, .int 0, .int 6]) (v := some (.int (zix c.toInt8.toInt32))) (st := []) (st1 := [.int (zix c.toInt8.toInt32)]) dJ1_indexOf_4cfef_33 kl_ioc (ws_at 366 (by decide +kernel) rfl) (ck_ioc l ρ S c) rfl rfl (by decide) (by decide) rfl ?_
    exact k_iret dJ1_indexOf_4cfef_36 rfl rfl
theorem ck_io2 (l : Launch) (ρ : zR) (S : St) (c : Int32) : CK l ρ yJ0_indexOf_7cf53 MK_io2 [.ref ρ.2.2.2.1, .int c, .int 0] S (some (.int (zix c))) := by
  refine ck_of (lv := [(0, .ref ρ.2.2.2.1), (1, .int c), (2, .int 0)]) (by decide) rfl (Nat.le_of_ble_eq_true rfl) ?_
  refine k_aload_n 0 dJ0_indexOf_7cf53_0 rfl ?_
  refine k_callW (b := ρ.2.2.2.1) (as := []) (v := some (.int 1)) (st := []) (st1 := [.int 1]) dJ0_indexOf_7cf53_1 kl_lat kv_lat (ck_lat l ρ S) k_recvS rfl rfl (by decide) (by decide) rfl ?_
  refine k_if_eq (tgt := 23) dJ0_indexOf_7cf53_4 (by decide) (fun q => absurd q (by decide)) (fun q => ?_)
  refine k_aload_n 0 dJ0_indexOf_7cf53_7 rfl ?_
  refine k_value kf_value dJ0_indexOf_7cf53_8 ?_
  refine k_iload_n 1 dJ0_indexOf_7cf53_11 rfl ?_
  refine k_iload_n 2 dJ0_indexOf_7cf53_12 rfl ?_
  refine k_aload_n 0 dJ0_indexOf_7cf53_13 rfl ?_
  refine k_callW (b := ρ.2.2.2.1) (as := []) (v := some (.int 6)) (st := [.int 0, .int c, .ref ρ.2.2.2.2]) (st1 := [.int 6, .int 0, .int c, .ref ρ.2.2.2.2]) dJ0_indexOf_7cf53_14 kl_len kv_len (ck_len l ρ S) k_recvS rfl rfl (by simp [Value.category]) (by decide) rfl ?_
  refine k_callS (as := [.ref ρ.2.2.2.2, .int c, .int 0, .int 6]) (v := some (.int (zix c))) (st := []) (st1 := [.int (zix c)]) dJ0_indexOf_7cf53_17 kl_lio (ws_at 354 (by decide +kernel) rfl) (ck_lio l ρ S c) rfl rfl (by decide) (by decide) rfl ?_
  refine k_goto (tgt := 36) dJ0_indexOf_7cf53_20 (by decide) ?_
  exact k_iret dJ0_indexOf_7cf53_36 rfl rfl
theorem ck_io1 (l : Launch) (ρ : zR) (S : St) (c : Int32) : CK l ρ yJ0_indexOf_0f7a4 MK_io1 [.ref ρ.2.2.2.1, .int c] S (some (.int (zix c))) := by
  refine ck_of (lv := [(0, .ref ρ.2.2.2.1), (1, .int c)]) (by decide) rfl (Nat.le_of_ble_eq_true rfl) ?_
  refine k_aload_n 0 dJ0_indexOf_0f7a4_0 rfl ?_
  refine k_iload_n 1 dJ0_indexOf_0f7a4_1 rfl ?_
  refine k_iconst (v := 0) dJ0_indexOf_0f7a4_2 rfl ?_
  refine k_callW (b := ρ.2.2.2.1) (as := [.int c, .int 0]) (v := some (.int (zix c))) (st := []) (st1 := [.int (zix c)]) dJ0_indexOf_0f7a4_3 kl_io2 kv_io2 (ck_io2 l ρ S c) k_recvS rfl rfl (by decide) (by decide) rfl ?_
  exact k_iret dJ0_indexOf_0f7a4_6 rfl rfl
theorem tk_letterAt (l : Launch) {S : St}  {a1 : Int32} {r : Int32} (h : f_X5_letterAt a1 S = some r) : CT l yX5_letterAt M_X5_letterAt [.ref 60, .int a1] S (some (.int r)) S := by
  rw [f_X5_letterAt] at h
  refine ct_of (lv := [(0, .ref 60), (1, .int a1)]) (by decide) rfl (Nat.le_of_ble_eq_true rfl) ?_
  refine z_iload_n 1 dX5_letterAt_0 rfl ?_
  refine z_if_lt (tgt := 18) dX5_letterAt_1 (by decide) (fun c1 => ?_) (fun c1 => ?_)
  · replace h := ip c1 h
    refine z_iconst (v := (-1)) dX5_letterAt_18 rfl ?_
    refine z_goto (tgt := 28) dX5_letterAt_19 (by decide) ?_
    obtain rfl := Option.some.inj h
    exact z_iret dX5_letterAt_28 rfl rfl
  · replace h := ig c1 h
    refine z_iload_n 1 dX5_letterAt_4 rfl ?_
    refine z_aload_n 0 dX5_letterAt_5 rfl ?_
    refine z_get (v := .int (S.1 60 1)) dX5_letterAt_6 fl_5_15 kdl_60 rfl ?_
    refine z_icmp_ge (tgt := 18) dX5_letterAt_9 (by decide) (fun c2 => ?_) (fun c2 => ?_)
    · replace h := ip c2 h
      refine z_iconst (v := (-1)) dX5_letterAt_18 rfl ?_
      refine z_goto (tgt := 28) dX5_letterAt_19 (by decide) ?_
      obtain rfl := Option.some.inj h
      exact z_iret dX5_letterAt_28 rfl rfl
    · replace h := ig c2 h
      refine z_iload_n 1 dX5_letterAt_12 rfl ?_
      refine z_bipush (v := 96) dX5_letterAt_13 rfl ?_
      refine z_icmp_lt (tgt := 22) dX5_letterAt_15 (by decide) (fun c3 => ?_) (fun c3 => ?_)
      · replace h := ip c3 h
        refine z_aload_n 0 dX5_letterAt_22 rfl ?_
        refine z_get (v := .ref 61) dX5_letterAt_23 fl_5_9 kdl_60 rfl ?_
        refine z_iload_n 1 dX5_letterAt_26 rfl ?_
        obtain ⟨c4, h⟩ := oi h
        refine z_iald dX5_letterAt_27 kdl_61 (by decide) c4 ?_
        obtain rfl := Option.some.inj h
        exact z_iret dX5_letterAt_28 rfl rfl
      · replace h := ig c3 h
        refine z_iconst (v := (-1)) dX5_letterAt_18 rfl ?_
        refine z_goto (tgt := 28) dX5_letterAt_19 (by decide) ?_
        obtain rfl := Option.some.inj h
        exact z_iret dX5_letterAt_28 rfl rfl
theorem tk_kindAt (l : Launch) {S : St} {a1 : Int32} {r : Int32} (h : f_X5_kindAt a1 S = some r) : CT l yX5_kindAt M_X5_kindAt [.ref 60, .int a1] S (some (.int r)) S := by
  rw [f_X5_kindAt] at h
  obtain ⟨v1, h1, h⟩ := ob h
  intro ρ
  have hla : CK l ρ yX5_letterAt M_X5_letterAt [.ref (ρ.2.1 60), .int a1] S (some (.int v1)) := fun sz => tk_letterAt l h1 ρ sz
  refine ck_of (as := [.ref (ρ.2.1 60), .int a1]) (lv := [(0, .ref (ρ.2.1 60)), (1, .int a1)]) (by decide) rfl (Nat.le_of_ble_eq_true rfl) ?_
  refine k_aload_n 0 dX5_kindAt_0 rfl ?_
  refine k_iload_n 1 dX5_kindAt_1 rfl ?_
  refine k_callW (b := ρ.2.1 60) (as := [.int a1]) (v := some (.int v1)) (st := []) (st1 := [.int v1]) dX5_kindAt_2 kl_5_23 mv_X5_letterAt hla k_recvT rfl rfl (by decide) (by decide) rfl ?_
  refine k_istore_n (lv2 := [(2, .int v1), (0, .ref (ρ.2.1 60)), (1, .int a1)]) dX5_kindAt_5 (by decide) rfl ?_
  refine k_iload_n 0 dX5_kindAt_6 rfl ?_
  refine k_if_ge (tgt := 15) dX5_kindAt_7 (by decide) (fun c1 => ?_) (fun c1 => ?_)
  · replace h := ip c1 h
    obtain rfl := Option.some.inj h
    refine k_ldcS rfl rfl dX5_kindAt_15 ?_
    refine k_iload_n 0 dX5_kindAt_17 rfl ?_
    refine k_i2c dX5_kindAt_18 ?_
    refine k_callW (b := ρ.2.2.2.1) (as := [.int (v1.toUInt32 % 65536).toInt32]) (v := some (.int (zix (v1.toUInt32 % 65536).toInt32))) (st := []) (st1 := [.int (zix (v1.toUInt32 % 65536).toInt32)]) dX5_kindAt_19 kl_5_29 kv_io1 (ck_io1 l ρ S _) k_recvS rfl rfl (by decide) (by decide) rfl ?_
    exact k_iret dX5_kindAt_22 rfl rfl
  · replace h := ig c1 h
    obtain rfl := Option.some.inj h
    refine k_bipush (v := -9) dX5_kindAt_10 rfl ?_
    refine k_goto (tgt := 22) dX5_kindAt_12 (by decide) ?_
    exact k_iret dX5_kindAt_22 rfl rfl
