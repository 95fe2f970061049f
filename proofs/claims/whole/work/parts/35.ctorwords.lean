-- ===== the store at the start; cells that show alike =====
def S0 : St := (fun i j => if kd i = 3 then (if j = 2 then 20 else if j = 3 then 1 else 0) else if kd i = 6 then (if j = 2 then -9 else 0) else if i = 75 then (if j = 2 then 20 else if j = 3 then 1 else 0) else 0, fun _ => 0)
theorem S0_zero {i : Nat} (h1 : kd i ≠ 3) (h2 : kd i ≠ 6) (h3 : i ≠ 75) : S0.1 i = fun _ => 0 := by
  funext j
  simp [S0, h1, h2, h3]
theorem va_ne {α : Type} {f : Nat → α} {k j : Nat} {v : α} (h : j ≠ k) : va_up f k v j = f j := by simp only [va_up, h, if_false]
theorem va_eq {α : Type} {f : Nat → α} {k : Nat} {v : α} : va_up f k v k = v := by simp only [va_up, if_pos]
def sim (ρ : zR) (e e2 : va_E) : Prop := ∀ (a : Nat) (H : Heap), va_at ρ.1 CL (a, e) H → va_at ρ.1 CL (a, e2) H
theorem sim_eq {ρ : zR} {e e2 : va_E} (h : e = e2) : sim ρ e e2 := fun _ _ q => h ▸ q
def Pz (ρ : zR) (f : Nat → va_E) (a b : Nat) : Prop := ∀ i, a ≤ i → i < b → sim ρ (f i) (zc ρ S0 i)
theorem wi_int : Cond.arrayClass .int ∈ WS := (ws_at 140 (by decide +kernel) rfl)
theorem wi_long : Cond.arrayClass .long ∈ WS := (ws_at 248 (by decide +kernel) rfl)
theorem oi_0 (idx : Nat) (h : idx = 3) : Cond.methodLink RX0 idx objectInit ∈ WS ∧ Cond.instanceMethod objectInit ∈ WS ∧ Cond.code objectInit ⟨#[0xb1]⟩ 1 none ∈ WS := by
  subst h
  exact ⟨(ws_at 226 (by decide +kernel) rfl), (ws_at 108 (by decide +kernel) rfl), (ws_at 109 (by decide +kernel) rfl)⟩
theorem oi_1 (idx : Nat) (h : idx = 3) : Cond.methodLink RX1 idx objectInit ∈ WS ∧ Cond.instanceMethod objectInit ∈ WS ∧ Cond.code objectInit ⟨#[0xb1]⟩ 1 none ∈ WS := by
  subst h
  exact ⟨(ws_at 203 (by decide +kernel) rfl), (ws_at 108 (by decide +kernel) rfl), (ws_at 109 (by decide +kernel) rfl)⟩
theorem oi_2 (idx : Nat) (h : idx = 3) : Cond.methodLink RX2 idx objectInit ∈ WS ∧ Cond.instanceMethod objectInit ∈ WS ∧ Cond.code objectInit ⟨#[0xb1]⟩ 1 none ∈ WS := by
  subst h
  exact ⟨(ws_at 189 (by decide +kernel) rfl), (ws_at 108 (by decide +kernel) rfl), (ws_at 109 (by decide +kernel) rfl)⟩
theorem oi_3 (idx : Nat) (h : idx = 3) : Cond.methodLink RX3 idx objectInit ∈ WS ∧ Cond.instanceMethod objectInit ∈ WS ∧ Cond.code objectInit ⟨#[0xb1]⟩ 1 none ∈ WS := by
  subst h
  exact ⟨(ws_at 115 (by decide +kernel) rfl), (ws_at 108 (by decide +kernel) rfl), (ws_at 109 (by decide +kernel) rfl)⟩
theorem oi_4 (idx : Nat) (h : idx = 3) : Cond.methodLink RX4 idx objectInit ∈ WS ∧ Cond.instanceMethod objectInit ∈ WS ∧ Cond.code objectInit ⟨#[0xb1]⟩ 1 none ∈ WS := by
  subst h
  exact ⟨(ws_at 243 (by decide +kernel) rfl), (ws_at 108 (by decide +kernel) rfl), (ws_at 109 (by decide +kernel) rfl)⟩
theorem oi_5 (idx : Nat) (h : idx = 3) : Cond.methodLink RX5 idx objectInit ∈ WS ∧ Cond.instanceMethod objectInit ∈ WS ∧ Cond.code objectInit ⟨#[0xb1]⟩ 1 none ∈ WS := by
  subst h
  exact ⟨(ws_at 175 (by decide +kernel) rfl), (ws_at 108 (by decide +kernel) rfl), (ws_at 109 (by decide +kernel) rfl)⟩
theorem oi_6 (idx : Nat) (h : idx = 3) : Cond.methodLink RX6 idx objectInit ∈ WS ∧ Cond.instanceMethod objectInit ∈ WS ∧ Cond.code objectInit ⟨#[0xb1]⟩ 1 none ∈ WS := by
  subst h
  exact ⟨(ws_at 122 (by decide +kernel) rfl), (ws_at 108 (by decide +kernel) rfl), (ws_at 109 (by decide +kernel) rfl)⟩
theorem oi_7 (idx : Nat) (h : idx = 3) : Cond.methodLink RX7 idx objectInit ∈ WS ∧ Cond.instanceMethod objectInit ∈ WS ∧ Cond.code objectInit ⟨#[0xb1]⟩ 1 none ∈ WS := by
  subst h
  exact ⟨(ws_at 107 (by decide +kernel) rfl), (ws_at 108 (by decide +kernel) rfl), (ws_at 109 (by decide +kernel) rfl)⟩
theorem oi_8 (idx : Nat) (h : idx = 1) : Cond.methodLink RX8 idx objectInit ∈ WS ∧ Cond.instanceMethod objectInit ∈ WS ∧ Cond.code objectInit ⟨#[0xb1]⟩ 1 none ∈ WS := by
  subst h
  exact ⟨(ws_at 872 (by decide +kernel) rfl), (ws_at 108 (by decide +kernel) rfl), (ws_at 109 (by decide +kernel) rfl)⟩
abbrev M_X0_init : zM := (RX0, cX0_init, 1, none, 1, 12)
abbrev M_X1_init : zM := (RX1, cX1_init, 1, none, 1, 12)
abbrev M_X2_init : zM := (RX2, cX2_init, 1, none, 1, 12)
abbrev M_X3_init : zM := (RX3, cX3_init, 2, none, 2, 40)
abbrev M_X4_init : zM := (RX4, cX4_init, 1, none, 1, 12)
abbrev M_X5_init : zM := (RX5, cX5_init, 1, none, 1, 12)
abbrev M_X6_init : zM := (RX6, cX6_init, 1, none, 1, 12)
abbrev M_X7_init : zM := (RX7, cX7_init, 1, none, 3, 80)
abbrev M_X8_init : zM := (RX8, cX8_init, 1, none, 1, 12)
theorem dX0_init_0 : decode cX0_init 0 = .ok (.aload_n 0, 1) := by decide +kernel
theorem dX0_init_1 : decode cX0_init 1 = .ok (.invokespecial 3, 3) := by decide +kernel
theorem dX0_init_4 : decode cX0_init 4 = .ok (.aload_n 0, 1) := by decide +kernel
theorem dX0_init_5 : decode cX0_init 5 = .ok (.bipush 8, 2) := by decide +kernel
theorem dX0_init_7 : decode cX0_init 7 = .ok (.newarray .int, 2) := by decide +kernel
theorem dX0_init_9 : decode cX0_init 9 = .ok (.putfield 9, 3) := by decide +kernel
theorem dX0_init_12 : decode cX0_init 12 = .ok (.aload_n 0, 1) := by decide +kernel
theorem dX0_init_13 : decode cX0_init 13 = .ok (.iconst 4, 1) := by decide +kernel
theorem dX0_init_14 : decode cX0_init 14 = .ok (.newarray .int, 2) := by decide +kernel
theorem dX0_init_16 : decode cX0_init 16 = .ok (.putfield 15, 3) := by decide +kernel
theorem dX0_init_19 : decode cX0_init 19 = .ok (.return_, 1) := by decide +kernel
theorem dX1_init_0 : decode cX1_init 0 = .ok (.aload_n 0, 1) := by decide +kernel
theorem dX1_init_1 : decode cX1_init 1 = .ok (.invokespecial 3, 3) := by decide +kernel
theorem dX1_init_4 : decode cX1_init 4 = .ok (.aload_n 0, 1) := by decide +kernel
theorem dX1_init_5 : decode cX1_init 5 = .ok (.bipush 8, 2) := by decide +kernel
theorem dX1_init_7 : decode cX1_init 7 = .ok (.newarray .int, 2) := by decide +kernel
theorem dX1_init_9 : decode cX1_init 9 = .ok (.putfield 9, 3) := by decide +kernel
theorem dX1_init_12 : decode cX1_init 12 = .ok (.aload_n 0, 1) := by decide +kernel
theorem dX1_init_13 : decode cX1_init 13 = .ok (.bipush 8, 2) := by decide +kernel
theorem dX1_init_15 : decode cX1_init 15 = .ok (.newarray .int, 2) := by decide +kernel
theorem dX1_init_17 : decode cX1_init 17 = .ok (.putfield 15, 3) := by decide +kernel
theorem dX1_init_20 : decode cX1_init 20 = .ok (.return_, 1) := by decide +kernel
theorem dX2_init_0 : decode cX2_init 0 = .ok (.aload_n 0, 1) := by decide +kernel
theorem dX2_init_1 : decode cX2_init 1 = .ok (.invokespecial 3, 3) := by decide +kernel
theorem dX2_init_4 : decode cX2_init 4 = .ok (.aload_n 0, 1) := by decide +kernel
theorem dX2_init_5 : decode cX2_init 5 = .ok (.bipush 16, 2) := by decide +kernel
theorem dX2_init_7 : decode cX2_init 7 = .ok (.newarray .int, 2) := by decide +kernel
theorem dX2_init_9 : decode cX2_init 9 = .ok (.putfield 9, 3) := by decide +kernel
theorem dX2_init_12 : decode cX2_init 12 = .ok (.return_, 1) := by decide +kernel
theorem dX3_init_0 : decode cX3_init 0 = .ok (.aload_n 0, 1) := by decide +kernel
theorem dX3_init_1 : decode cX3_init 1 = .ok (.invokespecial 3, 3) := by decide +kernel
theorem dX3_init_4 : decode cX3_init 4 = .ok (.aload_n 0, 1) := by decide +kernel
theorem dX3_init_5 : decode cX3_init 5 = .ok (.bipush 20, 2) := by decide +kernel
theorem dX3_init_7 : decode cX3_init 7 = .ok (.putfield 9, 3) := by decide +kernel
theorem dX3_init_10 : decode cX3_init 10 = .ok (.aload_n 0, 1) := by decide +kernel
theorem dX3_init_11 : decode cX3_init 11 = .ok (.iconst 1, 1) := by decide +kernel
theorem dX3_init_12 : decode cX3_init 12 = .ok (.putfield 15, 3) := by decide +kernel
theorem dX3_init_15 : decode cX3_init 15 = .ok (.aload_n 0, 1) := by decide +kernel
theorem dX3_init_16 : decode cX3_init 16 = .ok (.bipush 8, 2) := by decide +kernel
theorem dX3_init_18 : decode cX3_init 18 = .ok (.anewarray 18, 3) := by decide +kernel
theorem dX3_init_21 : decode cX3_init 21 = .ok (.putfield 20, 3) := by decide +kernel
theorem dX3_init_24 : decode cX3_init 24 = .ok (.aload_n 0, 1) := by decide +kernel
theorem dX3_init_25 : decode cX3_init 25 = .ok (.bipush 8, 2) := by decide +kernel
theorem dX3_init_27 : decode cX3_init 27 = .ok (.newarray .int, 2) := by decide +kernel
theorem dX3_init_29 : decode cX3_init 29 = .ok (.putfield 24, 3) := by decide +kernel
theorem dX3_init_32 : decode cX3_init 32 = .ok (.iconst 0, 1) := by decide +kernel
theorem dX3_init_33 : decode cX3_init 33 = .ok (.istore_n 1, 1) := by decide +kernel
theorem dX3_init_34 : decode cX3_init 34 = .ok (.iload_n 1, 1) := by decide +kernel
theorem dX3_init_35 : decode cX3_init 35 = .ok (.bipush 8, 2) := by decide +kernel
theorem dX3_init_37 : decode cX3_init 37 = .ok (.if_icmp .ge 22, 3) := by decide +kernel
theorem dX3_init_40 : decode cX3_init 40 = .ok (.aload_n 0, 1) := by decide +kernel
theorem dX3_init_41 : decode cX3_init 41 = .ok (.getfield 20, 3) := by decide +kernel
theorem dX3_init_44 : decode cX3_init 44 = .ok (.iload_n 1, 1) := by decide +kernel
theorem dX3_init_45 : decode cX3_init 45 = .ok (.new 18, 3) := by decide +kernel
theorem dX3_init_48 : decode cX3_init 48 = .ok (.dup, 1) := by decide +kernel
theorem dX3_init_49 : decode cX3_init 49 = .ok (.invokespecial 28, 3) := by decide +kernel
theorem dX3_init_52 : decode cX3_init 52 = .ok (.aastore, 1) := by decide +kernel
theorem dX3_init_53 : decode cX3_init 53 = .ok (.iinc 1 1, 3) := by decide +kernel
theorem dX3_init_56 : decode cX3_init 56 = .ok (.goto (-22), 3) := by decide +kernel
theorem dX3_init_59 : decode cX3_init 59 = .ok (.return_, 1) := by decide +kernel
theorem dX4_init_0 : decode cX4_init 0 = .ok (.aload_n 0, 1) := by decide +kernel
theorem dX4_init_1 : decode cX4_init 1 = .ok (.invokespecial 3, 3) := by decide +kernel
theorem dX4_init_4 : decode cX4_init 4 = .ok (.aload_n 0, 1) := by decide +kernel
theorem dX4_init_5 : decode cX4_init 5 = .ok (.bipush 9, 2) := by decide +kernel
theorem dX4_init_7 : decode cX4_init 7 = .ok (.newarray .long, 2) := by decide +kernel
theorem dX4_init_9 : decode cX4_init 9 = .ok (.putfield 9, 3) := by decide +kernel
theorem dX4_init_12 : decode cX4_init 12 = .ok (.return_, 1) := by decide +kernel
theorem dX5_init_0 : decode cX5_init 0 = .ok (.aload_n 0, 1) := by decide +kernel
theorem dX5_init_1 : decode cX5_init 1 = .ok (.invokespecial 3, 3) := by decide +kernel
theorem dX5_init_4 : decode cX5_init 4 = .ok (.aload_n 0, 1) := by decide +kernel
theorem dX5_init_5 : decode cX5_init 5 = .ok (.bipush 96, 2) := by decide +kernel
theorem dX5_init_7 : decode cX5_init 7 = .ok (.newarray .int, 2) := by decide +kernel
theorem dX5_init_9 : decode cX5_init 9 = .ok (.putfield 9, 3) := by decide +kernel
theorem dX5_init_12 : decode cX5_init 12 = .ok (.return_, 1) := by decide +kernel
theorem dX6_init_0 : decode cX6_init 0 = .ok (.aload_n 0, 1) := by decide +kernel
theorem dX6_init_1 : decode cX6_init 1 = .ok (.invokespecial 3, 3) := by decide +kernel
theorem dX6_init_4 : decode cX6_init 4 = .ok (.aload_n 0, 1) := by decide +kernel
theorem dX6_init_5 : decode cX6_init 5 = .ok (.bipush (-9), 2) := by decide +kernel
theorem dX6_init_7 : decode cX6_init 7 = .ok (.putfield 9, 3) := by decide +kernel
theorem dX6_init_10 : decode cX6_init 10 = .ok (.aload_n 0, 1) := by decide +kernel
theorem dX6_init_11 : decode cX6_init 11 = .ok (.bipush 12, 2) := by decide +kernel
theorem dX6_init_13 : decode cX6_init 13 = .ok (.newarray .int, 2) := by decide +kernel
theorem dX6_init_15 : decode cX6_init 15 = .ok (.putfield 15, 3) := by decide +kernel
theorem dX6_init_18 : decode cX6_init 18 = .ok (.return_, 1) := by decide +kernel
theorem dX7_init_0 : decode cX7_init 0 = .ok (.aload_n 0, 1) := by decide +kernel
theorem dX7_init_1 : decode cX7_init 1 = .ok (.invokespecial 3, 3) := by decide +kernel
theorem dX7_init_4 : decode cX7_init 4 = .ok (.aload_n 0, 1) := by decide +kernel
theorem dX7_init_5 : decode cX7_init 5 = .ok (.new 9, 3) := by decide +kernel
theorem dX7_init_8 : decode cX7_init 8 = .ok (.dup, 1) := by decide +kernel
theorem dX7_init_9 : decode cX7_init 9 = .ok (.invokespecial 11, 3) := by decide +kernel
theorem dX7_init_12 : decode cX7_init 12 = .ok (.putfield 12, 3) := by decide +kernel
theorem dX7_init_15 : decode cX7_init 15 = .ok (.aload_n 0, 1) := by decide +kernel
theorem dX7_init_16 : decode cX7_init 16 = .ok (.new 9, 3) := by decide +kernel
theorem dX7_init_19 : decode cX7_init 19 = .ok (.dup, 1) := by decide +kernel
theorem dX7_init_20 : decode cX7_init 20 = .ok (.invokespecial 11, 3) := by decide +kernel
theorem dX7_init_23 : decode cX7_init 23 = .ok (.putfield 16, 3) := by decide +kernel
theorem dX7_init_26 : decode cX7_init 26 = .ok (.aload_n 0, 1) := by decide +kernel
theorem dX7_init_27 : decode cX7_init 27 = .ok (.new 9, 3) := by decide +kernel
theorem dX7_init_30 : decode cX7_init 30 = .ok (.dup, 1) := by decide +kernel
theorem dX7_init_31 : decode cX7_init 31 = .ok (.invokespecial 11, 3) := by decide +kernel
theorem dX7_init_34 : decode cX7_init 34 = .ok (.putfield 19, 3) := by decide +kernel
theorem dX7_init_37 : decode cX7_init 37 = .ok (.aload_n 0, 1) := by decide +kernel
theorem dX7_init_38 : decode cX7_init 38 = .ok (.new 22, 3) := by decide +kernel
theorem dX7_init_41 : decode cX7_init 41 = .ok (.dup, 1) := by decide +kernel
theorem dX7_init_42 : decode cX7_init 42 = .ok (.invokespecial 24, 3) := by decide +kernel
theorem dX7_init_45 : decode cX7_init 45 = .ok (.putfield 25, 3) := by decide +kernel
theorem dX7_init_48 : decode cX7_init 48 = .ok (.aload_n 0, 1) := by decide +kernel
theorem dX7_init_49 : decode cX7_init 49 = .ok (.new 29, 3) := by decide +kernel
theorem dX7_init_52 : decode cX7_init 52 = .ok (.dup, 1) := by decide +kernel
theorem dX7_init_53 : decode cX7_init 53 = .ok (.invokespecial 31, 3) := by decide +kernel
theorem dX7_init_56 : decode cX7_init 56 = .ok (.putfield 32, 3) := by decide +kernel
theorem dX7_init_59 : decode cX7_init 59 = .ok (.aload_n 0, 1) := by decide +kernel
theorem dX7_init_60 : decode cX7_init 60 = .ok (.new 36, 3) := by decide +kernel
theorem dX7_init_63 : decode cX7_init 63 = .ok (.dup, 1) := by decide +kernel
theorem dX7_init_64 : decode cX7_init 64 = .ok (.invokespecial 38, 3) := by decide +kernel
theorem dX7_init_67 : decode cX7_init 67 = .ok (.putfield 39, 3) := by decide +kernel
theorem dX7_init_70 : decode cX7_init 70 = .ok (.aload_n 0, 1) := by decide +kernel
theorem dX7_init_71 : decode cX7_init 71 = .ok (.new 43, 3) := by decide +kernel
theorem dX7_init_74 : decode cX7_init 74 = .ok (.dup, 1) := by decide +kernel
theorem dX7_init_75 : decode cX7_init 75 = .ok (.invokespecial 45, 3) := by decide +kernel
theorem dX7_init_78 : decode cX7_init 78 = .ok (.putfield 46, 3) := by decide +kernel
theorem dX7_init_81 : decode cX7_init 81 = .ok (.aload_n 0, 1) := by decide +kernel
theorem dX7_init_82 : decode cX7_init 82 = .ok (.new 50, 3) := by decide +kernel
theorem dX7_init_85 : decode cX7_init 85 = .ok (.dup, 1) := by decide +kernel
theorem dX7_init_86 : decode cX7_init 86 = .ok (.invokespecial 52, 3) := by decide +kernel
theorem dX7_init_89 : decode cX7_init 89 = .ok (.putfield 53, 3) := by decide +kernel
theorem dX7_init_92 : decode cX7_init 92 = .ok (.aload_n 0, 1) := by decide +kernel
theorem dX7_init_93 : decode cX7_init 93 = .ok (.new 57, 3) := by decide +kernel
theorem dX7_init_96 : decode cX7_init 96 = .ok (.dup, 1) := by decide +kernel
theorem dX7_init_97 : decode cX7_init 97 = .ok (.invokespecial 59, 3) := by decide +kernel
theorem dX7_init_100 : decode cX7_init 100 = .ok (.putfield 60, 3) := by decide +kernel
theorem dX7_init_103 : decode cX7_init 103 = .ok (.aload_n 0, 1) := by decide +kernel
theorem dX7_init_104 : decode cX7_init 104 = .ok (.bipush 20, 2) := by decide +kernel
theorem dX7_init_106 : decode cX7_init 106 = .ok (.newarray .int, 2) := by decide +kernel
theorem dX7_init_108 : decode cX7_init 108 = .ok (.putfield 64, 3) := by decide +kernel
theorem dX7_init_111 : decode cX7_init 111 = .ok (.aload_n 0, 1) := by decide +kernel
theorem dX7_init_112 : decode cX7_init 112 = .ok (.bipush 7, 2) := by decide +kernel
theorem dX7_init_114 : decode cX7_init 114 = .ok (.newarray .int, 2) := by decide +kernel
theorem dX7_init_116 : decode cX7_init 116 = .ok (.putfield 68, 3) := by decide +kernel
theorem dX7_init_119 : decode cX7_init 119 = .ok (.return_, 1) := by decide +kernel
theorem dX8_init_0 : decode cX8_init 0 = .ok (.aload_n 0, 1) := by decide +kernel
theorem dX8_init_1 : decode cX8_init 1 = .ok (.invokespecial 1, 3) := by decide +kernel
theorem dX8_init_4 : decode cX8_init 4 = .ok (.aload_n 0, 1) := by decide +kernel
theorem dX8_init_5 : decode cX8_init 5 = .ok (.sipush 132, 3) := by decide +kernel
theorem dX8_init_8 : decode cX8_init 8 = .ok (.newarray .int, 2) := by decide +kernel
theorem dX8_init_10 : decode cX8_init 10 = .ok (.putfield 9, 3) := by decide +kernel
theorem dX8_init_13 : decode cX8_init 13 = .ok (.aload_n 0, 1) := by decide +kernel
theorem dX8_init_14 : decode cX8_init 14 = .ok (.sipush 132, 3) := by decide +kernel
theorem dX8_init_17 : decode cX8_init 17 = .ok (.newarray .int, 2) := by decide +kernel
theorem dX8_init_19 : decode cX8_init 19 = .ok (.putfield 13, 3) := by decide +kernel
theorem dX8_init_22 : decode cX8_init 22 = .ok (.aload_n 0, 1) := by decide +kernel
theorem dX8_init_23 : decode cX8_init 23 = .ok (.sipush 132, 3) := by decide +kernel
theorem dX8_init_26 : decode cX8_init 26 = .ok (.newarray .int, 2) := by decide +kernel
theorem dX8_init_28 : decode cX8_init 28 = .ok (.putfield 16, 3) := by decide +kernel
theorem dX8_init_31 : decode cX8_init 31 = .ok (.aload_n 0, 1) := by decide +kernel
theorem dX8_init_32 : decode cX8_init 32 = .ok (.sipush 132, 3) := by decide +kernel
theorem dX8_init_35 : decode cX8_init 35 = .ok (.newarray .int, 2) := by decide +kernel
theorem dX8_init_37 : decode cX8_init 37 = .ok (.putfield 19, 3) := by decide +kernel
theorem dX8_init_40 : decode cX8_init 40 = .ok (.aload_n 0, 1) := by decide +kernel
theorem dX8_init_41 : decode cX8_init 41 = .ok (.bipush 96, 2) := by decide +kernel
theorem dX8_init_43 : decode cX8_init 43 = .ok (.newarray .int, 2) := by decide +kernel
theorem dX8_init_45 : decode cX8_init 45 = .ok (.putfield 22, 3) := by decide +kernel
theorem dX8_init_48 : decode cX8_init 48 = .ok (.aload_n 0, 1) := by decide +kernel
theorem dX8_init_49 : decode cX8_init 49 = .ok (.bipush 16, 2) := by decide +kernel
theorem dX8_init_51 : decode cX8_init 51 = .ok (.newarray .int, 2) := by decide +kernel
theorem dX8_init_53 : decode cX8_init 53 = .ok (.putfield 25, 3) := by decide +kernel
theorem dX8_init_56 : decode cX8_init 56 = .ok (.aload_n 0, 1) := by decide +kernel
theorem dX8_init_57 : decode cX8_init 57 = .ok (.bipush 7, 2) := by decide +kernel
theorem dX8_init_59 : decode cX8_init 59 = .ok (.newarray .int, 2) := by decide +kernel
theorem dX8_init_61 : decode cX8_init 61 = .ok (.putfield 28, 3) := by decide +kernel
theorem dX8_init_64 : decode cX8_init 64 = .ok (.aload_n 0, 1) := by decide +kernel
theorem dX8_init_65 : decode cX8_init 65 = .ok (.iconst 4, 1) := by decide +kernel
theorem dX8_init_66 : decode cX8_init 66 = .ok (.newarray .int, 2) := by decide +kernel
theorem dX8_init_68 : decode cX8_init 68 = .ok (.putfield 31, 3) := by decide +kernel
theorem dX8_init_71 : decode cX8_init 71 = .ok (.aload_n 0, 1) := by decide +kernel
theorem dX8_init_72 : decode cX8_init 72 = .ok (.bipush 100, 2) := by decide +kernel
theorem dX8_init_74 : decode cX8_init 74 = .ok (.newarray .int, 2) := by decide +kernel
theorem dX8_init_76 : decode cX8_init 76 = .ok (.putfield 34, 3) := by decide +kernel
theorem dX8_init_79 : decode cX8_init 79 = .ok (.aload_n 0, 1) := by decide +kernel
theorem dX8_init_80 : decode cX8_init 80 = .ok (.bipush 100, 2) := by decide +kernel
theorem dX8_init_82 : decode cX8_init 82 = .ok (.newarray .int, 2) := by decide +kernel
theorem dX8_init_84 : decode cX8_init 84 = .ok (.putfield 37, 3) := by decide +kernel
theorem dX8_init_87 : decode cX8_init 87 = .ok (.aload_n 0, 1) := by decide +kernel
theorem dX8_init_88 : decode cX8_init 88 = .ok (.getfield 9, 3) := by decide +kernel
theorem dX8_init_91 : decode cX8_init 91 = .ok (.iconst 2, 1) := by decide +kernel
theorem dX8_init_92 : decode cX8_init 92 = .ok (.bipush 20, 2) := by decide +kernel
theorem dX8_init_94 : decode cX8_init 94 = .ok (.iastore, 1) := by decide +kernel
theorem dX8_init_95 : decode cX8_init 95 = .ok (.aload_n 0, 1) := by decide +kernel
theorem dX8_init_96 : decode cX8_init 96 = .ok (.getfield 9, 3) := by decide +kernel
theorem dX8_init_99 : decode cX8_init 99 = .ok (.iconst 3, 1) := by decide +kernel
theorem dX8_init_100 : decode cX8_init 100 = .ok (.iconst 1, 1) := by decide +kernel
theorem dX8_init_101 : decode cX8_init 101 = .ok (.iastore, 1) := by decide +kernel
theorem dX8_init_102 : decode cX8_init 102 = .ok (.return_, 1) := by decide +kernel
theorem dfs_0 : ∀ j, j < 3 → defaultValue (tyX0 j) = vp_V [.null, .null, .int 0] j := by
  intro j hj
  rcases (show j = 0 ∨ j = 1 ∨ j = 2 by omega) with rfl | rfl | rfl <;> rfl
theorem dfs_1 : ∀ j, j < 5 → defaultValue (tyX1 j) = vp_V [.null, .null, .int 0, .int 0, .int 0] j := by
  intro j hj
  rcases (show j = 0 ∨ j = 1 ∨ j = 2 ∨ j = 3 ∨ j = 4 by omega) with rfl | rfl | rfl | rfl | rfl <;> rfl
theorem dfs_2 : ∀ j, j < 2 → defaultValue (tyX2 j) = vp_V [.null, .int 0] j := by
  intro j hj
  rcases (show j = 0 ∨ j = 1 by omega) with rfl | rfl <;> rfl
theorem dfs_3 : ∀ j, j < 6 → defaultValue (tyX3 j) = vp_V [.int 0, .int 0, .int 0, .int 0, .null, .null] j := by
  intro j hj
  rcases (show j = 0 ∨ j = 1 ∨ j = 2 ∨ j = 3 ∨ j = 4 ∨ j = 5 by omega) with rfl | rfl | rfl | rfl | rfl | rfl <;> rfl
theorem dfs_4 : ∀ j, j < 1 → defaultValue (tyX4 j) = vp_V [.null] j := by
  intro j hj
  rcases (show j = 0 by omega) with rfl <;> rfl
theorem dfs_5 : ∀ j, j < 2 → defaultValue (tyX5 j) = vp_V [.null, .int 0] j := by
  intro j hj
  rcases (show j = 0 ∨ j = 1 by omega) with rfl | rfl <;> rfl
theorem dfs_6 : ∀ j, j < 4 → defaultValue (tyX6 j) = vp_V [.int 0, .int 0, .int 0, .null] j := by
  intro j hj
  rcases (show j = 0 ∨ j = 1 ∨ j = 2 ∨ j = 3 by omega) with rfl | rfl | rfl | rfl <;> rfl
theorem dfs_7 : ∀ j, j < 13 → defaultValue (tyX7 j) = vp_V [.null, .null, .null, .null, .null, .null, .null, .null, .null, .null, .null, .int 0, .int 0] j := by
  intro j hj
  rcases (show j = 0 ∨ j = 1 ∨ j = 2 ∨ j = 3 ∨ j = 4 ∨ j = 5 ∨ j = 6 ∨ j = 7 ∨ j = 8 ∨ j = 9 ∨ j = 10 ∨ j = 11 ∨ j = 12 by omega) with rfl | rfl | rfl | rfl | rfl | rfl | rfl | rfl | rfl | rfl | rfl | rfl | rfl <;> rfl
theorem dfs_8 : ∀ j, j < 16 → defaultValue (tyX8 j) = vp_V [.null, .null, .null, .null, .int 0, .null, .null, .null, .int 0, .int 0, .int 0, .null, .int 0, .null, .null, .int 0] j := by
  intro j hj
  rcases (show j = 0 ∨ j = 1 ∨ j = 2 ∨ j = 3 ∨ j = 4 ∨ j = 5 ∨ j = 6 ∨ j = 7 ∨ j = 8 ∨ j = 9 ∨ j = 10 ∨ j = 11 ∨ j = 12 ∨ j = 13 ∨ j = 14 ∨ j = 15 by omega) with rfl | rfl | rfl | rfl | rfl | rfl | rfl | rfl | rfl | rfl | rfl | rfl | rfl | rfl | rfl | rfl <;> rfl
theorem cl_0_15 : Cond.fieldLink RX0 15 RX0 (TX0 1).2.1 (TX0 1).2.2.1 ∈ WS := (ws_at 228 (by decide +kernel) rfl)
theorem cl_0_9 : Cond.fieldLink RX0 9 RX0 (TX0 0).2.1 (TX0 0).2.2.1 ∈ WS := (ws_at 227 (by decide +kernel) rfl)
theorem cl_1_15 : Cond.fieldLink RX1 15 RX1 (TX1 1).2.1 (TX1 1).2.2.1 ∈ WS := (ws_at 205 (by decide +kernel) rfl)
theorem cl_1_9 : Cond.fieldLink RX1 9 RX1 (TX1 0).2.1 (TX1 0).2.2.1 ∈ WS := (ws_at 204 (by decide +kernel) rfl)
theorem cl_2_9 : Cond.fieldLink RX2 9 RX2 (TX2 0).2.1 (TX2 0).2.2.1 ∈ WS := (ws_at 190 (by decide +kernel) rfl)
theorem cl_3_15 : Cond.fieldLink RX3 15 RX3 (TX3 3).2.1 (TX3 3).2.2.1 ∈ WS := (ws_at 150 (by decide +kernel) rfl)
theorem cl_3_20 : Cond.fieldLink RX3 20 RX3 (TX3 4).2.1 (TX3 4).2.2.1 ∈ WS := (ws_at 153 (by decide +kernel) rfl)
theorem cl_3_24 : Cond.fieldLink RX3 24 RX3 (TX3 5).2.1 (TX3 5).2.2.1 ∈ WS := (ws_at 154 (by decide +kernel) rfl)
theorem cl_3_9 : Cond.fieldLink RX3 9 RX3 (TX3 2).2.1 (TX3 2).2.2.1 ∈ WS := (ws_at 148 (by decide +kernel) rfl)
theorem cl_4_9 : Cond.fieldLink RX4 9 RX4 (TX4 0).2.1 (TX4 0).2.2.1 ∈ WS := (ws_at 244 (by decide +kernel) rfl)
theorem cl_5_9 : Cond.fieldLink RX5 9 RX5 (TX5 0).2.1 (TX5 0).2.2.1 ∈ WS := (ws_at 176 (by decide +kernel) rfl)
theorem cl_6_15 : Cond.fieldLink RX6 15 RX6 (TX6 3).2.1 (TX6 3).2.2.1 ∈ WS := (ws_at 130 (by decide +kernel) rfl)
theorem cl_6_9 : Cond.fieldLink RX6 9 RX6 (TX6 2).2.1 (TX6 2).2.2.1 ∈ WS := (ws_at 127 (by decide +kernel) rfl)
theorem cl_7_12 : Cond.fieldLink RX7 12 RX7 (TX7 0).2.1 (TX7 0).2.2.1 ∈ WS := (ws_at 249 (by decide +kernel) rfl)
theorem cl_7_16 : Cond.fieldLink RX7 16 RX7 (TX7 1).2.1 (TX7 1).2.2.1 ∈ WS := (ws_at 250 (by decide +kernel) rfl)
theorem cl_7_19 : Cond.fieldLink RX7 19 RX7 (TX7 2).2.1 (TX7 2).2.2.1 ∈ WS := (ws_at 251 (by decide +kernel) rfl)
theorem cl_7_25 : Cond.fieldLink RX7 25 RX7 (TX7 3).2.1 (TX7 3).2.2.1 ∈ WS := (ws_at 252 (by decide +kernel) rfl)
theorem cl_7_32 : Cond.fieldLink RX7 32 RX7 (TX7 4).2.1 (TX7 4).2.2.1 ∈ WS := (ws_at 253 (by decide +kernel) rfl)
theorem cl_7_39 : Cond.fieldLink RX7 39 RX7 (TX7 5).2.1 (TX7 5).2.2.1 ∈ WS := (ws_at 254 (by decide +kernel) rfl)
theorem cl_7_46 : Cond.fieldLink RX7 46 RX7 (TX7 6).2.1 (TX7 6).2.2.1 ∈ WS := (ws_at 255 (by decide +kernel) rfl)
theorem cl_7_53 : Cond.fieldLink RX7 53 RX7 (TX7 7).2.1 (TX7 7).2.2.1 ∈ WS := (ws_at 256 (by decide +kernel) rfl)
theorem cl_7_60 : Cond.fieldLink RX7 60 RX7 (TX7 8).2.1 (TX7 8).2.2.1 ∈ WS := (ws_at 257 (by decide +kernel) rfl)
theorem cl_7_64 : Cond.fieldLink RX7 64 RX7 (TX7 9).2.1 (TX7 9).2.2.1 ∈ WS := (ws_at 258 (by decide +kernel) rfl)
theorem cl_7_68 : Cond.fieldLink RX7 68 RX7 (TX7 10).2.1 (TX7 10).2.2.1 ∈ WS := (ws_at 259 (by decide +kernel) rfl)
theorem cl_8_13 : Cond.fieldLink RX8 13 RX8 (TX8 1).2.1 (TX8 1).2.2.1 ∈ WS := (ws_at 874 (by decide +kernel) rfl)
theorem cl_8_16 : Cond.fieldLink RX8 16 RX8 (TX8 2).2.1 (TX8 2).2.2.1 ∈ WS := (ws_at 875 (by decide +kernel) rfl)
theorem cl_8_19 : Cond.fieldLink RX8 19 RX8 (TX8 3).2.1 (TX8 3).2.2.1 ∈ WS := (ws_at 876 (by decide +kernel) rfl)
theorem cl_8_22 : Cond.fieldLink RX8 22 RX8 (TX8 5).2.1 (TX8 5).2.2.1 ∈ WS := (ws_at 878 (by decide +kernel) rfl)
theorem cl_8_25 : Cond.fieldLink RX8 25 RX8 (TX8 6).2.1 (TX8 6).2.2.1 ∈ WS := (ws_at 879 (by decide +kernel) rfl)
theorem cl_8_28 : Cond.fieldLink RX8 28 RX8 (TX8 7).2.1 (TX8 7).2.2.1 ∈ WS := (ws_at 880 (by decide +kernel) rfl)
theorem cl_8_31 : Cond.fieldLink RX8 31 RX8 (TX8 11).2.1 (TX8 11).2.2.1 ∈ WS := (ws_at 884 (by decide +kernel) rfl)
theorem cl_8_34 : Cond.fieldLink RX8 34 RX8 (TX8 13).2.1 (TX8 13).2.2.1 ∈ WS := (ws_at 886 (by decide +kernel) rfl)
theorem cl_8_37 : Cond.fieldLink RX8 37 RX8 (TX8 14).2.1 (TX8 14).2.2.1 ∈ WS := (ws_at 887 (by decide +kernel) rfl)
theorem cl_8_9 : Cond.fieldLink RX8 9 RX8 (TX8 0).2.1 (TX8 0).2.2.1 ∈ WS := (ws_at 873 (by decide +kernel) rfl)
theorem in_0 : Cond.instantiable RX0 3 ∈ WS ∧ Cond.initialized RX0 ∈ WS := ⟨(ws_at 222 (by decide +kernel) rfl), (ws_at 92 (by decide +kernel) rfl)⟩
theorem in_1 : Cond.instantiable RX1 5 ∈ WS ∧ Cond.initialized RX1 ∈ WS := ⟨(ws_at 199 (by decide +kernel) rfl), (ws_at 91 (by decide +kernel) rfl)⟩
theorem in_2 : Cond.instantiable RX2 2 ∈ WS ∧ Cond.initialized RX2 ∈ WS := ⟨(ws_at 185 (by decide +kernel) rfl), (ws_at 90 (by decide +kernel) rfl)⟩
theorem in_3 : Cond.instantiable RX3 6 ∈ WS ∧ Cond.initialized RX3 ∈ WS := ⟨(ws_at 111 (by decide +kernel) rfl), (ws_at 87 (by decide +kernel) rfl)⟩
theorem in_4 : Cond.instantiable RX4 1 ∈ WS ∧ Cond.initialized RX4 ∈ WS := ⟨(ws_at 239 (by decide +kernel) rfl), (ws_at 93 (by decide +kernel) rfl)⟩
theorem in_5 : Cond.instantiable RX5 2 ∈ WS ∧ Cond.initialized RX5 ∈ WS := ⟨(ws_at 171 (by decide +kernel) rfl), (ws_at 89 (by decide +kernel) rfl)⟩
theorem in_6 : Cond.instantiable RX6 4 ∈ WS ∧ Cond.initialized RX6 ∈ WS := ⟨(ws_at 118 (by decide +kernel) rfl), (ws_at 88 (by decide +kernel) rfl)⟩
theorem nw_3_18 : Cond.classLink RX3 18 RX6 ∈ WS := (ws_at 116 (by decide +kernel) rfl)
theorem nw_7_22 : Cond.classLink RX7 22 RX6 ∈ WS := (ws_at 168 (by decide +kernel) rfl)
theorem nw_7_29 : Cond.classLink RX7 29 RX5 ∈ WS := (ws_at 170 (by decide +kernel) rfl)
theorem nw_7_36 : Cond.classLink RX7 36 RX2 ∈ WS := (ws_at 184 (by decide +kernel) rfl)
theorem nw_7_43 : Cond.classLink RX7 43 RX1 ∈ WS := (ws_at 198 (by decide +kernel) rfl)
theorem nw_7_50 : Cond.classLink RX7 50 RX0 ∈ WS := (ws_at 221 (by decide +kernel) rfl)
theorem nw_7_57 : Cond.classLink RX7 57 RX4 ∈ WS := (ws_at 238 (by decide +kernel) rfl)
theorem nw_7_9 : Cond.classLink RX7 9 RX3 ∈ WS := (ws_at 110 (by decide +kernel) rfl)
theorem cc_0 : Cond.initialized yX0_init.cls ∈ WS ∧ Cond.code yX0_init M_X0_init.2.1 M_X0_init.2.2.1 none ∈ WS ∧ Cond.instanceMethod yX0_init ∈ WS ∧ (yX0_init.cls ≠ "java/lang/invoke/MethodHandle" ∧ yX0_init.cls ≠ "java/lang/invoke/VarHandle" ∧ (parseMethodDescriptor yX0_init.desc).map (fun d => d.parameters.length) = some 0) := ⟨(ws_at 92 (by decide +kernel) rfl), (ws_at 225 (by decide +kernel) rfl), (ws_at 224 (by decide +kernel) rfl), ⟨by decide +kernel, by decide +kernel, by decide +kernel⟩⟩
theorem cc_1 : Cond.initialized yX1_init.cls ∈ WS ∧ Cond.code yX1_init M_X1_init.2.1 M_X1_init.2.2.1 none ∈ WS ∧ Cond.instanceMethod yX1_init ∈ WS ∧ (yX1_init.cls ≠ "java/lang/invoke/MethodHandle" ∧ yX1_init.cls ≠ "java/lang/invoke/VarHandle" ∧ (parseMethodDescriptor yX1_init.desc).map (fun d => d.parameters.length) = some 0) := ⟨(ws_at 91 (by decide +kernel) rfl), (ws_at 202 (by decide +kernel) rfl), (ws_at 201 (by decide +kernel) rfl), ⟨by decide +kernel, by decide +kernel, by decide +kernel⟩⟩
theorem cc_2 : Cond.initialized yX2_init.cls ∈ WS ∧ Cond.code yX2_init M_X2_init.2.1 M_X2_init.2.2.1 none ∈ WS ∧ Cond.instanceMethod yX2_init ∈ WS ∧ (yX2_init.cls ≠ "java/lang/invoke/MethodHandle" ∧ yX2_init.cls ≠ "java/lang/invoke/VarHandle" ∧ (parseMethodDescriptor yX2_init.desc).map (fun d => d.parameters.length) = some 0) := ⟨(ws_at 90 (by decide +kernel) rfl), (ws_at 188 (by decide +kernel) rfl), (ws_at 187 (by decide +kernel) rfl), ⟨by decide +kernel, by decide +kernel, by decide +kernel⟩⟩
theorem cc_3 : Cond.initialized yX3_init.cls ∈ WS ∧ Cond.code yX3_init M_X3_init.2.1 M_X3_init.2.2.1 none ∈ WS ∧ Cond.instanceMethod yX3_init ∈ WS ∧ (yX3_init.cls ≠ "java/lang/invoke/MethodHandle" ∧ yX3_init.cls ≠ "java/lang/invoke/VarHandle" ∧ (parseMethodDescriptor yX3_init.desc).map (fun d => d.parameters.length) = some 0) := ⟨(ws_at 87 (by decide +kernel) rfl), (ws_at 114 (by decide +kernel) rfl), (ws_at 113 (by decide +kernel) rfl), ⟨by decide +kernel, by decide +kernel, by decide +kernel⟩⟩
theorem cc_4 : Cond.initialized yX4_init.cls ∈ WS ∧ Cond.code yX4_init M_X4_init.2.1 M_X4_init.2.2.1 none ∈ WS ∧ Cond.instanceMethod yX4_init ∈ WS ∧ (yX4_init.cls ≠ "java/lang/invoke/MethodHandle" ∧ yX4_init.cls ≠ "java/lang/invoke/VarHandle" ∧ (parseMethodDescriptor yX4_init.desc).map (fun d => d.parameters.length) = some 0) := ⟨(ws_at 93 (by decide +kernel) rfl), (ws_at 242 (by decide +kernel) rfl), (ws_at 241 (by decide +kernel) rfl), ⟨by decide +kernel, by decide +kernel, by decide +kernel⟩⟩
theorem cc_5 : Cond.initialized yX5_init.cls ∈ WS ∧ Cond.code yX5_init M_X5_init.2.1 M_X5_init.2.2.1 none ∈ WS ∧ Cond.instanceMethod yX5_init ∈ WS ∧ (yX5_init.cls ≠ "java/lang/invoke/MethodHandle" ∧ yX5_init.cls ≠ "java/lang/invoke/VarHandle" ∧ (parseMethodDescriptor yX5_init.desc).map (fun d => d.parameters.length) = some 0) := ⟨(ws_at 89 (by decide +kernel) rfl), (ws_at 174 (by decide +kernel) rfl), (ws_at 173 (by decide +kernel) rfl), ⟨by decide +kernel, by decide +kernel, by decide +kernel⟩⟩
theorem cc_6 : Cond.initialized yX6_init.cls ∈ WS ∧ Cond.code yX6_init M_X6_init.2.1 M_X6_init.2.2.1 none ∈ WS ∧ Cond.instanceMethod yX6_init ∈ WS ∧ (yX6_init.cls ≠ "java/lang/invoke/MethodHandle" ∧ yX6_init.cls ≠ "java/lang/invoke/VarHandle" ∧ (parseMethodDescriptor yX6_init.desc).map (fun d => d.parameters.length) = some 0) := ⟨(ws_at 88 (by decide +kernel) rfl), (ws_at 121 (by decide +kernel) rfl), (ws_at 120 (by decide +kernel) rfl), ⟨by decide +kernel, by decide +kernel, by decide +kernel⟩⟩
theorem ct_3_28 : Cond.methodLinkNest RX3 28 yX6_init "GluedInLifetime" ∈ NWS := (nws_at 119 (by decide +kernel) rfl)
theorem ct_7_11 : Cond.methodLinkNest RX7 11 yX3_init "GluedInLifetime" ∈ NWS := (nws_at 112 (by decide +kernel) rfl)
theorem ct_7_24 : Cond.methodLinkNest RX7 24 yX6_init "GluedInLifetime" ∈ NWS := (nws_at 169 (by decide +kernel) rfl)
theorem ct_7_31 : Cond.methodLinkNest RX7 31 yX5_init "GluedInLifetime" ∈ NWS := (nws_at 172 (by decide +kernel) rfl)
theorem ct_7_38 : Cond.methodLinkNest RX7 38 yX2_init "GluedInLifetime" ∈ NWS := (nws_at 186 (by decide +kernel) rfl)
theorem ct_7_45 : Cond.methodLinkNest RX7 45 yX1_init "GluedInLifetime" ∈ NWS := (nws_at 200 (by decide +kernel) rfl)
theorem ct_7_52 : Cond.methodLinkNest RX7 52 yX0_init "GluedInLifetime" ∈ NWS := (nws_at 223 (by decide +kernel) rfl)
theorem ct_7_59 : Cond.methodLinkNest RX7 59 yX4_init "GluedInLifetime" ∈ NWS := (nws_at 240 (by decide +kernel) rfl)
theorem kdl_59 : kd 59 = 11 := by decide +kernel
