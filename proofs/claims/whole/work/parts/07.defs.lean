-- ===== printed by wip/whole/gen.py: what each method does, as a function (none: it would throw, or the count of rounds is used up) =====
def f_X3_at (q0 : Nat) (a1 : Int32) (S : St) : Option Nat :=
  (if (a1 &&& 7) < 0 ∨ 8 ≤ (a1 &&& 7).toNatClampNeg then none else some ((q0 + 1) + 2 + 2 * (a1 &&& 7).toNatClampNeg))
def f_X6_isSet (q0 : Nat) (S : St) : Option Int32 :=
  (if (S.1 q0 2) = (-9) then some 0 else some 1)
def f_X6_gladIn (q0 : Nat) (a1 : Int32) (S : St) : Option Int32 :=
  (if a1 < 0 then some 0 else (if a1 < 12 then (if a1 < 0 ∨ 12 ≤ a1.toNatClampNeg then none else some (S.1 (q0 + 1) a1.toNatClampNeg)) else some 0))
def f_X6_gladdestYear_L6 (n : Nat) (q0 : Nat) (x2 : Int32) (x3 : Int32) (S : St) (k31 : Int32 → Option Int32) : Option Int32 :=
  match n with
  | 0 => none
  | n + 1 => (if x3 < 0 then k31 x2 else (f_X6_gladIn q0 x3 S).bind fun v2 => (f_X6_gladIn q0 x2 S).bind fun v3 => (if v2 ≤ v3 then f_X6_gladdestYear_L6 n q0 x2 (x3 + (-1)) S k31 else f_X6_gladdestYear_L6 n q0 x3 (x3 + (-1)) S k31))
def f_X6_gladdestYear (q0 : Nat) (a1 : Int32) (S : St) : Option Int32 :=
  f_X6_gladdestYear_L6 2000 q0 a1 (a1 - 1) S (fun (y5 : Int32) => some y5)
def f_X6_reach (q0 : Nat) (a1 : Int32) (a2 : Int32) (S : St) : Option Int32 :=
  (if (S.1 q0 0) = 2 then some ((if 0 < ((a1 / 5) - a2) then (a1 / 5) - a2 else 0) + (S.1 q0 1)) else (if (S.1 q0 0) = 5 then some ((if 0 < ((a1 / 5) - a2) then (a1 / 5) - a2 else 0) + (S.1 q0 1)) else (if (S.1 q0 0) = 4 then some ((if 0 < ((a1 / 5) - a2) then (a1 / 5) - a2 else 0) / 2) else some (if 0 < ((a1 / 5) - a2) then (a1 / 5) - a2 else 0))))
def f_X6_counts (q0 : Nat) (a1 : Int32) (a2 : Int32) (S : St) : Option Int32 :=
  (if (S.1 q0 0) = 5 then (f_X6_gladIn q0 a1 S).bind fun v5 => some (-v5) else (if (S.1 q0 0) = 3 then (f_X6_gladIn q0 a1 S).bind fun v4 => some (v4 - ((S.1 q0 1) * (a2 - a1))) else (f_X6_gladIn q0 a1 S).bind fun v3 => some v3))
def f_X6_yearBy_L53 (n : Nat) (q0 : Nat) (x3 : Int32) (x4 : Int32) (x5 : Int32) (x6 : Int32) (x7 : Int32) (x8 : Int32) (S : St) (k102 : Int32 → Option Int32) : Option Int32 :=
  match n with
  | 0 => none
  | n + 1 => (if x8 < x5 then k102 x6 else (f_X6_counts q0 x8 x3 S).bind fun v5 => (if x7 < v5 then f_X6_yearBy_L53 n q0 x3 x4 x5 x8 v5 (x8 + (-1)) S k102 else (if x4 = 0 then f_X6_yearBy_L53 n q0 x3 x4 x5 x6 x7 (x8 + (-1)) S k102 else (if v5 = x7 then f_X6_yearBy_L53 n q0 x3 x4 x5 x8 v5 (x8 + (-1)) S k102 else f_X6_yearBy_L53 n q0 x3 x4 x5 x6 x7 (x8 + (-1)) S k102))))
def f_X6_yearBy (q0 : Nat) (a1 : Int32) (a2 : Int32) (a3 : Int32) (S : St) : Option Int32 :=
  (if (S.1 q0 0) = 1 then (f_X6_reach q0 a1 a2 S).bind fun v2 => (f_X6_counts q0 a3 a3 S).bind fun v3 => f_X6_yearBy_L53 2000 q0 a3 1 (if 0 < (a3 - v2) then a3 - v2 else 0) a3 v3 (a3 - 1) S (fun (y9 : Int32) => some y9) else (if (S.1 q0 0) = 3 then (f_X6_reach q0 a1 a2 S).bind fun v14 => (f_X6_counts q0 a3 a3 S).bind fun v15 => f_X6_yearBy_L53 2000 q0 a3 1 (if 0 < (a3 - v14) then a3 - v14 else 0) a3 v15 (a3 - 1) S (fun (y16 : Int32) => some y16) else (f_X6_reach q0 a1 a2 S).bind fun v11 => (f_X6_counts q0 a3 a3 S).bind fun v12 => f_X6_yearBy_L53 2000 q0 a3 0 (if 0 < (a3 - v11) then a3 - v11 else 0) a3 v12 (a3 - 1) S (fun (y13 : Int32) => some y13)))
def f_X6_fewestFor_L2 (n : Nat) (q0 : Nat) (x1 : Int32) (x2 : Int32) (x3 : Int32) (S : St) (k21 : Int32 → Option Int32) (k31 : Unit → Option Int32) : Option Int32 :=
  match n with
  | 0 => none
  | n + 1 => (if 19 < x3 then k31 () else (f_X6_yearBy q0 (x3 * 5) 0 x2 S).bind fun v2 => (if v2 = x1 then k21 x3 else f_X6_fewestFor_L2 n q0 x1 x2 (x3 + 1) S k21 k31))
def f_X6_fewestFor (q0 : Nat) (a1 : Int32) (a2 : Int32) (S : St) : Option Int32 :=
  f_X6_fewestFor_L2 2000 q0 a1 a2 0 S (fun (y4 : Int32) => some (y4 * 5)) (fun _ : Unit => some (-9))
def f_X0_begin_L5 (n : Nat) (x1 : Int32) (x2 : Int32) (x3 : Int32) (x4 : Int32) (S : St) (k42 : Int32 → Option (Int32 × St)) : Option (Int32 × St) :=
  match n with
  | 0 => none
  | n + 1 => (if x2 ≤ x4 then k42 x3 else (if 4 ≤ x4 then k42 x3 else (if x4 < 0 ∨ 4 ≤ x4.toNatClampNeg then none else (if x3 < 0 ∨ 4 ≤ x3.toNatClampNeg then none else (if (S.1 69 x3.toNatClampNeg) ≤ (S.1 69 x4.toNatClampNeg) then f_X0_begin_L5 n x1 x2 x3 (x4 + 1) S k42 else f_X0_begin_L5 n x1 x2 x4 (x4 + 1) S k42)))))
def f_X0_begin (a1 : Int32) (a2 : Int32) (S : St) : Option (Int32 × St) :=
  f_X0_begin_L5 2000 a1 a2 0 1 S (fun (y6 : Int32) => (if y6 < 0 ∨ 4 ≤ y6.toNatClampNeg then none else (if y6 < 0 ∨ 4 ≤ y6.toNatClampNeg then none else (if y6 < 0 ∨ 4 ≤ y6.toNatClampNeg then none else some (S.1 69 y6.toNatClampNeg, (up (up S 69 y6.toNatClampNeg ((S.1 69 y6.toNatClampNeg) + a1)) 67 2 (if ((up S 69 y6.toNatClampNeg ((S.1 69 y6.toNatClampNeg) + a1)).1 67 2) < ((up S 69 y6.toNatClampNeg ((S.1 69 y6.toNatClampNeg) + a1)).1 69 y6.toNatClampNeg) then (up S 69 y6.toNatClampNeg ((S.1 69 y6.toNatClampNeg) + a1)).1 69 y6.toNatClampNeg else (up S 69 y6.toNatClampNeg ((S.1 69 y6.toNatClampNeg) + a1)).1 67 2)))))))
def f_X0_arrange_L7 (n : Nat) (q1 : Nat) (x2 : Int32) (S : St) (k25 : St → Option St) : Option St :=
  match n with
  | 0 => none
  | n + 1 => (if 4 ≤ x2 then k25 S else (if x2 < 0 ∨ 4 ≤ x2.toNatClampNeg then none else f_X0_arrange_L7 n q1 (x2 + 1) (up S 69 x2.toNatClampNeg 0) k25))
def f_X0_arrange_L27 (n : Nat) (q1 : Nat) (x2 : Int32) (S : St) (k111 : St → Option St) : Option St :=
  match n with
  | 0 => none
  | n + 1 => (if (S.1 q1 0) ≤ x2 then k111 S else (if 8 ≤ x2 then k111 S else (f_X3_at q1 x2 S).bind fun v6 => (f_X6_isSet v6 S).bind fun v7 => (if v7 = 0 then (f_X6_gladdestYear v6 (S.1 q1 1) S).bind fun v9 => (f_X6_fewestFor v6 v9 (S.1 q1 1) S).bind fun v10 => (if v10 = (-9) then (if x2 < 0 ∨ 8 ≤ x2.toNatClampNeg then none else f_X0_arrange_L27 n q1 (x2 + 1) (up S 68 x2.toNatClampNeg (-9)) k111) else (f_X0_begin v10 (S.1 q1 3) S).bind fun z12 => (if x2 < 0 ∨ 8 ≤ x2.toNatClampNeg then none else f_X0_arrange_L27 n q1 (x2 + 1) (up z12.2 68 x2.toNatClampNeg z12.1) k111)) else (if x2 < 0 ∨ 8 ≤ x2.toNatClampNeg then none else f_X0_arrange_L27 n q1 (x2 + 1) (up S 68 x2.toNatClampNeg (-9)) k111))))
def f_X0_arrange (q1 : Nat) (S : St) : Option St :=
  f_X0_arrange_L7 2000 q1 0 (up S 67 2 0) (fun (S3 : St) => f_X0_arrange_L27 2000 q1 0 S3 (fun (S17 : St) => some S17))
def f_X0_beginOf (a1 : Int32) (S : St) : Option Int32 :=
  (if a1 < 0 then some (-9) else (if a1 < 8 then (if a1 < 0 ∨ 8 ≤ a1.toNatClampNeg then none else some (S.1 68 a1.toNatClampNeg)) else some (-9)))
def f_X3_setBits_L4 (n : Nat) (q0 : Nat) (x1 : Int32) (x2 : Int32) (S : St) (k35 : Int32 → Option Int32) : Option Int32 :=
  match n with
  | 0 => none
  | n + 1 => (if (S.1 q0 0) ≤ x2 then k35 x1 else (f_X3_at q0 x2 S).bind fun v2 => (f_X6_isSet v2 S).bind fun v3 => (if v3 = 0 then f_X3_setBits_L4 n q0 x1 (x2 + 1) S k35 else f_X3_setBits_L4 n q0 (x1 ||| (1 <<< (x2 &&& 31))) (x2 + 1) S k35))
def f_X3_setBits (q0 : Nat) (S : St) : Option Int32 :=
  f_X3_setBits_L4 2000 q0 0 0 S (fun (y5 : Int32) => some y5)
def f_X6_howGlad (q0 : Nat) (a1 : Int32) (S : St) : Option Int32 :=
  (f_X6_isSet q0 S).bind fun v1 => (if v1 = 0 then (f_X6_gladIn q0 a1 S).bind fun v3 => some v3 else (f_X6_gladIn q0 (S.1 q0 2) S).bind fun v4 => some v4)
def f_X3_gladTogether_L4 (n : Nat) (q0 : Nat) (x1 : Int32) (x2 : Int32) (x3 : Int32) (S : St) (k30 : Int32 → Option Int32) : Option Int32 :=
  match n with
  | 0 => none
  | n + 1 => (if (S.1 q0 0) ≤ x3 then k30 x2 else (f_X3_at q0 x3 S).bind fun v2 => (f_X6_howGlad v2 x1 S).bind fun v3 => f_X3_gladTogether_L4 n q0 x1 (x2 + v3) (x3 + 1) S k30)
def f_X3_gladTogether (q0 : Nat) (a1 : Int32) (S : St) : Option Int32 :=
  f_X3_gladTogether_L4 2000 q0 a1 0 0 S (fun (y4 : Int32) => some y4)
def f_X6_gladdestBy_L4 (n : Nat) (q0 : Nat) (x1 : Int32) (x2 : Int32) (x3 : Int32) (S : St) (k34 : Int32 → Option Int32) : Option Int32 :=
  match n with
  | 0 => none
  | n + 1 => (if 19 < x3 then k34 x2 else (f_X6_yearBy q0 (x3 * 5) 0 x1 S).bind fun v2 => (f_X6_gladIn q0 v2 S).bind fun v3 => f_X6_gladdestBy_L4 n q0 x1 (if x2 < v3 then v3 else x2) (x3 + 1) S k34)
def f_X6_gladdestBy (q0 : Nat) (a1 : Int32) (S : St) : Option Int32 :=
  f_X6_gladdestBy_L4 2000 q0 a1 0 0 S (fun (y4 : Int32) => some y4)
def f_X6_cost (q0 : Nat) (S : St) : Option Int32 :=
  (if (S.1 q0 0) = 4 then some (1 + (S.1 q0 1)) else some 1)
def f_X1_weigh_L29 (n : Nat) (q1 : Nat) (x2 : Int32) (x3 : Int32) (S : St) (k86 : St → Option St) : Option St :=
  match n with
  | 0 => none
  | n + 1 => (if (S.1 q1 0) ≤ x3 then k86 S else (if 8 ≤ x3 then k86 S else (f_X3_at q1 x3 S).bind fun v5 => (f_X6_gladdestBy v5 x2 S).bind fun v6 => (f_X6_gladIn v5 x2 S).bind fun v7 => (if x3 < 0 ∨ 8 ≤ x3.toNatClampNeg then none else (f_X6_cost v5 (up S 65 x3.toNatClampNeg (v6 - v7))).bind fun v9 => (if x3 < 0 ∨ 8 ≤ x3.toNatClampNeg then none else f_X1_weigh_L29 n q1 x2 (x3 + 1) (up (up S 65 x3.toNatClampNeg (v6 - v7)) 66 x3.toNatClampNeg v9) k86))))
def f_X1_weigh (q1 : Nat) (a2 : Int32) (S : St) : Option St :=
  (f_X3_setBits q1 S).bind fun v1 => (f_X3_gladTogether q1 a2 (up (up S 64 2 v1) 64 3 (1 <<< (((up S 64 2 v1).1 q1 0) &&& 31)))).bind fun v2 => f_X1_weigh_L29 2000 q1 a2 0 (up (up (up S 64 2 v1) 64 3 (1 <<< (((up S 64 2 v1).1 q1 0) &&& 31))) 64 4 v2) (fun (S11 : St) => some S11)
def f_X1_sumOver_L4 (n : Nat) (x0 : Int32) (q1 : Nat) (x2 : Int32) (x3 : Int32) (S : St) (k35 : Int32 → Option Int32) : Option Int32 :=
  match n with
  | 0 => none
  | n + 1 => (if 8 ≤ x3 then k35 x2 else (if ((x0 >>> (x3 &&& 31)) &&& 1) = 1 then (if x3 < 0 ∨ 8 ≤ x3.toNatClampNeg then none else f_X1_sumOver_L4 n x0 q1 (x2 + (S.1 q1 x3.toNatClampNeg)) (x3 + 1) S k35) else f_X1_sumOver_L4 n x0 q1 (x2 + 0) (x3 + 1) S k35))
def f_X1_sumOver (a0 : Int32) (q1 : Nat) (S : St) : Option Int32 :=
  f_X1_sumOver_L4 2000 a0 q1 0 0 S (fun (y4 : Int32) => some y4)
def f_X1_gainOf (a1 : Int32) (S : St) : Option Int32 :=
  (f_X1_sumOver a1 65 S).bind fun v1 => some v1
def f_X1_bestBits_L7 (n : Nat) (x1 : Int32) (x2 : Int32) (x3 : Int32) (x4 : Int32) (S : St) (k65 : Int32 → Option Int32) : Option Int32 :=
  match n with
  | 0 => none
  | n + 1 => (if (S.1 64 3) ≤ x4 then k65 x2 else (if (x4 &&& (S.1 64 2)) = 0 then (f_X1_gainOf x4 S).bind fun v3 => (if v3 ≤ x3 then f_X1_bestBits_L7 n x1 x2 x3 (x4 + 1) S k65 else (f_X1_sumOver x4 66 S).bind fun v5 => (if x1 < v5 then f_X1_bestBits_L7 n x1 x2 x3 (x4 + 1) S k65 else (f_X1_gainOf x4 S).bind fun v7 => f_X1_bestBits_L7 n x1 x4 v7 (x4 + 1) S k65)) else f_X1_bestBits_L7 n x1 x2 x3 (x4 + 1) S k65))
def f_X1_bestBits (a1 : Int32) (S : St) : Option Int32 :=
  f_X1_bestBits_L7 2000 a1 0 0 0 S (fun (y8 : Int32) => some y8)
def f_X1_fewestFor_L5 (n : Nat) (x1 : Int32) (x2 : Int32) (x3 : Int32) (S : St) (k50 : Int32 → Option Int32) : Option Int32 :=
  match n with
  | 0 => none
  | n + 1 => (if (S.1 64 3) ≤ x3 then k50 x2 else (if (x3 &&& (S.1 64 2)) = 0 then (f_X1_gainOf x3 S).bind fun v3 => (if v3 = x1 then (f_X1_sumOver x3 66 S).bind fun v5 => f_X1_fewestFor_L5 n x1 (if v5 < x2 then v5 else x2) (x3 + 1) S k50 else f_X1_fewestFor_L5 n x1 x2 (x3 + 1) S k50) else f_X1_fewestFor_L5 n x1 x2 (x3 + 1) S k50))
def f_X1_fewestFor (a1 : Int32) (S : St) : Option Int32 :=
  f_X1_fewestFor_L5 2000 a1 99 0 S (fun (y6 : Int32) => some y6)
def f_X2_isFull  (S : St) : Option Int32 :=
  (if (S.1 62 1) < 16 then some 0 else some 1)
def f_X2_put (a1 : Int32) (S : St) : Option St :=
  (f_X2_isFull S).bind fun v1 => (if v1 = 0 then (if (S.1 62 1) < 0 ∨ 16 ≤ (S.1 62 1).toNatClampNeg then none else some (up (up S 63 (S.1 62 1).toNatClampNeg a1) 62 1 (((up S 63 (S.1 62 1).toNatClampNeg a1).1 62 1) + 1))) else some S)
def f_X2_tellsYearsOf_L2 (n : Nat) (q1 : Nat) (x2 : Int32) (x3 : Int32) (S : St) (k34 : Unit → Option Int32) (k42 : Unit → Option Int32) : Option Int32 :=
  match n with
  | 0 => none
  | n + 1 => (if (S.1 62 1) ≤ x3 then k42 () else (if 16 ≤ x3 then k42 () else (if x3 < 0 ∨ 16 ≤ x3.toNatClampNeg then none else (f_X6_yearBy q1 (x3 * 5) 0 x2 S).bind fun v4 => (if (S.1 63 x3.toNatClampNeg) = v4 then f_X2_tellsYearsOf_L2 n q1 x2 (x3 + 1) S k34 k42 else k34 ()))))
def f_X2_tellsYearsOf (q1 : Nat) (a2 : Int32) (S : St) : Option Int32 :=
  f_X2_tellsYearsOf_L2 2000 q1 a2 0 S (fun _ : Unit => some 0) (fun _ : Unit => some 1)
def f_X7_noYear (a0 : Int32)  : Option Int32 :=
  (if a0 < 0 then some 1 else (if a0 < 12 then some 0 else some 1))
def f_X2_firstNotGladOf_L2 (n : Nat) (q1 : Nat) (x2 : Int32) (S : St) (k37 : Int32 → Option Int32) (k45 : Unit → Option Int32) : Option Int32 :=
  match n with
  | 0 => none
  | n + 1 => (if (S.1 62 1) ≤ x2 then k45 () else (if 16 ≤ x2 then k45 () else (f_X7_noYear x2).bind fun v3 => (if v3 = 0 then (if x2 < 0 ∨ 16 ≤ x2.toNatClampNeg then none else (f_X6_gladIn q1 x2 S).bind fun v6 => (if (S.1 63 x2.toNatClampNeg) = v6 then f_X2_firstNotGladOf_L2 n q1 (x2 + 1) S k37 k45 else k37 x2)) else k37 x2)))
def f_X2_firstNotGladOf (q1 : Nat) (S : St) : Option Int32 :=
  f_X2_firstNotGladOf_L2 2000 q1 0 S (fun (y8 : Int32) => some y8) (fun _ : Unit => some (-9))
def f_X6_copyFrom (q0 : Nat) (q1 : Nat) (S : St) : Option St :=
  (if q1 + 1 = q0 + 1 then none else some (upc (up (up (up S q0 0 (S.1 q1 0)) q0 1 ((up S q0 0 (S.1 q1 0)).1 q1 1)) q0 2 ((up (up S q0 0 (S.1 q1 0)) q0 1 ((up S q0 0 (S.1 q1 0)).1 q1 1)).1 q1 2)) (q1 + 1) (q0 + 1) 0 0 12))
def f_X3_copyFrom_L34 (n : Nat) (q0 : Nat) (q1 : Nat) (x2 : Int32) (S : St) (k73 : St → Option St) : Option St :=
  match n with
  | 0 => none
  | n + 1 => (if 8 ≤ x2 then k73 S else (if x2 < 0 ∨ 8 ≤ x2.toNatClampNeg then none else (if x2 < 0 ∨ 8 ≤ x2.toNatClampNeg then none else (f_X6_copyFrom ((q0 + 1) + 2 + 2 * x2.toNatClampNeg) ((q1 + 1) + 2 + 2 * x2.toNatClampNeg) S).bind fun S4 => (if x2 < 0 ∨ 8 ≤ x2.toNatClampNeg then none else (if x2 < 0 ∨ 8 ≤ x2.toNatClampNeg then none else f_X3_copyFrom_L34 n q0 q1 (x2 + 1) (up S4 (q0 + 2) x2.toNatClampNeg (S4.1 (q1 + 2) x2.toNatClampNeg)) k73)))))
def f_X3_copyFrom (q0 : Nat) (q1 : Nat) (S : St) : Option St :=
  f_X3_copyFrom_L34 2000 q0 q1 0 (up (up (up (up S q0 0 (S.1 q1 0)) q0 1 ((up S q0 0 (S.1 q1 0)).1 q1 1)) q0 2 ((up (up S q0 0 (S.1 q1 0)) q0 1 ((up S q0 0 (S.1 q1 0)).1 q1 1)).1 q1 2)) q0 3 ((up (up (up S q0 0 (S.1 q1 0)) q0 1 ((up S q0 0 (S.1 q1 0)).1 q1 1)) q0 2 ((up (up S q0 0 (S.1 q1 0)) q0 1 ((up S q0 0 (S.1 q1 0)).1 q1 1)).1 q1 2)).1 q1 3)) (fun (S7 : St) => some S7)
def f_X3_lacks (q0 : Nat) (a1 : Int32) (S : St) : Option Int32 :=
  (if a1 < 0 then some 1 else (if (S.1 q0 0) ≤ a1 then some 1 else (if a1 < 8 then some 0 else some 1)))
def f_X3_lacksTwo (q0 : Nat) (a1 : Int32) (a2 : Int32) (S : St) : Option Int32 :=
  (f_X3_lacks q0 a1 S).bind fun v1 => (if v1 = 0 then (f_X3_lacks q0 a2 S).bind fun v3 => (if v3 = 0 then (if a1 = a2 then some 1 else some 0) else some 1) else some 1)
def f_X6_begin_L18 (n : Nat) (q0 : Nat) (x3 : Int32) (S : St) (k37 : St → Option St) : Option St :=
  match n with
  | 0 => none
  | n + 1 => (if 12 ≤ x3 then k37 S else (if x3 < 0 ∨ 12 ≤ x3.toNatClampNeg then none else f_X6_begin_L18 n q0 (x3 + 1) (up S (q0 + 1) x3.toNatClampNeg 0) k37))
def f_X6_begin (q0 : Nat) (a1 : Int32) (a2 : Int32) (S : St) : Option St :=
  f_X6_begin_L18 2000 q0 0 (up (up (up S q0 0 a1) q0 1 a2) q0 2 (-9)) (fun (S3 : St) => some S3)
def f_X3_add (q0 : Nat) (a1 : Int32) (a2 : Int32) (S : St) : Option (Int32 × St) :=
  (if (S.1 q0 0) < 8 then (f_X3_at q0 (S.1 q0 0) S).bind fun v2 => (f_X6_begin v2 a1 a2 S).bind fun S3 => some (1, (up S3 q0 0 ((S3.1 q0 0) + 1))) else some (0, S))
def f_X6_makeGlad (q0 : Nat) (a1 : Int32) (a2 : Int32) (S : St) : Option St :=
  (if a1 < 0 then some S else (if 12 ≤ a1 then some S else (if a1 < 0 ∨ 12 ≤ a1.toNatClampNeg then none else some (up S (q0 + 1) a1.toNatClampNeg a2))))
def f_X3_makeGlad_L32 (n : Nat) (q0 : Nat) (x1 : Int32) (x3 : Int32) (x4 : Int32) (x5 : Int32) (S : St) (k56 : St → Option (Int32 × St)) : Option (Int32 × St) :=
  match n with
  | 0 => none
  | n + 1 => (if x3 < x5 then k56 S else (f_X3_at q0 x1 S).bind fun v9 => (f_X6_makeGlad v9 x5 x4 S).bind fun S10 => f_X3_makeGlad_L32 n q0 x1 x3 x4 (x5 + 1) S10 k56)
def f_X3_makeGlad (q0 : Nat) (a1 : Int32) (a2 : Int32) (a3 : Int32) (a4 : Int32) (S : St) : Option (Int32 × St) :=
  (f_X3_lacks q0 a1 S).bind fun v1 => (if v1 = 0 then (f_X7_noYear a2).bind fun v3 => (if v3 = 0 then (f_X7_noYear a3).bind fun v5 => (if v5 = 0 then (if a2 ≤ a3 then f_X3_makeGlad_L32 2000 q0 a1 a3 a4 a2 S (fun (S11 : St) => some (1, S11)) else some (0, S)) else some (0, S)) else some (0, S)) else some (0, S))
def f_X3_moveTo (q0 : Nat) (a1 : Int32) (S : St) : Option (Int32 × St) :=
  (f_X7_noYear a1).bind fun v1 => (if v1 = 0 then some (1, (up S q0 1 a1)) else some (0, S))
def f_X3_areHalves (q0 : Nat) (a1 : Int32) (a2 : Int32) (S : St) : Option Int32 :=
  (f_X3_lacksTwo q0 a1 a2 S).bind fun v1 => (if v1 = 0 then (if a1 < 0 ∨ 8 ≤ a1.toNatClampNeg then none else (if (((S.1 (q0 + 2) a1.toNatClampNeg) >>> (a2 &&& 31)) &&& 1) = 1 then some 1 else some 0)) else some 0)
def f_X3_turnHalves (q0 : Nat) (a1 : Int32) (a2 : Int32) (S : St) : Option (Int32 × St) :=
  (f_X3_lacksTwo q0 a1 a2 S).bind fun v1 => (if v1 = 0 then (if a1 < 0 ∨ 8 ≤ a1.toNatClampNeg then none else (if a1 < 0 ∨ 8 ≤ a1.toNatClampNeg then none else (if a2 < 0 ∨ 8 ≤ a2.toNatClampNeg then none else (if a2 < 0 ∨ 8 ≤ a2.toNatClampNeg then none else some (1, (up (up S (q0 + 2) a1.toNatClampNeg ((S.1 (q0 + 2) a1.toNatClampNeg) ^^^ (1 <<< (a2 &&& 31)))) (q0 + 2) a2.toNatClampNeg (((up S (q0 + 2) a1.toNatClampNeg ((S.1 (q0 + 2) a1.toNatClampNeg) ^^^ (1 <<< (a2 &&& 31)))).1 (q0 + 2) a2.toNatClampNeg) ^^^ (1 <<< (a1 &&& 31))))))))) else some (0, S))
def f_X3_glue (q0 : Nat) (a1 : Int32) (a2 : Int32) (a3 : Int32) (S : St) : Option (Int32 × St) :=
  (f_X3_lacks q0 a1 S).bind fun v1 => (if v1 = 0 then (f_X3_at q0 a1 S).bind fun v3 => (f_X6_isSet v3 S).bind fun v4 => (if v4 = 0 then (f_X3_at q0 a1 S).bind fun v6 => (f_X6_cost v6 S).bind fun v7 => (if v7 ≤ (S.1 q0 2) then (f_X3_at q0 a1 S).bind fun v9 => (f_X6_cost v9 S).bind fun v10 => (f_X3_at q0 a1 (up S q0 2 ((S.1 q0 2) - v10))).bind fun v11 => (f_X3_at q0 a1 (up S q0 2 ((S.1 q0 2) - v10))).bind fun v12 => (f_X6_yearBy v12 a2 a3 ((up S q0 2 ((S.1 q0 2) - v10)).1 q0 1) (up S q0 2 ((S.1 q0 2) - v10))).bind fun v13 => some (1, (up (up S q0 2 ((S.1 q0 2) - v10)) v11 2 v13)) else some (0, S)) else some (0, S)) else some (0, S))
def f_X3_countHalves_L16 (n : Nat) (q0 : Nat) (x1 : Int32) (x2 : Int32) (x3 : Int32) (S : St) (k47 : Int32 → Option Int32) : Option Int32 :=
  match n with
  | 0 => none
  | n + 1 => (if (S.1 q0 0) ≤ x3 then k47 x1 else (f_X3_areHalves q0 x2 x3 S).bind fun v3 => (if v3 = 0 then f_X3_countHalves_L16 n q0 (x1 + 0) x2 (x3 + 1) S k47 else f_X3_countHalves_L16 n q0 (x1 + 1) x2 (x3 + 1) S k47))
def f_X3_countHalves_L4 (n : Nat) (q0 : Nat) (x1 : Int32) (x2 : Int32) (S : St) (k53 : Int32 → Option Int32) : Option Int32 :=
  match n with
  | 0 => none
  | n + 1 => (if (S.1 q0 0) ≤ x2 then k53 x1 else f_X3_countHalves_L16 2000 q0 x1 x2 (x2 + 1) S (fun (y5 : Int32) => f_X3_countHalves_L4 n q0 y5 (x2 + 1) S k53))
def f_X3_countHalves (q0 : Nat) (S : St) : Option Int32 :=
  f_X3_countHalves_L4 2000 q0 0 0 S (fun (y6 : Int32) => some y6)
def f_X3_setInOneYear (q0 : Nat) (a1 : Int32) (a2 : Int32) (S : St) : Option Int32 :=
  (f_X3_at q0 a1 S).bind fun v1 => (f_X6_isSet v1 S).bind fun v2 => (if v2 = 0 then some 0 else (f_X3_at q0 a1 S).bind fun v4 => (f_X3_at q0 a2 S).bind fun v5 => (if (S.1 v4 2) = (S.1 v5 2) then some 1 else some 0))
def f_X3_countAgreeing_L16 (n : Nat) (q0 : Nat) (x1 : Int32) (x2 : Int32) (x3 : Int32) (S : St) (k56 : Int32 → Option Int32) : Option Int32 :=
  match n with
  | 0 => none
  | n + 1 => (if (S.1 q0 0) ≤ x3 then k56 x1 else (f_X3_areHalves q0 x2 x3 S).bind fun v3 => (if v3 = 0 then f_X3_countAgreeing_L16 n q0 (x1 + 0) x2 (x3 + 1) S k56 else (f_X3_setInOneYear q0 x2 x3 S).bind fun v5 => (if v5 = 0 then f_X3_countAgreeing_L16 n q0 (x1 + 0) x2 (x3 + 1) S k56 else f_X3_countAgreeing_L16 n q0 (x1 + 1) x2 (x3 + 1) S k56)))
def f_X3_countAgreeing_L4 (n : Nat) (q0 : Nat) (x1 : Int32) (x2 : Int32) (S : St) (k62 : Int32 → Option Int32) : Option Int32 :=
  match n with
  | 0 => none
  | n + 1 => (if (S.1 q0 0) ≤ x2 then k62 x1 else f_X3_countAgreeing_L16 2000 q0 x1 x2 (x2 + 1) S (fun (y7 : Int32) => f_X3_countAgreeing_L4 n q0 y7 (x2 + 1) S k62))
def f_X3_countAgreeing (q0 : Nat) (S : St) : Option Int32 :=
  f_X3_countAgreeing_L4 2000 q0 0 0 S (fun (y8 : Int32) => some y8)
def f_X3_firstApart_L14 (n : Nat) (q0 : Nat) (x1 : Int32) (x2 : Int32) (S : St) (k40 : Int32 → Option Int32) (k53 : Unit → Option Int32) : Option Int32 :=
  match n with
  | 0 => none
  | n + 1 => (if (S.1 q0 0) ≤ x2 then k53 () else (f_X3_areHalves q0 x1 x2 S).bind fun v3 => (if v3 = 0 then f_X3_firstApart_L14 n q0 x1 (x2 + 1) S k40 k53 else (f_X3_setInOneYear q0 x1 x2 S).bind fun v5 => (if v5 = 0 then k40 x2 else f_X3_firstApart_L14 n q0 x1 (x2 + 1) S k40 k53)))
def f_X3_firstApart_L2 (n : Nat) (q0 : Nat) (x1 : Int32) (S : St) (k40 : Int32 → Int32 → Option Int32) (k59 : Unit → Option Int32) : Option Int32 :=
  match n with
  | 0 => none
  | n + 1 => (if (S.1 q0 0) ≤ x1 then k59 () else f_X3_firstApart_L14 2000 q0 x1 (x1 + 1) S (fun (y7 : Int32) => k40 x1 y7) (fun _ : Unit => f_X3_firstApart_L2 n q0 (x1 + 1) S k40 k59))
def f_X3_firstApart (q0 : Nat) (S : St) : Option Int32 :=
  f_X3_firstApart_L2 2000 q0 0 S (fun (y8 : Int32) (y9 : Int32) => some ((10 * y8) + y9)) (fun _ : Unit => some (-9))
def f_X4_weigh_L2 (n : Nat) (x1 : Int32) (x2 : Int32) (x3 : Int32) (S : St) (k21 : St → Option St) : Option St :=
  match n with
  | 0 => none
  | n + 1 => (if 8 < x3 then k21 S else (if x3 < 0 ∨ 9 ≤ x3.toNatClampNeg then none else f_X4_weigh_L2 n x1 x2 (x3 + 1) (upL S x3.toNatClampNeg 0) k21))
def f_X4_weigh_L39 (n : Nat) (x1 : Int32) (x2 : Int32) (x3 : Int32) (x4 : Int32) (S : St) (k74 : St → Option St) : Option St :=
  match n with
  | 0 => none
  | n + 1 => (if x4 ≤ 0 then k74 S else (if x4 < 0 ∨ 9 ≤ x4.toNatClampNeg then none else (if (x4 - 1) < 0 ∨ 9 ≤ (x4 - 1).toNatClampNeg then none else (if x4 < 0 ∨ 9 ≤ x4.toNatClampNeg then none else f_X4_weigh_L39 n x1 x2 x3 (x4 + (-1)) (upL S x4.toNatClampNeg ((S.2 x4.toNatClampNeg) + ((S.2 (x4 - 1).toNatClampNeg) * ((x2 - 1).toInt64)))) k74))))
def f_X4_weigh_L30 (n : Nat) (x1 : Int32) (x2 : Int32) (x3 : Int32) (S : St) (k80 : St → Option St) : Option St :=
  match n with
  | 0 => none
  | n + 1 => (if x1 ≤ x3 then k80 S else f_X4_weigh_L39 2000 x1 x2 x3 8 S (fun (S9 : St) => f_X4_weigh_L30 n x1 x2 (x3 + 1) S9 k80))
def f_X4_weigh (a1 : Int32) (a2 : Int32) (S : St) : Option St :=
  f_X4_weigh_L2 2000 a1 a2 1 S (fun (S3 : St) => f_X4_weigh_L30 2000 a1 a2 0 (upL S3 0 1) (fun (S10 : St) => some S10))
def f_X4_allWays_L4 (n : Nat) (x1 : Int64) (x3 : Int32) (S : St) (k25 : Int64 → Option Int64) : Option Int64 :=
  match n with
  | 0 => none
  | n + 1 => (if 8 < x3 then k25 x1 else (if x3 < 0 ∨ 9 ≤ x3.toNatClampNeg then none else f_X4_allWays_L4 n (x1 + (S.2 x3.toNatClampNeg)) (x3 + 1) S k25))
def f_X4_allWays  (S : St) : Option Int64 :=
  f_X4_allWays_L4 2000 0 0 S (fun (y3 : Int64) => some y3)
def f_X4_waysInto_L6 (n : Nat) (q1 : Nat) (x2 : Int32) (x3 : Int32) (x4 : Int64) (x6 : Int32) (S : St) (k49 : Int64 → Option Int64) : Option Int64 :=
  match n with
  | 0 => none
  | n + 1 => (if 8 < x6 then k49 x4 else (f_X6_yearBy q1 (x6 * 5) 0 x3 S).bind fun v2 => (if v2 = x2 then (if x6 < 0 ∨ 9 ≤ x6.toNatClampNeg then none else f_X4_waysInto_L6 n q1 x2 x3 (x4 + (S.2 x6.toNatClampNeg)) (x6 + 1) S k49) else f_X4_waysInto_L6 n q1 x2 x3 (x4 + 0) (x6 + 1) S k49))
def f_X4_waysInto (q1 : Nat) (a2 : Int32) (a3 : Int32) (S : St) : Option Int64 :=
  f_X4_waysInto_L6 2000 q1 a2 a3 0 0 S (fun (y5 : Int64) => some y5)
def f_X4_gladOfAll_L5 (n : Nat) (q1 : Nat) (x2 : Int32) (x3 : Int64) (x5 : Int32) (S : St) (k44 : Int64 → Option Int64) : Option Int64 :=
  match n with
  | 0 => none
  | n + 1 => (if 8 < x5 then k44 x3 else (if x5 < 0 ∨ 9 ≤ x5.toNatClampNeg then none else (f_X6_yearBy q1 (x5 * 5) 0 x2 S).bind fun v3 => (f_X6_gladIn q1 v3 S).bind fun v4 => f_X4_gladOfAll_L5 n q1 x2 (x3 + ((S.2 x5.toNatClampNeg) * v4.toInt64)) (x5 + 1) S k44))
def f_X4_gladOfAll (q1 : Nat) (a2 : Int32) (S : St) : Option Int64 :=
  f_X4_gladOfAll_L5 2000 q1 a2 0 0 S (fun (y5 : Int64) => some y5)
def f_X5_isFull  (S : St) : Option Int32 :=
  (if (S.1 60 1) < 96 then some 0 else some 1)
def f_X5_put (a1 : Int32) (S : St) : Option St :=
  (f_X5_isFull S).bind fun v1 => (if v1 = 0 then (if (S.1 60 1) < 0 ∨ 96 ≤ (S.1 60 1).toNatClampNeg then none else some (up (up S 61 (S.1 60 1).toNatClampNeg a1) 60 1 (((up S 61 (S.1 60 1).toNatClampNeg a1).1 60 1) + 1))) else some S)
def f_X5_letterAt (a1 : Int32) (S : St) : Option Int32 :=
  (if a1 < 0 then some (-1) else (if (S.1 60 1) ≤ a1 then some (-1) else (if a1 < 96 then (if a1 < 0 ∨ 96 ≤ a1.toNatClampNeg then none else some (S.1 61 a1.toNatClampNeg)) else some (-1))))
def f_X5_isDigit (a1 : Int32) (S : St) : Option Int32 :=
  (f_X5_letterAt a1 S).bind fun v1 => (if v1 < 48 then some 0 else (f_X5_letterAt a1 S).bind fun v3 => (if 57 < v3 then some 0 else some 1))
/-- the place of a letter among "tcdpfw"; -1: none -/
def zix (c : Int32) : Int32 := if c = 116 then 0 else if c = 99 then 1 else if c = 100 then 2 else if c = 112 then 3 else if c = 102 then 4 else if c = 119 then 5 else -1
def f_X5_kindAt (a1 : Int32) (S : St) : Option Int32 := (f_X5_letterAt a1 S).bind fun v1 => (if 0 ≤ v1 then some (zix (v1.toUInt32 % 65536).toInt32) else some (-9))

def f_X5_number_L5 (n : Nat) (x1 : Int32) (x2 : Int32) (x3 : Int32) (x4 : Int32) (S : St) (k34 : Int32 → Option Int32) : Option Int32 :=
  match n with
  | 0 => none
  | n + 1 => (if x2 ≤ x4 then k34 x3 else (f_X5_letterAt (x1 + x4) S).bind fun v2 => f_X5_number_L5 n x1 x2 (((10 * x3) + v2) - 48) (x4 + 1) S k34)
def f_X5_number (a1 : Int32) (a2 : Int32) (S : St) : Option Int32 :=
  f_X5_number_L5 2000 a1 a2 0 0 S (fun (y3 : Int32) => some y3)
def f_X5_partsOf (a1 : Int32) (S : St) : Option Int32 :=
  (f_X5_letterAt a1 S).bind fun v1 => (if v1 = 100 then some 2 else (if v1 = 103 then some 5 else (if v1 = 104 then some 2 else (if v1 = 115 then some 4 else (if v1 = 116 then some 2 else (if v1 = 118 then some 7 else (if v1 = 121 then some 2 else some 0)))))))
def f_X5_behindStatement (a1 : Int32) (S : St) : Option Int32 :=
  (f_X5_partsOf a1 S).bind fun v1 => some ((a1 + v1) + 2)
def f_X5_misfitOfStatement_L39 (n : Nat) (x1 : Int32) (x2 : Int32) (x3 : Int32) (S : St) (k54 : Int32 → Option Int32) (k62 : Int32 → Option Int32) : Option Int32 :=
  match n with
  | 0 => none
  | n + 1 => (if (x1 + x2) < x3 then k62 x3 else (f_X5_isDigit x3 S).bind fun v6 => (if v6 = 0 then k54 x3 else f_X5_misfitOfStatement_L39 n x1 x2 (x3 + 1) S k54 k62))
def f_X5_misfitOfStatement (a1 : Int32) (S : St) : Option Int32 :=
  (f_X5_partsOf a1 S).bind fun v1 => (if v1 = 0 then some a1 else (f_X5_letterAt a1 S).bind fun v3 => (if v3 = 116 then (f_X5_kindAt (a1 + 1) S).bind fun v12 => (if 0 ≤ v12 then f_X5_misfitOfStatement_L39 2000 a1 v1 ((a1 + 1) + 1) S (fun (y14 : Int32) => some y14) (fun (y15 : Int32) => (f_X5_letterAt y15 S).bind fun v16 => (if v16 = 59 then some (-9) else some y15)) else some (a1 + 1)) else f_X5_misfitOfStatement_L39 2000 a1 v1 (a1 + 1) S (fun (y8 : Int32) => some y8) (fun (y9 : Int32) => (f_X5_letterAt y9 S).bind fun v10 => (if v10 = 59 then some (-9) else some y9))))
def f_X5_firstMisfit_L13 (n : Nat) (x1 : Int32) (x2 : Int32) (S : St) (k39 : Int32 → Option Int32) (k53 : Unit → Option Int32) : Option Int32 :=
  match n with
  | 0 => none
  | n + 1 => (if 96 ≤ x2 then k53 () else (if (S.1 60 1) ≤ x1 then k53 () else (f_X5_misfitOfStatement x1 S).bind fun v4 => (if v4 = (-9) then (f_X5_behindStatement x1 S).bind fun v6 => f_X5_firstMisfit_L13 n v6 (x2 + 1) S k39 k53 else k39 v4)))
def f_X5_firstMisfit  (S : St) : Option Int32 :=
  (if (S.1 60 1) = 0 then some 0 else f_X5_firstMisfit_L13 2000 0 0 S (fun (y7 : Int32) => some y7) (fun _ : Unit => some (-9)))
def f_X6_moreIfWashed (q0 : Nat) (a1 : Int32) (S : St) : Option Int32 :=
  (f_X6_gladIn q0 a1 S).bind fun v1 => (f_X6_howGlad q0 a1 S).bind fun v2 => some (v1 - v2)
def f_X7_refuse (a1 : Int32) (S : St) : Option (Int32 × St) :=
  (if 0 ≤ a1 then some (a1, S) else (if a1 < (-6) then some (a1, S) else (if (-a1) < 0 ∨ 7 ≤ (-a1).toNatClampNeg then none else (if (-a1) < 0 ∨ 7 ≤ (-a1).toNatClampNeg then none else some (a1, (up S 73 (-a1).toNatClampNeg ((S.1 73 (-a1).toNatClampNeg) + 1)))))))
def f_X7_letter (a1 : Int32) (S : St) : Option (Int32 × St) :=
  (if 0 ≤ a1 then (if 255 < a1 then (f_X7_refuse (-6) S).bind fun z3 => some (z3.1, z3.2) else (f_X5_isFull S).bind fun v4 => (if v4 = 0 then (f_X5_put a1 S).bind fun S6 => some (S6.1 60 1, S6) else (f_X7_refuse (-6) S).bind fun z7 => some (z7.1, z7.2))) else (f_X7_refuse (-4) S).bind fun z8 => some (z8.1, z8.2))
def f_X7_tellStatement (a1 : Int32) (S : St) : Option (Int32 × St) :=
  (f_X5_number (a1 + 1) 1 S).bind fun v1 => (f_X5_letterAt a1 S).bind fun v2 => (if v2 = 100 then (f_X5_number (a1 + 1) 2 S).bind fun v4 => some (1, (up S 39 2 v4)) else (if v2 = 103 then (f_X5_number (a1 + 2) 2 S).bind fun v6 => (f_X5_number (a1 + 2) 2 S).bind fun v7 => (f_X5_number (a1 + 4) 2 S).bind fun v8 => (f_X3_makeGlad 39 v1 v6 v7 v8 S).bind fun z9 => some (z9.1, z9.2) else (if v2 = 104 then (f_X5_number (a1 + 2) 1 S).bind fun v11 => (f_X3_turnHalves 39 v1 v11 S).bind fun z12 => some (z12.1, z12.2) else (if v2 = 115 then (f_X5_number (a1 + 2) 2 S).bind fun v14 => (f_X5_number (a1 + 4) 1 S).bind fun v15 => (f_X3_glue 39 v1 v14 v15 S).bind fun z16 => some (z16.1, z16.2) else (if v2 = 116 then (f_X5_kindAt (a1 + 1) S).bind fun v18 => (f_X5_number (a1 + 2) 1 S).bind fun v19 => (f_X3_add 39 v18 v19 S).bind fun z20 => some (z20.1, z20.2) else (if v2 = 118 then (f_X5_number (a1 + 2) 2 S).bind fun v22 => (f_X5_number (a1 + 4) 2 S).bind fun v23 => (f_X5_number (a1 + 6) 2 S).bind fun v24 => (f_X3_makeGlad 39 v1 v22 v23 v24 S).bind fun z25 => some (z25.1, z25.2) else (if v2 = 121 then (f_X5_number (a1 + 1) 2 S).bind fun v27 => (f_X3_moveTo 39 v27 S).bind fun z28 => some (z28.1, z28.2) else some (0, S))))))))
def f_X7_tellTrial_L15 (n : Nat) (x1 : Int32) (x2 : Int32) (S : St) (k40 : Int32 → St → Option (Int32 × St)) (k61 : Int32 → St → Option (Int32 × St)) : Option (Int32 × St) :=
  match n with
  | 0 => none
  | n + 1 => (if 96 ≤ x1 then k61 x1 S else (if (S.1 60 1) ≤ x2 then k61 x1 S else (f_X7_tellStatement x2 S).bind fun z4 => (if z4.1 = 0 then k40 x2 z4.2 else (f_X5_behindStatement x2 z4.2).bind fun v6 => f_X7_tellTrial_L15 n (x1 + 1) v6 z4.2 k40 k61)))
def f_X7_tellTrial  (S : St) : Option (Int32 × St) :=
  (f_X3_copyFrom 39 1 S).bind fun S1 => f_X7_tellTrial_L15 2000 0 0 S1 (fun (y7 : Int32) (S8 : St) => some ((-2000) - y7, S8)) (fun (y9 : Int32) (S10 : St) => some (y9, S10))
def f_X7_shop  (S : St) : Option (Int32 × St) :=
  (f_X5_firstMisfit S).bind fun v1 => (if v1 = (-9) then (f_X7_tellTrial S).bind fun z5 => (if z5.1 ≤ 0 then some (z5.1, (up z5.2 60 1 0)) else (f_X3_copyFrom 1 39 z5.2).bind fun S7 => some (z5.1, (up S7 60 1 0))) else (if ((-1000) - v1) ≤ 0 then some ((-1000) - v1, (up S 60 1 0)) else (f_X3_copyFrom 1 39 S).bind fun S4 => some ((-1000) - v1, (up S4 60 1 0))))
def f_X7_thing (a1 : Int32) (a2 : Int32) (S : St) : Option (Int32 × St) :=
  (f_X3_lacks 1 a1 S).bind fun v1 => (if v1 = 0 then (f_X3_at 1 a1 S).bind fun v3 => (if a2 = 0 then some (S.1 v3 0, S) else (if a2 = 1 then some (S.1 v3 1, S) else (if a2 = 2 then some (S.1 v3 2, S) else (if a2 = 3 then (f_X6_howGlad v3 (S.1 1 1) S).bind fun v8 => some (v8, S) else (if a2 = 4 then (f_X6_cost v3 S).bind fun v10 => some (v10, S) else (f_X7_refuse (-2) S).bind fun z11 => some (z11.1, z11.2)))))) else (f_X7_refuse (-1) S).bind fun z12 => some (z12.1, z12.2))
def f_X7_glad (a1 : Int32) (a2 : Int32) (S : St) : Option (Int32 × St) :=
  (f_X3_lacks 1 a1 S).bind fun v1 => (if v1 = 0 then (f_X7_noYear a2).bind fun v4 => (if v4 = 0 then (f_X3_at 1 a1 S).bind fun v6 => (f_X6_gladIn v6 a2 S).bind fun v7 => some (v7, S) else (f_X7_refuse (-1) S).bind fun z8 => some (z8.1, z8.2)) else (f_X7_refuse (-1) S).bind fun z3 => some (z3.1, z3.2))
def f_X7_halves (a1 : Int32) (a2 : Int32) (S : St) : Option (Int32 × St) :=
  (f_X3_lacksTwo 1 a1 a2 S).bind fun v1 => (if v1 = 0 then (f_X3_areHalves 1 a1 a2 S).bind fun v3 => (if v3 = 0 then some (0, S) else some (1, S)) else (f_X7_refuse (-1) S).bind fun z5 => some (z5.1, z5.2))
def f_X7_outside (a0 : Int32) (a1 : Int32) (a2 : Int32)  : Option Int32 :=
  (if a1 ≤ a0 then (if a0 ≤ a2 then some 0 else some (-6)) else some (-4))
def f_X7_turn (a1 : Int32) (a2 : Int32) (a3 : Int32) (S : St) : Option (Int32 × St) :=
  (f_X3_lacks 1 a1 S).bind fun v1 => (if v1 = 0 then (if a2 < 0 then (f_X7_refuse (-2) S).bind fun z4 => some (z4.1, z4.2) else (if a2 ≤ 5 then (f_X7_outside a3 0 9).bind fun v6 => (if v6 = 0 then (f_X3_at 1 a1 S).bind fun v8 => some ((10 * (S.1 v8 0)) + (S.1 v8 1), (up (up S v8 0 a2) v8 1 a3)) else (f_X7_refuse v6 S).bind fun z9 => some (z9.1, z9.2)) else (f_X7_refuse (-2) S).bind fun z10 => some (z10.1, z10.2))) else (f_X7_refuse (-1) S).bind fun z11 => some (z11.1, z11.2))
def f_X7_makes (a1 : Int32) (a2 : Int32) (a3 : Int32) (S : St) : Option (Int32 × St) :=
  (f_X3_lacks 1 a1 S).bind fun v1 => (if v1 = 0 then (f_X7_noYear a2).bind fun v4 => (if v4 = 0 then (f_X7_outside a3 0 99).bind fun v6 => (if v6 = 0 then (f_X3_at 1 a1 S).bind fun v8 => (f_X6_gladIn v8 a2 S).bind fun v9 => (f_X6_makeGlad v8 a2 a3 S).bind fun S10 => some (v9, S10) else (f_X7_refuse v6 S).bind fun z11 => some (z11.1, z11.2)) else (f_X7_refuse (-1) S).bind fun z12 => some (z12.1, z12.2)) else (f_X7_refuse (-1) S).bind fun z3 => some (z3.1, z3.2))
def f_X7_pairs (a1 : Int32) (a2 : Int32) (S : St) : Option (Int32 × St) :=
  (f_X3_lacksTwo 1 a1 a2 S).bind fun v1 => (if v1 = 0 then (f_X3_turnHalves 1 a1 a2 S).bind fun z3 => (f_X3_areHalves 1 a1 a2 z3.2).bind fun v4 => (if v4 = 0 then some (0, z3.2) else some (1, z3.2)) else (f_X7_refuse (-1) S).bind fun z6 => some (z6.1, z6.2))
def f_X7_now (a1 : Int32) (S : St) : Option (Int32 × St) :=
  (f_X7_noYear a1).bind fun v1 => (if v1 = 0 then some (S.1 1 1, (up S 1 1 a1)) else (f_X7_refuse (-1) S).bind fun z3 => some (z3.1, z3.2))
def f_X7_hands (a1 : Int32) (S : St) : Option (Int32 × St) :=
  (f_X7_outside a1 1 4).bind fun v1 => (if v1 = 0 then some (S.1 1 3, (up S 1 3 a1)) else (f_X7_refuse v1 S).bind fun z3 => some (z3.1, z3.2))
def f_X7_pours (a1 : Int32) (S : St) : Option (Int32 × St) :=
  (f_X7_outside a1 0 99).bind fun v1 => (if v1 = 0 then some (S.1 1 2, (up S 1 2 a1)) else (f_X7_refuse v1 S).bind fun z3 => some (z3.1, z3.2))
def f_X7_heldRefusal (a1 : Int32) (a2 : Int32) (a3 : Int32) (S : St) : Option Int32 :=
  (f_X3_lacks 1 a1 S).bind fun v1 => (if v1 = 0 then (if a2 < 0 then some (-4) else (if 0 ≤ a3 then (if 99 < a2 then some (-6) else (if a3 ≤ 9 then some 0 else some (-6))) else some (-4))) else some (-1))
def f_X7_glues (a1 : Int32) (a2 : Int32) (a3 : Int32) (S : St) : Option (Int32 × St) :=
  (f_X7_heldRefusal a1 a2 a3 S).bind fun v1 => (if v1 = 0 then (f_X3_glue 1 a1 a2 a3 S).bind fun z3 => (if z3.1 = 0 then (f_X7_refuse (-3) z3.2).bind fun z6 => some (z6.1, z6.2) else (f_X3_at 1 a1 z3.2).bind fun v5 => some (z3.2.1 v5 2, z3.2)) else (f_X7_refuse v1 S).bind fun z7 => some (z7.1, z7.2))
def f_X7_washes (a1 : Int32) (S : St) : Option (Int32 × St) :=
  (f_X3_lacks 1 a1 S).bind fun v1 => (if v1 = 0 then (f_X3_at 1 a1 S).bind fun v3 => (f_X6_isSet v3 S).bind fun v4 => (if v4 = 0 then (f_X7_refuse (-3) S).bind fun z6 => some (z6.1, z6.2) else some (S.1 v3 2, (up S v3 2 (-9)))) else (f_X7_refuse (-1) S).bind fun z7 => some (z7.1, z7.2))
def f_X7_would (a1 : Int32) (a2 : Int32) (a3 : Int32) (a4 : Int32) (S : St) : Option (Int32 × St) :=
  (f_X7_heldRefusal a1 a2 a3 S).bind fun v1 => (if v1 = 0 then (if a4 < 0 then (f_X7_refuse (-2) S).bind fun z4 => some (z4.1, z4.2) else (if a4 ≤ 2 then (f_X3_at 1 a1 S).bind fun v6 => (if a4 = 1 then (f_X6_reach v6 a2 a3 S).bind fun v11 => some (v11, S) else (f_X6_yearBy v6 a2 a3 (S.1 1 1) S).bind fun v8 => (if a4 = 0 then some (v8, S) else (f_X6_gladIn v6 v8 S).bind fun v10 => some (v10, S))) else (f_X7_refuse (-2) S).bind fun z12 => some (z12.1, z12.2))) else (f_X7_refuse v1 S).bind fun z13 => some (z13.1, z13.2))
def f_X7_can_L21 (n : Nat) (x1 : Int32) (x2 : Int32) (x3 : Int32) (S : St) (k60 : Int32 → Option (Int32 × St)) : Option (Int32 × St) :=
  match n with
  | 0 => none
  | n + 1 => (if 19 < x3 then k60 x2 else (f_X3_at 1 x1 S).bind fun v4 => (f_X6_yearBy v4 (x3 * 5) 0 (S.1 1 1) S).bind fun v5 => f_X7_can_L21 n x1 (x2 ||| (1 <<< (v5 &&& 31))) (x3 + 1) S k60)
def f_X7_can (a1 : Int32) (S : St) : Option (Int32 × St) :=
  (f_X3_lacks 1 a1 S).bind fun v1 => (if v1 = 0 then f_X7_can_L21 2000 a1 0 0 S (fun (y6 : Int32) => some (y6, S)) else (f_X7_refuse (-1) S).bind fun z7 => some (z7.1, z7.2))
def f_X7_fewest (a1 : Int32) (a2 : Int32) (S : St) : Option (Int32 × St) :=
  (f_X3_lacks 1 a1 S).bind fun v1 => (if v1 = 0 then (f_X7_noYear a2).bind fun v4 => (if v4 = 0 then (f_X3_at 1 a1 S).bind fun v6 => (f_X6_fewestFor v6 a2 (S.1 1 1) S).bind fun v7 => some (v7, S) else (f_X7_refuse (-1) S).bind fun z8 => some (z8.1, z8.2)) else (f_X7_refuse (-1) S).bind fun z3 => some (z3.1, z3.2))
def f_X7_gladness  (S : St) : Option Int32 :=
  (f_X3_gladTogether 1 (S.1 1 1) S).bind fun v1 => some v1
def f_X7_notOneOfTwo (a0 : Int32)  : Option Int32 :=
  (if a0 < 0 then some 1 else (if a0 ≤ 1 then some 0 else some 1))
def f_X7_agree (a1 : Int32) (S : St) : Option (Int32 × St) :=
  (f_X7_notOneOfTwo a1).bind fun v1 => (if v1 = 0 then (if a1 = 0 then (f_X3_countAgreeing 1 S).bind fun v5 => some (v5, S) else (f_X3_firstApart 1 S).bind fun v4 => some (v4, S)) else (f_X7_refuse (-2) S).bind fun z6 => some (z6.1, z6.2))
def f_X7_most (a1 : Int32) (S : St) : Option (Int32 × St) :=
  (f_X7_notOneOfTwo a1).bind fun v1 => (if v1 = 0 then (f_X1_weigh 1 (S.1 1 1) S).bind fun S3 => (f_X1_bestBits (S3.1 1 2) S3).bind fun v4 => (if a1 = 0 then (f_X1_gainOf v4 S3).bind fun v6 => some ((S3.1 64 4) + v6, S3) else some (v4, S3)) else (f_X7_refuse (-2) S).bind fun z7 => some (z7.1, z7.2))
def f_X7_spendSteps_L29 (n : Nat) (q1 : Nat) (x2 : Int32) (x3 : Int32) (x4 : Int32) (S : St) (k87 : Int32 → Option St) : Option St :=
  match n with
  | 0 => none
  | n + 1 => (if x2 < x4 then k87 x3 else (f_X6_isSet q1 S).bind fun v5 => (if v5 = 0 then (f_X6_yearBy q1 (x4 * 5) 0 (S.1 1 1) S).bind fun v7 => (if (x2 - x4) < 0 ∨ 20 ≤ (x2 - x4).toNatClampNeg then none else (f_X6_gladIn q1 v7 S).bind fun v9 => f_X7_spendSteps_L29 n q1 x2 (if x3 < ((S.1 72 (x2 - x4).toNatClampNeg) + v9) then (S.1 72 (x2 - x4).toNatClampNeg) + v9 else x3) (x4 + 1) S k87) else k87 x3))
def f_X7_spendSteps_L3 (n : Nat) (q1 : Nat) (x2 : Int32) (S : St) (k100 : St → Option St) : Option St :=
  match n with
  | 0 => none
  | n + 1 => (if x2 < 0 then k100 S else (if x2 < 0 ∨ 20 ≤ x2.toNatClampNeg then none else (f_X6_howGlad q1 (S.1 1 1) S).bind fun v3 => f_X7_spendSteps_L29 2000 q1 x2 ((S.1 72 x2.toNatClampNeg) + v3) 0 S (fun (y10 : Int32) => (if x2 < 0 ∨ 20 ≤ x2.toNatClampNeg then none else f_X7_spendSteps_L3 n q1 (x2 + (-1)) (up S 72 x2.toNatClampNeg y10) k100))))
def f_X7_spendSteps (q1 : Nat) (S : St) : Option St :=
  f_X7_spendSteps_L3 2000 q1 19 S (fun (S12 : St) => some S12)
def f_X7_byMinutes_L20 (n : Nat) (x1 : Int32) (x3 : Int32) (S : St) (k39 : St → Option (Int32 × St)) : Option (Int32 × St) :=
  match n with
  | 0 => none
  | n + 1 => (if 19 < x3 then k39 S else (if x3 < 0 ∨ 20 ≤ x3.toNatClampNeg then none else f_X7_byMinutes_L20 n x1 (x3 + 1) (up S 72 x3.toNatClampNeg 0) k39))
def f_X7_byMinutes_L41 (n : Nat) (x1 : Int32) (x3 : Int32) (S : St) (k70 : St → Option (Int32 × St)) : Option (Int32 × St) :=
  match n with
  | 0 => none
  | n + 1 => (if (S.1 1 0) ≤ x3 then k70 S else (f_X3_at 1 x3 S).bind fun v7 => (f_X7_spendSteps v7 S).bind fun S8 => f_X7_byMinutes_L41 n x1 (x3 + 1) S8 k70)
def f_X7_byMinutes (a1 : Int32) (S : St) : Option (Int32 × St) :=
  (f_X7_outside a1 0 99).bind fun v1 => (if v1 = 0 then f_X7_byMinutes_L20 2000 a1 0 S (fun (S5 : St) => f_X7_byMinutes_L41 2000 a1 0 S5 (fun (S9 : St) => (if (a1 / 5) < 0 ∨ 20 ≤ (a1 / 5).toNatClampNeg then none else some (S9.1 72 (a1 / 5).toNatClampNeg, S9)))) else (f_X7_refuse v1 S).bind fun z11 => some (z11.1, z11.2))
def f_X7_fewDrops  (S : St) : Option (Int32 × St) :=
  (f_X1_weigh 1 (S.1 1 1) S).bind fun S1 => (f_X1_bestBits 99 S1).bind fun v2 => (f_X1_gainOf v2 S1).bind fun v3 => (f_X1_fewestFor v3 S1).bind fun v4 => some (v4, S1)
def f_X7_minutesOfBoth (q1 : Nat) (q2 : Nat) (a3 : Int32) (S : St) : Option Int32 :=
  (f_X6_fewestFor q1 a3 (S.1 1 1) S).bind fun v1 => (f_X6_fewestFor q2 a3 (S.1 1 1) S).bind fun v2 => (if v1 = (-9) then some (-9) else (if v2 = (-9) then some (-9) else some (v1 + v2)))
def f_X7_together_L78 (n : Nat) (x1 : Int32) (x2 : Int32) (x3 : Int32) (x4 : Int32) (x5 : Int32) (x6 : Int32) (S : St) (k144 : Int32 → Int32 → Option (Int32 × St)) : Option (Int32 × St) :=
  match n with
  | 0 => none
  | n + 1 => (if 12 ≤ x6 then k144 x4 x5 else (f_X3_at 1 x1 S).bind fun v13 => (f_X3_at 1 x2 S).bind fun v14 => (f_X7_minutesOfBoth v13 v14 x6 S).bind fun v15 => (if v15 = (-9) then f_X7_together_L78 n x1 x2 x3 x4 x5 (x6 + 1) S k144 else (if x4 = (-9) then f_X7_together_L78 n x1 x2 x3 v15 x6 (x6 + 1) S k144 else (if x4 ≤ v15 then f_X7_together_L78 n x1 x2 x3 x4 x5 (x6 + 1) S k144 else f_X7_together_L78 n x1 x2 x3 v15 x6 (x6 + 1) S k144))))
def f_X7_together (a1 : Int32) (a2 : Int32) (a3 : Int32) (S : St) : Option (Int32 × St) :=
  (f_X3_lacksTwo 1 a1 a2 S).bind fun v1 => (if v1 = 0 then (f_X7_notOneOfTwo a3).bind fun v3 => (if v3 = 0 then (f_X3_at 1 a1 S).bind fun v5 => (f_X6_isSet v5 S).bind fun v6 => (if v6 = 0 then (f_X3_at 1 a2 S).bind fun v9 => (f_X6_isSet v9 S).bind fun v10 => (if v10 = 0 then f_X7_together_L78 2000 a1 a2 a3 (-9) (-9) 0 S (fun (y19 : Int32) (y20 : Int32) => (if a3 = 0 then some (y19, S) else some (y20, S))) else (f_X7_refuse (-3) S).bind fun z22 => some (z22.1, z22.2)) else (f_X7_refuse (-3) S).bind fun z8 => some (z8.1, z8.2)) else (f_X7_refuse (-2) S).bind fun z23 => some (z23.1, z23.2)) else (f_X7_refuse (-1) S).bind fun z24 => some (z24.1, z24.2))
def f_X7_queue (a1 : Int32) (S : St) : Option (Int32 × St) :=
  (if a1 = (-1) then (f_X0_arrange 1 S).bind fun S2 => (if a1 = (-1) then some (S2.1 67 2, S2) else (f_X0_beginOf a1 S2).bind fun v4 => some (v4, S2)) else (f_X3_lacks 1 a1 S).bind fun v5 => (if v5 = 0 then (f_X0_arrange 1 S).bind fun S7 => (if a1 = (-1) then some (S7.1 67 2, S7) else (f_X0_beginOf a1 S7).bind fun v9 => some (v9, S7)) else (f_X7_refuse (-1) S).bind fun z10 => some (z10.1, z10.2)))
def f_X7_oneMore  (S : St) : Option Int32 :=
  (f_X3_gladTogether 1 (if 11 < ((S.1 1 1) + 1) then 11 else (S.1 1 1) + 1) S).bind fun v1 => some v1
def f_X7_bestYear_L6 (n : Nat) (x1 : Int32) (x2 : Int32) (x3 : Int32) (S : St) (k72 : Int32 → St → Option (Int32 × St)) : Option (Int32 × St) :=
  match n with
  | 0 => none
  | n + 1 => (if 12 ≤ x3 then k72 x1 S else (f_X1_weigh 1 x3 S).bind fun S2 => (f_X1_bestBits (S2.1 1 2) S2).bind fun v3 => (f_X1_gainOf v3 S2).bind fun v4 => (if ((S2.1 64 4) + v4) ≤ x2 then f_X7_bestYear_L6 n x1 x2 (x3 + 1) S2 k72 else f_X7_bestYear_L6 n x3 ((S2.1 64 4) + v4) (x3 + 1) S2 k72))
def f_X7_bestYear  (S : St) : Option (Int32 × St) :=
  f_X7_bestYear_L6 2000 0 (-1) 0 S (fun (y6 : Int32) (S7 : St) => some (y6, S7))
def f_X7_water (a1 : Int32) (S : St) : Option (Int32 × St) :=
  (f_X3_lacks 1 a1 S).bind fun v1 => (if v1 = 0 then (f_X3_at 1 a1 S).bind fun v3 => (f_X6_isSet v3 S).bind fun v4 => (if v4 = 0 then (f_X7_refuse (-3) S).bind fun z7 => some (1000000000 - z7.1, z7.2) else (f_X6_moreIfWashed v3 (S.1 1 1) S).bind fun v6 => some (v6, S)) else (f_X7_refuse (-1) S).bind fun z8 => some (1000000000 - z8.1, z8.2))
def f_X7_bestWash_L7 (n : Nat) (x1 : Int32) (x2 : Int32) (x3 : Int32) (S : St) (k55 : Int32 → Option Int32) : Option Int32 :=
  match n with
  | 0 => none
  | n + 1 => (if (S.1 1 0) ≤ x3 then k55 x1 else (f_X3_at 1 x3 S).bind fun v2 => (f_X6_moreIfWashed v2 (S.1 1 1) S).bind fun v3 => (if v3 ≤ x2 then f_X7_bestWash_L7 n x1 x2 (x3 + 1) S k55 else f_X7_bestWash_L7 n x3 v3 (x3 + 1) S k55))
def f_X7_bestWash  (S : St) : Option Int32 :=
  f_X7_bestWash_L7 2000 (-9) 0 0 S (fun (y5 : Int32) => some y5)
def f_X7_sour_L4 (n : Nat) (x1 : Int32) (x2 : Int32) (S : St) (k48 : Int32 → Option Int32) : Option Int32 :=
  match n with
  | 0 => none
  | n + 1 => (if (S.1 1 0) ≤ x2 then k48 x1 else (f_X3_at 1 x2 S).bind fun v2 => (f_X6_moreIfWashed v2 (S.1 1 1) S).bind fun v3 => (if v3 ≤ 0 then f_X7_sour_L4 n x1 (x2 + 1) S k48 else f_X7_sour_L4 n (x1 ||| (1 <<< (x2 &&& 31))) (x2 + 1) S k48))
def f_X7_sour  (S : St) : Option Int32 :=
  f_X7_sour_L4 2000 0 0 S (fun (y5 : Int32) => some y5)
def f_X7_regret (a1 : Int32) (S : St) : Option (Int32 × St) :=
  (f_X3_lacks 1 a1 S).bind fun v1 => (if v1 = 0 then (f_X3_at 1 a1 S).bind fun v3 => (f_X6_gladdestYear v3 (S.1 1 1) S).bind fun v4 => (f_X6_gladIn v3 v4 S).bind fun v5 => (f_X6_howGlad v3 (S.1 1 1) S).bind fun v6 => some (if 0 < (v5 - v6) then v5 - v6 else 0, S) else (f_X7_refuse (-1) S).bind fun z7 => some (z7.1, z7.2))
def f_X7_bothContent_L21 (n : Nat) (q1 : Nat) (x2 : Int32) (x3 : Int32) (x4 : Int32) (x5 : Int32) (x6 : Int32) (S : St) (k70 : Unit → Option Int32) (k78 : Unit → Option Int32) : Option Int32 :=
  match n with
  | 0 => none
  | n + 1 => (if 4 < x6 then k78 () else (f_X6_yearBy q1 x2 (x6 + x4) (S.1 1 1) S).bind fun v3 => (if x5 < v3 then k70 () else (f_X6_yearBy q1 x2 (x3 + x6) (S.1 1 1) S).bind fun v5 => (if x5 ≤ v5 then f_X7_bothContent_L21 n q1 x2 x3 x4 x5 (x6 + 1) S k70 k78 else k70 ())))
def f_X7_bothContent (q1 : Nat) (a2 : Int32) (a3 : Int32) (a4 : Int32) (S : St) : Option Int32 :=
  (f_X6_yearBy q1 a2 (a3 + a4) (S.1 1 1) S).bind fun v1 => f_X7_bothContent_L21 2000 q1 a2 a3 a4 v1 0 S (fun _ : Unit => some 0) (fun _ : Unit => some 1)
def f_X7_two_L47 (n : Nat) (x1 : Int32) (x2 : Int32) (x4 : Int32) (x5 : Int32) (S : St) (k73 : Int32 → Option (Int32 × St)) (k88 : Unit → Option (Int32 × St)) : Option (Int32 × St) :=
  match n with
  | 0 => none
  | n + 1 => (if 4 < x5 then k88 () else (f_X3_at 1 x1 S).bind fun v7 => (f_X7_bothContent v7 x2 x4 x5 S).bind fun v8 => (if v8 = 0 then f_X7_two_L47 n x1 x2 x4 (x5 + 1) S k73 k88 else k73 x5))
def f_X7_two_L38 (n : Nat) (x1 : Int32) (x2 : Int32) (x4 : Int32) (S : St) (k73 : Int32 → Int32 → Option (Int32 × St)) (k94 : Unit → Option (Int32 × St)) : Option (Int32 × St) :=
  match n with
  | 0 => none
  | n + 1 => (if 4 < x4 then k94 () else f_X7_two_L47 2000 x1 x2 x4 0 S (fun (y10 : Int32) => k73 x4 y10) (fun _ : Unit => f_X7_two_L38 n x1 x2 (x4 + 1) S k73 k94))
def f_X7_two (a1 : Int32) (a2 : Int32) (S : St) : Option (Int32 × St) :=
  (f_X3_lacks 1 a1 S).bind fun v1 => (if v1 = 0 then (f_X7_outside a2 0 99).bind fun v3 => (if v3 = 0 then f_X7_two_L38 2000 a1 a2 0 S (fun (y11 : Int32) (y12 : Int32) => some ((10 * y11) + y12, S)) (fun _ : Unit => some ((-9), S)) else (f_X7_refuse v3 S).bind fun z13 => some (z13.1, z13.2)) else (f_X7_refuse (-1) S).bind fun z14 => some (z14.1, z14.2))
def f_X7_slipRefusal (a0 : Int32) (a1 : Int32) (a2 : Int32)  : Option Int32 :=
  (if a0 < 0 then some (-4) else (if 2 ≤ a1 then (if 8 < a0 then some (-6) else (if a1 ≤ 20 then (f_X7_notOneOfTwo a2).bind fun v5 => (if v5 = 0 then some 0 else some (-2)) else some (-6))) else some (-4)))
def f_X7_commonDivisor_L9 (n : Nat) (x4 : Int64) (x6 : Int64) (x8 : Int32) (k45 : Int64 → Option Int64) : Option Int64 :=
  match n with
  | 0 => none
  | n + 1 => (if 1000 ≤ x8 then k45 x4 else (if (lg_cmp x6 0) = 0 then k45 x4 else (if x6 = 0 then none else f_X7_commonDivisor_L9 n x6 (x4 - x4 / x6 * x6) (x8 + 1) k45)))
def f_X7_commonDivisor (a0 : Int64) (a2 : Int64)  : Option Int64 :=
  f_X7_commonDivisor_L9 2000 a0 a2 0 (fun (y4 : Int64) => some y4)
def f_X7_partOf (a0 : Int64) (a2 : Int64) (a4 : Int32)  : Option Int64 :=
  (f_X7_commonDivisor a0 a2).bind fun v1 => (if 0 ≤ (lg_cmp v1 1) then (if a4 = 0 then (if v1 = 0 then none else some (a0 / v1)) else (if v1 = 0 then none else some (a2 / v1))) else some 0)
def f_X7_slip (a1 : Int32) (a2 : Int32) (a3 : Int32) (a4 : Int32) (a5 : Int32) (S : St) : Option (Int64 × St) :=
  (f_X3_lacks 1 a1 S).bind fun v1 => (if v1 = 0 then (f_X7_noYear a4).bind fun v4 => (if v4 = 0 then (f_X7_slipRefusal a2 a3 a5).bind fun v6 => (if v6 = 0 then (f_X4_weigh a2 a3 S).bind fun S8 => (f_X3_at 1 a1 S8).bind fun v9 => (f_X4_waysInto v9 a4 (S8.1 1 1) S8).bind fun v10 => (f_X4_allWays S8).bind fun v11 => (f_X7_partOf v10 v11 a5).bind fun v12 => some (v12, S8) else (f_X7_refuse v6 S).bind fun z13 => some (4000000000000000000 - z13.1.toInt64, z13.2)) else (f_X7_refuse (-1) S).bind fun z14 => some (4000000000000000000 - z14.1.toInt64, z14.2)) else (f_X7_refuse (-1) S).bind fun z3 => some (4000000000000000000 - z3.1.toInt64, z3.2))
def f_X7_mean (a1 : Int32) (a2 : Int32) (a3 : Int32) (a4 : Int32) (S : St) : Option (Int64 × St) :=
  (f_X3_lacks 1 a1 S).bind fun v1 => (if v1 = 0 then (f_X7_slipRefusal a2 a3 a4).bind fun v3 => (if v3 = 0 then (f_X4_weigh a2 a3 S).bind fun S5 => (f_X3_at 1 a1 S5).bind fun v6 => (f_X4_gladOfAll v6 (S5.1 1 1) S5).bind fun v7 => (f_X4_allWays S5).bind fun v8 => (f_X7_partOf v7 v8 a4).bind fun v9 => some (v9, S5) else (f_X7_refuse v3 S).bind fun z10 => some (4000000000000000000 - z10.1.toInt64, z10.2)) else (f_X7_refuse (-1) S).bind fun z11 => some (4000000000000000000 - z11.1.toInt64, z11.2))
def f_X7_whatWas_L63 (n : Nat) (x2 : Int32) (x3 : Int32) (x4 : Int32) (x5 : Int32) (S : St) (k130 : Int32 → St → Option (Int32 × St)) : Option (Int32 × St) :=
  match n with
  | 0 => none
  | n + 1 => (if x3 < x5 then k130 x4 S else (if x2 = 0 then (f_X2_tellsYearsOf 58 ((up S 58 0 x5).1 1 1) (up S 58 0 x5)).bind fun v12 => (if v12 = 0 then f_X7_whatWas_L63 n x2 x3 x4 (x5 + 1) (up S 58 0 x5) k130 else f_X7_whatWas_L63 n x2 x3 (x4 ||| (1 <<< (x5 &&& 31))) (x5 + 1) (up S 58 0 x5) k130) else (f_X2_tellsYearsOf 58 ((up S 58 1 x5).1 1 1) (up S 58 1 x5)).bind fun v10 => (if v10 = 0 then f_X7_whatWas_L63 n x2 x3 x4 (x5 + 1) (up S 58 1 x5) k130 else f_X7_whatWas_L63 n x2 x3 (x4 ||| (1 <<< (x5 &&& 31))) (x5 + 1) (up S 58 1 x5) k130)))
def f_X7_whatWas (a1 : Int32) (a2 : Int32) (S : St) : Option (Int32 × St) :=
  (f_X3_lacks 1 a1 S).bind fun v1 => (if v1 = 0 then (f_X7_notOneOfTwo a2).bind fun v3 => (if v3 = 0 then (f_X3_at 1 a1 S).bind fun v5 => (f_X6_copyFrom 58 v5 S).bind fun S6 => (if a2 = 0 then f_X7_whatWas_L63 2000 a2 5 0 0 S6 (fun (y16 : Int32) (S17 : St) => some (y16, S17)) else f_X7_whatWas_L63 2000 a2 9 0 0 S6 (fun (y14 : Int32) (S15 : St) => some (y14, S15))) else (f_X7_refuse (-2) S).bind fun z18 => some (z18.1, z18.2)) else (f_X7_refuse (-1) S).bind fun z19 => some (z19.1, z19.2))
def f_X7_mended_L63 (n : Nat) (x2 : Int32) (x3 : Int32) (x5 : Int32) (S : St) (k100 : Int32 → St → Option (Int32 × St)) (k109 : St → Option (Int32 × St)) : Option (Int32 × St) :=
  match n with
  | 0 => none
  | n + 1 => (if 99 < x5 then k109 S else (f_X6_makeGlad 58 x2 x5 S).bind fun S11 => (f_X6_yearBy 58 x3 0 (S11.1 1 1) S11).bind fun v12 => (if v12 = x2 then k100 x5 S11 else f_X7_mended_L63 n x2 x3 (x5 + 1) S11 k100 k109))
def f_X7_mended (a1 : Int32) (a2 : Int32) (a3 : Int32) (S : St) : Option (Int32 × St) :=
  (f_X3_lacks 1 a1 S).bind fun v1 => (if v1 = 0 then (f_X7_noYear a2).bind fun v4 => (if v4 = 0 then (f_X7_outside a3 0 99).bind fun v6 => (if v6 = 0 then (f_X3_at 1 a1 S).bind fun v8 => (f_X6_copyFrom 58 v8 S).bind fun S9 => f_X7_mended_L63 2000 a2 a3 0 S9 (fun (y14 : Int32) (S15 : St) => some (y14, S15)) (fun (S16 : St) => some ((-9), S16)) else (f_X7_refuse v6 S).bind fun z17 => some (z17.1, z17.2)) else (f_X7_refuse (-1) S).bind fun z18 => some (z18.1, z18.2)) else (f_X7_refuse (-1) S).bind fun z3 => some (z3.1, z3.2))
def f_X7_row (a1 : Int32) (S : St) : Option (Int32 × St) :=
  (if 0 ≤ a1 then (if 99 < a1 then (f_X7_refuse (-6) S).bind fun z3 => some (z3.1, z3.2) else (f_X2_isFull S).bind fun v4 => (if v4 = 0 then (f_X2_put a1 S).bind fun S6 => some (S6.1 62 1, S6) else (f_X7_refuse (-6) S).bind fun z7 => some (z7.1, z7.2))) else (f_X7_refuse (-4) S).bind fun z8 => some (z8.1, z8.2))
def f_X7_judge (a1 : Int32) (S : St) : Option (Int32 × St) :=
  (f_X3_lacks 1 a1 S).bind fun v1 => (if v1 = 0 then (f_X3_at 1 a1 S).bind fun v3 => (f_X2_firstNotGladOf v3 S).bind fun v4 => some (v4, (up S 62 1 0)) else (f_X7_refuse (-1) S).bind fun z5 => some (z5.1, z5.2))
def f_X7_clear  (S : St) : Option (Int32 × St) :=
  some (S.1 62 1, (up S 62 1 0))
def f_X7_draw (a1 : Int32) (S : St) : Option (Int32 × St) :=
  (if 1 ≤ a1 then (if a1 = 0 then none else some (((((up S 0 12 (((S.1 0 12) * 1664525) + 1013904223)).1 0 12) &&& 2147483647) / 256) - ((((up S 0 12 (((S.1 0 12) * 1664525) + 1013904223)).1 0 12) &&& 2147483647) / 256) / a1 * a1, (up S 0 12 (((S.1 0 12) * 1664525) + 1013904223)))) else some (0, (up S 0 12 (((S.1 0 12) * 1664525) + 1013904223))))
def f_X7_glueByLot_L13 (n : Nat) (x1 : Int32) (S : St) (k78 : St → Option St) : Option St :=
  match n with
  | 0 => none
  | n + 1 => (if (S.1 39 0) ≤ x1 then k78 S else (f_X3_at 39 x1 S).bind fun v3 => (f_X6_isSet v3 S).bind fun v4 => (if v4 = 0 then (f_X7_draw 60 S).bind fun z6 => (f_X7_draw 4 z6.2).bind fun z7 => (f_X6_yearBy v3 z6.1 z7.1 (z7.2.1 39 1) z7.2).bind fun v8 => f_X7_glueByLot_L13 n (x1 + 1) (up z7.2 v3 2 v8) k78 else f_X7_glueByLot_L13 n (x1 + 1) S k78))
def f_X7_glueByLot  (S : St) : Option St :=
  (f_X3_copyFrom 39 1 S).bind fun S1 => f_X7_glueByLot_L13 2000 0 S1 (fun (S9 : St) => some S9)
def f_X7_lots_L46 (n : Nat) (x1 : Int32) (x3 : Int32) (x5 : Int32) (x6 : Int32) (S : St) (k95 : Int32 → St → Option (Int32 × St)) : Option (Int32 × St) :=
  match n with
  | 0 => none
  | n + 1 => (if x1 ≤ x6 then k95 x5 S else (f_X7_glueByLot S).bind fun S6 => (if x3 = 0 then (f_X3_gladTogether 39 (S6.1 39 1) S6).bind fun v9 => f_X7_lots_L46 n x1 x3 (x5 + v9) (x6 + 1) S6 k95 else (f_X3_countAgreeing 39 S6).bind fun v8 => f_X7_lots_L46 n x1 x3 (x5 + v8) (x6 + 1) S6 k95))
def f_X7_lots (a1 : Int32) (a2 : Int32) (a3 : Int32) (S : St) : Option (Int32 × St) :=
  (f_X7_outside a1 1 20).bind fun v1 => (if v1 = 0 then (f_X7_notOneOfTwo a3).bind fun v3 => (if v3 = 0 then f_X7_lots_L46 2000 a1 a3 0 0 (up S 0 12 a2) (fun (y10 : Int32) (S11 : St) => some (y10, S11)) else (f_X7_refuse (-2) S).bind fun z12 => some (z12.1, z12.2)) else (f_X7_refuse v1 S).bind fun z13 => some (z13.1, z13.2))
def f_X7_image  (S : St) : Option (Int32 × St) :=
  (f_X3_copyFrom 20 1 S).bind fun S1 => some ((up S1 0 11 1).1 1 1, (up S1 0 11 1))
def f_X7_on  (S : St) : Option (Int32 × St) :=
  (if (S.1 0 11) = 0 then (f_X7_refuse (-3) S).bind fun z3 => some (z3.1, z3.2) else (f_X3_copyFrom 1 20 S).bind fun S2 => some (S2.1 1 1, S2))
def f_X7_count (a1 : Int32) (S : St) : Option Int32 :=
  (if a1 < 11 then (if a1 = 0 then some (S.1 1 0) else (if a1 = 1 then some (S.1 1 1) else (if a1 = 2 then some (S.1 1 2) else (if a1 = 3 then some (S.1 1 3) else (if a1 = 4 then (f_X3_setBits 1 S).bind fun v7 => some v7 else (if a1 = 5 then (f_X3_countHalves 1 S).bind fun v9 => some v9 else (if a1 = 6 then some (S.1 62 1) else (if a1 = 7 then some (S.1 60 1) else some (-9))))))))) else (if 16 < a1 then (if a1 = 0 then some (S.1 1 0) else (if a1 = 1 then some (S.1 1 1) else (if a1 = 2 then some (S.1 1 2) else (if a1 = 3 then some (S.1 1 3) else (if a1 = 4 then (f_X3_setBits 1 S).bind fun v18 => some v18 else (if a1 = 5 then (f_X3_countHalves 1 S).bind fun v20 => some v20 else (if a1 = 6 then some (S.1 62 1) else (if a1 = 7 then some (S.1 60 1) else some (-9))))))))) else (if (a1 - 10) < 0 ∨ 7 ≤ (a1 - 10).toNatClampNeg then none else some (S.1 73 (a1 - 10).toNatClampNeg))))
def f_X8_isIn (a0 : Int32) (a1 : Int32) (a2 : Int32)  : Option Int32 :=
  (if a0 < a1 then some 0 else (if a2 < a0 then some 0 else some 1))
def f_X8_least (a0 : Int32) (a1 : Int32)  : Option Int32 :=
  (if a1 ≤ a0 then some a1 else some a0)
def f_X8_most (a0 : Int32) (a1 : Int32)  : Option Int32 :=
  (if a0 ≤ a1 then some a1 else some a0)
def f_X8_lays_L2 (n : Nat) (q0 : Nat) (q1 : Nat) (x2 : Int32) (S : St) (k21 : St → Option St) : Option St :=
  match n with
  | 0 => none
  | n + 1 => (if 132 ≤ x2 then k21 S else (if x2 < 0 ∨ 132 ≤ x2.toNatClampNeg then none else (if x2 < 0 ∨ 132 ≤ x2.toNatClampNeg then none else f_X8_lays_L2 n q0 q1 (x2 + 1) (up S q1 x2.toNatClampNeg (S.1 q0 x2.toNatClampNeg)) k21)))
def f_X8_lays (q0 : Nat) (q1 : Nat) (S : St) : Option St :=
  f_X8_lays_L2 2000 q0 q1 0 S (fun (S4 : St) => some S4)
def f_X8_no (a1 : Int32) (S : St) : Option (Int32 × St) :=
  (if (-a1) < 0 ∨ 7 ≤ (-a1).toNatClampNeg then none else (if (-a1) < 0 ∨ 7 ≤ (-a1).toNatClampNeg then none else some (a1, (up S 81 (-a1).toNatClampNeg ((S.1 81 (-a1).toNatClampNeg) + 1)))))
def f_X8_noFar (a1 : Int32) (S : St) : Option (Int32 × St) :=
  (f_X8_no a1 S).bind fun z1 => some (1000000000 - z1.1, z1.2)
def f_X8_noWide (a1 : Int32) (S : St) : Option (Int64 × St) :=
  (f_X8_no a1 S).bind fun z1 => some (4000000000000000000 - z1.1.toInt64, z1.2)
def f_X8_isThing (a1 : Int32) (S : St) : Option Int32 :=
  (f_X8_isIn a1 0 ((S.1 75 0) - 1)).bind fun v1 => some v1
def f_X8_isYear (a0 : Int32)  : Option Int32 :=
  (f_X8_isIn a0 0 11).bind fun v1 => some v1
def f_X8_at (a0 : Int32) (a1 : Int32)  : Option Int32 :=
  some ((28 + (12 * a0)) + a1)
def f_X8_bits_L4 (n : Nat) (x0 : Int32) (x1 : Int32) (x2 : Int32) (k24 : Int32 → Option Int32) : Option Int32 :=
  match n with
  | 0 => none
  | n + 1 => (if 12 ≤ x2 then k24 x1 else f_X8_bits_L4 n x0 (x1 + ((x0 >>> (x2 &&& 31)) &&& 1)) (x2 + 1) k24)
def f_X8_bits (a0 : Int32)  : Option Int32 :=
  f_X8_bits_L4 2000 a0 0 0 (fun (y2 : Int32) => some y2)
def f_X8_cost (q0 : Nat) (a1 : Int32) (S : St) : Option Int32 :=
  (if (4 + a1) < 0 ∨ 132 ≤ (4 + a1).toNatClampNeg then none else (if (S.1 q0 (4 + a1).toNatClampNeg) = 4 then (if (12 + a1) < 0 ∨ 132 ≤ (12 + a1).toNatClampNeg then none else some (1 + (S.1 q0 (12 + a1).toNatClampNeg))) else some 1))
def f_X8_reach (q0 : Nat) (a1 : Int32) (a2 : Int32) (a3 : Int32) (S : St) : Option Int32 :=
  (f_X8_most 0 ((a2 / 5) - a3)).bind fun v1 => (if (4 + a1) < 0 ∨ 132 ≤ (4 + a1).toNatClampNeg then none else (if (S.1 q0 (4 + a1).toNatClampNeg) = 2 then (if (12 + a1) < 0 ∨ 132 ≤ (12 + a1).toNatClampNeg then none else some (v1 + (S.1 q0 (12 + a1).toNatClampNeg))) else (if (S.1 q0 (4 + a1).toNatClampNeg) = 5 then (if (12 + a1) < 0 ∨ 132 ≤ (12 + a1).toNatClampNeg then none else some (v1 + (S.1 q0 (12 + a1).toNatClampNeg))) else (if (S.1 q0 (4 + a1).toNatClampNeg) = 4 then some (v1 / 2) else some v1))))
def f_X8_counts (q0 : Nat) (a1 : Int32) (a2 : Int32) (S : St) : Option Int32 :=
  (f_X8_at a1 a2).bind fun v1 => (if v1 < 0 ∨ 132 ≤ v1.toNatClampNeg then none else (if (4 + a1) < 0 ∨ 132 ≤ (4 + a1).toNatClampNeg then none else (if (S.1 q0 (4 + a1).toNatClampNeg) = 5 then some (-(S.1 q0 v1.toNatClampNeg)) else (if (S.1 q0 (4 + a1).toNatClampNeg) = 3 then (if (12 + a1) < 0 ∨ 132 ≤ (12 + a1).toNatClampNeg then none else some ((S.1 q0 v1.toNatClampNeg) - ((S.1 q0 (12 + a1).toNatClampNeg) * ((S.1 q0 1) - a2)))) else some (S.1 q0 v1.toNatClampNeg)))))
def f_X8_yearBy_L36 (n : Nat) (q0 : Nat) (x1 : Int32) (x2 : Int32) (x3 : Int32) (x4 : Int32) (x5 : Int32) (S : St) (k92 : Int32 → Option Int32) : Option Int32 :=
  match n with
  | 0 => none
  | n + 1 => (if x5 < 0 then k92 x4 else (if x5 < ((S.1 q0 1) - x2) then k92 x4 else (f_X8_counts q0 x1 x5 S).bind fun v5 => (f_X8_counts q0 x1 x4 S).bind fun v6 => (if 0 < (v5 - v6) then f_X8_yearBy_L36 n q0 x1 x2 x3 x5 (x5 + (-1)) S k92 else (if (v5 - v6) = 0 then (if x3 = 0 then f_X8_yearBy_L36 n q0 x1 x2 x3 x4 (x5 + (-1)) S k92 else f_X8_yearBy_L36 n q0 x1 x2 x3 x5 (x5 + (-1)) S k92) else f_X8_yearBy_L36 n q0 x1 x2 x3 x4 (x5 + (-1)) S k92))))
def f_X8_yearBy (q0 : Nat) (a1 : Int32) (a2 : Int32) (S : St) : Option Int32 :=
  (if (4 + a1) < 0 ∨ 132 ≤ (4 + a1).toNatClampNeg then none else (if (S.1 q0 (4 + a1).toNatClampNeg) = 1 then f_X8_yearBy_L36 2000 q0 a1 a2 1 (S.1 q0 1) ((S.1 q0 1) - 1) S (fun (y10 : Int32) => some y10) else (if (4 + a1) < 0 ∨ 132 ≤ (4 + a1).toNatClampNeg then none else (if (S.1 q0 (4 + a1).toNatClampNeg) = 3 then f_X8_yearBy_L36 2000 q0 a1 a2 1 (S.1 q0 1) ((S.1 q0 1) - 1) S (fun (y14 : Int32) => some y14) else f_X8_yearBy_L36 2000 q0 a1 a2 0 (S.1 q0 1) ((S.1 q0 1) - 1) S (fun (y13 : Int32) => some y13)))))
def f_X8_yearOf (q0 : Nat) (a1 : Int32) (a2 : Int32) (a3 : Int32) (S : St) : Option Int32 :=
  (f_X8_reach q0 a1 a2 a3 S).bind fun v1 => (f_X8_yearBy q0 a1 v1 S).bind fun v2 => some v2
def f_X8_gladOf (q0 : Nat) (a1 : Int32) (S : St) : Option Int32 :=
  (if (20 + a1) < 0 ∨ 132 ≤ (20 + a1).toNatClampNeg then none else (if 0 ≤ (S.1 q0 (20 + a1).toNatClampNeg) then (if (20 + a1) < 0 ∨ 132 ≤ (20 + a1).toNatClampNeg then none else (f_X8_at a1 (S.1 q0 (20 + a1).toNatClampNeg)).bind fun v4 => (if v4 < 0 ∨ 132 ≤ v4.toNatClampNeg then none else some (S.1 q0 v4.toNatClampNeg))) else (f_X8_at a1 (S.1 q0 1)).bind fun v6 => (if v6 < 0 ∨ 132 ≤ v6.toNatClampNeg then none else some (S.1 q0 v6.toNatClampNeg))))
def f_X8_gladAll_L4 (n : Nat) (q0 : Nat) (x1 : Int32) (x2 : Int32) (S : St) (k25 : Int32 → Option Int32) : Option Int32 :=
  match n with
  | 0 => none
  | n + 1 => (if (S.1 q0 0) ≤ x2 then k25 x1 else (f_X8_gladOf q0 x2 S).bind fun v2 => f_X8_gladAll_L4 n q0 (x1 + v2) (x2 + 1) S k25)
def f_X8_gladAll (q0 : Nat) (S : St) : Option Int32 :=
  f_X8_gladAll_L4 2000 q0 0 0 S (fun (y3 : Int32) => some y3)
def f_X8_fewestOf_L2 (n : Nat) (q0 : Nat) (x1 : Int32) (x2 : Int32) (x3 : Int32) (S : St) (k19 : Int32 → Option Int32) (k27 : Unit → Option Int32) : Option Int32 :=
  match n with
  | 0 => none
  | n + 1 => (if 99 < x3 then k27 () else (f_X8_yearOf q0 x1 x3 0 S).bind fun v2 => (if v2 = x2 then k19 x3 else f_X8_fewestOf_L2 n q0 x1 x2 (x3 + 1) S k19 k27))
def f_X8_fewestOf (q0 : Nat) (a1 : Int32) (a2 : Int32) (S : St) : Option Int32 :=
  f_X8_fewestOf_L2 2000 q0 a1 a2 0 S (fun (y4 : Int32) => some y4) (fun _ : Unit => some (-9))
def f_X8_letter (a1 : Int32) (S : St) : Option (Int32 × St) :=
  (if 0 ≤ a1 then (if 255 < a1 then (f_X8_no (-6) S).bind fun z3 => some (z3.1, z3.2) else (if (S.1 74 8) = 96 then (f_X8_no (-6) S).bind fun z6 => some (z6.1, z6.2) else (if (S.1 74 8) < 0 ∨ 96 ≤ (S.1 74 8).toNatClampNeg then none else some ((up (up S 79 (S.1 74 8).toNatClampNeg a1) 74 8 (((up S 79 (S.1 74 8).toNatClampNeg a1).1 74 8) + 1)).1 74 8, (up (up S 79 (S.1 74 8).toNatClampNeg a1) 74 8 (((up S 79 (S.1 74 8).toNatClampNeg a1).1 74 8) + 1)))))) else (f_X8_no (-4) S).bind fun z7 => some (z7.1, z7.2))
def f_X8_here  (S : St) : Option Int32 :=
  (if (S.1 74 8) ≤ (S.1 74 10) then some (-1) else (if (S.1 74 10) < 0 ∨ 96 ≤ (S.1 74 10).toNatClampNeg then none else some (S.1 79 (S.1 74 10).toNatClampNeg)))
def f_X8_readsNumber_L9 (n : Nat) (x1 : Int32) (x2 : Int32) (x3 : Int32) (S : St) (k28 : St → Option (Int32 × St)) (k69 : St → Option (Int32 × St)) : Option (Int32 × St) :=
  match n with
  | 0 => none
  | n + 1 => (if x2 ≤ x3 then k69 S else (f_X8_here S).bind fun v3 => (f_X8_isIn v3 48 57).bind fun v4 => (if v4 = 0 then k28 S else (if x1 < 0 ∨ 4 ≤ x1.toNatClampNeg then none else (f_X8_here S).bind fun v7 => (if x1 < 0 ∨ 4 ≤ x1.toNatClampNeg then none else f_X8_readsNumber_L9 n x1 x2 (x3 + 1) (up (up S 82 x1.toNatClampNeg (((10 * (S.1 82 x1.toNatClampNeg)) + v7) - 48)) 74 10 (((up S 82 x1.toNatClampNeg (((10 * (S.1 82 x1.toNatClampNeg)) + v7) - 48)).1 74 10) + 1)) k28 k69))))
def f_X8_readsNumber (a1 : Int32) (a2 : Int32) (S : St) : Option (Int32 × St) :=
  (if a1 < 0 ∨ 4 ≤ a1.toNatClampNeg then none else f_X8_readsNumber_L9 2000 a1 a2 0 (up S 82 a1.toNatClampNeg 0) (fun (S9 : St) => some (0, S9)) (fun (S10 : St) => some (1, S10)))
def f_X8_kindBy (a0 : Int32)  : Option Int32 :=
  (if a0 = 99 then some 1 else (if a0 = 100 then some 2 else (if a0 = 102 then some 4 else (if a0 = 112 then some 3 else (if a0 = 116 then some 0 else (if a0 = 119 then some 5 else some (-9)))))))
def f_X8_readsKind  (S : St) : Option (Int32 × St) :=
  (f_X8_here S).bind fun v1 => (f_X8_kindBy v1).bind fun v2 => (if 0 ≤ ((up S 82 0 v2).1 82 0) then (if ((up (up S 82 0 v2) 74 10 (((up S 82 0 v2).1 74 10) + 1)).1 82 0) < 0 then some (0, (up (up S 82 0 v2) 74 10 (((up S 82 0 v2).1 74 10) + 1))) else some (1, (up (up S 82 0 v2) 74 10 (((up S 82 0 v2).1 74 10) + 1)))) else (if ((up (up S 82 0 v2) 74 10 (((up S 82 0 v2).1 74 10) + 0)).1 82 0) < 0 then some (0, (up (up S 82 0 v2) 74 10 (((up S 82 0 v2).1 74 10) + 0))) else some (1, (up (up S 82 0 v2) 74 10 (((up S 82 0 v2).1 74 10) + 0)))))
def f_X8_readsStatement  (S : St) : Option (Int32 × St) :=
  (f_X8_here S).bind fun v1 => (if v1 = 100 then (f_X8_readsNumber 0 2 (up S 74 10 ((S.1 74 10) + 1))).bind fun z3 => (if z3.1 = 0 then some (0, z3.2) else (f_X8_here z3.2).bind fun v5 => (if v5 = 59 then some (1, (up z3.2 74 10 ((z3.2.1 74 10) + 1))) else some (0, z3.2))) else (if v1 = 103 then (f_X8_readsNumber 0 1 (up S 74 10 ((S.1 74 10) + 1))).bind fun z8 => (if z8.1 = 0 then some (0, (up z8.2 82 2 (z8.2.1 82 1))) else (f_X8_readsNumber 1 2 z8.2).bind fun z11 => (if z11.1 = 0 then some (0, (up z11.2 82 2 (z11.2.1 82 1))) else (f_X8_readsNumber 3 2 z11.2).bind fun z14 => (if z14.1 = 0 then some (0, (up z14.2 82 2 (z14.2.1 82 1))) else (f_X8_here (up z14.2 82 2 (z14.2.1 82 1))).bind fun v18 => (if v18 = 59 then some (1, (up (up z14.2 82 2 (z14.2.1 82 1)) 74 10 (((up z14.2 82 2 (z14.2.1 82 1)).1 74 10) + 1))) else some (0, (up z14.2 82 2 (z14.2.1 82 1))))))) else (if v1 = 104 then (f_X8_readsNumber 0 1 (up S 74 10 ((S.1 74 10) + 1))).bind fun z21 => (if z21.1 = 0 then some (0, z21.2) else (f_X8_readsNumber 1 1 z21.2).bind fun z24 => (if z24.1 = 0 then some (0, z24.2) else (f_X8_here z24.2).bind fun v28 => (if v28 = 59 then some (1, (up z24.2 74 10 ((z24.2.1 74 10) + 1))) else some (0, z24.2)))) else (if v1 = 115 then (f_X8_readsNumber 0 1 (up S 74 10 ((S.1 74 10) + 1))).bind fun z31 => (if z31.1 = 0 then some (0, z31.2) else (f_X8_readsNumber 1 2 z31.2).bind fun z34 => (if z34.1 = 0 then some (0, z34.2) else (f_X8_readsNumber 2 1 z34.2).bind fun z37 => (if z37.1 = 0 then some (0, z37.2) else (f_X8_here z37.2).bind fun v41 => (if v41 = 59 then some (1, (up z37.2 74 10 ((z37.2.1 74 10) + 1))) else some (0, z37.2))))) else (if v1 = 116 then (f_X8_readsKind (up S 74 10 ((S.1 74 10) + 1))).bind fun z44 => (if z44.1 = 0 then some (0, z44.2) else (f_X8_readsNumber 1 1 z44.2).bind fun z47 => (if z47.1 = 0 then some (0, z47.2) else (f_X8_here z47.2).bind fun v51 => (if v51 = 59 then some (1, (up z47.2 74 10 ((z47.2.1 74 10) + 1))) else some (0, z47.2)))) else (if v1 = 118 then (f_X8_readsNumber 0 1 (up S 74 10 ((S.1 74 10) + 1))).bind fun z54 => (if z54.1 = 0 then some (0, z54.2) else (f_X8_readsNumber 1 2 z54.2).bind fun z57 => (if z57.1 = 0 then some (0, z57.2) else (f_X8_readsNumber 2 2 z57.2).bind fun z60 => (if z60.1 = 0 then some (0, z60.2) else (f_X8_readsNumber 3 2 z60.2).bind fun z63 => (if z63.1 = 0 then some (0, z63.2) else (f_X8_here z63.2).bind fun v67 => (if v67 = 59 then some (1, (up z63.2 74 10 ((z63.2.1 74 10) + 1))) else some (0, z63.2)))))) else (if v1 = 121 then (f_X8_readsNumber 0 2 (up S 74 10 ((S.1 74 10) + 1))).bind fun z70 => (if z70.1 = 0 then some (0, z70.2) else (f_X8_here z70.2).bind fun v72 => (if v72 = 59 then some (1, (up z70.2 74 10 ((z70.2.1 74 10) + 1))) else some (0, z70.2))) else some (0, (up (up S 74 10 ((S.1 74 10) + 1)) 74 10 (((up S 74 10 ((S.1 74 10) + 1)).1 74 10) - 1))))))))))
def f_X8_turnsHalves (a1 : Int32) (a2 : Int32) (S : St) : Option St :=
  (if (124 + a1) < 0 ∨ 132 ≤ (124 + a1).toNatClampNeg then none else (if (124 + a1) < 0 ∨ 132 ≤ (124 + a1).toNatClampNeg then none else (if (124 + a2) < 0 ∨ 132 ≤ (124 + a2).toNatClampNeg then none else (if (124 + a2) < 0 ∨ 132 ≤ (124 + a2).toNatClampNeg then none else some (up (up S 75 (124 + a1).toNatClampNeg ((S.1 75 (124 + a1).toNatClampNeg) ^^^ (1 <<< (a2 &&& 31)))) 75 (124 + a2).toNatClampNeg (((up S 75 (124 + a1).toNatClampNeg ((S.1 75 (124 + a1).toNatClampNeg) ^^^ (1 <<< (a2 &&& 31)))).1 75 (124 + a2).toNatClampNeg) ^^^ (1 <<< (a1 &&& 31))))))))
def f_X8_canGlue (a1 : Int32) (S : St) : Option Int32 :=
  (if (20 + a1) < 0 ∨ 132 ≤ (20 + a1).toNatClampNeg then none else (if 0 ≤ (S.1 75 (20 + a1).toNatClampNeg) then some 0 else (f_X8_cost 75 a1 S).bind fun v3 => (if (S.1 75 2) < v3 then some 0 else some 1)))
def f_X8_gluesTo (a1 : Int32) (a2 : Int32) (a3 : Int32) (S : St) : Option (Int32 × St) :=
  (f_X8_yearOf 75 a1 a2 a3 S).bind fun v1 => (if (20 + a1) < 0 ∨ 132 ≤ (20 + a1).toNatClampNeg then none else (f_X8_cost 75 a1 (up S 75 (20 + a1).toNatClampNeg v1)).bind fun v3 => (if (20 + a1) < 0 ∨ 132 ≤ (20 + a1).toNatClampNeg then none else some ((up (up S 75 (20 + a1).toNatClampNeg v1) 75 2 (((up S 75 (20 + a1).toNatClampNeg v1).1 75 2) - v3)).1 75 (20 + a1).toNatClampNeg, (up (up S 75 (20 + a1).toNatClampNeg v1) 75 2 (((up S 75 (20 + a1).toNatClampNeg v1).1 75 2) - v3)))))
def f_X8_isDone_L225 (n : Nat) (x2 : Int32) (x4 : Int32) (S : St) (k259 : St → Option (Int32 × St)) : Option (Int32 × St) :=
  match n with
  | 0 => none
  | n + 1 => (if (S.1 82 2) < x4 then k259 S else (f_X8_at x2 x4).bind fun v9 => (if v9 < 0 ∨ 132 ≤ v9.toNatClampNeg then none else f_X8_isDone_L225 n x2 (x4 + 1) (up S 75 v9.toNatClampNeg (S.1 82 3)) k259))
def f_X8_isDone_L133 (n : Nat) (x4 : Int32) (S : St) (k163 : St → Option (Int32 × St)) : Option (Int32 × St) :=
  match n with
  | 0 => none
  | n + 1 => (if 12 ≤ x4 then k163 S else (f_X8_at (S.1 75 0) x4).bind fun v25 => (if v25 < 0 ∨ 132 ≤ v25.toNatClampNeg then none else f_X8_isDone_L133 n (x4 + 1) (up S 75 v25.toNatClampNeg 0) k163))
def f_X8_isDone (a1 : Int32) (S : St) : Option (Int32 × St) :=
  (if a1 = 100 then some (1, (up S 75 2 (S.1 82 0))) else (if a1 = 103 then (f_X8_isThing (S.1 82 0) S).bind fun v3 => (if v3 = 0 then some (0, S) else (if (S.1 82 2) < (S.1 82 1) then some (0, S) else (f_X8_isYear (S.1 82 2)).bind fun v6 => (if v6 = 0 then some (0, S) else f_X8_isDone_L225 2000 (S.1 82 0) (S.1 82 1) S (fun (S11 : St) => some (1, S11))))) else (if a1 = 104 then (f_X8_isThing (S.1 82 0) S).bind fun v13 => (if v13 = 0 then some (0, S) else (f_X8_isThing (S.1 82 1) S).bind fun v15 => (if v15 = 0 then some (0, S) else (if (S.1 82 0) = (S.1 82 1) then some (0, S) else (f_X8_turnsHalves (S.1 82 0) (S.1 82 1) S).bind fun S18 => some (1, S18)))) else (if a1 = 116 then (if (S.1 75 0) = 8 then some (0, S) else (if (4 + (S.1 75 0)) < 0 ∨ 132 ≤ (4 + (S.1 75 0)).toNatClampNeg then none else (if (12 + ((up S 75 (4 + (S.1 75 0)).toNatClampNeg (S.1 82 0)).1 75 0)) < 0 ∨ 132 ≤ (12 + ((up S 75 (4 + (S.1 75 0)).toNatClampNeg (S.1 82 0)).1 75 0)).toNatClampNeg then none else (if (20 + ((up (up S 75 (4 + (S.1 75 0)).toNatClampNeg (S.1 82 0)) 75 (12 + ((up S 75 (4 + (S.1 75 0)).toNatClampNeg (S.1 82 0)).1 75 0)).toNatClampNeg (S.1 82 1)).1 75 0)) < 0 ∨ 132 ≤ (20 + ((up (up S 75 (4 + (S.1 75 0)).toNatClampNeg (S.1 82 0)) 75 (12 + ((up S 75 (4 + (S.1 75 0)).toNatClampNeg (S.1 82 0)).1 75 0)).toNatClampNeg (S.1 82 1)).1 75 0)).toNatClampNeg then none else f_X8_isDone_L133 2000 0 (up (up (up S 75 (4 + (S.1 75 0)).toNatClampNeg (S.1 82 0)) 75 (12 + ((up S 75 (4 + (S.1 75 0)).toNatClampNeg (S.1 82 0)).1 75 0)).toNatClampNeg (S.1 82 1)) 75 (20 + ((up (up S 75 (4 + (S.1 75 0)).toNatClampNeg (S.1 82 0)) 75 (12 + ((up S 75 (4 + (S.1 75 0)).toNatClampNeg (S.1 82 0)).1 75 0)).toNatClampNeg (S.1 82 1)).1 75 0)).toNatClampNeg (-9)) (fun (S27 : St) => (if (124 + (S27.1 75 0)) < 0 ∨ 132 ≤ (124 + (S27.1 75 0)).toNatClampNeg then none else some (1, (up (up S27 75 (124 + (S27.1 75 0)).toNatClampNeg 0) 75 0 (((up S27 75 (124 + (S27.1 75 0)).toNatClampNeg 0).1 75 0) + 1))))))))) else (if a1 = 118 then (f_X8_isThing (S.1 82 0) S).bind fun v30 => (if v30 = 0 then some (0, S) else (if (S.1 82 2) < (S.1 82 1) then some (0, S) else (f_X8_isYear (S.1 82 2)).bind fun v33 => (if v33 = 0 then some (0, S) else f_X8_isDone_L225 2000 (S.1 82 0) (S.1 82 1) S (fun (S35 : St) => some (1, S35))))) else (if a1 = 121 then (f_X8_isYear (S.1 82 0)).bind fun v37 => some (v37, (up S 75 1 (S.1 82 0))) else (f_X8_isThing (S.1 82 0) S).bind fun v38 => (if v38 = 0 then some (0, S) else (f_X8_canGlue (S.1 82 0) S).bind fun v40 => (if v40 = 0 then some (0, S) else (f_X8_gluesTo (S.1 82 0) (S.1 82 1) (S.1 82 2) S).bind fun z42 => some (1, z42.2)))))))))
def f_X8_shop_L10 (n : Nat) (x1 : Int32) (x2 : Int32) (S : St) (k46 : Int32 → Int32 → St → Option (Int32 × St)) : Option (Int32 × St) :=
  match n with
  | 0 => none
  | n + 1 => (f_X8_readsStatement S).bind fun z1 => (if z1.1 = 0 then (if ((-1000) - (z1.2.1 74 10)) = (-9) then (if (z1.2.1 74 10) < (z1.2.1 74 8) then f_X8_shop_L10 n (x1 + 1) ((-1000) - (z1.2.1 74 10)) z1.2 k46 else k46 (x1 + 1) ((-1000) - (z1.2.1 74 10)) z1.2) else k46 (x1 + 1) ((-1000) - (z1.2.1 74 10)) z1.2) else (if x2 = (-9) then (if (z1.2.1 74 10) < (z1.2.1 74 8) then f_X8_shop_L10 n (x1 + 1) x2 z1.2 k46 else k46 (x1 + 1) x2 z1.2) else k46 (x1 + 1) x2 z1.2))
def f_X8_shop_L62 (n : Nat) (x1 : Int32) (x2 : Int32) (S : St) (k128 : Int32 → St → Option (Int32 × St)) : Option (Int32 × St) :=
  match n with
  | 0 => none
  | n + 1 => (if x2 = (-9) then (if (S.1 74 8) ≤ (S.1 74 10) then k128 x2 S else (f_X8_here S).bind fun v13 => (f_X8_readsStatement S).bind fun z14 => (f_X8_isDone v13 z14.2).bind fun z15 => (if z15.1 = 0 then (f_X8_lays 78 75 z15.2).bind fun S17 => f_X8_shop_L62 n x1 ((-2000) - (S.1 74 10)) S17 k128 else f_X8_shop_L62 n x1 x2 z15.2 k128)) else k128 x2 S)
def f_X8_shop  (S : St) : Option (Int32 × St) :=
  f_X8_shop_L10 2000 0 (-9) (up S 74 10 0) (fun (y7 : Int32) (y8 : Int32) (S9 : St) => (f_X8_lays 75 78 S9).bind fun S10 => f_X8_shop_L62 2000 y7 y8 (up S10 74 10 0) (fun (y18 : Int32) (S19 : St) => (if y18 = (-9) then some (y7, (up S19 74 8 0)) else some (y18, (up S19 74 8 0)))))
def f_X8_thing (a1 : Int32) (a2 : Int32) (S : St) : Option (Int32 × St) :=
  (f_X8_isThing a1 S).bind fun v1 => (if v1 = 0 then (f_X8_no (-1) S).bind fun z14 => some (z14.1, z14.2) else (if a2 = 0 then (if (4 + a1) < 0 ∨ 132 ≤ (4 + a1).toNatClampNeg then none else some (S.1 75 (4 + a1).toNatClampNeg, S)) else (if a2 = 1 then (if (12 + a1) < 0 ∨ 132 ≤ (12 + a1).toNatClampNeg then none else some (S.1 75 (12 + a1).toNatClampNeg, S)) else (if a2 = 2 then (if (20 + a1) < 0 ∨ 132 ≤ (20 + a1).toNatClampNeg then none else some (S.1 75 (20 + a1).toNatClampNeg, S)) else (if a2 = 3 then (f_X8_gladOf 75 a1 S).bind fun v10 => some (v10, S) else (if a2 = 4 then (f_X8_cost 75 a1 S).bind fun v12 => some (v12, S) else (f_X8_no (-2) S).bind fun z13 => some (z13.1, z13.2)))))))
def f_X8_glad (a1 : Int32) (a2 : Int32) (S : St) : Option (Int32 × St) :=
  (f_X8_isThing a1 S).bind fun v1 => (if v1 = 0 then (f_X8_no (-1) S).bind fun z3 => some (z3.1, z3.2) else (f_X8_isYear a2).bind fun v4 => (if v4 = 0 then (f_X8_no (-1) S).bind fun z6 => some (z6.1, z6.2) else (f_X8_at a1 a2).bind fun v7 => (if v7 < 0 ∨ 132 ≤ v7.toNatClampNeg then none else some (S.1 75 v7.toNatClampNeg, S))))
def f_X8_areTwo (a1 : Int32) (a2 : Int32) (S : St) : Option Int32 :=
  (f_X8_isThing a1 S).bind fun v1 => (if v1 = 0 then some 0 else (f_X8_isThing a2 S).bind fun v3 => (if v3 = 0 then some 0 else (if a1 = a2 then some 0 else some 1)))
def f_X8_halves (a1 : Int32) (a2 : Int32) (S : St) : Option (Int32 × St) :=
  (f_X8_areTwo a1 a2 S).bind fun v1 => (if v1 = 0 then (f_X8_no (-1) S).bind fun z3 => some (z3.1, z3.2) else (if (124 + a1) < 0 ∨ 132 ≤ (124 + a1).toNatClampNeg then none else some (((S.1 75 (124 + a1).toNatClampNeg) >>> (a2 &&& 31)) &&& 1, S)))
def f_X8_turn (a1 : Int32) (a2 : Int32) (a3 : Int32) (S : St) : Option (Int32 × St) :=
  (f_X8_isThing a1 S).bind fun v1 => (if v1 = 0 then (f_X8_no (-1) S).bind fun z14 => some (z14.1, z14.2) else (f_X8_isIn a2 0 5).bind fun v3 => (if v3 = 0 then (f_X8_no (-2) S).bind fun z13 => some (z13.1, z13.2) else (if 0 ≤ a3 then (if a3 ≤ 9 then (if (4 + a1) < 0 ∨ 132 ≤ (4 + a1).toNatClampNeg then none else (if (12 + a1) < 0 ∨ 132 ≤ (12 + a1).toNatClampNeg then none else (if (4 + a1) < 0 ∨ 132 ≤ (4 + a1).toNatClampNeg then none else (if (12 + a1) < 0 ∨ 132 ≤ (12 + a1).toNatClampNeg then none else some ((10 * (S.1 75 (4 + a1).toNatClampNeg)) + (S.1 75 (12 + a1).toNatClampNeg), (up (up S 75 (4 + a1).toNatClampNeg a2) 75 (12 + a1).toNatClampNeg a3)))))) else (f_X8_no (-6) S).bind fun z11 => some (z11.1, z11.2)) else (f_X8_no (-4) S).bind fun z12 => some (z12.1, z12.2))))
def f_X8_makes (a1 : Int32) (a2 : Int32) (a3 : Int32) (S : St) : Option (Int32 × St) :=
  (f_X8_isThing a1 S).bind fun v1 => (if v1 = 0 then (f_X8_no (-1) S).bind fun z3 => some (z3.1, z3.2) else (f_X8_isYear a2).bind fun v4 => (if v4 = 0 then (f_X8_no (-1) S).bind fun z14 => some (z14.1, z14.2) else (if 0 ≤ a3 then (if a3 ≤ 99 then (f_X8_at a1 a2).bind fun v8 => (if v8 < 0 ∨ 132 ≤ v8.toNatClampNeg then none else (f_X8_at a1 a2).bind fun v10 => (if v10 < 0 ∨ 132 ≤ v10.toNatClampNeg then none else some (S.1 75 v8.toNatClampNeg, (up S 75 v10.toNatClampNeg a3)))) else (f_X8_no (-6) S).bind fun z12 => some (z12.1, z12.2)) else (f_X8_no (-4) S).bind fun z13 => some (z13.1, z13.2))))
def f_X8_pairs (a1 : Int32) (a2 : Int32) (S : St) : Option (Int32 × St) :=
  (f_X8_areTwo a1 a2 S).bind fun v1 => (if v1 = 0 then (f_X8_no (-1) S).bind fun z5 => some (z5.1, z5.2) else (f_X8_turnsHalves a1 a2 S).bind fun S3 => (if (124 + a1) < 0 ∨ 132 ≤ (124 + a1).toNatClampNeg then none else some (((S3.1 75 (124 + a1).toNatClampNeg) >>> (a2 &&& 31)) &&& 1, S3)))
def f_X8_now (a1 : Int32) (S : St) : Option (Int32 × St) :=
  (f_X8_isYear a1).bind fun v1 => (if v1 = 0 then (f_X8_no (-1) S).bind fun z3 => some (z3.1, z3.2) else some (S.1 75 1, (up S 75 1 a1)))
def f_X8_hands (a1 : Int32) (S : St) : Option (Int32 × St) :=
  (if 1 ≤ a1 then (if a1 ≤ 4 then some (S.1 75 3, (up S 75 3 a1)) else (f_X8_no (-6) S).bind fun z3 => some (z3.1, z3.2)) else (f_X8_no (-4) S).bind fun z4 => some (z4.1, z4.2))
def f_X8_pours (a1 : Int32) (S : St) : Option (Int32 × St) :=
  (if 0 ≤ a1 then (if a1 ≤ 99 then some (S.1 75 2, (up S 75 2 a1)) else (f_X8_no (-6) S).bind fun z3 => some (z3.1, z3.2)) else (f_X8_no (-4) S).bind fun z4 => some (z4.1, z4.2))
def f_X8_wrongGlue (a1 : Int32) (a2 : Int32) (a3 : Int32) (S : St) : Option Int32 :=
  (f_X8_isThing a1 S).bind fun v1 => (if v1 = 0 then some (-1) else (if a2 < 0 then some (-4) else (if 0 ≤ a3 then (if 99 < a2 then some (-6) else (if a3 ≤ 9 then some 0 else some (-6))) else some (-4))))
def f_X8_glues (a1 : Int32) (a2 : Int32) (a3 : Int32) (S : St) : Option (Int32 × St) :=
  (f_X8_wrongGlue a1 a2 a3 S).bind fun v1 => (if v1 = 0 then (f_X8_canGlue a1 S).bind fun v6 => (if v6 = 0 then (f_X8_no (-3) S).bind fun z12 => some (z12.1, z12.2) else (if v1 = 0 then (f_X8_gluesTo a1 a2 a3 S).bind fun z9 => some (z9.1, z9.2) else (f_X8_no v1 S).bind fun z10 => some (z10.1, z10.2))) else (if v1 = 0 then (f_X8_gluesTo a1 a2 a3 S).bind fun z4 => some (z4.1, z4.2) else (f_X8_no v1 S).bind fun z5 => some (z5.1, z5.2)))
def f_X8_washes (a1 : Int32) (S : St) : Option (Int32 × St) :=
  (f_X8_isThing a1 S).bind fun v1 => (if v1 = 0 then (f_X8_no (-1) S).bind fun z7 => some (z7.1, z7.2) else (if (20 + a1) < 0 ∨ 132 ≤ (20 + a1).toNatClampNeg then none else (if 0 ≤ (S.1 75 (20 + a1).toNatClampNeg) then (if (20 + a1) < 0 ∨ 132 ≤ (20 + a1).toNatClampNeg then none else some (S.1 75 (20 + a1).toNatClampNeg, (up S 75 (20 + a1).toNatClampNeg (-9)))) else (f_X8_no (-3) S).bind fun z6 => some (z6.1, z6.2))))
def f_X8_would (a1 : Int32) (a2 : Int32) (a3 : Int32) (a4 : Int32) (S : St) : Option (Int32 × St) :=
  (f_X8_wrongGlue a1 a2 a3 S).bind fun v1 => (if v1 = 0 then (f_X8_isIn a4 0 2).bind fun v11 => (if v11 = 0 then (f_X8_no (-2) S).bind fun z22 => some (z22.1, z22.2) else (if v1 = 0 then (f_X8_yearOf 75 a1 a2 a3 S).bind fun v14 => (if a4 = 0 then some (v14, S) else (if a4 = 1 then (f_X8_reach 75 a1 a2 a3 S).bind fun v19 => some (v19, S) else (f_X8_at a1 v14).bind fun v17 => (if v17 < 0 ∨ 132 ≤ v17.toNatClampNeg then none else some (S.1 75 v17.toNatClampNeg, S)))) else (f_X8_no v1 S).bind fun z20 => some (z20.1, z20.2))) else (if v1 = 0 then (f_X8_yearOf 75 a1 a2 a3 S).bind fun v4 => (if a4 = 0 then some (v4, S) else (if a4 = 1 then (f_X8_reach 75 a1 a2 a3 S).bind fun v9 => some (v9, S) else (f_X8_at a1 v4).bind fun v7 => (if v7 < 0 ∨ 132 ≤ v7.toNatClampNeg then none else some (S.1 75 v7.toNatClampNeg, S)))) else (f_X8_no v1 S).bind fun z10 => some (z10.1, z10.2)))
def f_X8_canOf_L4 (n : Nat) (q0 : Nat) (x1 : Int32) (x2 : Int32) (x3 : Int32) (S : St) (k28 : Int32 → Option Int32) : Option Int32 :=
  match n with
  | 0 => none
  | n + 1 => (if 99 < x3 then k28 x2 else (f_X8_yearOf q0 x1 x3 0 S).bind fun v2 => f_X8_canOf_L4 n q0 x1 (x2 ||| (1 <<< (v2 &&& 31))) (x3 + 5) S k28)
def f_X8_canOf (q0 : Nat) (a1 : Int32) (S : St) : Option Int32 :=
  f_X8_canOf_L4 2000 q0 a1 0 0 S (fun (y3 : Int32) => some y3)
def f_X8_can (a1 : Int32) (S : St) : Option (Int32 × St) :=
  (f_X8_isThing a1 S).bind fun v1 => (if v1 = 0 then (f_X8_no (-1) S).bind fun z3 => some (z3.1, z3.2) else (f_X8_canOf 75 a1 S).bind fun v4 => some (v4, S))
def f_X8_fewest (a1 : Int32) (a2 : Int32) (S : St) : Option (Int32 × St) :=
  (f_X8_isThing a1 S).bind fun v1 => (if v1 = 0 then (f_X8_no (-1) S).bind fun z3 => some (z3.1, z3.2) else (f_X8_isYear a2).bind fun v4 => (if v4 = 0 then (f_X8_no (-1) S).bind fun z6 => some (z6.1, z6.2) else (f_X8_fewestOf 75 a1 a2 S).bind fun v7 => some (v7, S)))
def f_X8_gladness  (S : St) : Option Int32 :=
  (f_X8_gladAll 75 S).bind fun v1 => some v1
def f_X8_doAgree (q1 : Nat) (a2 : Int32) (a3 : Int32) (S : St) : Option Int32 :=
  (if (20 + a2) < 0 ∨ 132 ≤ (20 + a2).toNatClampNeg then none else (if (S.1 q1 (20 + a2).toNatClampNeg) < 0 then some 0 else (if (20 + a2) < 0 ∨ 132 ≤ (20 + a2).toNatClampNeg then none else (if (20 + a3) < 0 ∨ 132 ≤ (20 + a3).toNatClampNeg then none else (if (S.1 q1 (20 + a2).toNatClampNeg) = (S.1 q1 (20 + a3).toNatClampNeg) then some 1 else some 0)))))
def f_X8_agreeMany_L16 (n : Nat) (q1 : Nat) (x2 : Int32) (x3 : Int32) (x4 : Int32) (S : St) (k64 : Int32 → Option Int32) : Option Int32 :=
  match n with
  | 0 => none
  | n + 1 => (if (S.1 q1 0) ≤ x4 then k64 x2 else (if (124 + x3) < 0 ∨ 132 ≤ (124 + x3).toNatClampNeg then none else (if (((S.1 q1 (124 + x3).toNatClampNeg) >>> (x4 &&& 31)) &&& 1) = 1 then (f_X8_doAgree q1 x3 x4 S).bind fun v5 => (if v5 = 0 then f_X8_agreeMany_L16 n q1 (x2 + 0) x3 (x4 + 1) S k64 else f_X8_agreeMany_L16 n q1 (x2 + 1) x3 (x4 + 1) S k64) else f_X8_agreeMany_L16 n q1 (x2 + 0) x3 (x4 + 1) S k64)))
def f_X8_agreeMany_L4 (n : Nat) (q1 : Nat) (x2 : Int32) (x3 : Int32) (S : St) (k70 : Int32 → Option Int32) : Option Int32 :=
  match n with
  | 0 => none
  | n + 1 => (if (S.1 q1 0) ≤ x3 then k70 x2 else f_X8_agreeMany_L16 2000 q1 x2 x3 (x3 + 1) S (fun (y7 : Int32) => f_X8_agreeMany_L4 n q1 y7 (x3 + 1) S k70))
def f_X8_agreeMany (q1 : Nat) (S : St) : Option Int32 :=
  f_X8_agreeMany_L4 2000 q1 0 0 S (fun (y8 : Int32) => some y8)
def f_X8_agree_L45 (n : Nat) (x2 : Int32) (x3 : Int32) (S : St) (k85 : Int32 → Option (Int32 × St)) (k98 : Unit → Option (Int32 × St)) : Option (Int32 × St) :=
  match n with
  | 0 => none
  | n + 1 => (if (S.1 75 0) ≤ x3 then k98 () else (if (124 + x2) < 0 ∨ 132 ≤ (124 + x2).toNatClampNeg then none else (if (((S.1 75 (124 + x2).toNatClampNeg) >>> (x3 &&& 31)) &&& 1) = 1 then (f_X8_doAgree 75 x2 x3 S).bind fun v8 => (if v8 = 0 then k85 x3 else f_X8_agree_L45 n x2 (x3 + 1) S k85 k98) else f_X8_agree_L45 n x2 (x3 + 1) S k85 k98)))
def f_X8_agree_L31 (n : Nat) (x2 : Int32) (S : St) (k85 : Int32 → Int32 → Option (Int32 × St)) (k104 : Unit → Option (Int32 × St)) : Option (Int32 × St) :=
  match n with
  | 0 => none
  | n + 1 => (if (S.1 75 0) ≤ x2 then k104 () else f_X8_agree_L45 2000 x2 (x2 + 1) S (fun (y10 : Int32) => k85 x2 y10) (fun _ : Unit => f_X8_agree_L31 n (x2 + 1) S k85 k104))
def f_X8_agree (a1 : Int32) (S : St) : Option (Int32 × St) :=
  (f_X8_isIn a1 0 1).bind fun v1 => (if v1 = 0 then (f_X8_no (-2) S).bind fun z14 => some (z14.1, z14.2) else (if a1 = 0 then (f_X8_agreeMany 75 S).bind fun v13 => some (v13, S) else f_X8_agree_L31 2000 0 S (fun (y11 : Int32) (y12 : Int32) => some ((10 * y11) + y12, S)) (fun _ : Unit => some ((-9), S))))
def f_X8_mostBy_L104 (n : Nat) (q1 : Nat) (x2 : Int32) (x3 : Int32) (x4 : Int32) (x5 : Int32) (x6 : Int32) (x7 : Int32) (x8 : Int32) (x9 : Int32) (x10 : Int32) (x11 : Int32) (S : St) (k149 : Int32 → Option (Int32 × St)) : Option (Int32 × St) :=
  match n with
  | 0 => none
  | n + 1 => (if 12 ≤ x11 then k149 x10 else (if ((x9 >>> (x11 &&& 31)) &&& 1) = 1 then (f_X8_at x8 x11).bind fun v10 => (if v10 < 0 ∨ 132 ≤ v10.toNatClampNeg then none else (f_X8_most x10 (S.1 q1 v10.toNatClampNeg)).bind fun v12 => f_X8_mostBy_L104 n q1 x2 x3 x4 x5 x6 x7 x8 x9 v12 (x11 + 1) S k149) else f_X8_mostBy_L104 n q1 x2 x3 x4 x5 x6 x7 x8 x9 x10 (x11 + 1) S k149))
def f_X8_mostBy_L27 (n : Nat) (q1 : Nat) (x2 : Int32) (x3 : Int32) (x4 : Int32) (x5 : Int32) (x6 : Int32) (x7 : Int32) (x8 : Int32) (S : St) (k162 : Int32 → Int32 → Int32 → Option (Int32 × St)) : Option (Int32 × St) :=
  match n with
  | 0 => none
  | n + 1 => (if (S.1 q1 0) ≤ x8 then k162 x5 x6 x7 else (if ((x4 >>> (x8 &&& 31)) &&& 1) = 0 then (f_X8_gladOf q1 x8 S).bind fun v17 => f_X8_mostBy_L27 n q1 x2 x3 x4 x5 (x6 + v17) x7 (x8 + 1) S k162 else (if (20 + x8) < 0 ∨ 132 ≤ (20 + x8).toNatClampNeg then none else (if 0 ≤ (S.1 q1 (20 + x8).toNatClampNeg) then (f_X8_cost q1 x8 S).bind fun v6 => (f_X8_canOf q1 x8 S).bind fun v7 => f_X8_mostBy_L104 2000 q1 x2 x3 x4 (x5 - v6) x6 (x7 &&& 0) x8 v7 0 0 S (fun (y13 : Int32) => f_X8_mostBy_L27 n q1 x2 x3 x4 (x5 - v6) (x6 + y13) (x7 &&& 0) (x8 + 1) S k162) else (f_X8_cost q1 x8 S).bind fun v14 => (f_X8_canOf q1 x8 S).bind fun v15 => f_X8_mostBy_L104 2000 q1 x2 x3 x4 (x5 - v14) x6 (x7 &&& 1) x8 v15 0 0 S (fun (y16 : Int32) => f_X8_mostBy_L27 n q1 x2 x3 x4 (x5 - v14) (x6 + y16) (x7 &&& 1) (x8 + 1) S k162)))))
def f_X8_mostBy_L5 (n : Nat) (q1 : Nat) (x2 : Int32) (x3 : Int32) (x4 : Int32) (S : St) (k196 : Int32 → St → Option (Int32 × St)) : Option (Int32 × St) :=
  match n with
  | 0 => none
  | n + 1 => (if (1 <<< ((S.1 q1 0) &&& 31)) ≤ x4 then k196 x3 S else f_X8_mostBy_L27 2000 q1 x2 x3 x4 x2 0 1 0 S (fun (y18 : Int32) (y19 : Int32) (y20 : Int32) => (if y20 = 0 then f_X8_mostBy_L5 n q1 x2 x3 (x4 + 1) S k196 else (if y18 < 0 then f_X8_mostBy_L5 n q1 x2 x3 (x4 + 1) S k196 else (if x3 < y19 then f_X8_mostBy_L5 n q1 x2 y19 (x4 + 1) (up S 74 12 x4) k196 else f_X8_mostBy_L5 n q1 x2 x3 (x4 + 1) S k196)))))
def f_X8_mostBy (q1 : Nat) (a2 : Int32) (S : St) : Option (Int32 × St) :=
  f_X8_mostBy_L5 2000 q1 a2 (-1) 0 S (fun (y24 : Int32) (S25 : St) => some (y24, S25))
def f_X8_most_ (a1 : Int32) (S : St) : Option (Int32 × St) :=
  (f_X8_isIn a1 0 1).bind fun v1 => (if v1 = 0 then (f_X8_no (-2) S).bind fun z5 => some (z5.1, z5.2) else (f_X8_mostBy 75 (S.1 75 2) S).bind fun z3 => (if a1 = 0 then some (z3.1, z3.2) else some (z3.2.1 74 12, z3.2)))
def f_X8_byMinutes_L26 (n : Nat) (x1 : Int32) (x2 : Int32) (S : St) (k44 : St → Option (Int32 × St)) : Option (Int32 × St) :=
  match n with
  | 0 => none
  | n + 1 => (if x1 < x2 then k44 S else (if x2 < 0 ∨ 100 ≤ x2.toNatClampNeg then none else f_X8_byMinutes_L26 n x1 (x2 + 1) (up S 83 x2.toNatClampNeg 0) k44))
def f_X8_byMinutes_L87 (n : Nat) (x1 : Int32) (x2 : Int32) (x3 : Int32) (x4 : Int32) (S : St) (k156 : St → Option (Int32 × St)) : Option (Int32 × St) :=
  match n with
  | 0 => none
  | n + 1 => (if x3 < x4 then k156 S else (if (20 + x2) < 0 ∨ 132 ≤ (20 + x2).toNatClampNeg then none else (if 0 ≤ (S.1 75 (20 + x2).toNatClampNeg) then k156 S else (if x3 < 0 ∨ 100 ≤ x3.toNatClampNeg then none else (if (x3 - x4) < 0 ∨ 100 ≤ (x3 - x4).toNatClampNeg then none else (f_X8_yearOf 75 x2 x4 0 S).bind fun v16 => (f_X8_at x2 v16).bind fun v17 => (if v17 < 0 ∨ 132 ≤ v17.toNatClampNeg then none else (f_X8_most (S.1 84 x3.toNatClampNeg) ((S.1 83 (x3 - x4).toNatClampNeg) + (S.1 75 v17.toNatClampNeg))).bind fun v19 => (if x3 < 0 ∨ 100 ≤ x3.toNatClampNeg then none else f_X8_byMinutes_L87 n x1 x2 x3 (x4 + 1) (up S 84 x3.toNatClampNeg v19) k156)))))))
def f_X8_byMinutes_L58 (n : Nat) (x1 : Int32) (x2 : Int32) (x3 : Int32) (S : St) (k162 : St → Option (Int32 × St)) : Option (Int32 × St) :=
  match n with
  | 0 => none
  | n + 1 => (if x1 < x3 then k162 S else (if x3 < 0 ∨ 100 ≤ x3.toNatClampNeg then none else (f_X8_gladOf 75 x2 S).bind fun v9 => (if x3 < 0 ∨ 100 ≤ x3.toNatClampNeg then none else f_X8_byMinutes_L87 2000 x1 x2 x3 0 (up S 84 x3.toNatClampNeg ((S.1 83 x3.toNatClampNeg) + v9)) (fun (S21 : St) => f_X8_byMinutes_L58 n x1 x2 (x3 + 1) S21 k162))))
def f_X8_byMinutes_L164 (n : Nat) (x1 : Int32) (x2 : Int32) (x3 : Int32) (S : St) (k187 : St → Option (Int32 × St)) : Option (Int32 × St) :=
  match n with
  | 0 => none
  | n + 1 => (if x1 < x3 then k187 S else (if x3 < 0 ∨ 100 ≤ x3.toNatClampNeg then none else (if x3 < 0 ∨ 100 ≤ x3.toNatClampNeg then none else f_X8_byMinutes_L164 n x1 x2 (x3 + 1) (up S 83 x3.toNatClampNeg (S.1 84 x3.toNatClampNeg)) k187)))
def f_X8_byMinutes_L46 (n : Nat) (x1 : Int32) (x2 : Int32) (S : St) (k193 : St → Option (Int32 × St)) : Option (Int32 × St) :=
  match n with
  | 0 => none
  | n + 1 => (if (S.1 75 0) ≤ x2 then k193 S else f_X8_byMinutes_L58 2000 x1 x2 0 S (fun (S22 : St) => f_X8_byMinutes_L164 2000 x1 x2 0 S22 (fun (S26 : St) => f_X8_byMinutes_L46 n x1 (x2 + 1) S26 k193)))
def f_X8_byMinutes (a1 : Int32) (S : St) : Option (Int32 × St) :=
  (if 0 ≤ a1 then (if a1 ≤ 99 then f_X8_byMinutes_L26 2000 a1 0 S (fun (S5 : St) => f_X8_byMinutes_L46 2000 a1 0 S5 (fun (S27 : St) => (if a1 < 0 ∨ 100 ≤ a1.toNatClampNeg then none else some (S27.1 83 a1.toNatClampNeg, S27)))) else (f_X8_no (-6) S).bind fun z29 => some (z29.1, z29.2)) else (f_X8_no (-4) S).bind fun z30 => some (z30.1, z30.2))
def f_X8_fewDrops_L13 (n : Nat) (x1 : Int32) (x2 : Int32) (S : St) (k32 : Int32 → St → Option (Int32 × St)) (k40 : St → Option (Int32 × St)) : Option (Int32 × St) :=
  match n with
  | 0 => none
  | n + 1 => (if 99 < x2 then k40 S else (f_X8_mostBy 75 x2 S).bind fun z3 => (if z3.1 = x1 then k32 x2 z3.2 else f_X8_fewDrops_L13 n x1 (x2 + 1) z3.2 k32 k40))
def f_X8_fewDrops  (S : St) : Option (Int32 × St) :=
  (f_X8_mostBy 75 99 S).bind fun z1 => f_X8_fewDrops_L13 2000 z1.1 0 z1.2 (fun (y5 : Int32) (S6 : St) => some (y5, S6)) (fun (S7 : St) => some ((-9), S7))
def f_X8_together_L73 (n : Nat) (x1 : Int32) (x2 : Int32) (x3 : Int32) (x4 : Int32) (x5 : Int32) (x6 : Int32) (S : St) (k144 : Int32 → Int32 → Option (Int32 × St)) : Option (Int32 × St) :=
  match n with
  | 0 => none
  | n + 1 => (if 12 ≤ x6 then k144 x4 x5 else (f_X8_fewestOf 75 x1 x6 S).bind fun v11 => (f_X8_fewestOf 75 x2 x6 S).bind fun v12 => (if v11 < 0 then f_X8_together_L73 n x1 x2 x3 x4 x5 (x6 + 1) S k144 else (if v12 < 0 then f_X8_together_L73 n x1 x2 x3 x4 x5 (x6 + 1) S k144 else (if (v11 + v12) < x5 then f_X8_together_L73 n x1 x2 x3 x6 (v11 + v12) (x6 + 1) S k144 else f_X8_together_L73 n x1 x2 x3 x4 x5 (x6 + 1) S k144))))
def f_X8_together (a1 : Int32) (a2 : Int32) (a3 : Int32) (S : St) : Option (Int32 × St) :=
  (f_X8_areTwo a1 a2 S).bind fun v1 => (if v1 = 0 then (f_X8_no (-1) S).bind fun z22 => some (z22.1, z22.2) else (f_X8_isIn a3 0 1).bind fun v3 => (if v3 = 0 then (f_X8_no (-2) S).bind fun z21 => some (z21.1, z21.2) else (if (20 + a1) < 0 ∨ 132 ≤ (20 + a1).toNatClampNeg then none else (if 0 ≤ (S.1 75 (20 + a1).toNatClampNeg) then (f_X8_no (-3) S).bind fun z7 => some (z7.1, z7.2) else (if (20 + a2) < 0 ∨ 132 ≤ (20 + a2).toNatClampNeg then none else (if (S.1 75 (20 + a2).toNatClampNeg) < 0 then f_X8_together_L73 2000 a1 a2 a3 (-9) 1000000000 0 S (fun (y16 : Int32) (y17 : Int32) => (if y16 < 0 then some (y16, S) else (if a3 = 1 then some (y16, S) else some (y17, S)))) else (f_X8_no (-3) S).bind fun z20 => some (z20.1, z20.2)))))))
def f_X8_gladdest_L14 (n : Nat) (x1 : Int32) (x2 : Int32) (x3 : Int32) (S : St) (k49 : Int32 → Option Int32) : Option Int32 :=
  match n with
  | 0 => none
  | n + 1 => (if x3 < 0 then k49 x2 else (f_X8_at x1 x3).bind fun v2 => (if v2 < 0 ∨ 132 ≤ v2.toNatClampNeg then none else (f_X8_at x1 x2).bind fun v4 => (if v4 < 0 ∨ 132 ≤ v4.toNatClampNeg then none else (if (S.1 75 v2.toNatClampNeg) ≤ (S.1 75 v4.toNatClampNeg) then f_X8_gladdest_L14 n x1 x2 (x3 + (-1)) S k49 else f_X8_gladdest_L14 n x1 x3 (x3 + (-1)) S k49))))
def f_X8_gladdest (a1 : Int32) (S : St) : Option Int32 :=
  f_X8_gladdest_L14 2000 a1 (S.1 75 1) (S.1 75 1) S (fun (y7 : Int32) => some y7)
def f_X8_queue_L26 (n : Nat) (x1 : Int32) (x3 : Int32) (S : St) (k41 : St → Option (Int32 × St)) : Option (Int32 × St) :=
  match n with
  | 0 => none
  | n + 1 => (if 4 ≤ x3 then k41 S else (if x3 < 0 ∨ 100 ≤ x3.toNatClampNeg then none else f_X8_queue_L26 n x1 (x3 + 1) (up S 83 x3.toNatClampNeg 0) k41))
def f_X8_queue_L110 (n : Nat) (x1 : Int32) (x3 : Int32) (x4 : Int32) (x5 : Int32) (x6 : Int32) (x7 : Int32) (x8 : Int32) (S : St) (k142 : Int32 → Option (Int32 × St)) : Option (Int32 × St) :=
  match n with
  | 0 => none
  | n + 1 => (if (S.1 75 3) ≤ x8 then k142 x7 else (if x8 < 0 ∨ 100 ≤ x8.toNatClampNeg then none else (if x7 < 0 ∨ 100 ≤ x7.toNatClampNeg then none else (if (S.1 83 x7.toNatClampNeg) ≤ (S.1 83 x8.toNatClampNeg) then f_X8_queue_L110 n x1 x3 x4 x5 x6 x7 (x8 + 1) S k142 else f_X8_queue_L110 n x1 x3 x4 x5 x6 x8 (x8 + 1) S k142))))
def f_X8_queue_L50 (n : Nat) (x1 : Int32) (x3 : Int32) (x4 : Int32) (x5 : Int32) (S : St) (k178 : Int32 → Int32 → St → Option (Int32 × St)) : Option (Int32 × St) :=
  match n with
  | 0 => none
  | n + 1 => (if (S.1 75 0) ≤ x5 then k178 x3 x4 S else (if (20 + x5) < 0 ∨ 132 ≤ (20 + x5).toNatClampNeg then none else (if (S.1 75 (20 + x5).toNatClampNeg) < 0 then (f_X8_gladdest x5 S).bind fun v8 => (f_X8_fewestOf 75 x5 v8 S).bind fun v9 => (if 0 ≤ v9 then f_X8_queue_L110 2000 x1 x3 x4 x5 v9 0 1 S (fun (y15 : Int32) => (if x5 = x1 then (if y15 < 0 ∨ 100 ≤ y15.toNatClampNeg then none else (if y15 < 0 ∨ 100 ≤ y15.toNatClampNeg then none else (if y15 < 0 ∨ 100 ≤ y15.toNatClampNeg then none else (if y15 < 0 ∨ 100 ≤ y15.toNatClampNeg then none else (f_X8_most x3 ((up S 83 y15.toNatClampNeg ((S.1 83 y15.toNatClampNeg) + v9)).1 83 y15.toNatClampNeg)).bind fun v25 => f_X8_queue_L50 n x1 v25 (S.1 83 y15.toNatClampNeg) (x5 + 1) (up S 83 y15.toNatClampNeg ((S.1 83 y15.toNatClampNeg) + v9)) k178)))) else (if y15 < 0 ∨ 100 ≤ y15.toNatClampNeg then none else (if y15 < 0 ∨ 100 ≤ y15.toNatClampNeg then none else (if y15 < 0 ∨ 100 ≤ y15.toNatClampNeg then none else (f_X8_most x3 ((up S 83 y15.toNatClampNeg ((S.1 83 y15.toNatClampNeg) + v9)).1 83 y15.toNatClampNeg)).bind fun v20 => f_X8_queue_L50 n x1 v20 x4 (x5 + 1) (up S 83 y15.toNatClampNeg ((S.1 83 y15.toNatClampNeg) + v9)) k178))))) else f_X8_queue_L50 n x1 x3 x4 (x5 + 1) S k178) else f_X8_queue_L50 n x1 x3 x4 (x5 + 1) S k178)))
def f_X8_queue (a1 : Int32) (S : St) : Option (Int32 × St) :=
  (if a1 = (-1) then f_X8_queue_L26 2000 a1 0 S (fun (S4 : St) => f_X8_queue_L50 2000 a1 0 (-9) 0 S4 (fun (y27 : Int32) (y28 : Int32) (S29 : St) => (if 0 ≤ a1 then some (y28, S29) else some (y27, S29)))) else (f_X8_isThing a1 S).bind fun v31 => (if v31 = 0 then (f_X8_no (-1) S).bind fun z38 => some (z38.1, z38.2) else f_X8_queue_L26 2000 a1 0 S (fun (S33 : St) => f_X8_queue_L50 2000 a1 0 (-9) 0 S33 (fun (y34 : Int32) (y35 : Int32) (S36 : St) => (if 0 ≤ a1 then some (y35, S36) else some (y34, S36))))))
def f_X8_oneMore  (S : St) : Option (Int32 × St) :=
  (f_X8_lays 75 76 S).bind fun S1 => (f_X8_least 11 ((S1.1 75 1) + 1)).bind fun v2 => (f_X8_gladAll 76 (up S1 76 1 v2)).bind fun v3 => some (v3, (up S1 76 1 v2))
def f_X8_bestYear_L6 (n : Nat) (x1 : Int32) (x2 : Int32) (x3 : Int32) (S : St) (k66 : Int32 → St → Option (Int32 × St)) : Option (Int32 × St) :=
  match n with
  | 0 => none
  | n + 1 => (if 12 ≤ x3 then k66 x1 S else (f_X8_lays 75 76 S).bind fun S2 => (f_X8_mostBy 76 ((up S2 76 1 x3).1 76 2) (up S2 76 1 x3)).bind fun z3 => (if x2 < z3.1 then f_X8_bestYear_L6 n x3 z3.1 (x3 + 1) z3.2 k66 else f_X8_bestYear_L6 n x1 x2 (x3 + 1) z3.2 k66))
def f_X8_bestYear  (S : St) : Option (Int32 × St) :=
  f_X8_bestYear_L6 2000 0 (-1) 0 S (fun (y5 : Int32) (S6 : St) => some (y5, S6))
def f_X8_waterOf (a1 : Int32) (S : St) : Option Int32 :=
  (f_X8_at a1 (S.1 75 1)).bind fun v1 => (if v1 < 0 ∨ 132 ≤ v1.toNatClampNeg then none else (f_X8_gladOf 75 a1 S).bind fun v3 => some ((S.1 75 v1.toNatClampNeg) - v3))
def f_X8_water (a1 : Int32) (S : St) : Option (Int32 × St) :=
  (f_X8_isThing a1 S).bind fun v1 => (if v1 = 0 then (f_X8_noFar (-1) S).bind fun z7 => some (z7.1, z7.2) else (if (20 + a1) < 0 ∨ 132 ≤ (20 + a1).toNatClampNeg then none else (if 0 ≤ (S.1 75 (20 + a1).toNatClampNeg) then (f_X8_waterOf a1 S).bind fun v5 => some (v5, S) else (f_X8_noFar (-3) S).bind fun z6 => some (z6.1, z6.2))))
def f_X8_bestWash_L7 (n : Nat) (x1 : Int32) (x2 : Int32) (x3 : Int32) (S : St) (k43 : Int32 → Option Int32) : Option Int32 :=
  match n with
  | 0 => none
  | n + 1 => (if (S.1 75 0) ≤ x3 then k43 x1 else (f_X8_waterOf x3 S).bind fun v2 => (if x2 < v2 then (f_X8_waterOf x3 S).bind fun v4 => f_X8_bestWash_L7 n x3 v4 (x3 + 1) S k43 else f_X8_bestWash_L7 n x1 x2 (x3 + 1) S k43))
def f_X8_bestWash  (S : St) : Option Int32 :=
  f_X8_bestWash_L7 2000 (-9) 0 0 S (fun (y5 : Int32) => some y5)
def f_X8_sour_L4 (n : Nat) (x1 : Int32) (x2 : Int32) (S : St) (k38 : Int32 → Option Int32) : Option Int32 :=
  match n with
  | 0 => none
  | n + 1 => (if (S.1 75 0) ≤ x2 then k38 x1 else (f_X8_waterOf x2 S).bind fun v2 => (if v2 ≤ 0 then f_X8_sour_L4 n (x1 ||| 0) (x2 + 1) S k38 else f_X8_sour_L4 n (x1 ||| (1 <<< (x2 &&& 31))) (x2 + 1) S k38))
def f_X8_sour  (S : St) : Option Int32 :=
  f_X8_sour_L4 2000 0 0 S (fun (y4 : Int32) => some y4)
def f_X8_regret (a1 : Int32) (S : St) : Option (Int32 × St) :=
  (f_X8_isThing a1 S).bind fun v1 => (if v1 = 0 then (f_X8_no (-1) S).bind fun z3 => some (z3.1, z3.2) else (f_X8_gladdest a1 S).bind fun v4 => (f_X8_at a1 v4).bind fun v5 => (if v5 < 0 ∨ 132 ≤ v5.toNatClampNeg then none else (f_X8_gladOf 75 a1 S).bind fun v7 => (f_X8_most 0 ((S.1 75 v5.toNatClampNeg) - v7)).bind fun v8 => some (v8, S)))
def f_X8_two_L58 (n : Nat) (x1 : Int32) (x2 : Int32) (x4 : Int32) (x5 : Int32) (x6 : Int32) (x7 : Int32) (x8 : Int32) (S : St) (k118 : Int32 → Option (Int32 × St)) : Option (Int32 × St) :=
  match n with
  | 0 => none
  | n + 1 => (if 5 ≤ x8 then k118 x7 else (f_X8_yearOf 75 x1 x2 (x8 + x5) S).bind fun v7 => (if x6 < v7 then f_X8_two_L58 n x1 x2 x4 x5 x6 (x7 &&& 0) (x8 + 1) S k118 else (f_X8_yearOf 75 x1 x2 (x4 + x8) S).bind fun v9 => (if v9 < x6 then f_X8_two_L58 n x1 x2 x4 x5 x6 (x7 &&& 0) (x8 + 1) S k118 else f_X8_two_L58 n x1 x2 x4 x5 x6 (x7 &&& 1) (x8 + 1) S k118)))
def f_X8_two_L30 (n : Nat) (x1 : Int32) (x2 : Int32) (x4 : Int32) (x5 : Int32) (S : St) (k123 : Int32 → Option (Int32 × St)) (k138 : Unit → Option (Int32 × St)) : Option (Int32 × St) :=
  match n with
  | 0 => none
  | n + 1 => (if 5 ≤ x5 then k138 () else (f_X8_yearOf 75 x1 x2 (x4 + x5) S).bind fun v5 => f_X8_two_L58 2000 x1 x2 x4 x5 v5 1 0 S (fun (y11 : Int32) => (if y11 = 0 then f_X8_two_L30 n x1 x2 x4 (x5 + 1) S k123 k138 else k123 x5)))
def f_X8_two_L21 (n : Nat) (x1 : Int32) (x2 : Int32) (x4 : Int32) (S : St) (k123 : Int32 → Int32 → Option (Int32 × St)) (k144 : Unit → Option (Int32 × St)) : Option (Int32 × St) :=
  match n with
  | 0 => none
  | n + 1 => (if 5 ≤ x4 then k144 () else f_X8_two_L30 2000 x1 x2 x4 0 S (fun (y13 : Int32) => k123 x4 y13) (fun _ : Unit => f_X8_two_L21 n x1 x2 (x4 + 1) S k123 k144))
def f_X8_two (a1 : Int32) (a2 : Int32) (S : St) : Option (Int32 × St) :=
  (f_X8_wrongGlue a1 a2 0 S).bind fun v1 => (if v1 = 0 then f_X8_two_L21 2000 a1 a2 0 S (fun (y14 : Int32) (y15 : Int32) => some ((10 * y14) + y15, S)) (fun _ : Unit => some ((-9), S)) else (f_X8_no v1 S).bind fun z16 => some (z16.1, z16.2))
def f_X8_gcd_L6 (n : Nat) (x4 : Int64) (x6 : Int64) (k31 : Int64 → Option Int64) : Option Int64 :=
  match n with
  | 0 => none
  | n + 1 => (if (lg_cmp x6 0) = 0 then k31 x4 else (if x6 = 0 then none else f_X8_gcd_L6 n x6 (x4 - x4 / x6 * x6) k31))
def f_X8_gcd (a0 : Int64) (a2 : Int64)  : Option Int64 :=
  f_X8_gcd_L6 2000 a0 a2 (fun (y3 : Int64) => some y3)
def f_X8_partOf (a0 : Int64) (a2 : Int64) (a4 : Int32)  : Option Int64 :=
  (if (lg_cmp a0 0) = 0 then some a4.toInt64 else (if a4 = 0 then (f_X8_gcd a0 a2).bind fun v5 => (if v5 = 0 then none else some (a0 / v5)) else (f_X8_gcd a0 a2).bind fun v3 => (if v3 = 0 then none else some (a2 / v3))))
def f_X8_slips_L24 (n : Nat) (x1 : Int32) (x2 : Int32) (x3 : Int32) (x4 : Int32) (x5 : Int64) (x7 : Int32) (x8 : Int64) (x10 : Int32) (S : St) (k45 : Int64 → Option Int64) : Option Int64 :=
  match n with
  | 0 => none
  | n + 1 => (if x2 ≤ x10 then k45 x8 else f_X8_slips_L24 n x1 x2 x3 x4 x5 x7 (x8 * ((x3 - 1).toInt64)) (x10 + 1) S k45)
def f_X8_slips_L6 (n : Nat) (x1 : Int32) (x2 : Int32) (x3 : Int32) (x4 : Int32) (x5 : Int64) (x7 : Int32) (S : St) (k112 : Int64 → Option Int64) : Option Int64 :=
  match n with
  | 0 => none
  | n + 1 => (if (1 <<< (x2 &&& 31)) ≤ x7 then k112 x5 else (f_X8_bits x7).bind fun v2 => f_X8_slips_L24 2000 x1 x2 x3 x4 x5 x7 1 v2 S (fun (y4 : Int64) => (f_X8_bits x7).bind fun v5 => (f_X8_yearOf 75 x1 (5 * (x2 - v5)) 0 S).bind fun v6 => (if 0 ≤ x4 then (if v6 = x4 then f_X8_slips_L6 n x1 x2 x3 x4 (x5 + y4) (x7 + 1) S k112 else f_X8_slips_L6 n x1 x2 x3 x4 (x5 + 0) (x7 + 1) S k112) else (f_X8_at x1 v6).bind fun v9 => (if v9 < 0 ∨ 132 ≤ v9.toNatClampNeg then none else f_X8_slips_L6 n x1 x2 x3 x4 (x5 + (y4 * ((S.1 75 v9.toNatClampNeg).toInt64))) (x7 + 1) S k112))))
def f_X8_slips (a1 : Int32) (a2 : Int32) (a3 : Int32) (a4 : Int32) (S : St) : Option Int64 :=
  f_X8_slips_L6 2000 a1 a2 a3 a4 0 0 S (fun (y11 : Int64) => some y11)
def f_X8_power_L5 (n : Nat) (x0 : Int32) (x1 : Int32) (x2 : Int64) (x4 : Int32) (k22 : Int64 → Option Int64) : Option Int64 :=
  match n with
  | 0 => none
  | n + 1 => (if x1 ≤ x4 then k22 x2 else f_X8_power_L5 n x0 x1 (x2 * x0.toInt64) (x4 + 1) k22)
def f_X8_power (a0 : Int32) (a1 : Int32)  : Option Int64 :=
  f_X8_power_L5 2000 a0 a1 1 0 (fun (y2 : Int64) => some y2)
def f_X8_slip (a1 : Int32) (a2 : Int32) (a3 : Int32) (a4 : Int32) (a5 : Int32) (S : St) : Option (Int64 × St) :=
  (f_X8_isThing a1 S).bind fun v1 => (if v1 = 0 then (f_X8_noWide (-1) S).bind fun z3 => some (z3.1, z3.2) else (f_X8_isYear a4).bind fun v4 => (if v4 = 0 then (f_X8_noWide (-1) S).bind fun z20 => some (z20.1, z20.2) else (if a2 < 0 then (f_X8_noWide (-4) S).bind fun z7 => some (z7.1, z7.2) else (if 2 ≤ a3 then (if 8 < a2 then (f_X8_noWide (-6) S).bind fun z10 => some (z10.1, z10.2) else (if a3 ≤ 20 then (f_X8_isIn a5 0 1).bind fun v12 => (if v12 = 0 then (f_X8_noWide (-2) S).bind fun z17 => some (z17.1, z17.2) else (f_X8_slips a1 a2 a3 a4 S).bind fun v14 => (f_X8_power a3 a2).bind fun v15 => (f_X8_partOf v14 v15 a5).bind fun v16 => some (v16, S)) else (f_X8_noWide (-6) S).bind fun z18 => some (z18.1, z18.2))) else (f_X8_noWide (-4) S).bind fun z19 => some (z19.1, z19.2)))))
def f_X8_mean (a1 : Int32) (a2 : Int32) (a3 : Int32) (a4 : Int32) (S : St) : Option (Int64 × St) :=
  (f_X8_isThing a1 S).bind fun v1 => (if v1 = 0 then (f_X8_noWide (-1) S).bind fun z17 => some (z17.1, z17.2) else (if a2 < 0 then (f_X8_noWide (-4) S).bind fun z4 => some (z4.1, z4.2) else (if 2 ≤ a3 then (if 8 < a2 then (f_X8_noWide (-6) S).bind fun z7 => some (z7.1, z7.2) else (if a3 ≤ 20 then (f_X8_isIn a4 0 1).bind fun v9 => (if v9 = 0 then (f_X8_noWide (-2) S).bind fun z14 => some (z14.1, z14.2) else (f_X8_slips a1 a2 a3 (-1) S).bind fun v11 => (f_X8_power a3 a2).bind fun v12 => (f_X8_partOf v11 v12 a4).bind fun v13 => some (v13, S)) else (f_X8_noWide (-6) S).bind fun z15 => some (z15.1, z15.2))) else (f_X8_noWide (-4) S).bind fun z16 => some (z16.1, z16.2))))
def f_X8_whatWas_L87 (n : Nat) (x1 : Int32) (x2 : Int32) (x3 : Int32) (x4 : Int32) (x5 : Int32) (x6 : Int32) (S : St) (k135 : Int32 → Option (Int32 × St)) : Option (Int32 × St) :=
  match n with
  | 0 => none
  | n + 1 => (if (S.1 74 9) ≤ x6 then k135 x5 else (f_X8_yearOf 76 x1 (5 * x6) 0 S).bind fun v11 => (if x6 < 0 ∨ 16 ≤ x6.toNatClampNeg then none else (if v11 = (S.1 80 x6.toNatClampNeg) then f_X8_whatWas_L87 n x1 x2 x3 x4 (x5 &&& 1) (x6 + 1) S k135 else f_X8_whatWas_L87 n x1 x2 x3 x4 (x5 &&& 0) (x6 + 1) S k135)))
def f_X8_whatWas_L35 (n : Nat) (x1 : Int32) (x2 : Int32) (x3 : Int32) (x4 : Int32) (S : St) (k157 : Int32 → St → Option (Int32 × St)) : Option (Int32 × St) :=
  match n with
  | 0 => none
  | n + 1 => (if x2 = 0 then (if 6 ≤ x4 then k157 x3 S else (f_X8_lays 75 76 S).bind fun S20 => (if x2 = 0 then (if (4 + x1) < 0 ∨ 132 ≤ (4 + x1).toNatClampNeg then none else f_X8_whatWas_L87 2000 x1 x2 x3 x4 1 0 (up S20 76 (4 + x1).toNatClampNeg x4) (fun (y26 : Int32) => (if y26 = 0 then f_X8_whatWas_L35 n x1 x2 (x3 ||| 0) (x4 + 1) (up S20 76 (4 + x1).toNatClampNeg x4) k157 else f_X8_whatWas_L35 n x1 x2 (x3 ||| (1 <<< (x4 &&& 31))) (x4 + 1) (up S20 76 (4 + x1).toNatClampNeg x4) k157))) else (if (12 + x1) < 0 ∨ 132 ≤ (12 + x1).toNatClampNeg then none else f_X8_whatWas_L87 2000 x1 x2 x3 x4 1 0 (up S20 76 (12 + x1).toNatClampNeg x4) (fun (y23 : Int32) => (if y23 = 0 then f_X8_whatWas_L35 n x1 x2 (x3 ||| 0) (x4 + 1) (up S20 76 (12 + x1).toNatClampNeg x4) k157 else f_X8_whatWas_L35 n x1 x2 (x3 ||| (1 <<< (x4 &&& 31))) (x4 + 1) (up S20 76 (12 + x1).toNatClampNeg x4) k157))))) else (if 10 ≤ x4 then k157 x3 S else (f_X8_lays 75 76 S).bind fun S7 => (if x2 = 0 then (if (4 + x1) < 0 ∨ 132 ≤ (4 + x1).toNatClampNeg then none else f_X8_whatWas_L87 2000 x1 x2 x3 x4 1 0 (up S7 76 (4 + x1).toNatClampNeg x4) (fun (y17 : Int32) => (if y17 = 0 then f_X8_whatWas_L35 n x1 x2 (x3 ||| 0) (x4 + 1) (up S7 76 (4 + x1).toNatClampNeg x4) k157 else f_X8_whatWas_L35 n x1 x2 (x3 ||| (1 <<< (x4 &&& 31))) (x4 + 1) (up S7 76 (4 + x1).toNatClampNeg x4) k157))) else (if (12 + x1) < 0 ∨ 132 ≤ (12 + x1).toNatClampNeg then none else f_X8_whatWas_L87 2000 x1 x2 x3 x4 1 0 (up S7 76 (12 + x1).toNatClampNeg x4) (fun (y14 : Int32) => (if y14 = 0 then f_X8_whatWas_L35 n x1 x2 (x3 ||| 0) (x4 + 1) (up S7 76 (12 + x1).toNatClampNeg x4) k157 else f_X8_whatWas_L35 n x1 x2 (x3 ||| (1 <<< (x4 &&& 31))) (x4 + 1) (up S7 76 (12 + x1).toNatClampNeg x4) k157))))))
def f_X8_whatWas (a1 : Int32) (a2 : Int32) (S : St) : Option (Int32 × St) :=
  (f_X8_isThing a1 S).bind fun v1 => (if v1 = 0 then (f_X8_no (-1) S).bind fun z31 => some (z31.1, z31.2) else (f_X8_isIn a2 0 1).bind fun v3 => (if v3 = 0 then (f_X8_no (-2) S).bind fun z30 => some (z30.1, z30.2) else f_X8_whatWas_L35 2000 a1 a2 0 0 S (fun (y28 : Int32) (S29 : St) => some (y28, S29))))
def f_X8_mended_L59 (n : Nat) (x1 : Int32) (x2 : Int32) (x3 : Int32) (x4 : Int32) (S : St) (k92 : Int32 → St → Option (Int32 × St)) (k101 : St → Option (Int32 × St)) : Option (Int32 × St) :=
  match n with
  | 0 => none
  | n + 1 => (if 99 < x4 then k101 S else (f_X8_at x1 x2).bind fun v10 => (if v10 < 0 ∨ 132 ≤ v10.toNatClampNeg then none else (f_X8_yearOf 76 x1 x3 0 (up S 76 v10.toNatClampNeg x4)).bind fun v12 => (if v12 = x2 then k92 x4 (up S 76 v10.toNatClampNeg x4) else f_X8_mended_L59 n x1 x2 x3 (x4 + 1) (up S 76 v10.toNatClampNeg x4) k92 k101)))
def f_X8_mended (a1 : Int32) (a2 : Int32) (a3 : Int32) (S : St) : Option (Int32 × St) :=
  (f_X8_isThing a1 S).bind fun v1 => (if v1 = 0 then (f_X8_no (-1) S).bind fun z3 => some (z3.1, z3.2) else (f_X8_isYear a2).bind fun v4 => (if v4 = 0 then (f_X8_no (-1) S).bind fun z19 => some (z19.1, z19.2) else (if 0 ≤ a3 then (if a3 ≤ 99 then (f_X8_lays 75 76 S).bind fun S8 => f_X8_mended_L59 2000 a1 a2 a3 0 S8 (fun (y14 : Int32) (S15 : St) => some (y14, S15)) (fun (S16 : St) => some ((-9), S16)) else (f_X8_no (-6) S).bind fun z17 => some (z17.1, z17.2)) else (f_X8_no (-4) S).bind fun z18 => some (z18.1, z18.2))))
def f_X8_row (a1 : Int32) (S : St) : Option (Int32 × St) :=
  (if 0 ≤ a1 then (if 99 < a1 then (f_X8_no (-6) S).bind fun z3 => some (z3.1, z3.2) else (if (S.1 74 9) = 16 then (f_X8_no (-6) S).bind fun z6 => some (z6.1, z6.2) else (if (S.1 74 9) < 0 ∨ 16 ≤ (S.1 74 9).toNatClampNeg then none else some ((up (up S 80 (S.1 74 9).toNatClampNeg a1) 74 9 (((up S 80 (S.1 74 9).toNatClampNeg a1).1 74 9) + 1)).1 74 9, (up (up S 80 (S.1 74 9).toNatClampNeg a1) 74 9 (((up S 80 (S.1 74 9).toNatClampNeg a1).1 74 9) + 1)))))) else (f_X8_no (-4) S).bind fun z7 => some (z7.1, z7.2))
def f_X8_judge_L26 (n : Nat) (x1 : Int32) (x2 : Int32) (x3 : Int32) (S : St) (k56 : Int32 → Option (Int32 × St)) (k64 : Unit → Option (Int32 × St)) : Option (Int32 × St) :=
  match n with
  | 0 => none
  | n + 1 => (if x2 ≤ x3 then k64 () else (if 12 ≤ x3 then k56 x3 else (f_X8_at x1 x3).bind fun v5 => (if v5 < 0 ∨ 132 ≤ v5.toNatClampNeg then none else (if x3 < 0 ∨ 16 ≤ x3.toNatClampNeg then none else (if (S.1 75 v5.toNatClampNeg) = (S.1 80 x3.toNatClampNeg) then f_X8_judge_L26 n x1 x2 (x3 + 1) S k56 k64 else k56 x3)))))
def f_X8_judge (a1 : Int32) (S : St) : Option (Int32 × St) :=
  (f_X8_isThing a1 S).bind fun v1 => (if v1 = 0 then (f_X8_no (-1) S).bind fun z10 => some (z10.1, z10.2) else f_X8_judge_L26 2000 a1 (S.1 74 9) 0 (up S 74 9 0) (fun (y9 : Int32) => some (y9, (up S 74 9 0))) (fun _ : Unit => some ((-9), (up S 74 9 0))))
def f_X8_clear  (S : St) : Option (Int32 × St) :=
  some (S.1 74 9, (up S 74 9 0))
def f_X8_drawn (a1 : Int32) (S : St) : Option (Int32 × St) :=
  (if a1 = 0 then none else some (((((up S 74 15 (((S.1 74 15) * 1664525) + 1013904223)).1 74 15) &&& 2147483647) / 256) - ((((up S 74 15 (((S.1 74 15) * 1664525) + 1013904223)).1 74 15) &&& 2147483647) / 256) / a1 * a1, (up S 74 15 (((S.1 74 15) * 1664525) + 1013904223))))
def f_X8_lots_L72 (n : Nat) (x1 : Int32) (x3 : Int32) (x4 : Int32) (x5 : Int32) (x6 : Int32) (S : St) (k139 : St → Option (Int32 × St)) : Option (Int32 × St) :=
  match n with
  | 0 => none
  | n + 1 => (if (S.1 76 0) ≤ x6 then k139 S else (if (20 + x6) < 0 ∨ 132 ≤ (20 + x6).toNatClampNeg then none else (if (S.1 76 (20 + x6).toNatClampNeg) < 0 then (f_X8_drawn 60 S).bind fun z10 => (f_X8_drawn 4 z10.2).bind fun z11 => (f_X8_yearOf 76 x6 z10.1 z11.1 z11.2).bind fun v12 => (if (20 + x6) < 0 ∨ 132 ≤ (20 + x6).toNatClampNeg then none else f_X8_lots_L72 n x1 x3 x4 x5 (x6 + 1) (up z11.2 76 (20 + x6).toNatClampNeg v12) k139) else f_X8_lots_L72 n x1 x3 x4 x5 (x6 + 1) S k139)))
def f_X8_lots_L52 (n : Nat) (x1 : Int32) (x3 : Int32) (x4 : Int32) (x5 : Int32) (S : St) (k172 : Int32 → St → Option (Int32 × St)) : Option (Int32 × St) :=
  match n with
  | 0 => none
  | n + 1 => (if x1 ≤ x5 then k172 x4 S else (f_X8_lays 75 76 S).bind fun S6 => f_X8_lots_L72 2000 x1 x3 x4 x5 0 S6 (fun (S14 : St) => (if x3 = 0 then (f_X8_gladAll 76 S14).bind fun v17 => f_X8_lots_L52 n x1 x3 (x4 + v17) (x5 + 1) S14 k172 else (f_X8_agreeMany 76 S14).bind fun v16 => f_X8_lots_L52 n x1 x3 (x4 + v16) (x5 + 1) S14 k172)))
def f_X8_lots (a1 : Int32) (a2 : Int32) (a3 : Int32) (S : St) : Option (Int32 × St) :=
  (if 1 ≤ a1 then (if a1 ≤ 20 then (f_X8_isIn a3 0 1).bind fun v3 => (if v3 = 0 then (f_X8_no (-2) S).bind fun z20 => some (z20.1, z20.2) else f_X8_lots_L52 2000 a1 a3 0 0 (up S 74 15 a2) (fun (y18 : Int32) (S19 : St) => some (y18, S19))) else (f_X8_no (-6) S).bind fun z21 => some (z21.1, z21.2)) else (f_X8_no (-4) S).bind fun z22 => some (z22.1, z22.2))
def f_X8_image  (S : St) : Option (Int32 × St) :=
  (f_X8_lays 75 77 S).bind fun S1 => some ((up S1 74 4 1).1 75 1, (up S1 74 4 1))
def f_X8_on  (S : St) : Option (Int32 × St) :=
  (if (S.1 74 4) = 0 then (f_X8_no (-3) S).bind fun z3 => some (z3.1, z3.2) else (f_X8_lays 77 75 S).bind fun S2 => some (S2.1 75 1, S2))
def f_X8_count_L81 (n : Nat) (x2 : Int32) (x3 : Int32) (S : St) (k119 : Int32 → Option Int32) : Option Int32 :=
  match n with
  | 0 => none
  | n + 1 => (if (S.1 75 0) ≤ x3 then k119 x2 else (if (20 + x3) < 0 ∨ 132 ≤ (20 + x3).toNatClampNeg then none else (if (S.1 75 (20 + x3).toNatClampNeg) < 0 then f_X8_count_L81 n (x2 ||| 0) (x3 + 1) S k119 else f_X8_count_L81 n (x2 ||| (1 <<< (x3 &&& 31))) (x3 + 1) S k119)))
def f_X8_count_L123 (n : Nat) (x2 : Int32) (x3 : Int32) (S : St) (k154 : Int32 → Option Int32) : Option Int32 :=
  match n with
  | 0 => none
  | n + 1 => (if (S.1 75 0) ≤ x3 then k154 x2 else (if (124 + x3) < 0 ∨ 132 ≤ (124 + x3).toNatClampNeg then none else (f_X8_bits (S.1 75 (124 + x3).toNatClampNeg)).bind fun v19 => f_X8_count_L123 n (x2 + v19) (x3 + 1) S k154))
def f_X8_count (a1 : Int32) (S : St) : Option Int32 :=
  (f_X8_isIn a1 11 16).bind fun v1 => (if v1 = 0 then (if a1 = 0 then (if a1 < 0 ∨ 132 ≤ a1.toNatClampNeg then none else some (S.1 75 a1.toNatClampNeg)) else (if a1 = 1 then (if a1 < 0 ∨ 132 ≤ a1.toNatClampNeg then none else some (S.1 75 a1.toNatClampNeg)) else (if a1 = 2 then (if a1 < 0 ∨ 132 ≤ a1.toNatClampNeg then none else some (S.1 75 a1.toNatClampNeg)) else (if a1 = 3 then (if a1 < 0 ∨ 132 ≤ a1.toNatClampNeg then none else some (S.1 75 a1.toNatClampNeg)) else (if a1 = 4 then f_X8_count_L81 2000 0 0 S (fun (y15 : Int32) => some y15) else (if a1 = 5 then f_X8_count_L123 2000 0 0 S (fun (y20 : Int32) => some (y20 / 2)) else (if a1 = 6 then some (S.1 74 9) else (if a1 = 7 then some (S.1 74 8) else some (-9))))))))) else (if (a1 - 10) < 0 ∨ 7 ≤ (a1 - 10).toNatClampNeg then none else some (S.1 81 (a1 - 10).toNatClampNeg)))
-- ===== numbers of cells behind a call =====
theorem kd_at {q v : Nat} {a : Int32} {S : St} (hq : kd q = 3) (h : f_X3_at q a S = some v) : kd v = 6 := by
  rw [f_X3_at] at h
  obtain ⟨c, h⟩ := oi h
  obtain rfl := Option.some.inj h
  exact kd_sht hq (by omega)

