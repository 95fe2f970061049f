section
-- ===== PART A: goes FIRST, ahead of the names: the tables' words, and 'selects' of the private methods out of them =====
/-- a private method of a class that the tables say can be made, by its rows of tables_1 -/
def lw_okq (q : MethodName × Nat) : Prop := (q.1.cls ≠ "java/lang/invoke/MethodHandle" ∧ q.1.cls ≠ "java/lang/invoke/VarHandle") ∧ Cond.instantiable q.1.cls q.2 ∈ tables_1 ∧ Cond.privateMethod q.1 ∈ tables_1 ∧ Cond.instanceMethod q.1 ∈ tables_1
theorem lw_p0 : lw_okq (⟨"GluedInLifetime", "refuse", "(I)I"⟩, 13) := ⟨⟨by decide +kernel, by decide +kernel⟩, List.mem_of_getElem? (i := 18) (by decide +kernel), List.mem_of_getElem? (i := 209) (by decide +kernel), List.mem_of_getElem? (i := 210) (by decide +kernel)⟩
theorem lw_p1 : lw_okq (⟨"GluedInLifetime$Text", "isFull", "()Z"⟩, 2) := ⟨⟨by decide +kernel, by decide +kernel⟩, List.mem_of_getElem? (i := 86) (by decide +kernel), List.mem_of_getElem? (i := 213) (by decide +kernel), List.mem_of_getElem? (i := 214) (by decide +kernel)⟩
theorem lw_p2 : lw_okq (⟨"GluedInLifetime$Text", "put", "(I)V"⟩, 2) := ⟨⟨by decide +kernel, by decide +kernel⟩, List.mem_of_getElem? (i := 86) (by decide +kernel), List.mem_of_getElem? (i := 217) (by decide +kernel), List.mem_of_getElem? (i := 218) (by decide +kernel)⟩
theorem lw_p3 : lw_okq (⟨"GluedInLifetime$Text", "firstMisfit", "()I"⟩, 2) := ⟨⟨by decide +kernel, by decide +kernel⟩, List.mem_of_getElem? (i := 86) (by decide +kernel), List.mem_of_getElem? (i := 226) (by decide +kernel), List.mem_of_getElem? (i := 227) (by decide +kernel)⟩
theorem lw_p4 : lw_okq (⟨"GluedInLifetime$Text", "misfitOfStatement", "(I)I"⟩, 2) := ⟨⟨by decide +kernel, by decide +kernel⟩, List.mem_of_getElem? (i := 86) (by decide +kernel), List.mem_of_getElem? (i := 230) (by decide +kernel), List.mem_of_getElem? (i := 231) (by decide +kernel)⟩
theorem lw_p5 : lw_okq (⟨"GluedInLifetime$Text", "partsOf", "(I)I"⟩, 2) := ⟨⟨by decide +kernel, by decide +kernel⟩, List.mem_of_getElem? (i := 86) (by decide +kernel), List.mem_of_getElem? (i := 234) (by decide +kernel), List.mem_of_getElem? (i := 235) (by decide +kernel)⟩
theorem lw_p6 : lw_okq (⟨"GluedInLifetime$Text", "letterAt", "(I)I"⟩, 2) := ⟨⟨by decide +kernel, by decide +kernel⟩, List.mem_of_getElem? (i := 86) (by decide +kernel), List.mem_of_getElem? (i := 238) (by decide +kernel), List.mem_of_getElem? (i := 239) (by decide +kernel)⟩
theorem lw_p7 : lw_okq (⟨"GluedInLifetime$Text", "kindAt", "(I)I"⟩, 2) := ⟨⟨by decide +kernel, by decide +kernel⟩, List.mem_of_getElem? (i := 86) (by decide +kernel), List.mem_of_getElem? (i := 242) (by decide +kernel), List.mem_of_getElem? (i := 243) (by decide +kernel)⟩
theorem lw_p8 : lw_okq (⟨"GluedInLifetime$Text", "isDigit", "(I)Z"⟩, 2) := ⟨⟨by decide +kernel, by decide +kernel⟩, List.mem_of_getElem? (i := 86) (by decide +kernel), List.mem_of_getElem? (i := 333) (by decide +kernel), List.mem_of_getElem? (i := 334) (by decide +kernel)⟩
theorem lw_p9 : lw_okq (⟨"GluedInLifetime$Text", "behindStatement", "(I)I"⟩, 2) := ⟨⟨by decide +kernel, by decide +kernel⟩, List.mem_of_getElem? (i := 86) (by decide +kernel), List.mem_of_getElem? (i := 337) (by decide +kernel), List.mem_of_getElem? (i := 338) (by decide +kernel)⟩
theorem lw_p10 : lw_okq (⟨"GluedInLifetime", "tellTrial", "()I"⟩, 13) := ⟨⟨by decide +kernel, by decide +kernel⟩, List.mem_of_getElem? (i := 18) (by decide +kernel), List.mem_of_getElem? (i := 341) (by decide +kernel), List.mem_of_getElem? (i := 342) (by decide +kernel)⟩
theorem lw_p11 : lw_okq (⟨"GluedInLifetime$Shop", "copyFrom", "(LGluedInLifetime$Shop;)V"⟩, 6) := ⟨⟨by decide +kernel, by decide +kernel⟩, List.mem_of_getElem? (i := 26) (by decide +kernel), List.mem_of_getElem? (i := 345) (by decide +kernel), List.mem_of_getElem? (i := 346) (by decide +kernel)⟩
theorem lw_p12 : lw_okq (⟨"GluedInLifetime$Thing", "copyFrom", "(LGluedInLifetime$Thing;)V"⟩, 4) := ⟨⟨by decide +kernel, by decide +kernel⟩, List.mem_of_getElem? (i := 33) (by decide +kernel), List.mem_of_getElem? (i := 349) (by decide +kernel), List.mem_of_getElem? (i := 350) (by decide +kernel)⟩
theorem lw_p13 : lw_okq (⟨"GluedInLifetime", "tellStatement", "(I)Z"⟩, 13) := ⟨⟨by decide +kernel, by decide +kernel⟩, List.mem_of_getElem? (i := 18) (by decide +kernel), List.mem_of_getElem? (i := 356) (by decide +kernel), List.mem_of_getElem? (i := 357) (by decide +kernel)⟩
theorem lw_p14 : lw_okq (⟨"GluedInLifetime$Text", "number", "(II)I"⟩, 2) := ⟨⟨by decide +kernel, by decide +kernel⟩, List.mem_of_getElem? (i := 86) (by decide +kernel), List.mem_of_getElem? (i := 360) (by decide +kernel), List.mem_of_getElem? (i := 361) (by decide +kernel)⟩
theorem lw_p15 : lw_okq (⟨"GluedInLifetime$Shop", "add", "(II)Z"⟩, 6) := ⟨⟨by decide +kernel, by decide +kernel⟩, List.mem_of_getElem? (i := 26) (by decide +kernel), List.mem_of_getElem? (i := 366) (by decide +kernel), List.mem_of_getElem? (i := 367) (by decide +kernel)⟩
def lw_privs_1 : List (MethodName × Nat) := [(⟨"GluedInLifetime", "refuse", "(I)I"⟩, 13), (⟨"GluedInLifetime$Text", "isFull", "()Z"⟩, 2), (⟨"GluedInLifetime$Text", "put", "(I)V"⟩, 2), (⟨"GluedInLifetime$Text", "firstMisfit", "()I"⟩, 2), (⟨"GluedInLifetime$Text", "misfitOfStatement", "(I)I"⟩, 2), (⟨"GluedInLifetime$Text", "partsOf", "(I)I"⟩, 2), (⟨"GluedInLifetime$Text", "letterAt", "(I)I"⟩, 2), (⟨"GluedInLifetime$Text", "kindAt", "(I)I"⟩, 2), (⟨"GluedInLifetime$Text", "isDigit", "(I)Z"⟩, 2), (⟨"GluedInLifetime$Text", "behindStatement", "(I)I"⟩, 2), (⟨"GluedInLifetime", "tellTrial", "()I"⟩, 13), (⟨"GluedInLifetime$Shop", "copyFrom", "(LGluedInLifetime$Shop;)V"⟩, 6), (⟨"GluedInLifetime$Thing", "copyFrom", "(LGluedInLifetime$Thing;)V"⟩, 4), (⟨"GluedInLifetime", "tellStatement", "(I)Z"⟩, 13), (⟨"GluedInLifetime$Text", "number", "(II)I"⟩, 2), (⟨"GluedInLifetime$Shop", "add", "(II)Z"⟩, 6)]
theorem lw_r1 : ∀ q ∈ lw_privs_1, lw_okq q := List.forall_mem_cons.mpr ⟨lw_p0, List.forall_mem_cons.mpr ⟨lw_p1, List.forall_mem_cons.mpr ⟨lw_p2, List.forall_mem_cons.mpr ⟨lw_p3, List.forall_mem_cons.mpr ⟨lw_p4, List.forall_mem_cons.mpr ⟨lw_p5, List.forall_mem_cons.mpr ⟨lw_p6, List.forall_mem_cons.mpr ⟨lw_p7, List.forall_mem_cons.mpr ⟨lw_p8, List.forall_mem_cons.mpr ⟨lw_p9, List.forall_mem_cons.mpr ⟨lw_p10, List.forall_mem_cons.mpr ⟨lw_p11, List.forall_mem_cons.mpr ⟨lw_p12, List.forall_mem_cons.mpr ⟨lw_p13, List.forall_mem_cons.mpr ⟨lw_p14, List.forall_mem_cons.mpr ⟨lw_p15, fun _ h => absurd h List.not_mem_nil⟩⟩⟩⟩⟩⟩⟩⟩⟩⟩⟩⟩⟩⟩⟩⟩
theorem lw_p16 : lw_okq (⟨"GluedInLifetime$Shop", "at", "(I)LGluedInLifetime$Thing;"⟩, 6) := ⟨⟨by decide +kernel, by decide +kernel⟩, List.mem_of_getElem? (i := 26) (by decide +kernel), List.mem_of_getElem? (i := 370) (by decide +kernel), List.mem_of_getElem? (i := 371) (by decide +kernel)⟩
theorem lw_p17 : lw_okq (⟨"GluedInLifetime$Thing", "begin", "(II)V"⟩, 4) := ⟨⟨by decide +kernel, by decide +kernel⟩, List.mem_of_getElem? (i := 33) (by decide +kernel), List.mem_of_getElem? (i := 374) (by decide +kernel), List.mem_of_getElem? (i := 375) (by decide +kernel)⟩
theorem lw_p18 : lw_okq (⟨"GluedInLifetime$Shop", "makeGlad", "(IIII)Z"⟩, 6) := ⟨⟨by decide +kernel, by decide +kernel⟩, List.mem_of_getElem? (i := 26) (by decide +kernel), List.mem_of_getElem? (i := 378) (by decide +kernel), List.mem_of_getElem? (i := 379) (by decide +kernel)⟩
theorem lw_p19 : lw_okq (⟨"GluedInLifetime$Shop", "lacks", "(I)Z"⟩, 6) := ⟨⟨by decide +kernel, by decide +kernel⟩, List.mem_of_getElem? (i := 26) (by decide +kernel), List.mem_of_getElem? (i := 382) (by decide +kernel), List.mem_of_getElem? (i := 383) (by decide +kernel)⟩
theorem lw_p20 : lw_okq (⟨"GluedInLifetime$Thing", "makeGlad", "(II)V"⟩, 4) := ⟨⟨by decide +kernel, by decide +kernel⟩, List.mem_of_getElem? (i := 33) (by decide +kernel), List.mem_of_getElem? (i := 389) (by decide +kernel), List.mem_of_getElem? (i := 390) (by decide +kernel)⟩
theorem lw_p21 : lw_okq (⟨"GluedInLifetime$Shop", "moveTo", "(I)Z"⟩, 6) := ⟨⟨by decide +kernel, by decide +kernel⟩, List.mem_of_getElem? (i := 26) (by decide +kernel), List.mem_of_getElem? (i := 393) (by decide +kernel), List.mem_of_getElem? (i := 394) (by decide +kernel)⟩
theorem lw_p22 : lw_okq (⟨"GluedInLifetime$Shop", "turnHalves", "(II)Z"⟩, 6) := ⟨⟨by decide +kernel, by decide +kernel⟩, List.mem_of_getElem? (i := 26) (by decide +kernel), List.mem_of_getElem? (i := 397) (by decide +kernel), List.mem_of_getElem? (i := 398) (by decide +kernel)⟩
theorem lw_p23 : lw_okq (⟨"GluedInLifetime$Shop", "lacksTwo", "(II)Z"⟩, 6) := ⟨⟨by decide +kernel, by decide +kernel⟩, List.mem_of_getElem? (i := 26) (by decide +kernel), List.mem_of_getElem? (i := 401) (by decide +kernel), List.mem_of_getElem? (i := 402) (by decide +kernel)⟩
theorem lw_p24 : lw_okq (⟨"GluedInLifetime$Shop", "glue", "(III)Z"⟩, 6) := ⟨⟨by decide +kernel, by decide +kernel⟩, List.mem_of_getElem? (i := 26) (by decide +kernel), List.mem_of_getElem? (i := 405) (by decide +kernel), List.mem_of_getElem? (i := 406) (by decide +kernel)⟩
theorem lw_p25 : lw_okq (⟨"GluedInLifetime$Thing", "isSet", "()Z"⟩, 4) := ⟨⟨by decide +kernel, by decide +kernel⟩, List.mem_of_getElem? (i := 33) (by decide +kernel), List.mem_of_getElem? (i := 409) (by decide +kernel), List.mem_of_getElem? (i := 410) (by decide +kernel)⟩
theorem lw_p26 : lw_okq (⟨"GluedInLifetime$Thing", "cost", "()I"⟩, 4) := ⟨⟨by decide +kernel, by decide +kernel⟩, List.mem_of_getElem? (i := 33) (by decide +kernel), List.mem_of_getElem? (i := 413) (by decide +kernel), List.mem_of_getElem? (i := 414) (by decide +kernel)⟩
theorem lw_p27 : lw_okq (⟨"GluedInLifetime$Thing", "yearBy", "(III)I"⟩, 4) := ⟨⟨by decide +kernel, by decide +kernel⟩, List.mem_of_getElem? (i := 33) (by decide +kernel), List.mem_of_getElem? (i := 417) (by decide +kernel), List.mem_of_getElem? (i := 418) (by decide +kernel)⟩
theorem lw_p28 : lw_okq (⟨"GluedInLifetime$Thing", "reach", "(II)I"⟩, 4) := ⟨⟨by decide +kernel, by decide +kernel⟩, List.mem_of_getElem? (i := 33) (by decide +kernel), List.mem_of_getElem? (i := 421) (by decide +kernel), List.mem_of_getElem? (i := 422) (by decide +kernel)⟩
theorem lw_p29 : lw_okq (⟨"GluedInLifetime$Thing", "counts", "(II)I"⟩, 4) := ⟨⟨by decide +kernel, by decide +kernel⟩, List.mem_of_getElem? (i := 33) (by decide +kernel), List.mem_of_getElem? (i := 426) (by decide +kernel), List.mem_of_getElem? (i := 427) (by decide +kernel)⟩
theorem lw_p30 : lw_okq (⟨"GluedInLifetime$Thing", "gladIn", "(I)I"⟩, 4) := ⟨⟨by decide +kernel, by decide +kernel⟩, List.mem_of_getElem? (i := 33) (by decide +kernel), List.mem_of_getElem? (i := 430) (by decide +kernel), List.mem_of_getElem? (i := 431) (by decide +kernel)⟩
theorem lw_p31 : lw_okq (⟨"GluedInLifetime$Thing", "howGlad", "(I)I"⟩, 4) := ⟨⟨by decide +kernel, by decide +kernel⟩, List.mem_of_getElem? (i := 33) (by decide +kernel), List.mem_of_getElem? (i := 442) (by decide +kernel), List.mem_of_getElem? (i := 443) (by decide +kernel)⟩
def lw_privs_2 : List (MethodName × Nat) := [(⟨"GluedInLifetime$Shop", "at", "(I)LGluedInLifetime$Thing;"⟩, 6), (⟨"GluedInLifetime$Thing", "begin", "(II)V"⟩, 4), (⟨"GluedInLifetime$Shop", "makeGlad", "(IIII)Z"⟩, 6), (⟨"GluedInLifetime$Shop", "lacks", "(I)Z"⟩, 6), (⟨"GluedInLifetime$Thing", "makeGlad", "(II)V"⟩, 4), (⟨"GluedInLifetime$Shop", "moveTo", "(I)Z"⟩, 6), (⟨"GluedInLifetime$Shop", "turnHalves", "(II)Z"⟩, 6), (⟨"GluedInLifetime$Shop", "lacksTwo", "(II)Z"⟩, 6), (⟨"GluedInLifetime$Shop", "glue", "(III)Z"⟩, 6), (⟨"GluedInLifetime$Thing", "isSet", "()Z"⟩, 4), (⟨"GluedInLifetime$Thing", "cost", "()I"⟩, 4), (⟨"GluedInLifetime$Thing", "yearBy", "(III)I"⟩, 4), (⟨"GluedInLifetime$Thing", "reach", "(II)I"⟩, 4), (⟨"GluedInLifetime$Thing", "counts", "(II)I"⟩, 4), (⟨"GluedInLifetime$Thing", "gladIn", "(I)I"⟩, 4), (⟨"GluedInLifetime$Thing", "howGlad", "(I)I"⟩, 4)]
theorem lw_r2 : ∀ q ∈ lw_privs_2, lw_okq q := List.forall_mem_cons.mpr ⟨lw_p16, List.forall_mem_cons.mpr ⟨lw_p17, List.forall_mem_cons.mpr ⟨lw_p18, List.forall_mem_cons.mpr ⟨lw_p19, List.forall_mem_cons.mpr ⟨lw_p20, List.forall_mem_cons.mpr ⟨lw_p21, List.forall_mem_cons.mpr ⟨lw_p22, List.forall_mem_cons.mpr ⟨lw_p23, List.forall_mem_cons.mpr ⟨lw_p24, List.forall_mem_cons.mpr ⟨lw_p25, List.forall_mem_cons.mpr ⟨lw_p26, List.forall_mem_cons.mpr ⟨lw_p27, List.forall_mem_cons.mpr ⟨lw_p28, List.forall_mem_cons.mpr ⟨lw_p29, List.forall_mem_cons.mpr ⟨lw_p30, List.forall_mem_cons.mpr ⟨lw_p31, fun _ h => absurd h List.not_mem_nil⟩⟩⟩⟩⟩⟩⟩⟩⟩⟩⟩⟩⟩⟩⟩⟩
theorem lw_p32 : lw_okq (⟨"GluedInLifetime$Shop", "areHalves", "(II)Z"⟩, 6) := ⟨⟨by decide +kernel, by decide +kernel⟩, List.mem_of_getElem? (i := 26) (by decide +kernel), List.mem_of_getElem? (i := 459) (by decide +kernel), List.mem_of_getElem? (i := 460) (by decide +kernel)⟩
theorem lw_p33 : lw_okq (⟨"GluedInLifetime", "heldRefusal", "(III)I"⟩, 13) := ⟨⟨by decide +kernel, by decide +kernel⟩, List.mem_of_getElem? (i := 18) (by decide +kernel), List.mem_of_getElem? (i := 495) (by decide +kernel), List.mem_of_getElem? (i := 496) (by decide +kernel)⟩
theorem lw_p34 : lw_okq (⟨"GluedInLifetime$Thing", "fewestFor", "(II)I"⟩, 4) := ⟨⟨by decide +kernel, by decide +kernel⟩, List.mem_of_getElem? (i := 33) (by decide +kernel), List.mem_of_getElem? (i := 518) (by decide +kernel), List.mem_of_getElem? (i := 519) (by decide +kernel)⟩
theorem lw_p35 : lw_okq (⟨"GluedInLifetime$Shop", "gladTogether", "(I)I"⟩, 6) := ⟨⟨by decide +kernel, by decide +kernel⟩, List.mem_of_getElem? (i := 26) (by decide +kernel), List.mem_of_getElem? (i := 527) (by decide +kernel), List.mem_of_getElem? (i := 528) (by decide +kernel)⟩
theorem lw_p36 : lw_okq (⟨"GluedInLifetime$Shop", "countAgreeing", "()I"⟩, 6) := ⟨⟨by decide +kernel, by decide +kernel⟩, List.mem_of_getElem? (i := 26) (by decide +kernel), List.mem_of_getElem? (i := 539) (by decide +kernel), List.mem_of_getElem? (i := 540) (by decide +kernel)⟩
theorem lw_p37 : lw_okq (⟨"GluedInLifetime$Shop", "setInOneYear", "(II)Z"⟩, 6) := ⟨⟨by decide +kernel, by decide +kernel⟩, List.mem_of_getElem? (i := 26) (by decide +kernel), List.mem_of_getElem? (i := 544) (by decide +kernel), List.mem_of_getElem? (i := 545) (by decide +kernel)⟩
theorem lw_p38 : lw_okq (⟨"GluedInLifetime$Shop", "firstApart", "()I"⟩, 6) := ⟨⟨by decide +kernel, by decide +kernel⟩, List.mem_of_getElem? (i := 26) (by decide +kernel), List.mem_of_getElem? (i := 548) (by decide +kernel), List.mem_of_getElem? (i := 549) (by decide +kernel)⟩
theorem lw_p39 : lw_okq (⟨"GluedInLifetime$Pot", "weigh", "(LGluedInLifetime$Shop;I)V"⟩, 5) := ⟨⟨by decide +kernel, by decide +kernel⟩, List.mem_of_getElem? (i := 114) (by decide +kernel), List.mem_of_getElem? (i := 556) (by decide +kernel), List.mem_of_getElem? (i := 557) (by decide +kernel)⟩
theorem lw_p40 : lw_okq (⟨"GluedInLifetime$Shop", "setBits", "()I"⟩, 6) := ⟨⟨by decide +kernel, by decide +kernel⟩, List.mem_of_getElem? (i := 26) (by decide +kernel), List.mem_of_getElem? (i := 560) (by decide +kernel), List.mem_of_getElem? (i := 561) (by decide +kernel)⟩
theorem lw_p41 : lw_okq (⟨"GluedInLifetime$Thing", "gladdestBy", "(I)I"⟩, 4) := ⟨⟨by decide +kernel, by decide +kernel⟩, List.mem_of_getElem? (i := 33) (by decide +kernel), List.mem_of_getElem? (i := 566) (by decide +kernel), List.mem_of_getElem? (i := 567) (by decide +kernel)⟩
theorem lw_p42 : lw_okq (⟨"GluedInLifetime$Pot", "bestBits", "(I)I"⟩, 5) := ⟨⟨by decide +kernel, by decide +kernel⟩, List.mem_of_getElem? (i := 114) (by decide +kernel), List.mem_of_getElem? (i := 572) (by decide +kernel), List.mem_of_getElem? (i := 573) (by decide +kernel)⟩
theorem lw_p43 : lw_okq (⟨"GluedInLifetime$Pot", "gainOf", "(I)I"⟩, 5) := ⟨⟨by decide +kernel, by decide +kernel⟩, List.mem_of_getElem? (i := 114) (by decide +kernel), List.mem_of_getElem? (i := 576) (by decide +kernel), List.mem_of_getElem? (i := 577) (by decide +kernel)⟩
theorem lw_p44 : lw_okq (⟨"GluedInLifetime", "spendSteps", "(LGluedInLifetime$Thing;)V"⟩, 13) := ⟨⟨by decide +kernel, by decide +kernel⟩, List.mem_of_getElem? (i := 18) (by decide +kernel), List.mem_of_getElem? (i := 588) (by decide +kernel), List.mem_of_getElem? (i := 589) (by decide +kernel)⟩
theorem lw_p45 : lw_okq (⟨"GluedInLifetime$Pot", "fewestFor", "(I)I"⟩, 5) := ⟨⟨by decide +kernel, by decide +kernel⟩, List.mem_of_getElem? (i := 114) (by decide +kernel), List.mem_of_getElem? (i := 597) (by decide +kernel), List.mem_of_getElem? (i := 598) (by decide +kernel)⟩
theorem lw_p46 : lw_okq (⟨"GluedInLifetime", "minutesOfBoth", "(LGluedInLifetime$Thing;LGluedInLifetime$Thing;I)I"⟩, 13) := ⟨⟨by decide +kernel, by decide +kernel⟩, List.mem_of_getElem? (i := 18) (by decide +kernel), List.mem_of_getElem? (i := 606) (by decide +kernel), List.mem_of_getElem? (i := 607) (by decide +kernel)⟩
theorem lw_p47 : lw_okq (⟨"GluedInLifetime$Line", "arrange", "(LGluedInLifetime$Shop;)V"⟩, 3) := ⟨⟨by decide +kernel, by decide +kernel⟩, List.mem_of_getElem? (i := 137) (by decide +kernel), List.mem_of_getElem? (i := 614) (by decide +kernel), List.mem_of_getElem? (i := 615) (by decide +kernel)⟩
def lw_privs_3 : List (MethodName × Nat) := [(⟨"GluedInLifetime$Shop", "areHalves", "(II)Z"⟩, 6), (⟨"GluedInLifetime", "heldRefusal", "(III)I"⟩, 13), (⟨"GluedInLifetime$Thing", "fewestFor", "(II)I"⟩, 4), (⟨"GluedInLifetime$Shop", "gladTogether", "(I)I"⟩, 6), (⟨"GluedInLifetime$Shop", "countAgreeing", "()I"⟩, 6), (⟨"GluedInLifetime$Shop", "setInOneYear", "(II)Z"⟩, 6), (⟨"GluedInLifetime$Shop", "firstApart", "()I"⟩, 6), (⟨"GluedInLifetime$Pot", "weigh", "(LGluedInLifetime$Shop;I)V"⟩, 5), (⟨"GluedInLifetime$Shop", "setBits", "()I"⟩, 6), (⟨"GluedInLifetime$Thing", "gladdestBy", "(I)I"⟩, 4), (⟨"GluedInLifetime$Pot", "bestBits", "(I)I"⟩, 5), (⟨"GluedInLifetime$Pot", "gainOf", "(I)I"⟩, 5), (⟨"GluedInLifetime", "spendSteps", "(LGluedInLifetime$Thing;)V"⟩, 13), (⟨"GluedInLifetime$Pot", "fewestFor", "(I)I"⟩, 5), (⟨"GluedInLifetime", "minutesOfBoth", "(LGluedInLifetime$Thing;LGluedInLifetime$Thing;I)I"⟩, 13), (⟨"GluedInLifetime$Line", "arrange", "(LGluedInLifetime$Shop;)V"⟩, 3)]
theorem lw_r3 : ∀ q ∈ lw_privs_3, lw_okq q := List.forall_mem_cons.mpr ⟨lw_p32, List.forall_mem_cons.mpr ⟨lw_p33, List.forall_mem_cons.mpr ⟨lw_p34, List.forall_mem_cons.mpr ⟨lw_p35, List.forall_mem_cons.mpr ⟨lw_p36, List.forall_mem_cons.mpr ⟨lw_p37, List.forall_mem_cons.mpr ⟨lw_p38, List.forall_mem_cons.mpr ⟨lw_p39, List.forall_mem_cons.mpr ⟨lw_p40, List.forall_mem_cons.mpr ⟨lw_p41, List.forall_mem_cons.mpr ⟨lw_p42, List.forall_mem_cons.mpr ⟨lw_p43, List.forall_mem_cons.mpr ⟨lw_p44, List.forall_mem_cons.mpr ⟨lw_p45, List.forall_mem_cons.mpr ⟨lw_p46, List.forall_mem_cons.mpr ⟨lw_p47, fun _ h => absurd h List.not_mem_nil⟩⟩⟩⟩⟩⟩⟩⟩⟩⟩⟩⟩⟩⟩⟩⟩
theorem lw_p48 : lw_okq (⟨"GluedInLifetime$Thing", "gladdestYear", "(I)I"⟩, 4) := ⟨⟨by decide +kernel, by decide +kernel⟩, List.mem_of_getElem? (i := 33) (by decide +kernel), List.mem_of_getElem? (i := 620) (by decide +kernel), List.mem_of_getElem? (i := 621) (by decide +kernel)⟩
theorem lw_p49 : lw_okq (⟨"GluedInLifetime$Line", "begin", "(II)I"⟩, 3) := ⟨⟨by decide +kernel, by decide +kernel⟩, List.mem_of_getElem? (i := 137) (by decide +kernel), List.mem_of_getElem? (i := 625) (by decide +kernel), List.mem_of_getElem? (i := 626) (by decide +kernel)⟩
theorem lw_p50 : lw_okq (⟨"GluedInLifetime$Line", "beginOf", "(I)I"⟩, 3) := ⟨⟨by decide +kernel, by decide +kernel⟩, List.mem_of_getElem? (i := 137) (by decide +kernel), List.mem_of_getElem? (i := 630) (by decide +kernel), List.mem_of_getElem? (i := 631) (by decide +kernel)⟩
theorem lw_p51 : lw_okq (⟨"GluedInLifetime$Thing", "moreIfWashed", "(I)I"⟩, 4) := ⟨⟨by decide +kernel, by decide +kernel⟩, List.mem_of_getElem? (i := 33) (by decide +kernel), List.mem_of_getElem? (i := 648) (by decide +kernel), List.mem_of_getElem? (i := 649) (by decide +kernel)⟩
theorem lw_p52 : lw_okq (⟨"GluedInLifetime", "bothContent", "(LGluedInLifetime$Thing;III)Z"⟩, 13) := ⟨⟨by decide +kernel, by decide +kernel⟩, List.mem_of_getElem? (i := 18) (by decide +kernel), List.mem_of_getElem? (i := 670) (by decide +kernel), List.mem_of_getElem? (i := 671) (by decide +kernel)⟩
theorem lw_p53 : lw_okq (⟨"GluedInLifetime$Slips", "weigh", "(II)V"⟩, 1) := ⟨⟨by decide +kernel, by decide +kernel⟩, List.mem_of_getElem? (i := 154) (by decide +kernel), List.mem_of_getElem? (i := 682) (by decide +kernel), List.mem_of_getElem? (i := 683) (by decide +kernel)⟩
theorem lw_p54 : lw_okq (⟨"GluedInLifetime$Slips", "waysInto", "(LGluedInLifetime$Thing;II)J"⟩, 1) := ⟨⟨by decide +kernel, by decide +kernel⟩, List.mem_of_getElem? (i := 154) (by decide +kernel), List.mem_of_getElem? (i := 686) (by decide +kernel), List.mem_of_getElem? (i := 687) (by decide +kernel)⟩
theorem lw_p55 : lw_okq (⟨"GluedInLifetime$Slips", "allWays", "()J"⟩, 1) := ⟨⟨by decide +kernel, by decide +kernel⟩, List.mem_of_getElem? (i := 154) (by decide +kernel), List.mem_of_getElem? (i := 691) (by decide +kernel), List.mem_of_getElem? (i := 692) (by decide +kernel)⟩
theorem lw_p56 : lw_okq (⟨"GluedInLifetime$Slips", "gladOfAll", "(LGluedInLifetime$Thing;I)J"⟩, 1) := ⟨⟨by decide +kernel, by decide +kernel⟩, List.mem_of_getElem? (i := 154) (by decide +kernel), List.mem_of_getElem? (i := 705) (by decide +kernel), List.mem_of_getElem? (i := 706) (by decide +kernel)⟩
theorem lw_p57 : lw_okq (⟨"GluedInLifetime$Row", "tellsYearsOf", "(LGluedInLifetime$Thing;I)Z"⟩, 2) := ⟨⟨by decide +kernel, by decide +kernel⟩, List.mem_of_getElem? (i := 100) (by decide +kernel), List.mem_of_getElem? (i := 715) (by decide +kernel), List.mem_of_getElem? (i := 716) (by decide +kernel)⟩
theorem lw_p58 : lw_okq (⟨"GluedInLifetime$Row", "isFull", "()Z"⟩, 2) := ⟨⟨by decide +kernel, by decide +kernel⟩, List.mem_of_getElem? (i := 100) (by decide +kernel), List.mem_of_getElem? (i := 728) (by decide +kernel), List.mem_of_getElem? (i := 729) (by decide +kernel)⟩
theorem lw_p59 : lw_okq (⟨"GluedInLifetime$Row", "put", "(I)V"⟩, 2) := ⟨⟨by decide +kernel, by decide +kernel⟩, List.mem_of_getElem? (i := 100) (by decide +kernel), List.mem_of_getElem? (i := 732) (by decide +kernel), List.mem_of_getElem? (i := 733) (by decide +kernel)⟩
theorem lw_p60 : lw_okq (⟨"GluedInLifetime$Row", "firstNotGladOf", "(LGluedInLifetime$Thing;)I"⟩, 2) := ⟨⟨by decide +kernel, by decide +kernel⟩, List.mem_of_getElem? (i := 100) (by decide +kernel), List.mem_of_getElem? (i := 741) (by decide +kernel), List.mem_of_getElem? (i := 742) (by decide +kernel)⟩
theorem lw_p61 : lw_okq (⟨"GluedInLifetime", "glueByLot", "()V"⟩, 13) := ⟨⟨by decide +kernel, by decide +kernel⟩, List.mem_of_getElem? (i := 18) (by decide +kernel), List.mem_of_getElem? (i := 755) (by decide +kernel), List.mem_of_getElem? (i := 756) (by decide +kernel)⟩
theorem lw_p62 : lw_okq (⟨"GluedInLifetime", "draw", "(I)I"⟩, 13) := ⟨⟨by decide +kernel, by decide +kernel⟩, List.mem_of_getElem? (i := 18) (by decide +kernel), List.mem_of_getElem? (i := 759) (by decide +kernel), List.mem_of_getElem? (i := 760) (by decide +kernel)⟩
theorem lw_p63 : lw_okq (⟨"GluedInLifetime$Shop", "countHalves", "()I"⟩, 6) := ⟨⟨by decide +kernel, by decide +kernel⟩, List.mem_of_getElem? (i := 26) (by decide +kernel), List.mem_of_getElem? (i := 779) (by decide +kernel), List.mem_of_getElem? (i := 780) (by decide +kernel)⟩
def lw_privs_4 : List (MethodName × Nat) := [(⟨"GluedInLifetime$Thing", "gladdestYear", "(I)I"⟩, 4), (⟨"GluedInLifetime$Line", "begin", "(II)I"⟩, 3), (⟨"GluedInLifetime$Line", "beginOf", "(I)I"⟩, 3), (⟨"GluedInLifetime$Thing", "moreIfWashed", "(I)I"⟩, 4), (⟨"GluedInLifetime", "bothContent", "(LGluedInLifetime$Thing;III)Z"⟩, 13), (⟨"GluedInLifetime$Slips", "weigh", "(II)V"⟩, 1), (⟨"GluedInLifetime$Slips", "waysInto", "(LGluedInLifetime$Thing;II)J"⟩, 1), (⟨"GluedInLifetime$Slips", "allWays", "()J"⟩, 1), (⟨"GluedInLifetime$Slips", "gladOfAll", "(LGluedInLifetime$Thing;I)J"⟩, 1), (⟨"GluedInLifetime$Row", "tellsYearsOf", "(LGluedInLifetime$Thing;I)Z"⟩, 2), (⟨"GluedInLifetime$Row", "isFull", "()Z"⟩, 2), (⟨"GluedInLifetime$Row", "put", "(I)V"⟩, 2), (⟨"GluedInLifetime$Row", "firstNotGladOf", "(LGluedInLifetime$Thing;)I"⟩, 2), (⟨"GluedInLifetime", "glueByLot", "()V"⟩, 13), (⟨"GluedInLifetime", "draw", "(I)I"⟩, 13), (⟨"GluedInLifetime$Shop", "countHalves", "()I"⟩, 6)]
theorem lw_r4 : ∀ q ∈ lw_privs_4, lw_okq q := List.forall_mem_cons.mpr ⟨lw_p48, List.forall_mem_cons.mpr ⟨lw_p49, List.forall_mem_cons.mpr ⟨lw_p50, List.forall_mem_cons.mpr ⟨lw_p51, List.forall_mem_cons.mpr ⟨lw_p52, List.forall_mem_cons.mpr ⟨lw_p53, List.forall_mem_cons.mpr ⟨lw_p54, List.forall_mem_cons.mpr ⟨lw_p55, List.forall_mem_cons.mpr ⟨lw_p56, List.forall_mem_cons.mpr ⟨lw_p57, List.forall_mem_cons.mpr ⟨lw_p58, List.forall_mem_cons.mpr ⟨lw_p59, List.forall_mem_cons.mpr ⟨lw_p60, List.forall_mem_cons.mpr ⟨lw_p61, List.forall_mem_cons.mpr ⟨lw_p62, List.forall_mem_cons.mpr ⟨lw_p63, fun _ h => absurd h List.not_mem_nil⟩⟩⟩⟩⟩⟩⟩⟩⟩⟩⟩⟩⟩⟩⟩⟩
theorem lw_p64 : lw_okq (⟨"GluedInLifetimeModel", "no", "(I)I"⟩, 16) := ⟨⟨by decide +kernel, by decide +kernel⟩, List.mem_of_getElem? (i := 783) (by decide +kernel), List.mem_of_getElem? (i := 842) (by decide +kernel), List.mem_of_getElem? (i := 843) (by decide +kernel)⟩
theorem lw_p65 : lw_okq (⟨"GluedInLifetimeModel", "readsStatement", "()Z"⟩, 16) := ⟨⟨by decide +kernel, by decide +kernel⟩, List.mem_of_getElem? (i := 783) (by decide +kernel), List.mem_of_getElem? (i := 850) (by decide +kernel), List.mem_of_getElem? (i := 851) (by decide +kernel)⟩
theorem lw_p66 : lw_okq (⟨"GluedInLifetimeModel", "here", "()I"⟩, 16) := ⟨⟨by decide +kernel, by decide +kernel⟩, List.mem_of_getElem? (i := 783) (by decide +kernel), List.mem_of_getElem? (i := 854) (by decide +kernel), List.mem_of_getElem? (i := 855) (by decide +kernel)⟩
theorem lw_p67 : lw_okq (⟨"GluedInLifetimeModel", "readsKind", "()Z"⟩, 16) := ⟨⟨by decide +kernel, by decide +kernel⟩, List.mem_of_getElem? (i := 783) (by decide +kernel), List.mem_of_getElem? (i := 858) (by decide +kernel), List.mem_of_getElem? (i := 859) (by decide +kernel)⟩
theorem lw_p68 : lw_okq (⟨"GluedInLifetimeModel", "readsNumber", "(II)Z"⟩, 16) := ⟨⟨by decide +kernel, by decide +kernel⟩, List.mem_of_getElem? (i := 783) (by decide +kernel), List.mem_of_getElem? (i := 865) (by decide +kernel), List.mem_of_getElem? (i := 866) (by decide +kernel)⟩
theorem lw_p69 : lw_okq (⟨"GluedInLifetimeModel", "isDone", "(I)Z"⟩, 16) := ⟨⟨by decide +kernel, by decide +kernel⟩, List.mem_of_getElem? (i := 783) (by decide +kernel), List.mem_of_getElem? (i := 875) (by decide +kernel), List.mem_of_getElem? (i := 876) (by decide +kernel)⟩
theorem lw_p70 : lw_okq (⟨"GluedInLifetimeModel", "isThing", "(I)Z"⟩, 16) := ⟨⟨by decide +kernel, by decide +kernel⟩, List.mem_of_getElem? (i := 783) (by decide +kernel), List.mem_of_getElem? (i := 882) (by decide +kernel), List.mem_of_getElem? (i := 883) (by decide +kernel)⟩
theorem lw_p71 : lw_okq (⟨"GluedInLifetimeModel", "turnsHalves", "(II)V"⟩, 16) := ⟨⟨by decide +kernel, by decide +kernel⟩, List.mem_of_getElem? (i := 783) (by decide +kernel), List.mem_of_getElem? (i := 889) (by decide +kernel), List.mem_of_getElem? (i := 890) (by decide +kernel)⟩
theorem lw_p72 : lw_okq (⟨"GluedInLifetimeModel", "canGlue", "(I)Z"⟩, 16) := ⟨⟨by decide +kernel, by decide +kernel⟩, List.mem_of_getElem? (i := 783) (by decide +kernel), List.mem_of_getElem? (i := 893) (by decide +kernel), List.mem_of_getElem? (i := 894) (by decide +kernel)⟩
theorem lw_p73 : lw_okq (⟨"GluedInLifetimeModel", "gluesTo", "(III)I"⟩, 16) := ⟨⟨by decide +kernel, by decide +kernel⟩, List.mem_of_getElem? (i := 783) (by decide +kernel), List.mem_of_getElem? (i := 900) (by decide +kernel), List.mem_of_getElem? (i := 901) (by decide +kernel)⟩
theorem lw_p74 : lw_okq (⟨"GluedInLifetimeModel", "areTwo", "(II)Z"⟩, 16) := ⟨⟨by decide +kernel, by decide +kernel⟩, List.mem_of_getElem? (i := 783) (by decide +kernel), List.mem_of_getElem? (i := 934) (by decide +kernel), List.mem_of_getElem? (i := 935) (by decide +kernel)⟩
theorem lw_p75 : lw_okq (⟨"GluedInLifetimeModel", "wrongGlue", "(III)I"⟩, 16) := ⟨⟨by decide +kernel, by decide +kernel⟩, List.mem_of_getElem? (i := 783) (by decide +kernel), List.mem_of_getElem? (i := 966) (by decide +kernel), List.mem_of_getElem? (i := 967) (by decide +kernel)⟩
theorem lw_p76 : lw_okq (⟨"GluedInLifetimeModel", "agreeMany", "([I)I"⟩, 16) := ⟨⟨by decide +kernel, by decide +kernel⟩, List.mem_of_getElem? (i := 783) (by decide +kernel), List.mem_of_getElem? (i := 1003) (by decide +kernel), List.mem_of_getElem? (i := 1004) (by decide +kernel)⟩
theorem lw_p77 : lw_okq (⟨"GluedInLifetimeModel", "doAgree", "([III)Z"⟩, 16) := ⟨⟨by decide +kernel, by decide +kernel⟩, List.mem_of_getElem? (i := 783) (by decide +kernel), List.mem_of_getElem? (i := 1007) (by decide +kernel), List.mem_of_getElem? (i := 1008) (by decide +kernel)⟩
theorem lw_p78 : lw_okq (⟨"GluedInLifetimeModel", "mostBy", "([II)I"⟩, 16) := ⟨⟨by decide +kernel, by decide +kernel⟩, List.mem_of_getElem? (i := 783) (by decide +kernel), List.mem_of_getElem? (i := 1015) (by decide +kernel), List.mem_of_getElem? (i := 1016) (by decide +kernel)⟩
theorem lw_p79 : lw_okq (⟨"GluedInLifetimeModel", "gladdest", "(I)I"⟩, 16) := ⟨⟨by decide +kernel, by decide +kernel⟩, List.mem_of_getElem? (i := 783) (by decide +kernel), List.mem_of_getElem? (i := 1036) (by decide +kernel), List.mem_of_getElem? (i := 1037) (by decide +kernel)⟩
def lw_privs_5 : List (MethodName × Nat) := [(⟨"GluedInLifetimeModel", "no", "(I)I"⟩, 16), (⟨"GluedInLifetimeModel", "readsStatement", "()Z"⟩, 16), (⟨"GluedInLifetimeModel", "here", "()I"⟩, 16), (⟨"GluedInLifetimeModel", "readsKind", "()Z"⟩, 16), (⟨"GluedInLifetimeModel", "readsNumber", "(II)Z"⟩, 16), (⟨"GluedInLifetimeModel", "isDone", "(I)Z"⟩, 16), (⟨"GluedInLifetimeModel", "isThing", "(I)Z"⟩, 16), (⟨"GluedInLifetimeModel", "turnsHalves", "(II)V"⟩, 16), (⟨"GluedInLifetimeModel", "canGlue", "(I)Z"⟩, 16), (⟨"GluedInLifetimeModel", "gluesTo", "(III)I"⟩, 16), (⟨"GluedInLifetimeModel", "areTwo", "(II)Z"⟩, 16), (⟨"GluedInLifetimeModel", "wrongGlue", "(III)I"⟩, 16), (⟨"GluedInLifetimeModel", "agreeMany", "([I)I"⟩, 16), (⟨"GluedInLifetimeModel", "doAgree", "([III)Z"⟩, 16), (⟨"GluedInLifetimeModel", "mostBy", "([II)I"⟩, 16), (⟨"GluedInLifetimeModel", "gladdest", "(I)I"⟩, 16)]
theorem lw_r5 : ∀ q ∈ lw_privs_5, lw_okq q := List.forall_mem_cons.mpr ⟨lw_p64, List.forall_mem_cons.mpr ⟨lw_p65, List.forall_mem_cons.mpr ⟨lw_p66, List.forall_mem_cons.mpr ⟨lw_p67, List.forall_mem_cons.mpr ⟨lw_p68, List.forall_mem_cons.mpr ⟨lw_p69, List.forall_mem_cons.mpr ⟨lw_p70, List.forall_mem_cons.mpr ⟨lw_p71, List.forall_mem_cons.mpr ⟨lw_p72, List.forall_mem_cons.mpr ⟨lw_p73, List.forall_mem_cons.mpr ⟨lw_p74, List.forall_mem_cons.mpr ⟨lw_p75, List.forall_mem_cons.mpr ⟨lw_p76, List.forall_mem_cons.mpr ⟨lw_p77, List.forall_mem_cons.mpr ⟨lw_p78, List.forall_mem_cons.mpr ⟨lw_p79, fun _ h => absurd h List.not_mem_nil⟩⟩⟩⟩⟩⟩⟩⟩⟩⟩⟩⟩⟩⟩⟩⟩
theorem lw_p80 : lw_okq (⟨"GluedInLifetimeModel", "noFar", "(I)I"⟩, 16) := ⟨⟨by decide +kernel, by decide +kernel⟩, List.mem_of_getElem? (i := 783) (by decide +kernel), List.mem_of_getElem? (i := 1055) (by decide +kernel), List.mem_of_getElem? (i := 1056) (by decide +kernel)⟩
theorem lw_p81 : lw_okq (⟨"GluedInLifetimeModel", "waterOf", "(I)I"⟩, 16) := ⟨⟨by decide +kernel, by decide +kernel⟩, List.mem_of_getElem? (i := 783) (by decide +kernel), List.mem_of_getElem? (i := 1059) (by decide +kernel), List.mem_of_getElem? (i := 1060) (by decide +kernel)⟩
theorem lw_p82 : lw_okq (⟨"GluedInLifetimeModel", "noWide", "(I)J"⟩, 16) := ⟨⟨by decide +kernel, by decide +kernel⟩, List.mem_of_getElem? (i := 783) (by decide +kernel), List.mem_of_getElem? (i := 1083) (by decide +kernel), List.mem_of_getElem? (i := 1084) (by decide +kernel)⟩
theorem lw_p83 : lw_okq (⟨"GluedInLifetimeModel", "slips", "(IIII)J"⟩, 16) := ⟨⟨by decide +kernel, by decide +kernel⟩, List.mem_of_getElem? (i := 783) (by decide +kernel), List.mem_of_getElem? (i := 1088) (by decide +kernel), List.mem_of_getElem? (i := 1089) (by decide +kernel)⟩
theorem lw_p84 : lw_okq (⟨"GluedInLifetimeModel", "drawn", "(I)I"⟩, 16) := ⟨⟨by decide +kernel, by decide +kernel⟩, List.mem_of_getElem? (i := 783) (by decide +kernel), List.mem_of_getElem? (i := 1132) (by decide +kernel), List.mem_of_getElem? (i := 1133) (by decide +kernel)⟩
def lw_privs_6 : List (MethodName × Nat) := [(⟨"GluedInLifetimeModel", "noFar", "(I)I"⟩, 16), (⟨"GluedInLifetimeModel", "waterOf", "(I)I"⟩, 16), (⟨"GluedInLifetimeModel", "noWide", "(I)J"⟩, 16), (⟨"GluedInLifetimeModel", "slips", "(IIII)J"⟩, 16), (⟨"GluedInLifetimeModel", "drawn", "(I)I"⟩, 16)]
theorem lw_r6 : ∀ q ∈ lw_privs_6, lw_okq q := List.forall_mem_cons.mpr ⟨lw_p80, List.forall_mem_cons.mpr ⟨lw_p81, List.forall_mem_cons.mpr ⟨lw_p82, List.forall_mem_cons.mpr ⟨lw_p83, List.forall_mem_cons.mpr ⟨lw_p84, fun _ h => absurd h List.not_mem_nil⟩⟩⟩⟩⟩
def lw_privs : List (MethodName × Nat) := lw_privs_1 ++ (lw_privs_2 ++ (lw_privs_3 ++ (lw_privs_4 ++ (lw_privs_5 ++ (lw_privs_6)))))
def lw_tbl : List Cond := k2_sels lw_privs ++ tables_1
theorem lw_privs_ok : ∀ q ∈ lw_privs, lw_okq q := by
  show ∀ q ∈ lw_privs_1 ++ (lw_privs_2 ++ (lw_privs_3 ++ (lw_privs_4 ++ (lw_privs_5 ++ (lw_privs_6))))), lw_okq q
  exact List.forall_mem_append.mpr ⟨lw_r1, List.forall_mem_append.mpr ⟨lw_r2, List.forall_mem_append.mpr ⟨lw_r3, List.forall_mem_append.mpr ⟨lw_r4, List.forall_mem_append.mpr ⟨lw_r5, lw_r6⟩⟩⟩⟩⟩
end
section
def RX0 : String := "GluedInLifetime$Line"
def TX0 : u_T := fun k => match k with
  | 0 => ("GluedInLifetime$Line", "begins", "[I", true)
  | 1 => ("GluedInLifetime$Line", "free", "[I", true)
  | _ => ("GluedInLifetime$Line", "done", "I", false)
def tyX0 : Nat → FieldType := fun k => match k with
  | 0 => .array .int
  | 1 => .array .int
  | _ => .int
abbrev wsX00 : List Cond := u_ws RX0 TX0 3
theorem nmX0 : ∀ a, a < 3 → ∀ b, b < 3 → a ≠ b → (TX0 a).2.1 ≠ (TX0 b).2.1 := by decide +kernel
theorem tyX0_ok : ∀ k, k < 3 → parseFieldDescriptor (TX0 k).2.2.1 = some (tyX0 k) := by decide +kernel
abbrev cX0_init : ByteArray := prog_2_method_1_code
def yX0_init : MethodName := ⟨RX0, "<init>", "()V"⟩
abbrev cX0_arrange : ByteArray := prog_2_method_2_code
def yX0_arrange : MethodName := ⟨RX0, "arrange", "(LGluedInLifetime$Shop;)V"⟩
abbrev cX0_begin : ByteArray := prog_2_method_3_code
def yX0_begin : MethodName := ⟨RX0, "begin", "(II)I"⟩
abbrev cX0_beginOf : ByteArray := prog_2_method_4_code
def yX0_beginOf : MethodName := ⟨RX0, "beginOf", "(I)I"⟩
def RX1 : String := "GluedInLifetime$Pot"
def TX1 : u_T := fun k => match k with
  | 0 => ("GluedInLifetime$Pot", "gains", "[I", true)
  | 1 => ("GluedInLifetime$Pot", "costs", "[I", true)
  | 2 => ("GluedInLifetime$Pot", "barred", "I", false)
  | 3 => ("GluedInLifetime$Pot", "ends", "I", false)
  | _ => ("GluedInLifetime$Pot", "left", "I", false)
def tyX1 : Nat → FieldType := fun k => match k with
  | 0 => .array .int
  | 1 => .array .int
  | 2 => .int
  | 3 => .int
  | _ => .int
abbrev wsX10 : List Cond := u_ws RX1 TX1 5
theorem nmX1 : ∀ a, a < 5 → ∀ b, b < 5 → a ≠ b → (TX1 a).2.1 ≠ (TX1 b).2.1 := by decide +kernel
theorem tyX1_ok : ∀ k, k < 5 → parseFieldDescriptor (TX1 k).2.2.1 = some (tyX1 k) := by decide +kernel
abbrev cX1_init : ByteArray := prog_3_method_1_code
def yX1_init : MethodName := ⟨RX1, "<init>", "()V"⟩
abbrev cX1_weigh : ByteArray := prog_3_method_2_code
def yX1_weigh : MethodName := ⟨RX1, "weigh", "(LGluedInLifetime$Shop;I)V"⟩
abbrev cX1_gainOf : ByteArray := prog_3_method_3_code
def yX1_gainOf : MethodName := ⟨RX1, "gainOf", "(I)I"⟩
abbrev cX1_bestBits : ByteArray := prog_3_method_4_code
def yX1_bestBits : MethodName := ⟨RX1, "bestBits", "(I)I"⟩
abbrev cX1_fewestFor : ByteArray := prog_3_method_5_code
def yX1_fewestFor : MethodName := ⟨RX1, "fewestFor", "(I)I"⟩
abbrev cX1_sumOver : ByteArray := prog_3_method_6_code
def yX1_sumOver : MethodName := ⟨RX1, "sumOver", "(I[I)I"⟩
def RX2 : String := "GluedInLifetime$Row"
def TX2 : u_T := fun k => match k with
  | 0 => ("GluedInLifetime$Row", "numbers", "[I", true)
  | _ => ("GluedInLifetime$Row", "length", "I", false)
def tyX2 : Nat → FieldType := fun k => match k with
  | 0 => .array .int
  | _ => .int
abbrev wsX20 : List Cond := u_ws RX2 TX2 2
theorem nmX2 : ∀ a, a < 2 → ∀ b, b < 2 → a ≠ b → (TX2 a).2.1 ≠ (TX2 b).2.1 := by decide +kernel
theorem tyX2_ok : ∀ k, k < 2 → parseFieldDescriptor (TX2 k).2.2.1 = some (tyX2 k) := by decide +kernel
abbrev cX2_init : ByteArray := prog_4_method_1_code
def yX2_init : MethodName := ⟨RX2, "<init>", "()V"⟩
abbrev cX2_isFull : ByteArray := prog_4_method_2_code
def yX2_isFull : MethodName := ⟨RX2, "isFull", "()Z"⟩
abbrev cX2_put : ByteArray := prog_4_method_3_code
def yX2_put : MethodName := ⟨RX2, "put", "(I)V"⟩
abbrev cX2_tellsYearsOf : ByteArray := prog_4_method_4_code
def yX2_tellsYearsOf : MethodName := ⟨RX2, "tellsYearsOf", "(LGluedInLifetime$Thing;I)Z"⟩
abbrev cX2_firstNotGladOf : ByteArray := prog_4_method_5_code
def yX2_firstNotGladOf : MethodName := ⟨RX2, "firstNotGladOf", "(LGluedInLifetime$Thing;)I"⟩
def RX3 : String := "GluedInLifetime$Shop"
def TX3 : u_T := fun k => match k with
  | 0 => ("GluedInLifetime$Shop", "size", "I", false)
  | 1 => ("GluedInLifetime$Shop", "now", "I", false)
  | 2 => ("GluedInLifetime$Shop", "drops", "I", false)
  | 3 => ("GluedInLifetime$Shop", "hands", "I", false)
  | 4 => ("GluedInLifetime$Shop", "things", "[LGluedInLifetime$Thing;", true)
  | _ => ("GluedInLifetime$Shop", "others", "[I", true)
def tyX3 : Nat → FieldType := fun k => match k with
  | 0 => .int
  | 1 => .int
  | 2 => .int
  | 3 => .int
  | 4 => .array (.object "GluedInLifetime$Thing")
  | _ => .array .int
abbrev wsX30 : List Cond := u_ws RX3 TX3 6
theorem nmX3 : ∀ a, a < 6 → ∀ b, b < 6 → a ≠ b → (TX3 a).2.1 ≠ (TX3 b).2.1 := by decide +kernel
theorem tyX3_ok : ∀ k, k < 6 → parseFieldDescriptor (TX3 k).2.2.1 = some (tyX3 k) := by decide +kernel
abbrev cX3_init : ByteArray := prog_5_method_1_code
def yX3_init : MethodName := ⟨RX3, "<init>", "()V"⟩
abbrev cX3_copyFrom : ByteArray := prog_5_method_2_code
def yX3_copyFrom : MethodName := ⟨RX3, "copyFrom", "(LGluedInLifetime$Shop;)V"⟩
abbrev cX3_lacks : ByteArray := prog_5_method_3_code
def yX3_lacks : MethodName := ⟨RX3, "lacks", "(I)Z"⟩
abbrev cX3_lacksTwo : ByteArray := prog_5_method_4_code
def yX3_lacksTwo : MethodName := ⟨RX3, "lacksTwo", "(II)Z"⟩
abbrev cX3_at : ByteArray := prog_5_method_5_code
def yX3_at : MethodName := ⟨RX3, "at", "(I)LGluedInLifetime$Thing;"⟩
abbrev cX3_add : ByteArray := prog_5_method_6_code
def yX3_add : MethodName := ⟨RX3, "add", "(II)Z"⟩
abbrev cX3_makeGlad : ByteArray := prog_5_method_7_code
def yX3_makeGlad : MethodName := ⟨RX3, "makeGlad", "(IIII)Z"⟩
abbrev cX3_moveTo : ByteArray := prog_5_method_8_code
def yX3_moveTo : MethodName := ⟨RX3, "moveTo", "(I)Z"⟩
abbrev cX3_areHalves : ByteArray := prog_5_method_9_code
def yX3_areHalves : MethodName := ⟨RX3, "areHalves", "(II)Z"⟩
abbrev cX3_turnHalves : ByteArray := prog_5_method_10_code
def yX3_turnHalves : MethodName := ⟨RX3, "turnHalves", "(II)Z"⟩
abbrev cX3_glue : ByteArray := prog_5_method_11_code
def yX3_glue : MethodName := ⟨RX3, "glue", "(III)Z"⟩
abbrev cX3_gladTogether : ByteArray := prog_5_method_12_code
def yX3_gladTogether : MethodName := ⟨RX3, "gladTogether", "(I)I"⟩
abbrev cX3_setBits : ByteArray := prog_5_method_13_code
def yX3_setBits : MethodName := ⟨RX3, "setBits", "()I"⟩
abbrev cX3_countHalves : ByteArray := prog_5_method_14_code
def yX3_countHalves : MethodName := ⟨RX3, "countHalves", "()I"⟩
abbrev cX3_countAgreeing : ByteArray := prog_5_method_15_code
def yX3_countAgreeing : MethodName := ⟨RX3, "countAgreeing", "()I"⟩
abbrev cX3_firstApart : ByteArray := prog_5_method_16_code
def yX3_firstApart : MethodName := ⟨RX3, "firstApart", "()I"⟩
abbrev cX3_setInOneYear : ByteArray := prog_5_method_17_code
def yX3_setInOneYear : MethodName := ⟨RX3, "setInOneYear", "(II)Z"⟩
def RX4 : String := "GluedInLifetime$Slips"
def TX4 : u_T := fun k => match k with
  | _ => ("GluedInLifetime$Slips", "ways", "[J", true)
def tyX4 : Nat → FieldType := fun k => match k with
  | _ => .array .long
abbrev wsX40 : List Cond := u_ws RX4 TX4 1
theorem nmX4 : ∀ a, a < 1 → ∀ b, b < 1 → a ≠ b → (TX4 a).2.1 ≠ (TX4 b).2.1 := by decide +kernel
theorem tyX4_ok : ∀ k, k < 1 → parseFieldDescriptor (TX4 k).2.2.1 = some (tyX4 k) := by decide +kernel
abbrev cX4_init : ByteArray := prog_6_method_1_code
def yX4_init : MethodName := ⟨RX4, "<init>", "()V"⟩
abbrev cX4_weigh : ByteArray := prog_6_method_2_code
def yX4_weigh : MethodName := ⟨RX4, "weigh", "(II)V"⟩
abbrev cX4_allWays : ByteArray := prog_6_method_3_code
def yX4_allWays : MethodName := ⟨RX4, "allWays", "()J"⟩
abbrev cX4_waysInto : ByteArray := prog_6_method_4_code
def yX4_waysInto : MethodName := ⟨RX4, "waysInto", "(LGluedInLifetime$Thing;II)J"⟩
abbrev cX4_gladOfAll : ByteArray := prog_6_method_5_code
def yX4_gladOfAll : MethodName := ⟨RX4, "gladOfAll", "(LGluedInLifetime$Thing;I)J"⟩
def RX5 : String := "GluedInLifetime$Text"
def TX5 : u_T := fun k => match k with
  | 0 => ("GluedInLifetime$Text", "letters", "[I", true)
  | _ => ("GluedInLifetime$Text", "length", "I", false)
def tyX5 : Nat → FieldType := fun k => match k with
  | 0 => .array .int
  | _ => .int
abbrev wsX50 : List Cond := u_ws RX5 TX5 2
theorem nmX5 : ∀ a, a < 2 → ∀ b, b < 2 → a ≠ b → (TX5 a).2.1 ≠ (TX5 b).2.1 := by decide +kernel
theorem tyX5_ok : ∀ k, k < 2 → parseFieldDescriptor (TX5 k).2.2.1 = some (tyX5 k) := by decide +kernel
abbrev cX5_init : ByteArray := prog_7_method_1_code
def yX5_init : MethodName := ⟨RX5, "<init>", "()V"⟩
abbrev cX5_isFull : ByteArray := prog_7_method_2_code
def yX5_isFull : MethodName := ⟨RX5, "isFull", "()Z"⟩
abbrev cX5_put : ByteArray := prog_7_method_3_code
def yX5_put : MethodName := ⟨RX5, "put", "(I)V"⟩
abbrev cX5_letterAt : ByteArray := prog_7_method_4_code
def yX5_letterAt : MethodName := ⟨RX5, "letterAt", "(I)I"⟩
abbrev cX5_isDigit : ByteArray := prog_7_method_5_code
def yX5_isDigit : MethodName := ⟨RX5, "isDigit", "(I)Z"⟩
abbrev cX5_kindAt : ByteArray := prog_7_method_6_code
def yX5_kindAt : MethodName := ⟨RX5, "kindAt", "(I)I"⟩
abbrev cX5_number : ByteArray := prog_7_method_7_code
def yX5_number : MethodName := ⟨RX5, "number", "(II)I"⟩
abbrev cX5_partsOf : ByteArray := prog_7_method_8_code
def yX5_partsOf : MethodName := ⟨RX5, "partsOf", "(I)I"⟩
abbrev cX5_behindStatement : ByteArray := prog_7_method_9_code
def yX5_behindStatement : MethodName := ⟨RX5, "behindStatement", "(I)I"⟩
abbrev cX5_firstMisfit : ByteArray := prog_7_method_10_code
def yX5_firstMisfit : MethodName := ⟨RX5, "firstMisfit", "()I"⟩
abbrev cX5_misfitOfStatement : ByteArray := prog_7_method_11_code
def yX5_misfitOfStatement : MethodName := ⟨RX5, "misfitOfStatement", "(I)I"⟩
def RX6 : String := "GluedInLifetime$Thing"
def TX6 : u_T := fun k => match k with
  | 0 => ("GluedInLifetime$Thing", "kind", "I", false)
  | 1 => ("GluedInLifetime$Thing", "figure", "I", false)
  | 2 => ("GluedInLifetime$Thing", "set", "I", false)
  | _ => ("GluedInLifetime$Thing", "glad", "[I", true)
def tyX6 : Nat → FieldType := fun k => match k with
  | 0 => .int
  | 1 => .int
  | 2 => .int
  | _ => .array .int
abbrev wsX60 : List Cond := u_ws RX6 TX6 4
theorem nmX6 : ∀ a, a < 4 → ∀ b, b < 4 → a ≠ b → (TX6 a).2.1 ≠ (TX6 b).2.1 := by decide +kernel
theorem tyX6_ok : ∀ k, k < 4 → parseFieldDescriptor (TX6 k).2.2.1 = some (tyX6 k) := by decide +kernel
abbrev cX6_init : ByteArray := prog_8_method_1_code
def yX6_init : MethodName := ⟨RX6, "<init>", "()V"⟩
abbrev cX6_copyFrom : ByteArray := prog_8_method_2_code
def yX6_copyFrom : MethodName := ⟨RX6, "copyFrom", "(LGluedInLifetime$Thing;)V"⟩
abbrev cX6_begin : ByteArray := prog_8_method_3_code
def yX6_begin : MethodName := ⟨RX6, "begin", "(II)V"⟩
abbrev cX6_isSet : ByteArray := prog_8_method_4_code
def yX6_isSet : MethodName := ⟨RX6, "isSet", "()Z"⟩
abbrev cX6_gladIn : ByteArray := prog_8_method_5_code
def yX6_gladIn : MethodName := ⟨RX6, "gladIn", "(I)I"⟩
abbrev cX6_makeGlad : ByteArray := prog_8_method_6_code
def yX6_makeGlad : MethodName := ⟨RX6, "makeGlad", "(II)V"⟩
abbrev cX6_howGlad : ByteArray := prog_8_method_7_code
def yX6_howGlad : MethodName := ⟨RX6, "howGlad", "(I)I"⟩
abbrev cX6_moreIfWashed : ByteArray := prog_8_method_8_code
def yX6_moreIfWashed : MethodName := ⟨RX6, "moreIfWashed", "(I)I"⟩
abbrev cX6_cost : ByteArray := prog_8_method_9_code
def yX6_cost : MethodName := ⟨RX6, "cost", "()I"⟩
abbrev cX6_reach : ByteArray := prog_8_method_10_code
def yX6_reach : MethodName := ⟨RX6, "reach", "(II)I"⟩
abbrev cX6_counts : ByteArray := prog_8_method_11_code
def yX6_counts : MethodName := ⟨RX6, "counts", "(II)I"⟩
abbrev cX6_yearBy : ByteArray := prog_8_method_12_code
def yX6_yearBy : MethodName := ⟨RX6, "yearBy", "(III)I"⟩
abbrev cX6_fewestFor : ByteArray := prog_8_method_13_code
def yX6_fewestFor : MethodName := ⟨RX6, "fewestFor", "(II)I"⟩
abbrev cX6_gladdestBy : ByteArray := prog_8_method_14_code
def yX6_gladdestBy : MethodName := ⟨RX6, "gladdestBy", "(I)I"⟩
abbrev cX6_gladdestYear : ByteArray := prog_8_method_15_code
def yX6_gladdestYear : MethodName := ⟨RX6, "gladdestYear", "(I)I"⟩
def RX7 : String := "GluedInLifetime"
def TX7 : u_T := fun k => match k with
  | 0 => ("GluedInLifetime", "here", "LGluedInLifetime$Shop;", true)
  | 1 => ("GluedInLifetime", "then", "LGluedInLifetime$Shop;", true)
  | 2 => ("GluedInLifetime", "trial", "LGluedInLifetime$Shop;", true)
  | 3 => ("GluedInLifetime", "probe", "LGluedInLifetime$Thing;", true)
  | 4 => ("GluedInLifetime", "text", "LGluedInLifetime$Text;", true)
  | 5 => ("GluedInLifetime", "told", "LGluedInLifetime$Row;", true)
  | 6 => ("GluedInLifetime", "pot", "LGluedInLifetime$Pot;", true)
  | 7 => ("GluedInLifetime", "line", "LGluedInLifetime$Line;", true)
  | 8 => ("GluedInLifetime", "slips", "LGluedInLifetime$Slips;", true)
  | 9 => ("GluedInLifetime", "mostBySteps", "[I", true)
  | 10 => ("GluedInLifetime", "refusals", "[I", true)
  | 11 => ("GluedInLifetime", "hasImage", "Z", false)
  | _ => ("GluedInLifetime", "seed", "I", false)
def tyX7 : Nat → FieldType := fun k => match k with
  | 0 => .object "GluedInLifetime$Shop"
  | 1 => .object "GluedInLifetime$Shop"
  | 2 => .object "GluedInLifetime$Shop"
  | 3 => .object "GluedInLifetime$Thing"
  | 4 => .object "GluedInLifetime$Text"
  | 5 => .object "GluedInLifetime$Row"
  | 6 => .object "GluedInLifetime$Pot"
  | 7 => .object "GluedInLifetime$Line"
  | 8 => .object "GluedInLifetime$Slips"
  | 9 => .array .int
  | 10 => .array .int
  | 11 => .boolean
  | _ => .int
abbrev wsX70 : List Cond := u_ws RX7 TX7 13
theorem nmX7 : ∀ a, a < 13 → ∀ b, b < 13 → a ≠ b → (TX7 a).2.1 ≠ (TX7 b).2.1 := by decide +kernel
theorem tyX7_ok : ∀ k, k < 13 → parseFieldDescriptor (TX7 k).2.2.1 = some (tyX7 k) := by decide +kernel
abbrev cX7_init : ByteArray := prog_1_method_1_code
def yX7_init : MethodName := ⟨RX7, "<init>", "()V"⟩
abbrev cX7_letter : ByteArray := prog_1_method_2_code
def yX7_letter : MethodName := ⟨RX7, "letter", "(I)I"⟩
abbrev cX7_shop : ByteArray := prog_1_method_3_code
def yX7_shop : MethodName := ⟨RX7, "shop", "()I"⟩
abbrev cX7_thing : ByteArray := prog_1_method_4_code
def yX7_thing : MethodName := ⟨RX7, "thing", "(II)I"⟩
abbrev cX7_glad : ByteArray := prog_1_method_5_code
def yX7_glad : MethodName := ⟨RX7, "glad", "(II)I"⟩
abbrev cX7_halves : ByteArray := prog_1_method_6_code
def yX7_halves : MethodName := ⟨RX7, "halves", "(II)I"⟩
abbrev cX7_turn : ByteArray := prog_1_method_7_code
def yX7_turn : MethodName := ⟨RX7, "turn", "(III)I"⟩
abbrev cX7_makes : ByteArray := prog_1_method_8_code
def yX7_makes : MethodName := ⟨RX7, "makes", "(III)I"⟩
abbrev cX7_pairs : ByteArray := prog_1_method_9_code
def yX7_pairs : MethodName := ⟨RX7, "pairs", "(II)I"⟩
abbrev cX7_now : ByteArray := prog_1_method_10_code
def yX7_now : MethodName := ⟨RX7, "now", "(I)I"⟩
abbrev cX7_hands : ByteArray := prog_1_method_11_code
def yX7_hands : MethodName := ⟨RX7, "hands", "(I)I"⟩
abbrev cX7_pours : ByteArray := prog_1_method_12_code
def yX7_pours : MethodName := ⟨RX7, "pours", "(I)I"⟩
abbrev cX7_glues : ByteArray := prog_1_method_13_code
def yX7_glues : MethodName := ⟨RX7, "glues", "(III)I"⟩
abbrev cX7_washes : ByteArray := prog_1_method_14_code
def yX7_washes : MethodName := ⟨RX7, "washes", "(I)I"⟩
abbrev cX7_would : ByteArray := prog_1_method_15_code
def yX7_would : MethodName := ⟨RX7, "would", "(IIII)I"⟩
abbrev cX7_can : ByteArray := prog_1_method_16_code
def yX7_can : MethodName := ⟨RX7, "can", "(I)I"⟩
abbrev cX7_fewest : ByteArray := prog_1_method_17_code
def yX7_fewest : MethodName := ⟨RX7, "fewest", "(II)I"⟩
abbrev cX7_gladness : ByteArray := prog_1_method_18_code
def yX7_gladness : MethodName := ⟨RX7, "gladness", "()I"⟩
abbrev cX7_agree : ByteArray := prog_1_method_19_code
def yX7_agree : MethodName := ⟨RX7, "agree", "(I)I"⟩
abbrev cX7_most : ByteArray := prog_1_method_20_code
def yX7_most : MethodName := ⟨RX7, "most", "(I)I"⟩
abbrev cX7_byMinutes : ByteArray := prog_1_method_21_code
def yX7_byMinutes : MethodName := ⟨RX7, "byMinutes", "(I)I"⟩
abbrev cX7_fewDrops : ByteArray := prog_1_method_22_code
def yX7_fewDrops : MethodName := ⟨RX7, "fewDrops", "()I"⟩
abbrev cX7_together : ByteArray := prog_1_method_23_code
def yX7_together : MethodName := ⟨RX7, "together", "(III)I"⟩
abbrev cX7_queue : ByteArray := prog_1_method_24_code
def yX7_queue : MethodName := ⟨RX7, "queue", "(I)I"⟩
abbrev cX7_oneMore : ByteArray := prog_1_method_25_code
def yX7_oneMore : MethodName := ⟨RX7, "oneMore", "()I"⟩
abbrev cX7_bestYear : ByteArray := prog_1_method_26_code
def yX7_bestYear : MethodName := ⟨RX7, "bestYear", "()I"⟩
abbrev cX7_water : ByteArray := prog_1_method_27_code
def yX7_water : MethodName := ⟨RX7, "water", "(I)I"⟩
abbrev cX7_bestWash : ByteArray := prog_1_method_28_code
def yX7_bestWash : MethodName := ⟨RX7, "bestWash", "()I"⟩
abbrev cX7_sour : ByteArray := prog_1_method_29_code
def yX7_sour : MethodName := ⟨RX7, "sour", "()I"⟩
abbrev cX7_regret : ByteArray := prog_1_method_30_code
def yX7_regret : MethodName := ⟨RX7, "regret", "(I)I"⟩
abbrev cX7_two : ByteArray := prog_1_method_31_code
def yX7_two : MethodName := ⟨RX7, "two", "(II)I"⟩
abbrev cX7_slip : ByteArray := prog_1_method_32_code
def yX7_slip : MethodName := ⟨RX7, "slip", "(IIIII)J"⟩
abbrev cX7_mean : ByteArray := prog_1_method_33_code
def yX7_mean : MethodName := ⟨RX7, "mean", "(IIII)J"⟩
abbrev cX7_whatWas : ByteArray := prog_1_method_34_code
def yX7_whatWas : MethodName := ⟨RX7, "whatWas", "(II)I"⟩
abbrev cX7_mended : ByteArray := prog_1_method_35_code
def yX7_mended : MethodName := ⟨RX7, "mended", "(III)I"⟩
abbrev cX7_row : ByteArray := prog_1_method_36_code
def yX7_row : MethodName := ⟨RX7, "row", "(I)I"⟩
abbrev cX7_judge : ByteArray := prog_1_method_37_code
def yX7_judge : MethodName := ⟨RX7, "judge", "(I)I"⟩
abbrev cX7_clear : ByteArray := prog_1_method_38_code
def yX7_clear : MethodName := ⟨RX7, "clear", "()I"⟩
abbrev cX7_lots : ByteArray := prog_1_method_39_code
def yX7_lots : MethodName := ⟨RX7, "lots", "(III)I"⟩
abbrev cX7_image : ByteArray := prog_1_method_40_code
def yX7_image : MethodName := ⟨RX7, "image", "()I"⟩
abbrev cX7_on : ByteArray := prog_1_method_41_code
def yX7_on : MethodName := ⟨RX7, "on", "()I"⟩
abbrev cX7_count : ByteArray := prog_1_method_42_code
def yX7_count : MethodName := ⟨RX7, "count", "(I)I"⟩
abbrev cX7_refuse : ByteArray := prog_1_method_43_code
def yX7_refuse : MethodName := ⟨RX7, "refuse", "(I)I"⟩
abbrev cX7_noYear : ByteArray := prog_1_method_44_code
def yX7_noYear : MethodName := ⟨RX7, "noYear", "(I)Z"⟩
abbrev cX7_notOneOfTwo : ByteArray := prog_1_method_45_code
def yX7_notOneOfTwo : MethodName := ⟨RX7, "notOneOfTwo", "(I)Z"⟩
abbrev cX7_outside : ByteArray := prog_1_method_46_code
def yX7_outside : MethodName := ⟨RX7, "outside", "(III)I"⟩
abbrev cX7_heldRefusal : ByteArray := prog_1_method_47_code
def yX7_heldRefusal : MethodName := ⟨RX7, "heldRefusal", "(III)I"⟩
abbrev cX7_slipRefusal : ByteArray := prog_1_method_48_code
def yX7_slipRefusal : MethodName := ⟨RX7, "slipRefusal", "(III)I"⟩
abbrev cX7_tellTrial : ByteArray := prog_1_method_49_code
def yX7_tellTrial : MethodName := ⟨RX7, "tellTrial", "()I"⟩
abbrev cX7_tellStatement : ByteArray := prog_1_method_50_code
def yX7_tellStatement : MethodName := ⟨RX7, "tellStatement", "(I)Z"⟩
abbrev cX7_spendSteps : ByteArray := prog_1_method_51_code
def yX7_spendSteps : MethodName := ⟨RX7, "spendSteps", "(LGluedInLifetime$Thing;)V"⟩
abbrev cX7_minutesOfBoth : ByteArray := prog_1_method_52_code
def yX7_minutesOfBoth : MethodName := ⟨RX7, "minutesOfBoth", "(LGluedInLifetime$Thing;LGluedInLifetime$Thing;I)I"⟩
abbrev cX7_bothContent : ByteArray := prog_1_method_53_code
def yX7_bothContent : MethodName := ⟨RX7, "bothContent", "(LGluedInLifetime$Thing;III)Z"⟩
abbrev cX7_glueByLot : ByteArray := prog_1_method_54_code
def yX7_glueByLot : MethodName := ⟨RX7, "glueByLot", "()V"⟩
abbrev cX7_draw : ByteArray := prog_1_method_55_code
def yX7_draw : MethodName := ⟨RX7, "draw", "(I)I"⟩
abbrev cX7_partOf : ByteArray := prog_1_method_56_code
def yX7_partOf : MethodName := ⟨RX7, "partOf", "(JJI)J"⟩
abbrev cX7_commonDivisor : ByteArray := prog_1_method_57_code
def yX7_commonDivisor : MethodName := ⟨RX7, "commonDivisor", "(JJ)J"⟩
def RX8 : String := "GluedInLifetimeModel"
def TX8 : u_T := fun k => match k with
  | 0 => ("GluedInLifetimeModel", "s", "[I", true)
  | 1 => ("GluedInLifetimeModel", "m", "[I", true)
  | 2 => ("GluedInLifetimeModel", "image", "[I", true)
  | 3 => ("GluedInLifetimeModel", "was", "[I", true)
  | 4 => ("GluedInLifetimeModel", "hasImage", "Z", false)
  | 5 => ("GluedInLifetimeModel", "letters", "[I", true)
  | 6 => ("GluedInLifetimeModel", "row", "[I", true)
  | 7 => ("GluedInLifetimeModel", "refused", "[I", true)
  | 8 => ("GluedInLifetimeModel", "letterMany", "I", false)
  | 9 => ("GluedInLifetimeModel", "rowMany", "I", false)
  | 10 => ("GluedInLifetimeModel", "place", "I", false)
  | 11 => ("GluedInLifetimeModel", "numbers", "[I", true)
  | 12 => ("GluedInLifetimeModel", "mostGlued", "I", false)
  | 13 => ("GluedInLifetimeModel", "by", "[I", true)
  | 14 => ("GluedInLifetimeModel", "then", "[I", true)
  | _ => ("GluedInLifetimeModel", "seed", "I", false)
def tyX8 : Nat → FieldType := fun k => match k with
  | 0 => .array .int
  | 1 => .array .int
  | 2 => .array .int
  | 3 => .array .int
  | 4 => .boolean
  | 5 => .array .int
  | 6 => .array .int
  | 7 => .array .int
  | 8 => .int
  | 9 => .int
  | 10 => .int
  | 11 => .array .int
  | 12 => .int
  | 13 => .array .int
  | 14 => .array .int
  | _ => .int
abbrev wsX80 : List Cond := u_ws RX8 TX8 16
theorem nmX8 : ∀ a, a < 16 → ∀ b, b < 16 → a ≠ b → (TX8 a).2.1 ≠ (TX8 b).2.1 := by decide +kernel
theorem tyX8_ok : ∀ k, k < 16 → parseFieldDescriptor (TX8 k).2.2.1 = some (tyX8 k) := by decide +kernel
abbrev cX8_init : ByteArray := prog_10_method_1_code
def yX8_init : MethodName := ⟨RX8, "<init>", "()V"⟩
abbrev cX8_isIn : ByteArray := prog_10_method_2_code
def yX8_isIn : MethodName := ⟨RX8, "isIn", "(III)Z"⟩
abbrev cX8_least : ByteArray := prog_10_method_3_code
def yX8_least : MethodName := ⟨RX8, "least", "(II)I"⟩
abbrev cX8_most : ByteArray := prog_10_method_4_code
def yX8_most : MethodName := ⟨RX8, "most", "(II)I"⟩
abbrev cX8_lays : ByteArray := prog_10_method_5_code
def yX8_lays : MethodName := ⟨RX8, "lays", "([I[I)V"⟩
abbrev cX8_no : ByteArray := prog_10_method_6_code
def yX8_no : MethodName := ⟨RX8, "no", "(I)I"⟩
abbrev cX8_noFar : ByteArray := prog_10_method_7_code
def yX8_noFar : MethodName := ⟨RX8, "noFar", "(I)I"⟩
abbrev cX8_noWide : ByteArray := prog_10_method_8_code
def yX8_noWide : MethodName := ⟨RX8, "noWide", "(I)J"⟩
abbrev cX8_isThing : ByteArray := prog_10_method_9_code
def yX8_isThing : MethodName := ⟨RX8, "isThing", "(I)Z"⟩
abbrev cX8_isYear : ByteArray := prog_10_method_10_code
def yX8_isYear : MethodName := ⟨RX8, "isYear", "(I)Z"⟩
abbrev cX8_at : ByteArray := prog_10_method_11_code
def yX8_at : MethodName := ⟨RX8, "at", "(II)I"⟩
abbrev cX8_bits : ByteArray := prog_10_method_12_code
def yX8_bits : MethodName := ⟨RX8, "bits", "(I)I"⟩
abbrev cX8_cost : ByteArray := prog_10_method_13_code
def yX8_cost : MethodName := ⟨RX8, "cost", "([II)I"⟩
abbrev cX8_reach : ByteArray := prog_10_method_14_code
def yX8_reach : MethodName := ⟨RX8, "reach", "([IIII)I"⟩
abbrev cX8_counts : ByteArray := prog_10_method_15_code
def yX8_counts : MethodName := ⟨RX8, "counts", "([III)I"⟩
abbrev cX8_yearBy : ByteArray := prog_10_method_16_code
def yX8_yearBy : MethodName := ⟨RX8, "yearBy", "([III)I"⟩
abbrev cX8_yearOf : ByteArray := prog_10_method_17_code
def yX8_yearOf : MethodName := ⟨RX8, "yearOf", "([IIII)I"⟩
abbrev cX8_gladOf : ByteArray := prog_10_method_18_code
def yX8_gladOf : MethodName := ⟨RX8, "gladOf", "([II)I"⟩
abbrev cX8_gladAll : ByteArray := prog_10_method_19_code
def yX8_gladAll : MethodName := ⟨RX8, "gladAll", "([I)I"⟩
abbrev cX8_fewestOf : ByteArray := prog_10_method_20_code
def yX8_fewestOf : MethodName := ⟨RX8, "fewestOf", "([III)I"⟩
abbrev cX8_letter : ByteArray := prog_10_method_21_code
def yX8_letter : MethodName := ⟨RX8, "letter", "(I)I"⟩
abbrev cX8_here : ByteArray := prog_10_method_22_code
def yX8_here : MethodName := ⟨RX8, "here", "()I"⟩
abbrev cX8_readsNumber : ByteArray := prog_10_method_23_code
def yX8_readsNumber : MethodName := ⟨RX8, "readsNumber", "(II)Z"⟩
abbrev cX8_kindBy : ByteArray := prog_10_method_24_code
def yX8_kindBy : MethodName := ⟨RX8, "kindBy", "(I)I"⟩
abbrev cX8_readsKind : ByteArray := prog_10_method_25_code
def yX8_readsKind : MethodName := ⟨RX8, "readsKind", "()Z"⟩
abbrev cX8_readsStatement : ByteArray := prog_10_method_26_code
def yX8_readsStatement : MethodName := ⟨RX8, "readsStatement", "()Z"⟩
abbrev cX8_turnsHalves : ByteArray := prog_10_method_27_code
def yX8_turnsHalves : MethodName := ⟨RX8, "turnsHalves", "(II)V"⟩
abbrev cX8_canGlue : ByteArray := prog_10_method_28_code
def yX8_canGlue : MethodName := ⟨RX8, "canGlue", "(I)Z"⟩
abbrev cX8_gluesTo : ByteArray := prog_10_method_29_code
def yX8_gluesTo : MethodName := ⟨RX8, "gluesTo", "(III)I"⟩
abbrev cX8_isDone : ByteArray := prog_10_method_30_code
def yX8_isDone : MethodName := ⟨RX8, "isDone", "(I)Z"⟩
abbrev cX8_shop : ByteArray := prog_10_method_31_code
def yX8_shop : MethodName := ⟨RX8, "shop", "()I"⟩
abbrev cX8_thing : ByteArray := prog_10_method_32_code
def yX8_thing : MethodName := ⟨RX8, "thing", "(II)I"⟩
abbrev cX8_glad : ByteArray := prog_10_method_33_code
def yX8_glad : MethodName := ⟨RX8, "glad", "(II)I"⟩
abbrev cX8_areTwo : ByteArray := prog_10_method_34_code
def yX8_areTwo : MethodName := ⟨RX8, "areTwo", "(II)Z"⟩
abbrev cX8_halves : ByteArray := prog_10_method_35_code
def yX8_halves : MethodName := ⟨RX8, "halves", "(II)I"⟩
abbrev cX8_turn : ByteArray := prog_10_method_36_code
def yX8_turn : MethodName := ⟨RX8, "turn", "(III)I"⟩
abbrev cX8_makes : ByteArray := prog_10_method_37_code
def yX8_makes : MethodName := ⟨RX8, "makes", "(III)I"⟩
abbrev cX8_pairs : ByteArray := prog_10_method_38_code
def yX8_pairs : MethodName := ⟨RX8, "pairs", "(II)I"⟩
abbrev cX8_now : ByteArray := prog_10_method_39_code
def yX8_now : MethodName := ⟨RX8, "now", "(I)I"⟩
abbrev cX8_hands : ByteArray := prog_10_method_40_code
def yX8_hands : MethodName := ⟨RX8, "hands", "(I)I"⟩
abbrev cX8_pours : ByteArray := prog_10_method_41_code
def yX8_pours : MethodName := ⟨RX8, "pours", "(I)I"⟩
abbrev cX8_wrongGlue : ByteArray := prog_10_method_42_code
def yX8_wrongGlue : MethodName := ⟨RX8, "wrongGlue", "(III)I"⟩
abbrev cX8_glues : ByteArray := prog_10_method_43_code
def yX8_glues : MethodName := ⟨RX8, "glues", "(III)I"⟩
abbrev cX8_washes : ByteArray := prog_10_method_44_code
def yX8_washes : MethodName := ⟨RX8, "washes", "(I)I"⟩
abbrev cX8_would : ByteArray := prog_10_method_45_code
def yX8_would : MethodName := ⟨RX8, "would", "(IIII)I"⟩
abbrev cX8_canOf : ByteArray := prog_10_method_46_code
def yX8_canOf : MethodName := ⟨RX8, "canOf", "([II)I"⟩
abbrev cX8_can : ByteArray := prog_10_method_47_code
def yX8_can : MethodName := ⟨RX8, "can", "(I)I"⟩
abbrev cX8_fewest : ByteArray := prog_10_method_48_code
def yX8_fewest : MethodName := ⟨RX8, "fewest", "(II)I"⟩
abbrev cX8_gladness : ByteArray := prog_10_method_49_code
def yX8_gladness : MethodName := ⟨RX8, "gladness", "()I"⟩
abbrev cX8_doAgree : ByteArray := prog_10_method_50_code
def yX8_doAgree : MethodName := ⟨RX8, "doAgree", "([III)Z"⟩
abbrev cX8_agreeMany : ByteArray := prog_10_method_51_code
def yX8_agreeMany : MethodName := ⟨RX8, "agreeMany", "([I)I"⟩
abbrev cX8_agree : ByteArray := prog_10_method_52_code
def yX8_agree : MethodName := ⟨RX8, "agree", "(I)I"⟩
abbrev cX8_mostBy : ByteArray := prog_10_method_53_code
def yX8_mostBy : MethodName := ⟨RX8, "mostBy", "([II)I"⟩
abbrev cX8_most_ : ByteArray := prog_10_method_54_code
def yX8_most_ : MethodName := ⟨RX8, "most", "(I)I"⟩
abbrev cX8_byMinutes : ByteArray := prog_10_method_55_code
def yX8_byMinutes : MethodName := ⟨RX8, "byMinutes", "(I)I"⟩
abbrev cX8_fewDrops : ByteArray := prog_10_method_56_code
def yX8_fewDrops : MethodName := ⟨RX8, "fewDrops", "()I"⟩
abbrev cX8_together : ByteArray := prog_10_method_57_code
def yX8_together : MethodName := ⟨RX8, "together", "(III)I"⟩
abbrev cX8_gladdest : ByteArray := prog_10_method_58_code
def yX8_gladdest : MethodName := ⟨RX8, "gladdest", "(I)I"⟩
abbrev cX8_queue : ByteArray := prog_10_method_59_code
def yX8_queue : MethodName := ⟨RX8, "queue", "(I)I"⟩
abbrev cX8_oneMore : ByteArray := prog_10_method_60_code
def yX8_oneMore : MethodName := ⟨RX8, "oneMore", "()I"⟩
abbrev cX8_bestYear : ByteArray := prog_10_method_61_code
def yX8_bestYear : MethodName := ⟨RX8, "bestYear", "()I"⟩
abbrev cX8_waterOf : ByteArray := prog_10_method_62_code
def yX8_waterOf : MethodName := ⟨RX8, "waterOf", "(I)I"⟩
abbrev cX8_water : ByteArray := prog_10_method_63_code
def yX8_water : MethodName := ⟨RX8, "water", "(I)I"⟩
abbrev cX8_bestWash : ByteArray := prog_10_method_64_code
def yX8_bestWash : MethodName := ⟨RX8, "bestWash", "()I"⟩
abbrev cX8_sour : ByteArray := prog_10_method_65_code
def yX8_sour : MethodName := ⟨RX8, "sour", "()I"⟩
abbrev cX8_regret : ByteArray := prog_10_method_66_code
def yX8_regret : MethodName := ⟨RX8, "regret", "(I)I"⟩
abbrev cX8_two : ByteArray := prog_10_method_67_code
def yX8_two : MethodName := ⟨RX8, "two", "(II)I"⟩
abbrev cX8_gcd : ByteArray := prog_10_method_68_code
def yX8_gcd : MethodName := ⟨RX8, "gcd", "(JJ)J"⟩
abbrev cX8_partOf : ByteArray := prog_10_method_69_code
def yX8_partOf : MethodName := ⟨RX8, "partOf", "(JJI)J"⟩
abbrev cX8_slips : ByteArray := prog_10_method_70_code
def yX8_slips : MethodName := ⟨RX8, "slips", "(IIII)J"⟩
abbrev cX8_power : ByteArray := prog_10_method_71_code
def yX8_power : MethodName := ⟨RX8, "power", "(II)J"⟩
abbrev cX8_slip : ByteArray := prog_10_method_72_code
def yX8_slip : MethodName := ⟨RX8, "slip", "(IIIII)J"⟩
abbrev cX8_mean : ByteArray := prog_10_method_73_code
def yX8_mean : MethodName := ⟨RX8, "mean", "(IIII)J"⟩
abbrev cX8_whatWas : ByteArray := prog_10_method_74_code
def yX8_whatWas : MethodName := ⟨RX8, "whatWas", "(II)I"⟩
abbrev cX8_mended : ByteArray := prog_10_method_75_code
def yX8_mended : MethodName := ⟨RX8, "mended", "(III)I"⟩
abbrev cX8_row : ByteArray := prog_10_method_76_code
def yX8_row : MethodName := ⟨RX8, "row", "(I)I"⟩
abbrev cX8_judge : ByteArray := prog_10_method_77_code
def yX8_judge : MethodName := ⟨RX8, "judge", "(I)I"⟩
abbrev cX8_clear : ByteArray := prog_10_method_78_code
def yX8_clear : MethodName := ⟨RX8, "clear", "()I"⟩
abbrev cX8_drawn : ByteArray := prog_10_method_79_code
def yX8_drawn : MethodName := ⟨RX8, "drawn", "(I)I"⟩
abbrev cX8_lots : ByteArray := prog_10_method_80_code
def yX8_lots : MethodName := ⟨RX8, "lots", "(III)I"⟩
abbrev cX8_image : ByteArray := prog_10_method_81_code
def yX8_image : MethodName := ⟨RX8, "image", "()I"⟩
abbrev cX8_on : ByteArray := prog_10_method_82_code
def yX8_on : MethodName := ⟨RX8, "on", "()I"⟩
abbrev cX8_count : ByteArray := prog_10_method_83_code
def yX8_count : MethodName := ⟨RX8, "count", "(I)I"⟩
def RJ0 : String := "java/lang/String"
def TJ0 : u_T := fun k => match k with
  | _ => ("", "", "", false)
def tyJ0 : Nat → FieldType := fun k => match k with
  | _ => .int
abbrev wsJ00 : List Cond := u_ws RJ0 TJ0 0
theorem nmJ0 : ∀ a, a < 0 → ∀ b, b < 0 → a ≠ b → (TJ0 a).2.1 ≠ (TJ0 b).2.1 := by decide +kernel
theorem tyJ0_ok : ∀ k, k < 0 → parseFieldDescriptor (TJ0 k).2.2.1 = some (tyJ0 k) := by decide +kernel
abbrev cJ0_length_8abf5 : ByteArray := prog_13_method_54_code
def yJ0_length_8abf5 : MethodName := ⟨RJ0, "length", "()I"⟩
abbrev cJ0_indexOf_0f7a4 : ByteArray := prog_13_method_79_code
def yJ0_indexOf_0f7a4 : MethodName := ⟨RJ0, "indexOf", "(I)I"⟩
abbrev cJ0_indexOf_7cf53 : ByteArray := prog_13_method_80_code
def yJ0_indexOf_7cf53 : MethodName := ⟨RJ0, "indexOf", "(II)I"⟩
abbrev cJ0_coder_7d493 : ByteArray := prog_13_method_152_code
def yJ0_coder_7d493 : MethodName := ⟨RJ0, "coder", "()B"⟩
abbrev cJ0_isLatin1_aae02 : ByteArray := prog_13_method_154_code
def yJ0_isLatin1_aae02 : MethodName := ⟨RJ0, "isLatin1", "()Z"⟩
abbrev cJ0_checkBoundsBeginEnd_23922 : ByteArray := prog_13_method_158_code
def yJ0_checkBoundsBeginEnd_23922 : MethodName := ⟨RJ0, "checkBoundsBeginEnd", "(III)V"⟩
def RJ1 : String := "java/lang/StringLatin1"
def TJ1 : u_T := fun k => match k with
  | _ => ("", "", "", false)
def tyJ1 : Nat → FieldType := fun k => match k with
  | _ => .int
abbrev wsJ10 : List Cond := u_ws RJ1 TJ1 0
theorem nmJ1 : ∀ a, a < 0 → ∀ b, b < 0 → a ≠ b → (TJ1 a).2.1 ≠ (TJ1 b).2.1 := by decide +kernel
theorem tyJ1_ok : ∀ k, k < 0 → parseFieldDescriptor (TJ1 k).2.2.1 = some (tyJ1 k) := by decide +kernel
abbrev cJ1_canEncode_9a6ad : ByteArray := prog_14_method_4_code
def yJ1_canEncode_9a6ad : MethodName := ⟨RJ1, "canEncode", "(I)Z"⟩
abbrev cJ1_indexOf_4cfef : ByteArray := prog_14_method_22_code
def yJ1_indexOf_4cfef : MethodName := ⟨RJ1, "indexOf", "([BIII)I"⟩
abbrev cJ1_indexOfChar_4cfef : ByteArray := prog_14_method_23_code
def yJ1_indexOfChar_4cfef : MethodName := ⟨RJ1, "indexOfChar", "([BIII)I"⟩
def RJ2 : String := "java/lang/StringUTF16"
def TJ2 : u_T := fun k => match k with
  | _ => ("", "", "", false)
def tyJ2 : Nat → FieldType := fun k => match k with
  | _ => .int
abbrev wsJ20 : List Cond := u_ws RJ2 TJ2 0
theorem nmJ2 : ∀ a, a < 0 → ∀ b, b < 0 → a ≠ b → (TJ2 a).2.1 ≠ (TJ2 b).2.1 := by decide +kernel
theorem tyJ2_ok : ∀ k, k < 0 → parseFieldDescriptor (TJ2 k).2.2.1 = some (tyJ2 k) := by decide +kernel
abbrev cJ2_getChar_3b067 : ByteArray := prog_15_method_5_code
def yJ2_getChar_3b067 : MethodName := ⟨RJ2, "getChar", "([BI)C"⟩
abbrev cJ2_length_9d52b : ByteArray := prog_15_method_6_code
def yJ2_length_9d52b : MethodName := ⟨RJ2, "length", "([B)I"⟩
abbrev cJ2_indexOf_4cfef : ByteArray := prog_15_method_40_code
def yJ2_indexOf_4cfef : MethodName := ⟨RJ2, "indexOf", "([BIII)I"⟩
abbrev cJ2_indexOfChar_4cfef : ByteArray := prog_15_method_47_code
def yJ2_indexOfChar_4cfef : MethodName := ⟨RJ2, "indexOfChar", "([BIII)I"⟩
abbrev cJ2_indexOfCharUnsafe_4cfef : ByteArray := prog_15_method_48_code
def yJ2_indexOfCharUnsafe_4cfef : MethodName := ⟨RJ2, "indexOfCharUnsafe", "([BIII)I"⟩
abbrev cJ2_indexOfSupplementary_4cfef : ByteArray := prog_15_method_49_code
def yJ2_indexOfSupplementary_4cfef : MethodName := ⟨RJ2, "indexOfSupplementary", "([BIII)I"⟩
abbrev cJ2_checkBoundsBeginEnd_d044e : ByteArray := prog_15_method_93_code
def yJ2_checkBoundsBeginEnd_d044e : MethodName := ⟨RJ2, "checkBoundsBeginEnd", "(II[B)V"⟩
end
section
-- ===== the words that every method shares =====
def zNest : Cond → Bool
  | .fieldLinkNest .. => true
  | .methodLinkNest .. => true
  | _ => false
def WS : List Cond := lw_tbl.filter goodWord
def NWS : List Cond := lw_tbl.filter zNest
theorem ws_at {w : Cond} (i : Nat) (h : lw_tbl[i]? = some w) (g : goodWord w = true) : w ∈ WS := List.mem_filter.mpr ⟨List.mem_of_getElem? h, g⟩
theorem nws_at {w : Cond} (i : Nat) (h : lw_tbl[i]? = some w) (g : zNest w = true) : w ∈ NWS := List.mem_filter.mpr ⟨List.mem_of_getElem? h, g⟩
theorem ws_good {w : Cond} (h : w ∈ WS) : goodWord w = true := (List.mem_filter.mp h).2
theorem ws_tbl {w : Cond} (h : w ∈ WS) : w ∈ lw_tbl := (List.mem_filter.mp h).1
theorem zgi {c0 : Cond} {x : List Cond} (h : ∀ w ∈ x, w ∈ WS) : GoodIn (c0 :: WS) x := fun w hw => ⟨List.mem_cons_of_mem _ (h w hw), good_of_word (ws_good (h w hw))⟩
-- ===== the classes, the cells, the store =====
abbrev CL : List vw_C := [(RX0, TX0, 3), (RX1, TX1, 5), (RX2, TX2, 2), (RX3, TX3, 6), (RX4, TX4, 1), (RX5, TX5, 2), (RX6, TX6, 4), (RX7, TX7, 13), (RX8, TX8, 16)]
/-- what a number is: the store of ints (a cell's number, a place in it), the one row of longs -/
abbrev St : Type := (Nat → Nat → Int32) × (Nat → Int64)
def zshop : List Nat := [3, 20, 10, 6, 11, 6, 11, 6, 11, 6, 11, 6, 11, 6, 11, 6, 11, 6, 11]
def zkinds : List Nat := 7 :: (zshop ++ zshop ++ zshop ++ [6, 11, 5, 12, 2, 13, 1, 10, 10, 0, 10, 14, 4, 21, 15, 16, 8, 17, 17, 17, 17, 12, 13, 16, 14, 18, 18])
/-- the kind of a cell: below 9 its class, 10 .. 18 a row of ints, 20 a row of things, 21 the row of longs -/
def kd (i : Nat) : Nat := zkinds.getD i 99
abbrev NC : Nat := 85
theorem kd_th {q : Nat} (h : kd q = 6) : kd (q + 1) = 11 := by
  have hq : q < 85 := by
    rcases Nat.lt_or_ge q 85 with g | g
    · exact g
    · have : kd q = 99 := by simp [kd, List.getD_eq_getElem?_getD, List.getElem?_eq_none (l := zkinds) (i := q) g]
      omega
  have key : ∀ i, i < 85 → kd i = 6 → kd (i + 1) = 11 := by decide +kernel
  exact key q hq h
theorem kd_lt {q k : Nat} (h : kd q = k) (hk : k < 99) : q < NC := by
  rcases Nat.lt_or_ge q 85 with g | g
  · exact g
  · have : kd q = 99 := by simp [kd, List.getD_eq_getElem?_getD, List.getElem?_eq_none (l := zkinds) (i := q) g]
    omega
theorem kd_sh1 {q : Nat} (h : kd q = 3) : kd (q + 1) = 20 := by
  have key : ∀ i, i < 85 → kd i = 3 → kd (i + 1) = 20 := by decide +kernel
  exact key q (kd_lt h (by decide)) h
theorem kd_sh2 {q : Nat} (h : kd q = 3) : kd (q + 2) = 10 := by
  have key : ∀ i, i < 85 → kd i = 3 → kd (i + 2) = 10 := by decide +kernel
  exact key q (kd_lt h (by decide)) h
theorem kd_sht {q j : Nat} (h : kd q = 3) (hj : j < 8) : kd (q + 1 + 2 + 2 * j) = 6 := by
  have key : ∀ i, i < 85 → ∀ j, j < 8 → kd i = 3 → kd (i + 1 + 2 + 2 * j) = 6 := by decide +kernel
  exact key q (kd_lt h (by decide)) j hj h
/-- the fields of an object, by its class, its number, its ints -/
def zf : Nat → Nat → (Nat → Int32) → List Value
  | 0, q, r => [.ref (q + 1), .ref (q + 2), .int (r 2)]
  | 1, q, r => [.ref (q + 1), .ref (q + 2), .int (r 2), .int (r 3), .int (r 4)]
  | 2, q, r => [.ref (q + 1), .int (r 1)]
  | 3, q, r => [.int (r 0), .int (r 1), .int (r 2), .int (r 3), .ref (q + 1), .ref (q + 2)]
  | 4, q, _ => [.ref (q + 1)]
  | 5, q, r => [.ref (q + 1), .int (r 1)]
  | 6, q, r => [.int (r 0), .int (r 1), .int (r 2), .ref (q + 1)]
  | 7, _, r => [.ref 1, .ref 20, .ref 39, .ref 58, .ref 60, .ref 62, .ref 64, .ref 67, .ref 70, .ref 72, .ref 73, .int (r 11), .int (r 12)]
  | _, _, r => [.ref 75, .ref 76, .ref 77, .ref 78, .int (r 4), .ref 79, .ref 80, .ref 81, .int (r 8), .int (r 9), .int (r 10), .ref 82, .int (r 12), .ref 83, .ref 84, .int (r 15)]
def il (k : Nat) : Nat := ([8, 12, 96, 16, 4, 20, 7, 132, 100] : List Nat).getD (k - 10) 0
/-- where the cells lie, and what the machine calls their classes -/
abbrev zR : Type := va_G × (Nat → Nat) × (ClassId × ClassId × ClassId) × (Nat × Nat)
def rv (ad : Nat → Nat) : Value → Value
  | .ref a => .ref (ad a)
  | v => v
theorem rv_cat (ad : Nat → Nat) (v : Value) : (rv ad v).category = v.category := by cases v <;> rfl
def zk (k : Nat) (ρ : zR) (i : Nat) (r : Nat → Int32) (L : Nat → Int64) : va_E :=
  if k < 9 then .inr (k, (zf k i r).map (rv ρ.2.1))
  else if k < 20 then .inl (ρ.2.2.1.1, (il k, .inl r))
  else if k = 20 then .inl (ρ.2.2.1.2.2, (8, .inr (.inr (.inr (.inr (fun j => some (ρ.2.1 (i + 2 + 2 * j))))))))
  else .inl (ρ.2.2.1.2.1, (9, .inr (.inl L)))
def zc (ρ : zR) (S : St) (i : Nat) : va_E := zk (kd i) ρ i (S.1 i) S.2
def world (ρ : zR) (S : St) : va_W := (List.range NC).map (fun i => (ρ.2.1 i, zc ρ S i))
def ztys (ρ : zR) : List (ClassId × FieldType) := [(ρ.2.2.1.1, .int), (ρ.2.2.1.2.1, .long), (ρ.2.2.1.2.2, .object RX6)]
theorem world_at (ρ : zR) (S : St) {i : Nat} (h : i < NC) : (world ρ S)[i]? = some (ρ.2.1 i, zc ρ S i) := by
  simp [world, h]
theorem world_len (ρ : zR) (S : St) : (world ρ S).length = NC := by simp [world]
theorem world_of {ρ : zR} {S : St} {k : Nat} {q : Nat × va_E} (h : (world ρ S)[k]? = some q) : k < NC ∧ q = (ρ.2.1 k, zc ρ S k) := by
  have hk : k < NC := by
    have := (List.getElem?_eq_some_iff.mp h).1
    rwa [world_len] at this
  rw [world_at ρ S hk] at h
  exact ⟨hk, (Option.some.inj h).symm⟩
theorem world_set {ρ : zR} {S S' : St} {q : Nat} {e : va_E} (h1 : zc ρ S' q = e) (h2 : ∀ i, i < NC → i ≠ q → zc ρ S' i = zc ρ S i) : (world ρ S).set q (ρ.2.1 q, e) = world ρ S' := by
  apply List.ext_getElem?
  intro i
  by_cases hi : i < NC
  · rw [world_at ρ S' hi]
    by_cases hq : i = q
    · subst hq
      rw [List.getElem?_set_self (by rw [world_len]; exact hi), h1]
    · rw [List.getElem?_set_ne (fun z => hq z.symm), world_at ρ S hi, h2 i hi hq]
  · rw [List.getElem?_eq_none (by simp [world_len]; omega), List.getElem?_eq_none (by simp [world_len]; omega)]
/-- writes -/
def up (S : St) (q k : Nat) (x : Int32) : St := (fun i j => if i = q ∧ j = k then x else S.1 i j, S.2)
def upL (S : St) (k : Nat) (x : Int64) : St := (S.1, vp_updL S.2 k x)
def upc (S : St) (q0 q sp dp n : Nat) : St := (fun i => if i = q then va_cpy (S.1 q0) (S.1 q) sp dp n else S.1 i, S.2)
theorem up_row (S : St) (q k : Nat) (x : Int32) : (up S q k x).1 q = upd (S.1 q) k x := by
  funext j
  simp [up, upd]
theorem up_ne {S : St} {q k : Nat} {x : Int32} {i : Nat} (h : i ≠ q) : (up S q k x).1 i = S.1 i := by
  funext j
  simp [up, h]
theorem upc_row (S : St) (q0 q sp dp n : Nat) : (upc S q0 q sp dp n).1 q = va_cpy (S.1 q0) (S.1 q) sp dp n := by simp [upc]
theorem upc_ne {S : St} {q0 q sp dp n i : Nat} (h : i ≠ q) : (upc S q0 q sp dp n).1 i = S.1 i := by simp [upc, h]
-- ===== the world's faces =====
def zI (ad : Nat → Nat) : Prop := ∀ i j, i < NC → j < NC → ad i = ad j → i = j
def zA (ad : Nat → Nat) (sz : Nat) : Nat → Prop := fun q => (∃ i, i < NC ∧ q = ad i) ∨ sz ≤ q
theorem zA_in {ad : Nat → Nat} {sz i : Nat} (h : i < NC) : zA ad sz (ad i) := Or.inl ⟨i, h, rfl⟩
theorem zA_up {ad : Nat → Nat} {a b q : Nat} (h : a ≤ b) (hq : zA ad b q) : zA ad a q := hq.elim Or.inl (fun x => Or.inr (Nat.le_trans h x))
theorem z_D {ρ : zR} {S : St} {sz : Nat} (h : zI ρ.2.1) : va_D (zA ρ.2.1 sz) (world ρ S) := by
  refine ⟨fun i j p q hi hj e => ?_, fun k q hk => ?_⟩
  · obtain ⟨h1, rfl⟩ := world_of hi
    obtain ⟨h2, rfl⟩ := world_of hj
    exact h i j h1 h2 e
  · obtain ⟨h1, rfl⟩ := world_of hk
    exact zA_in h1
/-- what stays: the tables, the nest mates' words, the one text -/
def zE (ρ : zR) (A : Nat → Prop) (U : State) (H : Heap) : Prop :=
  va_K ρ.1 CL (ztys ρ) U ∧ (∀ w ∈ NWS, va_Nw w U) ∧ vk_R RX5 27 "tcdpfw" ρ.2.2.2.1 U ∧
  vk_S 1 [6] [[116, 99, 100, 112, 102, 119]] (fun _ => ρ.2.2.2.1) (fun _ => ρ.2.2.2.2) A U H ∧ va_Z "java/lang/String" "COMPACT_STRINGS" "Z" (.int 1) A U H
theorem nws_kind {w : Cond} (h : w ∈ NWS) : w.onTables = true ∧ ((∃ a i b n d o, w = .fieldLinkNest a i b n d o) ∨ ∃ a i x o, w = .methodLinkNest a i x o) := by
  have h2 := (List.mem_filter.mp h).2
  cases w <;> first | (simp [zNest] at h2; done) | exact ⟨rfl, Or.inl ⟨_, _, _, _, _, _, rfl⟩⟩ | exact ⟨rfl, Or.inr ⟨_, _, _, _, rfl⟩⟩
theorem zE.same {ρ : zR} {A : Nat → Prop} {u U : State} {H : Heap} (hv : U.vm = u.vm) (h : zE ρ A u H) : zE ρ A U H := by
  have hal : u.vm.Alike U.vm := by rw [hv]; exact Vm.Alike.refl _
  exact ⟨va_K.moved hal h.1, fun w hw => va_Nw.same (nws_kind hw).1 hv.symm (h.2.1 w hw), vk_R.same hv h.2.2.1, vk_S.moved hal h.2.2.2.1, va_Z.moved hal h.2.2.2.2⟩
theorem zE.warm {ρ : zR} {A : Nat → Prop} {s U : State} {H : Heap} (hW : s.WarmedH U.vm) (h : zE ρ A s H) : zE ρ A U H := by
  refine ⟨va_K.moved hW.alike h.1, fun w hw => ?_, vk_R.warm hW h.2.2.1, vk_S.moved hW.alike h.2.2.2.1, va_Z.moved hW.alike h.2.2.2.2⟩
  rcases (nws_kind hw).2 with ⟨a, i, b, n, d, o, rfl⟩ | ⟨a, i, x, o, rfl⟩
  · exact va_Nw.warmF hW (h.2.1 _ hw)
  · exact va_Nw.warmM hW (h.2.1 _ hw)
theorem zE.kept {ρ : zR} {A : Nat → Prop} {U : State} {H H1 : Heap} (h : zE ρ A U H) (hq : ∀ a : Nat, a < H.size → ¬ A a → H1[a]? = H[a]?) : zE ρ A U H1 :=
  ⟨h.1, h.2.1, h.2.2.1, h.2.2.2.1.kept hq, h.2.2.2.2.kept hq⟩
theorem zE.narrow {ρ : zR} {A B : Nat → Prop} {U : State} {H : Heap} (h : zE ρ A U H) (hAB : ∀ q, B q → A q) : zE ρ B U H :=
  ⟨h.1, h.2.1, h.2.2.1, h.2.2.2.1.narrow hAB, h.2.2.2.2.narrow hAB⟩
/-- a method: its class, its code, its locals, what it answers, its room -/
abbrev zM : Type := String × ByteArray × Nat × Option FieldType × Nat × Nat
abbrev zrm (M : zM) : Room := { frames := M.2.2.2.2.1, cells := 0, slots := 0, locals := M.2.2.2.2.2 }
def zQ (ρ : zR) (w : Option Value) (S' : St) (A : Nat → Prop) : Array Value → State → Outcome → State → Prop := fun _ st oc t =>
  (oc = .returned (w.map (rv ρ.2.1)) ∧ va_P ρ.1 CL (world ρ S') t.heap) ∧ va_F A st t
def zB (ρ : zR) (sz : Nat) (S : St) (U : State) : Prop := U.heap.size = sz ∧ zI ρ.2.1 ∧ va_P ρ.1 CL (world ρ S) U.heap ∧ zE ρ (zA ρ.2.1 sz) U U.heap
/-- the contract: from the store S, with these arguments, the method answers w, and the store is S' -/
def CT (l : Launch) (y : MethodName) (M : zM) (as : List Value) (S : St) (w : Option Value) (S' : St) : Prop :=
  ∀ (ρ : zR) (sz : Nat), Met l y (.code y M.2.1 M.2.2.1 M.2.2.2.1 :: WS) (zrm M) (va_Pc (as.map (rv ρ.2.1)) (zB ρ sz S)) (zQ ρ w S' (zA ρ.2.1 sz)) 0 0 (zA ρ.2.1 sz)
def zX (y : MethodName) (M : zM) (ρ : zR) (sz : Nat) (p : Program) (s : State) (m : MethodId) (args : Array Value) (meth : Method) (c : Code) : Prop :=
  p.tables.exec = Jvm.exec ∧ c.code = M.2.1 ∧ meth.sig.returnType = M.2.2.2.1 ∧ c.maxLocals = M.2.2.1 ∧ meth.locks = false ∧ s.vm.findClass y.cls = some m.cls ∧
  (∀ w ∈ (Cond.code y M.2.1 M.2.2.1 M.2.2.2.1 :: WS), w.before args s = true) ∧ s.heap.size = sz ∧ zI ρ.2.1 ∧ zE ρ (zA ρ.2.1 sz) s s.heap
def zl (ad : Nat → Nat) (q : Nat × Value) : Nat × Value := (q.1, rv ad q.2)
/-- the machine in the method, at pc, with these locals, this stack, this store, comes to its end with w, S' -/
def Z (l : Launch) (y : MethodName) (M : zM) (pc : Nat) (lv : List (Nat × Value)) (st : List Value) (S : St) (w : Option Value) (S' : St) : Prop :=
  ∀ (ρ : zR) (sz : Nat) (p : Program) (e : Env) (s : State) (m : MethodId) (args : Array Value) (below : List Frame) (meth : Method) (c : Code), zX y M ρ sz p s m args meth c →
    ∀ (H : Heap) (locs : List Loc) (ls : Array Slot), va_P ρ.1 CL (world ρ S) H → va_S (zA ρ.2.1 sz) s.heap H locs → lv_has ls M.2.2.1 (lv.map (zl ρ.2.1)) →
      W p l e (zrm M) s m args below meth c H locs 0 0 (MQ below (zQ ρ w S' (zA ρ.2.1 sz)) args s 0 0 (zA ρ.2.1 sz)) (F0 m pc ls (st.map (rv ρ.2.1)))
theorem zargs (ad : Nat → Nat) : ∀ (i : Nat) (as : List Value), lv_args i (as.map (rv ad)) = (lv_args i as).map (zl ad)
  | _, [] => rfl
  | i, v :: vs => by
    show (i, rv ad v) :: lv_args (if (rv ad v).category = 2 then i + 2 else i + 1) (vs.map (rv ad)) = (i, rv ad v) :: (lv_args (if v.category = 2 then i + 2 else i + 1) vs).map (zl ad)
    rw [rv_cat, zargs ad _ vs]
theorem zlen (ad : Nat → Nat) : ∀ as : List Value, (lg_sl (as.map (rv ad))).length = (as.map Value.category).sum
  | [] => rfl
  | v :: vs => by
    have h2 : (lg_sl ((v :: vs).map (rv ad))).length = (if (rv ad v).category = 2 then 2 else 1) + (lg_sl (vs.map (rv ad))).length := by
      simp only [lg_sl, List.map_cons, List.flatMap_cons, List.length_append]
      split <;> rfl
    rw [h2, zlen ad vs, rv_cat, List.map_cons, List.sum_cons]
    cases v <;> rfl
/-- from the walk to the contract -/
theorem ct_of {l : Launch} {y : MethodName} {M : zM} {as : List Value} {S : St} {w : Option Value} {S' : St} {lv : List (Nat × Value)} (hy : plainName y.cls = true) (hlv : lv_args 0 as = lv) (hn : (as.map Value.category).sum ≤ M.2.2.1) (k : Z l y M 0 lv [] S w S') : CT l y M as S w S' := by
  intro ρ sz
  refine Met.ofW (cc := M.2.1) (maxL := M.2.2.1) (ret := M.2.2.2.1) hy rfl ?_
  intro p e s m args below meth c s₁ B hml hv
  obtain ⟨rfl, hsz, hI, hP, hE⟩ := hv
  have hts := atoms_spec (ws := Cond.code y M.2.1 M.2.2.1 M.2.2.2.1 :: WS) B.pre
  have hown : s.vm.findClass y.cls = some m.cls := findClass_of_methodNamed B.named
  have hlen : (lg_sl (as.map (rv ρ.2.1))).length ≤ M.2.2.1 := Nat.le_trans (Nat.le_of_eq (zlen ρ.2.1 as)) hn
  have hl := lv_entry (as.map (rv ρ.2.1)) (n := M.2.2.1) hlen
  rw [lg_entry_eq]
  rw [zargs, hlv] at hl
  exact k ρ sz p e s m _ below meth c ⟨B.exec, B.bytes, B.returns, hml, B.notSynchronized, hown, hts, hsz, hI, hE⟩ s.heap [] _ hP va_S.rf hl
section ZZ
variable {l : Launch} {y : MethodName} {M : zM} {pc : Nat} {lv : List (Nat × Value)} {st : List Value} {S : St} {w : Option Value} {S' : St}
theorem z_iconst {n : Int} {v : Int32} (d : decode M.2.1 pc = .ok (.iconst n, 1)) (hv : Int32.ofInt n = v) (k : Z l y M (pc + 1) lv (.int v :: st) S w S') : Z l y M pc lv (st) S w S' := fun ρ sz p e s m args below meth c X H locs ls hP hS hl =>
  lv_iconst X.1 X.2.1 d hv (k ρ sz p e s m args below meth c X H locs ls hP hS hl)
theorem z_bipush {n : Int} {v : Int32} (d : decode M.2.1 pc = .ok (.bipush n, 2)) (hv : (Int8.ofInt n).toInt32 = v) (k : Z l y M (pc + 2) lv (.int v :: st) S w S') : Z l y M pc lv (st) S w S' := fun ρ sz p e s m args below meth c X H locs ls hP hS hl =>
  lv_bipush X.1 X.2.1 d hv (k ρ sz p e s m args below meth c X H locs ls hP hS hl)
theorem z_sipush {n : Int} {v : Int32} (d : decode M.2.1 pc = .ok (.sipush n, 3)) (hv : (Int16.ofInt n).toInt32 = v) (k : Z l y M (pc + 3) lv (.int v :: st) S w S') : Z l y M pc lv (st) S w S' := fun ρ sz p e s m args below meth c X H locs ls hP hS hl =>
  lv_sipush X.1 X.2.1 d hv (k ρ sz p e s m args below meth c X H locs ls hP hS hl)
theorem z_lconst {n : Fin 2} {v : Int64} (d : decode M.2.1 pc = .ok (.lconst n, 1)) (hv : Int64.ofNat (n : Nat) = v) (k : Z l y M (pc + 1) lv (.long v :: st) S w S') : Z l y M pc lv (st) S w S' := fun ρ sz p e s m args below meth c X H locs ls hP hS hl =>
  lv_lconst X.1 X.2.1 d hv (k ρ sz p e s m args below meth c X H locs ls hP hS hl)
theorem z_iadd {a b : Int32} (d : decode M.2.1 pc = .ok (.iadd, 1)) (k : Z l y M (pc + 1) lv (.int (a + b) :: st) S w S') : Z l y M pc lv (.int b :: .int a :: st) S w S' := fun ρ sz p e s m args below meth c X H locs ls hP hS hl =>
  lv_iadd X.1 X.2.1 d (k ρ sz p e s m args below meth c X H locs ls hP hS hl)
theorem z_isub {a b : Int32} (d : decode M.2.1 pc = .ok (.isub, 1)) (k : Z l y M (pc + 1) lv (.int (a - b) :: st) S w S') : Z l y M pc lv (.int b :: .int a :: st) S w S' := fun ρ sz p e s m args below meth c X H locs ls hP hS hl =>
  lv_isub X.1 X.2.1 d (k ρ sz p e s m args below meth c X H locs ls hP hS hl)
theorem z_imul {a b : Int32} (d : decode M.2.1 pc = .ok (.imul, 1)) (k : Z l y M (pc + 1) lv (.int (a * b) :: st) S w S') : Z l y M pc lv (.int b :: .int a :: st) S w S' := fun ρ sz p e s m args below meth c X H locs ls hP hS hl =>
  lv_imul X.1 X.2.1 d (k ρ sz p e s m args below meth c X H locs ls hP hS hl)
theorem z_ishl {a b : Int32} (d : decode M.2.1 pc = .ok (.ishl, 1)) (k : Z l y M (pc + 1) lv (.int (a <<< (b &&& 31)) :: st) S w S') : Z l y M pc lv (.int b :: .int a :: st) S w S' := fun ρ sz p e s m args below meth c X H locs ls hP hS hl =>
  lv_ishl X.1 X.2.1 d (k ρ sz p e s m args below meth c X H locs ls hP hS hl)
theorem z_ishr {a b : Int32} (d : decode M.2.1 pc = .ok (.ishr, 1)) (k : Z l y M (pc + 1) lv (.int (a >>> (b &&& 31)) :: st) S w S') : Z l y M pc lv (.int b :: .int a :: st) S w S' := fun ρ sz p e s m args below meth c X H locs ls hP hS hl =>
  lv_ishr X.1 X.2.1 d (k ρ sz p e s m args below meth c X H locs ls hP hS hl)
theorem z_iand {a b : Int32} (d : decode M.2.1 pc = .ok (.iand, 1)) (k : Z l y M (pc + 1) lv (.int (a &&& b) :: st) S w S') : Z l y M pc lv (.int b :: .int a :: st) S w S' := fun ρ sz p e s m args below meth c X H locs ls hP hS hl =>
  lv_iand X.1 X.2.1 d (k ρ sz p e s m args below meth c X H locs ls hP hS hl)
theorem z_ior {a b : Int32} (d : decode M.2.1 pc = .ok (.ior, 1)) (k : Z l y M (pc + 1) lv (.int (a ||| b) :: st) S w S') : Z l y M pc lv (.int b :: .int a :: st) S w S' := fun ρ sz p e s m args below meth c X H locs ls hP hS hl =>
  lv_ior X.1 X.2.1 d (k ρ sz p e s m args below meth c X H locs ls hP hS hl)
theorem z_ixor {a b : Int32} (d : decode M.2.1 pc = .ok (.ixor, 1)) (k : Z l y M (pc + 1) lv (.int (a ^^^ b) :: st) S w S') : Z l y M pc lv (.int b :: .int a :: st) S w S' := fun ρ sz p e s m args below meth c X H locs ls hP hS hl =>
  lv_ixor X.1 X.2.1 d (k ρ sz p e s m args below meth c X H locs ls hP hS hl)
theorem z_idiv {a b : Int32} (d : decode M.2.1 pc = .ok (.idiv, 1)) (h : ¬ b = 0) (k : Z l y M (pc + 1) lv (.int (a / b) :: st) S w S') : Z l y M pc lv (.int b :: .int a :: st) S w S' := fun ρ sz p e s m args below meth c X H locs ls hP hS hl =>
  lv_idiv X.1 X.2.1 d h (k ρ sz p e s m args below meth c X H locs ls hP hS hl)
theorem z_irem {a b : Int32} (d : decode M.2.1 pc = .ok (.irem, 1)) (h : ¬ b = 0) (k : Z l y M (pc + 1) lv (.int (a - a / b * b) :: st) S w S') : Z l y M pc lv (.int b :: .int a :: st) S w S' := fun ρ sz p e s m args below meth c X H locs ls hP hS hl =>
  lv_irem X.1 X.2.1 d h (k ρ sz p e s m args below meth c X H locs ls hP hS hl)
theorem z_ineg {a : Int32} (d : decode M.2.1 pc = .ok (.ineg, 1)) (k : Z l y M (pc + 1) lv (.int (-a) :: st) S w S') : Z l y M pc lv (.int a :: st) S w S' := fun ρ sz p e s m args below meth c X H locs ls hP hS hl =>
  lv_ineg X.1 X.2.1 d (k ρ sz p e s m args below meth c X H locs ls hP hS hl)
theorem z_i2l {a : Int32} (d : decode M.2.1 pc = .ok (.i2l, 1)) (k : Z l y M (pc + 1) lv (.long a.toInt64 :: st) S w S') : Z l y M pc lv (.int a :: st) S w S' := fun ρ sz p e s m args below meth c X H locs ls hP hS hl =>
  lv_i2l X.1 X.2.1 d rfl (k ρ sz p e s m args below meth c X H locs ls hP hS hl)
theorem z_i2c {a : Int32} (d : decode M.2.1 pc = .ok (.i2c, 1)) (k : Z l y M (pc + 1) lv (.int (a.toUInt32 % 65536).toInt32 :: st) S w S') : Z l y M pc lv (.int a :: st) S w S' := fun ρ sz p e s m args below meth c X H locs ls hP hS hl =>
  lv_i2c X.1 X.2.1 d rfl (k ρ sz p e s m args below meth c X H locs ls hP hS hl)
theorem z_ladd {a b : Int64} (d : decode M.2.1 pc = .ok (.ladd, 1)) (k : Z l y M (pc + 1) lv (.long (a + b) :: st) S w S') : Z l y M pc lv (.long b :: .long a :: st) S w S' := fun ρ sz p e s m args below meth c X H locs ls hP hS hl =>
  lv_ladd X.1 X.2.1 d (k ρ sz p e s m args below meth c X H locs ls hP hS hl)
theorem z_lsub {a b : Int64} (d : decode M.2.1 pc = .ok (.lsub, 1)) (k : Z l y M (pc + 1) lv (.long (a - b) :: st) S w S') : Z l y M pc lv (.long b :: .long a :: st) S w S' := fun ρ sz p e s m args below meth c X H locs ls hP hS hl =>
  lv_lsub X.1 X.2.1 d (k ρ sz p e s m args below meth c X H locs ls hP hS hl)
theorem z_lmul {a b : Int64} (d : decode M.2.1 pc = .ok (.lmul, 1)) (k : Z l y M (pc + 1) lv (.long (a * b) :: st) S w S') : Z l y M pc lv (.long b :: .long a :: st) S w S' := fun ρ sz p e s m args below meth c X H locs ls hP hS hl =>
  lv_lmul X.1 X.2.1 d (k ρ sz p e s m args below meth c X H locs ls hP hS hl)
theorem z_ldiv {a b : Int64} (d : decode M.2.1 pc = .ok (.ldiv, 1)) (h : ¬ b = 0) (k : Z l y M (pc + 1) lv (.long (a / b) :: st) S w S') : Z l y M pc lv (.long b :: .long a :: st) S w S' := fun ρ sz p e s m args below meth c X H locs ls hP hS hl =>
  lv_ldiv X.1 X.2.1 d h (k ρ sz p e s m args below meth c X H locs ls hP hS hl)
theorem z_lrem {a b : Int64} (d : decode M.2.1 pc = .ok (.lrem, 1)) (h : ¬ b = 0) (k : Z l y M (pc + 1) lv (.long (a - a / b * b) :: st) S w S') : Z l y M pc lv (.long b :: .long a :: st) S w S' := fun ρ sz p e s m args below meth c X H locs ls hP hS hl =>
  lv_lrem X.1 X.2.1 d h (k ρ sz p e s m args below meth c X H locs ls hP hS hl)
theorem z_lcmp {a b : Int64} (d : decode M.2.1 pc = .ok (.lcmp, 1)) (k : Z l y M (pc + 1) lv (.int (lg_cmp a b) :: st) S w S') : Z l y M pc lv (.long b :: .long a :: st) S w S' := fun ρ sz p e s m args below meth c X H locs ls hP hS hl =>
  W.lcmp X.1 X.2.1 d (k ρ sz p e s m args below meth c X H locs ls hP hS hl)
theorem z_dup {v : Value} (d : decode M.2.1 pc = .ok (.dup, 1)) (hv : v.category = 1) (k : Z l y M (pc + 1) lv (v :: v :: st) S w S') : Z l y M pc lv (v :: st) S w S' := fun ρ sz p e s m args below meth c X H locs ls hP hS hl =>
  lv_dup X.1 X.2.1 d (by rw [rv_cat]; exact hv) (k ρ sz p e s m args below meth c X H locs ls hP hS hl)
theorem z_pop {v : Value} (d : decode M.2.1 pc = .ok (.pop, 1)) (hv : v.category = 1) (k : Z l y M (pc + 1) lv st S w S') : Z l y M pc lv (v :: st) S w S' := fun ρ sz p e s m args below meth c X H locs ls hP hS hl =>
  lv_pop X.1 X.2.1 d (by rw [rv_cat]; exact hv) (k ρ sz p e s m args below meth c X H locs ls hP hS hl)
theorem z_dup2 {v u : Value} (d : decode M.2.1 pc = .ok (.dup2, 1)) (hv : v.category = 1) (hu : u.category = 1) (k : Z l y M (pc + 1) lv (v :: u :: v :: u :: st) S w S') : Z l y M pc lv (v :: u :: st) S w S' := fun ρ sz p e s m args below meth c X H locs ls hP hS hl =>
  lv_dup2_11 X.1 X.2.1 d (by rw [rv_cat]; exact hv) (by rw [rv_cat]; exact hu) (k ρ sz p e s m args below meth c X H locs ls hP hS hl)
theorem zl_at {ad : Nat → Nat} {ls : Array Slot} {n : Nat} {lv : List (Nat × Value)} (hl : lv_has ls n (lv.map (zl ad))) {j i : Nat} {v : Value} (h : lv[j]? = some (i, v)) : ls[i]? = some (.val (rv ad v)) :=
  lv_at hl j (i := i) (v := rv ad v) (by rw [List.getElem?_map, h]; rfl)
theorem z_iload_n {k : Fin 4} {v : Int32} (j : Nat) (d : decode M.2.1 pc = .ok (.iload_n k, 1)) (h : lv[j]? = some ((k : Nat), .int v)) (kk : Z l y M (pc + 1) lv (.int v :: st) S w S') : Z l y M pc lv st S w S' := fun ρ sz p e s m args below meth c X H locs ls hP hS hl =>
  lv_iload_n X.1 X.2.1 d rfl (zl_at hl h) (kk ρ sz p e s m args below meth c X H locs ls hP hS hl)
theorem z_iload {i : Nat} {v : Int32} (j : Nat) (d : decode M.2.1 pc = .ok (.iload i, 2)) (h : lv[j]? = some (i, .int v)) (kk : Z l y M (pc + 2) lv (.int v :: st) S w S') : Z l y M pc lv st S w S' := fun ρ sz p e s m args below meth c X H locs ls hP hS hl =>
  lv_iload X.1 X.2.1 d (zl_at hl h) (kk ρ sz p e s m args below meth c X H locs ls hP hS hl)
theorem z_lload_n {k : Fin 4} {v : Int64} (j : Nat) (d : decode M.2.1 pc = .ok (.lload_n k, 1)) (h : lv[j]? = some ((k : Nat), .long v)) (kk : Z l y M (pc + 1) lv (.long v :: st) S w S') : Z l y M pc lv st S w S' := fun ρ sz p e s m args below meth c X H locs ls hP hS hl =>
  lv_lload_n X.1 X.2.1 d rfl (zl_at hl h) (kk ρ sz p e s m args below meth c X H locs ls hP hS hl)
theorem z_lload {i : Nat} {v : Int64} (j : Nat) (d : decode M.2.1 pc = .ok (.lload i, 2)) (h : lv[j]? = some (i, .long v)) (kk : Z l y M (pc + 2) lv (.long v :: st) S w S') : Z l y M pc lv st S w S' := fun ρ sz p e s m args below meth c X H locs ls hP hS hl =>
  lv_lload X.1 X.2.1 d (zl_at hl h) (kk ρ sz p e s m args below meth c X H locs ls hP hS hl)
theorem z_aload_n {k : Fin 4} {v : Nat} (j : Nat) (d : decode M.2.1 pc = .ok (.aload_n k, 1)) (h : lv[j]? = some ((k : Nat), .ref v)) (kk : Z l y M (pc + 1) lv (.ref v :: st) S w S') : Z l y M pc lv st S w S' := fun ρ sz p e s m args below meth c X H locs ls hP hS hl =>
  lv_aload_n X.1 X.2.1 d rfl (zl_at hl h) (kk ρ sz p e s m args below meth c X H locs ls hP hS hl)
theorem z_aload {i : Nat} {v : Nat} (j : Nat) (d : decode M.2.1 pc = .ok (.aload i, 2)) (h : lv[j]? = some (i, .ref v)) (kk : Z l y M (pc + 2) lv (.ref v :: st) S w S') : Z l y M pc lv st S w S' := fun ρ sz p e s m args below meth c X H locs ls hP hS hl =>
  lv_aload X.1 X.2.1 d (zl_at hl h) (kk ρ sz p e s m args below meth c X H locs ls hP hS hl)
theorem zpick {ad : Nat → Nat} {ls : Array Slot} {n : Nat} {l1 l2 : List (Nat × Value)} (ks : List Nat) (hl : lv_has ls n (l1.map (zl ad))) (h : lv_pick l1 ks = l2) : lv_has ls n (l2.map (zl ad)) := by
  refine lv_sub hl ks ?_
  subst h
  simp only [lv_pick]
  induction ks with
  | nil => rfl
  | cons k ks ih =>
    simp only [List.filterMap_cons, List.getElem?_map]
    cases l1[k]? with
    | none => simpa using ih
    | some q => simp only [Option.map_some, List.map_cons]; rw [← ih]; simp [List.getElem?_map]
def zf1 (i : Nat) (lv : List (Nat × Value)) : List (Nat × Value) := lv.filter (fun q => !(q.1 == i) && !(q.1 + 1 == i && q.2.category == 2))
def zf2 (i : Nat) (lv : List (Nat × Value)) : List (Nat × Value) := lv.filter (fun q => !(q.1 == i) && (!(q.1 == i + 1) && !(q.1 + 1 == i && q.2.category == 2)))
theorem zf1_map (ad : Nat → Nat) (i : Nat) (v : Value) (lv : List (Nat × Value)) : (i, rv ad v) :: (lv.map (zl ad)).filter (fun q => !(q.1 == i) && !(q.1 + 1 == i && q.2.category == 2)) = ((i, v) :: zf1 i lv).map (zl ad) := by
  simp only [List.map_cons, zf1, List.filter_map]
  congr 2
  apply List.filter_congr
  intro q _
  simp [zl, rv_cat]
theorem zf2_map (ad : Nat → Nat) (i : Nat) (v : Value) (lv : List (Nat × Value)) : (i, rv ad v) :: (lv.map (zl ad)).filter (fun q => !(q.1 == i) && (!(q.1 == i + 1) && !(q.1 + 1 == i && q.2.category == 2))) = ((i, v) :: zf2 i lv).map (zl ad) := by
  simp only [List.map_cons, zf2, List.filter_map]
  congr 2
  apply List.filter_congr
  intro q _
  simp [zl, rv_cat]
theorem z_istore_n {k : Fin 4} {v : Int32} {lv' : List (Nat × Value)} (ks : List Nat) (d : decode M.2.1 pc = .ok (.istore_n k, 1)) (hn : (k : Nat) < M.2.2.1) (h : lv_pick (((k : Nat), .int v) :: zf1 k lv) ks = lv') (kk : Z l y M (pc + 1) lv' st S w S') : Z l y M pc lv (.int v :: st) S w S' := fun ρ sz p e s m args below meth c X H locs ls hP hS hl =>
  lv_istore_n X.1 X.2.1 d rfl hl hn (zf1_map ρ.2.1 k (.int v) lv) (fun ls' hl' => kk ρ sz p e s m args below meth c X H locs ls' hP hS (zpick ks hl' h))
theorem z_istore {i : Nat} {v : Int32} {lv' : List (Nat × Value)} (ks : List Nat) (d : decode M.2.1 pc = .ok (.istore i, 2)) (hn : i < M.2.2.1) (h : lv_pick ((i, .int v) :: zf1 i lv) ks = lv') (kk : Z l y M (pc + 2) lv' st S w S') : Z l y M pc lv (.int v :: st) S w S' := fun ρ sz p e s m args below meth c X H locs ls hP hS hl =>
  lv_istore X.1 X.2.1 d hl hn (zf1_map ρ.2.1 i (.int v) lv) (fun ls' hl' => kk ρ sz p e s m args below meth c X H locs ls' hP hS (zpick ks hl' h))
theorem z_astore_n {k : Fin 4} {v : Nat} {lv' : List (Nat × Value)} (ks : List Nat) (d : decode M.2.1 pc = .ok (.astore_n k, 1)) (hn : (k : Nat) < M.2.2.1) (h : lv_pick (((k : Nat), .ref v) :: zf1 k lv) ks = lv') (kk : Z l y M (pc + 1) lv' st S w S') : Z l y M pc lv (.ref v :: st) S w S' := fun ρ sz p e s m args below meth c X H locs ls hP hS hl =>
  lv_astore_n X.1 X.2.1 d rfl hl hn (zf1_map ρ.2.1 k (.ref v) lv) (fun ls' hl' => kk ρ sz p e s m args below meth c X H locs ls' hP hS (zpick ks hl' h))
theorem z_astore {i : Nat} {v : Nat} {lv' : List (Nat × Value)} (ks : List Nat) (d : decode M.2.1 pc = .ok (.astore i, 2)) (hn : i < M.2.2.1) (h : lv_pick ((i, .ref v) :: zf1 i lv) ks = lv') (kk : Z l y M (pc + 2) lv' st S w S') : Z l y M pc lv (.ref v :: st) S w S' := fun ρ sz p e s m args below meth c X H locs ls hP hS hl =>
  lv_astore X.1 X.2.1 d hl hn (zf1_map ρ.2.1 i (.ref v) lv) (fun ls' hl' => kk ρ sz p e s m args below meth c X H locs ls' hP hS (zpick ks hl' h))
theorem z_lstore_n {k : Fin 4} {v : Int64} {lv' : List (Nat × Value)} (ks : List Nat) (d : decode M.2.1 pc = .ok (.lstore_n k, 1)) (hn : (k : Nat) + 1 < M.2.2.1) (h : lv_pick (((k : Nat), .long v) :: zf2 k lv) ks = lv') (kk : Z l y M (pc + 1) lv' st S w S') : Z l y M pc lv (.long v :: st) S w S' := fun ρ sz p e s m args below meth c X H locs ls hP hS hl =>
  lv_lstore_n X.1 X.2.1 d rfl hl hn (zf2_map ρ.2.1 k (.long v) lv) (fun ls' hl' => kk ρ sz p e s m args below meth c X H locs ls' hP hS (zpick ks hl' h))
theorem z_lstore {i : Nat} {v : Int64} {lv' : List (Nat × Value)} (ks : List Nat) (d : decode M.2.1 pc = .ok (.lstore i, 2)) (hn : i + 1 < M.2.2.1) (h : lv_pick ((i, .long v) :: zf2 i lv) ks = lv') (kk : Z l y M (pc + 2) lv' st S w S') : Z l y M pc lv (.long v :: st) S w S' := fun ρ sz p e s m args below meth c X H locs ls hP hS hl =>
  lv_lstore X.1 X.2.1 d hl hn (zf2_map ρ.2.1 i (.long v) lv) (fun ls' hl' => kk ρ sz p e s m args below meth c X H locs ls' hP hS (zpick ks hl' h))
theorem z_iinc {i : Nat} {n : Int} {x v : Int32} {lv' : List (Nat × Value)} (j : Nat) (ks : List Nat) (d : decode M.2.1 pc = .ok (.iinc i n, 3)) (hx : lv[j]? = some (i, .int x)) (hv : x + Int32.ofInt n = v) (hn : i < M.2.2.1) (h : lv_pick ((i, .int v) :: zf1 i lv) ks = lv') (kk : Z l y M (pc + 3) lv' st S w S') : Z l y M pc lv st S w S' := fun ρ sz p e s m args below meth c X H locs ls hP hS hl =>
  lv_iinc (k := j) X.1 X.2.1 d hl (by rw [List.getElem?_map, hx]; rfl) hv hn (zf1_map ρ.2.1 i (.int v) lv) (fun ls' hl' => kk ρ sz p e s m args below meth c X H locs ls' hP hS (zpick ks hl' h))
/-- fewer locals, in any order -/
theorem z_sub {lv' : List (Nat × Value)} (ks : List Nat) (h : lv_pick lv ks = lv') (kk : Z l y M pc lv' st S w S') : Z l y M pc lv st S w S' := fun ρ sz p e s m args below meth c X H locs ls hP hS hl =>
  kk ρ sz p e s m args below meth c X H locs ls hP hS (zpick ks hl h)
theorem z_goto {off : Int} {tgt : Nat} (d : decode M.2.1 pc = .ok (.goto off, 3)) (ht : (pc : Int) + off = (tgt : Int)) (k : Z l y M tgt lv st S w S') : Z l y M pc lv st S w S' := fun ρ sz p e s m args below meth c X H locs ls hP hS hl =>
  lv_goto X.1 X.2.1 d ht (k ρ sz p e s m args below meth c X H locs ls hP hS hl)
theorem z_icmp_eq {a b : Int32} {off : Int} {tgt : Nat} (d : decode M.2.1 pc = .ok (.if_icmp .eq off, 3)) (ht : (pc : Int) + off = (tgt : Int)) (kt : a = b → Z l y M tgt lv st S w S') (kf : ¬ a = b → Z l y M (pc + 3) lv st S w S') : Z l y M pc lv (.int b :: .int a :: st) S w S' := fun ρ sz p e s m args below meth c X H locs ls hP hS hl =>
  lv_icmp_eq X.1 X.2.1 d ht (fun q => kt q ρ sz p e s m args below meth c X H locs ls hP hS hl) (fun q => kf q ρ sz p e s m args below meth c X H locs ls hP hS hl)
theorem z_icmp_ne {a b : Int32} {off : Int} {tgt : Nat} (d : decode M.2.1 pc = .ok (.if_icmp .ne off, 3)) (ht : (pc : Int) + off = (tgt : Int)) (kt : ¬ a = b → Z l y M tgt lv st S w S') (kf : a = b → Z l y M (pc + 3) lv st S w S') : Z l y M pc lv (.int b :: .int a :: st) S w S' := fun ρ sz p e s m args below meth c X H locs ls hP hS hl =>
  lv_icmp_ne X.1 X.2.1 d ht (fun q => kt q ρ sz p e s m args below meth c X H locs ls hP hS hl) (fun q => kf q ρ sz p e s m args below meth c X H locs ls hP hS hl)
theorem z_icmp_lt {a b : Int32} {off : Int} {tgt : Nat} (d : decode M.2.1 pc = .ok (.if_icmp .lt off, 3)) (ht : (pc : Int) + off = (tgt : Int)) (kt : a < b → Z l y M tgt lv st S w S') (kf : ¬ a < b → Z l y M (pc + 3) lv st S w S') : Z l y M pc lv (.int b :: .int a :: st) S w S' := fun ρ sz p e s m args below meth c X H locs ls hP hS hl =>
  lv_icmp_lt X.1 X.2.1 d ht (fun q => kt q ρ sz p e s m args below meth c X H locs ls hP hS hl) (fun q => kf q ρ sz p e s m args below meth c X H locs ls hP hS hl)
theorem z_icmp_ge {a b : Int32} {off : Int} {tgt : Nat} (d : decode M.2.1 pc = .ok (.if_icmp .ge off, 3)) (ht : (pc : Int) + off = (tgt : Int)) (kt : b ≤ a → Z l y M tgt lv st S w S') (kf : ¬ b ≤ a → Z l y M (pc + 3) lv st S w S') : Z l y M pc lv (.int b :: .int a :: st) S w S' := fun ρ sz p e s m args below meth c X H locs ls hP hS hl =>
  lv_icmp_ge X.1 X.2.1 d ht (fun q => kt q ρ sz p e s m args below meth c X H locs ls hP hS hl) (fun q => kf q ρ sz p e s m args below meth c X H locs ls hP hS hl)
theorem z_icmp_gt {a b : Int32} {off : Int} {tgt : Nat} (d : decode M.2.1 pc = .ok (.if_icmp .gt off, 3)) (ht : (pc : Int) + off = (tgt : Int)) (kt : b < a → Z l y M tgt lv st S w S') (kf : ¬ b < a → Z l y M (pc + 3) lv st S w S') : Z l y M pc lv (.int b :: .int a :: st) S w S' := fun ρ sz p e s m args below meth c X H locs ls hP hS hl =>
  lv_icmp_gt X.1 X.2.1 d ht (fun q => kt q ρ sz p e s m args below meth c X H locs ls hP hS hl) (fun q => kf q ρ sz p e s m args below meth c X H locs ls hP hS hl)
theorem z_icmp_le {a b : Int32} {off : Int} {tgt : Nat} (d : decode M.2.1 pc = .ok (.if_icmp .le off, 3)) (ht : (pc : Int) + off = (tgt : Int)) (kt : a ≤ b → Z l y M tgt lv st S w S') (kf : ¬ a ≤ b → Z l y M (pc + 3) lv st S w S') : Z l y M pc lv (.int b :: .int a :: st) S w S' := fun ρ sz p e s m args below meth c X H locs ls hP hS hl =>
  lv_icmp_le X.1 X.2.1 d ht (fun q => kt q ρ sz p e s m args below meth c X H locs ls hP hS hl) (fun q => kf q ρ sz p e s m args below meth c X H locs ls hP hS hl)
theorem z_if_eq {a : Int32} {off : Int} {tgt : Nat} (d : decode M.2.1 pc = .ok (.ifCond .eq off, 3)) (ht : (pc : Int) + off = (tgt : Int)) (kt : a = 0 → Z l y M tgt lv st S w S') (kf : ¬ a = 0 → Z l y M (pc + 3) lv st S w S') : Z l y M pc lv (.int a :: st) S w S' := fun ρ sz p e s m args below meth c X H locs ls hP hS hl =>
  lv_if_eq X.1 X.2.1 d ht (fun q => kt q ρ sz p e s m args below meth c X H locs ls hP hS hl) (fun q => kf q ρ sz p e s m args below meth c X H locs ls hP hS hl)
theorem z_if_ne {a : Int32} {off : Int} {tgt : Nat} (d : decode M.2.1 pc = .ok (.ifCond .ne off, 3)) (ht : (pc : Int) + off = (tgt : Int)) (kt : ¬ a = 0 → Z l y M tgt lv st S w S') (kf : a = 0 → Z l y M (pc + 3) lv st S w S') : Z l y M pc lv (.int a :: st) S w S' := fun ρ sz p e s m args below meth c X H locs ls hP hS hl =>
  lv_if_ne X.1 X.2.1 d ht (fun q => kt q ρ sz p e s m args below meth c X H locs ls hP hS hl) (fun q => kf q ρ sz p e s m args below meth c X H locs ls hP hS hl)
theorem z_if_lt {a : Int32} {off : Int} {tgt : Nat} (d : decode M.2.1 pc = .ok (.ifCond .lt off, 3)) (ht : (pc : Int) + off = (tgt : Int)) (kt : a < 0 → Z l y M tgt lv st S w S') (kf : ¬ a < 0 → Z l y M (pc + 3) lv st S w S') : Z l y M pc lv (.int a :: st) S w S' := fun ρ sz p e s m args below meth c X H locs ls hP hS hl =>
  lv_if_lt X.1 X.2.1 d ht (fun q => kt q ρ sz p e s m args below meth c X H locs ls hP hS hl) (fun q => kf q ρ sz p e s m args below meth c X H locs ls hP hS hl)
theorem z_if_ge {a : Int32} {off : Int} {tgt : Nat} (d : decode M.2.1 pc = .ok (.ifCond .ge off, 3)) (ht : (pc : Int) + off = (tgt : Int)) (kt : 0 ≤ a → Z l y M tgt lv st S w S') (kf : ¬ 0 ≤ a → Z l y M (pc + 3) lv st S w S') : Z l y M pc lv (.int a :: st) S w S' := fun ρ sz p e s m args below meth c X H locs ls hP hS hl =>
  lv_if_ge X.1 X.2.1 d ht (fun q => kt q ρ sz p e s m args below meth c X H locs ls hP hS hl) (fun q => kf q ρ sz p e s m args below meth c X H locs ls hP hS hl)
theorem z_if_gt {a : Int32} {off : Int} {tgt : Nat} (d : decode M.2.1 pc = .ok (.ifCond .gt off, 3)) (ht : (pc : Int) + off = (tgt : Int)) (kt : 0 < a → Z l y M tgt lv st S w S') (kf : ¬ 0 < a → Z l y M (pc + 3) lv st S w S') : Z l y M pc lv (.int a :: st) S w S' := fun ρ sz p e s m args below meth c X H locs ls hP hS hl =>
  lv_if_gt X.1 X.2.1 d ht (fun q => kt q ρ sz p e s m args below meth c X H locs ls hP hS hl) (fun q => kf q ρ sz p e s m args below meth c X H locs ls hP hS hl)
theorem z_if_le {a : Int32} {off : Int} {tgt : Nat} (d : decode M.2.1 pc = .ok (.ifCond .le off, 3)) (ht : (pc : Int) + off = (tgt : Int)) (kt : a ≤ 0 → Z l y M tgt lv st S w S') (kf : ¬ a ≤ 0 → Z l y M (pc + 3) lv st S w S') : Z l y M pc lv (.int a :: st) S w S' := fun ρ sz p e s m args below meth c X H locs ls hP hS hl =>
  lv_if_le X.1 X.2.1 d ht (fun q => kt q ρ sz p e s m args below meth c X H locs ls hP hS hl) (fun q => kf q ρ sz p e s m args below meth c X H locs ls hP hS hl)
theorem z_lookup {dflt : Int} {ps : Array (Int × Int)} {len : Nat} {x : Int32} {off : Int} {tgt : Nat} (d : decode M.2.1 pc = .ok (.lookupswitch dflt ps, len)) (hp : (ps.toList.zip (ps.toList.drop 1)).all (fun (a, next) => a.1 < next.1) = true) (ho : Op.lookupswitch.offset ps.toList dflt x.toInt = off) (ht : (pc : Int) + off = (tgt : Int)) (k : Z l y M tgt lv st S w S') : Z l y M pc lv (.int x :: st) S w S' := fun ρ sz p e s m args below meth c X H locs ls hP hS hl =>
  lv_lookup X.1 X.2.1 d hp ho ht (k ρ sz p e s m args below meth c X H locs ls hP hS hl)
theorem z_tableOut {dflt lo hi : Int} {offs : Array Int} {len : Nat} {x : Int32} {tgt : Nat} (d : decode M.2.1 pc = .ok (.tableswitch dflt lo hi offs, len)) (h : x.toInt < lo ∨ hi < x.toInt) (ht : (pc : Int) + dflt = (tgt : Int)) (k : Z l y M tgt lv st S w S') : Z l y M pc lv (.int x :: st) S w S' := fun ρ sz p e s m args below meth c X H locs ls hP hS hl =>
  lv_tableOut X.1 X.2.1 d h ht (k ρ sz p e s m args below meth c X H locs ls hP hS hl)
theorem z_tableIn {dflt lo hi : Int} {offs : Array Int} {len : Nat} {x : Int32} {off : Int} {tgt : Nat} (d : decode M.2.1 pc = .ok (.tableswitch dflt lo hi offs, len)) (h1 : ¬ x.toInt < lo) (h2 : ¬ hi < x.toInt) (ho : offs[(x.toInt - lo).toNat]? = some off) (ht : (pc : Int) + off = (tgt : Int)) (k : Z l y M tgt lv st S w S') : Z l y M pc lv (.int x :: st) S w S' := fun ρ sz p e s m args below meth c X H locs ls hP hS hl =>
  lv_tableIn X.1 X.2.1 d h1 h2 ho ht (k ρ sz p e s m args below meth c X H locs ls hP hS hl)
theorem z_ldc {index : Nat} {v : Int32} (hc : Cond.constant y.cls index v ∈ WS) (d : decode M.2.1 pc = .ok (.ldc index, 2)) (k : Z l y M (pc + 2) lv (.int v :: st) S w S') : Z l y M pc lv st S w S' := fun ρ sz p e s m args below meth c X H locs ls hP hS hl =>
  lv_ldc X.1 X.2.1 X.2.2.2.2.2.1 (X.2.2.2.2.2.2.1 _ (List.mem_cons_of_mem _ hc)) d (k ρ sz p e s m args below meth c X H locs ls hP hS hl)
theorem z_ldc2 {index : Nat} {v : Int64} (hc : Cond.constantLong y.cls index v ∈ WS) (d : decode M.2.1 pc = .ok (.ldc2_w index, 3)) (k : Z l y M (pc + 3) lv (.long v :: st) S w S') : Z l y M pc lv st S w S' := fun ρ sz p e s m args below meth c X H locs ls hP hS hl =>
  lv_ldc2 X.1 X.2.1 X.2.2.2.2.2.1 (X.2.2.2.2.2.2.1 _ (List.mem_cons_of_mem _ hc)) d (k ρ sz p e s m args below meth c X H locs ls hP hS hl)
theorem zc_obj {ρ : zR} {S : St} {q ci : Nat} (hk : kd q = ci) (hc : ci < 9) : zc ρ S q = .inr (ci, (zf ci q (S.1 q)).map (rv ρ.2.1)) := by
  unfold zc zk
  rw [hk, if_pos hc]
theorem zc_ints {ρ : zR} {S : St} {q k : Nat} (hk : kd q = k) (hc : ¬ k < 9) (h2 : k < 20) : zc ρ S q = .inl (ρ.2.2.1.1, (il k, .inl (S.1 q))) := by
  unfold zc zk
  rw [hk, if_neg hc, if_pos h2]
theorem zc_things {ρ : zR} {S : St} {q : Nat} (hk : kd q = 20) : zc ρ S q = .inl (ρ.2.2.1.2.2, (8, .inr (.inr (.inr (.inr (fun j => some (ρ.2.1 (q + 2 + 2 * j)))))))) := by
  unfold zc zk
  rw [hk, if_neg (by decide), if_neg (by decide), if_pos rfl]
theorem zc_longs {ρ : zR} {S : St} {q : Nat} (hk : kd q = 21) : zc ρ S q = .inl (ρ.2.2.1.2.1, (9, .inr (.inl S.2))) := by
  unfold zc zk
  rw [hk, if_neg (by decide), if_neg (by decide), if_neg (by decide)]
theorem zc_up_ne {ρ : zR} {S : St} {q k : Nat} {x : Int32} {i : Nat} (h : i ≠ q) : zc ρ (up S q k x) i = zc ρ S i := by
  unfold zc
  rw [up_ne h]
  rfl
theorem zc_upc_ne {ρ : zR} {S : St} {q0 q sp dp n i : Nat} (h : i ≠ q) : zc ρ (upc S q0 q sp dp n) i = zc ρ S i := by
  unfold zc
  rw [upc_ne h]
  rfl
/-- a link of a field: own class' entry idx is field k of class ci -/
def zFL (own : String) (idx : Nat) (ci k : Nat) : Prop := ∃ (C : String) (T : u_T) (N : Nat), CL[ci]? = some (C, T, N) ∧ ci < 9 ∧ k < N ∧ (∀ w ∈ u_ws C T N, w ∈ WS) ∧ (T k).1 = C ∧
  (Cond.fieldLink own idx C (T k).2.1 (T k).2.2.1 ∈ WS ∨ ∃ host, Cond.fieldLinkNest own idx C (T k).2.1 (T k).2.2.1 host ∈ NWS)
theorem z_get {idx q ci fk : Nat} {v : Value} (d : decode M.2.1 pc = .ok (.getfield idx, 3)) (lk : zFL y.cls idx ci fk) (hk : kd q = ci) (hv : (zf ci q (S.1 q))[fk]? = some v) (k : Z l y M (pc + 3) lv (v :: st) S w S') : Z l y M pc lv (.ref q :: st) S w S' := by
  intro ρ sz p e s m args below meth c X H locs ls hP hS hl
  obtain ⟨C, T, N, h1, h2, h3, h4, h5, h6⟩ := lk
  obtain ⟨hx, hb, hr, hml, hlo, hown, hts, hsz, hI, hE⟩ := id X
  have he : (world ρ S)[q]? = some (ρ.2.1 q, .inr (ci, (zf ci q (S.1 q)).map (rv ρ.2.1))) := by
    rw [world_at ρ S (kd_lt hk (by omega)), zc_obj hk h2]
  have hv' : ((zf ci q (S.1 q)).map (rv ρ.2.1))[fk]? = some (rv ρ.2.1 v) := by rw [List.getElem?_map, hv]; rfl
  have kk := k ρ sz p e s m args below meth c X H locs ls hP hS hl
  have hin : ∀ w ∈ u_ws C T N, w ∈ (Cond.code y M.2.1 M.2.2.1 M.2.2.2.1 :: WS) := fun w hw => List.mem_cons_of_mem _ (h4 w hw)
  rcases h6 with h6 | ⟨host, h6⟩
  · exact va_get (D := ρ.1) (ci := ci) (ref := C) (C := C) (T := T) (N := N) hx hb hts hin hown hE.1 hP q he h1 fk h3 (hts _ (List.mem_cons_of_mem _ h6)) (by rw [h5]; exact fun _ h9 => h9) hv' d kk
  · exact va_getN (D := ρ.1) (ci := ci) (ref := C) (C := C) (T := T) (N := N) hx hb hts hin hown hE.1 hP q he h1 fk h3 (va_Nw.use rfl (hE.2.1 _ h6)) (by rw [h5]; exact fun _ h9 => h9) hv' d kk
/-- what a field may be written with -/
def zFP (ci k : Nat) (ty : FieldType) : Prop := ∃ (C : String) (T : u_T) (N : Nat) (ty0 : Nat → FieldType), CL[ci]? = some (C, T, N) ∧ (∀ k, k < N → parseFieldDescriptor (T k).2.2.1 = some (ty0 k)) ∧ (∀ a, a < N → ∀ b, b < N → a ≠ b → (T a).2.1 ≠ (T b).2.1) ∧ (T k).2.2.2 = false ∧ parseFieldDescriptor (T k).2.2.1 = some ty
theorem z_put {idx q ci fk : Nat} {x : Int32} {ty : FieldType} (d : decode M.2.1 pc = .ok (.putfield idx, 3)) (lk : zFL y.cls idx ci fk) (lp : zFP ci fk ty) (hk : kd q = ci) (hn : narrow ty (.int x) = .int x) (hfit : fits ty (.int x) = true) (hv : zf ci q (upd (S.1 q) fk x) = (zf ci q (S.1 q)).set fk (.int x)) (hl0 : fk < (zf ci q (S.1 q)).length) (k : Z l y M (pc + 3) lv st (up S q fk x) w S') : Z l y M pc lv (.int x :: .ref q :: st) S w S' := by
  intro ρ sz p e s m args below meth c X H locs ls hP hS hl
  obtain ⟨C, T, N, h1, h2, h3, h4, h5, h6⟩ := lk
  obtain ⟨C', T', N', ty0, g1, g2, g3, g4, g5⟩ := lp
  obtain ⟨rfl, rfl, rfl⟩ : C' = C ∧ T' = T ∧ N' = N := by
    have := g1.symm.trans h1
    simpa using this
  obtain ⟨hx, hb, hr, hml, hlo, hown, hts, hsz, hI, hE⟩ := id X
  have hq : q < NC := kd_lt hk (by omega)
  have he : (world ρ S)[q]? = some (ρ.2.1 q, .inr (ci, (zf ci q (S.1 q)).map (rv ρ.2.1))) := by
    rw [world_at ρ S hq, zc_obj hk h2]
  have hin : ∀ w ∈ u_ws C' T' N', w ∈ (Cond.code y M.2.1 M.2.2.1 M.2.2.2.1 :: WS) := fun w hw => List.mem_cons_of_mem _ (h4 w hw)
  have hw : (world ρ S).set q (ρ.2.1 q, .inr (ci, ((zf ci q (S.1 q)).map (rv ρ.2.1)).set fk (.int x))) = world ρ (up S q fk x) := by
    refine world_set ?_ (fun i _ h => zc_up_ne h)
    rw [zc_obj hk h2, up_row, hv, List.map_set]
    rfl
  have kk : ∀ (H1 : Heap) (locs1 : List Loc), va_P ρ.1 CL ((world ρ S).set q (ρ.2.1 q, .inr (ci, ((zf ci q (S.1 q)).map (rv ρ.2.1)).set fk (.int x)))) H1 → va_D (zA ρ.2.1 sz) ((world ρ S).set q (ρ.2.1 q, .inr (ci, ((zf ci q (S.1 q)).map (rv ρ.2.1)).set fk (.int x)))) → va_S (zA ρ.2.1 sz) s.heap H1 locs1 → W p l e (zrm M) s m args below meth c H1 locs1 0 0 (MQ below (zQ ρ w S' (zA ρ.2.1 sz)) args s 0 0 (zA ρ.2.1 sz)) (F0 m (pc + 3) ls (st.map (rv ρ.2.1))) := by
    intro H1 locs1 p1 _ s1
    rw [hw] at p1
    exact k ρ sz p e s m args below meth c X H1 locs1 ls p1 s1 hl
  rcases h6 with h6 | ⟨host, h6⟩
  · exact va_put (D := ρ.1) (ci := ci) (v := .int x) (ref := C') (C := C') (T := T') (N := N') hx hb hts hin ty0 g2 g3 hown hE.1 hP (z_D hI) hS q he h1 fk h3 (hts _ (List.mem_cons_of_mem _ h6)) (by rw [h5]; exact fun _ h9 => h9) g4 g5 hn hfit (by rw [List.length_map]; exact hl0) d kk
  · exact va_putN (D := ρ.1) (ci := ci) (v := .int x) (ref := C') (C := C') (T := T') (N := N') hx hb hts hin ty0 g2 g3 hown hE.1 hP (z_D hI) hS q he h1 fk h3 (va_Nw.use rfl (hE.2.1 _ h6)) (by rw [h5]; exact fun _ h9 => h9) g4 g5 hn hfit (by rw [List.length_map]; exact hl0) d kk
theorem z_iald {q k0 : Nat} {i : Int32} (d : decode M.2.1 pc = .ok (.iaload, 1)) (hk : kd q = k0) (hc : ¬ k0 < 9 ∧ k0 < 20) (hin : ¬ (i < 0 ∨ il k0 ≤ i.toNatClampNeg)) (k : Z l y M (pc + 1) lv (.int (S.1 q i.toNatClampNeg) :: st) S w S') : Z l y M pc lv (.int i :: .ref q :: st) S w S' := by
  intro ρ sz p e s m args below meth c X H locs ls hP hS hl
  have he : (world ρ S)[q]? = some (ρ.2.1 q, .inl (ρ.2.2.1.1, (il k0, .inl (S.1 q)))) := by rw [world_at ρ S (kd_lt hk (by omega)), zc_ints hk hc.1 hc.2]
  exact va_iald X.1 X.2.1 X.2.2.2.2.2.2.2.2.2.1 hP q 0 he rfl hin d (k ρ sz p e s m args below meth c X H locs ls hP hS hl)
theorem z_iast {q k0 : Nat} {i x : Int32} (d : decode M.2.1 pc = .ok (.iastore, 1)) (hk : kd q = k0) (hc : ¬ k0 < 9 ∧ k0 < 20) (hin : ¬ (i < 0 ∨ il k0 ≤ i.toNatClampNeg)) (k : Z l y M (pc + 1) lv st (up S q i.toNatClampNeg x) w S') : Z l y M pc lv (.int x :: .int i :: .ref q :: st) S w S' := by
  intro ρ sz p e s m args below meth c X H locs ls hP hS hl
  have he : (world ρ S)[q]? = some (ρ.2.1 q, .inl (ρ.2.2.1.1, (il k0, .inl (S.1 q)))) := by rw [world_at ρ S (kd_lt hk (by omega)), zc_ints hk hc.1 hc.2]
  refine va_iast X.1 X.2.1 X.2.2.2.2.2.2.2.2.2.1 hP (z_D X.2.2.2.2.2.2.2.2.1) hS q 0 he rfl hin d (fun H1 locs1 p1 _ s1 => ?_)
  have hw : (world ρ S).set q (ρ.2.1 q, .inl (ρ.2.2.1.1, il k0, .inl (upd (S.1 q) i.toNatClampNeg x))) = world ρ (up S q i.toNatClampNeg x) := by
    refine world_set ?_ (fun i _ h => zc_up_ne h)
    rw [zc_ints hk hc.1 hc.2, up_row]
  rw [hw] at p1
  exact k ρ sz p e s m args below meth c X H1 locs1 ls p1 s1 hl
theorem z_lald {q : Nat} {i : Int32} (d : decode M.2.1 pc = .ok (.laload, 1)) (hk : kd q = 21) (hin : ¬ (i < 0 ∨ 9 ≤ i.toNatClampNeg)) (k : Z l y M (pc + 1) lv (.long (S.2 i.toNatClampNeg) :: st) S w S') : Z l y M pc lv (.int i :: .ref q :: st) S w S' := by
  intro ρ sz p e s m args below meth c X H locs ls hP hS hl
  have he : (world ρ S)[q]? = some (ρ.2.1 q, .inl (ρ.2.2.1.2.1, (9, .inr (.inl S.2)))) := by rw [world_at ρ S (kd_lt hk (by omega)), zc_longs hk]
  exact va_lald X.1 X.2.1 X.2.2.2.2.2.2.2.2.2.1 hP q 1 he rfl hin d (k ρ sz p e s m args below meth c X H locs ls hP hS hl)
theorem kd_longs {i : Nat} (hi : i < NC) (h : kd i = 21) : i = 71 := by
  have key : ∀ i, i < 85 → kd i = 21 → i = 71 := by decide +kernel
  exact key i hi h
theorem kd_all {i : Nat} (hi : i < NC) : kd i < 9 ∨ (¬ kd i < 9 ∧ kd i < 20) ∨ kd i = 20 ∨ kd i = 21 := by
  have key : ∀ i, i < 85 → kd i < 9 ∨ (¬ kd i < 9 ∧ kd i < 20) ∨ kd i = 20 ∨ kd i = 21 := by decide +kernel
  exact key i hi
theorem z_last {q : Nat} {i : Int32} {x : Int64} (d : decode M.2.1 pc = .ok (.lastore, 1)) (hk : kd q = 21) (hin : ¬ (i < 0 ∨ 9 ≤ i.toNatClampNeg)) (k : Z l y M (pc + 1) lv st (upL S i.toNatClampNeg x) w S') : Z l y M pc lv (.long x :: .int i :: .ref q :: st) S w S' := by
  intro ρ sz p e s m args below meth c X H locs ls hP hS hl
  have hq : q < NC := kd_lt hk (by omega)
  have he : (world ρ S)[q]? = some (ρ.2.1 q, .inl (ρ.2.2.1.2.1, (9, .inr (.inl S.2)))) := by rw [world_at ρ S hq, zc_longs hk]
  refine va_last X.1 X.2.1 X.2.2.2.2.2.2.2.2.2.1 hP (z_D X.2.2.2.2.2.2.2.2.1) hS q 1 he rfl hin d (fun H1 locs1 p1 _ s1 => ?_)
  have hw : (world ρ S).set q (ρ.2.1 q, .inl (ρ.2.2.1.2.1, 9, .inr (.inl (vp_updL S.2 i.toNatClampNeg x)))) = world ρ (upL S i.toNatClampNeg x) := by
    refine world_set ?_ (fun j hj h => ?_)
    · rw [zc_longs hk]
      rfl
    · rcases kd_all hj with h1 | h1 | h1 | h1
      · rw [zc_obj rfl h1, zc_obj rfl h1]; rfl
      · rw [zc_ints rfl h1.1 h1.2, zc_ints rfl h1.1 h1.2]; rfl
      · rw [zc_things h1, zc_things h1]
      · exact absurd ((kd_longs hj h1).trans (kd_longs hq hk).symm) h
  rw [hw] at p1
  exact k ρ sz p e s m args below meth c X H1 locs1 ls p1 s1 hl
theorem z_aald {q : Nat} {i : Int32} (d : decode M.2.1 pc = .ok (.aaload, 1)) (hk : kd q = 20) (hin : ¬ (i < 0 ∨ 8 ≤ i.toNatClampNeg)) (k : Z l y M (pc + 1) lv (.ref (q + 2 + 2 * i.toNatClampNeg) :: st) S w S') : Z l y M pc lv (.int i :: .ref q :: st) S w S' := by
  intro ρ sz p e s m args below meth c X H locs ls hP hS hl
  have he : (world ρ S)[q]? = some (ρ.2.1 q, .inl (ρ.2.2.1.2.2, (8, .inr (.inr (.inr (.inr (fun j => some (ρ.2.1 (q + 2 + 2 * j))))))))) := by rw [world_at ρ S (kd_lt hk (by omega)), zc_things hk]
  exact va_aldq X.1 X.2.1 X.2.2.2.2.2.2.2.2.2.1 hP q 2 (C := RX6) he rfl hin d (k ρ sz p e s m args below meth c X H locs ls hP hS hl)
theorem z_alen {q k0 : Nat} {v : Int32} (d : decode M.2.1 pc = .ok (.arraylength, 1)) (hk : kd q = k0) (hc : ¬ k0 < 9 ∧ k0 < 20) (hv : Int32.ofNat (il k0) = v) (k : Z l y M (pc + 1) lv (.int v :: st) S w S') : Z l y M pc lv (.ref q :: st) S w S' := by
  intro ρ sz p e s m args below meth c X H locs ls hP hS hl
  have he : (world ρ S)[q]? = some (ρ.2.1 q, .inl (ρ.2.2.1.1, (il k0, .inl (S.1 q)))) := by rw [world_at ρ S (kd_lt hk (by omega)), zc_ints hk hc.1 hc.2]
  exact va_alen X.1 X.2.1 X.2.2.2.2.2.2.2.2.2.1 hP q 0 he (ty := .int) rfl hv d (k ρ sz p e s m args below meth c X H locs ls hP hS hl)
-- ===== the ends =====
theorem z_iret {v : Int32} {ty : FieldType} (d : decode M.2.1 pc = .ok (.ireturn, 1)) (hr : M.2.2.2.1 = some ty) (hn : narrow ty (.int v) = .int v) : Z l y M pc lv [.int v] S (some (.int v)) S := fun ρ sz p e s m args below meth c X H locs ls hP hS hl =>
  W.zret (v := v) X.1 X.2.1 (X.2.2.1.trans hr) hn (fun t ht hW => ⟨⟨rfl, by rw [ht]; exact hP⟩, hS.F ht⟩) hS.2.2 d X.2.2.2.2.1
theorem z_lret {v : Int64} (d : decode M.2.1 pc = .ok (.lreturn, 1)) (hr : M.2.2.2.1 = some .long) : Z l y M pc lv [.long v] S (some (.long v)) S := fun ρ sz p e s m args below meth c X H locs ls hP hS hl =>
  W.lret (v := v) X.1 X.2.1 (X.2.2.1.trans hr) (fun t ht hW => ⟨⟨rfl, by rw [ht]; exact hP⟩, hS.F ht⟩) hS.2.2 d X.2.2.2.2.1
theorem z_vret (d : decode M.2.1 pc = .ok (.return_, 1)) (hr : M.2.2.2.1 = none) : Z l y M pc lv [] S none S := fun ρ sz p e s m args below meth c X H locs ls hP hS hl =>
  W.vret X.1 X.2.1 (X.2.2.1.trans hr) (fun t ht hW => ⟨⟨rfl, by rw [ht]; exact hP⟩, hS.F ht⟩) hS.2.2 d X.2.2.2.2.1
theorem z_aret {q : Nat} {n : String} (d : decode M.2.1 pc = .ok (.areturn, 1)) (hr : M.2.2.2.1 = some (.object n)) : Z l y M pc lv [.ref q] S (some (.ref q)) S := fun ρ sz p e s m args below meth c X H locs ls hP hS hl =>
  W.aret (v := .ref (ρ.2.1 q)) X.1 X.2.1 (X.2.2.1.trans hr) (Or.inl ⟨_, rfl⟩) (Or.inr ⟨_, rfl⟩) (fun t ht hW => ⟨⟨rfl, by rw [ht]; exact hP⟩, hS.F ht⟩) hS.2.2 d X.2.2.2.2.1
end ZZ
end
section
-- ===== calls =====
section ZC
variable {p : Program} {l : Launch} {e : Env} {R : Room} {s : State} {m : MethodId} {args : Array Value} {below : List Frame} {meth : Method} {c : Code} {H : Heap} {locs : List Loc} {Q : State → Prop}
theorem zrun_goes {ρ : zR} {v : Option Value} {S1 : St} {sz pc : Nat} {ls : Array Slot} {st0 rest : List Value} {a : Array Value} (hr : va_Run p l e R s m args below meth c H locs 0 0 0 0 (F0 m pc ls st0) rest (zQ ρ v S1 (zA ρ.2.1 H.size) a) (zA ρ.2.1 H.size)) (hsz : s.heap.size = sz) (hS : va_S (zA ρ.2.1 sz) s.heap H locs)
    (kk : ∀ (H1 : Heap) (locs1 : List Loc), va_P ρ.1 CL (world ρ S1) H1 → va_S (zA ρ.2.1 sz) s.heap H1 locs1 → W p l e R s m args below meth c H1 locs1 0 0 Q (F0 m (pc + 3) ls ((v.map (rv ρ.2.1)).toList ++ rest))) : W p l e R s m args below meth c H locs 0 0 Q (F0 m pc ls st0) := by
  have hA : ∀ q, zA ρ.2.1 H.size q → zA ρ.2.1 sz q := fun q h => zA_up (by rw [← hsz]; exact hS.1) h
  intro T hT X
  obtain ⟨w, st₀, t, T', L, h0, X', hL, e1, e2, ⟨⟨hv, hP1⟩, hz, hk⟩, st⟩ := hr T hT X
  cases hv
  rw [h0] at hz hk
  obtain ⟨t2, a1, b1⟩ := kk T'.heap (locs ++ L) (by rw [e1]; exact hP1)
    ⟨Nat.le_trans hS.1 (by rw [e1]; exact hz), fun q h1 h2 => by rw [e1, hk q (Nat.lt_of_lt_of_le h1 hS.1) (fun z => h2 (hA q z))]; exact hS.2.1 q h1 h2, fun q hq => by
      rcases List.mem_append.mp hq with h | h
      · exact hS.2.2 q h
      · exact hA _ (hL q h)⟩ T' rfl X'
  exact ⟨t2, st t2 a1, b1⟩
end ZC
theorem zB_blind (ρ : zR) (sz : Nat) (S : St) (av : List Value) : FrameBlind (va_Pc av (zB ρ sz S)) := fun a U g mk q => ⟨q.1, q.2.1, q.2.2.1, q.2.2.2.1, zE.same (u := U) (U := U.calling g mk a) (H := U.heap) rfl q.2.2.2.2⟩
theorem zB_call {ρ : zR} {y : MethodName} {M : zM} {sz : Nat} {p : Program} {s : State} {m : MethodId} {args : Array Value} {meth : Method} {c : Code} (X : zX y M ρ sz p s m args meth c) {H : Heap} {locs : List Loc} {S : St} (hP : va_P ρ.1 CL (world ρ S) H) (hS : va_S (zA ρ.2.1 sz) s.heap H locs) (U : State) (hU : U.heap = H) (hW : s.WarmedH U.vm) : zB ρ H.size S U := by
  obtain ⟨hx, hb, hr, hml, hlo, hown, hts, hsz, hI, hE⟩ := X
  subst hU
  exact ⟨rfl, hI, hP, zE.warm hW ((hE.kept hS.2.1).narrow (fun q h => zA_up (by rw [← hsz]; exact hS.1) h))⟩
/-- the words of a call, its link by the caller's class and entry -/
def zML (own : String) (idx : Nat) (y2 : MethodName) (M2 : zM) (n : Nat) : Prop :=
  ((y2.cls = own ∧ Cond.methodLink own idx y2 ∈ WS) ∨ ∃ host, Cond.methodLinkNest own idx y2 host ∈ NWS) ∧ Cond.initialized y2.cls ∈ WS ∧ Cond.code y2 M2.2.1 M2.2.2.1 M2.2.2.2.1 ∈ WS ∧
  (y2.cls ≠ "java/lang/invoke/MethodHandle" ∧ y2.cls ≠ "java/lang/invoke/VarHandle" ∧ (parseMethodDescriptor y2.desc).map (fun d => d.parameters.length) = some n)
def zMV (y2 : MethodName) : Prop := Cond.instanceMethod y2 ∈ WS ∧ Cond.selects y2.cls y2 y2 ∈ WS
section ZCC
variable {l : Launch} {y : MethodName} {M : zM} {pc : Nat} {lv : List (Nat × Value)} {st : List Value} {S : St} {w : Option Value} {S' : St}
theorem zcats (ad : Nat → Nat) (st : List Value) : ((st.map (rv ad)).map fun v => v.category) = st.map Value.category := by
  rw [List.map_map]
  apply List.map_congr_left
  intro v _
  exact rv_cat ad v
theorem z_callV {idx n q ci : Nat} {y2 : MethodName} {M2 : zM} {as : List Value} {v : Option Value} {S1 : St} {st0 st1 : List Value} (d : decode M.2.1 pc = .ok (.invokevirtual idx, 3)) (ml : zML y.cls idx y2 M2 n) (mv : zMV y2) (hc : CT l y2 M2 (.ref q :: as) S v S1) (hk : kd q = ci) (hci : ci < 9 ∧ (CL[ci]?).map (fun r => r.1) = some y2.cls) (hn : as.length = n) (hst : as.reverse ++ .ref q :: st = st0) (hcat : (st.map Value.category).sum ≤ 8)
    (hroom : M2.2.2.2.2.1 + 1 ≤ M.2.2.2.2.1 ∧ 8 + (M2.2.2.1 + 11) + M2.2.2.2.2.2 ≤ M.2.2.2.2.2) (hst1 : v.toList ++ st = st1) (k : Z l y M (pc + 3) lv st1 S1 w S') : Z l y M pc lv st0 S w S' := by
  intro ρ sz p e s m args below meth c X H locs ls hP hS hl
  have XX := X
  obtain ⟨hx, hb, hr, hml, hlo, hown, hts, hsz, hI, hE⟩ := X
  subst hst
  subst hst1
  have hM := hc ρ H.size
  have hq : q < NC := kd_lt hk (by omega)
  have hrecv : ∃ cellB : Cell, H[ρ.2.1 q]? = some cellB ∧ cellB.vm.isStatics = false ∧ s.vm.findClass y2.cls = some cellB.cls := by
    cases hcl : CL[ci]? with
    | none => rw [hcl] at hci; simp at hci
    | some r =>
      rw [hcl] at hci
      have h1 : r.1 = y2.cls := by simpa using hci.2
      rw [← h1]
      exact va_recv hE.1 hP hcl (q0 := q) (by rw [world_at ρ S hq, zc_obj hk hci.1])
  have hpre : PreV s H y2.cls (ρ.2.1 q) (va_Pc ((Value.ref q :: as).map (rv ρ.2.1)) (zB ρ H.size S)) (as.map (rv ρ.2.1)) := ⟨zB_blind _ _ _ _, hrecv, fun U hU hW => ⟨rfl, zB_call XX hP hS U hU hW⟩⟩
  have hstack : (F0 m pc ls ((as.reverse ++ .ref q :: st).map (rv ρ.2.1))).stack = (as.map (rv ρ.2.1)).reverse ++ .ref (ρ.2.1 q) :: st.map (rv ρ.2.1) := by
    show (as.reverse ++ .ref q :: st).map (rv ρ.2.1) = _
    rw [List.map_append, List.map_reverse]
    rfl
  have hcat2 : ((st.map (rv ρ.2.1)).map fun v => v.category).sum ≤ 8 := by rw [zcats]; exact hcat
  have hrun : va_Run p l e (zrm M) s m args below meth c H locs 0 0 0 0 (F0 m pc ls ((as.reverse ++ .ref q :: st).map (rv ρ.2.1))) (st.map (rv ρ.2.1)) (zQ ρ v S1 (zA ρ.2.1 H.size) (Value.ref (ρ.2.1 q) :: as.map (rv ρ.2.1)).toArray) (zA ρ.2.1 H.size) := by
    rcases ml.1 with ⟨-, h1⟩ | ⟨host, h1⟩
    · exact va_runV (C := y2.cls) (ret := M2.2.2.2.1) (maxL := M2.2.2.1) (bytes := M2.2.1) (As := as.map (rv ρ.2.1)) ⟨hx, hb, hml, hown, hts⟩ hM (cwV n hts (zgi (fun w hw => by
        rcases List.mem_append.mp hw with h2 | h2
        · simp only [List.mem_cons, List.not_mem_nil, or_false] at h2
          rcases h2 with rfl | rfl | rfl | rfl
          · exact h1
          · exact mv.1
          · exact mv.2
          · exact ml.2.1
        · rcases List.mem_cons.mp h2 with rfl | h2
          · exact ml.2.2.1
          · exact h2)) rfl rfl rfl ⟨rfl, ml.2.2.2⟩ hroom) hpre rfl (by rw [List.length_map]; exact hn) hl.1 hstack (lv_room hcat2) d ⟨Nat.le_refl _, Nat.le_refl _⟩
    · exact va_runVN (C := y2.cls) (host := host) (ret := M2.2.2.2.1) (maxL := M2.2.2.1) (bytes := M2.2.1) (As := as.map (rv ρ.2.1)) ⟨hx, hb, hml, hown, hts⟩ hM ⟨va_cnB n hts (zgi (fun w hw => by
        rcases List.mem_cons.mp hw with rfl | h2
        · exact ml.2.2.1
        · exact h2)) rfl rfl rfl (hE.2.1 _ h1) (hts _ (List.mem_cons_of_mem _ ml.2.1)) ml.2.2.2 hroom, hts _ (List.mem_cons_of_mem _ mv.1), hts _ (List.mem_cons_of_mem _ mv.2)⟩ hpre rfl (by rw [List.length_map]; exact hn) hl.1 hstack (lv_room hcat2) d ⟨Nat.le_refl _, Nat.le_refl _⟩
  refine zrun_goes hrun hsz hS (fun H1 locs1 p1 s1 => ?_)
  have kk := k ρ sz p e s m args below meth c XX H1 locs1 ls p1 s1 hl
  rw [List.map_append] at kk
  cases v <;> exact kk
theorem z_callS {idx n : Nat} {y2 : MethodName} {M2 : zM} {as : List Value} {v : Option Value} {S1 : St} {st0 st1 : List Value} (d : decode M.2.1 pc = .ok (.invokestatic idx, 3)) (ml : zML y.cls idx y2 M2 n) (mv : Cond.static y2 ∈ WS) (hc : CT l y2 M2 as S v S1) (hn : as.length = n) (hst : as.reverse ++ st = st0) (hcat : (st.map Value.category).sum ≤ 8)
    (hroom : M2.2.2.2.2.1 + 1 ≤ M.2.2.2.2.1 ∧ 8 + (M2.2.2.1 + 11) + M2.2.2.2.2.2 ≤ M.2.2.2.2.2) (hst1 : v.toList ++ st = st1) (k : Z l y M (pc + 3) lv st1 S1 w S') : Z l y M pc lv st0 S w S' := by
  intro ρ sz p e s m args below meth c X H locs ls hP hS hl
  have XX := X
  obtain ⟨hx, hb, hr, hml, hlo, hown, hts, hsz, hI, hE⟩ := X
  subst hst
  subst hst1
  have hM := hc ρ H.size
  have hpre : PreS s H (va_Pc (as.map (rv ρ.2.1)) (zB ρ H.size S)) (as.map (rv ρ.2.1)) := ⟨zB_blind _ _ _ _, fun U hU hW => ⟨rfl, zB_call XX hP hS U hU hW⟩⟩
  have hstack : (F0 m pc ls ((as.reverse ++ st).map (rv ρ.2.1))).stack = (as.map (rv ρ.2.1)).reverse ++ st.map (rv ρ.2.1) := by
    show (as.reverse ++ st).map (rv ρ.2.1) = _
    rw [List.map_append, List.map_reverse]
  have hcat2 : ((st.map (rv ρ.2.1)).map fun v => v.category).sum ≤ 8 := by rw [zcats]; exact hcat
  have hrun : va_Run p l e (zrm M) s m args below meth c H locs 0 0 0 0 (F0 m pc ls ((as.reverse ++ st).map (rv ρ.2.1))) (st.map (rv ρ.2.1)) (zQ ρ v S1 (zA ρ.2.1 H.size) (as.map (rv ρ.2.1)).toArray) (zA ρ.2.1 H.size) := by
    rcases ml.1 with ⟨ho, h1⟩ | ⟨host, h1⟩
    · exact va_runS (ret := M2.2.2.2.1) (maxL := M2.2.2.1) (bytes := M2.2.1) (As := as.map (rv ρ.2.1)) ⟨hx, hb, hml, hown, hts⟩ hM (cwS n hts (zgi (fun w hw => by
        rcases List.mem_append.mp hw with h2 | h2
        · simp only [List.mem_cons, List.not_mem_nil, or_false] at h2
          rcases h2 with rfl | rfl | rfl
          · exact h1
          · exact mv
          · rw [← ho]; exact ml.2.1
        · rcases List.mem_cons.mp h2 with rfl | h2
          · exact ml.2.2.1
          · exact h2)) rfl rfl rfl ⟨ho, ml.2.2.2⟩ hroom) hpre rfl (by rw [List.length_map]; exact hn) hl.1 hstack (lv_room hcat2) d ⟨Nat.le_refl _, Nat.le_refl _⟩
    · exact va_runSN (host := host) (ret := M2.2.2.2.1) (maxL := M2.2.2.1) (bytes := M2.2.1) (As := as.map (rv ρ.2.1)) ⟨hx, hb, hml, hown, hts⟩ hM ⟨va_cnB n hts (zgi (fun w hw => by
        rcases List.mem_cons.mp hw with rfl | h2
        · exact ml.2.2.1
        · exact h2)) rfl rfl rfl (hE.2.1 _ h1) (hts _ (List.mem_cons_of_mem _ ml.2.1)) ml.2.2.2 hroom, hts _ (List.mem_cons_of_mem _ mv), trivial⟩ hpre rfl (by rw [List.length_map]; exact hn) hl.1 hstack (lv_room hcat2) d ⟨Nat.le_refl _, Nat.le_refl _⟩
  refine zrun_goes hrun hsz hS (fun H1 locs1 p1 s1 => ?_)
  have kk := k ρ sz p e s m args below meth c XX H1 locs1 ls p1 s1 hl
  rw [List.map_append] at kk
  cases v <;> exact kk
def zmx (own : String) (idx : Nat) : Prop := Cond.methodLink own idx Lib.Math.max.name ∈ WS ∧ Cond.static Lib.Math.max.name ∈ WS ∧ Cond.initialized "java/lang/Math" ∈ WS ∧ Cond.code Lib.Math.max.name Lib.Math.max.code 2 (some .int) ∈ WS
def zmn (own : String) (idx : Nat) : Prop := Cond.methodLink own idx Lib.Math.min.name ∈ WS ∧ Cond.static Lib.Math.min.name ∈ WS ∧ Cond.initialized "java/lang/Math" ∈ WS ∧ Cond.code Lib.Math.min.name Lib.Math.min.code 2 (some .int) ∈ WS
theorem z_max {idx : Nat} {a b : Int32} (d : decode M.2.1 pc = .ok (.invokestatic idx, 3)) (ml : zmx y.cls idx) (hf : 1 ≤ M.2.2.2.2.1) (hcat : (st.map Value.category).sum + 13 ≤ M.2.2.2.2.2) (k : Z l y M (pc + 3) lv (.int (if a < b then b else a) :: st) S w S') : Z l y M pc lv (.int b :: .int a :: st) S w S' := by
  intro ρ sz p e s m args below meth c X H locs ls hP hS hl
  have kk := k ρ sz p e s m args below meth c X H locs ls hP hS hl
  obtain ⟨hx, hb, hr, hml, hlo, hown, hts, hsz, hI, hE⟩ := X
  have g : ∀ w ∈ WS, w.before args s = true := fun w hw => hts _ (List.mem_cons_of_mem _ hw)
  exact va_mmax hx hb (hml.trans hl.1.symm) hown (g _ ml.1) (g _ ml.2.1) (g _ ml.2.2.1) (g _ ml.2.2.2) hf (by rw [zcats]; exact hcat) (Nat.le_refl _) (Nat.le_refl _) d kk
theorem z_min {idx : Nat} {a b : Int32} (d : decode M.2.1 pc = .ok (.invokestatic idx, 3)) (ml : zmn y.cls idx) (hf : 1 ≤ M.2.2.2.2.1) (hcat : (st.map Value.category).sum + 13 ≤ M.2.2.2.2.2) (k : Z l y M (pc + 3) lv (.int (if b < a then b else a) :: st) S w S') : Z l y M pc lv (.int b :: .int a :: st) S w S' := by
  intro ρ sz p e s m args below meth c X H locs ls hP hS hl
  have kk := k ρ sz p e s m args below meth c X H locs ls hP hS hl
  obtain ⟨hx, hb, hr, hml, hlo, hown, hts, hsz, hI, hE⟩ := X
  have g : ∀ w ∈ WS, w.before args s = true := fun w hw => hts _ (List.mem_cons_of_mem _ hw)
  exact va_mmin hx hb (hml.trans hl.1.symm) hown (g _ ml.1) (g _ ml.2.1) (g _ ml.2.2.1) (g _ ml.2.2.2) hf (by rw [zcats]; exact hcat) (Nat.le_refl _) (Nat.le_refl _) d kk
def zcp (own : String) (idx : Nat) : Prop := Cond.methodLink own idx arraycopyName ∈ WS ∧ Cond.native arraycopyName ∈ WS ∧ Cond.static arraycopyName ∈ WS ∧ Cond.initialized "java/lang/System" ∈ WS
theorem z_copy {idx q0 q1 k0 : Nat} {sp dp n : Int32} (d : decode M.2.1 pc = .ok (.invokestatic idx, 3)) (ml : zcp y.cls idx) (h0 : kd q0 = k0) (h1 : kd q1 = k0) (hc : ¬ k0 < 9 ∧ k0 < 20) (hne : q0 ≠ q1) (g1 : ¬ sp < 0) (g2 : ¬ dp < 0) (g3 : ¬ n < 0) (g4 : sp.toNatClampNeg + n.toNatClampNeg ≤ il k0) (g5 : dp.toNatClampNeg + n.toNatClampNeg ≤ il k0) (hf : 1 ≤ M.2.2.2.2.1) (hcat : (st.map Value.category).sum + (nativeFrameWords "java/lang/System" "arraycopy" 5 + 11) ≤ M.2.2.2.2.2)
    (k : Z l y M (pc + 3) lv st (upc S q0 q1 sp.toNatClampNeg dp.toNatClampNeg n.toNatClampNeg) w S') : Z l y M pc lv (.int n :: .int dp :: .ref q1 :: .int sp :: .ref q0 :: st) S w S' := by
  intro ρ sz p e s m args below meth c X H locs ls hP hS hl
  have XX := X
  obtain ⟨hx, hb, hr, hml, hlo, hown, hts, hsz, hI, hE⟩ := X
  have g : ∀ w ∈ WS, w.before args s = true := fun w hw => hts _ (List.mem_cons_of_mem _ hw)
  have e0 : (world ρ S)[q0]? = some (ρ.2.1 q0, .inl (ρ.2.2.1.1, (il k0, .inl (S.1 q0)))) := by rw [world_at ρ S (kd_lt h0 (by omega)), zc_ints h0 hc.1 hc.2]
  have e1 : (world ρ S)[q1]? = some (ρ.2.1 q1, .inl (ρ.2.2.1.1, (il k0, .inl (S.1 q1)))) := by rw [world_at ρ S (kd_lt h1 (by omega)), zc_ints h1 hc.1 hc.2]
  refine va_copyi hx hb (hml.trans hl.1.symm) hown (g _ ml.1) (g _ ml.2.1) (g _ ml.2.2.1) (g _ ml.2.2.2) hE.1 hP (z_D hI) hS q0 q1 0 0 e0 e1 (ty := .int) rfl rfl rfl g1 g2 g3 g4 g5 (fun _ _ => rfl) hf (by rw [zcats]; exact hcat) d (fun H1 locs1 p1 _ s1 => ?_)
  have hw : (world ρ S).set q1 (ρ.2.1 q1, .inl (ρ.2.2.1.1, il k0, .inl (va_cpy (S.1 q0) (S.1 q1) sp.toNatClampNeg dp.toNatClampNeg n.toNatClampNeg))) = world ρ (upc S q0 q1 sp.toNatClampNeg dp.toNatClampNeg n.toNatClampNeg) := by
    refine world_set ?_ (fun i _ h => zc_upc_ne h)
    rw [zc_ints h1 hc.1 hc.2, upc_row]
  rw [hw] at p1
  exact k ρ sz p e s m args below meth c XX H1 locs1 ls p1 s1 hl
end ZCC
-- ===== what a written function says =====
theorem oi {α : Type} {c : Prop} [Decidable c] {F : Option α} {r : α} (h : (if c then none else F) = some r) : ¬ c ∧ F = some r := by
  by_cases hc : c
  · rw [if_pos hc] at h; cases h
  · rw [if_neg hc] at h; exact ⟨hc, h⟩
theorem ob {α β : Type} {x : Option α} {f : α → Option β} {r : β} (h : x.bind f = some r) : ∃ a, x = some a ∧ f a = some r := by
  cases x with
  | none => cases h
  | some a => exact ⟨a, rfl, h⟩
theorem ip {α : Type} {c : Prop} [Decidable c] {A B r : α} (hc : c) (h : (if c then A else B) = r) : A = r := by rwa [if_pos hc] at h
theorem ig {α : Type} {c : Prop} [Decidable c] {A B r : α} (hc : ¬ c) (h : (if c then A else B) = r) : B = r := by rwa [if_neg hc] at h
theorem zrn {x : Int32} : ∀ k ∈ ([] : List Int), ¬ x.toInt = k := fun _ h => absurd h List.not_mem_nil
theorem zrc {x : Int32} {a : Int} {l : List Int} (h : ¬ x.toInt = a) (t : ∀ k ∈ l, ¬ x.toInt = k) : ∀ k ∈ a :: l, ¬ x.toInt = k := List.forall_mem_cons.mpr ⟨h, t⟩
theorem znb {v : Int32} (h : v = 0 ∨ v = 1) : narrow .boolean (.int v) = .int v := by rcases h with rfl | rfl <;> rfl
section ZSW
variable {l : Launch} {y : MethodName} {M : zM} {pc : Nat} {lv : List (Nat × Value)} {st : List Value} {S : St} {w : Option Value} {S' : St}
theorem z_ldcw {index : Nat} {v : Int32} (hc : Cond.constant y.cls index v ∈ WS) (d : decode M.2.1 pc = .ok (.ldc_w index, 3)) (k : Z l y M (pc + 3) lv (.int v :: st) S w S') : Z l y M pc lv st S w S' := fun ρ sz p e s m args below meth c X H locs ls hP hS hl =>
  lv_ldcw X.1 X.2.1 X.2.2.2.2.2.1 (X.2.2.2.2.2.2.1 _ (List.mem_cons_of_mem _ hc)) d (k ρ sz p e s m args below meth c X H locs ls hP hS hl)
theorem z_tableG {dflt lo hi : Int} {offs : Array Int} {len n : Nat} {x : Int32} {tgt : Nat} (real : List Int) (d : decode M.2.1 pc = .ok (.tableswitch dflt lo hi offs, len)) (hn : hi = lo + n - 1) (hg : ∀ i, i < n → (lo + i) ∈ real ∨ offs[i]? = some dflt) (hx : ∀ k ∈ real, ¬ x.toInt = k) (ht : (pc : Int) + dflt = (tgt : Int)) (k : Z l y M tgt lv st S w S') : Z l y M pc lv (.int x :: st) S w S' := by
  by_cases h1 : x.toInt < lo
  · exact z_tableOut d (Or.inl h1) ht k
  · by_cases h2 : hi < x.toInt
    · exact z_tableOut d (Or.inr h2) ht k
    · rcases hg (x.toInt - lo).toNat (by omega) with h | h
      · exact absurd (by omega) (hx _ h)
      · exact z_tableIn d h1 h2 h ht k
end ZSW
end
section
-- ===== printed by wip/whole/gen.py: what each method does, as a function (none: it would throw, or the count of rounds is used up) =====
def f_X3_at (q0 : Nat) (a1 : Int32) (S : St) : Option Nat :=
  (if (a1 &&& 7) < 0 ∨ 8 ≤ (a1 &&& 7).toNatClampNeg then none else some ((q0 + 1) + 2 + 2 * (a1 &&& 7).toNatClampNeg))
def f_X6_isSet (q0 : Nat) (S : St) : Option Int32 :=
  (if (S.1 q0 2) = (-9) then some 0 else some 1)
def f_X6_gladIn (q0 : Nat) (a1 : Int32) (S : St) : Option Int32 :=
  (if a1 < 0 then some 0 else (if a1 < 12 then (if a1 < 0 ∨ 12 ≤ a1.toNatClampNeg then none else some (S.1 (q0 + 1) a1.toNatClampNeg)) else some 0))
def f_X6_gladdestYear_L6 (n : Nat) (q0 : Nat) (x2 : Int32) (x3 : Int32) (S : St) (k31 : Int32 → Option Int32) : Option Int32 :=
  match n with
  | 0 => none
  | n + 1 => (if x3 < 0 then k31 x2 else (f_X6_gladIn q0 x3 S).bind fun v2 => (f_X6_gladIn q0 x2 S).bind fun v3 => (if v2 ≤ v3 then f_X6_gladdestYear_L6 n q0 x2 (x3 + (-1)) S k31 else f_X6_gladdestYear_L6 n q0 x3 (x3 + (-1)) S k31))
def f_X6_gladdestYear (q0 : Nat) (a1 : Int32) (S : St) : Option Int32 :=
  f_X6_gladdestYear_L6 2000 q0 a1 (a1 - 1) S (fun (y5 : Int32) => some y5)
def f_X6_reach (q0 : Nat) (a1 : Int32) (a2 : Int32) (S : St) : Option Int32 :=
  (if (S.1 q0 0) = 2 then some ((if 0 < ((a1 / 5) - a2) then (a1 / 5) - a2 else 0) + (S.1 q0 1)) else (if (S.1 q0 0) = 5 then some ((if 0 < ((a1 / 5) - a2) then (a1 / 5) - a2 else 0) + (S.1 q0 1)) else (if (S.1 q0 0) = 4 then some ((if 0 < ((a1 / 5) - a2) then (a1 / 5) - a2 else 0) / 2) else some (if 0 < ((a1 / 5) - a2) then (a1 / 5) - a2 else 0))))
def f_X6_counts (q0 : Nat) (a1 : Int32) (a2 : Int32) (S : St) : Option Int32 :=
  (if (S.1 q0 0) = 5 then (f_X6_gladIn q0 a1 S).bind fun v5 => some (-v5) else (if (S.1 q0 0) = 3 then (f_X6_gladIn q0 a1 S).bind fun v4 => some (v4 - ((S.1 q0 1) * (a2 - a1))) else (f_X6_gladIn q0 a1 S).bind fun v3 => some v3))
def f_X6_yearBy_L53 (n : Nat) (q0 : Nat) (x3 : Int32) (x4 : Int32) (x5 : Int32) (x6 : Int32) (x7 : Int32) (x8 : Int32) (S : St) (k102 : Int32 → Option Int32) : Option Int32 :=
  match n with
  | 0 => none
  | n + 1 => (if x8 < x5 then k102 x6 else (f_X6_counts q0 x8 x3 S).bind fun v5 => (if x7 < v5 then f_X6_yearBy_L53 n q0 x3 x4 x5 x8 v5 (x8 + (-1)) S k102 else (if x4 = 0 then f_X6_yearBy_L53 n q0 x3 x4 x5 x6 x7 (x8 + (-1)) S k102 else (if v5 = x7 then f_X6_yearBy_L53 n q0 x3 x4 x5 x8 v5 (x8 + (-1)) S k102 else f_X6_yearBy_L53 n q0 x3 x4 x5 x6 x7 (x8 + (-1)) S k102))))
def f_X6_yearBy (q0 : Nat) (a1 : Int32) (a2 : Int32) (a3 : Int32) (S : St) : Option Int32 :=
  (if (S.1 q0 0) = 1 then (f_X6_reach q0 a1 a2 S).bind fun v2 => (f_X6_counts q0 a3 a3 S).bind fun v3 => f_X6_yearBy_L53 2000 q0 a3 1 (if 0 < (a3 - v2) then a3 - v2 else 0) a3 v3 (a3 - 1) S (fun (y9 : Int32) => some y9) else (if (S.1 q0 0) = 3 then (f_X6_reach q0 a1 a2 S).bind fun v14 => (f_X6_counts q0 a3 a3 S).bind fun v15 => f_X6_yearBy_L53 2000 q0 a3 1 (if 0 < (a3 - v14) then a3 - v14 else 0) a3 v15 (a3 - 1) S (fun (y16 : Int32) => some y16) else (f_X6_reach q0 a1 a2 S).bind fun v11 => (f_X6_counts q0 a3 a3 S).bind fun v12 => f_X6_yearBy_L53 2000 q0 a3 0 (if 0 < (a3 - v11) then a3 - v11 else 0) a3 v12 (a3 - 1) S (fun (y13 : Int32) => some y13)))
def f_X6_fewestFor_L2 (n : Nat) (q0 : Nat) (x1 : Int32) (x2 : Int32) (x3 : Int32) (S : St) (k21 : Int32 → Option Int32) (k31 : Unit → Option Int32) : Option Int32 :=
  match n with
  | 0 => none
  | n + 1 => (if 19 < x3 then k31 () else (f_X6_yearBy q0 (x3 * 5) 0 x2 S).bind fun v2 => (if v2 = x1 then k21 x3 else f_X6_fewestFor_L2 n q0 x1 x2 (x3 + 1) S k21 k31))
def f_X6_fewestFor (q0 : Nat) (a1 : Int32) (a2 : Int32) (S : St) : Option Int32 :=
  f_X6_fewestFor_L2 2000 q0 a1 a2 0 S (fun (y4 : Int32) => some (y4 * 5)) (fun _ : Unit => some (-9))
def f_X0_begin_L5 (n : Nat) (x1 : Int32) (x2 : Int32) (x3 : Int32) (x4 : Int32) (S : St) (k42 : Int32 → Option (Int32 × St)) : Option (Int32 × St) :=
  match n with
  | 0 => none
  | n + 1 => (if x2 ≤ x4 then k42 x3 else (if 4 ≤ x4 then k42 x3 else (if x4 < 0 ∨ 4 ≤ x4.toNatClampNeg then none else (if x3 < 0 ∨ 4 ≤ x3.toNatClampNeg then none else (if (S.1 69 x3.toNatClampNeg) ≤ (S.1 69 x4.toNatClampNeg) then f_X0_begin_L5 n x1 x2 x3 (x4 + 1) S k42 else f_X0_begin_L5 n x1 x2 x4 (x4 + 1) S k42)))))
def f_X0_begin (a1 : Int32) (a2 : Int32) (S : St) : Option (Int32 × St) :=
  f_X0_begin_L5 2000 a1 a2 0 1 S (fun (y6 : Int32) => (if y6 < 0 ∨ 4 ≤ y6.toNatClampNeg then none else (if y6 < 0 ∨ 4 ≤ y6.toNatClampNeg then none else (if y6 < 0 ∨ 4 ≤ y6.toNatClampNeg then none else some (S.1 69 y6.toNatClampNeg, (up (up S 69 y6.toNatClampNeg ((S.1 69 y6.toNatClampNeg) + a1)) 67 2 (if ((up S 69 y6.toNatClampNeg ((S.1 69 y6.toNatClampNeg) + a1)).1 67 2) < ((up S 69 y6.toNatClampNeg ((S.1 69 y6.toNatClampNeg) + a1)).1 69 y6.toNatClampNeg) then (up S 69 y6.toNatClampNeg ((S.1 69 y6.toNatClampNeg) + a1)).1 69 y6.toNatClampNeg else (up S 69 y6.toNatClampNeg ((S.1 69 y6.toNatClampNeg) + a1)).1 67 2)))))))
def f_X0_arrange_L7 (n : Nat) (q1 : Nat) (x2 : Int32) (S : St) (k25 : St → Option St) : Option St :=
  match n with
  | 0 => none
  | n + 1 => (if 4 ≤ x2 then k25 S else (if x2 < 0 ∨ 4 ≤ x2.toNatClampNeg then none else f_X0_arrange_L7 n q1 (x2 + 1) (up S 69 x2.toNatClampNeg 0) k25))
def f_X0_arrange_L27 (n : Nat) (q1 : Nat) (x2 : Int32) (S : St) (k111 : St → Option St) : Option St :=
  match n with
  | 0 => none
  | n + 1 => (if (S.1 q1 0) ≤ x2 then k111 S else (if 8 ≤ x2 then k111 S else (f_X3_at q1 x2 S).bind fun v6 => (f_X6_isSet v6 S).bind fun v7 => (if v7 = 0 then (f_X6_gladdestYear v6 (S.1 q1 1) S).bind fun v9 => (f_X6_fewestFor v6 v9 (S.1 q1 1) S).bind fun v10 => (if v10 = (-9) then (if x2 < 0 ∨ 8 ≤ x2.toNatClampNeg then none else f_X0_arrange_L27 n q1 (x2 + 1) (up S 68 x2.toNatClampNeg (-9)) k111) else (f_X0_begin v10 (S.1 q1 3) S).bind fun z12 => (if x2 < 0 ∨ 8 ≤ x2.toNatClampNeg then none else f_X0_arrange_L27 n q1 (x2 + 1) (up z12.2 68 x2.toNatClampNeg z12.1) k111)) else (if x2 < 0 ∨ 8 ≤ x2.toNatClampNeg then none else f_X0_arrange_L27 n q1 (x2 + 1) (up S 68 x2.toNatClampNeg (-9)) k111))))
def f_X0_arrange (q1 : Nat) (S : St) : Option St :=
  f_X0_arrange_L7 2000 q1 0 (up S 67 2 0) (fun (S3 : St) => f_X0_arrange_L27 2000 q1 0 S3 (fun (S17 : St) => some S17))
def f_X0_beginOf (a1 : Int32) (S : St) : Option Int32 :=
  (if a1 < 0 then some (-9) else (if a1 < 8 then (if a1 < 0 ∨ 8 ≤ a1.toNatClampNeg then none else some (S.1 68 a1.toNatClampNeg)) else some (-9)))
def f_X3_setBits_L4 (n : Nat) (q0 : Nat) (x1 : Int32) (x2 : Int32) (S : St) (k35 : Int32 → Option Int32) : Option Int32 :=
  match n with
  | 0 => none
  | n + 1 => (if (S.1 q0 0) ≤ x2 then k35 x1 else (f_X3_at q0 x2 S).bind fun v2 => (f_X6_isSet v2 S).bind fun v3 => (if v3 = 0 then f_X3_setBits_L4 n q0 x1 (x2 + 1) S k35 else f_X3_setBits_L4 n q0 (x1 ||| (1 <<< (x2 &&& 31))) (x2 + 1) S k35))
def f_X3_setBits (q0 : Nat) (S : St) : Option Int32 :=
  f_X3_setBits_L4 2000 q0 0 0 S (fun (y5 : Int32) => some y5)
def f_X6_howGlad (q0 : Nat) (a1 : Int32) (S : St) : Option Int32 :=
  (f_X6_isSet q0 S).bind fun v1 => (if v1 = 0 then (f_X6_gladIn q0 a1 S).bind fun v3 => some v3 else (f_X6_gladIn q0 (S.1 q0 2) S).bind fun v4 => some v4)
def f_X3_gladTogether_L4 (n : Nat) (q0 : Nat) (x1 : Int32) (x2 : Int32) (x3 : Int32) (S : St) (k30 : Int32 → Option Int32) : Option Int32 :=
  match n with
  | 0 => none
  | n + 1 => (if (S.1 q0 0) ≤ x3 then k30 x2 else (f_X3_at q0 x3 S).bind fun v2 => (f_X6_howGlad v2 x1 S).bind fun v3 => f_X3_gladTogether_L4 n q0 x1 (x2 + v3) (x3 + 1) S k30)
def f_X3_gladTogether (q0 : Nat) (a1 : Int32) (S : St) : Option Int32 :=
  f_X3_gladTogether_L4 2000 q0 a1 0 0 S (fun (y4 : Int32) => some y4)
def f_X6_gladdestBy_L4 (n : Nat) (q0 : Nat) (x1 : Int32) (x2 : Int32) (x3 : Int32) (S : St) (k34 : Int32 → Option Int32) : Option Int32 :=
  match n with
  | 0 => none
  | n + 1 => (if 19 < x3 then k34 x2 else (f_X6_yearBy q0 (x3 * 5) 0 x1 S).bind fun v2 => (f_X6_gladIn q0 v2 S).bind fun v3 => f_X6_gladdestBy_L4 n q0 x1 (if x2 < v3 then v3 else x2) (x3 + 1) S k34)
def f_X6_gladdestBy (q0 : Nat) (a1 : Int32) (S : St) : Option Int32 :=
  f_X6_gladdestBy_L4 2000 q0 a1 0 0 S (fun (y4 : Int32) => some y4)
def f_X6_cost (q0 : Nat) (S : St) : Option Int32 :=
  (if (S.1 q0 0) = 4 then some (1 + (S.1 q0 1)) else some 1)
def f_X1_weigh_L29 (n : Nat) (q1 : Nat) (x2 : Int32) (x3 : Int32) (S : St) (k86 : St → Option St) : Option St :=
  match n with
  | 0 => none
  | n + 1 => (if (S.1 q1 0) ≤ x3 then k86 S else (if 8 ≤ x3 then k86 S else (f_X3_at q1 x3 S).bind fun v5 => (f_X6_gladdestBy v5 x2 S).bind fun v6 => (f_X6_gladIn v5 x2 S).bind fun v7 => (if x3 < 0 ∨ 8 ≤ x3.toNatClampNeg then none else (f_X6_cost v5 (up S 65 x3.toNatClampNeg (v6 - v7))).bind fun v9 => (if x3 < 0 ∨ 8 ≤ x3.toNatClampNeg then none else f_X1_weigh_L29 n q1 x2 (x3 + 1) (up (up S 65 x3.toNatClampNeg (v6 - v7)) 66 x3.toNatClampNeg v9) k86))))
def f_X1_weigh (q1 : Nat) (a2 : Int32) (S : St) : Option St :=
  (f_X3_setBits q1 S).bind fun v1 => (f_X3_gladTogether q1 a2 (up (up S 64 2 v1) 64 3 (1 <<< (((up S 64 2 v1).1 q1 0) &&& 31)))).bind fun v2 => f_X1_weigh_L29 2000 q1 a2 0 (up (up (up S 64 2 v1) 64 3 (1 <<< (((up S 64 2 v1).1 q1 0) &&& 31))) 64 4 v2) (fun (S11 : St) => some S11)
def f_X1_sumOver_L4 (n : Nat) (x0 : Int32) (q1 : Nat) (x2 : Int32) (x3 : Int32) (S : St) (k35 : Int32 → Option Int32) : Option Int32 :=
  match n with
  | 0 => none
  | n + 1 => (if 8 ≤ x3 then k35 x2 else (if ((x0 >>> (x3 &&& 31)) &&& 1) = 1 then (if x3 < 0 ∨ 8 ≤ x3.toNatClampNeg then none else f_X1_sumOver_L4 n x0 q1 (x2 + (S.1 q1 x3.toNatClampNeg)) (x3 + 1) S k35) else f_X1_sumOver_L4 n x0 q1 (x2 + 0) (x3 + 1) S k35))
def f_X1_sumOver (a0 : Int32) (q1 : Nat) (S : St) : Option Int32 :=
  f_X1_sumOver_L4 2000 a0 q1 0 0 S (fun (y4 : Int32) => some y4)
def f_X1_gainOf (a1 : Int32) (S : St) : Option Int32 :=
  (f_X1_sumOver a1 65 S).bind fun v1 => some v1
def f_X1_bestBits_L7 (n : Nat) (x1 : Int32) (x2 : Int32) (x3 : Int32) (x4 : Int32) (S : St) (k65 : Int32 → Option Int32) : Option Int32 :=
  match n with
  | 0 => none
  | n + 1 => (if (S.1 64 3) ≤ x4 then k65 x2 else (if (x4 &&& (S.1 64 2)) = 0 then (f_X1_gainOf x4 S).bind fun v3 => (if v3 ≤ x3 then f_X1_bestBits_L7 n x1 x2 x3 (x4 + 1) S k65 else (f_X1_sumOver x4 66 S).bind fun v5 => (if x1 < v5 then f_X1_bestBits_L7 n x1 x2 x3 (x4 + 1) S k65 else (f_X1_gainOf x4 S).bind fun v7 => f_X1_bestBits_L7 n x1 x4 v7 (x4 + 1) S k65)) else f_X1_bestBits_L7 n x1 x2 x3 (x4 + 1) S k65))
def f_X1_bestBits (a1 : Int32) (S : St) : Option Int32 :=
  f_X1_bestBits_L7 2000 a1 0 0 0 S (fun (y8 : Int32) => some y8)
def f_X1_fewestFor_L5 (n : Nat) (x1 : Int32) (x2 : Int32) (x3 : Int32) (S : St) (k50 : Int32 → Option Int32) : Option Int32 :=
  match n with
  | 0 => none
  | n + 1 => (if (S.1 64 3) ≤ x3 then k50 x2 else (if (x3 &&& (S.1 64 2)) = 0 then (f_X1_gainOf x3 S).bind fun v3 => (if v3 = x1 then (f_X1_sumOver x3 66 S).bind fun v5 => f_X1_fewestFor_L5 n x1 (if v5 < x2 then v5 else x2) (x3 + 1) S k50 else f_X1_fewestFor_L5 n x1 x2 (x3 + 1) S k50) else f_X1_fewestFor_L5 n x1 x2 (x3 + 1) S k50))
def f_X1_fewestFor (a1 : Int32) (S : St) : Option Int32 :=
  f_X1_fewestFor_L5 2000 a1 99 0 S (fun (y6 : Int32) => some y6)
def f_X2_isFull  (S : St) : Option Int32 :=
  (if (S.1 62 1) < 16 then some 0 else some 1)
def f_X2_put (a1 : Int32) (S : St) : Option St :=
  (f_X2_isFull S).bind fun v1 => (if v1 = 0 then (if (S.1 62 1) < 0 ∨ 16 ≤ (S.1 62 1).toNatClampNeg then none else some (up (up S 63 (S.1 62 1).toNatClampNeg a1) 62 1 (((up S 63 (S.1 62 1).toNatClampNeg a1).1 62 1) + 1))) else some S)
def f_X2_tellsYearsOf_L2 (n : Nat) (q1 : Nat) (x2 : Int32) (x3 : Int32) (S : St) (k34 : Unit → Option Int32) (k42 : Unit → Option Int32) : Option Int32 :=
  match n with
  | 0 => none
  | n + 1 => (if (S.1 62 1) ≤ x3 then k42 () else (if 16 ≤ x3 then k42 () else (if x3 < 0 ∨ 16 ≤ x3.toNatClampNeg then none else (f_X6_yearBy q1 (x3 * 5) 0 x2 S).bind fun v4 => (if (S.1 63 x3.toNatClampNeg) = v4 then f_X2_tellsYearsOf_L2 n q1 x2 (x3 + 1) S k34 k42 else k34 ()))))
def f_X2_tellsYearsOf (q1 : Nat) (a2 : Int32) (S : St) : Option Int32 :=
  f_X2_tellsYearsOf_L2 2000 q1 a2 0 S (fun _ : Unit => some 0) (fun _ : Unit => some 1)
def f_X7_noYear (a0 : Int32)  : Option Int32 :=
  (if a0 < 0 then some 1 else (if a0 < 12 then some 0 else some 1))
def f_X2_firstNotGladOf_L2 (n : Nat) (q1 : Nat) (x2 : Int32) (S : St) (k37 : Int32 → Option Int32) (k45 : Unit → Option Int32) : Option Int32 :=
  match n with
  | 0 => none
  | n + 1 => (if (S.1 62 1) ≤ x2 then k45 () else (if 16 ≤ x2 then k45 () else (f_X7_noYear x2).bind fun v3 => (if v3 = 0 then (if x2 < 0 ∨ 16 ≤ x2.toNatClampNeg then none else (f_X6_gladIn q1 x2 S).bind fun v6 => (if (S.1 63 x2.toNatClampNeg) = v6 then f_X2_firstNotGladOf_L2 n q1 (x2 + 1) S k37 k45 else k37 x2)) else k37 x2)))
def f_X2_firstNotGladOf (q1 : Nat) (S : St) : Option Int32 :=
  f_X2_firstNotGladOf_L2 2000 q1 0 S (fun (y8 : Int32) => some y8) (fun _ : Unit => some (-9))
def f_X6_copyFrom (q0 : Nat) (q1 : Nat) (S : St) : Option St :=
  (if q1 + 1 = q0 + 1 then none else some (upc (up (up (up S q0 0 (S.1 q1 0)) q0 1 ((up S q0 0 (S.1 q1 0)).1 q1 1)) q0 2 ((up (up S q0 0 (S.1 q1 0)) q0 1 ((up S q0 0 (S.1 q1 0)).1 q1 1)).1 q1 2)) (q1 + 1) (q0 + 1) 0 0 12))
def f_X3_copyFrom_L34 (n : Nat) (q0 : Nat) (q1 : Nat) (x2 : Int32) (S : St) (k73 : St → Option St) : Option St :=
  match n with
  | 0 => none
  | n + 1 => (if 8 ≤ x2 then k73 S else (if x2 < 0 ∨ 8 ≤ x2.toNatClampNeg then none else (if x2 < 0 ∨ 8 ≤ x2.toNatClampNeg then none else (f_X6_copyFrom ((q0 + 1) + 2 + 2 * x2.toNatClampNeg) ((q1 + 1) + 2 + 2 * x2.toNatClampNeg) S).bind fun S4 => (if x2 < 0 ∨ 8 ≤ x2.toNatClampNeg then none else (if x2 < 0 ∨ 8 ≤ x2.toNatClampNeg then none else f_X3_copyFrom_L34 n q0 q1 (x2 + 1) (up S4 (q0 + 2) x2.toNatClampNeg (S4.1 (q1 + 2) x2.toNatClampNeg)) k73)))))
def f_X3_copyFrom (q0 : Nat) (q1 : Nat) (S : St) : Option St :=
  f_X3_copyFrom_L34 2000 q0 q1 0 (up (up (up (up S q0 0 (S.1 q1 0)) q0 1 ((up S q0 0 (S.1 q1 0)).1 q1 1)) q0 2 ((up (up S q0 0 (S.1 q1 0)) q0 1 ((up S q0 0 (S.1 q1 0)).1 q1 1)).1 q1 2)) q0 3 ((up (up (up S q0 0 (S.1 q1 0)) q0 1 ((up S q0 0 (S.1 q1 0)).1 q1 1)) q0 2 ((up (up S q0 0 (S.1 q1 0)) q0 1 ((up S q0 0 (S.1 q1 0)).1 q1 1)).1 q1 2)).1 q1 3)) (fun (S7 : St) => some S7)
def f_X3_lacks (q0 : Nat) (a1 : Int32) (S : St) : Option Int32 :=
  (if a1 < 0 then some 1 else (if (S.1 q0 0) ≤ a1 then some 1 else (if a1 < 8 then some 0 else some 1)))
def f_X3_lacksTwo (q0 : Nat) (a1 : Int32) (a2 : Int32) (S : St) : Option Int32 :=
  (f_X3_lacks q0 a1 S).bind fun v1 => (if v1 = 0 then (f_X3_lacks q0 a2 S).bind fun v3 => (if v3 = 0 then (if a1 = a2 then some 1 else some 0) else some 1) else some 1)
def f_X6_begin_L18 (n : Nat) (q0 : Nat) (x3 : Int32) (S : St) (k37 : St → Option St) : Option St :=
  match n with
  | 0 => none
  | n + 1 => (if 12 ≤ x3 then k37 S else (if x3 < 0 ∨ 12 ≤ x3.toNatClampNeg then none else f_X6_begin_L18 n q0 (x3 + 1) (up S (q0 + 1) x3.toNatClampNeg 0) k37))
def f_X6_begin (q0 : Nat) (a1 : Int32) (a2 : Int32) (S : St) : Option St :=
  f_X6_begin_L18 2000 q0 0 (up (up (up S q0 0 a1) q0 1 a2) q0 2 (-9)) (fun (S3 : St) => some S3)
def f_X3_add (q0 : Nat) (a1 : Int32) (a2 : Int32) (S : St) : Option (Int32 × St) :=
  (if (S.1 q0 0) < 8 then (f_X3_at q0 (S.1 q0 0) S).bind fun v2 => (f_X6_begin v2 a1 a2 S).bind fun S3 => some (1, (up S3 q0 0 ((S3.1 q0 0) + 1))) else some (0, S))
def f_X6_makeGlad (q0 : Nat) (a1 : Int32) (a2 : Int32) (S : St) : Option St :=
  (if a1 < 0 then some S else (if 12 ≤ a1 then some S else (if a1 < 0 ∨ 12 ≤ a1.toNatClampNeg then none else some (up S (q0 + 1) a1.toNatClampNeg a2))))
def f_X3_makeGlad_L32 (n : Nat) (q0 : Nat) (x1 : Int32) (x3 : Int32) (x4 : Int32) (x5 : Int32) (S : St) (k56 : St → Option (Int32 × St)) : Option (Int32 × St) :=
  match n with
  | 0 => none
  | n + 1 => (if x3 < x5 then k56 S else (f_X3_at q0 x1 S).bind fun v9 => (f_X6_makeGlad v9 x5 x4 S).bind fun S10 => f_X3_makeGlad_L32 n q0 x1 x3 x4 (x5 + 1) S10 k56)
def f_X3_makeGlad (q0 : Nat) (a1 : Int32) (a2 : Int32) (a3 : Int32) (a4 : Int32) (S : St) : Option (Int32 × St) :=
  (f_X3_lacks q0 a1 S).bind fun v1 => (if v1 = 0 then (f_X7_noYear a2).bind fun v3 => (if v3 = 0 then (f_X7_noYear a3).bind fun v5 => (if v5 = 0 then (if a2 ≤ a3 then f_X3_makeGlad_L32 2000 q0 a1 a3 a4 a2 S (fun (S11 : St) => some (1, S11)) else some (0, S)) else some (0, S)) else some (0, S)) else some (0, S))
def f_X3_moveTo (q0 : Nat) (a1 : Int32) (S : St) : Option (Int32 × St) :=
  (f_X7_noYear a1).bind fun v1 => (if v1 = 0 then some (1, (up S q0 1 a1)) else some (0, S))
def f_X3_areHalves (q0 : Nat) (a1 : Int32) (a2 : Int32) (S : St) : Option Int32 :=
  (f_X3_lacksTwo q0 a1 a2 S).bind fun v1 => (if v1 = 0 then (if a1 < 0 ∨ 8 ≤ a1.toNatClampNeg then none else (if (((S.1 (q0 + 2) a1.toNatClampNeg) >>> (a2 &&& 31)) &&& 1) = 1 then some 1 else some 0)) else some 0)
def f_X3_turnHalves (q0 : Nat) (a1 : Int32) (a2 : Int32) (S : St) : Option (Int32 × St) :=
  (f_X3_lacksTwo q0 a1 a2 S).bind fun v1 => (if v1 = 0 then (if a1 < 0 ∨ 8 ≤ a1.toNatClampNeg then none else (if a1 < 0 ∨ 8 ≤ a1.toNatClampNeg then none else (if a2 < 0 ∨ 8 ≤ a2.toNatClampNeg then none else (if a2 < 0 ∨ 8 ≤ a2.toNatClampNeg then none else some (1, (up (up S (q0 + 2) a1.toNatClampNeg ((S.1 (q0 + 2) a1.toNatClampNeg) ^^^ (1 <<< (a2 &&& 31)))) (q0 + 2) a2.toNatClampNeg (((up S (q0 + 2) a1.toNatClampNeg ((S.1 (q0 + 2) a1.toNatClampNeg) ^^^ (1 <<< (a2 &&& 31)))).1 (q0 + 2) a2.toNatClampNeg) ^^^ (1 <<< (a1 &&& 31))))))))) else some (0, S))
def f_X3_glue (q0 : Nat) (a1 : Int32) (a2 : Int32) (a3 : Int32) (S : St) : Option (Int32 × St) :=
  (f_X3_lacks q0 a1 S).bind fun v1 => (if v1 = 0 then (f_X3_at q0 a1 S).bind fun v3 => (f_X6_isSet v3 S).bind fun v4 => (if v4 = 0 then (f_X3_at q0 a1 S).bind fun v6 => (f_X6_cost v6 S).bind fun v7 => (if v7 ≤ (S.1 q0 2) then (f_X3_at q0 a1 S).bind fun v9 => (f_X6_cost v9 S).bind fun v10 => (f_X3_at q0 a1 (up S q0 2 ((S.1 q0 2) - v10))).bind fun v11 => (f_X3_at q0 a1 (up S q0 2 ((S.1 q0 2) - v10))).bind fun v12 => (f_X6_yearBy v12 a2 a3 ((up S q0 2 ((S.1 q0 2) - v10)).1 q0 1) (up S q0 2 ((S.1 q0 2) - v10))).bind fun v13 => some (1, (up (up S q0 2 ((S.1 q0 2) - v10)) v11 2 v13)) else some (0, S)) else some (0, S)) else some (0, S))
def f_X3_countHalves_L16 (n : Nat) (q0 : Nat) (x1 : Int32) (x2 : Int32) (x3 : Int32) (S : St) (k47 : Int32 → Option Int32) : Option Int32 :=
  match n with
  | 0 => none
  | n + 1 => (if (S.1 q0 0) ≤ x3 then k47 x1 else (f_X3_areHalves q0 x2 x3 S).bind fun v3 => (if v3 = 0 then f_X3_countHalves_L16 n q0 (x1 + 0) x2 (x3 + 1) S k47 else f_X3_countHalves_L16 n q0 (x1 + 1) x2 (x3 + 1) S k47))
def f_X3_countHalves_L4 (n : Nat) (q0 : Nat) (x1 : Int32) (x2 : Int32) (S : St) (k53 : Int32 → Option Int32) : Option Int32 :=
  match n with
  | 0 => none
  | n + 1 => (if (S.1 q0 0) ≤ x2 then k53 x1 else f_X3_countHalves_L16 2000 q0 x1 x2 (x2 + 1) S (fun (y5 : Int32) => f_X3_countHalves_L4 n q0 y5 (x2 + 1) S k53))
def f_X3_countHalves (q0 : Nat) (S : St) : Option Int32 :=
  f_X3_countHalves_L4 2000 q0 0 0 S (fun (y6 : Int32) => some y6)
def f_X3_setInOneYear (q0 : Nat) (a1 : Int32) (a2 : Int32) (S : St) : Option Int32 :=
  (f_X3_at q0 a1 S).bind fun v1 => (f_X6_isSet v1 S).bind fun v2 => (if v2 = 0 then some 0 else (f_X3_at q0 a1 S).bind fun v4 => (f_X3_at q0 a2 S).bind fun v5 => (if (S.1 v4 2) = (S.1 v5 2) then some 1 else some 0))
def f_X3_countAgreeing_L16 (n : Nat) (q0 : Nat) (x1 : Int32) (x2 : Int32) (x3 : Int32) (S : St) (k56 : Int32 → Option Int32) : Option Int32 :=
  match n with
  | 0 => none
  | n + 1 => (if (S.1 q0 0) ≤ x3 then k56 x1 else (f_X3_areHalves q0 x2 x3 S).bind fun v3 => (if v3 = 0 then f_X3_countAgreeing_L16 n q0 (x1 + 0) x2 (x3 + 1) S k56 else (f_X3_setInOneYear q0 x2 x3 S).bind fun v5 => (if v5 = 0 then f_X3_countAgreeing_L16 n q0 (x1 + 0) x2 (x3 + 1) S k56 else f_X3_countAgreeing_L16 n q0 (x1 + 1) x2 (x3 + 1) S k56)))
def f_X3_countAgreeing_L4 (n : Nat) (q0 : Nat) (x1 : Int32) (x2 : Int32) (S : St) (k62 : Int32 → Option Int32) : Option Int32 :=
  match n with
  | 0 => none
  | n + 1 => (if (S.1 q0 0) ≤ x2 then k62 x1 else f_X3_countAgreeing_L16 2000 q0 x1 x2 (x2 + 1) S (fun (y7 : Int32) => f_X3_countAgreeing_L4 n q0 y7 (x2 + 1) S k62))
def f_X3_countAgreeing (q0 : Nat) (S : St) : Option Int32 :=
  f_X3_countAgreeing_L4 2000 q0 0 0 S (fun (y8 : Int32) => some y8)
def f_X3_firstApart_L14 (n : Nat) (q0 : Nat) (x1 : Int32) (x2 : Int32) (S : St) (k40 : Int32 → Option Int32) (k53 : Unit → Option Int32) : Option Int32 :=
  match n with
  | 0 => none
  | n + 1 => (if (S.1 q0 0) ≤ x2 then k53 () else (f_X3_areHalves q0 x1 x2 S).bind fun v3 => (if v3 = 0 then f_X3_firstApart_L14 n q0 x1 (x2 + 1) S k40 k53 else (f_X3_setInOneYear q0 x1 x2 S).bind fun v5 => (if v5 = 0 then k40 x2 else f_X3_firstApart_L14 n q0 x1 (x2 + 1) S k40 k53)))
def f_X3_firstApart_L2 (n : Nat) (q0 : Nat) (x1 : Int32) (S : St) (k40 : Int32 → Int32 → Option Int32) (k59 : Unit → Option Int32) : Option Int32 :=
  match n with
  | 0 => none
  | n + 1 => (if (S.1 q0 0) ≤ x1 then k59 () else f_X3_firstApart_L14 2000 q0 x1 (x1 + 1) S (fun (y7 : Int32) => k40 x1 y7) (fun _ : Unit => f_X3_firstApart_L2 n q0 (x1 + 1) S k40 k59))
def f_X3_firstApart (q0 : Nat) (S : St) : Option Int32 :=
  f_X3_firstApart_L2 2000 q0 0 S (fun (y8 : Int32) (y9 : Int32) => some ((10 * y8) + y9)) (fun _ : Unit => some (-9))
def f_X4_weigh_L2 (n : Nat) (x1 : Int32) (x2 : Int32) (x3 : Int32) (S : St) (k21 : St → Option St) : Option St :=
  match n with
  | 0 => none
  | n + 1 => (if 8 < x3 then k21 S else (if x3 < 0 ∨ 9 ≤ x3.toNatClampNeg then none else f_X4_weigh_L2 n x1 x2 (x3 + 1) (upL S x3.toNatClampNeg 0) k21))
def f_X4_weigh_L39 (n : Nat) (x1 : Int32) (x2 : Int32) (x3 : Int32) (x4 : Int32) (S : St) (k74 : St → Option St) : Option St :=
  match n with
  | 0 => none
  | n + 1 => (if x4 ≤ 0 then k74 S else (if x4 < 0 ∨ 9 ≤ x4.toNatClampNeg then none else (if (x4 - 1) < 0 ∨ 9 ≤ (x4 - 1).toNatClampNeg then none else (if x4 < 0 ∨ 9 ≤ x4.toNatClampNeg then none else f_X4_weigh_L39 n x1 x2 x3 (x4 + (-1)) (upL S x4.toNatClampNeg ((S.2 x4.toNatClampNeg) + ((S.2 (x4 - 1).toNatClampNeg) * ((x2 - 1).toInt64)))) k74))))
def f_X4_weigh_L30 (n : Nat) (x1 : Int32) (x2 : Int32) (x3 : Int32) (S : St) (k80 : St → Option St) : Option St :=
  match n with
  | 0 => none
  | n + 1 => (if x1 ≤ x3 then k80 S else f_X4_weigh_L39 2000 x1 x2 x3 8 S (fun (S9 : St) => f_X4_weigh_L30 n x1 x2 (x3 + 1) S9 k80))
def f_X4_weigh (a1 : Int32) (a2 : Int32) (S : St) : Option St :=
  f_X4_weigh_L2 2000 a1 a2 1 S (fun (S3 : St) => f_X4_weigh_L30 2000 a1 a2 0 (upL S3 0 1) (fun (S10 : St) => some S10))
def f_X4_allWays_L4 (n : Nat) (x1 : Int64) (x3 : Int32) (S : St) (k25 : Int64 → Option Int64) : Option Int64 :=
  match n with
  | 0 => none
  | n + 1 => (if 8 < x3 then k25 x1 else (if x3 < 0 ∨ 9 ≤ x3.toNatClampNeg then none else f_X4_allWays_L4 n (x1 + (S.2 x3.toNatClampNeg)) (x3 + 1) S k25))
def f_X4_allWays  (S : St) : Option Int64 :=
  f_X4_allWays_L4 2000 0 0 S (fun (y3 : Int64) => some y3)
def f_X4_waysInto_L6 (n : Nat) (q1 : Nat) (x2 : Int32) (x3 : Int32) (x4 : Int64) (x6 : Int32) (S : St) (k49 : Int64 → Option Int64) : Option Int64 :=
  match n with
  | 0 => none
  | n + 1 => (if 8 < x6 then k49 x4 else (f_X6_yearBy q1 (x6 * 5) 0 x3 S).bind fun v2 => (if v2 = x2 then (if x6 < 0 ∨ 9 ≤ x6.toNatClampNeg then none else f_X4_waysInto_L6 n q1 x2 x3 (x4 + (S.2 x6.toNatClampNeg)) (x6 + 1) S k49) else f_X4_waysInto_L6 n q1 x2 x3 (x4 + 0) (x6 + 1) S k49))
def f_X4_waysInto (q1 : Nat) (a2 : Int32) (a3 : Int32) (S : St) : Option Int64 :=
  f_X4_waysInto_L6 2000 q1 a2 a3 0 0 S (fun (y5 : Int64) => some y5)
def f_X4_gladOfAll_L5 (n : Nat) (q1 : Nat) (x2 : Int32) (x3 : Int64) (x5 : Int32) (S : St) (k44 : Int64 → Option Int64) : Option Int64 :=
  match n with
  | 0 => none
  | n + 1 => (if 8 < x5 then k44 x3 else (if x5 < 0 ∨ 9 ≤ x5.toNatClampNeg then none else (f_X6_yearBy q1 (x5 * 5) 0 x2 S).bind fun v3 => (f_X6_gladIn q1 v3 S).bind fun v4 => f_X4_gladOfAll_L5 n q1 x2 (x3 + ((S.2 x5.toNatClampNeg) * v4.toInt64)) (x5 + 1) S k44))
def f_X4_gladOfAll (q1 : Nat) (a2 : Int32) (S : St) : Option Int64 :=
  f_X4_gladOfAll_L5 2000 q1 a2 0 0 S (fun (y5 : Int64) => some y5)
def f_X5_isFull  (S : St) : Option Int32 :=
  (if (S.1 60 1) < 96 then some 0 else some 1)
def f_X5_put (a1 : Int32) (S : St) : Option St :=
  (f_X5_isFull S).bind fun v1 => (if v1 = 0 then (if (S.1 60 1) < 0 ∨ 96 ≤ (S.1 60 1).toNatClampNeg then none else some (up (up S 61 (S.1 60 1).toNatClampNeg a1) 60 1 (((up S 61 (S.1 60 1).toNatClampNeg a1).1 60 1) + 1))) else some S)
def f_X5_letterAt (a1 : Int32) (S : St) : Option Int32 :=
  (if a1 < 0 then some (-1) else (if (S.1 60 1) ≤ a1 then some (-1) else (if a1 < 96 then (if a1 < 0 ∨ 96 ≤ a1.toNatClampNeg then none else some (S.1 61 a1.toNatClampNeg)) else some (-1))))
def f_X5_isDigit (a1 : Int32) (S : St) : Option Int32 :=
  (f_X5_letterAt a1 S).bind fun v1 => (if v1 < 48 then some 0 else (f_X5_letterAt a1 S).bind fun v3 => (if 57 < v3 then some 0 else some 1))
/-- the place of a letter among "tcdpfw"; -1: none -/
def zix (c : Int32) : Int32 := if c = 116 then 0 else if c = 99 then 1 else if c = 100 then 2 else if c = 112 then 3 else if c = 102 then 4 else if c = 119 then 5 else -1
def f_X5_kindAt (a1 : Int32) (S : St) : Option Int32 := (f_X5_letterAt a1 S).bind fun v1 => some (zix (v1.toUInt32 % 65536).toInt32)

def f_X5_number_L5 (n : Nat) (x1 : Int32) (x2 : Int32) (x3 : Int32) (x4 : Int32) (S : St) (k34 : Int32 → Option Int32) : Option Int32 :=
  match n with
  | 0 => none
  | n + 1 => (if x2 ≤ x4 then k34 x3 else (f_X5_letterAt (x1 + x4) S).bind fun v2 => f_X5_number_L5 n x1 x2 (((10 * x3) + v2) - 48) (x4 + 1) S k34)
def f_X5_number (a1 : Int32) (a2 : Int32) (S : St) : Option Int32 :=
  f_X5_number_L5 2000 a1 a2 0 0 S (fun (y3 : Int32) => some y3)
def f_X5_partsOf (a1 : Int32) (S : St) : Option Int32 :=
  (f_X5_letterAt a1 S).bind fun v1 => (if v1 = 100 then some 2 else (if v1 = 103 then some 5 else (if v1 = 104 then some 2 else (if v1 = 115 then some 4 else (if v1 = 116 then some 2 else (if v1 = 118 then some 7 else (if v1 = 121 then some 2 else some 0)))))))
def f_X5_behindStatement (a1 : Int32) (S : St) : Option Int32 :=
  (f_X5_partsOf a1 S).bind fun v1 => some ((a1 + v1) + 2)
def f_X5_misfitOfStatement_L39 (n : Nat) (x1 : Int32) (x2 : Int32) (x3 : Int32) (S : St) (k54 : Int32 → Option Int32) (k62 : Int32 → Option Int32) : Option Int32 :=
  match n with
  | 0 => none
  | n + 1 => (if (x1 + x2) < x3 then k62 x3 else (f_X5_isDigit x3 S).bind fun v6 => (if v6 = 0 then k54 x3 else f_X5_misfitOfStatement_L39 n x1 x2 (x3 + 1) S k54 k62))
def f_X5_misfitOfStatement (a1 : Int32) (S : St) : Option Int32 :=
  (f_X5_partsOf a1 S).bind fun v1 => (if v1 = 0 then some a1 else (f_X5_letterAt a1 S).bind fun v3 => (if v3 = 116 then (f_X5_kindAt (a1 + 1) S).bind fun v12 => (if 0 ≤ v12 then f_X5_misfitOfStatement_L39 2000 a1 v1 ((a1 + 1) + 1) S (fun (y14 : Int32) => some y14) (fun (y15 : Int32) => (f_X5_letterAt y15 S).bind fun v16 => (if v16 = 59 then some (-9) else some y15)) else some (a1 + 1)) else f_X5_misfitOfStatement_L39 2000 a1 v1 (a1 + 1) S (fun (y8 : Int32) => some y8) (fun (y9 : Int32) => (f_X5_letterAt y9 S).bind fun v10 => (if v10 = 59 then some (-9) else some y9))))
def f_X5_firstMisfit_L13 (n : Nat) (x1 : Int32) (x2 : Int32) (S : St) (k39 : Int32 → Option Int32) (k53 : Unit → Option Int32) : Option Int32 :=
  match n with
  | 0 => none
  | n + 1 => (if 96 ≤ x2 then k53 () else (if (S.1 60 1) ≤ x1 then k53 () else (f_X5_misfitOfStatement x1 S).bind fun v4 => (if v4 = (-9) then (f_X5_behindStatement x1 S).bind fun v6 => f_X5_firstMisfit_L13 n v6 (x2 + 1) S k39 k53 else k39 v4)))
def f_X5_firstMisfit  (S : St) : Option Int32 :=
  (if (S.1 60 1) = 0 then some 0 else f_X5_firstMisfit_L13 2000 0 0 S (fun (y7 : Int32) => some y7) (fun _ : Unit => some (-9)))
def f_X6_moreIfWashed (q0 : Nat) (a1 : Int32) (S : St) : Option Int32 :=
  (f_X6_gladIn q0 a1 S).bind fun v1 => (f_X6_howGlad q0 a1 S).bind fun v2 => some (v1 - v2)
def f_X7_refuse (a1 : Int32) (S : St) : Option (Int32 × St) :=
  (if 0 ≤ a1 then some (a1, S) else (if a1 < (-6) then some (a1, S) else (if (-a1) < 0 ∨ 7 ≤ (-a1).toNatClampNeg then none else (if (-a1) < 0 ∨ 7 ≤ (-a1).toNatClampNeg then none else some (a1, (up S 73 (-a1).toNatClampNeg ((S.1 73 (-a1).toNatClampNeg) + 1)))))))
def f_X7_letter (a1 : Int32) (S : St) : Option (Int32 × St) :=
  (if 0 ≤ a1 then (if 255 < a1 then (f_X7_refuse (-6) S).bind fun z3 => some (z3.1, z3.2) else (f_X5_isFull S).bind fun v4 => (if v4 = 0 then (f_X5_put a1 S).bind fun S6 => some (S6.1 60 1, S6) else (f_X7_refuse (-6) S).bind fun z7 => some (z7.1, z7.2))) else (f_X7_refuse (-4) S).bind fun z8 => some (z8.1, z8.2))
def f_X7_tellStatement (a1 : Int32) (S : St) : Option (Int32 × St) :=
  (f_X5_number (a1 + 1) 1 S).bind fun v1 => (f_X5_letterAt a1 S).bind fun v2 => (if v2 = 100 then (f_X5_number (a1 + 1) 2 S).bind fun v4 => some (1, (up S 39 2 v4)) else (if v2 = 103 then (f_X5_number (a1 + 2) 2 S).bind fun v6 => (f_X5_number (a1 + 2) 2 S).bind fun v7 => (f_X5_number (a1 + 4) 2 S).bind fun v8 => (f_X3_makeGlad 39 v1 v6 v7 v8 S).bind fun z9 => some (z9.1, z9.2) else (if v2 = 104 then (f_X5_number (a1 + 2) 1 S).bind fun v11 => (f_X3_turnHalves 39 v1 v11 S).bind fun z12 => some (z12.1, z12.2) else (if v2 = 115 then (f_X5_number (a1 + 2) 2 S).bind fun v14 => (f_X5_number (a1 + 4) 1 S).bind fun v15 => (f_X3_glue 39 v1 v14 v15 S).bind fun z16 => some (z16.1, z16.2) else (if v2 = 116 then (f_X5_kindAt (a1 + 1) S).bind fun v18 => (f_X5_number (a1 + 2) 1 S).bind fun v19 => (f_X3_add 39 v18 v19 S).bind fun z20 => some (z20.1, z20.2) else (if v2 = 118 then (f_X5_number (a1 + 2) 2 S).bind fun v22 => (f_X5_number (a1 + 4) 2 S).bind fun v23 => (f_X5_number (a1 + 6) 2 S).bind fun v24 => (f_X3_makeGlad 39 v1 v22 v23 v24 S).bind fun z25 => some (z25.1, z25.2) else (if v2 = 121 then (f_X5_number (a1 + 1) 2 S).bind fun v27 => (f_X3_moveTo 39 v27 S).bind fun z28 => some (z28.1, z28.2) else some (0, S))))))))
def f_X7_tellTrial_L15 (n : Nat) (x1 : Int32) (x2 : Int32) (S : St) (k40 : Int32 → St → Option (Int32 × St)) (k61 : Int32 → St → Option (Int32 × St)) : Option (Int32 × St) :=
  match n with
  | 0 => none
  | n + 1 => (if 96 ≤ x1 then k61 x1 S else (if (S.1 60 1) ≤ x2 then k61 x1 S else (f_X7_tellStatement x2 S).bind fun z4 => (if z4.1 = 0 then k40 x2 z4.2 else (f_X5_behindStatement x2 z4.2).bind fun v6 => f_X7_tellTrial_L15 n (x1 + 1) v6 z4.2 k40 k61)))
def f_X7_tellTrial  (S : St) : Option (Int32 × St) :=
  (f_X3_copyFrom 39 1 S).bind fun S1 => f_X7_tellTrial_L15 2000 0 0 S1 (fun (y7 : Int32) (S8 : St) => some ((-2000) - y7, S8)) (fun (y9 : Int32) (S10 : St) => some (y9, S10))
def f_X7_shop  (S : St) : Option (Int32 × St) :=
  (f_X5_firstMisfit S).bind fun v1 => (if v1 = (-9) then (f_X7_tellTrial S).bind fun z5 => (if z5.1 ≤ 0 then some (z5.1, (up z5.2 60 1 0)) else (f_X3_copyFrom 1 39 z5.2).bind fun S7 => some (z5.1, (up S7 60 1 0))) else (if ((-1000) - v1) ≤ 0 then some ((-1000) - v1, (up S 60 1 0)) else (f_X3_copyFrom 1 39 S).bind fun S4 => some ((-1000) - v1, (up S4 60 1 0))))
def f_X7_thing (a1 : Int32) (a2 : Int32) (S : St) : Option (Int32 × St) :=
  (f_X3_lacks 1 a1 S).bind fun v1 => (if v1 = 0 then (f_X3_at 1 a1 S).bind fun v3 => (if a2 = 0 then some (S.1 v3 0, S) else (if a2 = 1 then some (S.1 v3 1, S) else (if a2 = 2 then some (S.1 v3 2, S) else (if a2 = 3 then (f_X6_howGlad v3 (S.1 1 1) S).bind fun v8 => some (v8, S) else (if a2 = 4 then (f_X6_cost v3 S).bind fun v10 => some (v10, S) else (f_X7_refuse (-2) S).bind fun z11 => some (z11.1, z11.2)))))) else (f_X7_refuse (-1) S).bind fun z12 => some (z12.1, z12.2))
def f_X7_glad (a1 : Int32) (a2 : Int32) (S : St) : Option (Int32 × St) :=
  (f_X3_lacks 1 a1 S).bind fun v1 => (if v1 = 0 then (f_X7_noYear a2).bind fun v4 => (if v4 = 0 then (f_X3_at 1 a1 S).bind fun v6 => (f_X6_gladIn v6 a2 S).bind fun v7 => some (v7, S) else (f_X7_refuse (-1) S).bind fun z8 => some (z8.1, z8.2)) else (f_X7_refuse (-1) S).bind fun z3 => some (z3.1, z3.2))
def f_X7_halves (a1 : Int32) (a2 : Int32) (S : St) : Option (Int32 × St) :=
  (f_X3_lacksTwo 1 a1 a2 S).bind fun v1 => (if v1 = 0 then (f_X3_areHalves 1 a1 a2 S).bind fun v3 => (if v3 = 0 then some (0, S) else some (1, S)) else (f_X7_refuse (-1) S).bind fun z5 => some (z5.1, z5.2))
def f_X7_outside (a0 : Int32) (a1 : Int32) (a2 : Int32)  : Option Int32 :=
  (if a1 ≤ a0 then (if a0 ≤ a2 then some 0 else some (-6)) else some (-4))
def f_X7_turn (a1 : Int32) (a2 : Int32) (a3 : Int32) (S : St) : Option (Int32 × St) :=
  (f_X3_lacks 1 a1 S).bind fun v1 => (if v1 = 0 then (if a2 < 0 then (f_X7_refuse (-2) S).bind fun z4 => some (z4.1, z4.2) else (if a2 ≤ 5 then (f_X7_outside a3 0 9).bind fun v6 => (if v6 = 0 then (f_X3_at 1 a1 S).bind fun v8 => some ((10 * (S.1 v8 0)) + (S.1 v8 1), (up (up S v8 0 a2) v8 1 a3)) else (f_X7_refuse v6 S).bind fun z9 => some (z9.1, z9.2)) else (f_X7_refuse (-2) S).bind fun z10 => some (z10.1, z10.2))) else (f_X7_refuse (-1) S).bind fun z11 => some (z11.1, z11.2))
def f_X7_makes (a1 : Int32) (a2 : Int32) (a3 : Int32) (S : St) : Option (Int32 × St) :=
  (f_X3_lacks 1 a1 S).bind fun v1 => (if v1 = 0 then (f_X7_noYear a2).bind fun v4 => (if v4 = 0 then (f_X7_outside a3 0 99).bind fun v6 => (if v6 = 0 then (f_X3_at 1 a1 S).bind fun v8 => (f_X6_gladIn v8 a2 S).bind fun v9 => (f_X6_makeGlad v8 a2 a3 S).bind fun S10 => some (v9, S10) else (f_X7_refuse v6 S).bind fun z11 => some (z11.1, z11.2)) else (f_X7_refuse (-1) S).bind fun z12 => some (z12.1, z12.2)) else (f_X7_refuse (-1) S).bind fun z3 => some (z3.1, z3.2))
def f_X7_pairs (a1 : Int32) (a2 : Int32) (S : St) : Option (Int32 × St) :=
  (f_X3_lacksTwo 1 a1 a2 S).bind fun v1 => (if v1 = 0 then (f_X3_turnHalves 1 a1 a2 S).bind fun z3 => (f_X3_areHalves 1 a1 a2 z3.2).bind fun v4 => (if v4 = 0 then some (0, z3.2) else some (1, z3.2)) else (f_X7_refuse (-1) S).bind fun z6 => some (z6.1, z6.2))
def f_X7_now (a1 : Int32) (S : St) : Option (Int32 × St) :=
  (f_X7_noYear a1).bind fun v1 => (if v1 = 0 then some (S.1 1 1, (up S 1 1 a1)) else (f_X7_refuse (-1) S).bind fun z3 => some (z3.1, z3.2))
def f_X7_hands (a1 : Int32) (S : St) : Option (Int32 × St) :=
  (f_X7_outside a1 1 4).bind fun v1 => (if v1 = 0 then some (S.1 1 3, (up S 1 3 a1)) else (f_X7_refuse v1 S).bind fun z3 => some (z3.1, z3.2))
def f_X7_pours (a1 : Int32) (S : St) : Option (Int32 × St) :=
  (f_X7_outside a1 0 99).bind fun v1 => (if v1 = 0 then some (S.1 1 2, (up S 1 2 a1)) else (f_X7_refuse v1 S).bind fun z3 => some (z3.1, z3.2))
def f_X7_heldRefusal (a1 : Int32) (a2 : Int32) (a3 : Int32) (S : St) : Option Int32 :=
  (f_X3_lacks 1 a1 S).bind fun v1 => (if v1 = 0 then (if a2 < 0 then some (-4) else (if 0 ≤ a3 then (if 99 < a2 then some (-6) else (if a3 ≤ 9 then some 0 else some (-6))) else some (-4))) else some (-1))
def f_X7_glues (a1 : Int32) (a2 : Int32) (a3 : Int32) (S : St) : Option (Int32 × St) :=
  (f_X7_heldRefusal a1 a2 a3 S).bind fun v1 => (if v1 = 0 then (f_X3_glue 1 a1 a2 a3 S).bind fun z3 => (if z3.1 = 0 then (f_X7_refuse (-3) z3.2).bind fun z6 => some (z6.1, z6.2) else (f_X3_at 1 a1 z3.2).bind fun v5 => some (z3.2.1 v5 2, z3.2)) else (f_X7_refuse v1 S).bind fun z7 => some (z7.1, z7.2))
def f_X7_washes (a1 : Int32) (S : St) : Option (Int32 × St) :=
  (f_X3_lacks 1 a1 S).bind fun v1 => (if v1 = 0 then (f_X3_at 1 a1 S).bind fun v3 => (f_X6_isSet v3 S).bind fun v4 => (if v4 = 0 then (f_X7_refuse (-3) S).bind fun z6 => some (z6.1, z6.2) else some (S.1 v3 2, (up S v3 2 (-9)))) else (f_X7_refuse (-1) S).bind fun z7 => some (z7.1, z7.2))
def f_X7_would (a1 : Int32) (a2 : Int32) (a3 : Int32) (a4 : Int32) (S : St) : Option (Int32 × St) :=
  (f_X7_heldRefusal a1 a2 a3 S).bind fun v1 => (if v1 = 0 then (if a4 < 0 then (f_X7_refuse (-2) S).bind fun z4 => some (z4.1, z4.2) else (if a4 ≤ 2 then (f_X3_at 1 a1 S).bind fun v6 => (if a4 = 1 then (f_X6_reach v6 a2 a3 S).bind fun v11 => some (v11, S) else (f_X6_yearBy v6 a2 a3 (S.1 1 1) S).bind fun v8 => (if a4 = 0 then some (v8, S) else (f_X6_gladIn v6 v8 S).bind fun v10 => some (v10, S))) else (f_X7_refuse (-2) S).bind fun z12 => some (z12.1, z12.2))) else (f_X7_refuse v1 S).bind fun z13 => some (z13.1, z13.2))
def f_X7_can_L21 (n : Nat) (x1 : Int32) (x2 : Int32) (x3 : Int32) (S : St) (k60 : Int32 → Option (Int32 × St)) : Option (Int32 × St) :=
  match n with
  | 0 => none
  | n + 1 => (if 19 < x3 then k60 x2 else (f_X3_at 1 x1 S).bind fun v4 => (f_X6_yearBy v4 (x3 * 5) 0 (S.1 1 1) S).bind fun v5 => f_X7_can_L21 n x1 (x2 ||| (1 <<< (v5 &&& 31))) (x3 + 1) S k60)
def f_X7_can (a1 : Int32) (S : St) : Option (Int32 × St) :=
  (f_X3_lacks 1 a1 S).bind fun v1 => (if v1 = 0 then f_X7_can_L21 2000 a1 0 0 S (fun (y6 : Int32) => some (y6, S)) else (f_X7_refuse (-1) S).bind fun z7 => some (z7.1, z7.2))
def f_X7_fewest (a1 : Int32) (a2 : Int32) (S : St) : Option (Int32 × St) :=
  (f_X3_lacks 1 a1 S).bind fun v1 => (if v1 = 0 then (f_X7_noYear a2).bind fun v4 => (if v4 = 0 then (f_X3_at 1 a1 S).bind fun v6 => (f_X6_fewestFor v6 a2 (S.1 1 1) S).bind fun v7 => some (v7, S) else (f_X7_refuse (-1) S).bind fun z8 => some (z8.1, z8.2)) else (f_X7_refuse (-1) S).bind fun z3 => some (z3.1, z3.2))
def f_X7_gladness  (S : St) : Option Int32 :=
  (f_X3_gladTogether 1 (S.1 1 1) S).bind fun v1 => some v1
def f_X7_notOneOfTwo (a0 : Int32)  : Option Int32 :=
  (if a0 < 0 then some 1 else (if a0 ≤ 1 then some 0 else some 1))
def f_X7_agree (a1 : Int32) (S : St) : Option (Int32 × St) :=
  (f_X7_notOneOfTwo a1).bind fun v1 => (if v1 = 0 then (if a1 = 0 then (f_X3_countAgreeing 1 S).bind fun v5 => some (v5, S) else (f_X3_firstApart 1 S).bind fun v4 => some (v4, S)) else (f_X7_refuse (-2) S).bind fun z6 => some (z6.1, z6.2))
def f_X7_most (a1 : Int32) (S : St) : Option (Int32 × St) :=
  (f_X7_notOneOfTwo a1).bind fun v1 => (if v1 = 0 then (f_X1_weigh 1 (S.1 1 1) S).bind fun S3 => (f_X1_bestBits (S3.1 1 2) S3).bind fun v4 => (if a1 = 0 then (f_X1_gainOf v4 S3).bind fun v6 => some ((S3.1 64 4) + v6, S3) else some (v4, S3)) else (f_X7_refuse (-2) S).bind fun z7 => some (z7.1, z7.2))
def f_X7_spendSteps_L29 (n : Nat) (q1 : Nat) (x2 : Int32) (x3 : Int32) (x4 : Int32) (S : St) (k87 : Int32 → Option St) : Option St :=
  match n with
  | 0 => none
  | n + 1 => (if x2 < x4 then k87 x3 else (f_X6_isSet q1 S).bind fun v5 => (if v5 = 0 then (f_X6_yearBy q1 (x4 * 5) 0 (S.1 1 1) S).bind fun v7 => (if (x2 - x4) < 0 ∨ 20 ≤ (x2 - x4).toNatClampNeg then none else (f_X6_gladIn q1 v7 S).bind fun v9 => f_X7_spendSteps_L29 n q1 x2 (if x3 < ((S.1 72 (x2 - x4).toNatClampNeg) + v9) then (S.1 72 (x2 - x4).toNatClampNeg) + v9 else x3) (x4 + 1) S k87) else k87 x3))
def f_X7_spendSteps_L3 (n : Nat) (q1 : Nat) (x2 : Int32) (S : St) (k100 : St → Option St) : Option St :=
  match n with
  | 0 => none
  | n + 1 => (if x2 < 0 then k100 S else (if x2 < 0 ∨ 20 ≤ x2.toNatClampNeg then none else (f_X6_howGlad q1 (S.1 1 1) S).bind fun v3 => f_X7_spendSteps_L29 2000 q1 x2 ((S.1 72 x2.toNatClampNeg) + v3) 0 S (fun (y10 : Int32) => (if x2 < 0 ∨ 20 ≤ x2.toNatClampNeg then none else f_X7_spendSteps_L3 n q1 (x2 + (-1)) (up S 72 x2.toNatClampNeg y10) k100))))
def f_X7_spendSteps (q1 : Nat) (S : St) : Option St :=
  f_X7_spendSteps_L3 2000 q1 19 S (fun (S12 : St) => some S12)
def f_X7_byMinutes_L20 (n : Nat) (x1 : Int32) (x3 : Int32) (S : St) (k39 : St → Option (Int32 × St)) : Option (Int32 × St) :=
  match n with
  | 0 => none
  | n + 1 => (if 19 < x3 then k39 S else (if x3 < 0 ∨ 20 ≤ x3.toNatClampNeg then none else f_X7_byMinutes_L20 n x1 (x3 + 1) (up S 72 x3.toNatClampNeg 0) k39))
def f_X7_byMinutes_L41 (n : Nat) (x1 : Int32) (x3 : Int32) (S : St) (k70 : St → Option (Int32 × St)) : Option (Int32 × St) :=
  match n with
  | 0 => none
  | n + 1 => (if (S.1 1 0) ≤ x3 then k70 S else (f_X3_at 1 x3 S).bind fun v7 => (f_X7_spendSteps v7 S).bind fun S8 => f_X7_byMinutes_L41 n x1 (x3 + 1) S8 k70)
def f_X7_byMinutes (a1 : Int32) (S : St) : Option (Int32 × St) :=
  (f_X7_outside a1 0 99).bind fun v1 => (if v1 = 0 then f_X7_byMinutes_L20 2000 a1 0 S (fun (S5 : St) => f_X7_byMinutes_L41 2000 a1 0 S5 (fun (S9 : St) => (if (a1 / 5) < 0 ∨ 20 ≤ (a1 / 5).toNatClampNeg then none else some (S9.1 72 (a1 / 5).toNatClampNeg, S9)))) else (f_X7_refuse v1 S).bind fun z11 => some (z11.1, z11.2))
def f_X7_fewDrops  (S : St) : Option (Int32 × St) :=
  (f_X1_weigh 1 (S.1 1 1) S).bind fun S1 => (f_X1_bestBits 99 S1).bind fun v2 => (f_X1_gainOf v2 S1).bind fun v3 => (f_X1_fewestFor v3 S1).bind fun v4 => some (v4, S1)
def f_X7_minutesOfBoth (q1 : Nat) (q2 : Nat) (a3 : Int32) (S : St) : Option Int32 :=
  (f_X6_fewestFor q1 a3 (S.1 1 1) S).bind fun v1 => (f_X6_fewestFor q2 a3 (S.1 1 1) S).bind fun v2 => (if v1 = (-9) then some (-9) else (if v2 = (-9) then some (-9) else some (v1 + v2)))
def f_X7_together_L78 (n : Nat) (x1 : Int32) (x2 : Int32) (x3 : Int32) (x4 : Int32) (x5 : Int32) (x6 : Int32) (S : St) (k144 : Int32 → Int32 → Option (Int32 × St)) : Option (Int32 × St) :=
  match n with
  | 0 => none
  | n + 1 => (if 12 ≤ x6 then k144 x4 x5 else (f_X3_at 1 x1 S).bind fun v13 => (f_X3_at 1 x2 S).bind fun v14 => (f_X7_minutesOfBoth v13 v14 x6 S).bind fun v15 => (if v15 = (-9) then f_X7_together_L78 n x1 x2 x3 x4 x5 (x6 + 1) S k144 else (if x4 = (-9) then f_X7_together_L78 n x1 x2 x3 v15 x6 (x6 + 1) S k144 else (if x4 ≤ v15 then f_X7_together_L78 n x1 x2 x3 x4 x5 (x6 + 1) S k144 else f_X7_together_L78 n x1 x2 x3 v15 x6 (x6 + 1) S k144))))
def f_X7_together (a1 : Int32) (a2 : Int32) (a3 : Int32) (S : St) : Option (Int32 × St) :=
  (f_X3_lacksTwo 1 a1 a2 S).bind fun v1 => (if v1 = 0 then (f_X7_notOneOfTwo a3).bind fun v3 => (if v3 = 0 then (f_X3_at 1 a1 S).bind fun v5 => (f_X6_isSet v5 S).bind fun v6 => (if v6 = 0 then (f_X3_at 1 a2 S).bind fun v9 => (f_X6_isSet v9 S).bind fun v10 => (if v10 = 0 then f_X7_together_L78 2000 a1 a2 a3 (-9) (-9) 0 S (fun (y19 : Int32) (y20 : Int32) => (if a3 = 0 then some (y19, S) else some (y20, S))) else (f_X7_refuse (-3) S).bind fun z22 => some (z22.1, z22.2)) else (f_X7_refuse (-3) S).bind fun z8 => some (z8.1, z8.2)) else (f_X7_refuse (-2) S).bind fun z23 => some (z23.1, z23.2)) else (f_X7_refuse (-1) S).bind fun z24 => some (z24.1, z24.2))
def f_X7_queue (a1 : Int32) (S : St) : Option (Int32 × St) :=
  (if a1 = (-1) then (f_X0_arrange 1 S).bind fun S2 => (if a1 = (-1) then some (S2.1 67 2, S2) else (f_X0_beginOf a1 S2).bind fun v4 => some (v4, S2)) else (f_X3_lacks 1 a1 S).bind fun v5 => (if v5 = 0 then (f_X0_arrange 1 S).bind fun S7 => (if a1 = (-1) then some (S7.1 67 2, S7) else (f_X0_beginOf a1 S7).bind fun v9 => some (v9, S7)) else (f_X7_refuse (-1) S).bind fun z10 => some (z10.1, z10.2)))
def f_X7_oneMore  (S : St) : Option Int32 :=
  (f_X3_gladTogether 1 (if 11 < ((S.1 1 1) + 1) then 11 else (S.1 1 1) + 1) S).bind fun v1 => some v1
def f_X7_bestYear_L6 (n : Nat) (x1 : Int32) (x2 : Int32) (x3 : Int32) (S : St) (k72 : Int32 → St → Option (Int32 × St)) : Option (Int32 × St) :=
  match n with
  | 0 => none
  | n + 1 => (if 12 ≤ x3 then k72 x1 S else (f_X1_weigh 1 x3 S).bind fun S2 => (f_X1_bestBits (S2.1 1 2) S2).bind fun v3 => (f_X1_gainOf v3 S2).bind fun v4 => (if ((S2.1 64 4) + v4) ≤ x2 then f_X7_bestYear_L6 n x1 x2 (x3 + 1) S2 k72 else f_X7_bestYear_L6 n x3 ((S2.1 64 4) + v4) (x3 + 1) S2 k72))
def f_X7_bestYear  (S : St) : Option (Int32 × St) :=
  f_X7_bestYear_L6 2000 0 (-1) 0 S (fun (y6 : Int32) (S7 : St) => some (y6, S7))
def f_X7_water (a1 : Int32) (S : St) : Option (Int32 × St) :=
  (f_X3_lacks 1 a1 S).bind fun v1 => (if v1 = 0 then (f_X3_at 1 a1 S).bind fun v3 => (f_X6_isSet v3 S).bind fun v4 => (if v4 = 0 then (f_X7_refuse (-3) S).bind fun z7 => some (1000000000 - z7.1, z7.2) else (f_X6_moreIfWashed v3 (S.1 1 1) S).bind fun v6 => some (v6, S)) else (f_X7_refuse (-1) S).bind fun z8 => some (1000000000 - z8.1, z8.2))
def f_X7_bestWash_L7 (n : Nat) (x1 : Int32) (x2 : Int32) (x3 : Int32) (S : St) (k55 : Int32 → Option Int32) : Option Int32 :=
  match n with
  | 0 => none
  | n + 1 => (if (S.1 1 0) ≤ x3 then k55 x1 else (f_X3_at 1 x3 S).bind fun v2 => (f_X6_moreIfWashed v2 (S.1 1 1) S).bind fun v3 => (if v3 ≤ x2 then f_X7_bestWash_L7 n x1 x2 (x3 + 1) S k55 else f_X7_bestWash_L7 n x3 v3 (x3 + 1) S k55))
def f_X7_bestWash  (S : St) : Option Int32 :=
  f_X7_bestWash_L7 2000 (-9) 0 0 S (fun (y5 : Int32) => some y5)
def f_X7_sour_L4 (n : Nat) (x1 : Int32) (x2 : Int32) (S : St) (k48 : Int32 → Option Int32) : Option Int32 :=
  match n with
  | 0 => none
  | n + 1 => (if (S.1 1 0) ≤ x2 then k48 x1 else (f_X3_at 1 x2 S).bind fun v2 => (f_X6_moreIfWashed v2 (S.1 1 1) S).bind fun v3 => (if v3 ≤ 0 then f_X7_sour_L4 n x1 (x2 + 1) S k48 else f_X7_sour_L4 n (x1 ||| (1 <<< (x2 &&& 31))) (x2 + 1) S k48))
def f_X7_sour  (S : St) : Option Int32 :=
  f_X7_sour_L4 2000 0 0 S (fun (y5 : Int32) => some y5)
def f_X7_regret (a1 : Int32) (S : St) : Option (Int32 × St) :=
  (f_X3_lacks 1 a1 S).bind fun v1 => (if v1 = 0 then (f_X3_at 1 a1 S).bind fun v3 => (f_X6_gladdestYear v3 (S.1 1 1) S).bind fun v4 => (f_X6_gladIn v3 v4 S).bind fun v5 => (f_X6_howGlad v3 (S.1 1 1) S).bind fun v6 => some (if 0 < (v5 - v6) then v5 - v6 else 0, S) else (f_X7_refuse (-1) S).bind fun z7 => some (z7.1, z7.2))
def f_X7_bothContent_L21 (n : Nat) (q1 : Nat) (x2 : Int32) (x3 : Int32) (x4 : Int32) (x5 : Int32) (x6 : Int32) (S : St) (k70 : Unit → Option Int32) (k78 : Unit → Option Int32) : Option Int32 :=
  match n with
  | 0 => none
  | n + 1 => (if 4 < x6 then k78 () else (f_X6_yearBy q1 x2 (x6 + x4) (S.1 1 1) S).bind fun v3 => (if x5 < v3 then k70 () else (f_X6_yearBy q1 x2 (x3 + x6) (S.1 1 1) S).bind fun v5 => (if x5 ≤ v5 then f_X7_bothContent_L21 n q1 x2 x3 x4 x5 (x6 + 1) S k70 k78 else k70 ())))
def f_X7_bothContent (q1 : Nat) (a2 : Int32) (a3 : Int32) (a4 : Int32) (S : St) : Option Int32 :=
  (f_X6_yearBy q1 a2 (a3 + a4) (S.1 1 1) S).bind fun v1 => f_X7_bothContent_L21 2000 q1 a2 a3 a4 v1 0 S (fun _ : Unit => some 0) (fun _ : Unit => some 1)
def f_X7_two_L47 (n : Nat) (x1 : Int32) (x2 : Int32) (x4 : Int32) (x5 : Int32) (S : St) (k73 : Int32 → Option (Int32 × St)) (k88 : Unit → Option (Int32 × St)) : Option (Int32 × St) :=
  match n with
  | 0 => none
  | n + 1 => (if 4 < x5 then k88 () else (f_X3_at 1 x1 S).bind fun v7 => (f_X7_bothContent v7 x2 x4 x5 S).bind fun v8 => (if v8 = 0 then f_X7_two_L47 n x1 x2 x4 (x5 + 1) S k73 k88 else k73 x5))
def f_X7_two_L38 (n : Nat) (x1 : Int32) (x2 : Int32) (x4 : Int32) (S : St) (k73 : Int32 → Int32 → Option (Int32 × St)) (k94 : Unit → Option (Int32 × St)) : Option (Int32 × St) :=
  match n with
  | 0 => none
  | n + 1 => (if 4 < x4 then k94 () else f_X7_two_L47 2000 x1 x2 x4 0 S (fun (y10 : Int32) => k73 x4 y10) (fun _ : Unit => f_X7_two_L38 n x1 x2 (x4 + 1) S k73 k94))
def f_X7_two (a1 : Int32) (a2 : Int32) (S : St) : Option (Int32 × St) :=
  (f_X3_lacks 1 a1 S).bind fun v1 => (if v1 = 0 then (f_X7_outside a2 0 99).bind fun v3 => (if v3 = 0 then f_X7_two_L38 2000 a1 a2 0 S (fun (y11 : Int32) (y12 : Int32) => some ((10 * y11) + y12, S)) (fun _ : Unit => some ((-9), S)) else (f_X7_refuse v3 S).bind fun z13 => some (z13.1, z13.2)) else (f_X7_refuse (-1) S).bind fun z14 => some (z14.1, z14.2))
def f_X7_slipRefusal (a0 : Int32) (a1 : Int32) (a2 : Int32)  : Option Int32 :=
  (if a0 < 0 then some (-4) else (if 2 ≤ a1 then (if 8 < a0 then some (-6) else (if a1 ≤ 20 then (f_X7_notOneOfTwo a2).bind fun v5 => (if v5 = 0 then some 0 else some (-2)) else some (-6))) else some (-4)))
def f_X7_commonDivisor_L9 (n : Nat) (x4 : Int64) (x6 : Int64) (x8 : Int32) (k45 : Int64 → Option Int64) : Option Int64 :=
  match n with
  | 0 => none
  | n + 1 => (if 1000 ≤ x8 then k45 x4 else (if (lg_cmp x6 0) = 0 then k45 x4 else (if x6 = 0 then none else f_X7_commonDivisor_L9 n x6 (x4 - x4 / x6 * x6) (x8 + 1) k45)))
def f_X7_commonDivisor (a0 : Int64) (a2 : Int64)  : Option Int64 :=
  f_X7_commonDivisor_L9 2000 a0 a2 0 (fun (y4 : Int64) => some y4)
def f_X7_partOf (a0 : Int64) (a2 : Int64) (a4 : Int32)  : Option Int64 :=
  (f_X7_commonDivisor a0 a2).bind fun v1 => (if 0 ≤ (lg_cmp v1 1) then (if a4 = 0 then (if v1 = 0 then none else some (a0 / v1)) else (if v1 = 0 then none else some (a2 / v1))) else some 0)
def f_X7_slip (a1 : Int32) (a2 : Int32) (a3 : Int32) (a4 : Int32) (a5 : Int32) (S : St) : Option (Int64 × St) :=
  (f_X3_lacks 1 a1 S).bind fun v1 => (if v1 = 0 then (f_X7_noYear a4).bind fun v4 => (if v4 = 0 then (f_X7_slipRefusal a2 a3 a5).bind fun v6 => (if v6 = 0 then (f_X4_weigh a2 a3 S).bind fun S8 => (f_X3_at 1 a1 S8).bind fun v9 => (f_X4_waysInto v9 a4 (S8.1 1 1) S8).bind fun v10 => (f_X4_allWays S8).bind fun v11 => (f_X7_partOf v10 v11 a5).bind fun v12 => some (v12, S8) else (f_X7_refuse v6 S).bind fun z13 => some (4000000000000000000 - z13.1.toInt64, z13.2)) else (f_X7_refuse (-1) S).bind fun z14 => some (4000000000000000000 - z14.1.toInt64, z14.2)) else (f_X7_refuse (-1) S).bind fun z3 => some (4000000000000000000 - z3.1.toInt64, z3.2))
def f_X7_mean (a1 : Int32) (a2 : Int32) (a3 : Int32) (a4 : Int32) (S : St) : Option (Int64 × St) :=
  (f_X3_lacks 1 a1 S).bind fun v1 => (if v1 = 0 then (f_X7_slipRefusal a2 a3 a4).bind fun v3 => (if v3 = 0 then (f_X4_weigh a2 a3 S).bind fun S5 => (f_X3_at 1 a1 S5).bind fun v6 => (f_X4_gladOfAll v6 (S5.1 1 1) S5).bind fun v7 => (f_X4_allWays S5).bind fun v8 => (f_X7_partOf v7 v8 a4).bind fun v9 => some (v9, S5) else (f_X7_refuse v3 S).bind fun z10 => some (4000000000000000000 - z10.1.toInt64, z10.2)) else (f_X7_refuse (-1) S).bind fun z11 => some (4000000000000000000 - z11.1.toInt64, z11.2))
def f_X7_whatWas_L63 (n : Nat) (x2 : Int32) (x3 : Int32) (x4 : Int32) (x5 : Int32) (S : St) (k130 : Int32 → St → Option (Int32 × St)) : Option (Int32 × St) :=
  match n with
  | 0 => none
  | n + 1 => (if x3 < x5 then k130 x4 S else (if x2 = 0 then (f_X2_tellsYearsOf 58 ((up S 58 0 x5).1 1 1) (up S 58 0 x5)).bind fun v12 => (if v12 = 0 then f_X7_whatWas_L63 n x2 x3 x4 (x5 + 1) (up S 58 0 x5) k130 else f_X7_whatWas_L63 n x2 x3 (x4 ||| (1 <<< (x5 &&& 31))) (x5 + 1) (up S 58 0 x5) k130) else (f_X2_tellsYearsOf 58 ((up S 58 1 x5).1 1 1) (up S 58 1 x5)).bind fun v10 => (if v10 = 0 then f_X7_whatWas_L63 n x2 x3 x4 (x5 + 1) (up S 58 1 x5) k130 else f_X7_whatWas_L63 n x2 x3 (x4 ||| (1 <<< (x5 &&& 31))) (x5 + 1) (up S 58 1 x5) k130)))
def f_X7_whatWas (a1 : Int32) (a2 : Int32) (S : St) : Option (Int32 × St) :=
  (f_X3_lacks 1 a1 S).bind fun v1 => (if v1 = 0 then (f_X7_notOneOfTwo a2).bind fun v3 => (if v3 = 0 then (f_X3_at 1 a1 S).bind fun v5 => (f_X6_copyFrom 58 v5 S).bind fun S6 => (if a2 = 0 then f_X7_whatWas_L63 2000 a2 5 0 0 S6 (fun (y16 : Int32) (S17 : St) => some (y16, S17)) else f_X7_whatWas_L63 2000 a2 9 0 0 S6 (fun (y14 : Int32) (S15 : St) => some (y14, S15))) else (f_X7_refuse (-2) S).bind fun z18 => some (z18.1, z18.2)) else (f_X7_refuse (-1) S).bind fun z19 => some (z19.1, z19.2))
def f_X7_mended_L63 (n : Nat) (x2 : Int32) (x3 : Int32) (x5 : Int32) (S : St) (k100 : Int32 → St → Option (Int32 × St)) (k109 : St → Option (Int32 × St)) : Option (Int32 × St) :=
  match n with
  | 0 => none
  | n + 1 => (if 99 < x5 then k109 S else (f_X6_makeGlad 58 x2 x5 S).bind fun S11 => (f_X6_yearBy 58 x3 0 (S11.1 1 1) S11).bind fun v12 => (if v12 = x2 then k100 x5 S11 else f_X7_mended_L63 n x2 x3 (x5 + 1) S11 k100 k109))
def f_X7_mended (a1 : Int32) (a2 : Int32) (a3 : Int32) (S : St) : Option (Int32 × St) :=
  (f_X3_lacks 1 a1 S).bind fun v1 => (if v1 = 0 then (f_X7_noYear a2).bind fun v4 => (if v4 = 0 then (f_X7_outside a3 0 99).bind fun v6 => (if v6 = 0 then (f_X3_at 1 a1 S).bind fun v8 => (f_X6_copyFrom 58 v8 S).bind fun S9 => f_X7_mended_L63 2000 a2 a3 0 S9 (fun (y14 : Int32) (S15 : St) => some (y14, S15)) (fun (S16 : St) => some ((-9), S16)) else (f_X7_refuse v6 S).bind fun z17 => some (z17.1, z17.2)) else (f_X7_refuse (-1) S).bind fun z18 => some (z18.1, z18.2)) else (f_X7_refuse (-1) S).bind fun z3 => some (z3.1, z3.2))
def f_X7_row (a1 : Int32) (S : St) : Option (Int32 × St) :=
  (if 0 ≤ a1 then (if 99 < a1 then (f_X7_refuse (-6) S).bind fun z3 => some (z3.1, z3.2) else (f_X2_isFull S).bind fun v4 => (if v4 = 0 then (f_X2_put a1 S).bind fun S6 => some (S6.1 62 1, S6) else (f_X7_refuse (-6) S).bind fun z7 => some (z7.1, z7.2))) else (f_X7_refuse (-4) S).bind fun z8 => some (z8.1, z8.2))
def f_X7_judge (a1 : Int32) (S : St) : Option (Int32 × St) :=
  (f_X3_lacks 1 a1 S).bind fun v1 => (if v1 = 0 then (f_X3_at 1 a1 S).bind fun v3 => (f_X2_firstNotGladOf v3 S).bind fun v4 => some (v4, (up S 62 1 0)) else (f_X7_refuse (-1) S).bind fun z5 => some (z5.1, z5.2))
def f_X7_clear  (S : St) : Option (Int32 × St) :=
  some (S.1 62 1, (up S 62 1 0))
def f_X7_draw (a1 : Int32) (S : St) : Option (Int32 × St) :=
  (if 1 ≤ a1 then (if a1 = 0 then none else some (((((up S 0 12 (((S.1 0 12) * 1664525) + 1013904223)).1 0 12) &&& 2147483647) / 256) - ((((up S 0 12 (((S.1 0 12) * 1664525) + 1013904223)).1 0 12) &&& 2147483647) / 256) / a1 * a1, (up S 0 12 (((S.1 0 12) * 1664525) + 1013904223)))) else some (0, (up S 0 12 (((S.1 0 12) * 1664525) + 1013904223))))
def f_X7_glueByLot_L13 (n : Nat) (x1 : Int32) (S : St) (k78 : St → Option St) : Option St :=
  match n with
  | 0 => none
  | n + 1 => (if (S.1 39 0) ≤ x1 then k78 S else (f_X3_at 39 x1 S).bind fun v3 => (f_X6_isSet v3 S).bind fun v4 => (if v4 = 0 then (f_X7_draw 60 S).bind fun z6 => (f_X7_draw 4 z6.2).bind fun z7 => (f_X6_yearBy v3 z6.1 z7.1 (z7.2.1 39 1) z7.2).bind fun v8 => f_X7_glueByLot_L13 n (x1 + 1) (up z7.2 v3 2 v8) k78 else f_X7_glueByLot_L13 n (x1 + 1) S k78))
def f_X7_glueByLot  (S : St) : Option St :=
  (f_X3_copyFrom 39 1 S).bind fun S1 => f_X7_glueByLot_L13 2000 0 S1 (fun (S9 : St) => some S9)
def f_X7_lots_L46 (n : Nat) (x1 : Int32) (x3 : Int32) (x5 : Int32) (x6 : Int32) (S : St) (k95 : Int32 → St → Option (Int32 × St)) : Option (Int32 × St) :=
  match n with
  | 0 => none
  | n + 1 => (if x1 ≤ x6 then k95 x5 S else (f_X7_glueByLot S).bind fun S6 => (if x3 = 0 then (f_X3_gladTogether 39 (S6.1 39 1) S6).bind fun v9 => f_X7_lots_L46 n x1 x3 (x5 + v9) (x6 + 1) S6 k95 else (f_X3_countAgreeing 39 S6).bind fun v8 => f_X7_lots_L46 n x1 x3 (x5 + v8) (x6 + 1) S6 k95))
def f_X7_lots (a1 : Int32) (a2 : Int32) (a3 : Int32) (S : St) : Option (Int32 × St) :=
  (f_X7_outside a1 1 20).bind fun v1 => (if v1 = 0 then (f_X7_notOneOfTwo a3).bind fun v3 => (if v3 = 0 then f_X7_lots_L46 2000 a1 a3 0 0 (up S 0 12 a2) (fun (y10 : Int32) (S11 : St) => some (y10, S11)) else (f_X7_refuse (-2) S).bind fun z12 => some (z12.1, z12.2)) else (f_X7_refuse v1 S).bind fun z13 => some (z13.1, z13.2))
def f_X7_image  (S : St) : Option (Int32 × St) :=
  (f_X3_copyFrom 20 1 S).bind fun S1 => some ((up S1 0 11 1).1 1 1, (up S1 0 11 1))
def f_X7_on  (S : St) : Option (Int32 × St) :=
  (if (S.1 0 11) = 0 then (f_X7_refuse (-3) S).bind fun z3 => some (z3.1, z3.2) else (f_X3_copyFrom 1 20 S).bind fun S2 => some (S2.1 1 1, S2))
def f_X7_count (a1 : Int32) (S : St) : Option Int32 :=
  (if a1 < 11 then (if a1 = 0 then some (S.1 1 0) else (if a1 = 1 then some (S.1 1 1) else (if a1 = 2 then some (S.1 1 2) else (if a1 = 3 then some (S.1 1 3) else (if a1 = 4 then (f_X3_setBits 1 S).bind fun v7 => some v7 else (if a1 = 5 then (f_X3_countHalves 1 S).bind fun v9 => some v9 else (if a1 = 6 then some (S.1 62 1) else (if a1 = 7 then some (S.1 60 1) else some (-9))))))))) else (if 16 < a1 then (if a1 = 0 then some (S.1 1 0) else (if a1 = 1 then some (S.1 1 1) else (if a1 = 2 then some (S.1 1 2) else (if a1 = 3 then some (S.1 1 3) else (if a1 = 4 then (f_X3_setBits 1 S).bind fun v18 => some v18 else (if a1 = 5 then (f_X3_countHalves 1 S).bind fun v20 => some v20 else (if a1 = 6 then some (S.1 62 1) else (if a1 = 7 then some (S.1 60 1) else some (-9))))))))) else (if (a1 - 10) < 0 ∨ 7 ≤ (a1 - 10).toNatClampNeg then none else some (S.1 73 (a1 - 10).toNatClampNeg))))
def f_X8_isIn (a0 : Int32) (a1 : Int32) (a2 : Int32)  : Option Int32 :=
  (if a0 < a1 then some 0 else (if a2 < a0 then some 0 else some 1))
def f_X8_least (a0 : Int32) (a1 : Int32)  : Option Int32 :=
  (if a1 ≤ a0 then some a1 else some a0)
def f_X8_most (a0 : Int32) (a1 : Int32)  : Option Int32 :=
  (if a0 ≤ a1 then some a1 else some a0)
def f_X8_lays_L2 (n : Nat) (q0 : Nat) (q1 : Nat) (x2 : Int32) (S : St) (k21 : St → Option St) : Option St :=
  match n with
  | 0 => none
  | n + 1 => (if 132 ≤ x2 then k21 S else (if x2 < 0 ∨ 132 ≤ x2.toNatClampNeg then none else (if x2 < 0 ∨ 132 ≤ x2.toNatClampNeg then none else f_X8_lays_L2 n q0 q1 (x2 + 1) (up S q1 x2.toNatClampNeg (S.1 q0 x2.toNatClampNeg)) k21)))
def f_X8_lays (q0 : Nat) (q1 : Nat) (S : St) : Option St :=
  f_X8_lays_L2 2000 q0 q1 0 S (fun (S4 : St) => some S4)
def f_X8_no (a1 : Int32) (S : St) : Option (Int32 × St) :=
  (if (-a1) < 0 ∨ 7 ≤ (-a1).toNatClampNeg then none else (if (-a1) < 0 ∨ 7 ≤ (-a1).toNatClampNeg then none else some (a1, (up S 81 (-a1).toNatClampNeg ((S.1 81 (-a1).toNatClampNeg) + 1)))))
def f_X8_noFar (a1 : Int32) (S : St) : Option (Int32 × St) :=
  (f_X8_no a1 S).bind fun z1 => some (1000000000 - z1.1, z1.2)
def f_X8_noWide (a1 : Int32) (S : St) : Option (Int64 × St) :=
  (f_X8_no a1 S).bind fun z1 => some (4000000000000000000 - z1.1.toInt64, z1.2)
def f_X8_isThing (a1 : Int32) (S : St) : Option Int32 :=
  (f_X8_isIn a1 0 ((S.1 75 0) - 1)).bind fun v1 => some v1
def f_X8_isYear (a0 : Int32)  : Option Int32 :=
  (f_X8_isIn a0 0 11).bind fun v1 => some v1
def f_X8_at (a0 : Int32) (a1 : Int32)  : Option Int32 :=
  some ((28 + (12 * a0)) + a1)
def f_X8_bits_L4 (n : Nat) (x0 : Int32) (x1 : Int32) (x2 : Int32) (k24 : Int32 → Option Int32) : Option Int32 :=
  match n with
  | 0 => none
  | n + 1 => (if 12 ≤ x2 then k24 x1 else f_X8_bits_L4 n x0 (x1 + ((x0 >>> (x2 &&& 31)) &&& 1)) (x2 + 1) k24)
def f_X8_bits (a0 : Int32)  : Option Int32 :=
  f_X8_bits_L4 2000 a0 0 0 (fun (y2 : Int32) => some y2)
def f_X8_cost (q0 : Nat) (a1 : Int32) (S : St) : Option Int32 :=
  (if (4 + a1) < 0 ∨ 132 ≤ (4 + a1).toNatClampNeg then none else (if (S.1 q0 (4 + a1).toNatClampNeg) = 4 then (if (12 + a1) < 0 ∨ 132 ≤ (12 + a1).toNatClampNeg then none else some (1 + (S.1 q0 (12 + a1).toNatClampNeg))) else some 1))
def f_X8_reach (q0 : Nat) (a1 : Int32) (a2 : Int32) (a3 : Int32) (S : St) : Option Int32 :=
  (f_X8_most 0 ((a2 / 5) - a3)).bind fun v1 => (if (4 + a1) < 0 ∨ 132 ≤ (4 + a1).toNatClampNeg then none else (if (S.1 q0 (4 + a1).toNatClampNeg) = 2 then (if (12 + a1) < 0 ∨ 132 ≤ (12 + a1).toNatClampNeg then none else some (v1 + (S.1 q0 (12 + a1).toNatClampNeg))) else (if (S.1 q0 (4 + a1).toNatClampNeg) = 5 then (if (12 + a1) < 0 ∨ 132 ≤ (12 + a1).toNatClampNeg then none else some (v1 + (S.1 q0 (12 + a1).toNatClampNeg))) else (if (S.1 q0 (4 + a1).toNatClampNeg) = 4 then some (v1 / 2) else some v1))))
def f_X8_counts (q0 : Nat) (a1 : Int32) (a2 : Int32) (S : St) : Option Int32 :=
  (f_X8_at a1 a2).bind fun v1 => (if v1 < 0 ∨ 132 ≤ v1.toNatClampNeg then none else (if (4 + a1) < 0 ∨ 132 ≤ (4 + a1).toNatClampNeg then none else (if (S.1 q0 (4 + a1).toNatClampNeg) = 5 then some (-(S.1 q0 v1.toNatClampNeg)) else (if (S.1 q0 (4 + a1).toNatClampNeg) = 3 then (if (12 + a1) < 0 ∨ 132 ≤ (12 + a1).toNatClampNeg then none else some ((S.1 q0 v1.toNatClampNeg) - ((S.1 q0 (12 + a1).toNatClampNeg) * ((S.1 q0 1) - a2)))) else some (S.1 q0 v1.toNatClampNeg)))))
def f_X8_yearBy_L36 (n : Nat) (q0 : Nat) (x1 : Int32) (x2 : Int32) (x3 : Int32) (x4 : Int32) (x5 : Int32) (S : St) (k92 : Int32 → Option Int32) : Option Int32 :=
  match n with
  | 0 => none
  | n + 1 => (if x5 < 0 then k92 x4 else (if x5 < ((S.1 q0 1) - x2) then k92 x4 else (f_X8_counts q0 x1 x5 S).bind fun v5 => (f_X8_counts q0 x1 x4 S).bind fun v6 => (if 0 < (v5 - v6) then f_X8_yearBy_L36 n q0 x1 x2 x3 x5 (x5 + (-1)) S k92 else (if (v5 - v6) = 0 then (if x3 = 0 then f_X8_yearBy_L36 n q0 x1 x2 x3 x4 (x5 + (-1)) S k92 else f_X8_yearBy_L36 n q0 x1 x2 x3 x5 (x5 + (-1)) S k92) else f_X8_yearBy_L36 n q0 x1 x2 x3 x4 (x5 + (-1)) S k92))))
def f_X8_yearBy (q0 : Nat) (a1 : Int32) (a2 : Int32) (S : St) : Option Int32 :=
  (if (4 + a1) < 0 ∨ 132 ≤ (4 + a1).toNatClampNeg then none else (if (S.1 q0 (4 + a1).toNatClampNeg) = 1 then f_X8_yearBy_L36 2000 q0 a1 a2 1 (S.1 q0 1) ((S.1 q0 1) - 1) S (fun (y10 : Int32) => some y10) else (if (4 + a1) < 0 ∨ 132 ≤ (4 + a1).toNatClampNeg then none else (if (S.1 q0 (4 + a1).toNatClampNeg) = 3 then f_X8_yearBy_L36 2000 q0 a1 a2 1 (S.1 q0 1) ((S.1 q0 1) - 1) S (fun (y14 : Int32) => some y14) else f_X8_yearBy_L36 2000 q0 a1 a2 0 (S.1 q0 1) ((S.1 q0 1) - 1) S (fun (y13 : Int32) => some y13)))))
def f_X8_yearOf (q0 : Nat) (a1 : Int32) (a2 : Int32) (a3 : Int32) (S : St) : Option Int32 :=
  (f_X8_reach q0 a1 a2 a3 S).bind fun v1 => (f_X8_yearBy q0 a1 v1 S).bind fun v2 => some v2
def f_X8_gladOf (q0 : Nat) (a1 : Int32) (S : St) : Option Int32 :=
  (if (20 + a1) < 0 ∨ 132 ≤ (20 + a1).toNatClampNeg then none else (if 0 ≤ (S.1 q0 (20 + a1).toNatClampNeg) then (if (20 + a1) < 0 ∨ 132 ≤ (20 + a1).toNatClampNeg then none else (f_X8_at a1 (S.1 q0 (20 + a1).toNatClampNeg)).bind fun v4 => (if v4 < 0 ∨ 132 ≤ v4.toNatClampNeg then none else some (S.1 q0 v4.toNatClampNeg))) else (f_X8_at a1 (S.1 q0 1)).bind fun v6 => (if v6 < 0 ∨ 132 ≤ v6.toNatClampNeg then none else some (S.1 q0 v6.toNatClampNeg))))
def f_X8_gladAll_L4 (n : Nat) (q0 : Nat) (x1 : Int32) (x2 : Int32) (S : St) (k25 : Int32 → Option Int32) : Option Int32 :=
  match n with
  | 0 => none
  | n + 1 => (if (S.1 q0 0) ≤ x2 then k25 x1 else (f_X8_gladOf q0 x2 S).bind fun v2 => f_X8_gladAll_L4 n q0 (x1 + v2) (x2 + 1) S k25)
def f_X8_gladAll (q0 : Nat) (S : St) : Option Int32 :=
  f_X8_gladAll_L4 2000 q0 0 0 S (fun (y3 : Int32) => some y3)
def f_X8_fewestOf_L2 (n : Nat) (q0 : Nat) (x1 : Int32) (x2 : Int32) (x3 : Int32) (S : St) (k19 : Int32 → Option Int32) (k27 : Unit → Option Int32) : Option Int32 :=
  match n with
  | 0 => none
  | n + 1 => (if 99 < x3 then k27 () else (f_X8_yearOf q0 x1 x3 0 S).bind fun v2 => (if v2 = x2 then k19 x3 else f_X8_fewestOf_L2 n q0 x1 x2 (x3 + 1) S k19 k27))
def f_X8_fewestOf (q0 : Nat) (a1 : Int32) (a2 : Int32) (S : St) : Option Int32 :=
  f_X8_fewestOf_L2 2000 q0 a1 a2 0 S (fun (y4 : Int32) => some y4) (fun _ : Unit => some (-9))
def f_X8_letter (a1 : Int32) (S : St) : Option (Int32 × St) :=
  (if 0 ≤ a1 then (if 255 < a1 then (f_X8_no (-6) S).bind fun z3 => some (z3.1, z3.2) else (if (S.1 74 8) = 96 then (f_X8_no (-6) S).bind fun z6 => some (z6.1, z6.2) else (if (S.1 74 8) < 0 ∨ 96 ≤ (S.1 74 8).toNatClampNeg then none else some ((up (up S 79 (S.1 74 8).toNatClampNeg a1) 74 8 (((up S 79 (S.1 74 8).toNatClampNeg a1).1 74 8) + 1)).1 74 8, (up (up S 79 (S.1 74 8).toNatClampNeg a1) 74 8 (((up S 79 (S.1 74 8).toNatClampNeg a1).1 74 8) + 1)))))) else (f_X8_no (-4) S).bind fun z7 => some (z7.1, z7.2))
def f_X8_here  (S : St) : Option Int32 :=
  (if (S.1 74 8) ≤ (S.1 74 10) then some (-1) else (if (S.1 74 10) < 0 ∨ 96 ≤ (S.1 74 10).toNatClampNeg then none else some (S.1 79 (S.1 74 10).toNatClampNeg)))
def f_X8_readsNumber_L9 (n : Nat) (x1 : Int32) (x2 : Int32) (x3 : Int32) (S : St) (k28 : St → Option (Int32 × St)) (k69 : St → Option (Int32 × St)) : Option (Int32 × St) :=
  match n with
  | 0 => none
  | n + 1 => (if x2 ≤ x3 then k69 S else (f_X8_here S).bind fun v3 => (f_X8_isIn v3 48 57).bind fun v4 => (if v4 = 0 then k28 S else (if x1 < 0 ∨ 4 ≤ x1.toNatClampNeg then none else (f_X8_here S).bind fun v7 => (if x1 < 0 ∨ 4 ≤ x1.toNatClampNeg then none else f_X8_readsNumber_L9 n x1 x2 (x3 + 1) (up (up S 82 x1.toNatClampNeg (((10 * (S.1 82 x1.toNatClampNeg)) + v7) - 48)) 74 10 (((up S 82 x1.toNatClampNeg (((10 * (S.1 82 x1.toNatClampNeg)) + v7) - 48)).1 74 10) + 1)) k28 k69))))
def f_X8_readsNumber (a1 : Int32) (a2 : Int32) (S : St) : Option (Int32 × St) :=
  (if a1 < 0 ∨ 4 ≤ a1.toNatClampNeg then none else f_X8_readsNumber_L9 2000 a1 a2 0 (up S 82 a1.toNatClampNeg 0) (fun (S9 : St) => some (0, S9)) (fun (S10 : St) => some (1, S10)))
def f_X8_kindBy (a0 : Int32)  : Option Int32 :=
  (if a0 = 99 then some 1 else (if a0 = 100 then some 2 else (if a0 = 102 then some 4 else (if a0 = 112 then some 3 else (if a0 = 116 then some 0 else (if a0 = 119 then some 5 else some (-9)))))))
def f_X8_readsKind  (S : St) : Option (Int32 × St) :=
  (f_X8_here S).bind fun v1 => (f_X8_kindBy v1).bind fun v2 => (if 0 ≤ ((up S 82 0 v2).1 82 0) then (if ((up (up S 82 0 v2) 74 10 (((up S 82 0 v2).1 74 10) + 1)).1 82 0) < 0 then some (0, (up (up S 82 0 v2) 74 10 (((up S 82 0 v2).1 74 10) + 1))) else some (1, (up (up S 82 0 v2) 74 10 (((up S 82 0 v2).1 74 10) + 1)))) else (if ((up (up S 82 0 v2) 74 10 (((up S 82 0 v2).1 74 10) + 0)).1 82 0) < 0 then some (0, (up (up S 82 0 v2) 74 10 (((up S 82 0 v2).1 74 10) + 0))) else some (1, (up (up S 82 0 v2) 74 10 (((up S 82 0 v2).1 74 10) + 0)))))
def f_X8_readsStatement  (S : St) : Option (Int32 × St) :=
  (f_X8_here S).bind fun v1 => (if v1 = 100 then (f_X8_readsNumber 0 2 (up S 74 10 ((S.1 74 10) + 1))).bind fun z3 => (if z3.1 = 0 then some (0, z3.2) else (f_X8_here z3.2).bind fun v5 => (if v5 = 59 then some (1, (up z3.2 74 10 ((z3.2.1 74 10) + 1))) else some (0, z3.2))) else (if v1 = 103 then (f_X8_readsNumber 0 1 (up S 74 10 ((S.1 74 10) + 1))).bind fun z8 => (if z8.1 = 0 then some (0, (up z8.2 82 2 (z8.2.1 82 1))) else (f_X8_readsNumber 1 2 z8.2).bind fun z11 => (if z11.1 = 0 then some (0, (up z11.2 82 2 (z11.2.1 82 1))) else (f_X8_readsNumber 3 2 z11.2).bind fun z14 => (if z14.1 = 0 then some (0, (up z14.2 82 2 (z14.2.1 82 1))) else (f_X8_here (up z14.2 82 2 (z14.2.1 82 1))).bind fun v18 => (if v18 = 59 then some (1, (up (up z14.2 82 2 (z14.2.1 82 1)) 74 10 (((up z14.2 82 2 (z14.2.1 82 1)).1 74 10) + 1))) else some (0, (up z14.2 82 2 (z14.2.1 82 1))))))) else (if v1 = 104 then (f_X8_readsNumber 0 1 (up S 74 10 ((S.1 74 10) + 1))).bind fun z21 => (if z21.1 = 0 then some (0, z21.2) else (f_X8_readsNumber 1 1 z21.2).bind fun z24 => (if z24.1 = 0 then some (0, z24.2) else (f_X8_here z24.2).bind fun v28 => (if v28 = 59 then some (1, (up z24.2 74 10 ((z24.2.1 74 10) + 1))) else some (0, z24.2)))) else (if v1 = 115 then (f_X8_readsNumber 0 1 (up S 74 10 ((S.1 74 10) + 1))).bind fun z31 => (if z31.1 = 0 then some (0, z31.2) else (f_X8_readsNumber 1 2 z31.2).bind fun z34 => (if z34.1 = 0 then some (0, z34.2) else (f_X8_readsNumber 2 1 z34.2).bind fun z37 => (if z37.1 = 0 then some (0, z37.2) else (f_X8_here z37.2).bind fun v41 => (if v41 = 59 then some (1, (up z37.2 74 10 ((z37.2.1 74 10) + 1))) else some (0, z37.2))))) else (if v1 = 116 then (f_X8_readsKind (up S 74 10 ((S.1 74 10) + 1))).bind fun z44 => (if z44.1 = 0 then some (0, z44.2) else (f_X8_readsNumber 1 1 z44.2).bind fun z47 => (if z47.1 = 0 then some (0, z47.2) else (f_X8_here z47.2).bind fun v51 => (if v51 = 59 then some (1, (up z47.2 74 10 ((z47.2.1 74 10) + 1))) else some (0, z47.2)))) else (if v1 = 118 then (f_X8_readsNumber 0 1 (up S 74 10 ((S.1 74 10) + 1))).bind fun z54 => (if z54.1 = 0 then some (0, z54.2) else (f_X8_readsNumber 1 2 z54.2).bind fun z57 => (if z57.1 = 0 then some (0, z57.2) else (f_X8_readsNumber 2 2 z57.2).bind fun z60 => (if z60.1 = 0 then some (0, z60.2) else (f_X8_readsNumber 3 2 z60.2).bind fun z63 => (if z63.1 = 0 then some (0, z63.2) else (f_X8_here z63.2).bind fun v67 => (if v67 = 59 then some (1, (up z63.2 74 10 ((z63.2.1 74 10) + 1))) else some (0, z63.2)))))) else (if v1 = 121 then (f_X8_readsNumber 0 2 (up S 74 10 ((S.1 74 10) + 1))).bind fun z70 => (if z70.1 = 0 then some (0, z70.2) else (f_X8_here z70.2).bind fun v72 => (if v72 = 59 then some (1, (up z70.2 74 10 ((z70.2.1 74 10) + 1))) else some (0, z70.2))) else some (0, (up (up S 74 10 ((S.1 74 10) + 1)) 74 10 (((up S 74 10 ((S.1 74 10) + 1)).1 74 10) - 1))))))))))
def f_X8_turnsHalves (a1 : Int32) (a2 : Int32) (S : St) : Option St :=
  (if (124 + a1) < 0 ∨ 132 ≤ (124 + a1).toNatClampNeg then none else (if (124 + a1) < 0 ∨ 132 ≤ (124 + a1).toNatClampNeg then none else (if (124 + a2) < 0 ∨ 132 ≤ (124 + a2).toNatClampNeg then none else (if (124 + a2) < 0 ∨ 132 ≤ (124 + a2).toNatClampNeg then none else some (up (up S 75 (124 + a1).toNatClampNeg ((S.1 75 (124 + a1).toNatClampNeg) ^^^ (1 <<< (a2 &&& 31)))) 75 (124 + a2).toNatClampNeg (((up S 75 (124 + a1).toNatClampNeg ((S.1 75 (124 + a1).toNatClampNeg) ^^^ (1 <<< (a2 &&& 31)))).1 75 (124 + a2).toNatClampNeg) ^^^ (1 <<< (a1 &&& 31))))))))
def f_X8_canGlue (a1 : Int32) (S : St) : Option Int32 :=
  (if (20 + a1) < 0 ∨ 132 ≤ (20 + a1).toNatClampNeg then none else (if 0 ≤ (S.1 75 (20 + a1).toNatClampNeg) then some 0 else (f_X8_cost 75 a1 S).bind fun v3 => (if (S.1 75 2) < v3 then some 0 else some 1)))
def f_X8_gluesTo (a1 : Int32) (a2 : Int32) (a3 : Int32) (S : St) : Option (Int32 × St) :=
  (f_X8_yearOf 75 a1 a2 a3 S).bind fun v1 => (if (20 + a1) < 0 ∨ 132 ≤ (20 + a1).toNatClampNeg then none else (f_X8_cost 75 a1 (up S 75 (20 + a1).toNatClampNeg v1)).bind fun v3 => (if (20 + a1) < 0 ∨ 132 ≤ (20 + a1).toNatClampNeg then none else some ((up (up S 75 (20 + a1).toNatClampNeg v1) 75 2 (((up S 75 (20 + a1).toNatClampNeg v1).1 75 2) - v3)).1 75 (20 + a1).toNatClampNeg, (up (up S 75 (20 + a1).toNatClampNeg v1) 75 2 (((up S 75 (20 + a1).toNatClampNeg v1).1 75 2) - v3)))))
def f_X8_isDone_L225 (n : Nat) (x2 : Int32) (x4 : Int32) (S : St) (k259 : St → Option (Int32 × St)) : Option (Int32 × St) :=
  match n with
  | 0 => none
  | n + 1 => (if (S.1 82 2) < x4 then k259 S else (f_X8_at x2 x4).bind fun v9 => (if v9 < 0 ∨ 132 ≤ v9.toNatClampNeg then none else f_X8_isDone_L225 n x2 (x4 + 1) (up S 75 v9.toNatClampNeg (S.1 82 3)) k259))
def f_X8_isDone_L133 (n : Nat) (x4 : Int32) (S : St) (k163 : St → Option (Int32 × St)) : Option (Int32 × St) :=
  match n with
  | 0 => none
  | n + 1 => (if 12 ≤ x4 then k163 S else (f_X8_at (S.1 75 0) x4).bind fun v25 => (if v25 < 0 ∨ 132 ≤ v25.toNatClampNeg then none else f_X8_isDone_L133 n (x4 + 1) (up S 75 v25.toNatClampNeg 0) k163))
def f_X8_isDone (a1 : Int32) (S : St) : Option (Int32 × St) :=
  (if a1 = 100 then some (1, (up S 75 2 (S.1 82 0))) else (if a1 = 103 then (f_X8_isThing (S.1 82 0) S).bind fun v3 => (if v3 = 0 then some (0, S) else (if (S.1 82 2) < (S.1 82 1) then some (0, S) else (f_X8_isYear (S.1 82 2)).bind fun v6 => (if v6 = 0 then some (0, S) else f_X8_isDone_L225 2000 (S.1 82 0) (S.1 82 1) S (fun (S11 : St) => some (1, S11))))) else (if a1 = 104 then (f_X8_isThing (S.1 82 0) S).bind fun v13 => (if v13 = 0 then some (0, S) else (f_X8_isThing (S.1 82 1) S).bind fun v15 => (if v15 = 0 then some (0, S) else (if (S.1 82 0) = (S.1 82 1) then some (0, S) else (f_X8_turnsHalves (S.1 82 0) (S.1 82 1) S).bind fun S18 => some (1, S18)))) else (if a1 = 116 then (if (S.1 75 0) = 8 then some (0, S) else (if (4 + (S.1 75 0)) < 0 ∨ 132 ≤ (4 + (S.1 75 0)).toNatClampNeg then none else (if (12 + ((up S 75 (4 + (S.1 75 0)).toNatClampNeg (S.1 82 0)).1 75 0)) < 0 ∨ 132 ≤ (12 + ((up S 75 (4 + (S.1 75 0)).toNatClampNeg (S.1 82 0)).1 75 0)).toNatClampNeg then none else (if (20 + ((up (up S 75 (4 + (S.1 75 0)).toNatClampNeg (S.1 82 0)) 75 (12 + ((up S 75 (4 + (S.1 75 0)).toNatClampNeg (S.1 82 0)).1 75 0)).toNatClampNeg (S.1 82 1)).1 75 0)) < 0 ∨ 132 ≤ (20 + ((up (up S 75 (4 + (S.1 75 0)).toNatClampNeg (S.1 82 0)) 75 (12 + ((up S 75 (4 + (S.1 75 0)).toNatClampNeg (S.1 82 0)).1 75 0)).toNatClampNeg (S.1 82 1)).1 75 0)).toNatClampNeg then none else f_X8_isDone_L133 2000 0 (up (up (up S 75 (4 + (S.1 75 0)).toNatClampNeg (S.1 82 0)) 75 (12 + ((up S 75 (4 + (S.1 75 0)).toNatClampNeg (S.1 82 0)).1 75 0)).toNatClampNeg (S.1 82 1)) 75 (20 + ((up (up S 75 (4 + (S.1 75 0)).toNatClampNeg (S.1 82 0)) 75 (12 + ((up S 75 (4 + (S.1 75 0)).toNatClampNeg (S.1 82 0)).1 75 0)).toNatClampNeg (S.1 82 1)).1 75 0)).toNatClampNeg (-9)) (fun (S27 : St) => (if (124 + (S27.1 75 0)) < 0 ∨ 132 ≤ (124 + (S27.1 75 0)).toNatClampNeg then none else some (1, (up (up S27 75 (124 + (S27.1 75 0)).toNatClampNeg 0) 75 0 (((up S27 75 (124 + (S27.1 75 0)).toNatClampNeg 0).1 75 0) + 1))))))))) else (if a1 = 118 then (f_X8_isThing (S.1 82 0) S).bind fun v30 => (if v30 = 0 then some (0, S) else (if (S.1 82 2) < (S.1 82 1) then some (0, S) else (f_X8_isYear (S.1 82 2)).bind fun v33 => (if v33 = 0 then some (0, S) else f_X8_isDone_L225 2000 (S.1 82 0) (S.1 82 1) S (fun (S35 : St) => some (1, S35))))) else (if a1 = 121 then (f_X8_isYear (S.1 82 0)).bind fun v37 => some (v37, (up S 75 1 (S.1 82 0))) else (f_X8_isThing (S.1 82 0) S).bind fun v38 => (if v38 = 0 then some (0, S) else (f_X8_canGlue (S.1 82 0) S).bind fun v40 => (if v40 = 0 then some (0, S) else (f_X8_gluesTo (S.1 82 0) (S.1 82 1) (S.1 82 2) S).bind fun z42 => some (1, z42.2)))))))))
def f_X8_shop_L10 (n : Nat) (x1 : Int32) (x2 : Int32) (S : St) (k46 : Int32 → Int32 → St → Option (Int32 × St)) : Option (Int32 × St) :=
  match n with
  | 0 => none
  | n + 1 => (f_X8_readsStatement S).bind fun z1 => (if z1.1 = 0 then (if ((-1000) - (z1.2.1 74 10)) = (-9) then (if (z1.2.1 74 10) < (z1.2.1 74 8) then f_X8_shop_L10 n (x1 + 1) ((-1000) - (z1.2.1 74 10)) z1.2 k46 else k46 (x1 + 1) ((-1000) - (z1.2.1 74 10)) z1.2) else k46 (x1 + 1) ((-1000) - (z1.2.1 74 10)) z1.2) else (if x2 = (-9) then (if (z1.2.1 74 10) < (z1.2.1 74 8) then f_X8_shop_L10 n (x1 + 1) x2 z1.2 k46 else k46 (x1 + 1) x2 z1.2) else k46 (x1 + 1) x2 z1.2))
def f_X8_shop_L62 (n : Nat) (x1 : Int32) (x2 : Int32) (S : St) (k128 : Int32 → St → Option (Int32 × St)) : Option (Int32 × St) :=
  match n with
  | 0 => none
  | n + 1 => (if x2 = (-9) then (if (S.1 74 8) ≤ (S.1 74 10) then k128 x2 S else (f_X8_here S).bind fun v13 => (f_X8_readsStatement S).bind fun z14 => (f_X8_isDone v13 z14.2).bind fun z15 => (if z15.1 = 0 then (f_X8_lays 78 75 z15.2).bind fun S17 => f_X8_shop_L62 n x1 ((-2000) - (S.1 74 10)) S17 k128 else f_X8_shop_L62 n x1 x2 z15.2 k128)) else k128 x2 S)
def f_X8_shop  (S : St) : Option (Int32 × St) :=
  f_X8_shop_L10 2000 0 (-9) (up S 74 10 0) (fun (y7 : Int32) (y8 : Int32) (S9 : St) => (f_X8_lays 75 78 S9).bind fun S10 => f_X8_shop_L62 2000 y7 y8 (up S10 74 10 0) (fun (y18 : Int32) (S19 : St) => (if y18 = (-9) then some (y7, (up S19 74 8 0)) else some (y18, (up S19 74 8 0)))))
def f_X8_thing (a1 : Int32) (a2 : Int32) (S : St) : Option (Int32 × St) :=
  (f_X8_isThing a1 S).bind fun v1 => (if v1 = 0 then (f_X8_no (-1) S).bind fun z14 => some (z14.1, z14.2) else (if a2 = 0 then (if (4 + a1) < 0 ∨ 132 ≤ (4 + a1).toNatClampNeg then none else some (S.1 75 (4 + a1).toNatClampNeg, S)) else (if a2 = 1 then (if (12 + a1) < 0 ∨ 132 ≤ (12 + a1).toNatClampNeg then none else some (S.1 75 (12 + a1).toNatClampNeg, S)) else (if a2 = 2 then (if (20 + a1) < 0 ∨ 132 ≤ (20 + a1).toNatClampNeg then none else some (S.1 75 (20 + a1).toNatClampNeg, S)) else (if a2 = 3 then (f_X8_gladOf 75 a1 S).bind fun v10 => some (v10, S) else (if a2 = 4 then (f_X8_cost 75 a1 S).bind fun v12 => some (v12, S) else (f_X8_no (-2) S).bind fun z13 => some (z13.1, z13.2)))))))
def f_X8_glad (a1 : Int32) (a2 : Int32) (S : St) : Option (Int32 × St) :=
  (f_X8_isThing a1 S).bind fun v1 => (if v1 = 0 then (f_X8_no (-1) S).bind fun z3 => some (z3.1, z3.2) else (f_X8_isYear a2).bind fun v4 => (if v4 = 0 then (f_X8_no (-1) S).bind fun z6 => some (z6.1, z6.2) else (f_X8_at a1 a2).bind fun v7 => (if v7 < 0 ∨ 132 ≤ v7.toNatClampNeg then none else some (S.1 75 v7.toNatClampNeg, S))))
def f_X8_areTwo (a1 : Int32) (a2 : Int32) (S : St) : Option Int32 :=
  (f_X8_isThing a1 S).bind fun v1 => (if v1 = 0 then some 0 else (f_X8_isThing a2 S).bind fun v3 => (if v3 = 0 then some 0 else (if a1 = a2 then some 0 else some 1)))
def f_X8_halves (a1 : Int32) (a2 : Int32) (S : St) : Option (Int32 × St) :=
  (f_X8_areTwo a1 a2 S).bind fun v1 => (if v1 = 0 then (f_X8_no (-1) S).bind fun z3 => some (z3.1, z3.2) else (if (124 + a1) < 0 ∨ 132 ≤ (124 + a1).toNatClampNeg then none else some (((S.1 75 (124 + a1).toNatClampNeg) >>> (a2 &&& 31)) &&& 1, S)))
def f_X8_turn (a1 : Int32) (a2 : Int32) (a3 : Int32) (S : St) : Option (Int32 × St) :=
  (f_X8_isThing a1 S).bind fun v1 => (if v1 = 0 then (f_X8_no (-1) S).bind fun z14 => some (z14.1, z14.2) else (f_X8_isIn a2 0 5).bind fun v3 => (if v3 = 0 then (f_X8_no (-2) S).bind fun z13 => some (z13.1, z13.2) else (if 0 ≤ a3 then (if a3 ≤ 9 then (if (4 + a1) < 0 ∨ 132 ≤ (4 + a1).toNatClampNeg then none else (if (12 + a1) < 0 ∨ 132 ≤ (12 + a1).toNatClampNeg then none else (if (4 + a1) < 0 ∨ 132 ≤ (4 + a1).toNatClampNeg then none else (if (12 + a1) < 0 ∨ 132 ≤ (12 + a1).toNatClampNeg then none else some ((10 * (S.1 75 (4 + a1).toNatClampNeg)) + (S.1 75 (12 + a1).toNatClampNeg), (up (up S 75 (4 + a1).toNatClampNeg a2) 75 (12 + a1).toNatClampNeg a3)))))) else (f_X8_no (-6) S).bind fun z11 => some (z11.1, z11.2)) else (f_X8_no (-4) S).bind fun z12 => some (z12.1, z12.2))))
def f_X8_makes (a1 : Int32) (a2 : Int32) (a3 : Int32) (S : St) : Option (Int32 × St) :=
  (f_X8_isThing a1 S).bind fun v1 => (if v1 = 0 then (f_X8_no (-1) S).bind fun z3 => some (z3.1, z3.2) else (f_X8_isYear a2).bind fun v4 => (if v4 = 0 then (f_X8_no (-1) S).bind fun z14 => some (z14.1, z14.2) else (if 0 ≤ a3 then (if a3 ≤ 99 then (f_X8_at a1 a2).bind fun v8 => (if v8 < 0 ∨ 132 ≤ v8.toNatClampNeg then none else (f_X8_at a1 a2).bind fun v10 => (if v10 < 0 ∨ 132 ≤ v10.toNatClampNeg then none else some (S.1 75 v8.toNatClampNeg, (up S 75 v10.toNatClampNeg a3)))) else (f_X8_no (-6) S).bind fun z12 => some (z12.1, z12.2)) else (f_X8_no (-4) S).bind fun z13 => some (z13.1, z13.2))))
def f_X8_pairs (a1 : Int32) (a2 : Int32) (S : St) : Option (Int32 × St) :=
  (f_X8_areTwo a1 a2 S).bind fun v1 => (if v1 = 0 then (f_X8_no (-1) S).bind fun z5 => some (z5.1, z5.2) else (f_X8_turnsHalves a1 a2 S).bind fun S3 => (if (124 + a1) < 0 ∨ 132 ≤ (124 + a1).toNatClampNeg then none else some (((S3.1 75 (124 + a1).toNatClampNeg) >>> (a2 &&& 31)) &&& 1, S3)))
def f_X8_now (a1 : Int32) (S : St) : Option (Int32 × St) :=
  (f_X8_isYear a1).bind fun v1 => (if v1 = 0 then (f_X8_no (-1) S).bind fun z3 => some (z3.1, z3.2) else some (S.1 75 1, (up S 75 1 a1)))
def f_X8_hands (a1 : Int32) (S : St) : Option (Int32 × St) :=
  (if 1 ≤ a1 then (if a1 ≤ 4 then some (S.1 75 3, (up S 75 3 a1)) else (f_X8_no (-6) S).bind fun z3 => some (z3.1, z3.2)) else (f_X8_no (-4) S).bind fun z4 => some (z4.1, z4.2))
def f_X8_pours (a1 : Int32) (S : St) : Option (Int32 × St) :=
  (if 0 ≤ a1 then (if a1 ≤ 99 then some (S.1 75 2, (up S 75 2 a1)) else (f_X8_no (-6) S).bind fun z3 => some (z3.1, z3.2)) else (f_X8_no (-4) S).bind fun z4 => some (z4.1, z4.2))
def f_X8_wrongGlue (a1 : Int32) (a2 : Int32) (a3 : Int32) (S : St) : Option Int32 :=
  (f_X8_isThing a1 S).bind fun v1 => (if v1 = 0 then some (-1) else (if a2 < 0 then some (-4) else (if 0 ≤ a3 then (if 99 < a2 then some (-6) else (if a3 ≤ 9 then some 0 else some (-6))) else some (-4))))
def f_X8_glues (a1 : Int32) (a2 : Int32) (a3 : Int32) (S : St) : Option (Int32 × St) :=
  (f_X8_wrongGlue a1 a2 a3 S).bind fun v1 => (if v1 = 0 then (f_X8_canGlue a1 S).bind fun v6 => (if v6 = 0 then (f_X8_no (-3) S).bind fun z12 => some (z12.1, z12.2) else (if v1 = 0 then (f_X8_gluesTo a1 a2 a3 S).bind fun z9 => some (z9.1, z9.2) else (f_X8_no v1 S).bind fun z10 => some (z10.1, z10.2))) else (if v1 = 0 then (f_X8_gluesTo a1 a2 a3 S).bind fun z4 => some (z4.1, z4.2) else (f_X8_no v1 S).bind fun z5 => some (z5.1, z5.2)))
def f_X8_washes (a1 : Int32) (S : St) : Option (Int32 × St) :=
  (f_X8_isThing a1 S).bind fun v1 => (if v1 = 0 then (f_X8_no (-1) S).bind fun z7 => some (z7.1, z7.2) else (if (20 + a1) < 0 ∨ 132 ≤ (20 + a1).toNatClampNeg then none else (if 0 ≤ (S.1 75 (20 + a1).toNatClampNeg) then (if (20 + a1) < 0 ∨ 132 ≤ (20 + a1).toNatClampNeg then none else some (S.1 75 (20 + a1).toNatClampNeg, (up S 75 (20 + a1).toNatClampNeg (-9)))) else (f_X8_no (-3) S).bind fun z6 => some (z6.1, z6.2))))
def f_X8_would (a1 : Int32) (a2 : Int32) (a3 : Int32) (a4 : Int32) (S : St) : Option (Int32 × St) :=
  (f_X8_wrongGlue a1 a2 a3 S).bind fun v1 => (if v1 = 0 then (f_X8_isIn a4 0 2).bind fun v11 => (if v11 = 0 then (f_X8_no (-2) S).bind fun z22 => some (z22.1, z22.2) else (if v1 = 0 then (f_X8_yearOf 75 a1 a2 a3 S).bind fun v14 => (if a4 = 0 then some (v14, S) else (if a4 = 1 then (f_X8_reach 75 a1 a2 a3 S).bind fun v19 => some (v19, S) else (f_X8_at a1 v14).bind fun v17 => (if v17 < 0 ∨ 132 ≤ v17.toNatClampNeg then none else some (S.1 75 v17.toNatClampNeg, S)))) else (f_X8_no v1 S).bind fun z20 => some (z20.1, z20.2))) else (if v1 = 0 then (f_X8_yearOf 75 a1 a2 a3 S).bind fun v4 => (if a4 = 0 then some (v4, S) else (if a4 = 1 then (f_X8_reach 75 a1 a2 a3 S).bind fun v9 => some (v9, S) else (f_X8_at a1 v4).bind fun v7 => (if v7 < 0 ∨ 132 ≤ v7.toNatClampNeg then none else some (S.1 75 v7.toNatClampNeg, S)))) else (f_X8_no v1 S).bind fun z10 => some (z10.1, z10.2)))
def f_X8_canOf_L4 (n : Nat) (q0 : Nat) (x1 : Int32) (x2 : Int32) (x3 : Int32) (S : St) (k28 : Int32 → Option Int32) : Option Int32 :=
  match n with
  | 0 => none
  | n + 1 => (if 99 < x3 then k28 x2 else (f_X8_yearOf q0 x1 x3 0 S).bind fun v2 => f_X8_canOf_L4 n q0 x1 (x2 ||| (1 <<< (v2 &&& 31))) (x3 + 5) S k28)
def f_X8_canOf (q0 : Nat) (a1 : Int32) (S : St) : Option Int32 :=
  f_X8_canOf_L4 2000 q0 a1 0 0 S (fun (y3 : Int32) => some y3)
def f_X8_can (a1 : Int32) (S : St) : Option (Int32 × St) :=
  (f_X8_isThing a1 S).bind fun v1 => (if v1 = 0 then (f_X8_no (-1) S).bind fun z3 => some (z3.1, z3.2) else (f_X8_canOf 75 a1 S).bind fun v4 => some (v4, S))
def f_X8_fewest (a1 : Int32) (a2 : Int32) (S : St) : Option (Int32 × St) :=
  (f_X8_isThing a1 S).bind fun v1 => (if v1 = 0 then (f_X8_no (-1) S).bind fun z3 => some (z3.1, z3.2) else (f_X8_isYear a2).bind fun v4 => (if v4 = 0 then (f_X8_no (-1) S).bind fun z6 => some (z6.1, z6.2) else (f_X8_fewestOf 75 a1 a2 S).bind fun v7 => some (v7, S)))
def f_X8_gladness  (S : St) : Option Int32 :=
  (f_X8_gladAll 75 S).bind fun v1 => some v1
def f_X8_doAgree (q1 : Nat) (a2 : Int32) (a3 : Int32) (S : St) : Option Int32 :=
  (if (20 + a2) < 0 ∨ 132 ≤ (20 + a2).toNatClampNeg then none else (if (S.1 q1 (20 + a2).toNatClampNeg) < 0 then some 0 else (if (20 + a2) < 0 ∨ 132 ≤ (20 + a2).toNatClampNeg then none else (if (20 + a3) < 0 ∨ 132 ≤ (20 + a3).toNatClampNeg then none else (if (S.1 q1 (20 + a2).toNatClampNeg) = (S.1 q1 (20 + a3).toNatClampNeg) then some 1 else some 0)))))
def f_X8_agreeMany_L16 (n : Nat) (q1 : Nat) (x2 : Int32) (x3 : Int32) (x4 : Int32) (S : St) (k64 : Int32 → Option Int32) : Option Int32 :=
  match n with
  | 0 => none
  | n + 1 => (if (S.1 q1 0) ≤ x4 then k64 x2 else (if (124 + x3) < 0 ∨ 132 ≤ (124 + x3).toNatClampNeg then none else (if (((S.1 q1 (124 + x3).toNatClampNeg) >>> (x4 &&& 31)) &&& 1) = 1 then (f_X8_doAgree q1 x3 x4 S).bind fun v5 => (if v5 = 0 then f_X8_agreeMany_L16 n q1 (x2 + 0) x3 (x4 + 1) S k64 else f_X8_agreeMany_L16 n q1 (x2 + 1) x3 (x4 + 1) S k64) else f_X8_agreeMany_L16 n q1 (x2 + 0) x3 (x4 + 1) S k64)))
def f_X8_agreeMany_L4 (n : Nat) (q1 : Nat) (x2 : Int32) (x3 : Int32) (S : St) (k70 : Int32 → Option Int32) : Option Int32 :=
  match n with
  | 0 => none
  | n + 1 => (if (S.1 q1 0) ≤ x3 then k70 x2 else f_X8_agreeMany_L16 2000 q1 x2 x3 (x3 + 1) S (fun (y7 : Int32) => f_X8_agreeMany_L4 n q1 y7 (x3 + 1) S k70))
def f_X8_agreeMany (q1 : Nat) (S : St) : Option Int32 :=
  f_X8_agreeMany_L4 2000 q1 0 0 S (fun (y8 : Int32) => some y8)
def f_X8_agree_L45 (n : Nat) (x2 : Int32) (x3 : Int32) (S : St) (k85 : Int32 → Option (Int32 × St)) (k98 : Unit → Option (Int32 × St)) : Option (Int32 × St) :=
  match n with
  | 0 => none
  | n + 1 => (if (S.1 75 0) ≤ x3 then k98 () else (if (124 + x2) < 0 ∨ 132 ≤ (124 + x2).toNatClampNeg then none else (if (((S.1 75 (124 + x2).toNatClampNeg) >>> (x3 &&& 31)) &&& 1) = 1 then (f_X8_doAgree 75 x2 x3 S).bind fun v8 => (if v8 = 0 then k85 x3 else f_X8_agree_L45 n x2 (x3 + 1) S k85 k98) else f_X8_agree_L45 n x2 (x3 + 1) S k85 k98)))
def f_X8_agree_L31 (n : Nat) (x2 : Int32) (S : St) (k85 : Int32 → Int32 → Option (Int32 × St)) (k104 : Unit → Option (Int32 × St)) : Option (Int32 × St) :=
  match n with
  | 0 => none
  | n + 1 => (if (S.1 75 0) ≤ x2 then k104 () else f_X8_agree_L45 2000 x2 (x2 + 1) S (fun (y10 : Int32) => k85 x2 y10) (fun _ : Unit => f_X8_agree_L31 n (x2 + 1) S k85 k104))
def f_X8_agree (a1 : Int32) (S : St) : Option (Int32 × St) :=
  (f_X8_isIn a1 0 1).bind fun v1 => (if v1 = 0 then (f_X8_no (-2) S).bind fun z14 => some (z14.1, z14.2) else (if a1 = 0 then (f_X8_agreeMany 75 S).bind fun v13 => some (v13, S) else f_X8_agree_L31 2000 0 S (fun (y11 : Int32) (y12 : Int32) => some ((10 * y11) + y12, S)) (fun _ : Unit => some ((-9), S))))
def f_X8_mostBy_L104 (n : Nat) (q1 : Nat) (x2 : Int32) (x3 : Int32) (x4 : Int32) (x5 : Int32) (x6 : Int32) (x7 : Int32) (x8 : Int32) (x9 : Int32) (x10 : Int32) (x11 : Int32) (S : St) (k149 : Int32 → Option (Int32 × St)) : Option (Int32 × St) :=
  match n with
  | 0 => none
  | n + 1 => (if 12 ≤ x11 then k149 x10 else (if ((x9 >>> (x11 &&& 31)) &&& 1) = 1 then (f_X8_at x8 x11).bind fun v10 => (if v10 < 0 ∨ 132 ≤ v10.toNatClampNeg then none else (f_X8_most x10 (S.1 q1 v10.toNatClampNeg)).bind fun v12 => f_X8_mostBy_L104 n q1 x2 x3 x4 x5 x6 x7 x8 x9 v12 (x11 + 1) S k149) else f_X8_mostBy_L104 n q1 x2 x3 x4 x5 x6 x7 x8 x9 x10 (x11 + 1) S k149))
def f_X8_mostBy_L27 (n : Nat) (q1 : Nat) (x2 : Int32) (x3 : Int32) (x4 : Int32) (x5 : Int32) (x6 : Int32) (x7 : Int32) (x8 : Int32) (S : St) (k162 : Int32 → Int32 → Int32 → Option (Int32 × St)) : Option (Int32 × St) :=
  match n with
  | 0 => none
  | n + 1 => (if (S.1 q1 0) ≤ x8 then k162 x5 x6 x7 else (if ((x4 >>> (x8 &&& 31)) &&& 1) = 0 then (f_X8_gladOf q1 x8 S).bind fun v17 => f_X8_mostBy_L27 n q1 x2 x3 x4 x5 (x6 + v17) x7 (x8 + 1) S k162 else (if (20 + x8) < 0 ∨ 132 ≤ (20 + x8).toNatClampNeg then none else (if 0 ≤ (S.1 q1 (20 + x8).toNatClampNeg) then (f_X8_cost q1 x8 S).bind fun v6 => (f_X8_canOf q1 x8 S).bind fun v7 => f_X8_mostBy_L104 2000 q1 x2 x3 x4 (x5 - v6) x6 (x7 &&& 0) x8 v7 0 0 S (fun (y13 : Int32) => f_X8_mostBy_L27 n q1 x2 x3 x4 (x5 - v6) (x6 + y13) (x7 &&& 0) (x8 + 1) S k162) else (f_X8_cost q1 x8 S).bind fun v14 => (f_X8_canOf q1 x8 S).bind fun v15 => f_X8_mostBy_L104 2000 q1 x2 x3 x4 (x5 - v14) x6 (x7 &&& 1) x8 v15 0 0 S (fun (y16 : Int32) => f_X8_mostBy_L27 n q1 x2 x3 x4 (x5 - v14) (x6 + y16) (x7 &&& 1) (x8 + 1) S k162)))))
def f_X8_mostBy_L5 (n : Nat) (q1 : Nat) (x2 : Int32) (x3 : Int32) (x4 : Int32) (S : St) (k196 : Int32 → St → Option (Int32 × St)) : Option (Int32 × St) :=
  match n with
  | 0 => none
  | n + 1 => (if (1 <<< ((S.1 q1 0) &&& 31)) ≤ x4 then k196 x3 S else f_X8_mostBy_L27 2000 q1 x2 x3 x4 x2 0 1 0 S (fun (y18 : Int32) (y19 : Int32) (y20 : Int32) => (if y20 = 0 then f_X8_mostBy_L5 n q1 x2 x3 (x4 + 1) S k196 else (if y18 < 0 then f_X8_mostBy_L5 n q1 x2 x3 (x4 + 1) S k196 else (if x3 < y19 then f_X8_mostBy_L5 n q1 x2 y19 (x4 + 1) (up S 74 12 x4) k196 else f_X8_mostBy_L5 n q1 x2 x3 (x4 + 1) S k196)))))
def f_X8_mostBy (q1 : Nat) (a2 : Int32) (S : St) : Option (Int32 × St) :=
  f_X8_mostBy_L5 2000 q1 a2 (-1) 0 S (fun (y24 : Int32) (S25 : St) => some (y24, S25))
def f_X8_most_ (a1 : Int32) (S : St) : Option (Int32 × St) :=
  (f_X8_isIn a1 0 1).bind fun v1 => (if v1 = 0 then (f_X8_no (-2) S).bind fun z5 => some (z5.1, z5.2) else (f_X8_mostBy 75 (S.1 75 2) S).bind fun z3 => (if a1 = 0 then some (z3.1, z3.2) else some (z3.2.1 74 12, z3.2)))
def f_X8_byMinutes_L26 (n : Nat) (x1 : Int32) (x2 : Int32) (S : St) (k44 : St → Option (Int32 × St)) : Option (Int32 × St) :=
  match n with
  | 0 => none
  | n + 1 => (if x1 < x2 then k44 S else (if x2 < 0 ∨ 100 ≤ x2.toNatClampNeg then none else f_X8_byMinutes_L26 n x1 (x2 + 1) (up S 83 x2.toNatClampNeg 0) k44))
def f_X8_byMinutes_L87 (n : Nat) (x1 : Int32) (x2 : Int32) (x3 : Int32) (x4 : Int32) (S : St) (k156 : St → Option (Int32 × St)) : Option (Int32 × St) :=
  match n with
  | 0 => none
  | n + 1 => (if x3 < x4 then k156 S else (if (20 + x2) < 0 ∨ 132 ≤ (20 + x2).toNatClampNeg then none else (if 0 ≤ (S.1 75 (20 + x2).toNatClampNeg) then k156 S else (if x3 < 0 ∨ 100 ≤ x3.toNatClampNeg then none else (if (x3 - x4) < 0 ∨ 100 ≤ (x3 - x4).toNatClampNeg then none else (f_X8_yearOf 75 x2 x4 0 S).bind fun v16 => (f_X8_at x2 v16).bind fun v17 => (if v17 < 0 ∨ 132 ≤ v17.toNatClampNeg then none else (f_X8_most (S.1 84 x3.toNatClampNeg) ((S.1 83 (x3 - x4).toNatClampNeg) + (S.1 75 v17.toNatClampNeg))).bind fun v19 => (if x3 < 0 ∨ 100 ≤ x3.toNatClampNeg then none else f_X8_byMinutes_L87 n x1 x2 x3 (x4 + 1) (up S 84 x3.toNatClampNeg v19) k156)))))))
def f_X8_byMinutes_L58 (n : Nat) (x1 : Int32) (x2 : Int32) (x3 : Int32) (S : St) (k162 : St → Option (Int32 × St)) : Option (Int32 × St) :=
  match n with
  | 0 => none
  | n + 1 => (if x1 < x3 then k162 S else (if x3 < 0 ∨ 100 ≤ x3.toNatClampNeg then none else (f_X8_gladOf 75 x2 S).bind fun v9 => (if x3 < 0 ∨ 100 ≤ x3.toNatClampNeg then none else f_X8_byMinutes_L87 2000 x1 x2 x3 0 (up S 84 x3.toNatClampNeg ((S.1 83 x3.toNatClampNeg) + v9)) (fun (S21 : St) => f_X8_byMinutes_L58 n x1 x2 (x3 + 1) S21 k162))))
def f_X8_byMinutes_L164 (n : Nat) (x1 : Int32) (x2 : Int32) (x3 : Int32) (S : St) (k187 : St → Option (Int32 × St)) : Option (Int32 × St) :=
  match n with
  | 0 => none
  | n + 1 => (if x1 < x3 then k187 S else (if x3 < 0 ∨ 100 ≤ x3.toNatClampNeg then none else (if x3 < 0 ∨ 100 ≤ x3.toNatClampNeg then none else f_X8_byMinutes_L164 n x1 x2 (x3 + 1) (up S 83 x3.toNatClampNeg (S.1 84 x3.toNatClampNeg)) k187)))
def f_X8_byMinutes_L46 (n : Nat) (x1 : Int32) (x2 : Int32) (S : St) (k193 : St → Option (Int32 × St)) : Option (Int32 × St) :=
  match n with
  | 0 => none
  | n + 1 => (if (S.1 75 0) ≤ x2 then k193 S else f_X8_byMinutes_L58 2000 x1 x2 0 S (fun (S22 : St) => f_X8_byMinutes_L164 2000 x1 x2 0 S22 (fun (S26 : St) => f_X8_byMinutes_L46 n x1 (x2 + 1) S26 k193)))
def f_X8_byMinutes (a1 : Int32) (S : St) : Option (Int32 × St) :=
  (if 0 ≤ a1 then (if a1 ≤ 99 then f_X8_byMinutes_L26 2000 a1 0 S (fun (S5 : St) => f_X8_byMinutes_L46 2000 a1 0 S5 (fun (S27 : St) => (if a1 < 0 ∨ 100 ≤ a1.toNatClampNeg then none else some (S27.1 83 a1.toNatClampNeg, S27)))) else (f_X8_no (-6) S).bind fun z29 => some (z29.1, z29.2)) else (f_X8_no (-4) S).bind fun z30 => some (z30.1, z30.2))
def f_X8_fewDrops_L13 (n : Nat) (x1 : Int32) (x2 : Int32) (S : St) (k32 : Int32 → St → Option (Int32 × St)) (k40 : St → Option (Int32 × St)) : Option (Int32 × St) :=
  match n with
  | 0 => none
  | n + 1 => (if 99 < x2 then k40 S else (f_X8_mostBy 75 x2 S).bind fun z3 => (if z3.1 = x1 then k32 x2 z3.2 else f_X8_fewDrops_L13 n x1 (x2 + 1) z3.2 k32 k40))
def f_X8_fewDrops  (S : St) : Option (Int32 × St) :=
  (f_X8_mostBy 75 99 S).bind fun z1 => f_X8_fewDrops_L13 2000 z1.1 0 z1.2 (fun (y5 : Int32) (S6 : St) => some (y5, S6)) (fun (S7 : St) => some ((-9), S7))
def f_X8_together_L73 (n : Nat) (x1 : Int32) (x2 : Int32) (x3 : Int32) (x4 : Int32) (x5 : Int32) (x6 : Int32) (S : St) (k144 : Int32 → Int32 → Option (Int32 × St)) : Option (Int32 × St) :=
  match n with
  | 0 => none
  | n + 1 => (if 12 ≤ x6 then k144 x4 x5 else (f_X8_fewestOf 75 x1 x6 S).bind fun v11 => (f_X8_fewestOf 75 x2 x6 S).bind fun v12 => (if v11 < 0 then f_X8_together_L73 n x1 x2 x3 x4 x5 (x6 + 1) S k144 else (if v12 < 0 then f_X8_together_L73 n x1 x2 x3 x4 x5 (x6 + 1) S k144 else (if (v11 + v12) < x5 then f_X8_together_L73 n x1 x2 x3 x6 (v11 + v12) (x6 + 1) S k144 else f_X8_together_L73 n x1 x2 x3 x4 x5 (x6 + 1) S k144))))
def f_X8_together (a1 : Int32) (a2 : Int32) (a3 : Int32) (S : St) : Option (Int32 × St) :=
  (f_X8_areTwo a1 a2 S).bind fun v1 => (if v1 = 0 then (f_X8_no (-1) S).bind fun z22 => some (z22.1, z22.2) else (f_X8_isIn a3 0 1).bind fun v3 => (if v3 = 0 then (f_X8_no (-2) S).bind fun z21 => some (z21.1, z21.2) else (if (20 + a1) < 0 ∨ 132 ≤ (20 + a1).toNatClampNeg then none else (if 0 ≤ (S.1 75 (20 + a1).toNatClampNeg) then (f_X8_no (-3) S).bind fun z7 => some (z7.1, z7.2) else (if (20 + a2) < 0 ∨ 132 ≤ (20 + a2).toNatClampNeg then none else (if (S.1 75 (20 + a2).toNatClampNeg) < 0 then f_X8_together_L73 2000 a1 a2 a3 (-9) 1000000000 0 S (fun (y16 : Int32) (y17 : Int32) => (if y16 < 0 then some (y16, S) else (if a3 = 1 then some (y16, S) else some (y17, S)))) else (f_X8_no (-3) S).bind fun z20 => some (z20.1, z20.2)))))))
def f_X8_gladdest_L14 (n : Nat) (x1 : Int32) (x2 : Int32) (x3 : Int32) (S : St) (k49 : Int32 → Option Int32) : Option Int32 :=
  match n with
  | 0 => none
  | n + 1 => (if x3 < 0 then k49 x2 else (f_X8_at x1 x3).bind fun v2 => (if v2 < 0 ∨ 132 ≤ v2.toNatClampNeg then none else (f_X8_at x1 x2).bind fun v4 => (if v4 < 0 ∨ 132 ≤ v4.toNatClampNeg then none else (if (S.1 75 v2.toNatClampNeg) ≤ (S.1 75 v4.toNatClampNeg) then f_X8_gladdest_L14 n x1 x2 (x3 + (-1)) S k49 else f_X8_gladdest_L14 n x1 x3 (x3 + (-1)) S k49))))
def f_X8_gladdest (a1 : Int32) (S : St) : Option Int32 :=
  f_X8_gladdest_L14 2000 a1 (S.1 75 1) (S.1 75 1) S (fun (y7 : Int32) => some y7)
def f_X8_queue_L26 (n : Nat) (x1 : Int32) (x3 : Int32) (S : St) (k41 : St → Option (Int32 × St)) : Option (Int32 × St) :=
  match n with
  | 0 => none
  | n + 1 => (if 4 ≤ x3 then k41 S else (if x3 < 0 ∨ 100 ≤ x3.toNatClampNeg then none else f_X8_queue_L26 n x1 (x3 + 1) (up S 83 x3.toNatClampNeg 0) k41))
def f_X8_queue_L110 (n : Nat) (x1 : Int32) (x3 : Int32) (x4 : Int32) (x5 : Int32) (x6 : Int32) (x7 : Int32) (x8 : Int32) (S : St) (k142 : Int32 → Option (Int32 × St)) : Option (Int32 × St) :=
  match n with
  | 0 => none
  | n + 1 => (if (S.1 75 3) ≤ x8 then k142 x7 else (if x8 < 0 ∨ 100 ≤ x8.toNatClampNeg then none else (if x7 < 0 ∨ 100 ≤ x7.toNatClampNeg then none else (if (S.1 83 x7.toNatClampNeg) ≤ (S.1 83 x8.toNatClampNeg) then f_X8_queue_L110 n x1 x3 x4 x5 x6 x7 (x8 + 1) S k142 else f_X8_queue_L110 n x1 x3 x4 x5 x6 x8 (x8 + 1) S k142))))
def f_X8_queue_L50 (n : Nat) (x1 : Int32) (x3 : Int32) (x4 : Int32) (x5 : Int32) (S : St) (k178 : Int32 → Int32 → St → Option (Int32 × St)) : Option (Int32 × St) :=
  match n with
  | 0 => none
  | n + 1 => (if (S.1 75 0) ≤ x5 then k178 x3 x4 S else (if (20 + x5) < 0 ∨ 132 ≤ (20 + x5).toNatClampNeg then none else (if (S.1 75 (20 + x5).toNatClampNeg) < 0 then (f_X8_gladdest x5 S).bind fun v8 => (f_X8_fewestOf 75 x5 v8 S).bind fun v9 => (if 0 ≤ v9 then f_X8_queue_L110 2000 x1 x3 x4 x5 v9 0 1 S (fun (y15 : Int32) => (if x5 = x1 then (if y15 < 0 ∨ 100 ≤ y15.toNatClampNeg then none else (if y15 < 0 ∨ 100 ≤ y15.toNatClampNeg then none else (if y15 < 0 ∨ 100 ≤ y15.toNatClampNeg then none else (if y15 < 0 ∨ 100 ≤ y15.toNatClampNeg then none else (f_X8_most x3 ((up S 83 y15.toNatClampNeg ((S.1 83 y15.toNatClampNeg) + v9)).1 83 y15.toNatClampNeg)).bind fun v25 => f_X8_queue_L50 n x1 v25 (S.1 83 y15.toNatClampNeg) (x5 + 1) (up S 83 y15.toNatClampNeg ((S.1 83 y15.toNatClampNeg) + v9)) k178)))) else (if y15 < 0 ∨ 100 ≤ y15.toNatClampNeg then none else (if y15 < 0 ∨ 100 ≤ y15.toNatClampNeg then none else (if y15 < 0 ∨ 100 ≤ y15.toNatClampNeg then none else (f_X8_most x3 ((up S 83 y15.toNatClampNeg ((S.1 83 y15.toNatClampNeg) + v9)).1 83 y15.toNatClampNeg)).bind fun v20 => f_X8_queue_L50 n x1 v20 x4 (x5 + 1) (up S 83 y15.toNatClampNeg ((S.1 83 y15.toNatClampNeg) + v9)) k178))))) else f_X8_queue_L50 n x1 x3 x4 (x5 + 1) S k178) else f_X8_queue_L50 n x1 x3 x4 (x5 + 1) S k178)))
def f_X8_queue (a1 : Int32) (S : St) : Option (Int32 × St) :=
  (if a1 = (-1) then f_X8_queue_L26 2000 a1 0 S (fun (S4 : St) => f_X8_queue_L50 2000 a1 0 (-9) 0 S4 (fun (y27 : Int32) (y28 : Int32) (S29 : St) => (if 0 ≤ a1 then some (y28, S29) else some (y27, S29)))) else (f_X8_isThing a1 S).bind fun v31 => (if v31 = 0 then (f_X8_no (-1) S).bind fun z38 => some (z38.1, z38.2) else f_X8_queue_L26 2000 a1 0 S (fun (S33 : St) => f_X8_queue_L50 2000 a1 0 (-9) 0 S33 (fun (y34 : Int32) (y35 : Int32) (S36 : St) => (if 0 ≤ a1 then some (y35, S36) else some (y34, S36))))))
def f_X8_oneMore  (S : St) : Option (Int32 × St) :=
  (f_X8_lays 75 76 S).bind fun S1 => (f_X8_least 11 ((S1.1 75 1) + 1)).bind fun v2 => (f_X8_gladAll 76 (up S1 76 1 v2)).bind fun v3 => some (v3, (up S1 76 1 v2))
def f_X8_bestYear_L6 (n : Nat) (x1 : Int32) (x2 : Int32) (x3 : Int32) (S : St) (k66 : Int32 → St → Option (Int32 × St)) : Option (Int32 × St) :=
  match n with
  | 0 => none
  | n + 1 => (if 12 ≤ x3 then k66 x1 S else (f_X8_lays 75 76 S).bind fun S2 => (f_X8_mostBy 76 ((up S2 76 1 x3).1 76 2) (up S2 76 1 x3)).bind fun z3 => (if x2 < z3.1 then f_X8_bestYear_L6 n x3 z3.1 (x3 + 1) z3.2 k66 else f_X8_bestYear_L6 n x1 x2 (x3 + 1) z3.2 k66))
def f_X8_bestYear  (S : St) : Option (Int32 × St) :=
  f_X8_bestYear_L6 2000 0 (-1) 0 S (fun (y5 : Int32) (S6 : St) => some (y5, S6))
def f_X8_waterOf (a1 : Int32) (S : St) : Option Int32 :=
  (f_X8_at a1 (S.1 75 1)).bind fun v1 => (if v1 < 0 ∨ 132 ≤ v1.toNatClampNeg then none else (f_X8_gladOf 75 a1 S).bind fun v3 => some ((S.1 75 v1.toNatClampNeg) - v3))
def f_X8_water (a1 : Int32) (S : St) : Option (Int32 × St) :=
  (f_X8_isThing a1 S).bind fun v1 => (if v1 = 0 then (f_X8_noFar (-1) S).bind fun z7 => some (z7.1, z7.2) else (if (20 + a1) < 0 ∨ 132 ≤ (20 + a1).toNatClampNeg then none else (if 0 ≤ (S.1 75 (20 + a1).toNatClampNeg) then (f_X8_waterOf a1 S).bind fun v5 => some (v5, S) else (f_X8_noFar (-3) S).bind fun z6 => some (z6.1, z6.2))))
def f_X8_bestWash_L7 (n : Nat) (x1 : Int32) (x2 : Int32) (x3 : Int32) (S : St) (k43 : Int32 → Option Int32) : Option Int32 :=
  match n with
  | 0 => none
  | n + 1 => (if (S.1 75 0) ≤ x3 then k43 x1 else (f_X8_waterOf x3 S).bind fun v2 => (if x2 < v2 then (f_X8_waterOf x3 S).bind fun v4 => f_X8_bestWash_L7 n x3 v4 (x3 + 1) S k43 else f_X8_bestWash_L7 n x1 x2 (x3 + 1) S k43))
def f_X8_bestWash  (S : St) : Option Int32 :=
  f_X8_bestWash_L7 2000 (-9) 0 0 S (fun (y5 : Int32) => some y5)
def f_X8_sour_L4 (n : Nat) (x1 : Int32) (x2 : Int32) (S : St) (k38 : Int32 → Option Int32) : Option Int32 :=
  match n with
  | 0 => none
  | n + 1 => (if (S.1 75 0) ≤ x2 then k38 x1 else (f_X8_waterOf x2 S).bind fun v2 => (if v2 ≤ 0 then f_X8_sour_L4 n (x1 ||| 0) (x2 + 1) S k38 else f_X8_sour_L4 n (x1 ||| (1 <<< (x2 &&& 31))) (x2 + 1) S k38))
def f_X8_sour  (S : St) : Option Int32 :=
  f_X8_sour_L4 2000 0 0 S (fun (y4 : Int32) => some y4)
def f_X8_regret (a1 : Int32) (S : St) : Option (Int32 × St) :=
  (f_X8_isThing a1 S).bind fun v1 => (if v1 = 0 then (f_X8_no (-1) S).bind fun z3 => some (z3.1, z3.2) else (f_X8_gladdest a1 S).bind fun v4 => (f_X8_at a1 v4).bind fun v5 => (if v5 < 0 ∨ 132 ≤ v5.toNatClampNeg then none else (f_X8_gladOf 75 a1 S).bind fun v7 => (f_X8_most 0 ((S.1 75 v5.toNatClampNeg) - v7)).bind fun v8 => some (v8, S)))
def f_X8_two_L58 (n : Nat) (x1 : Int32) (x2 : Int32) (x4 : Int32) (x5 : Int32) (x6 : Int32) (x7 : Int32) (x8 : Int32) (S : St) (k118 : Int32 → Option (Int32 × St)) : Option (Int32 × St) :=
  match n with
  | 0 => none
  | n + 1 => (if 5 ≤ x8 then k118 x7 else (f_X8_yearOf 75 x1 x2 (x8 + x5) S).bind fun v7 => (if x6 < v7 then f_X8_two_L58 n x1 x2 x4 x5 x6 (x7 &&& 0) (x8 + 1) S k118 else (f_X8_yearOf 75 x1 x2 (x4 + x8) S).bind fun v9 => (if v9 < x6 then f_X8_two_L58 n x1 x2 x4 x5 x6 (x7 &&& 0) (x8 + 1) S k118 else f_X8_two_L58 n x1 x2 x4 x5 x6 (x7 &&& 1) (x8 + 1) S k118)))
def f_X8_two_L30 (n : Nat) (x1 : Int32) (x2 : Int32) (x4 : Int32) (x5 : Int32) (S : St) (k123 : Int32 → Option (Int32 × St)) (k138 : Unit → Option (Int32 × St)) : Option (Int32 × St) :=
  match n with
  | 0 => none
  | n + 1 => (if 5 ≤ x5 then k138 () else (f_X8_yearOf 75 x1 x2 (x4 + x5) S).bind fun v5 => f_X8_two_L58 2000 x1 x2 x4 x5 v5 1 0 S (fun (y11 : Int32) => (if y11 = 0 then f_X8_two_L30 n x1 x2 x4 (x5 + 1) S k123 k138 else k123 x5)))
def f_X8_two_L21 (n : Nat) (x1 : Int32) (x2 : Int32) (x4 : Int32) (S : St) (k123 : Int32 → Int32 → Option (Int32 × St)) (k144 : Unit → Option (Int32 × St)) : Option (Int32 × St) :=
  match n with
  | 0 => none
  | n + 1 => (if 5 ≤ x4 then k144 () else f_X8_two_L30 2000 x1 x2 x4 0 S (fun (y13 : Int32) => k123 x4 y13) (fun _ : Unit => f_X8_two_L21 n x1 x2 (x4 + 1) S k123 k144))
def f_X8_two (a1 : Int32) (a2 : Int32) (S : St) : Option (Int32 × St) :=
  (f_X8_wrongGlue a1 a2 0 S).bind fun v1 => (if v1 = 0 then f_X8_two_L21 2000 a1 a2 0 S (fun (y14 : Int32) (y15 : Int32) => some ((10 * y14) + y15, S)) (fun _ : Unit => some ((-9), S)) else (f_X8_no v1 S).bind fun z16 => some (z16.1, z16.2))
def f_X8_gcd_L6 (n : Nat) (x4 : Int64) (x6 : Int64) (k31 : Int64 → Option Int64) : Option Int64 :=
  match n with
  | 0 => none
  | n + 1 => (if (lg_cmp x6 0) = 0 then k31 x4 else (if x6 = 0 then none else f_X8_gcd_L6 n x6 (x4 - x4 / x6 * x6) k31))
def f_X8_gcd (a0 : Int64) (a2 : Int64)  : Option Int64 :=
  f_X8_gcd_L6 2000 a0 a2 (fun (y3 : Int64) => some y3)
def f_X8_partOf (a0 : Int64) (a2 : Int64) (a4 : Int32)  : Option Int64 :=
  (if (lg_cmp a0 0) = 0 then some a4.toInt64 else (if a4 = 0 then (f_X8_gcd a0 a2).bind fun v5 => (if v5 = 0 then none else some (a0 / v5)) else (f_X8_gcd a0 a2).bind fun v3 => (if v3 = 0 then none else some (a2 / v3))))
def f_X8_slips_L24 (n : Nat) (x1 : Int32) (x2 : Int32) (x3 : Int32) (x4 : Int32) (x5 : Int64) (x7 : Int32) (x8 : Int64) (x10 : Int32) (S : St) (k45 : Int64 → Option Int64) : Option Int64 :=
  match n with
  | 0 => none
  | n + 1 => (if x2 ≤ x10 then k45 x8 else f_X8_slips_L24 n x1 x2 x3 x4 x5 x7 (x8 * ((x3 - 1).toInt64)) (x10 + 1) S k45)
def f_X8_slips_L6 (n : Nat) (x1 : Int32) (x2 : Int32) (x3 : Int32) (x4 : Int32) (x5 : Int64) (x7 : Int32) (S : St) (k112 : Int64 → Option Int64) : Option Int64 :=
  match n with
  | 0 => none
  | n + 1 => (if (1 <<< (x2 &&& 31)) ≤ x7 then k112 x5 else (f_X8_bits x7).bind fun v2 => f_X8_slips_L24 2000 x1 x2 x3 x4 x5 x7 1 v2 S (fun (y4 : Int64) => (f_X8_bits x7).bind fun v5 => (f_X8_yearOf 75 x1 (5 * (x2 - v5)) 0 S).bind fun v6 => (if 0 ≤ x4 then (if v6 = x4 then f_X8_slips_L6 n x1 x2 x3 x4 (x5 + y4) (x7 + 1) S k112 else f_X8_slips_L6 n x1 x2 x3 x4 (x5 + 0) (x7 + 1) S k112) else (f_X8_at x1 v6).bind fun v9 => (if v9 < 0 ∨ 132 ≤ v9.toNatClampNeg then none else f_X8_slips_L6 n x1 x2 x3 x4 (x5 + (y4 * ((S.1 75 v9.toNatClampNeg).toInt64))) (x7 + 1) S k112))))
def f_X8_slips (a1 : Int32) (a2 : Int32) (a3 : Int32) (a4 : Int32) (S : St) : Option Int64 :=
  f_X8_slips_L6 2000 a1 a2 a3 a4 0 0 S (fun (y11 : Int64) => some y11)
def f_X8_power_L5 (n : Nat) (x0 : Int32) (x1 : Int32) (x2 : Int64) (x4 : Int32) (k22 : Int64 → Option Int64) : Option Int64 :=
  match n with
  | 0 => none
  | n + 1 => (if x1 ≤ x4 then k22 x2 else f_X8_power_L5 n x0 x1 (x2 * x0.toInt64) (x4 + 1) k22)
def f_X8_power (a0 : Int32) (a1 : Int32)  : Option Int64 :=
  f_X8_power_L5 2000 a0 a1 1 0 (fun (y2 : Int64) => some y2)
def f_X8_slip (a1 : Int32) (a2 : Int32) (a3 : Int32) (a4 : Int32) (a5 : Int32) (S : St) : Option (Int64 × St) :=
  (f_X8_isThing a1 S).bind fun v1 => (if v1 = 0 then (f_X8_noWide (-1) S).bind fun z3 => some (z3.1, z3.2) else (f_X8_isYear a4).bind fun v4 => (if v4 = 0 then (f_X8_noWide (-1) S).bind fun z20 => some (z20.1, z20.2) else (if a2 < 0 then (f_X8_noWide (-4) S).bind fun z7 => some (z7.1, z7.2) else (if 2 ≤ a3 then (if 8 < a2 then (f_X8_noWide (-6) S).bind fun z10 => some (z10.1, z10.2) else (if a3 ≤ 20 then (f_X8_isIn a5 0 1).bind fun v12 => (if v12 = 0 then (f_X8_noWide (-2) S).bind fun z17 => some (z17.1, z17.2) else (f_X8_slips a1 a2 a3 a4 S).bind fun v14 => (f_X8_power a3 a2).bind fun v15 => (f_X8_partOf v14 v15 a5).bind fun v16 => some (v16, S)) else (f_X8_noWide (-6) S).bind fun z18 => some (z18.1, z18.2))) else (f_X8_noWide (-4) S).bind fun z19 => some (z19.1, z19.2)))))
def f_X8_mean (a1 : Int32) (a2 : Int32) (a3 : Int32) (a4 : Int32) (S : St) : Option (Int64 × St) :=
  (f_X8_isThing a1 S).bind fun v1 => (if v1 = 0 then (f_X8_noWide (-1) S).bind fun z17 => some (z17.1, z17.2) else (if a2 < 0 then (f_X8_noWide (-4) S).bind fun z4 => some (z4.1, z4.2) else (if 2 ≤ a3 then (if 8 < a2 then (f_X8_noWide (-6) S).bind fun z7 => some (z7.1, z7.2) else (if a3 ≤ 20 then (f_X8_isIn a4 0 1).bind fun v9 => (if v9 = 0 then (f_X8_noWide (-2) S).bind fun z14 => some (z14.1, z14.2) else (f_X8_slips a1 a2 a3 (-1) S).bind fun v11 => (f_X8_power a3 a2).bind fun v12 => (f_X8_partOf v11 v12 a4).bind fun v13 => some (v13, S)) else (f_X8_noWide (-6) S).bind fun z15 => some (z15.1, z15.2))) else (f_X8_noWide (-4) S).bind fun z16 => some (z16.1, z16.2))))
def f_X8_whatWas_L87 (n : Nat) (x1 : Int32) (x2 : Int32) (x3 : Int32) (x4 : Int32) (x5 : Int32) (x6 : Int32) (S : St) (k135 : Int32 → Option (Int32 × St)) : Option (Int32 × St) :=
  match n with
  | 0 => none
  | n + 1 => (if (S.1 74 9) ≤ x6 then k135 x5 else (f_X8_yearOf 76 x1 (5 * x6) 0 S).bind fun v11 => (if x6 < 0 ∨ 16 ≤ x6.toNatClampNeg then none else (if v11 = (S.1 80 x6.toNatClampNeg) then f_X8_whatWas_L87 n x1 x2 x3 x4 (x5 &&& 1) (x6 + 1) S k135 else f_X8_whatWas_L87 n x1 x2 x3 x4 (x5 &&& 0) (x6 + 1) S k135)))
def f_X8_whatWas_L35 (n : Nat) (x1 : Int32) (x2 : Int32) (x3 : Int32) (x4 : Int32) (S : St) (k157 : Int32 → St → Option (Int32 × St)) : Option (Int32 × St) :=
  match n with
  | 0 => none
  | n + 1 => (if x2 = 0 then (if 6 ≤ x4 then k157 x3 S else (f_X8_lays 75 76 S).bind fun S20 => (if x2 = 0 then (if (4 + x1) < 0 ∨ 132 ≤ (4 + x1).toNatClampNeg then none else f_X8_whatWas_L87 2000 x1 x2 x3 x4 1 0 (up S20 76 (4 + x1).toNatClampNeg x4) (fun (y26 : Int32) => (if y26 = 0 then f_X8_whatWas_L35 n x1 x2 (x3 ||| 0) (x4 + 1) (up S20 76 (4 + x1).toNatClampNeg x4) k157 else f_X8_whatWas_L35 n x1 x2 (x3 ||| (1 <<< (x4 &&& 31))) (x4 + 1) (up S20 76 (4 + x1).toNatClampNeg x4) k157))) else (if (12 + x1) < 0 ∨ 132 ≤ (12 + x1).toNatClampNeg then none else f_X8_whatWas_L87 2000 x1 x2 x3 x4 1 0 (up S20 76 (12 + x1).toNatClampNeg x4) (fun (y23 : Int32) => (if y23 = 0 then f_X8_whatWas_L35 n x1 x2 (x3 ||| 0) (x4 + 1) (up S20 76 (12 + x1).toNatClampNeg x4) k157 else f_X8_whatWas_L35 n x1 x2 (x3 ||| (1 <<< (x4 &&& 31))) (x4 + 1) (up S20 76 (12 + x1).toNatClampNeg x4) k157))))) else (if 10 ≤ x4 then k157 x3 S else (f_X8_lays 75 76 S).bind fun S7 => (if x2 = 0 then (if (4 + x1) < 0 ∨ 132 ≤ (4 + x1).toNatClampNeg then none else f_X8_whatWas_L87 2000 x1 x2 x3 x4 1 0 (up S7 76 (4 + x1).toNatClampNeg x4) (fun (y17 : Int32) => (if y17 = 0 then f_X8_whatWas_L35 n x1 x2 (x3 ||| 0) (x4 + 1) (up S7 76 (4 + x1).toNatClampNeg x4) k157 else f_X8_whatWas_L35 n x1 x2 (x3 ||| (1 <<< (x4 &&& 31))) (x4 + 1) (up S7 76 (4 + x1).toNatClampNeg x4) k157))) else (if (12 + x1) < 0 ∨ 132 ≤ (12 + x1).toNatClampNeg then none else f_X8_whatWas_L87 2000 x1 x2 x3 x4 1 0 (up S7 76 (12 + x1).toNatClampNeg x4) (fun (y14 : Int32) => (if y14 = 0 then f_X8_whatWas_L35 n x1 x2 (x3 ||| 0) (x4 + 1) (up S7 76 (12 + x1).toNatClampNeg x4) k157 else f_X8_whatWas_L35 n x1 x2 (x3 ||| (1 <<< (x4 &&& 31))) (x4 + 1) (up S7 76 (12 + x1).toNatClampNeg x4) k157))))))
def f_X8_whatWas (a1 : Int32) (a2 : Int32) (S : St) : Option (Int32 × St) :=
  (f_X8_isThing a1 S).bind fun v1 => (if v1 = 0 then (f_X8_no (-1) S).bind fun z31 => some (z31.1, z31.2) else (f_X8_isIn a2 0 1).bind fun v3 => (if v3 = 0 then (f_X8_no (-2) S).bind fun z30 => some (z30.1, z30.2) else f_X8_whatWas_L35 2000 a1 a2 0 0 S (fun (y28 : Int32) (S29 : St) => some (y28, S29))))
def f_X8_mended_L59 (n : Nat) (x1 : Int32) (x2 : Int32) (x3 : Int32) (x4 : Int32) (S : St) (k92 : Int32 → St → Option (Int32 × St)) (k101 : St → Option (Int32 × St)) : Option (Int32 × St) :=
  match n with
  | 0 => none
  | n + 1 => (if 99 < x4 then k101 S else (f_X8_at x1 x2).bind fun v10 => (if v10 < 0 ∨ 132 ≤ v10.toNatClampNeg then none else (f_X8_yearOf 76 x1 x3 0 (up S 76 v10.toNatClampNeg x4)).bind fun v12 => (if v12 = x2 then k92 x4 (up S 76 v10.toNatClampNeg x4) else f_X8_mended_L59 n x1 x2 x3 (x4 + 1) (up S 76 v10.toNatClampNeg x4) k92 k101)))
def f_X8_mended (a1 : Int32) (a2 : Int32) (a3 : Int32) (S : St) : Option (Int32 × St) :=
  (f_X8_isThing a1 S).bind fun v1 => (if v1 = 0 then (f_X8_no (-1) S).bind fun z3 => some (z3.1, z3.2) else (f_X8_isYear a2).bind fun v4 => (if v4 = 0 then (f_X8_no (-1) S).bind fun z19 => some (z19.1, z19.2) else (if 0 ≤ a3 then (if a3 ≤ 99 then (f_X8_lays 75 76 S).bind fun S8 => f_X8_mended_L59 2000 a1 a2 a3 0 S8 (fun (y14 : Int32) (S15 : St) => some (y14, S15)) (fun (S16 : St) => some ((-9), S16)) else (f_X8_no (-6) S).bind fun z17 => some (z17.1, z17.2)) else (f_X8_no (-4) S).bind fun z18 => some (z18.1, z18.2))))
def f_X8_row (a1 : Int32) (S : St) : Option (Int32 × St) :=
  (if 0 ≤ a1 then (if 99 < a1 then (f_X8_no (-6) S).bind fun z3 => some (z3.1, z3.2) else (if (S.1 74 9) = 16 then (f_X8_no (-6) S).bind fun z6 => some (z6.1, z6.2) else (if (S.1 74 9) < 0 ∨ 16 ≤ (S.1 74 9).toNatClampNeg then none else some ((up (up S 80 (S.1 74 9).toNatClampNeg a1) 74 9 (((up S 80 (S.1 74 9).toNatClampNeg a1).1 74 9) + 1)).1 74 9, (up (up S 80 (S.1 74 9).toNatClampNeg a1) 74 9 (((up S 80 (S.1 74 9).toNatClampNeg a1).1 74 9) + 1)))))) else (f_X8_no (-4) S).bind fun z7 => some (z7.1, z7.2))
def f_X8_judge_L26 (n : Nat) (x1 : Int32) (x2 : Int32) (x3 : Int32) (S : St) (k56 : Int32 → Option (Int32 × St)) (k64 : Unit → Option (Int32 × St)) : Option (Int32 × St) :=
  match n with
  | 0 => none
  | n + 1 => (if x2 ≤ x3 then k64 () else (if 12 ≤ x3 then k56 x3 else (f_X8_at x1 x3).bind fun v5 => (if v5 < 0 ∨ 132 ≤ v5.toNatClampNeg then none else (if x3 < 0 ∨ 16 ≤ x3.toNatClampNeg then none else (if (S.1 75 v5.toNatClampNeg) = (S.1 80 x3.toNatClampNeg) then f_X8_judge_L26 n x1 x2 (x3 + 1) S k56 k64 else k56 x3)))))
def f_X8_judge (a1 : Int32) (S : St) : Option (Int32 × St) :=
  (f_X8_isThing a1 S).bind fun v1 => (if v1 = 0 then (f_X8_no (-1) S).bind fun z10 => some (z10.1, z10.2) else f_X8_judge_L26 2000 a1 (S.1 74 9) 0 (up S 74 9 0) (fun (y9 : Int32) => some (y9, (up S 74 9 0))) (fun _ : Unit => some ((-9), (up S 74 9 0))))
def f_X8_clear  (S : St) : Option (Int32 × St) :=
  some (S.1 74 9, (up S 74 9 0))
def f_X8_drawn (a1 : Int32) (S : St) : Option (Int32 × St) :=
  (if a1 = 0 then none else some (((((up S 74 15 (((S.1 74 15) * 1664525) + 1013904223)).1 74 15) &&& 2147483647) / 256) - ((((up S 74 15 (((S.1 74 15) * 1664525) + 1013904223)).1 74 15) &&& 2147483647) / 256) / a1 * a1, (up S 74 15 (((S.1 74 15) * 1664525) + 1013904223))))
def f_X8_lots_L72 (n : Nat) (x1 : Int32) (x3 : Int32) (x4 : Int32) (x5 : Int32) (x6 : Int32) (S : St) (k139 : St → Option (Int32 × St)) : Option (Int32 × St) :=
  match n with
  | 0 => none
  | n + 1 => (if (S.1 76 0) ≤ x6 then k139 S else (if (20 + x6) < 0 ∨ 132 ≤ (20 + x6).toNatClampNeg then none else (if (S.1 76 (20 + x6).toNatClampNeg) < 0 then (f_X8_drawn 60 S).bind fun z10 => (f_X8_drawn 4 z10.2).bind fun z11 => (f_X8_yearOf 76 x6 z10.1 z11.1 z11.2).bind fun v12 => (if (20 + x6) < 0 ∨ 132 ≤ (20 + x6).toNatClampNeg then none else f_X8_lots_L72 n x1 x3 x4 x5 (x6 + 1) (up z11.2 76 (20 + x6).toNatClampNeg v12) k139) else f_X8_lots_L72 n x1 x3 x4 x5 (x6 + 1) S k139)))
def f_X8_lots_L52 (n : Nat) (x1 : Int32) (x3 : Int32) (x4 : Int32) (x5 : Int32) (S : St) (k172 : Int32 → St → Option (Int32 × St)) : Option (Int32 × St) :=
  match n with
  | 0 => none
  | n + 1 => (if x1 ≤ x5 then k172 x4 S else (f_X8_lays 75 76 S).bind fun S6 => f_X8_lots_L72 2000 x1 x3 x4 x5 0 S6 (fun (S14 : St) => (if x3 = 0 then (f_X8_gladAll 76 S14).bind fun v17 => f_X8_lots_L52 n x1 x3 (x4 + v17) (x5 + 1) S14 k172 else (f_X8_agreeMany 76 S14).bind fun v16 => f_X8_lots_L52 n x1 x3 (x4 + v16) (x5 + 1) S14 k172)))
def f_X8_lots (a1 : Int32) (a2 : Int32) (a3 : Int32) (S : St) : Option (Int32 × St) :=
  (if 1 ≤ a1 then (if a1 ≤ 20 then (f_X8_isIn a3 0 1).bind fun v3 => (if v3 = 0 then (f_X8_no (-2) S).bind fun z20 => some (z20.1, z20.2) else f_X8_lots_L52 2000 a1 a3 0 0 (up S 74 15 a2) (fun (y18 : Int32) (S19 : St) => some (y18, S19))) else (f_X8_no (-6) S).bind fun z21 => some (z21.1, z21.2)) else (f_X8_no (-4) S).bind fun z22 => some (z22.1, z22.2))
def f_X8_image  (S : St) : Option (Int32 × St) :=
  (f_X8_lays 75 77 S).bind fun S1 => some ((up S1 74 4 1).1 75 1, (up S1 74 4 1))
def f_X8_on  (S : St) : Option (Int32 × St) :=
  (if (S.1 74 4) = 0 then (f_X8_no (-3) S).bind fun z3 => some (z3.1, z3.2) else (f_X8_lays 77 75 S).bind fun S2 => some (S2.1 75 1, S2))
def f_X8_count_L81 (n : Nat) (x2 : Int32) (x3 : Int32) (S : St) (k119 : Int32 → Option Int32) : Option Int32 :=
  match n with
  | 0 => none
  | n + 1 => (if (S.1 75 0) ≤ x3 then k119 x2 else (if (20 + x3) < 0 ∨ 132 ≤ (20 + x3).toNatClampNeg then none else (if (S.1 75 (20 + x3).toNatClampNeg) < 0 then f_X8_count_L81 n (x2 ||| 0) (x3 + 1) S k119 else f_X8_count_L81 n (x2 ||| (1 <<< (x3 &&& 31))) (x3 + 1) S k119)))
def f_X8_count_L123 (n : Nat) (x2 : Int32) (x3 : Int32) (S : St) (k154 : Int32 → Option Int32) : Option Int32 :=
  match n with
  | 0 => none
  | n + 1 => (if (S.1 75 0) ≤ x3 then k154 x2 else (if (124 + x3) < 0 ∨ 132 ≤ (124 + x3).toNatClampNeg then none else (f_X8_bits (S.1 75 (124 + x3).toNatClampNeg)).bind fun v19 => f_X8_count_L123 n (x2 + v19) (x3 + 1) S k154))
def f_X8_count (a1 : Int32) (S : St) : Option Int32 :=
  (f_X8_isIn a1 11 16).bind fun v1 => (if v1 = 0 then (if a1 = 0 then (if a1 < 0 ∨ 132 ≤ a1.toNatClampNeg then none else some (S.1 75 a1.toNatClampNeg)) else (if a1 = 1 then (if a1 < 0 ∨ 132 ≤ a1.toNatClampNeg then none else some (S.1 75 a1.toNatClampNeg)) else (if a1 = 2 then (if a1 < 0 ∨ 132 ≤ a1.toNatClampNeg then none else some (S.1 75 a1.toNatClampNeg)) else (if a1 = 3 then (if a1 < 0 ∨ 132 ≤ a1.toNatClampNeg then none else some (S.1 75 a1.toNatClampNeg)) else (if a1 = 4 then f_X8_count_L81 2000 0 0 S (fun (y15 : Int32) => some y15) else (if a1 = 5 then f_X8_count_L123 2000 0 0 S (fun (y20 : Int32) => some (y20 / 2)) else (if a1 = 6 then some (S.1 74 9) else (if a1 = 7 then some (S.1 74 8) else some (-9))))))))) else (if (a1 - 10) < 0 ∨ 7 ≤ (a1 - 10).toNatClampNeg then none else some (S.1 81 (a1 - 10).toNatClampNeg)))
-- ===== numbers of cells behind a call =====
theorem kd_at {q v : Nat} {a : Int32} {S : St} (hq : kd q = 3) (h : f_X3_at q a S = some v) : kd v = 6 := by
  rw [f_X3_at] at h
  obtain ⟨c, h⟩ := oi h
  obtain rfl := Option.some.inj h
  exact kd_sht hq (by omega)
end
section
-- ===== ints as whole numbers =====
def iI (z : Int) : Int32 := Int32.ofInt z
theorem iI_toInt {z : Int} (h1 : -2147483648 ≤ z) (h2 : z < 2147483648) : (iI z).toInt = z := Int32.toInt_ofInt_of_le (by omega) (by omega)
theorem iI_of (x : Int32) : x = iI x.toInt := (Int32.ofInt_toInt x).symm
theorem iI_add (a b : Int) : iI a + iI b = iI (a + b) := (Int32.ofInt_add a b).symm
theorem iI_sub (a b : Int) : iI a - iI b = iI (a - b) := (Int32.ofInt_sub a b).symm
theorem iI_mul (a b : Int) : iI a * iI b = iI (a * b) := (Int32.ofInt_mul a b).symm
theorem iI_neg (a : Int) : -iI a = iI (-a) := (Int32.ofInt_neg a).symm
theorem iI_lt {a b : Int} (h1 : -2147483648 ≤ a) (h2 : a < 2147483648) (h3 : -2147483648 ≤ b) (h4 : b < 2147483648) : iI a < iI b ↔ a < b := by
  rw [Int32.lt_iff_toInt_lt, iI_toInt h1 h2, iI_toInt h3 h4]
theorem iI_le {a b : Int} (h1 : -2147483648 ≤ a) (h2 : a < 2147483648) (h3 : -2147483648 ≤ b) (h4 : b < 2147483648) : iI a ≤ iI b ↔ a ≤ b := by
  rw [Int32.le_iff_toInt_le, iI_toInt h1 h2, iI_toInt h3 h4]
theorem iI_eq {a b : Int} (h1 : -2147483648 ≤ a) (h2 : a < 2147483648) (h3 : -2147483648 ≤ b) (h4 : b < 2147483648) : iI a = iI b ↔ a = b := by
  rw [← Int32.toInt_inj, iI_toInt h1 h2, iI_toInt h3 h4]
theorem iI_clamp {a : Int} (h1 : -2147483648 ≤ a) (h2 : a < 2147483648) : (iI a).toNatClampNeg = a.toNat := by
  show (iI a).toInt.toNat = _
  rw [iI_toInt h1 h2]
end
section
-- ===== what holds between calls: a shop is a row of whole numbers, laid as the reference lays it =====
def bitI (a : Int) (b : Nat) : Bool := a.toNat.testBit b
def WFa (a : Nat → Int) : Prop :=
  (0 ≤ a 0 ∧ a 0 ≤ 8) ∧ (0 ≤ a 1 ∧ a 1 ≤ 11) ∧ (0 ≤ a 2 ∧ a 2 ≤ 99) ∧ (1 ≤ a 3 ∧ a 3 ≤ 4) ∧
  (∀ j, j < 8 → (0 ≤ a (4 + j) ∧ a (4 + j) ≤ 5) ∧ (0 ≤ a (12 + j) ∧ a (12 + j) ≤ 9) ∧ (a (20 + j) = -9 ∨ (0 ≤ a (20 + j) ∧ a (20 + j) ≤ 11)) ∧ (∀ y, y < 12 → 0 ≤ a (28 + 12 * j + y) ∧ a (28 + 12 * j + y) ≤ 99) ∧ (0 ≤ a (124 + j) ∧ a (124 + j) ≤ 255)) ∧
  (∀ i j : Nat, i < 8 → j < 8 → bitI (a (124 + i)) j = true → bitI (a (124 + j)) i = true ∧ i ≠ j ∧ (i : Int) < a 0 ∧ (j : Int) < a 0)
/-- the class' shop at q -/
def RC (S : St) (q : Nat) (a : Nat → Int) : Prop :=
  (∀ k, k < 4 → S.1 q k = iI (a k)) ∧ (∀ j, j < 8 → S.1 (q + 2) j = iI (a (124 + j))) ∧
  ∀ j : Nat, j < 8 → (j : Int) < a 0 → S.1 (q + 1 + 2 + 2 * j) 0 = iI (a (4 + j)) ∧ S.1 (q + 1 + 2 + 2 * j) 1 = iI (a (12 + j)) ∧ S.1 (q + 1 + 2 + 2 * j) 2 = iI (a (20 + j)) ∧ ∀ y, y < 12 → S.1 (q + 1 + 2 + 2 * j + 1) y = iI (a (28 + 12 * j + y))
/-- the reference's row at q -/
def RM (S : St) (q : Nat) (a : Nat → Int) : Prop := ∀ k, k < 132 → S.1 q k = iI (a k)
def Both (S : St) (q r : Nat) : Prop := ∃ a : Nat → Int, WFa a ∧ RC S q a ∧ RM S r a
def InvText (S : St) : Prop := ∃ n : Nat, n ≤ 96 ∧ S.1 60 1 = iI n ∧ S.1 74 8 = iI n ∧ ∀ k, k < n → S.1 79 k = S.1 61 k ∧ ∃ c : Nat, c ≤ 255 ∧ S.1 61 k = iI c
def InvRow (S : St) : Prop := ∃ n : Nat, n ≤ 16 ∧ S.1 62 1 = iI n ∧ S.1 74 9 = iI n ∧ ∀ k, k < n → S.1 80 k = S.1 63 k
def Inv (S : St) : Prop :=
  Both S 1 75 ∧ InvText S ∧ InvRow S ∧ (∀ k, k < 7 → S.1 73 k = S.1 81 k) ∧ S.1 0 11 = S.1 74 4 ∧ (S.1 0 11 = 0 ∨ (S.1 0 11 = 1 ∧ Both S 20 77))
end
section
-- ===== literals, division, places =====
theorem li_0 : (0 : Int32) = iI 0 := rfl
theorem li_1 : (1 : Int32) = iI 1 := rfl
theorem li_2 : (2 : Int32) = iI 2 := rfl
theorem li_3 : (3 : Int32) = iI 3 := rfl
theorem li_4 : (4 : Int32) = iI 4 := rfl
theorem li_5 : (5 : Int32) = iI 5 := rfl
theorem li_6 : (6 : Int32) = iI 6 := rfl
theorem li_7 : (7 : Int32) = iI 7 := rfl
theorem li_8 : (8 : Int32) = iI 8 := rfl
theorem li_9 : (9 : Int32) = iI 9 := rfl
theorem li_10 : (10 : Int32) = iI 10 := rfl
theorem li_11 : (11 : Int32) = iI 11 := rfl
theorem li_12 : (12 : Int32) = iI 12 := rfl
theorem li_16 : (16 : Int32) = iI 16 := rfl
theorem li_19 : (19 : Int32) = iI 19 := rfl
theorem li_20 : (20 : Int32) = iI 20 := rfl
theorem li_28 : (28 : Int32) = iI 28 := rfl
theorem li_48 : (48 : Int32) = iI 48 := rfl
theorem li_57 : (57 : Int32) = iI 57 := rfl
theorem li_59 : (59 : Int32) = iI 59 := rfl
theorem li_60 : (60 : Int32) = iI 60 := rfl
theorem li_96 : (96 : Int32) = iI 96 := rfl
theorem li_97 : (97 : Int32) = iI 97 := rfl
theorem li_99 : (99 : Int32) = iI 99 := rfl
theorem li_100 : (100 : Int32) = iI 100 := rfl
theorem li_102 : (102 : Int32) = iI 102 := rfl
theorem li_103 : (103 : Int32) = iI 103 := rfl
theorem li_104 : (104 : Int32) = iI 104 := rfl
theorem li_112 : (112 : Int32) = iI 112 := rfl
theorem li_115 : (115 : Int32) = iI 115 := rfl
theorem li_116 : (116 : Int32) = iI 116 := rfl
theorem li_118 : (118 : Int32) = iI 118 := rfl
theorem li_119 : (119 : Int32) = iI 119 := rfl
theorem li_121 : (121 : Int32) = iI 121 := rfl
theorem li_124 : (124 : Int32) = iI 124 := rfl
theorem li_132 : (132 : Int32) = iI 132 := rfl
theorem li_255 : (255 : Int32) = iI 255 := rfl
theorem li_256 : (256 : Int32) = iI 256 := rfl
theorem li_1000 : (1000 : Int32) = iI 1000 := rfl
theorem li_2000 : (2000 : Int32) = iI 2000 := rfl
theorem li_1000000000 : (1000000000 : Int32) = iI 1000000000 := rfl
theorem bs {α β : Type} (a : α) (f : α → Option β) : (some a).bind f = f a := rfl
theorem itT {α : Type} {x y : α} {i : Decidable True} : @ite α True i x y = x := if_pos trivial
theorem itF {α : Type} {x y : α} {i : Decidable False} : @ite α False i x y = y := if_neg (fun h => h)
theorem iI_s (x : Nat) : iI ((x : Int) + 1) = iI ((x + 1 : Nat) : Int) := rfl
theorem iI_m1 (x : Int) : iI (x + -1) = iI (x - 1) := rfl
theorem iI_div {a b : Int} (h1 : 0 ≤ a) (h2 : a < 2147483648) (h3 : 0 < b) (h4 : b < 2147483648) : iI a / iI b = iI (a / b) := by
  have e1 : 0 ≤ a / b := Int.ediv_nonneg h1 (by omega)
  have e2 : a / b ≤ a := Int.ediv_le_self _ h1
  rw [← Int32.toInt_inj, Int32.toInt_div, iI_toInt (by omega) h2, iI_toInt (by omega) h4, iI_toInt (by omega) (by omega), Int.tdiv_eq_ediv_of_nonneg h1]
  exact Int.bmod_eq_of_le (by omega) (by omega)
theorem tn (j : Nat) : ((j : Int)).toNat = j := rfl
theorem tn4 (j : Nat) : ((4 : Int) + (j : Int)).toNat = 4 + j := by omega
theorem tn12 (j : Nat) : ((12 : Int) + (j : Int)).toNat = 12 + j := by omega
theorem tn20 (j : Nat) : ((20 : Int) + (j : Int)).toNat = 20 + j := by omega
theorem tn124 (j : Nat) : ((124 : Int) + (j : Int)).toNat = 124 + j := by omega
theorem tn28 (j y : Nat) : ((28 : Int) + 12 * (j : Int) + (y : Int)).toNat = 28 + 12 * j + y := by omega
theorem iI_any (x : Int32) : ∃ z : Int, -2147483648 ≤ z ∧ z < 2147483648 ∧ x = iI z := by
  refine ⟨x.toInt, ?_, ?_, iI_of x⟩
  · have := Int32.le_toInt x; omega
  · have := Int32.toInt_lt x; omega
-- ===== a thing of a shop =====
def RT (S : St) (t : Nat) (a : Nat → Int) (j : Nat) : Prop := S.1 t 0 = iI (a (4 + j)) ∧ S.1 t 1 = iI (a (12 + j)) ∧ S.1 t 2 = iI (a (20 + j)) ∧ ∀ y, y < 12 → S.1 (t + 1) y = iI (a (28 + 12 * j + y))
def WT (a : Nat → Int) (j : Nat) : Prop := (0 ≤ a (4 + j) ∧ a (4 + j) ≤ 5) ∧ (0 ≤ a (12 + j) ∧ a (12 + j) ≤ 9) ∧ (a (20 + j) = -9 ∨ (0 ≤ a (20 + j) ∧ a (20 + j) ≤ 11)) ∧ (∀ y, y < 12 → 0 ≤ a (28 + 12 * j + y) ∧ a (28 + 12 * j + y) ≤ 99)
theorem WFa.t {a : Nat → Int} (h : WFa a) {j : Nat} (hj : j < 8) : WT a j := ⟨(h.2.2.2.2.1 j hj).1, (h.2.2.2.2.1 j hj).2.1, (h.2.2.2.2.1 j hj).2.2.1, (h.2.2.2.2.1 j hj).2.2.2.1⟩
theorem RC.t {S : St} {q : Nat} {a : Nat → Int} (h : RC S q a) {j : Nat} (hj : j < 8) (hs : (j : Int) < a 0) : RT S (q + 1 + 2 + 2 * j) a j := h.2.2 j hj hs
/-- how glad in a year -/
def sG (a : Nat → Int) (j y : Nat) : Int := a (28 + 12 * j + y)
def sC (a : Nat → Int) (j now y : Nat) : Int := if a (4 + j) = 5 then -(sG a j y) else if a (4 + j) = 3 then sG a j y - a (12 + j) * ((now : Int) - (y : Int)) else sG a j y
def sV (m f : Int) : Int := if 0 < m / 5 - f then m / 5 - f else 0
def sR (a : Nat → Int) (j : Nat) (m f : Int) : Int := if a (4 + j) = 2 ∨ a (4 + j) = 5 then sV m f + a (12 + j) else if a (4 + j) = 4 then sV m f / 2 else sV m f
def sB (c : Nat → Int) (lt lo : Int) : Nat → Nat → Nat
  | 0, b => b
  | m + 1, b => if (m : Int) < lo then b else sB c lt lo m (if c b < c m ∨ (lt ≠ 0 ∧ c m = c b) then m else b)
def sL (a : Nat → Int) (j : Nat) : Int := if a (4 + j) = 1 ∨ a (4 + j) = 3 then 1 else 0
def sO (now : Nat) (r : Int) : Int := if 0 < (now : Int) - r then (now : Int) - r else 0
def sY (a : Nat → Int) (j now : Nat) (m f : Int) : Nat := sB (sC a j now) (sL a j) (sO now (sR a j m f)) now now
theorem sB_le (c : Nat → Int) (lt lo : Int) {N : Nat} : ∀ m b, m ≤ N + 1 → b ≤ N → sB c lt lo m b ≤ N := by
  intro m
  induction m with
  | zero => intro b _ hb; exact hb
  | succ m ih =>
    intro b hm hb
    rw [sB]
    split
    · exact hb
    · apply ih _ (by omega)
      split <;> omega
theorem sY_le (a : Nat → Int) (j now : Nat) (m f : Int) : sY a j now m f ≤ now := sB_le _ _ _ _ _ (by omega) (by omega)
theorem sG_b {a : Nat → Int} {j y : Nat} (hw : WT a j) (hy : y < 12) : 0 ≤ sG a j y ∧ sG a j y ≤ 99 := hw.2.2.2 y hy
theorem sC_b {a : Nat → Int} {j now y : Nat} (hw : WT a j) (hn : now ≤ 11) (hy : y ≤ now) : -99 ≤ sC a j now y ∧ sC a j now y ≤ 99 := by
  have g := sG_b hw (y := y) (by omega)
  have f := hw.2.1
  have p1 : 0 ≤ a (12 + j) * ((now : Int) - (y : Int)) := Int.mul_nonneg f.1 (by omega)
  have p2 : a (12 + j) * ((now : Int) - (y : Int)) ≤ 9 * 11 := Int.mul_le_mul f.2 (by omega) (by omega) (by omega)
  rw [sC]
  by_cases h5 : a (4 + j) = 5
  · rw [if_pos h5]; omega
  · rw [if_neg h5]
    by_cases h3 : a (4 + j) = 3
    · rw [if_pos h3]; omega
    · rw [if_neg h3]; omega
theorem sV_b {m f : Int} (h1 : 0 ≤ m ∧ m ≤ 999) (h2 : 0 ≤ f ∧ f ≤ 999) : 0 ≤ sV m f ∧ sV m f ≤ 199 := by
  rw [sV]
  split <;> omega
theorem sR_b {a : Nat → Int} {j : Nat} {m f : Int} (hw : WT a j) (h1 : 0 ≤ m ∧ m ≤ 999) (h2 : 0 ≤ f ∧ f ≤ 999) : 0 ≤ sR a j m f ∧ sR a j m f ≤ 208 := by
  have v := sV_b h1 h2
  have f := hw.2.1
  rw [sR]
  split
  · omega
  · split <;> omega
theorem sO_b {now : Nat} {r : Int} (h1 : now ≤ 11) (h2 : 0 ≤ r) : 0 ≤ sO now r ∧ sO now r ≤ 11 := by
  rw [sO]
  split <;> omega
-- ===== the class' thing =====
section CT1
variable {S : St} {t : Nat} {a : Nat → Int} {j : Nat}
theorem cG (h : RT S t a j) {y : Nat} (hy : y < 12) : f_X6_gladIn t (iI y) S = some (iI (sG a j y)) := by
  have e := h.2.2.2 y hy
  simp (disch := omega) only [li_0, li_1, li_2, li_3, li_4, li_5, li_6, li_7, li_8, li_9, li_10, li_11, li_12, li_16, li_19, li_20, li_28, li_48, li_57, li_59, li_60, li_96, li_97, li_99, li_100, li_102, li_103, li_104, li_112, li_115, li_116, li_118, li_119, li_121, li_124, li_132, li_255, li_256, li_1000, li_2000, li_1000000000, iI_add, iI_sub, iI_mul, iI_neg, iI_lt, iI_le, iI_eq, iI_clamp, iI_s, iI_m1, iI_div, bs, tn, tn4, tn12, tn20, tn124, tn28, itT, itF, if_pos, if_neg, f_X6_gladIn, sG, e]
theorem cC (h : RT S t a j) (hw : WT a j) {now y : Nat} (hy : y < 12) : f_X6_counts t (iI y) (iI now) S = some (iI (sC a j now y)) := by
  have k := hw.1
  have e1 := h.1
  have e2 := h.2.1
  have e3 := cG h hy
  by_cases h5 : a (4 + j) = 5
  · simp (disch := omega) only [li_0, li_1, li_2, li_3, li_4, li_5, li_6, li_7, li_8, li_9, li_10, li_11, li_12, li_16, li_19, li_20, li_28, li_48, li_57, li_59, li_60, li_96, li_97, li_99, li_100, li_102, li_103, li_104, li_112, li_115, li_116, li_118, li_119, li_121, li_124, li_132, li_255, li_256, li_1000, li_2000, li_1000000000, iI_add, iI_sub, iI_mul, iI_neg, iI_lt, iI_le, iI_eq, iI_clamp, iI_s, iI_m1, iI_div, bs, tn, tn4, tn12, tn20, tn124, tn28, itT, itF, if_pos, if_neg, f_X6_counts, sC, e1, e2, e3]
  · by_cases h3 : a (4 + j) = 3
    · simp (disch := omega) only [li_0, li_1, li_2, li_3, li_4, li_5, li_6, li_7, li_8, li_9, li_10, li_11, li_12, li_16, li_19, li_20, li_28, li_48, li_57, li_59, li_60, li_96, li_97, li_99, li_100, li_102, li_103, li_104, li_112, li_115, li_116, li_118, li_119, li_121, li_124, li_132, li_255, li_256, li_1000, li_2000, li_1000000000, iI_add, iI_sub, iI_mul, iI_neg, iI_lt, iI_le, iI_eq, iI_clamp, iI_s, iI_m1, iI_div, bs, tn, tn4, tn12, tn20, tn124, tn28, itT, itF, if_pos, if_neg, f_X6_counts, sC, e1, e2, e3]
    · simp (disch := omega) only [li_0, li_1, li_2, li_3, li_4, li_5, li_6, li_7, li_8, li_9, li_10, li_11, li_12, li_16, li_19, li_20, li_28, li_48, li_57, li_59, li_60, li_96, li_97, li_99, li_100, li_102, li_103, li_104, li_112, li_115, li_116, li_118, li_119, li_121, li_124, li_132, li_255, li_256, li_1000, li_2000, li_1000000000, iI_add, iI_sub, iI_mul, iI_neg, iI_lt, iI_le, iI_eq, iI_clamp, iI_s, iI_m1, iI_div, bs, tn, tn4, tn12, tn20, tn124, tn28, itT, itF, if_pos, if_neg, f_X6_counts, sC, e1, e2, e3]
theorem cV {m f : Int} (h1 : 0 ≤ m ∧ m ≤ 999) (h2 : 0 ≤ f ∧ f ≤ 999) : (if (0 : Int32) < ((iI m / 5) - iI f) then (iI m / 5) - iI f else 0) = iI (sV m f) := by
  by_cases h : 0 < m / 5 - f
  · simp (disch := omega) only [li_0, li_1, li_2, li_3, li_4, li_5, li_6, li_7, li_8, li_9, li_10, li_11, li_12, li_16, li_19, li_20, li_28, li_48, li_57, li_59, li_60, li_96, li_97, li_99, li_100, li_102, li_103, li_104, li_112, li_115, li_116, li_118, li_119, li_121, li_124, li_132, li_255, li_256, li_1000, li_2000, li_1000000000, iI_add, iI_sub, iI_mul, iI_neg, iI_lt, iI_le, iI_eq, iI_clamp, iI_s, iI_m1, iI_div, bs, tn, tn4, tn12, tn20, tn124, tn28, itT, itF, if_pos, if_neg, sV]
  · simp (disch := omega) only [li_0, li_1, li_2, li_3, li_4, li_5, li_6, li_7, li_8, li_9, li_10, li_11, li_12, li_16, li_19, li_20, li_28, li_48, li_57, li_59, li_60, li_96, li_97, li_99, li_100, li_102, li_103, li_104, li_112, li_115, li_116, li_118, li_119, li_121, li_124, li_132, li_255, li_256, li_1000, li_2000, li_1000000000, iI_add, iI_sub, iI_mul, iI_neg, iI_lt, iI_le, iI_eq, iI_clamp, iI_s, iI_m1, iI_div, bs, tn, tn4, tn12, tn20, tn124, tn28, itT, itF, if_pos, if_neg, sV]
theorem cR (h : RT S t a j) (hw : WT a j) {m f : Int} (h1 : 0 ≤ m ∧ m ≤ 999) (h2 : 0 ≤ f ∧ f ≤ 999) : f_X6_reach t (iI m) (iI f) S = some (iI (sR a j m f)) := by
  have k := hw.1
  have v := sV_b h1 h2
  have e1 := h.1
  have e2 := h.2.1
  rw [f_X6_reach, cV h1 h2]
  by_cases h5 : a (4 + j) = 2
  · simp (disch := omega) only [li_0, li_1, li_2, li_3, li_4, li_5, li_6, li_7, li_8, li_9, li_10, li_11, li_12, li_16, li_19, li_20, li_28, li_48, li_57, li_59, li_60, li_96, li_97, li_99, li_100, li_102, li_103, li_104, li_112, li_115, li_116, li_118, li_119, li_121, li_124, li_132, li_255, li_256, li_1000, li_2000, li_1000000000, iI_add, iI_sub, iI_mul, iI_neg, iI_lt, iI_le, iI_eq, iI_clamp, iI_s, iI_m1, iI_div, bs, tn, tn4, tn12, tn20, tn124, tn28, itT, itF, if_pos, if_neg, sR, e1, e2]
  · by_cases h3 : a (4 + j) = 5
    · simp (disch := omega) only [li_0, li_1, li_2, li_3, li_4, li_5, li_6, li_7, li_8, li_9, li_10, li_11, li_12, li_16, li_19, li_20, li_28, li_48, li_57, li_59, li_60, li_96, li_97, li_99, li_100, li_102, li_103, li_104, li_112, li_115, li_116, li_118, li_119, li_121, li_124, li_132, li_255, li_256, li_1000, li_2000, li_1000000000, iI_add, iI_sub, iI_mul, iI_neg, iI_lt, iI_le, iI_eq, iI_clamp, iI_s, iI_m1, iI_div, bs, tn, tn4, tn12, tn20, tn124, tn28, itT, itF, if_pos, if_neg, sR, e1, e2]
    · by_cases h4 : a (4 + j) = 4
      · simp (disch := omega) only [li_0, li_1, li_2, li_3, li_4, li_5, li_6, li_7, li_8, li_9, li_10, li_11, li_12, li_16, li_19, li_20, li_28, li_48, li_57, li_59, li_60, li_96, li_97, li_99, li_100, li_102, li_103, li_104, li_112, li_115, li_116, li_118, li_119, li_121, li_124, li_132, li_255, li_256, li_1000, li_2000, li_1000000000, iI_add, iI_sub, iI_mul, iI_neg, iI_lt, iI_le, iI_eq, iI_clamp, iI_s, iI_m1, iI_div, bs, tn, tn4, tn12, tn20, tn124, tn28, itT, itF, if_pos, if_neg, sR, e1, e2]
      · simp (disch := omega) only [li_0, li_1, li_2, li_3, li_4, li_5, li_6, li_7, li_8, li_9, li_10, li_11, li_12, li_16, li_19, li_20, li_28, li_48, li_57, li_59, li_60, li_96, li_97, li_99, li_100, li_102, li_103, li_104, li_112, li_115, li_116, li_118, li_119, li_121, li_124, li_132, li_255, li_256, li_1000, li_2000, li_1000000000, iI_add, iI_sub, iI_mul, iI_neg, iI_lt, iI_le, iI_eq, iI_clamp, iI_s, iI_m1, iI_div, bs, tn, tn4, tn12, tn20, tn124, tn28, itT, itF, if_pos, if_neg, sR, e1, e2]
theorem cYL (h : RT S t a j) (hw : WT a j) {now : Nat} (hn : now ≤ 11) {lt lo : Int} (hl : lt = 0 ∨ lt = 1) (ho : 0 ≤ lo ∧ lo ≤ 11) {k : Int32 → Option Int32} :
    ∀ m n b, m < n → m ≤ now → b ≤ now → f_X6_yearBy_L53 n t (iI now) (iI lt) (iI lo) (iI b) (iI (sC a j now b)) (iI ((m : Int) - 1)) S k = k (iI (sB (sC a j now) lt lo m b)) := by
  intro m
  induction m with
  | zero =>
    intro n b hm h2 hb
    obtain ⟨n, rfl⟩ : ∃ p, n = p + 1 := ⟨n - 1, by omega⟩
    rw [f_X6_yearBy_L53, sB]
    simp (disch := omega) only [li_0, li_1, li_2, li_3, li_4, li_5, li_6, li_7, li_8, li_9, li_10, li_11, li_12, li_16, li_19, li_20, li_28, li_48, li_57, li_59, li_60, li_96, li_97, li_99, li_100, li_102, li_103, li_104, li_112, li_115, li_116, li_118, li_119, li_121, li_124, li_132, li_255, li_256, li_1000, li_2000, li_1000000000, iI_add, iI_sub, iI_mul, iI_neg, iI_lt, iI_le, iI_eq, iI_clamp, iI_s, iI_m1, iI_div, bs, tn, tn4, tn12, tn20, tn124, tn28, itT, itF, if_pos, if_neg]
  | succ m ih =>
    intro n b hm h2 hb
    obtain ⟨n, rfl⟩ : ∃ p, n = p + 1 := ⟨n - 1, by omega⟩
    have e : ((m + 1 : Nat) : Int) - 1 = (m : Int) := by omega
    rw [f_X6_yearBy_L53, sB, e]
    by_cases hlo : (m : Int) < lo
    · simp (disch := omega) only [li_0, li_1, li_2, li_3, li_4, li_5, li_6, li_7, li_8, li_9, li_10, li_11, li_12, li_16, li_19, li_20, li_28, li_48, li_57, li_59, li_60, li_96, li_97, li_99, li_100, li_102, li_103, li_104, li_112, li_115, li_116, li_118, li_119, li_121, li_124, li_132, li_255, li_256, li_1000, li_2000, li_1000000000, iI_add, iI_sub, iI_mul, iI_neg, iI_lt, iI_le, iI_eq, iI_clamp, iI_s, iI_m1, iI_div, bs, tn, tn4, tn12, tn20, tn124, tn28, itT, itF, if_pos, if_neg]
    · have e1 := cC h hw (now := now) (y := m) (by omega)
      have b1 := sC_b hw hn (y := m) (by omega)
      have b2 := sC_b hw hn (y := b) hb
      have i1 := ih n m (by omega) (by omega) (by omega)
      have i2 := ih n b (by omega) (by omega) (by omega)
      by_cases c1 : sC a j now b < sC a j now m
      · simp (disch := omega) only [li_0, li_1, li_2, li_3, li_4, li_5, li_6, li_7, li_8, li_9, li_10, li_11, li_12, li_16, li_19, li_20, li_28, li_48, li_57, li_59, li_60, li_96, li_97, li_99, li_100, li_102, li_103, li_104, li_112, li_115, li_116, li_118, li_119, li_121, li_124, li_132, li_255, li_256, li_1000, li_2000, li_1000000000, iI_add, iI_sub, iI_mul, iI_neg, iI_lt, iI_le, iI_eq, iI_clamp, iI_s, iI_m1, iI_div, bs, tn, tn4, tn12, tn20, tn124, tn28, itT, itF, if_pos, if_neg, e1, i1]
      · by_cases c2 : lt = 0
        · simp (disch := omega) only [li_0, li_1, li_2, li_3, li_4, li_5, li_6, li_7, li_8, li_9, li_10, li_11, li_12, li_16, li_19, li_20, li_28, li_48, li_57, li_59, li_60, li_96, li_97, li_99, li_100, li_102, li_103, li_104, li_112, li_115, li_116, li_118, li_119, li_121, li_124, li_132, li_255, li_256, li_1000, li_2000, li_1000000000, iI_add, iI_sub, iI_mul, iI_neg, iI_lt, iI_le, iI_eq, iI_clamp, iI_s, iI_m1, iI_div, bs, tn, tn4, tn12, tn20, tn124, tn28, itT, itF, if_pos, if_neg, e1, i2]
        · by_cases c3 : sC a j now m = sC a j now b
          · simp (disch := omega) only [li_0, li_1, li_2, li_3, li_4, li_5, li_6, li_7, li_8, li_9, li_10, li_11, li_12, li_16, li_19, li_20, li_28, li_48, li_57, li_59, li_60, li_96, li_97, li_99, li_100, li_102, li_103, li_104, li_112, li_115, li_116, li_118, li_119, li_121, li_124, li_132, li_255, li_256, li_1000, li_2000, li_1000000000, iI_add, iI_sub, iI_mul, iI_neg, iI_lt, iI_le, iI_eq, iI_clamp, iI_s, iI_m1, iI_div, bs, tn, tn4, tn12, tn20, tn124, tn28, itT, itF, if_pos, if_neg, e1, i1]
          · simp (disch := omega) only [li_0, li_1, li_2, li_3, li_4, li_5, li_6, li_7, li_8, li_9, li_10, li_11, li_12, li_16, li_19, li_20, li_28, li_48, li_57, li_59, li_60, li_96, li_97, li_99, li_100, li_102, li_103, li_104, li_112, li_115, li_116, li_118, li_119, li_121, li_124, li_132, li_255, li_256, li_1000, li_2000, li_1000000000, iI_add, iI_sub, iI_mul, iI_neg, iI_lt, iI_le, iI_eq, iI_clamp, iI_s, iI_m1, iI_div, bs, tn, tn4, tn12, tn20, tn124, tn28, itT, itF, if_pos, if_neg, e1, i2]
theorem cO {now : Nat} {r : Int} (h1 : now ≤ 11) (h2 : 0 ≤ r ∧ r ≤ 208) : (if (0 : Int32) < (iI now - iI r) then iI now - iI r else 0) = iI (sO now r) := by
  by_cases h : 0 < (now : Int) - r
  · simp (disch := omega) only [li_0, li_1, li_2, li_3, li_4, li_5, li_6, li_7, li_8, li_9, li_10, li_11, li_12, li_16, li_19, li_20, li_28, li_48, li_57, li_59, li_60, li_96, li_97, li_99, li_100, li_102, li_103, li_104, li_112, li_115, li_116, li_118, li_119, li_121, li_124, li_132, li_255, li_256, li_1000, li_2000, li_1000000000, iI_add, iI_sub, iI_mul, iI_neg, iI_lt, iI_le, iI_eq, iI_clamp, iI_s, iI_m1, iI_div, bs, tn, tn4, tn12, tn20, tn124, tn28, itT, itF, if_pos, if_neg, sO]
  · simp (disch := omega) only [li_0, li_1, li_2, li_3, li_4, li_5, li_6, li_7, li_8, li_9, li_10, li_11, li_12, li_16, li_19, li_20, li_28, li_48, li_57, li_59, li_60, li_96, li_97, li_99, li_100, li_102, li_103, li_104, li_112, li_115, li_116, li_118, li_119, li_121, li_124, li_132, li_255, li_256, li_1000, li_2000, li_1000000000, iI_add, iI_sub, iI_mul, iI_neg, iI_lt, iI_le, iI_eq, iI_clamp, iI_s, iI_m1, iI_div, bs, tn, tn4, tn12, tn20, tn124, tn28, itT, itF, if_pos, if_neg, sO]
theorem cY (h : RT S t a j) (hw : WT a j) {now : Nat} (hn : now ≤ 11) {m f : Int} (h1 : 0 ≤ m ∧ m ≤ 999) (h2 : 0 ≤ f ∧ f ≤ 999) : f_X6_yearBy t (iI m) (iI f) (iI now) S = some (iI (sY a j now m f)) := by
  have k := hw.1
  have r := sR_b hw h1 h2
  have o := sO_b hn r.1
  have e1 := h.1
  rw [f_X6_yearBy, cR h hw h1 h2, cC h hw (by omega)]
  simp only [bs]
  rw [cO hn r]
  have L : ∀ lt : Int, lt = 0 ∨ lt = 1 → f_X6_yearBy_L53 2000 t (iI now) (iI lt) (iI (sO now (sR a j m f))) (iI now) (iI (sC a j now now)) (iI ((now : Int) - 1)) S (fun y => some y) = some (iI (sB (sC a j now) lt (sO now (sR a j m f)) now now)) :=
    fun lt hl => cYL h hw hn hl o now 2000 now (by omega) (by omega) (by omega)
  have L0 := L 0 (Or.inl rfl)
  have L1 := L 1 (Or.inr rfl)
  by_cases h5 : a (4 + j) = 1
  · simp (disch := omega) only [li_0, li_1, li_2, li_3, li_4, li_5, li_6, li_7, li_8, li_9, li_10, li_11, li_12, li_16, li_19, li_20, li_28, li_48, li_57, li_59, li_60, li_96, li_97, li_99, li_100, li_102, li_103, li_104, li_112, li_115, li_116, li_118, li_119, li_121, li_124, li_132, li_255, li_256, li_1000, li_2000, li_1000000000, iI_add, iI_sub, iI_mul, iI_neg, iI_lt, iI_le, iI_eq, iI_clamp, iI_s, iI_m1, iI_div, bs, tn, tn4, tn12, tn20, tn124, tn28, itT, itF, if_pos, if_neg, sY, sL, e1, L1]
  · by_cases h3 : a (4 + j) = 3
    · simp (disch := omega) only [li_0, li_1, li_2, li_3, li_4, li_5, li_6, li_7, li_8, li_9, li_10, li_11, li_12, li_16, li_19, li_20, li_28, li_48, li_57, li_59, li_60, li_96, li_97, li_99, li_100, li_102, li_103, li_104, li_112, li_115, li_116, li_118, li_119, li_121, li_124, li_132, li_255, li_256, li_1000, li_2000, li_1000000000, iI_add, iI_sub, iI_mul, iI_neg, iI_lt, iI_le, iI_eq, iI_clamp, iI_s, iI_m1, iI_div, bs, tn, tn4, tn12, tn20, tn124, tn28, itT, itF, if_pos, if_neg, sY, sL, e1, L1]
    · simp (disch := omega) only [li_0, li_1, li_2, li_3, li_4, li_5, li_6, li_7, li_8, li_9, li_10, li_11, li_12, li_16, li_19, li_20, li_28, li_48, li_57, li_59, li_60, li_96, li_97, li_99, li_100, li_102, li_103, li_104, li_112, li_115, li_116, li_118, li_119, li_121, li_124, li_132, li_255, li_256, li_1000, li_2000, li_1000000000, iI_add, iI_sub, iI_mul, iI_neg, iI_lt, iI_le, iI_eq, iI_clamp, iI_s, iI_m1, iI_div, bs, tn, tn4, tn12, tn20, tn124, tn28, itT, itF, if_pos, if_neg, sY, sL, e1, L0]
end CT1
-- ===== the reference's thing =====
section RT1
variable {S : St} {r : Nat} {a : Nat → Int} {j : Nat}
theorem rAt (j y : Nat) : f_X8_at (iI j) (iI y) = some (iI (28 + 12 * (j : Int) + (y : Int))) := by
  simp (disch := omega) only [li_0, li_1, li_2, li_3, li_4, li_5, li_6, li_7, li_8, li_9, li_10, li_11, li_12, li_16, li_19, li_20, li_28, li_48, li_57, li_59, li_60, li_96, li_97, li_99, li_100, li_102, li_103, li_104, li_112, li_115, li_116, li_118, li_119, li_121, li_124, li_132, li_255, li_256, li_1000, li_2000, li_1000000000, iI_add, iI_sub, iI_mul, iI_neg, iI_lt, iI_le, iI_eq, iI_clamp, iI_s, iI_m1, iI_div, bs, tn, tn4, tn12, tn20, tn124, tn28, itT, itF, if_pos, if_neg, f_X8_at]
theorem rC (hm : ∀ k, k < 132 → S.1 r k = iI (a k)) (hj : j < 8) (hw : WT a j) {now y : Nat} (hn : a 1 = now) (hy : y < 12) : f_X8_counts r (iI j) (iI y) S = some (iI (sC a j now y)) := by
  have k := hw.1
  by_cases h5 : a (4 + j) = 5
  · simp (disch := omega) only [li_0, li_1, li_2, li_3, li_4, li_5, li_6, li_7, li_8, li_9, li_10, li_11, li_12, li_16, li_19, li_20, li_28, li_48, li_57, li_59, li_60, li_96, li_97, li_99, li_100, li_102, li_103, li_104, li_112, li_115, li_116, li_118, li_119, li_121, li_124, li_132, li_255, li_256, li_1000, li_2000, li_1000000000, iI_add, iI_sub, iI_mul, iI_neg, iI_lt, iI_le, iI_eq, iI_clamp, iI_s, iI_m1, iI_div, bs, tn, tn4, tn12, tn20, tn124, tn28, itT, itF, if_pos, if_neg, f_X8_counts, sC, sG, rAt, hm]
  · by_cases h3 : a (4 + j) = 3
    · simp (disch := omega) only [li_0, li_1, li_2, li_3, li_4, li_5, li_6, li_7, li_8, li_9, li_10, li_11, li_12, li_16, li_19, li_20, li_28, li_48, li_57, li_59, li_60, li_96, li_97, li_99, li_100, li_102, li_103, li_104, li_112, li_115, li_116, li_118, li_119, li_121, li_124, li_132, li_255, li_256, li_1000, li_2000, li_1000000000, iI_add, iI_sub, iI_mul, iI_neg, iI_lt, iI_le, iI_eq, iI_clamp, iI_s, iI_m1, iI_div, bs, tn, tn4, tn12, tn20, tn124, tn28, itT, itF, if_pos, if_neg, f_X8_counts, sC, sG, rAt, hm, hn]
    · simp (disch := omega) only [li_0, li_1, li_2, li_3, li_4, li_5, li_6, li_7, li_8, li_9, li_10, li_11, li_12, li_16, li_19, li_20, li_28, li_48, li_57, li_59, li_60, li_96, li_97, li_99, li_100, li_102, li_103, li_104, li_112, li_115, li_116, li_118, li_119, li_121, li_124, li_132, li_255, li_256, li_1000, li_2000, li_1000000000, iI_add, iI_sub, iI_mul, iI_neg, iI_lt, iI_le, iI_eq, iI_clamp, iI_s, iI_m1, iI_div, bs, tn, tn4, tn12, tn20, tn124, tn28, itT, itF, if_pos, if_neg, f_X8_counts, sC, sG, rAt, hm]
theorem rMost {x y : Int} (h1 : -2147483648 ≤ x) (h2 : x < 2147483648) (h3 : -2147483648 ≤ y) (h4 : y < 2147483648) : f_X8_most (iI x) (iI y) = some (iI (if x ≤ y then y else x)) := by
  by_cases h : x ≤ y
  · simp (disch := omega) only [li_0, li_1, li_2, li_3, li_4, li_5, li_6, li_7, li_8, li_9, li_10, li_11, li_12, li_16, li_19, li_20, li_28, li_48, li_57, li_59, li_60, li_96, li_97, li_99, li_100, li_102, li_103, li_104, li_112, li_115, li_116, li_118, li_119, li_121, li_124, li_132, li_255, li_256, li_1000, li_2000, li_1000000000, iI_add, iI_sub, iI_mul, iI_neg, iI_lt, iI_le, iI_eq, iI_clamp, iI_s, iI_m1, iI_div, bs, tn, tn4, tn12, tn20, tn124, tn28, itT, itF, if_pos, if_neg, f_X8_most]
  · simp (disch := omega) only [li_0, li_1, li_2, li_3, li_4, li_5, li_6, li_7, li_8, li_9, li_10, li_11, li_12, li_16, li_19, li_20, li_28, li_48, li_57, li_59, li_60, li_96, li_97, li_99, li_100, li_102, li_103, li_104, li_112, li_115, li_116, li_118, li_119, li_121, li_124, li_132, li_255, li_256, li_1000, li_2000, li_1000000000, iI_add, iI_sub, iI_mul, iI_neg, iI_lt, iI_le, iI_eq, iI_clamp, iI_s, iI_m1, iI_div, bs, tn, tn4, tn12, tn20, tn124, tn28, itT, itF, if_pos, if_neg, f_X8_most]
theorem rV {m f : Int} (h1 : 0 ≤ m ∧ m ≤ 999) (h2 : 0 ≤ f ∧ f ≤ 999) : f_X8_most 0 ((iI m / 5) - iI f) = some (iI (sV m f)) := by
  by_cases h : 0 < m / 5 - f
  · simp (disch := omega) only [li_0, li_1, li_2, li_3, li_4, li_5, li_6, li_7, li_8, li_9, li_10, li_11, li_12, li_16, li_19, li_20, li_28, li_48, li_57, li_59, li_60, li_96, li_97, li_99, li_100, li_102, li_103, li_104, li_112, li_115, li_116, li_118, li_119, li_121, li_124, li_132, li_255, li_256, li_1000, li_2000, li_1000000000, iI_add, iI_sub, iI_mul, iI_neg, iI_lt, iI_le, iI_eq, iI_clamp, iI_s, iI_m1, iI_div, bs, tn, tn4, tn12, tn20, tn124, tn28, itT, itF, if_pos, if_neg, f_X8_most, sV]
  · by_cases h' : 0 ≤ m / 5 - f
    · have e : m / 5 - f = 0 := by omega
      simp (disch := omega) only [li_0, li_1, li_2, li_3, li_4, li_5, li_6, li_7, li_8, li_9, li_10, li_11, li_12, li_16, li_19, li_20, li_28, li_48, li_57, li_59, li_60, li_96, li_97, li_99, li_100, li_102, li_103, li_104, li_112, li_115, li_116, li_118, li_119, li_121, li_124, li_132, li_255, li_256, li_1000, li_2000, li_1000000000, iI_add, iI_sub, iI_mul, iI_neg, iI_lt, iI_le, iI_eq, iI_clamp, iI_s, iI_m1, iI_div, bs, tn, tn4, tn12, tn20, tn124, tn28, itT, itF, if_pos, if_neg, f_X8_most, sV, e]
    · simp (disch := omega) only [li_0, li_1, li_2, li_3, li_4, li_5, li_6, li_7, li_8, li_9, li_10, li_11, li_12, li_16, li_19, li_20, li_28, li_48, li_57, li_59, li_60, li_96, li_97, li_99, li_100, li_102, li_103, li_104, li_112, li_115, li_116, li_118, li_119, li_121, li_124, li_132, li_255, li_256, li_1000, li_2000, li_1000000000, iI_add, iI_sub, iI_mul, iI_neg, iI_lt, iI_le, iI_eq, iI_clamp, iI_s, iI_m1, iI_div, bs, tn, tn4, tn12, tn20, tn124, tn28, itT, itF, if_pos, if_neg, f_X8_most, sV]
theorem rR (hm : ∀ k, k < 132 → S.1 r k = iI (a k)) (hj : j < 8) (hw : WT a j) {m f : Int} (h1 : 0 ≤ m ∧ m ≤ 999) (h2 : 0 ≤ f ∧ f ≤ 999) : f_X8_reach r (iI j) (iI m) (iI f) S = some (iI (sR a j m f)) := by
  have k := hw.1
  have v := sV_b h1 h2
  rw [f_X8_reach, rV h1 h2]
  by_cases h5 : a (4 + j) = 2
  · simp (disch := omega) only [li_0, li_1, li_2, li_3, li_4, li_5, li_6, li_7, li_8, li_9, li_10, li_11, li_12, li_16, li_19, li_20, li_28, li_48, li_57, li_59, li_60, li_96, li_97, li_99, li_100, li_102, li_103, li_104, li_112, li_115, li_116, li_118, li_119, li_121, li_124, li_132, li_255, li_256, li_1000, li_2000, li_1000000000, iI_add, iI_sub, iI_mul, iI_neg, iI_lt, iI_le, iI_eq, iI_clamp, iI_s, iI_m1, iI_div, bs, tn, tn4, tn12, tn20, tn124, tn28, itT, itF, if_pos, if_neg, sR, hm]
  · by_cases h3 : a (4 + j) = 5
    · simp (disch := omega) only [li_0, li_1, li_2, li_3, li_4, li_5, li_6, li_7, li_8, li_9, li_10, li_11, li_12, li_16, li_19, li_20, li_28, li_48, li_57, li_59, li_60, li_96, li_97, li_99, li_100, li_102, li_103, li_104, li_112, li_115, li_116, li_118, li_119, li_121, li_124, li_132, li_255, li_256, li_1000, li_2000, li_1000000000, iI_add, iI_sub, iI_mul, iI_neg, iI_lt, iI_le, iI_eq, iI_clamp, iI_s, iI_m1, iI_div, bs, tn, tn4, tn12, tn20, tn124, tn28, itT, itF, if_pos, if_neg, sR, hm]
    · by_cases h4 : a (4 + j) = 4
      · simp (disch := omega) only [li_0, li_1, li_2, li_3, li_4, li_5, li_6, li_7, li_8, li_9, li_10, li_11, li_12, li_16, li_19, li_20, li_28, li_48, li_57, li_59, li_60, li_96, li_97, li_99, li_100, li_102, li_103, li_104, li_112, li_115, li_116, li_118, li_119, li_121, li_124, li_132, li_255, li_256, li_1000, li_2000, li_1000000000, iI_add, iI_sub, iI_mul, iI_neg, iI_lt, iI_le, iI_eq, iI_clamp, iI_s, iI_m1, iI_div, bs, tn, tn4, tn12, tn20, tn124, tn28, itT, itF, if_pos, if_neg, sR, hm]
      · simp (disch := omega) only [li_0, li_1, li_2, li_3, li_4, li_5, li_6, li_7, li_8, li_9, li_10, li_11, li_12, li_16, li_19, li_20, li_28, li_48, li_57, li_59, li_60, li_96, li_97, li_99, li_100, li_102, li_103, li_104, li_112, li_115, li_116, li_118, li_119, li_121, li_124, li_132, li_255, li_256, li_1000, li_2000, li_1000000000, iI_add, iI_sub, iI_mul, iI_neg, iI_lt, iI_le, iI_eq, iI_clamp, iI_s, iI_m1, iI_div, bs, tn, tn4, tn12, tn20, tn124, tn28, itT, itF, if_pos, if_neg, sR, hm]
theorem rYL (hm : ∀ k, k < 132 → S.1 r k = iI (a k)) (hj : j < 8) (hw : WT a j) {now : Nat} (hn : now ≤ 11) (hn1 : a 1 = now) {lt rr : Int} (hl : lt = 0 ∨ lt = 1) (ho : 0 ≤ rr ∧ rr ≤ 208) {k : Int32 → Option Int32} :
    ∀ m n b, m < n → m ≤ now → b ≤ now → f_X8_yearBy_L36 n r (iI j) (iI rr) (iI lt) (iI b) (iI ((m : Int) - 1)) S k = k (iI (sB (sC a j now) lt (sO now rr) m b)) := by
  intro m
  have hO : (0 < (now : Int) - rr ∧ sO now rr = (now : Int) - rr) ∨ (¬ 0 < (now : Int) - rr ∧ sO now rr = 0) := by
    rw [sO]
    by_cases h : 0 < (now : Int) - rr
    · rw [if_pos h]; exact Or.inl ⟨h, rfl⟩
    · rw [if_neg h]; exact Or.inr ⟨h, rfl⟩
  have hm1 : S.1 r 1 = iI now := by rw [hm 1 (by omega), hn1]
  induction m with
  | zero =>
    intro n b hm h2 hb
    obtain ⟨n, rfl⟩ : ∃ p, n = p + 1 := ⟨n - 1, by omega⟩
    rw [f_X8_yearBy_L36, sB]
    simp (disch := omega) only [li_0, li_1, li_2, li_3, li_4, li_5, li_6, li_7, li_8, li_9, li_10, li_11, li_12, li_16, li_19, li_20, li_28, li_48, li_57, li_59, li_60, li_96, li_97, li_99, li_100, li_102, li_103, li_104, li_112, li_115, li_116, li_118, li_119, li_121, li_124, li_132, li_255, li_256, li_1000, li_2000, li_1000000000, iI_add, iI_sub, iI_mul, iI_neg, iI_lt, iI_le, iI_eq, iI_clamp, iI_s, iI_m1, iI_div, bs, tn, tn4, tn12, tn20, tn124, tn28, itT, itF, if_pos, if_neg]
  | succ m ih =>
    intro n b h1 h2 hb
    obtain ⟨n, rfl⟩ : ∃ p, n = p + 1 := ⟨n - 1, by omega⟩
    have e : ((m + 1 : Nat) : Int) - 1 = (m : Int) := by omega
    rw [f_X8_yearBy_L36, sB, e]
    by_cases hlo : (m : Int) < sO now rr
    · simp (disch := omega) only [li_0, li_1, li_2, li_3, li_4, li_5, li_6, li_7, li_8, li_9, li_10, li_11, li_12, li_16, li_19, li_20, li_28, li_48, li_57, li_59, li_60, li_96, li_97, li_99, li_100, li_102, li_103, li_104, li_112, li_115, li_116, li_118, li_119, li_121, li_124, li_132, li_255, li_256, li_1000, li_2000, li_1000000000, iI_add, iI_sub, iI_mul, iI_neg, iI_lt, iI_le, iI_eq, iI_clamp, iI_s, iI_m1, iI_div, bs, tn, tn4, tn12, tn20, tn124, tn28, itT, itF, if_pos, if_neg, hm1]
    · have e1 := rC hm hj hw hn1 (y := m) (by omega)
      have e2 := rC hm hj hw hn1 (y := b) (by omega)
      have b1 := sC_b hw hn (y := m) (by omega)
      have b2 := sC_b hw hn (y := b) hb
      have i1 := ih n m (by omega) (by omega) (by omega)
      have i2 := ih n b (by omega) (by omega) (by omega)
      by_cases c1 : sC a j now b < sC a j now m
      · simp (disch := omega) only [li_0, li_1, li_2, li_3, li_4, li_5, li_6, li_7, li_8, li_9, li_10, li_11, li_12, li_16, li_19, li_20, li_28, li_48, li_57, li_59, li_60, li_96, li_97, li_99, li_100, li_102, li_103, li_104, li_112, li_115, li_116, li_118, li_119, li_121, li_124, li_132, li_255, li_256, li_1000, li_2000, li_1000000000, iI_add, iI_sub, iI_mul, iI_neg, iI_lt, iI_le, iI_eq, iI_clamp, iI_s, iI_m1, iI_div, bs, tn, tn4, tn12, tn20, tn124, tn28, itT, itF, if_pos, if_neg, hm1, e1, e2, i1]
      · by_cases c3 : sC a j now m = sC a j now b
        · by_cases c2 : lt = 0
          · simp (disch := omega) only [li_0, li_1, li_2, li_3, li_4, li_5, li_6, li_7, li_8, li_9, li_10, li_11, li_12, li_16, li_19, li_20, li_28, li_48, li_57, li_59, li_60, li_96, li_97, li_99, li_100, li_102, li_103, li_104, li_112, li_115, li_116, li_118, li_119, li_121, li_124, li_132, li_255, li_256, li_1000, li_2000, li_1000000000, iI_add, iI_sub, iI_mul, iI_neg, iI_lt, iI_le, iI_eq, iI_clamp, iI_s, iI_m1, iI_div, bs, tn, tn4, tn12, tn20, tn124, tn28, itT, itF, if_pos, if_neg, hm1, e1, e2, i2]
          · simp (disch := omega) only [li_0, li_1, li_2, li_3, li_4, li_5, li_6, li_7, li_8, li_9, li_10, li_11, li_12, li_16, li_19, li_20, li_28, li_48, li_57, li_59, li_60, li_96, li_97, li_99, li_100, li_102, li_103, li_104, li_112, li_115, li_116, li_118, li_119, li_121, li_124, li_132, li_255, li_256, li_1000, li_2000, li_1000000000, iI_add, iI_sub, iI_mul, iI_neg, iI_lt, iI_le, iI_eq, iI_clamp, iI_s, iI_m1, iI_div, bs, tn, tn4, tn12, tn20, tn124, tn28, itT, itF, if_pos, if_neg, hm1, e1, e2, i1]
        · simp (disch := omega) only [li_0, li_1, li_2, li_3, li_4, li_5, li_6, li_7, li_8, li_9, li_10, li_11, li_12, li_16, li_19, li_20, li_28, li_48, li_57, li_59, li_60, li_96, li_97, li_99, li_100, li_102, li_103, li_104, li_112, li_115, li_116, li_118, li_119, li_121, li_124, li_132, li_255, li_256, li_1000, li_2000, li_1000000000, iI_add, iI_sub, iI_mul, iI_neg, iI_lt, iI_le, iI_eq, iI_clamp, iI_s, iI_m1, iI_div, bs, tn, tn4, tn12, tn20, tn124, tn28, itT, itF, if_pos, if_neg, hm1, e1, e2, i2]
theorem rY (hm : ∀ k, k < 132 → S.1 r k = iI (a k)) (hj : j < 8) (hw : WT a j) {now : Nat} (hn : now ≤ 11) (hn1 : a 1 = now) {m f : Int} (h1 : 0 ≤ m ∧ m ≤ 999) (h2 : 0 ≤ f ∧ f ≤ 999) : f_X8_yearOf r (iI j) (iI m) (iI f) S = some (iI (sY a j now m f)) := by
  have k := hw.1
  have rb := sR_b hw h1 h2
  have hm1 : S.1 r 1 = iI now := by rw [hm 1 (by omega), hn1]
  have L : ∀ lt : Int, lt = 0 ∨ lt = 1 → f_X8_yearBy_L36 2000 r (iI j) (iI (sR a j m f)) (iI lt) (iI now) (iI ((now : Int) - 1)) S (fun y => some y) = some (iI (sB (sC a j now) lt (sO now (sR a j m f)) now now)) :=
    fun lt hl => rYL hm hj hw hn hn1 hl rb now 2000 now (by omega) (by omega) (by omega)
  have L0 := L 0 (Or.inl rfl)
  have L1 := L 1 (Or.inr rfl)
  rw [f_X8_yearOf, rR hm hj hw h1 h2, bs, f_X8_yearBy]
  by_cases h5 : a (4 + j) = 1
  · simp (disch := omega) only [li_0, li_1, li_2, li_3, li_4, li_5, li_6, li_7, li_8, li_9, li_10, li_11, li_12, li_16, li_19, li_20, li_28, li_48, li_57, li_59, li_60, li_96, li_97, li_99, li_100, li_102, li_103, li_104, li_112, li_115, li_116, li_118, li_119, li_121, li_124, li_132, li_255, li_256, li_1000, li_2000, li_1000000000, iI_add, iI_sub, iI_mul, iI_neg, iI_lt, iI_le, iI_eq, iI_clamp, iI_s, iI_m1, iI_div, bs, tn, tn4, tn12, tn20, tn124, tn28, itT, itF, if_pos, if_neg, sY, sL, hm, hm1, hn1, L1]
  · by_cases h3 : a (4 + j) = 3
    · simp (disch := omega) only [li_0, li_1, li_2, li_3, li_4, li_5, li_6, li_7, li_8, li_9, li_10, li_11, li_12, li_16, li_19, li_20, li_28, li_48, li_57, li_59, li_60, li_96, li_97, li_99, li_100, li_102, li_103, li_104, li_112, li_115, li_116, li_118, li_119, li_121, li_124, li_132, li_255, li_256, li_1000, li_2000, li_1000000000, iI_add, iI_sub, iI_mul, iI_neg, iI_lt, iI_le, iI_eq, iI_clamp, iI_s, iI_m1, iI_div, bs, tn, tn4, tn12, tn20, tn124, tn28, itT, itF, if_pos, if_neg, sY, sL, hm, hm1, hn1, L1]
    · simp (disch := omega) only [li_0, li_1, li_2, li_3, li_4, li_5, li_6, li_7, li_8, li_9, li_10, li_11, li_12, li_16, li_19, li_20, li_28, li_48, li_57, li_59, li_60, li_96, li_97, li_99, li_100, li_102, li_103, li_104, li_112, li_115, li_116, li_118, li_119, li_121, li_124, li_132, li_255, li_256, li_1000, li_2000, li_1000000000, iI_add, iI_sub, iI_mul, iI_neg, iI_lt, iI_le, iI_eq, iI_clamp, iI_s, iI_m1, iI_div, bs, tn, tn4, tn12, tn20, tn124, tn28, itT, itF, if_pos, if_neg, sY, sL, hm, hm1, hn1, L0]
end RT1
end
section
-- ===== bits =====
theorem iI_nI (n : Nat) : iI (n : Int) = nI n := Int32.ofInt_eq_ofNat
theorem w_l : ∀ n, n < 32 → ((nI n &&& 31).toBitVec.smod 32).toNat = n := by decide +kernel
theorem iI_bit {A : Int} {j : Nat} (h0 : 0 ≤ A) (h1 : A < 2147483648) (hj : j < 31) : (iI A >>> (iI j &&& 31)) &&& iI 1 = iI ((A.toNat / 2 ^ j % 2 : Nat) : Int) := by
  obtain ⟨n, rfl⟩ : ∃ n : Nat, A = n := ⟨A.toNat, by omega⟩
  have e1 : (iI 1 : Int32) = 1 := rfl
  have hd : n / 2 ^ j ≤ n := Nat.div_le_self _ _
  rw [iI_nI, iI_nI, pk_shrN (by omega) _ j (w_l j (by omega)), e1, pk_andN (by omega) 1 (by decide), iI_nI]
  rfl
theorem iI_and7 {j : Nat} (hj : j < 8) : iI (j : Int) &&& iI 7 = iI (j : Int) := by
  have e1 : (iI 7 : Int32) = 7 := rfl
  rw [iI_nI, e1, pk_andN (by omega) 3 (by decide), Nat.mod_eq_of_lt (by omega)]
-- ===== sums, greatest, first =====
def sSum (f : Nat → Int) : Nat → Int
  | 0 => 0
  | n + 1 => sSum f n + f n
def sMx (f : Nat → Int) : Nat → Int
  | 0 => 0
  | n + 1 => if sMx f n < f n then f n else sMx f n
def sFst (p : Nat → Bool) : Nat → Nat → Int
  | 0, _ => -9
  | d + 1, x => if p x then (x : Int) else sFst p d (x + 1)
theorem sFst_b (p : Nat → Bool) : ∀ d x, sFst p d x = -9 ∨ ((x : Int) ≤ sFst p d x ∧ sFst p d x < (x : Int) + d) := by
  intro d
  induction d with
  | zero => intro x; exact Or.inl rfl
  | succ d ih =>
    intro x
    rw [sFst]
    split
    · right; omega
    · rcases ih (x + 1) with h | h
      · exact Or.inl h
      · right; omega
theorem sSum_b {f : Nat → Int} {B : Int} {n : Nat} (hB : 0 ≤ B) : ∀ x, (∀ y, y < x → 0 ≤ f y ∧ f y ≤ B) → 0 ≤ sSum f x ∧ sSum f x ≤ B * x := by
  intro x
  induction x with
  | zero => intro _; exact ⟨Int.le_refl _, by show (0 : Int) ≤ _; omega⟩
  | succ x ih =>
    intro h
    have h1 := ih (fun y hy => h y (by omega))
    have h2 := h x (by omega)
    have e : B * ((x + 1 : Nat) : Int) = B * x + B := by rw [Int.natCast_add, Int.mul_add]; simp
    rw [sSum, e]
    omega
theorem sMx_b {f : Nat → Int} {B : Int} (hB : 0 ≤ B) : ∀ x, (∀ y, y < x → f y ≤ B) → 0 ≤ sMx f x ∧ sMx f x ≤ B := by
  intro x
  induction x with
  | zero => intro _; exact ⟨Int.le_refl _, hB⟩
  | succ x ih =>
    intro h
    have h1 := ih (fun y hy => h y (by omega))
    have h2 := h x (by omega)
    rw [sMx]
    split <;> omega
-- ===== the shop's words =====
def sHow (a : Nat → Int) (j now : Nat) : Int := if a (20 + j) < 0 then sG a j now else sG a j (a (20 + j)).toNat
def sCost (a : Nat → Int) (j : Nat) : Int := if a (4 + j) = 4 then 1 + a (12 + j) else 1
def sGY (a : Nat → Int) (j now : Nat) : Nat := sB (sG a j) 0 0 now now
def sFew (a : Nat → Int) (j now : Nat) (y : Nat) : Int := sFst (fun u => decide (sY a j now (5 * (u : Int)) 0 = y)) 20 0
def sFw (a : Nat → Int) (j now : Nat) (y : Nat) : Int := if sFew a j now y < 0 then -9 else 5 * sFew a j now y
def sBy (a : Nat → Int) (j now : Nat) : Int := sMx (fun u => sG a j (sY a j now (5 * (u : Int)) 0)) 20
def sAll (a : Nat → Int) (N now : Nat) : Int := sSum (fun j => sHow a j now) N
def sCan (a : Nat → Int) (j now : Nat) : Nat → Int32
  | 0 => iI 0
  | u + 1 => sCan a j now u ||| (iI 1 <<< (iI (sY a j now (5 * (u : Int)) 0) &&& 31))
def sSet (a : Nat → Int) : Nat → Int32
  | 0 => iI 0
  | j + 1 => if a (20 + j) < 0 then sSet a j else sSet a j ||| (iI 1 <<< (iI (j : Int) &&& 31))
def hb (a : Nat → Int) (i j : Nat) : Nat := (a (124 + i)).toNat / 2 ^ j % 2
theorem sHow_b {a : Nat → Int} {j now : Nat} (hw : WT a j) (hn : now ≤ 11) : 0 ≤ sHow a j now ∧ sHow a j now ≤ 99 := by
  have h := hw.2.2.1
  rw [sHow]
  split
  · exact sG_b hw (by omega)
  · exact sG_b hw (by omega)
theorem sCost_b {a : Nat → Int} {j : Nat} (hw : WT a j) : 1 ≤ sCost a j ∧ sCost a j ≤ 10 := by
  have h := hw.2.1
  rw [sCost]
  split <;> omega
theorem sGY_le (a : Nat → Int) (j now : Nat) : sGY a j now ≤ now := sB_le _ _ _ _ _ (by omega) (by omega)
theorem sBy_b {a : Nat → Int} {j now : Nat} (hw : WT a j) (hn : now ≤ 11) : 0 ≤ sBy a j now ∧ sBy a j now ≤ 99 :=
  sMx_b (by omega) 20 (fun u _ => (sG_b hw (by have := sY_le a j now (5 * (u : Int)) 0; omega)).2)
theorem sFew_b (a : Nat → Int) (j now y : Nat) : sFew a j now y = -9 ∨ (0 ≤ sFew a j now y ∧ sFew a j now y < 20) := by
  rcases sFst_b (fun u => decide (sY a j now (5 * (u : Int)) 0 = y)) 20 0 with h | h
  · exact Or.inl h
  · right; unfold sFew; omega
theorem sFw_b (a : Nat → Int) (j now y : Nat) : sFw a j now y = -9 ∨ (0 ≤ sFw a j now y ∧ sFw a j now y ≤ 95) := by
  rcases sFew_b a j now y with h | h
  · left; rw [sFw, if_pos (by omega)]
  · right; rw [sFw, if_neg (by omega)]; omega
theorem sAll_b {a : Nat → Int} {N now : Nat} (hw : ∀ j, j < N → WT a j) (h8 : N ≤ 8) (hn : now ≤ 11) : 0 ≤ sAll a N now ∧ sAll a N now ≤ 792 := by
  have h := sSum_b (f := fun j => sHow a j now) (n := 0) (B := 99) (by omega) N (fun y hy => sHow_b (hw y hy) hn)
  unfold sAll
  omega
-- ===== the class' thing =====
section CT2
variable {S : St} {t : Nat} {a : Nat → Int} {j : Nat}
theorem cSet (h : RT S t a j) (hw : WT a j) : f_X6_isSet t S = some (iI (if a (20 + j) < 0 then 0 else 1)) := by
  have k := hw.2.2.1
  have e := h.2.2.1
  by_cases h9 : a (20 + j) = -9
  · simp (disch := omega) only [li_0, li_1, li_2, li_3, li_4, li_5, li_6, li_7, li_8, li_9, li_10, li_11, li_12, li_16, li_19, li_20, li_28, li_48, li_57, li_59, li_60, li_96, li_97, li_99, li_100, li_102, li_103, li_104, li_112, li_115, li_116, li_118, li_119, li_121, li_124, li_132, li_255, li_256, li_1000, li_2000, li_1000000000, iI_add, iI_sub, iI_mul, iI_neg, iI_lt, iI_le, iI_eq, iI_clamp, iI_s, iI_m1, iI_div, bs, tn, tn4, tn12, tn20, tn124, tn28, itT, itF, if_pos, if_neg, f_X6_isSet, e]
  · simp (disch := omega) only [li_0, li_1, li_2, li_3, li_4, li_5, li_6, li_7, li_8, li_9, li_10, li_11, li_12, li_16, li_19, li_20, li_28, li_48, li_57, li_59, li_60, li_96, li_97, li_99, li_100, li_102, li_103, li_104, li_112, li_115, li_116, li_118, li_119, li_121, li_124, li_132, li_255, li_256, li_1000, li_2000, li_1000000000, iI_add, iI_sub, iI_mul, iI_neg, iI_lt, iI_le, iI_eq, iI_clamp, iI_s, iI_m1, iI_div, bs, tn, tn4, tn12, tn20, tn124, tn28, itT, itF, if_pos, if_neg, f_X6_isSet, e]
theorem cHow (h : RT S t a j) (hw : WT a j) {now : Nat} (hn : now ≤ 11) : f_X6_howGlad t (iI now) S = some (iI (sHow a j now)) := by
  have k := hw.2.2.1
  have e := h.2.2.1
  have e1 := cSet h hw
  have e2 := cG h (y := now) (by omega)
  by_cases h9 : a (20 + j) < 0
  · simp (disch := omega) only [li_0, li_1, li_2, li_3, li_4, li_5, li_6, li_7, li_8, li_9, li_10, li_11, li_12, li_16, li_19, li_20, li_28, li_48, li_57, li_59, li_60, li_96, li_97, li_99, li_100, li_102, li_103, li_104, li_112, li_115, li_116, li_118, li_119, li_121, li_124, li_132, li_255, li_256, li_1000, li_2000, li_1000000000, iI_add, iI_sub, iI_mul, iI_neg, iI_lt, iI_le, iI_eq, iI_clamp, iI_s, iI_m1, iI_div, bs, tn, tn4, tn12, tn20, tn124, tn28, itT, itF, if_pos, if_neg, f_X6_howGlad, sHow, e1, e2]
  · obtain ⟨y, hy⟩ : ∃ y : Nat, a (20 + j) = y := ⟨(a (20 + j)).toNat, by omega⟩
    have e3 := cG h (y := y) (by omega)
    rw [hy] at e
    simp (disch := omega) only [li_0, li_1, li_2, li_3, li_4, li_5, li_6, li_7, li_8, li_9, li_10, li_11, li_12, li_16, li_19, li_20, li_28, li_48, li_57, li_59, li_60, li_96, li_97, li_99, li_100, li_102, li_103, li_104, li_112, li_115, li_116, li_118, li_119, li_121, li_124, li_132, li_255, li_256, li_1000, li_2000, li_1000000000, iI_add, iI_sub, iI_mul, iI_neg, iI_lt, iI_le, iI_eq, iI_clamp, iI_s, iI_m1, iI_div, bs, tn, tn4, tn12, tn20, tn124, tn28, itT, itF, if_pos, if_neg, f_X6_howGlad, sHow, e1, e, e3, hy]
theorem cCost (h : RT S t a j) (hw : WT a j) : f_X6_cost t S = some (iI (sCost a j)) := by
  have k := hw.1
  have e := h.1
  have e1 := h.2.1
  by_cases h9 : a (4 + j) = 4
  · simp (disch := omega) only [li_0, li_1, li_2, li_3, li_4, li_5, li_6, li_7, li_8, li_9, li_10, li_11, li_12, li_16, li_19, li_20, li_28, li_48, li_57, li_59, li_60, li_96, li_97, li_99, li_100, li_102, li_103, li_104, li_112, li_115, li_116, li_118, li_119, li_121, li_124, li_132, li_255, li_256, li_1000, li_2000, li_1000000000, iI_add, iI_sub, iI_mul, iI_neg, iI_lt, iI_le, iI_eq, iI_clamp, iI_s, iI_m1, iI_div, bs, tn, tn4, tn12, tn20, tn124, tn28, itT, itF, if_pos, if_neg, f_X6_cost, sCost, e, e1]
  · simp (disch := omega) only [li_0, li_1, li_2, li_3, li_4, li_5, li_6, li_7, li_8, li_9, li_10, li_11, li_12, li_16, li_19, li_20, li_28, li_48, li_57, li_59, li_60, li_96, li_97, li_99, li_100, li_102, li_103, li_104, li_112, li_115, li_116, li_118, li_119, li_121, li_124, li_132, li_255, li_256, li_1000, li_2000, li_1000000000, iI_add, iI_sub, iI_mul, iI_neg, iI_lt, iI_le, iI_eq, iI_clamp, iI_s, iI_m1, iI_div, bs, tn, tn4, tn12, tn20, tn124, tn28, itT, itF, if_pos, if_neg, f_X6_cost, sCost, e, e1]
theorem cGYL (h : RT S t a j) (hw : WT a j) {now : Nat} (hn : now ≤ 11) {k : Int32 → Option Int32} :
    ∀ m n b, m < n → m ≤ now → b ≤ now → f_X6_gladdestYear_L6 n t (iI b) (iI ((m : Int) - 1)) S k = k (iI (sB (sG a j) 0 0 m b)) := by
  intro m
  induction m with
  | zero =>
    intro n b hm h2 hb
    obtain ⟨n, rfl⟩ : ∃ p, n = p + 1 := ⟨n - 1, by omega⟩
    rw [f_X6_gladdestYear_L6, sB]
    simp (disch := omega) only [li_0, li_1, li_2, li_3, li_4, li_5, li_6, li_7, li_8, li_9, li_10, li_11, li_12, li_16, li_19, li_20, li_28, li_48, li_57, li_59, li_60, li_96, li_97, li_99, li_100, li_102, li_103, li_104, li_112, li_115, li_116, li_118, li_119, li_121, li_124, li_132, li_255, li_256, li_1000, li_2000, li_1000000000, iI_add, iI_sub, iI_mul, iI_neg, iI_lt, iI_le, iI_eq, iI_clamp, iI_s, iI_m1, iI_div, bs, tn, tn4, tn12, tn20, tn124, tn28, itT, itF, if_pos, if_neg]
  | succ m ih =>
    intro n b hm h2 hb
    obtain ⟨n, rfl⟩ : ∃ p, n = p + 1 := ⟨n - 1, by omega⟩
    have e : ((m + 1 : Nat) : Int) - 1 = (m : Int) := by omega
    have e1 := cG h (y := m) (by omega)
    have e2 := cG h (y := b) (by omega)
    have b1 := sG_b hw (y := m) (by omega)
    have b2 := sG_b hw (y := b) (by omega)
    have i1 := ih n m (by omega) (by omega) (by omega)
    have i2 := ih n b (by omega) (by omega) (by omega)
    rw [f_X6_gladdestYear_L6, sB, e]
    by_cases c1 : sG a j b < sG a j m
    · simp (disch := omega) only [li_0, li_1, li_2, li_3, li_4, li_5, li_6, li_7, li_8, li_9, li_10, li_11, li_12, li_16, li_19, li_20, li_28, li_48, li_57, li_59, li_60, li_96, li_97, li_99, li_100, li_102, li_103, li_104, li_112, li_115, li_116, li_118, li_119, li_121, li_124, li_132, li_255, li_256, li_1000, li_2000, li_1000000000, iI_add, iI_sub, iI_mul, iI_neg, iI_lt, iI_le, iI_eq, iI_clamp, iI_s, iI_m1, iI_div, bs, tn, tn4, tn12, tn20, tn124, tn28, itT, itF, if_pos, if_neg, e1, e2, i1]
    · simp (disch := omega) only [li_0, li_1, li_2, li_3, li_4, li_5, li_6, li_7, li_8, li_9, li_10, li_11, li_12, li_16, li_19, li_20, li_28, li_48, li_57, li_59, li_60, li_96, li_97, li_99, li_100, li_102, li_103, li_104, li_112, li_115, li_116, li_118, li_119, li_121, li_124, li_132, li_255, li_256, li_1000, li_2000, li_1000000000, iI_add, iI_sub, iI_mul, iI_neg, iI_lt, iI_le, iI_eq, iI_clamp, iI_s, iI_m1, iI_div, bs, tn, tn4, tn12, tn20, tn124, tn28, itT, itF, if_pos, if_neg, e1, e2, i2]
theorem cGY (h : RT S t a j) (hw : WT a j) {now : Nat} (hn : now ≤ 11) : f_X6_gladdestYear t (iI now) S = some (iI (sGY a j now)) := by
  have i := cGYL h hw hn (k := fun y => some y) now 2000 now (by omega) (by omega) (by omega)
  simp (disch := omega) only [li_0, li_1, li_2, li_3, li_4, li_5, li_6, li_7, li_8, li_9, li_10, li_11, li_12, li_16, li_19, li_20, li_28, li_48, li_57, li_59, li_60, li_96, li_97, li_99, li_100, li_102, li_103, li_104, li_112, li_115, li_116, li_118, li_119, li_121, li_124, li_132, li_255, li_256, li_1000, li_2000, li_1000000000, iI_add, iI_sub, iI_mul, iI_neg, iI_lt, iI_le, iI_eq, iI_clamp, iI_s, iI_m1, iI_div, bs, tn, tn4, tn12, tn20, tn124, tn28, itT, itF, if_pos, if_neg, f_X6_gladdestYear, sGY, i]
theorem cFewL (h : RT S t a j) (hw : WT a j) {now : Nat} (hn : now ≤ 11) {y : Nat} (hy : y ≤ 11) {k : Int32 → Option Int32} {k9 : Unit → Option Int32} :
    ∀ d n u : Nat, u + d = 20 → d < n → f_X6_fewestFor_L2 n t (iI y) (iI now) (iI u) S k k9 = if sFst (fun u => decide (sY a j now (5 * (u : Int)) 0 = y)) d u < 0 then k9 () else k (iI (sFst (fun u => decide (sY a j now (5 * (u : Int)) 0 = y)) d u)) := by
  intro d
  induction d with
  | zero =>
    intro n u hu hd
    obtain ⟨n, rfl⟩ : ∃ p, n = p + 1 := ⟨n - 1, by omega⟩
    rw [f_X6_fewestFor_L2, sFst]
    simp (disch := omega) only [li_0, li_1, li_2, li_3, li_4, li_5, li_6, li_7, li_8, li_9, li_10, li_11, li_12, li_16, li_19, li_20, li_28, li_48, li_57, li_59, li_60, li_96, li_97, li_99, li_100, li_102, li_103, li_104, li_112, li_115, li_116, li_118, li_119, li_121, li_124, li_132, li_255, li_256, li_1000, li_2000, li_1000000000, iI_add, iI_sub, iI_mul, iI_neg, iI_lt, iI_le, iI_eq, iI_clamp, iI_s, iI_m1, iI_div, bs, tn, tn4, tn12, tn20, tn124, tn28, itT, itF, if_pos, if_neg]
  | succ d ih =>
    intro n u hu hd
    obtain ⟨n, rfl⟩ : ∃ p, n = p + 1 := ⟨n - 1, by omega⟩
    have e1 := cY h hw hn (m := 5 * (u : Int)) (f := 0) (by omega) (by omega)
    have ec : 5 * (u : Int) = (u : Int) * 5 := Int.mul_comm _ _
    have i1 := ih n (u + 1) (by omega) (by omega)
    have yb := sY_le a j now (5 * (u : Int)) 0
    rw [f_X6_fewestFor_L2, sFst]
    rw [ec] at e1 yb ⊢
    by_cases c1 : sY a j now ((u : Int) * 5) 0 = y
    · simp (disch := omega) only [li_0, li_1, li_2, li_3, li_4, li_5, li_6, li_7, li_8, li_9, li_10, li_11, li_12, li_16, li_19, li_20, li_28, li_48, li_57, li_59, li_60, li_96, li_97, li_99, li_100, li_102, li_103, li_104, li_112, li_115, li_116, li_118, li_119, li_121, li_124, li_132, li_255, li_256, li_1000, li_2000, li_1000000000, iI_add, iI_sub, iI_mul, iI_neg, iI_lt, iI_le, iI_eq, iI_clamp, iI_s, iI_m1, iI_div, bs, tn, tn4, tn12, tn20, tn124, tn28, itT, itF, if_pos, if_neg, e1, decide_eq_true_eq]
    · simp (disch := omega) only [li_0, li_1, li_2, li_3, li_4, li_5, li_6, li_7, li_8, li_9, li_10, li_11, li_12, li_16, li_19, li_20, li_28, li_48, li_57, li_59, li_60, li_96, li_97, li_99, li_100, li_102, li_103, li_104, li_112, li_115, li_116, li_118, li_119, li_121, li_124, li_132, li_255, li_256, li_1000, li_2000, li_1000000000, iI_add, iI_sub, iI_mul, iI_neg, iI_lt, iI_le, iI_eq, iI_clamp, iI_s, iI_m1, iI_div, bs, tn, tn4, tn12, tn20, tn124, tn28, itT, itF, if_pos, if_neg, e1, i1, decide_eq_true_eq]
theorem cFew (h : RT S t a j) (hw : WT a j) {now : Nat} (hn : now ≤ 11) {y : Nat} (hy : y ≤ 11) : f_X6_fewestFor t (iI y) (iI now) S = some (iI (sFw a j now y)) := by
  have i := cFewL h hw hn hy (k := fun y4 => some (y4 * 5)) (k9 := fun _ : Unit => some (-9)) 20 2000 0 (by omega) (by omega)
  have e : sFst (fun u => decide (sY a j now (5 * (u : Int)) 0 = y)) 20 0 = sFew a j now y := rfl
  rw [e] at i
  rw [f_X6_fewestFor, show (0 : Int32) = iI ((0 : Nat) : Int) from rfl, i, sFw]
  by_cases c : sFew a j now y < 0
  · simp (disch := omega) only [li_0, li_1, li_2, li_3, li_4, li_5, li_6, li_7, li_8, li_9, li_10, li_11, li_12, li_16, li_19, li_20, li_28, li_48, li_57, li_59, li_60, li_96, li_97, li_99, li_100, li_102, li_103, li_104, li_112, li_115, li_116, li_118, li_119, li_121, li_124, li_132, li_255, li_256, li_1000, li_2000, li_1000000000, iI_add, iI_sub, iI_mul, iI_neg, iI_lt, iI_le, iI_eq, iI_clamp, iI_s, iI_m1, iI_div, bs, tn, tn4, tn12, tn20, tn124, tn28, itT, itF, if_pos, if_neg]
  · simp (disch := omega) only [li_0, li_1, li_2, li_3, li_4, li_5, li_6, li_7, li_8, li_9, li_10, li_11, li_12, li_16, li_19, li_20, li_28, li_48, li_57, li_59, li_60, li_96, li_97, li_99, li_100, li_102, li_103, li_104, li_112, li_115, li_116, li_118, li_119, li_121, li_124, li_132, li_255, li_256, li_1000, li_2000, li_1000000000, iI_add, iI_sub, iI_mul, iI_neg, iI_lt, iI_le, iI_eq, iI_clamp, iI_s, iI_m1, iI_div, bs, tn, tn4, tn12, tn20, tn124, tn28, itT, itF, if_pos, if_neg, Int.mul_comm]
theorem cByL (h : RT S t a j) (hw : WT a j) {now : Nat} (hn : now ≤ 11) {k : Int32 → Option Int32} :
    ∀ d n u : Nat, u + d = 20 → d < n → f_X6_gladdestBy_L4 n t (iI now) (iI (sMx (fun u => sG a j (sY a j now (5 * (u : Int)) 0)) u)) (iI u) S k = k (iI (sBy a j now)) := by
  intro d
  induction d with
  | zero =>
    intro n u hu hd
    obtain ⟨n, rfl⟩ : ∃ p, n = p + 1 := ⟨n - 1, by omega⟩
    obtain rfl : u = 20 := by omega
    rw [f_X6_gladdestBy_L4, sBy]
    simp (disch := omega) only [li_0, li_1, li_2, li_3, li_4, li_5, li_6, li_7, li_8, li_9, li_10, li_11, li_12, li_16, li_19, li_20, li_28, li_48, li_57, li_59, li_60, li_96, li_97, li_99, li_100, li_102, li_103, li_104, li_112, li_115, li_116, li_118, li_119, li_121, li_124, li_132, li_255, li_256, li_1000, li_2000, li_1000000000, iI_add, iI_sub, iI_mul, iI_neg, iI_lt, iI_le, iI_eq, iI_clamp, iI_s, iI_m1, iI_div, bs, tn, tn4, tn12, tn20, tn124, tn28, itT, itF, if_pos, if_neg]
  | succ d ih =>
    intro n u hu hd
    obtain ⟨n, rfl⟩ : ∃ p, n = p + 1 := ⟨n - 1, by omega⟩
    have e1 := cY h hw hn (m := 5 * (u : Int)) (f := 0) (by omega) (by omega)
    have ec : (u : Int) * 5 = 5 * (u : Int) := Int.mul_comm _ _
    have i1 := ih n (u + 1) (by omega) (by omega)
    have yb := sY_le a j now (5 * (u : Int)) 0
    have e2 := cG h (y := sY a j now (5 * (u : Int)) 0) (by omega)
    have b2 := sG_b hw (y := sY a j now (5 * (u : Int)) 0) (by omega)
    have b3 := sMx_b (f := fun u => sG a j (sY a j now (5 * (u : Int)) 0)) (B := 99) (by omega) u (fun u _ => (sG_b hw (by have := sY_le a j now (5 * (u : Int)) 0; omega)).2)
    rw [sMx] at i1
    rw [f_X6_gladdestBy_L4]
    by_cases c1 : sMx (fun u => sG a j (sY a j now (5 * (u : Int)) 0)) u < sG a j (sY a j now (5 * (u : Int)) 0)
    · rw [if_pos c1] at i1
      simp (disch := omega) only [li_0, li_1, li_2, li_3, li_4, li_5, li_6, li_7, li_8, li_9, li_10, li_11, li_12, li_16, li_19, li_20, li_28, li_48, li_57, li_59, li_60, li_96, li_97, li_99, li_100, li_102, li_103, li_104, li_112, li_115, li_116, li_118, li_119, li_121, li_124, li_132, li_255, li_256, li_1000, li_2000, li_1000000000, iI_add, iI_sub, iI_mul, iI_neg, iI_lt, iI_le, iI_eq, iI_clamp, iI_s, iI_m1, iI_div, bs, tn, tn4, tn12, tn20, tn124, tn28, itT, itF, if_pos, if_neg, ec, e1, e2, i1]
    · rw [if_neg c1] at i1
      simp (disch := omega) only [li_0, li_1, li_2, li_3, li_4, li_5, li_6, li_7, li_8, li_9, li_10, li_11, li_12, li_16, li_19, li_20, li_28, li_48, li_57, li_59, li_60, li_96, li_97, li_99, li_100, li_102, li_103, li_104, li_112, li_115, li_116, li_118, li_119, li_121, li_124, li_132, li_255, li_256, li_1000, li_2000, li_1000000000, iI_add, iI_sub, iI_mul, iI_neg, iI_lt, iI_le, iI_eq, iI_clamp, iI_s, iI_m1, iI_div, bs, tn, tn4, tn12, tn20, tn124, tn28, itT, itF, if_pos, if_neg, ec, e1, e2, i1]
theorem cBy (h : RT S t a j) (hw : WT a j) {now : Nat} (hn : now ≤ 11) : f_X6_gladdestBy t (iI now) S = some (iI (sBy a j now)) := by
  have i := cByL h hw hn (k := fun y => some y) 20 2000 0 (by omega) (by omega)
  rw [f_X6_gladdestBy]
  exact i
end CT2
-- ===== the class' shop =====
section CS1
variable {S : St} {q : Nat} {a : Nat → Int} {N : Nat}
theorem cAt {j : Nat} (hj : j < 8) : f_X3_at q (iI j) S = some (q + 1 + 2 + 2 * j) := by
  have e := iI_and7 hj
  simp (disch := omega) only [li_0, li_1, li_2, li_3, li_4, li_5, li_6, li_7, li_8, li_9, li_10, li_11, li_12, li_16, li_19, li_20, li_28, li_48, li_57, li_59, li_60, li_96, li_97, li_99, li_100, li_102, li_103, li_104, li_112, li_115, li_116, li_118, li_119, li_121, li_124, li_132, li_255, li_256, li_1000, li_2000, li_1000000000, iI_add, iI_sub, iI_mul, iI_neg, iI_lt, iI_le, iI_eq, iI_clamp, iI_s, iI_m1, iI_div, bs, tn, tn4, tn12, tn20, tn124, tn28, itT, itF, if_pos, if_neg, f_X3_at, e]
theorem cLacks (hc : RC S q a) (hw : WFa a) {z : Int} (h1 : -2147483648 ≤ z) (h2 : z < 2147483648) : f_X3_lacks q (iI z) S = some (iI (if 0 ≤ z ∧ z < a 0 then 0 else 1)) := by
  have h8 := hw.1
  have e0 := hc.1 0 (by omega)
  by_cases c1 : z < 0
  · simp (disch := omega) only [li_0, li_1, li_2, li_3, li_4, li_5, li_6, li_7, li_8, li_9, li_10, li_11, li_12, li_16, li_19, li_20, li_28, li_48, li_57, li_59, li_60, li_96, li_97, li_99, li_100, li_102, li_103, li_104, li_112, li_115, li_116, li_118, li_119, li_121, li_124, li_132, li_255, li_256, li_1000, li_2000, li_1000000000, iI_add, iI_sub, iI_mul, iI_neg, iI_lt, iI_le, iI_eq, iI_clamp, iI_s, iI_m1, iI_div, bs, tn, tn4, tn12, tn20, tn124, tn28, itT, itF, if_pos, if_neg, f_X3_lacks]
  · by_cases c2 : a 0 ≤ z
    · simp (disch := omega) only [li_0, li_1, li_2, li_3, li_4, li_5, li_6, li_7, li_8, li_9, li_10, li_11, li_12, li_16, li_19, li_20, li_28, li_48, li_57, li_59, li_60, li_96, li_97, li_99, li_100, li_102, li_103, li_104, li_112, li_115, li_116, li_118, li_119, li_121, li_124, li_132, li_255, li_256, li_1000, li_2000, li_1000000000, iI_add, iI_sub, iI_mul, iI_neg, iI_lt, iI_le, iI_eq, iI_clamp, iI_s, iI_m1, iI_div, bs, tn, tn4, tn12, tn20, tn124, tn28, itT, itF, if_pos, if_neg, f_X3_lacks, e0]
    · simp (disch := omega) only [li_0, li_1, li_2, li_3, li_4, li_5, li_6, li_7, li_8, li_9, li_10, li_11, li_12, li_16, li_19, li_20, li_28, li_48, li_57, li_59, li_60, li_96, li_97, li_99, li_100, li_102, li_103, li_104, li_112, li_115, li_116, li_118, li_119, li_121, li_124, li_132, li_255, li_256, li_1000, li_2000, li_1000000000, iI_add, iI_sub, iI_mul, iI_neg, iI_lt, iI_le, iI_eq, iI_clamp, iI_s, iI_m1, iI_div, bs, tn, tn4, tn12, tn20, tn124, tn28, itT, itF, if_pos, if_neg, f_X3_lacks, e0]
theorem cLacksTwo (hc : RC S q a) (hw : WFa a) {z y : Int} (h1 : -2147483648 ≤ z) (h2 : z < 2147483648) (h3 : -2147483648 ≤ y) (h4 : y < 2147483648) : f_X3_lacksTwo q (iI z) (iI y) S = some (iI (if (0 ≤ z ∧ z < a 0) ∧ (0 ≤ y ∧ y < a 0) ∧ z ≠ y then 0 else 1)) := by
  have e1 := cLacks hc hw h1 h2
  have e2 := cLacks hc hw h3 h4
  have h8 := hw.1
  by_cases c1 : 0 ≤ z ∧ z < a 0
  · by_cases c2 : 0 ≤ y ∧ y < a 0
    · by_cases c3 : z = y
      · subst c3
        simp (disch := omega) only [li_0, li_1, li_2, li_3, li_4, li_5, li_6, li_7, li_8, li_9, li_10, li_11, li_12, li_16, li_19, li_20, li_28, li_48, li_57, li_59, li_60, li_96, li_97, li_99, li_100, li_102, li_103, li_104, li_112, li_115, li_116, li_118, li_119, li_121, li_124, li_132, li_255, li_256, li_1000, li_2000, li_1000000000, iI_add, iI_sub, iI_mul, iI_neg, iI_lt, iI_le, iI_eq, iI_clamp, iI_s, iI_m1, iI_div, bs, tn, tn4, tn12, tn20, tn124, tn28, itT, itF, if_pos, if_neg, f_X3_lacksTwo, e1, e2]
      · simp (disch := omega) only [li_0, li_1, li_2, li_3, li_4, li_5, li_6, li_7, li_8, li_9, li_10, li_11, li_12, li_16, li_19, li_20, li_28, li_48, li_57, li_59, li_60, li_96, li_97, li_99, li_100, li_102, li_103, li_104, li_112, li_115, li_116, li_118, li_119, li_121, li_124, li_132, li_255, li_256, li_1000, li_2000, li_1000000000, iI_add, iI_sub, iI_mul, iI_neg, iI_lt, iI_le, iI_eq, iI_clamp, iI_s, iI_m1, iI_div, bs, tn, tn4, tn12, tn20, tn124, tn28, itT, itF, if_pos, if_neg, f_X3_lacksTwo, e1, e2]
    · simp (disch := omega) only [li_0, li_1, li_2, li_3, li_4, li_5, li_6, li_7, li_8, li_9, li_10, li_11, li_12, li_16, li_19, li_20, li_28, li_48, li_57, li_59, li_60, li_96, li_97, li_99, li_100, li_102, li_103, li_104, li_112, li_115, li_116, li_118, li_119, li_121, li_124, li_132, li_255, li_256, li_1000, li_2000, li_1000000000, iI_add, iI_sub, iI_mul, iI_neg, iI_lt, iI_le, iI_eq, iI_clamp, iI_s, iI_m1, iI_div, bs, tn, tn4, tn12, tn20, tn124, tn28, itT, itF, if_pos, if_neg, f_X3_lacksTwo, e1, e2]
  · simp (disch := omega) only [li_0, li_1, li_2, li_3, li_4, li_5, li_6, li_7, li_8, li_9, li_10, li_11, li_12, li_16, li_19, li_20, li_28, li_48, li_57, li_59, li_60, li_96, li_97, li_99, li_100, li_102, li_103, li_104, li_112, li_115, li_116, li_118, li_119, li_121, li_124, li_132, li_255, li_256, li_1000, li_2000, li_1000000000, iI_add, iI_sub, iI_mul, iI_neg, iI_lt, iI_le, iI_eq, iI_clamp, iI_s, iI_m1, iI_div, bs, tn, tn4, tn12, tn20, tn124, tn28, itT, itF, if_pos, if_neg, f_X3_lacksTwo, e1, e2]
theorem hb_le (a : Nat → Int) (i j : Nat) : hb a i j = 0 ∨ hb a i j = 1 := by
  unfold hb
  omega
theorem cHalves (hc : RC S q a) (hw : WFa a) (hN : a 0 = N) {i j : Nat} (hi : i < N) (hj : j < N) (hij : i ≠ j) : f_X3_areHalves q (iI i) (iI j) S = some (iI (hb a i j)) := by
  have h8 := hw.1
  have e1 := cLacksTwo hc hw (z := i) (y := j) (by omega) (by omega) (by omega) (by omega)
  have e2 := hc.2.1 i (by omega)
  have b := (hw.2.2.2.2.1 i (by omega)).2.2.2.2
  have e3 := iI_bit (A := a (124 + i)) (j := j) b.1 (by omega) (by omega)
  have e4 : (((a (124 + i)).toNat / 2 ^ j % 2 : Nat) : Int) = (hb a i j : Int) := rfl
  rcases hb_le a i j with c | c
  · simp (disch := omega) only [li_0, li_1, li_2, li_3, li_4, li_5, li_6, li_7, li_8, li_9, li_10, li_11, li_12, li_16, li_19, li_20, li_28, li_48, li_57, li_59, li_60, li_96, li_97, li_99, li_100, li_102, li_103, li_104, li_112, li_115, li_116, li_118, li_119, li_121, li_124, li_132, li_255, li_256, li_1000, li_2000, li_1000000000, iI_add, iI_sub, iI_mul, iI_neg, iI_lt, iI_le, iI_eq, iI_clamp, iI_s, iI_m1, iI_div, bs, tn, tn4, tn12, tn20, tn124, tn28, itT, itF, if_pos, if_neg, f_X3_areHalves, e1, e2, e3, e4, c]
    rfl
  · simp (disch := omega) only [li_0, li_1, li_2, li_3, li_4, li_5, li_6, li_7, li_8, li_9, li_10, li_11, li_12, li_16, li_19, li_20, li_28, li_48, li_57, li_59, li_60, li_96, li_97, li_99, li_100, li_102, li_103, li_104, li_112, li_115, li_116, li_118, li_119, li_121, li_124, li_132, li_255, li_256, li_1000, li_2000, li_1000000000, iI_add, iI_sub, iI_mul, iI_neg, iI_lt, iI_le, iI_eq, iI_clamp, iI_s, iI_m1, iI_div, bs, tn, tn4, tn12, tn20, tn124, tn28, itT, itF, if_pos, if_neg, f_X3_areHalves, e1, e2, e3, e4, c]
    rfl
theorem cAllL (hc : RC S q a) (hw : WFa a) (hN : a 0 = N) {now : Nat} (hn : now ≤ 11) {k : Int32 → Option Int32} :
    ∀ d n x : Nat, x + d = N → d < n → f_X3_gladTogether_L4 n q (iI now) (iI (sAll a x now)) (iI x) S k = k (iI (sAll a N now)) := by
  have h8 := hw.1
  have e0 : S.1 q 0 = iI (a 0) := hc.1 0 (by omega)
  intro d
  induction d with
  | zero =>
    intro n x hx hd
    obtain ⟨n, rfl⟩ : ∃ p, n = p + 1 := ⟨n - 1, by omega⟩
    obtain rfl : x = N := by omega
    rw [f_X3_gladTogether_L4]
    simp (disch := omega) only [li_0, li_1, li_2, li_3, li_4, li_5, li_6, li_7, li_8, li_9, li_10, li_11, li_12, li_16, li_19, li_20, li_28, li_48, li_57, li_59, li_60, li_96, li_97, li_99, li_100, li_102, li_103, li_104, li_112, li_115, li_116, li_118, li_119, li_121, li_124, li_132, li_255, li_256, li_1000, li_2000, li_1000000000, iI_add, iI_sub, iI_mul, iI_neg, iI_lt, iI_le, iI_eq, iI_clamp, iI_s, iI_m1, iI_div, bs, tn, tn4, tn12, tn20, tn124, tn28, itT, itF, if_pos, if_neg, e0, hN]
  | succ d ih =>
    intro n x hx hd
    obtain ⟨n, rfl⟩ : ∃ p, n = p + 1 := ⟨n - 1, by omega⟩
    have i1 := ih n (x + 1) (by omega) (by omega)
    have e1 := cAt (S := S) (q := q) (j := x) (by omega)
    have e2 := cHow (hc.t (j := x) (by omega) (by omega)) (hw.t (by omega)) hn
    have e3 : sAll a (x + 1) now = sAll a x now + sHow a x now := rfl
    rw [e3] at i1
    rw [f_X3_gladTogether_L4]
    simp (disch := omega) only [li_0, li_1, li_2, li_3, li_4, li_5, li_6, li_7, li_8, li_9, li_10, li_11, li_12, li_16, li_19, li_20, li_28, li_48, li_57, li_59, li_60, li_96, li_97, li_99, li_100, li_102, li_103, li_104, li_112, li_115, li_116, li_118, li_119, li_121, li_124, li_132, li_255, li_256, li_1000, li_2000, li_1000000000, iI_add, iI_sub, iI_mul, iI_neg, iI_lt, iI_le, iI_eq, iI_clamp, iI_s, iI_m1, iI_div, bs, tn, tn4, tn12, tn20, tn124, tn28, itT, itF, if_pos, if_neg, e0, hN, e1, e2, i1]
theorem cAll (hc : RC S q a) (hw : WFa a) (hN : a 0 = N) {now : Nat} (hn : now ≤ 11) : f_X3_gladTogether q (iI now) S = some (iI (sAll a N now)) := by
  have h8 := hw.1
  have i := cAllL hc hw hN hn (k := fun y => some y) N 2000 0 (by omega) (by omega)
  rw [f_X3_gladTogether]
  exact i
theorem cSetL (hc : RC S q a) (hw : WFa a) (hN : a 0 = N) {k : Int32 → Option Int32} :
    ∀ d n x : Nat, x + d = N → d < n → f_X3_setBits_L4 n q (sSet a x) (iI x) S k = k (sSet a N) := by
  have h8 := hw.1
  have e0 : S.1 q 0 = iI (a 0) := hc.1 0 (by omega)
  intro d
  induction d with
  | zero =>
    intro n x hx hd
    obtain ⟨n, rfl⟩ : ∃ p, n = p + 1 := ⟨n - 1, by omega⟩
    obtain rfl : x = N := by omega
    rw [f_X3_setBits_L4]
    simp (disch := omega) only [li_0, li_1, li_2, li_3, li_4, li_5, li_6, li_7, li_8, li_9, li_10, li_11, li_12, li_16, li_19, li_20, li_28, li_48, li_57, li_59, li_60, li_96, li_97, li_99, li_100, li_102, li_103, li_104, li_112, li_115, li_116, li_118, li_119, li_121, li_124, li_132, li_255, li_256, li_1000, li_2000, li_1000000000, iI_add, iI_sub, iI_mul, iI_neg, iI_lt, iI_le, iI_eq, iI_clamp, iI_s, iI_m1, iI_div, bs, tn, tn4, tn12, tn20, tn124, tn28, itT, itF, if_pos, if_neg, e0, hN]
  | succ d ih =>
    intro n x hx hd
    obtain ⟨n, rfl⟩ : ∃ p, n = p + 1 := ⟨n - 1, by omega⟩
    have i1 := ih n (x + 1) (by omega) (by omega)
    have e1 := cAt (S := S) (q := q) (j := x) (by omega)
    have e2 := cSet (hc.t (j := x) (by omega) (by omega)) (hw.t (by omega))
    rw [sSet] at i1
    rw [f_X3_setBits_L4]
    by_cases c : a (20 + x) < 0
    · rw [if_pos c] at i1
      simp (disch := omega) only [li_0, li_1, li_2, li_3, li_4, li_5, li_6, li_7, li_8, li_9, li_10, li_11, li_12, li_16, li_19, li_20, li_28, li_48, li_57, li_59, li_60, li_96, li_97, li_99, li_100, li_102, li_103, li_104, li_112, li_115, li_116, li_118, li_119, li_121, li_124, li_132, li_255, li_256, li_1000, li_2000, li_1000000000, iI_add, iI_sub, iI_mul, iI_neg, iI_lt, iI_le, iI_eq, iI_clamp, iI_s, iI_m1, iI_div, bs, tn, tn4, tn12, tn20, tn124, tn28, itT, itF, if_pos, if_neg, e0, hN, e1, e2, i1]
    · rw [if_neg c] at i1
      simp (disch := omega) only [li_0, li_1, li_2, li_3, li_4, li_5, li_6, li_7, li_8, li_9, li_10, li_11, li_12, li_16, li_19, li_20, li_28, li_48, li_57, li_59, li_60, li_96, li_97, li_99, li_100, li_102, li_103, li_104, li_112, li_115, li_116, li_118, li_119, li_121, li_124, li_132, li_255, li_256, li_1000, li_2000, li_1000000000, iI_add, iI_sub, iI_mul, iI_neg, iI_lt, iI_le, iI_eq, iI_clamp, iI_s, iI_m1, iI_div, bs, tn, tn4, tn12, tn20, tn124, tn28, itT, itF, if_pos, if_neg, e0, hN, e1, e2, i1]
theorem cSetBits (hc : RC S q a) (hw : WFa a) (hN : a 0 = N) : f_X3_setBits q S = some (sSet a N) := by
  have h8 := hw.1
  have i := cSetL hc hw hN (k := fun y => some y) N 2000 0 (by omega) (by omega)
  rw [f_X3_setBits]
  exact i
end CS1
-- ===== the reference's shop =====
section RS1
variable {S : St} {r : Nat} {a : Nat → Int} {j N : Nat}
theorem rIn {x l u : Int} (h1 : -2147483648 ≤ x) (h2 : x < 2147483648) (h3 : -2147483648 ≤ l) (h4 : l < 2147483648) (h5 : -2147483648 ≤ u) (h6 : u < 2147483648) : f_X8_isIn (iI x) (iI l) (iI u) = some (iI (if l ≤ x ∧ x ≤ u then 1 else 0)) := by
  by_cases c1 : x < l
  · simp (disch := omega) only [li_0, li_1, li_2, li_3, li_4, li_5, li_6, li_7, li_8, li_9, li_10, li_11, li_12, li_16, li_19, li_20, li_28, li_48, li_57, li_59, li_60, li_96, li_97, li_99, li_100, li_102, li_103, li_104, li_112, li_115, li_116, li_118, li_119, li_121, li_124, li_132, li_255, li_256, li_1000, li_2000, li_1000000000, iI_add, iI_sub, iI_mul, iI_neg, iI_lt, iI_le, iI_eq, iI_clamp, iI_s, iI_m1, iI_div, bs, tn, tn4, tn12, tn20, tn124, tn28, itT, itF, if_pos, if_neg, f_X8_isIn]
  · by_cases c2 : u < x
    · simp (disch := omega) only [li_0, li_1, li_2, li_3, li_4, li_5, li_6, li_7, li_8, li_9, li_10, li_11, li_12, li_16, li_19, li_20, li_28, li_48, li_57, li_59, li_60, li_96, li_97, li_99, li_100, li_102, li_103, li_104, li_112, li_115, li_116, li_118, li_119, li_121, li_124, li_132, li_255, li_256, li_1000, li_2000, li_1000000000, iI_add, iI_sub, iI_mul, iI_neg, iI_lt, iI_le, iI_eq, iI_clamp, iI_s, iI_m1, iI_div, bs, tn, tn4, tn12, tn20, tn124, tn28, itT, itF, if_pos, if_neg, f_X8_isIn]
    · simp (disch := omega) only [li_0, li_1, li_2, li_3, li_4, li_5, li_6, li_7, li_8, li_9, li_10, li_11, li_12, li_16, li_19, li_20, li_28, li_48, li_57, li_59, li_60, li_96, li_97, li_99, li_100, li_102, li_103, li_104, li_112, li_115, li_116, li_118, li_119, li_121, li_124, li_132, li_255, li_256, li_1000, li_2000, li_1000000000, iI_add, iI_sub, iI_mul, iI_neg, iI_lt, iI_le, iI_eq, iI_clamp, iI_s, iI_m1, iI_div, bs, tn, tn4, tn12, tn20, tn124, tn28, itT, itF, if_pos, if_neg, f_X8_isIn]
theorem rCost (hm : ∀ k, k < 132 → S.1 r k = iI (a k)) (hj : j < 8) (hw : WT a j) : f_X8_cost r (iI j) S = some (iI (sCost a j)) := by
  have k := hw.1
  by_cases h9 : a (4 + j) = 4
  · simp (disch := omega) only [li_0, li_1, li_2, li_3, li_4, li_5, li_6, li_7, li_8, li_9, li_10, li_11, li_12, li_16, li_19, li_20, li_28, li_48, li_57, li_59, li_60, li_96, li_97, li_99, li_100, li_102, li_103, li_104, li_112, li_115, li_116, li_118, li_119, li_121, li_124, li_132, li_255, li_256, li_1000, li_2000, li_1000000000, iI_add, iI_sub, iI_mul, iI_neg, iI_lt, iI_le, iI_eq, iI_clamp, iI_s, iI_m1, iI_div, bs, tn, tn4, tn12, tn20, tn124, tn28, itT, itF, if_pos, if_neg, f_X8_cost, sCost, hm]
  · simp (disch := omega) only [li_0, li_1, li_2, li_3, li_4, li_5, li_6, li_7, li_8, li_9, li_10, li_11, li_12, li_16, li_19, li_20, li_28, li_48, li_57, li_59, li_60, li_96, li_97, li_99, li_100, li_102, li_103, li_104, li_112, li_115, li_116, li_118, li_119, li_121, li_124, li_132, li_255, li_256, li_1000, li_2000, li_1000000000, iI_add, iI_sub, iI_mul, iI_neg, iI_lt, iI_le, iI_eq, iI_clamp, iI_s, iI_m1, iI_div, bs, tn, tn4, tn12, tn20, tn124, tn28, itT, itF, if_pos, if_neg, f_X8_cost, sCost, hm]
theorem rHow (hm : ∀ k, k < 132 → S.1 r k = iI (a k)) (hj : j < 8) (hw : WT a j) {now : Nat} (hn : now ≤ 11) (hn1 : a 1 = now) : f_X8_gladOf r (iI j) S = some (iI (sHow a j now)) := by
  have k := hw.2.2.1
  have hm1 : S.1 r 1 = iI now := by rw [hm 1 (by omega), hn1]
  by_cases h9 : a (20 + j) < 0
  · simp (disch := omega) only [li_0, li_1, li_2, li_3, li_4, li_5, li_6, li_7, li_8, li_9, li_10, li_11, li_12, li_16, li_19, li_20, li_28, li_48, li_57, li_59, li_60, li_96, li_97, li_99, li_100, li_102, li_103, li_104, li_112, li_115, li_116, li_118, li_119, li_121, li_124, li_132, li_255, li_256, li_1000, li_2000, li_1000000000, iI_add, iI_sub, iI_mul, iI_neg, iI_lt, iI_le, iI_eq, iI_clamp, iI_s, iI_m1, iI_div, bs, tn, tn4, tn12, tn20, tn124, tn28, itT, itF, if_pos, if_neg, f_X8_gladOf, sHow, sG, rAt, hm1, hm]
  · obtain ⟨y, hy⟩ : ∃ y : Nat, a (20 + j) = y := ⟨(a (20 + j)).toNat, by omega⟩
    have e : S.1 r (20 + j) = iI y := by rw [hm _ (by omega), hy]
    simp (disch := omega) only [li_0, li_1, li_2, li_3, li_4, li_5, li_6, li_7, li_8, li_9, li_10, li_11, li_12, li_16, li_19, li_20, li_28, li_48, li_57, li_59, li_60, li_96, li_97, li_99, li_100, li_102, li_103, li_104, li_112, li_115, li_116, li_118, li_119, li_121, li_124, li_132, li_255, li_256, li_1000, li_2000, li_1000000000, iI_add, iI_sub, iI_mul, iI_neg, iI_lt, iI_le, iI_eq, iI_clamp, iI_s, iI_m1, iI_div, bs, tn, tn4, tn12, tn20, tn124, tn28, itT, itF, if_pos, if_neg, f_X8_gladOf, sHow, sG, rAt, e, hy, hm]
theorem rAllL (hm : ∀ k, k < 132 → S.1 r k = iI (a k)) (hw : ∀ j, j < N → WT a j) (hN : a 0 = N) (h8 : N ≤ 8) {now : Nat} (hn : now ≤ 11) (hn1 : a 1 = now) {k : Int32 → Option Int32} :
    ∀ d n x : Nat, x + d = N → d < n → f_X8_gladAll_L4 n r (iI (sAll a x now)) (iI x) S k = k (iI (sAll a N now)) := by
  have e0 : S.1 r 0 = iI N := by rw [hm 0 (by omega), hN]
  intro d
  induction d with
  | zero =>
    intro n x hx hd
    obtain ⟨n, rfl⟩ : ∃ p, n = p + 1 := ⟨n - 1, by omega⟩
    obtain rfl : x = N := by omega
    rw [f_X8_gladAll_L4]
    simp (disch := omega) only [li_0, li_1, li_2, li_3, li_4, li_5, li_6, li_7, li_8, li_9, li_10, li_11, li_12, li_16, li_19, li_20, li_28, li_48, li_57, li_59, li_60, li_96, li_97, li_99, li_100, li_102, li_103, li_104, li_112, li_115, li_116, li_118, li_119, li_121, li_124, li_132, li_255, li_256, li_1000, li_2000, li_1000000000, iI_add, iI_sub, iI_mul, iI_neg, iI_lt, iI_le, iI_eq, iI_clamp, iI_s, iI_m1, iI_div, bs, tn, tn4, tn12, tn20, tn124, tn28, itT, itF, if_pos, if_neg, e0]
  | succ d ih =>
    intro n x hx hd
    obtain ⟨n, rfl⟩ : ∃ p, n = p + 1 := ⟨n - 1, by omega⟩
    have i1 := ih n (x + 1) (by omega) (by omega)
    have e2 := rHow hm (j := x) (by omega) (hw x (by omega)) hn hn1
    have e3 : sAll a (x + 1) now = sAll a x now + sHow a x now := rfl
    rw [e3] at i1
    rw [f_X8_gladAll_L4]
    simp (disch := omega) only [li_0, li_1, li_2, li_3, li_4, li_5, li_6, li_7, li_8, li_9, li_10, li_11, li_12, li_16, li_19, li_20, li_28, li_48, li_57, li_59, li_60, li_96, li_97, li_99, li_100, li_102, li_103, li_104, li_112, li_115, li_116, li_118, li_119, li_121, li_124, li_132, li_255, li_256, li_1000, li_2000, li_1000000000, iI_add, iI_sub, iI_mul, iI_neg, iI_lt, iI_le, iI_eq, iI_clamp, iI_s, iI_m1, iI_div, bs, tn, tn4, tn12, tn20, tn124, tn28, itT, itF, if_pos, if_neg, e0, e2, i1]
theorem rAll (hm : ∀ k, k < 132 → S.1 r k = iI (a k)) (hw : ∀ j, j < N → WT a j) (hN : a 0 = N) (h8 : N ≤ 8) {now : Nat} (hn : now ≤ 11) (hn1 : a 1 = now) : f_X8_gladAll r S = some (iI (sAll a N now)) := by
  have i := rAllL hm hw hN h8 hn hn1 (k := fun y => some y) N 2000 0 (by omega) (by omega)
  rw [f_X8_gladAll]
  exact i
theorem sY5 (a : Nat → Int) (j now : Nat) {m : Int} {u : Nat} {f : Int} (h : m / 5 = u) : sY a j now m f = sY a j now (5 * (u : Int)) f := by
  have e : sV m f = sV (5 * (u : Int)) f := by
    unfold sV
    rw [h, show 5 * (u : Int) / 5 = u by omega]
  unfold sY sR
  rw [e]
theorem rFewL (hm : ∀ k, k < 132 → S.1 r k = iI (a k)) (hj : j < 8) (hw : WT a j) {now : Nat} (hn : now ≤ 11) (hn1 : a 1 = now) {y : Nat} (hy : y ≤ 11) {k : Int32 → Option Int32} {k9 : Unit → Option Int32} :
    ∀ d n u : Nat, u + d = 20 → 5 * d < n → f_X8_fewestOf_L2 n r (iI j) (iI y) (iI (5 * (u : Int))) S k k9 = if sFst (fun u => decide (sY a j now (5 * (u : Int)) 0 = y)) d u < 0 then k9 () else k (iI (5 * sFst (fun u => decide (sY a j now (5 * (u : Int)) 0 = y)) d u)) := by
  intro d
  induction d with
  | zero =>
    intro n u hu hd
    obtain ⟨n, rfl⟩ : ∃ p, n = p + 1 := ⟨n - 1, by omega⟩
    rw [f_X8_fewestOf_L2, sFst]
    simp (disch := omega) only [li_0, li_1, li_2, li_3, li_4, li_5, li_6, li_7, li_8, li_9, li_10, li_11, li_12, li_16, li_19, li_20, li_28, li_48, li_57, li_59, li_60, li_96, li_97, li_99, li_100, li_102, li_103, li_104, li_112, li_115, li_116, li_118, li_119, li_121, li_124, li_132, li_255, li_256, li_1000, li_2000, li_1000000000, iI_add, iI_sub, iI_mul, iI_neg, iI_lt, iI_le, iI_eq, iI_clamp, iI_s, iI_m1, iI_div, bs, tn, tn4, tn12, tn20, tn124, tn28, itT, itF, if_pos, if_neg]
  | succ d ih =>
    intro n u hu hd
    obtain ⟨n, rfl⟩ : ∃ p, n = p + 1 + 1 + 1 + 1 + 1 := ⟨n - 5, by omega⟩
    have e0 := rY hm hj hw hn hn1 (m := 5 * (u : Int)) (f := 0) (by omega) (by omega)
    have e1 := rY hm hj hw hn hn1 (m := 5 * (u : Int) + 1) (f := 0) (by omega) (by omega)
    have e2 := rY hm hj hw hn hn1 (m := 5 * (u : Int) + 1 + 1) (f := 0) (by omega) (by omega)
    have e3 := rY hm hj hw hn hn1 (m := 5 * (u : Int) + 1 + 1 + 1) (f := 0) (by omega) (by omega)
    have e4 := rY hm hj hw hn hn1 (m := 5 * (u : Int) + 1 + 1 + 1 + 1) (f := 0) (by omega) (by omega)
    rw [sY5 a j now (u := u) (by omega)] at e1 e2 e3 e4
    have i1 := ih n (u + 1) (by omega) (by omega)
    have ec : 5 * ((u + 1 : Nat) : Int) = 5 * (u : Int) + 1 + 1 + 1 + 1 + 1 := by omega
    rw [ec] at i1
    have yb := sY_le a j now (5 * (u : Int)) 0
    rw [f_X8_fewestOf_L2, sFst]
    by_cases c1 : sY a j now (5 * (u : Int)) 0 = y
    · simp (disch := omega) only [li_0, li_1, li_2, li_3, li_4, li_5, li_6, li_7, li_8, li_9, li_10, li_11, li_12, li_16, li_19, li_20, li_28, li_48, li_57, li_59, li_60, li_96, li_97, li_99, li_100, li_102, li_103, li_104, li_112, li_115, li_116, li_118, li_119, li_121, li_124, li_132, li_255, li_256, li_1000, li_2000, li_1000000000, iI_add, iI_sub, iI_mul, iI_neg, iI_lt, iI_le, iI_eq, iI_clamp, iI_s, iI_m1, iI_div, bs, tn, tn4, tn12, tn20, tn124, tn28, itT, itF, if_pos, if_neg, e0, decide_eq_true_eq]
    · simp (disch := omega) only [li_0, li_1, li_2, li_3, li_4, li_5, li_6, li_7, li_8, li_9, li_10, li_11, li_12, li_16, li_19, li_20, li_28, li_48, li_57, li_59, li_60, li_96, li_97, li_99, li_100, li_102, li_103, li_104, li_112, li_115, li_116, li_118, li_119, li_121, li_124, li_132, li_255, li_256, li_1000, li_2000, li_1000000000, iI_add, iI_sub, iI_mul, iI_neg, iI_lt, iI_le, iI_eq, iI_clamp, iI_s, iI_m1, iI_div, bs, tn, tn4, tn12, tn20, tn124, tn28, itT, itF, if_pos, if_neg, e0, decide_eq_true_eq]
      rw [f_X8_fewestOf_L2]
      simp (disch := omega) only [li_0, li_1, li_2, li_3, li_4, li_5, li_6, li_7, li_8, li_9, li_10, li_11, li_12, li_16, li_19, li_20, li_28, li_48, li_57, li_59, li_60, li_96, li_97, li_99, li_100, li_102, li_103, li_104, li_112, li_115, li_116, li_118, li_119, li_121, li_124, li_132, li_255, li_256, li_1000, li_2000, li_1000000000, iI_add, iI_sub, iI_mul, iI_neg, iI_lt, iI_le, iI_eq, iI_clamp, iI_s, iI_m1, iI_div, bs, tn, tn4, tn12, tn20, tn124, tn28, itT, itF, if_pos, if_neg, e1]
      rw [f_X8_fewestOf_L2]
      simp (disch := omega) only [li_0, li_1, li_2, li_3, li_4, li_5, li_6, li_7, li_8, li_9, li_10, li_11, li_12, li_16, li_19, li_20, li_28, li_48, li_57, li_59, li_60, li_96, li_97, li_99, li_100, li_102, li_103, li_104, li_112, li_115, li_116, li_118, li_119, li_121, li_124, li_132, li_255, li_256, li_1000, li_2000, li_1000000000, iI_add, iI_sub, iI_mul, iI_neg, iI_lt, iI_le, iI_eq, iI_clamp, iI_s, iI_m1, iI_div, bs, tn, tn4, tn12, tn20, tn124, tn28, itT, itF, if_pos, if_neg, e2]
      rw [f_X8_fewestOf_L2]
      simp (disch := omega) only [li_0, li_1, li_2, li_3, li_4, li_5, li_6, li_7, li_8, li_9, li_10, li_11, li_12, li_16, li_19, li_20, li_28, li_48, li_57, li_59, li_60, li_96, li_97, li_99, li_100, li_102, li_103, li_104, li_112, li_115, li_116, li_118, li_119, li_121, li_124, li_132, li_255, li_256, li_1000, li_2000, li_1000000000, iI_add, iI_sub, iI_mul, iI_neg, iI_lt, iI_le, iI_eq, iI_clamp, iI_s, iI_m1, iI_div, bs, tn, tn4, tn12, tn20, tn124, tn28, itT, itF, if_pos, if_neg, e3]
      rw [f_X8_fewestOf_L2]
      simp (disch := omega) only [li_0, li_1, li_2, li_3, li_4, li_5, li_6, li_7, li_8, li_9, li_10, li_11, li_12, li_16, li_19, li_20, li_28, li_48, li_57, li_59, li_60, li_96, li_97, li_99, li_100, li_102, li_103, li_104, li_112, li_115, li_116, li_118, li_119, li_121, li_124, li_132, li_255, li_256, li_1000, li_2000, li_1000000000, iI_add, iI_sub, iI_mul, iI_neg, iI_lt, iI_le, iI_eq, iI_clamp, iI_s, iI_m1, iI_div, bs, tn, tn4, tn12, tn20, tn124, tn28, itT, itF, if_pos, if_neg, e4, i1]
theorem rFew (hm : ∀ k, k < 132 → S.1 r k = iI (a k)) (hj : j < 8) (hw : WT a j) {now : Nat} (hn : now ≤ 11) (hn1 : a 1 = now) {y : Nat} (hy : y ≤ 11) : f_X8_fewestOf r (iI j) (iI y) S = some (iI (sFw a j now y)) := by
  have i := rFewL hm hj hw hn hn1 hy (k := fun y4 => some y4) (k9 := fun _ : Unit => some (-9)) 20 2000 0 (by omega) (by omega)
  have e : sFst (fun u => decide (sY a j now (5 * (u : Int)) 0 = y)) 20 0 = sFew a j now y := rfl
  rw [e] at i
  rw [f_X8_fewestOf, show (0 : Int32) = iI (5 * ((0 : Nat) : Int)) from rfl, i, sFw]
  by_cases c : sFew a j now y < 0
  · simp (disch := omega) only [li_0, li_1, li_2, li_3, li_4, li_5, li_6, li_7, li_8, li_9, li_10, li_11, li_12, li_16, li_19, li_20, li_28, li_48, li_57, li_59, li_60, li_96, li_97, li_99, li_100, li_102, li_103, li_104, li_112, li_115, li_116, li_118, li_119, li_121, li_124, li_132, li_255, li_256, li_1000, li_2000, li_1000000000, iI_add, iI_sub, iI_mul, iI_neg, iI_lt, iI_le, iI_eq, iI_clamp, iI_s, iI_m1, iI_div, bs, tn, tn4, tn12, tn20, tn124, tn28, itT, itF, if_pos, if_neg]
  · simp (disch := omega) only [li_0, li_1, li_2, li_3, li_4, li_5, li_6, li_7, li_8, li_9, li_10, li_11, li_12, li_16, li_19, li_20, li_28, li_48, li_57, li_59, li_60, li_96, li_97, li_99, li_100, li_102, li_103, li_104, li_112, li_115, li_116, li_118, li_119, li_121, li_124, li_132, li_255, li_256, li_1000, li_2000, li_1000000000, iI_add, iI_sub, iI_mul, iI_neg, iI_lt, iI_le, iI_eq, iI_clamp, iI_s, iI_m1, iI_div, bs, tn, tn4, tn12, tn20, tn124, tn28, itT, itF, if_pos, if_neg]
theorem rCanL (hm : ∀ k, k < 132 → S.1 r k = iI (a k)) (hj : j < 8) (hw : WT a j) {now : Nat} (hn : now ≤ 11) (hn1 : a 1 = now) {k : Int32 → Option Int32} :
    ∀ d n u : Nat, u + d = 20 → d < n → f_X8_canOf_L4 n r (iI j) (sCan a j now u) (iI (5 * (u : Int))) S k = k (sCan a j now 20) := by
  intro d
  induction d with
  | zero =>
    intro n u hu hd
    obtain ⟨n, rfl⟩ : ∃ p, n = p + 1 := ⟨n - 1, by omega⟩
    obtain rfl : u = 20 := by omega
    rw [f_X8_canOf_L4]
    simp (disch := omega) only [li_0, li_1, li_2, li_3, li_4, li_5, li_6, li_7, li_8, li_9, li_10, li_11, li_12, li_16, li_19, li_20, li_28, li_48, li_57, li_59, li_60, li_96, li_97, li_99, li_100, li_102, li_103, li_104, li_112, li_115, li_116, li_118, li_119, li_121, li_124, li_132, li_255, li_256, li_1000, li_2000, li_1000000000, iI_add, iI_sub, iI_mul, iI_neg, iI_lt, iI_le, iI_eq, iI_clamp, iI_s, iI_m1, iI_div, bs, tn, tn4, tn12, tn20, tn124, tn28, itT, itF, if_pos, if_neg]
  | succ d ih =>
    intro n u hu hd
    obtain ⟨n, rfl⟩ : ∃ p, n = p + 1 := ⟨n - 1, by omega⟩
    have e0 := rY hm hj hw hn hn1 (m := 5 * (u : Int)) (f := 0) (by omega) (by omega)
    have i1 := ih n (u + 1) (by omega) (by omega)
    have ec : 5 * ((u + 1 : Nat) : Int) = 5 * (u : Int) + 5 := by omega
    rw [ec, sCan] at i1
    rw [f_X8_canOf_L4]
    simp (disch := omega) only [li_0, li_1, li_2, li_3, li_4, li_5, li_6, li_7, li_8, li_9, li_10, li_11, li_12, li_16, li_19, li_20, li_28, li_48, li_57, li_59, li_60, li_96, li_97, li_99, li_100, li_102, li_103, li_104, li_112, li_115, li_116, li_118, li_119, li_121, li_124, li_132, li_255, li_256, li_1000, li_2000, li_1000000000, iI_add, iI_sub, iI_mul, iI_neg, iI_lt, iI_le, iI_eq, iI_clamp, iI_s, iI_m1, iI_div, bs, tn, tn4, tn12, tn20, tn124, tn28, itT, itF, if_pos, if_neg, e0, i1]
theorem rCan (hm : ∀ k, k < 132 → S.1 r k = iI (a k)) (hj : j < 8) (hw : WT a j) {now : Nat} (hn : now ≤ 11) (hn1 : a 1 = now) : f_X8_canOf r (iI j) S = some (sCan a j now 20) := by
  have i := rCanL hm hj hw hn hn1 (k := fun y => some y) 20 2000 0 (by omega) (by omega)
  rw [f_X8_canOf]
  exact i
theorem rGYL (hm : ∀ k, k < 132 → S.1 75 k = iI (a k)) (hj : j < 8) (hw : WT a j) {now : Nat} (hn : now ≤ 11) {k : Int32 → Option Int32} :
    ∀ m n b, m < n → m ≤ now → b ≤ now → f_X8_gladdest_L14 n (iI j) (iI b) (iI ((m : Int) - 1)) S k = k (iI (sB (sG a j) 0 0 m b)) := by
  intro m
  induction m with
  | zero =>
    intro n b h1 h2 hb
    obtain ⟨n, rfl⟩ : ∃ p, n = p + 1 := ⟨n - 1, by omega⟩
    rw [f_X8_gladdest_L14, sB]
    simp (disch := omega) only [li_0, li_1, li_2, li_3, li_4, li_5, li_6, li_7, li_8, li_9, li_10, li_11, li_12, li_16, li_19, li_20, li_28, li_48, li_57, li_59, li_60, li_96, li_97, li_99, li_100, li_102, li_103, li_104, li_112, li_115, li_116, li_118, li_119, li_121, li_124, li_132, li_255, li_256, li_1000, li_2000, li_1000000000, iI_add, iI_sub, iI_mul, iI_neg, iI_lt, iI_le, iI_eq, iI_clamp, iI_s, iI_m1, iI_div, bs, tn, tn4, tn12, tn20, tn124, tn28, itT, itF, if_pos, if_neg]
  | succ m ih =>
    intro n b h1 h2 hb
    obtain ⟨n, rfl⟩ : ∃ p, n = p + 1 := ⟨n - 1, by omega⟩
    have e : ((m + 1 : Nat) : Int) - 1 = (m : Int) := by omega
    have g1 : S.1 75 (28 + 12 * j + m) = iI (sG a j m) := hm _ (by omega)
    have g2 : S.1 75 (28 + 12 * j + b) = iI (sG a j b) := hm _ (by omega)
    have b1 := sG_b hw (y := m) (by omega)
    have b2 := sG_b hw (y := b) (by omega)
    have i1 := ih n m (by omega) (by omega) (by omega)
    have i2 := ih n b (by omega) (by omega) (by omega)
    rw [f_X8_gladdest_L14, sB, e]
    by_cases c1 : sG a j b < sG a j m
    · simp (disch := omega) only [li_0, li_1, li_2, li_3, li_4, li_5, li_6, li_7, li_8, li_9, li_10, li_11, li_12, li_16, li_19, li_20, li_28, li_48, li_57, li_59, li_60, li_96, li_97, li_99, li_100, li_102, li_103, li_104, li_112, li_115, li_116, li_118, li_119, li_121, li_124, li_132, li_255, li_256, li_1000, li_2000, li_1000000000, iI_add, iI_sub, iI_mul, iI_neg, iI_lt, iI_le, iI_eq, iI_clamp, iI_s, iI_m1, iI_div, bs, tn, tn4, tn12, tn20, tn124, tn28, itT, itF, if_pos, if_neg, rAt, g1, g2, i1]
    · simp (disch := omega) only [li_0, li_1, li_2, li_3, li_4, li_5, li_6, li_7, li_8, li_9, li_10, li_11, li_12, li_16, li_19, li_20, li_28, li_48, li_57, li_59, li_60, li_96, li_97, li_99, li_100, li_102, li_103, li_104, li_112, li_115, li_116, li_118, li_119, li_121, li_124, li_132, li_255, li_256, li_1000, li_2000, li_1000000000, iI_add, iI_sub, iI_mul, iI_neg, iI_lt, iI_le, iI_eq, iI_clamp, iI_s, iI_m1, iI_div, bs, tn, tn4, tn12, tn20, tn124, tn28, itT, itF, if_pos, if_neg, rAt, g1, g2, i2]
theorem rGY (hm : ∀ k, k < 132 → S.1 75 k = iI (a k)) (hj : j < 8) (hw : WT a j) {now : Nat} (hn : now ≤ 11) (hn1 : a 1 = now) : f_X8_gladdest (iI j) S = some (iI (sGY a j now)) := by
  have hm1 : S.1 75 1 = iI now := by rw [hm 1 (by omega), hn1]
  have g2 : S.1 75 (28 + 12 * j + now) = iI (sG a j now) := hm _ (by omega)
  have b2 := sG_b hw (y := now) (by omega)
  have i := rGYL hm hj hw hn (k := fun y => some y) now 1999 now (by omega) (by omega) (by omega)
  rw [f_X8_gladdest, show 2000 = 1999 + 1 from rfl, f_X8_gladdest_L14]
  simp (disch := omega) only [li_0, li_1, li_2, li_3, li_4, li_5, li_6, li_7, li_8, li_9, li_10, li_11, li_12, li_16, li_19, li_20, li_28, li_48, li_57, li_59, li_60, li_96, li_97, li_99, li_100, li_102, li_103, li_104, li_112, li_115, li_116, li_118, li_119, li_121, li_124, li_132, li_255, li_256, li_1000, li_2000, li_1000000000, iI_add, iI_sub, iI_mul, iI_neg, iI_lt, iI_le, iI_eq, iI_clamp, iI_s, iI_m1, iI_div, bs, tn, tn4, tn12, tn20, tn124, tn28, itT, itF, if_pos, if_neg, hm1, rAt, g2, i, sGY]
end RS1
end
section
-- ===== what may change without notice =====
def scr (q k : Nat) : Prop := (39 ≤ q ∧ q ≤ 59) ∨ (64 ≤ q ∧ q ≤ 72) ∨ q = 76 ∨ q = 78 ∨ (82 ≤ q ∧ q ≤ 84) ∨ (q = 74 ∧ (k = 10 ∨ k = 12 ∨ k = 15)) ∨ (q = 0 ∧ k = 12)
def Sm (S S' : St) : Prop := ∀ q k, ¬ scr q k → S'.1 q k = S.1 q k
theorem Sm.refl (S : St) : Sm S S := fun _ _ _ => rfl
theorem Sm.trans {S S' S'' : St} (h : Sm S S') (h' : Sm S' S'') : Sm S S'' := fun q k hs => (h' q k hs).trans (h q k hs)
theorem Sm.up {S S' : St} {q k : Nat} {x : Int32} (h : Sm S S') (hs : scr q k) : Sm S (up S' q k x) := by
  intro i j hn
  by_cases e : i = q ∧ j = k
  · exact absurd hs (by rw [← e.1, ← e.2]; exact hn)
  · show (if i = q ∧ j = k then x else S'.1 i j) = S.1 i j
    rw [if_neg e]
    exact h i j hn
theorem Sm.upL {S S' : St} {k : Nat} {x : Int64} (h : Sm S S') : Sm S (upL S' k x) := h
theorem RC.sm {S S' : St} {q : Nat} {a : Nat → Int} (h : RC S q a) (hs : Sm S S') (hq : q = 1 ∨ q = 20) : RC S' q a := by
  refine ⟨fun k hk => ?_, fun j hj => ?_, fun j hj hl => ⟨?_, ?_, ?_, fun y hy => ?_⟩⟩
  · rw [hs q k (by unfold scr; omega)]; exact h.1 k hk
  · rw [hs (q + 2) j (by unfold scr; omega)]; exact h.2.1 j hj
  · rw [hs _ _ (by unfold scr; omega)]; exact (h.2.2 j hj hl).1
  · rw [hs _ _ (by unfold scr; omega)]; exact (h.2.2 j hj hl).2.1
  · rw [hs _ _ (by unfold scr; omega)]; exact (h.2.2 j hj hl).2.2.1
  · rw [hs _ _ (by unfold scr; omega)]; exact (h.2.2 j hj hl).2.2.2 y hy
theorem RM.sm {S S' : St} {q : Nat} {a : Nat → Int} (h : RM S q a) (hs : Sm S S') (hq : q = 75 ∨ q = 77) : RM S' q a := by
  intro k hk
  rw [hs q k (by unfold scr; omega)]
  exact h k hk
theorem Inv.sm {S S' : St} (h : Inv S) (hs : Sm S S') : Inv S' := by
  obtain ⟨⟨a, hw, hc, hm⟩, ⟨n, t1, t2, t3, t4⟩, ⟨m, r1, r2, r3, r4⟩, hn, hi, hi2⟩ := h
  refine ⟨⟨a, hw, hc.sm hs (Or.inl rfl), hm.sm hs (Or.inl rfl)⟩, ⟨n, t1, ?_, ?_, fun k hk => ?_⟩, ⟨m, r1, ?_, ?_, fun k hk => ?_⟩, fun k hk => ?_, ?_, ?_⟩
  · rw [hs _ _ (by unfold scr; omega)]; exact t2
  · rw [hs _ _ (by unfold scr; omega)]; exact t3
  · rw [hs _ _ (by unfold scr; omega), hs _ _ (by unfold scr; omega)]; exact t4 k hk
  · rw [hs _ _ (by unfold scr; omega)]; exact r2
  · rw [hs _ _ (by unfold scr; omega)]; exact r3
  · rw [hs _ _ (by unfold scr; omega), hs _ _ (by unfold scr; omega)]; exact r4 k hk
  · rw [hs _ _ (by unfold scr; omega), hs _ _ (by unfold scr; omega)]; exact hn k hk
  · rw [hs _ _ (by unfold scr; omega), hs _ _ (by unfold scr; omega)]; exact hi
  · rw [hs _ _ (by unfold scr; omega)]
    rcases hi2 with hi2 | ⟨hi2, b, hb, hbc, hbm⟩
    · exact Or.inl hi2
    · exact Or.inr ⟨hi2, b, hb, hbc.sm hs (Or.inr rfl), hbm.sm hs (Or.inr rfl)⟩
theorem Both.sm {S S' : St} (h : Both S 1 75) (hs : Sm S S') : Both S' 1 75 := by
  obtain ⟨a, hw, hc, hm⟩ := h
  exact ⟨a, hw, hc.sm hs (Or.inl rfl), hm.sm hs (Or.inl rfl)⟩
-- ===== the row of whole numbers, one place told anew =====
def st (a : Nat → Int) (k : Nat) (v : Int) : Nat → Int := fun i => if i = k then v else a i
theorem st_s (a : Nat → Int) (k : Nat) (v : Int) : st a k v k = v := if_pos rfl
theorem st_n {a : Nat → Int} {k : Nat} {v : Int} {i : Nat} (h : i ≠ k) : st a k v i = a i := if_neg h
section UPS
variable {S : St} {q : Nat} {a : Nat → Int}
theorem RM.st (h : RM S q a) (i : Nat) (v : Int) : RM (up S q i (iI v)) q (st a i v) := by
  intro k hk
  by_cases e : k = i
  · subst e
    rw [st_s]
    show (if q = q ∧ k = k then iI v else S.1 q k) = iI v
    rw [if_pos ⟨rfl, rfl⟩]
  · rw [st_n e]
    show (if q = q ∧ k = i then iI v else S.1 q k) = iI (a k)
    rw [if_neg (fun z => e z.2)]
    exact h k hk
theorem RM.ne (h : RM S q a) {i k : Nat} {x : Int32} (hi : i ≠ q) : RM (up S i k x) q a := by
  intro j hj
  rw [up_ne (fun e => hi e.symm)]
  exact h j hj
theorem RC.ne (h : RC S q a) {i k : Nat} {x : Int32} (hi : i < q ∨ q + 18 < i ∨ (i = q ∧ 4 ≤ k)) : RC (up S i k x) q a := by
  refine ⟨fun c hc => ?_, fun j hj => ?_, fun j hj hl => ⟨?_, ?_, ?_, fun y hy => ?_⟩⟩
  · show (if q = i ∧ c = k then x else S.1 q c) = _
    rw [if_neg (by omega)]; exact h.1 c hc
  · show (if q + 2 = i ∧ j = k then x else S.1 (q + 2) j) = _
    rw [if_neg (by omega)]; exact h.2.1 j hj
  · show (if q + 1 + 2 + 2 * j = i ∧ 0 = k then x else S.1 (q + 1 + 2 + 2 * j) 0) = _
    rw [if_neg (by omega)]; exact (h.2.2 j hj hl).1
  · show (if q + 1 + 2 + 2 * j = i ∧ 1 = k then x else S.1 (q + 1 + 2 + 2 * j) 1) = _
    rw [if_neg (by omega)]; exact (h.2.2 j hj hl).2.1
  · show (if q + 1 + 2 + 2 * j = i ∧ 2 = k then x else S.1 (q + 1 + 2 + 2 * j) 2) = _
    rw [if_neg (by omega)]; exact (h.2.2 j hj hl).2.2.1
  · show (if q + 1 + 2 + 2 * j + 1 = i ∧ y = k then x else S.1 (q + 1 + 2 + 2 * j + 1) y) = _
    rw [if_neg (by omega)]; exact (h.2.2 j hj hl).2.2.2 y hy
theorem RC.st0 (h : RC S q a) {i : Nat} (hi : 0 < i ∧ i < 4) (v : Int) : RC (up S q i (iI v)) q (st a i v) := by
  refine ⟨fun c hc => ?_, fun j hj => ?_, fun j hj hl => ?_⟩
  · show (if q = q ∧ c = i then iI v else S.1 q c) = iI (if c = i then v else a c)
    by_cases e : c = i
    · rw [if_pos ⟨rfl, e⟩, if_pos e]
    · rw [if_neg (fun z => e z.2), if_neg e]; exact h.1 c hc
  · show (if q + 2 = q ∧ j = i then iI v else S.1 (q + 2) j) = iI (if 124 + j = i then v else a (124 + j))
    rw [if_neg (by omega), if_neg (by omega)]; exact h.2.1 j hj
  · rw [st_n (by omega)] at hl
    have g := h.2.2 j hj hl
    refine ⟨?_, ?_, ?_, fun y hy => ?_⟩
    · rw [up_ne (by omega), st_n (by omega)]; exact g.1
    · rw [up_ne (by omega), st_n (by omega)]; exact g.2.1
    · rw [up_ne (by omega), st_n (by omega)]; exact g.2.2.1
    · rw [up_ne (by omega), st_n (by omega)]; exact g.2.2.2 y hy
theorem RC.sth (h : RC S q a) {i : Nat} (hi : i < 8) (v : Int) : RC (up S (q + 2) i (iI v)) q (st a (124 + i) v) := by
  refine ⟨fun c hc => ?_, fun j hj => ?_, fun j hj hl => ?_⟩
  · rw [up_ne (by omega), st_n (by omega)]; exact h.1 c hc
  · show (if q + 2 = q + 2 ∧ j = i then iI v else S.1 (q + 2) j) = iI (if 124 + j = 124 + i then v else a (124 + j))
    by_cases e : j = i
    · rw [if_pos ⟨rfl, e⟩, if_pos (by omega)]
    · rw [if_neg (fun z => e z.2), if_neg (by omega)]; exact h.2.1 j hj
  · rw [st_n (by omega)] at hl
    have g := h.2.2 j hj hl
    refine ⟨?_, ?_, ?_, fun y hy => ?_⟩
    · rw [up_ne (by omega), st_n (by omega)]; exact g.1
    · rw [up_ne (by omega), st_n (by omega)]; exact g.2.1
    · rw [up_ne (by omega), st_n (by omega)]; exact g.2.2.1
    · rw [up_ne (by omega), st_n (by omega)]; exact g.2.2.2 y hy
theorem RC.stt (h : RC S q a) {i c : Nat} (hi : i < 8) (hc : c < 3) (v : Int) : RC (up S (q + 1 + 2 + 2 * i) c (iI v)) q (st a (4 + 8 * c + i) v) := by
  refine ⟨fun c hc => ?_, fun j hj => ?_, fun j hj hl => ?_⟩
  · rw [up_ne (by omega), st_n (by omega)]; exact h.1 c hc
  · rw [up_ne (by omega), st_n (by omega)]; exact h.2.1 j hj
  · rw [st_n (by omega)] at hl
    have g := h.2.2 j hj hl
    refine ⟨?_, ?_, ?_, fun y hy => ?_⟩
    · show (if q + 1 + 2 + 2 * j = q + 1 + 2 + 2 * i ∧ 0 = c then iI v else S.1 (q + 1 + 2 + 2 * j) 0) = iI (if 4 + j = 4 + 8 * c + i then v else a (4 + j))
      by_cases e : j = i ∧ c = 0
      · rw [if_pos (by omega), if_pos (by omega)]
      · rw [if_neg (by omega), if_neg (by omega)]; exact g.1
    · show (if q + 1 + 2 + 2 * j = q + 1 + 2 + 2 * i ∧ 1 = c then iI v else S.1 (q + 1 + 2 + 2 * j) 1) = iI (if 12 + j = 4 + 8 * c + i then v else a (12 + j))
      by_cases e : j = i ∧ c = 1
      · rw [if_pos (by omega), if_pos (by omega)]
      · rw [if_neg (by omega), if_neg (by omega)]; exact g.2.1
    · show (if q + 1 + 2 + 2 * j = q + 1 + 2 + 2 * i ∧ 2 = c then iI v else S.1 (q + 1 + 2 + 2 * j) 2) = iI (if 20 + j = 4 + 8 * c + i then v else a (20 + j))
      by_cases e : j = i ∧ c = 2
      · rw [if_pos (by omega), if_pos (by omega)]
      · rw [if_neg (by omega), if_neg (by omega)]; exact g.2.2.1
    · rw [up_ne (by omega), st_n (by omega)]; exact g.2.2.2 y hy
theorem RC.stg (h : RC S q a) {i c : Nat} (hi : i < 8) (hc : c < 12) (v : Int) : RC (up S (q + 1 + 2 + 2 * i + 1) c (iI v)) q (st a (28 + 12 * i + c) v) := by
  refine ⟨fun c hc => ?_, fun j hj => ?_, fun j hj hl => ?_⟩
  · rw [up_ne (by omega), st_n (by omega)]; exact h.1 c hc
  · rw [up_ne (by omega), st_n (by omega)]; exact h.2.1 j hj
  · rw [st_n (by omega)] at hl
    have g := h.2.2 j hj hl
    refine ⟨?_, ?_, ?_, fun y hy => ?_⟩
    · rw [up_ne (by omega), st_n (by omega)]; exact g.1
    · rw [up_ne (by omega), st_n (by omega)]; exact g.2.1
    · rw [up_ne (by omega), st_n (by omega)]; exact g.2.2.1
    · show (if q + 1 + 2 + 2 * j + 1 = q + 1 + 2 + 2 * i + 1 ∧ y = c then iI v else S.1 (q + 1 + 2 + 2 * j + 1) y) = iI (if 28 + 12 * j + y = 28 + 12 * i + c then v else a (28 + 12 * j + y))
      by_cases e : j = i ∧ y = c
      · rw [if_pos (by omega), if_pos (by omega)]
      · rw [if_neg (by omega), if_neg (by omega)]; exact g.2.2.2 y hy
end UPS
-- ===== the row stays well formed =====
section WFS
variable {a : Nat → Int}
theorem WFa.st0 (h : WFa a) {i : Nat} {v : Int} (hi : (i = 1 ∧ 0 ≤ v ∧ v ≤ 11) ∨ (i = 2 ∧ 0 ≤ v ∧ v ≤ 99) ∨ (i = 3 ∧ 1 ≤ v ∧ v ≤ 4)) : WFa (st a i v) := by
  obtain ⟨h0, h1, h2, h3, h4, h5⟩ := h
  refine ⟨?_, ?_, ?_, ?_, fun j hj => ⟨?_, ?_, ?_, fun y hy => ?_, ?_⟩, fun k j hk hj hb => ?_⟩
  · rw [st_n (by omega)]; exact h0
  · by_cases e : i = 1
    · subst e; rw [st_s]; omega
    · rw [st_n (by omega)]; exact h1
  · by_cases e : i = 2
    · subst e; rw [st_s]; omega
    · rw [st_n (by omega)]; exact h2
  · by_cases e : i = 3
    · subst e; rw [st_s]; omega
    · rw [st_n (by omega)]; exact h3
  · rw [st_n (by omega)]; exact (h4 j hj).1
  · rw [st_n (by omega)]; exact (h4 j hj).2.1
  · rw [st_n (by omega)]; exact (h4 j hj).2.2.1
  · rw [st_n (by omega)]; exact (h4 j hj).2.2.2.1 y hy
  · rw [st_n (by omega)]; exact (h4 j hj).2.2.2.2
  · rw [st_n (by omega)] at hb
    rw [st_n (by omega), st_n (by omega)]
    exact h5 k j hk hj hb
theorem WFa.stt (h : WFa a) {i c : Nat} {v : Int} (hi : i < 8) (hc : (c = 0 ∧ 0 ≤ v ∧ v ≤ 5) ∨ (c = 1 ∧ 0 ≤ v ∧ v ≤ 9) ∨ (c = 2 ∧ (v = -9 ∨ (0 ≤ v ∧ v ≤ 11)))) : WFa (st a (4 + 8 * c + i) v) := by
  obtain ⟨h0, h1, h2, h3, h4, h5⟩ := h
  refine ⟨?_, ?_, ?_, ?_, fun j hj => ⟨?_, ?_, ?_, fun y hy => ?_, ?_⟩, fun k j hk hj hb => ?_⟩
  · rw [st_n (by omega)]; exact h0
  · rw [st_n (by omega)]; exact h1
  · rw [st_n (by omega)]; exact h2
  · rw [st_n (by omega)]; exact h3
  · show 0 ≤ (if 4 + j = 4 + 8 * c + i then v else a (4 + j)) ∧ (if 4 + j = 4 + 8 * c + i then v else a (4 + j)) ≤ 5
    have := (h4 j hj).1
    split <;> omega
  · show 0 ≤ (if 12 + j = 4 + 8 * c + i then v else a (12 + j)) ∧ (if 12 + j = 4 + 8 * c + i then v else a (12 + j)) ≤ 9
    have := (h4 j hj).2.1
    split <;> omega
  · show (if 20 + j = 4 + 8 * c + i then v else a (20 + j)) = -9 ∨ (0 ≤ (if 20 + j = 4 + 8 * c + i then v else a (20 + j)) ∧ (if 20 + j = 4 + 8 * c + i then v else a (20 + j)) ≤ 11)
    have := (h4 j hj).2.2.1
    split <;> omega
  · rw [st_n (by omega)]; exact (h4 j hj).2.2.2.1 y hy
  · rw [st_n (by omega)]; exact (h4 j hj).2.2.2.2
  · rw [st_n (by omega)] at hb
    rw [st_n (by omega), st_n (by omega)]
    exact h5 k j hk hj hb
theorem WFa.stg (h : WFa a) {i c : Nat} {v : Int} (hi : i < 8) (hc : c < 12) (hv : 0 ≤ v ∧ v ≤ 99) : WFa (st a (28 + 12 * i + c) v) := by
  obtain ⟨h0, h1, h2, h3, h4, h5⟩ := h
  refine ⟨?_, ?_, ?_, ?_, fun j hj => ⟨?_, ?_, ?_, fun y hy => ?_, ?_⟩, fun k j hk hj hb => ?_⟩
  · rw [st_n (by omega)]; exact h0
  · rw [st_n (by omega)]; exact h1
  · rw [st_n (by omega)]; exact h2
  · rw [st_n (by omega)]; exact h3
  · rw [st_n (by omega)]; exact (h4 j hj).1
  · rw [st_n (by omega)]; exact (h4 j hj).2.1
  · rw [st_n (by omega)]; exact (h4 j hj).2.2.1
  · show 0 ≤ (if 28 + 12 * j + y = 28 + 12 * i + c then v else a (28 + 12 * j + y)) ∧ (if 28 + 12 * j + y = 28 + 12 * i + c then v else a (28 + 12 * j + y)) ≤ 99
    have := (h4 j hj).2.2.2.1 y hy
    split <;> omega
  · rw [st_n (by omega)]; exact (h4 j hj).2.2.2.2
  · rw [st_n (by omega)] at hb
    rw [st_n (by omega), st_n (by omega)]
    exact h5 k j hk hj hb
end WFS
-- ===== laying a row over another =====
theorem rLaysL {q0 q1 : Nat} (hq : q0 ≠ q1) {S : St} {k : St → Option St} : ∀ d n x (S' : St), x + d = 132 → d < n → (∀ i j, i ≠ q1 → S'.1 i j = S.1 i j) → (∀ j, j < x → S'.1 q1 j = S.1 q0 j) →
    ∃ S'', (∀ i j, i ≠ q1 → S''.1 i j = S.1 i j) ∧ (∀ j, j < 132 → S''.1 q1 j = S.1 q0 j) ∧ S''.2 = S'.2 ∧ f_X8_lays_L2 n q0 q1 (iI (x : Nat)) S' k = k S'' := by
  intro d
  induction d with
  | zero =>
    intro n x S' hx hd h1 h2
    obtain ⟨n, rfl⟩ : ∃ p, n = p + 1 := ⟨n - 1, by omega⟩
    obtain rfl : x = 132 := by omega
    refine ⟨S', h1, h2, rfl, ?_⟩
    rw [f_X8_lays_L2]
    simp (disch := omega) only [li_0, li_1, li_2, li_3, li_4, li_5, li_6, li_7, li_8, li_9, li_10, li_11, li_12, li_16, li_19, li_20, li_28, li_48, li_57, li_59, li_60, li_96, li_97, li_99, li_100, li_102, li_103, li_104, li_112, li_115, li_116, li_118, li_119, li_121, li_124, li_132, li_255, li_256, li_1000, li_2000, li_1000000000, iI_add, iI_sub, iI_mul, iI_neg, iI_lt, iI_le, iI_eq, iI_clamp, iI_s, iI_m1, iI_div, bs, tn, tn4, tn12, tn20, tn124, tn28, itT, itF, if_pos, if_neg]
  | succ d ih =>
    intro n x S' hx hd h1 h2
    obtain ⟨n, rfl⟩ : ∃ p, n = p + 1 := ⟨n - 1, by omega⟩
    obtain ⟨S'', g1, g2, g3, g4⟩ := ih n (x + 1) (up S' q1 x (S'.1 q0 x)) (by omega) (by omega) (fun i j hi => by rw [up_ne hi]; exact h1 i j hi) (fun j hj => by
      show (if q1 = q1 ∧ j = x then S'.1 q0 x else S'.1 q1 j) = S.1 q0 j
      by_cases e : j = x
      · rw [if_pos ⟨rfl, e⟩, h1 _ _ hq, e]
      · rw [if_neg (fun z => e z.2)]; exact h2 j (by omega))
    refine ⟨S'', g1, g2, g3, ?_⟩
    rw [f_X8_lays_L2]
    simp (disch := omega) only [li_0, li_1, li_2, li_3, li_4, li_5, li_6, li_7, li_8, li_9, li_10, li_11, li_12, li_16, li_19, li_20, li_28, li_48, li_57, li_59, li_60, li_96, li_97, li_99, li_100, li_102, li_103, li_104, li_112, li_115, li_116, li_118, li_119, li_121, li_124, li_132, li_255, li_256, li_1000, li_2000, li_1000000000, iI_add, iI_sub, iI_mul, iI_neg, iI_lt, iI_le, iI_eq, iI_clamp, iI_s, iI_m1, iI_div, bs, tn, tn4, tn12, tn20, tn124, tn28, itT, itF, if_pos, if_neg, g4]
theorem rLays {q0 q1 : Nat} (hq : q0 ≠ q1) (S : St) : ∃ S'', f_X8_lays q0 q1 S = some S'' ∧ (∀ i j, i ≠ q1 → S''.1 i j = S.1 i j) ∧ (∀ j, j < 132 → S''.1 q1 j = S.1 q0 j) := by
  obtain ⟨S'', g1, g2, _, g4⟩ := rLaysL hq (S := S) (k := fun s => some s) 132 2000 0 S (by omega) (by omega) (fun _ _ _ => rfl) (fun j hj => absurd hj (by omega))
  exact ⟨S'', by rw [f_X8_lays]; exact g4, g1, g2⟩
def cpP (q0 q1 : Nat) (S : St) (x : Nat) (S' : St) : Prop := (∀ i j, (i < q0 ∨ q0 + 18 < i) → S'.1 i j = S.1 i j) ∧ (∀ k, k < 4 → S'.1 q0 k = S.1 q1 k) ∧ (∀ j, j < x → S'.1 (q0 + 2) j = S.1 (q1 + 2) j) ∧
  (∀ j k, j < x → k < 3 → S'.1 (q0 + 1 + 2 + 2 * j) k = S.1 (q1 + 1 + 2 + 2 * j) k) ∧ (∀ j k, j < x → k < 12 → S'.1 (q0 + 1 + 2 + 2 * j + 1) k = S.1 (q1 + 1 + 2 + 2 * j + 1) k)
theorem cCopyT {q0 q1 : Nat} (hq : q0 ≠ q1) (hq1 : q0 ≠ q1 + 1) (hq2 : q0 + 1 ≠ q1) (S : St) : ∃ S', f_X6_copyFrom q0 q1 S = some S' ∧ (∀ i j, i ≠ q0 → i ≠ q0 + 1 → S'.1 i j = S.1 i j) ∧ (∀ k, k < 3 → S'.1 q0 k = S.1 q1 k) ∧ (∀ k, k < 12 → S'.1 (q0 + 1) k = S.1 (q1 + 1) k) := by
  refine ⟨_, by rw [f_X6_copyFrom, if_neg (by omega)], fun i j h1 h2 => ?_, fun k hk => ?_, fun k hk => ?_⟩
  · rw [upc_ne h2, up_ne h1, up_ne h1, up_ne h1]
  · rw [upc_ne (by omega)]
    simp only [up]
    obtain rfl | rfl | rfl : k = 0 ∨ k = 1 ∨ k = 2 := by omega
    · simp (disch := omega) only [and_self, itT, itF, if_pos, if_neg]
    · simp (disch := omega) only [and_self, itT, itF, if_pos, if_neg]
    · simp (disch := omega) only [and_self, itT, itF, if_pos, if_neg]
  · rw [upc_row]
    simp only [va_cpy]
    have e : 0 + (k - 0) = k := by omega
    rw [if_pos (show 0 ≤ k ∧ k < 0 + 12 from ⟨by omega, by omega⟩), e, up_ne (by omega), up_ne (by omega), up_ne (by omega)]
theorem cCopyL {q0 q1 : Nat} (hq : q0 + 19 ≤ q1 ∨ q1 + 19 ≤ q0) {S : St} {k : St → Option St} : ∀ d n x (S' : St), x + d = 8 → d < n → cpP q0 q1 S x S' →
    ∃ S'', cpP q0 q1 S 8 S'' ∧ f_X3_copyFrom_L34 n q0 q1 (iI (x : Nat)) S' k = k S'' := by
  intro d
  induction d with
  | zero =>
    intro n x S' hx hd h1
    obtain ⟨n, rfl⟩ : ∃ p, n = p + 1 := ⟨n - 1, by omega⟩
    obtain rfl : x = 8 := by omega
    refine ⟨S', h1, ?_⟩
    rw [f_X3_copyFrom_L34]
    simp (disch := omega) only [li_0, li_1, li_2, li_3, li_4, li_5, li_6, li_7, li_8, li_9, li_10, li_11, li_12, li_16, li_19, li_20, li_28, li_48, li_57, li_59, li_60, li_96, li_97, li_99, li_100, li_102, li_103, li_104, li_112, li_115, li_116, li_118, li_119, li_121, li_124, li_132, li_255, li_256, li_1000, li_2000, li_1000000000, iI_add, iI_sub, iI_mul, iI_neg, iI_lt, iI_le, iI_eq, iI_clamp, iI_s, iI_m1, iI_div, bs, tn, tn4, tn12, tn20, tn124, tn28, itT, itF, if_pos, if_neg]
  | succ d ih =>
    intro n x S' hx hd h1
    obtain ⟨p1, p2, p3, p4, p5⟩ := h1
    obtain ⟨n, rfl⟩ : ∃ p, n = p + 1 := ⟨n - 1, by omega⟩
    obtain ⟨S4, c1, c2, c3, c4⟩ := cCopyT (q0 := q0 + 1 + 2 + 2 * x) (q1 := q1 + 1 + 2 + 2 * x) (by omega) (by omega) (by omega) S'
    obtain ⟨S'', g1, g4⟩ := ih n (x + 1) (up S4 (q0 + 2) x (S4.1 (q1 + 2) x)) (by omega) (by omega) (by
      refine ⟨fun i j hi => ?_, fun k hk => ?_, fun j hj => ?_, fun j k hj hk => ?_, fun j k hj hk => ?_⟩
      · rw [up_ne (by omega), c2 _ _ (by omega) (by omega)]; exact p1 i j hi
      · rw [up_ne (by omega), c2 _ _ (by omega) (by omega)]; exact p2 k hk
      · show (if q0 + 2 = q0 + 2 ∧ j = x then S4.1 (q1 + 2) x else S4.1 (q0 + 2) j) = S.1 (q1 + 2) j
        by_cases e : j = x
        · rw [if_pos ⟨rfl, e⟩, c2 _ _ (by omega) (by omega), p1 _ _ (by omega), e]
        · rw [if_neg (fun z => e z.2), c2 _ _ (by omega) (by omega)]; exact p3 j (by omega)
      · rw [up_ne (by omega)]
        by_cases e : j = x
        · subst e
          rw [c3 k hk, p1 _ _ (by omega)]
        · rw [c2 _ _ (by omega) (by omega)]; exact p4 j k (by omega) hk
      · rw [up_ne (by omega)]
        by_cases e : j = x
        · subst e
          rw [c4 k hk, p1 _ _ (by omega)]
        · rw [c2 _ _ (by omega) (by omega)]; exact p5 j k (by omega) hk)
    refine ⟨S'', g1, ?_⟩
    rw [f_X3_copyFrom_L34]
    simp (disch := omega) only [li_0, li_1, li_2, li_3, li_4, li_5, li_6, li_7, li_8, li_9, li_10, li_11, li_12, li_16, li_19, li_20, li_28, li_48, li_57, li_59, li_60, li_96, li_97, li_99, li_100, li_102, li_103, li_104, li_112, li_115, li_116, li_118, li_119, li_121, li_124, li_132, li_255, li_256, li_1000, li_2000, li_1000000000, iI_add, iI_sub, iI_mul, iI_neg, iI_lt, iI_le, iI_eq, iI_clamp, iI_s, iI_m1, iI_div, bs, tn, tn4, tn12, tn20, tn124, tn28, itT, itF, if_pos, if_neg, c1, g4]
theorem cCopy {q0 q1 : Nat} (hq : q0 + 19 ≤ q1 ∨ q1 + 19 ≤ q0) (S : St) : ∃ S', f_X3_copyFrom q0 q1 S = some S' ∧ (∀ i j, (i < q0 ∨ q0 + 18 < i) → S'.1 i j = S.1 i j) ∧ ∀ a, RC S q1 a → RC S' q0 a := by
  have hup : ∀ (T : St) (k : Nat) (x : Int32) (i j : Nat), ¬ (i = q0 ∧ j = k) → (up T q0 k x).1 i j = T.1 i j := fun T k x i j h => if_neg h
  have hup2 : ∀ (T : St) (k : Nat) (x : Int32), (up T q0 k x).1 q0 k = x := fun T k x => if_pos ⟨rfl, rfl⟩
  obtain ⟨S', ⟨p1, p2, p3, p4, p5⟩, g⟩ := cCopyL hq (S := S) (k := fun s => some s) 8 2000 0 (up (up (up (up S q0 0 (S.1 q1 0)) q0 1 ((up S q0 0 (S.1 q1 0)).1 q1 1)) q0 2 ((up (up S q0 0 (S.1 q1 0)) q0 1 ((up S q0 0 (S.1 q1 0)).1 q1 1)).1 q1 2)) q0 3 ((up (up (up S q0 0 (S.1 q1 0)) q0 1 ((up S q0 0 (S.1 q1 0)).1 q1 1)) q0 2 ((up (up S q0 0 (S.1 q1 0)) q0 1 ((up S q0 0 (S.1 q1 0)).1 q1 1)).1 q1 2)).1 q1 3)) (by omega) (by omega) (by
      refine ⟨fun i j hi => ?_, fun k hk => ?_, fun j hj => absurd hj (by omega), fun j k hj hk => absurd hj (by omega), fun j k hj hk => absurd hj (by omega)⟩
      · rw [up_ne (by omega), up_ne (by omega), up_ne (by omega), up_ne (by omega)]
      · obtain rfl | rfl | rfl | rfl : k = 0 ∨ k = 1 ∨ k = 2 ∨ k = 3 := by omega
        · rw [hup _ _ _ _ _ (by omega), hup _ _ _ _ _ (by omega), hup _ _ _ _ _ (by omega), hup2]
        · rw [hup _ _ _ _ _ (by omega), hup _ _ _ _ _ (by omega), hup2, up_ne (by omega)]
        · rw [hup _ _ _ _ _ (by omega), hup2, up_ne (by omega), up_ne (by omega)]
        · rw [hup2, up_ne (by omega), up_ne (by omega), up_ne (by omega)])
  refine ⟨S', by rw [f_X3_copyFrom]; exact g, p1, fun a h => ⟨fun k hk => ?_, fun j hj => ?_, fun j hj hl => ⟨?_, ?_, ?_, fun y hy => ?_⟩⟩⟩
  · rw [p2 k hk]; exact h.1 k hk
  · rw [p3 j hj]; exact h.2.1 j hj
  · rw [p4 j 0 hj (by omega)]; exact (h.2.2 j hj hl).1
  · rw [p4 j 1 hj (by omega)]; exact (h.2.2 j hj hl).2.1
  · rw [p4 j 2 hj (by omega)]; exact (h.2.2 j hj hl).2.2.1
  · rw [p5 j y hj hy]; exact (h.2.2 j hj hl).2.2.2 y hy
-- ===== refusals =====
theorem bse {α β : Type} (x : Option (α × β)) : (x.bind fun z => some (z.1, z.2)) = x := by cases x <;> rfl
theorem cRef {S : St} {v : Int} {c : Nat} (hc : 1 ≤ c ∧ c ≤ 6) (hv : v = -(c : Int)) : f_X7_refuse (iI v) S = some (iI v, up S 73 c (S.1 73 c + iI 1)) := by
  subst hv
  have e : (-(-(c : Int))).toNat = c := by omega
  simp (disch := omega) only [li_0, li_1, li_2, li_3, li_4, li_5, li_6, li_7, li_8, li_9, li_10, li_11, li_12, li_16, li_19, li_20, li_28, li_48, li_57, li_59, li_60, li_96, li_97, li_99, li_100, li_102, li_103, li_104, li_112, li_115, li_116, li_118, li_119, li_121, li_124, li_132, li_255, li_256, li_1000, li_2000, li_1000000000, iI_add, iI_sub, iI_mul, iI_neg, iI_lt, iI_le, iI_eq, iI_clamp, iI_s, iI_m1, iI_div, bs, tn, tn4, tn12, tn20, tn124, tn28, itT, itF, if_pos, if_neg, f_X7_refuse, e]
theorem rNo {S : St} {v : Int} {c : Nat} (hc : 1 ≤ c ∧ c ≤ 6) (hv : v = -(c : Int)) : f_X8_no (iI v) S = some (iI v, up S 81 c (S.1 81 c + iI 1)) := by
  subst hv
  have e : (-(-(c : Int))).toNat = c := by omega
  simp (disch := omega) only [li_0, li_1, li_2, li_3, li_4, li_5, li_6, li_7, li_8, li_9, li_10, li_11, li_12, li_16, li_19, li_20, li_28, li_48, li_57, li_59, li_60, li_96, li_97, li_99, li_100, li_102, li_103, li_104, li_112, li_115, li_116, li_118, li_119, li_121, li_124, li_132, li_255, li_256, li_1000, li_2000, li_1000000000, iI_add, iI_sub, iI_mul, iI_neg, iI_lt, iI_le, iI_eq, iI_clamp, iI_s, iI_m1, iI_div, bs, tn, tn4, tn12, tn20, tn124, tn28, itT, itF, if_pos, if_neg, f_X8_no, e]
theorem Inv.no {S : St} (h : Inv S) {c : Nat} (hc : 1 ≤ c ∧ c ≤ 6) : Inv (up (up S 73 c (S.1 73 c + iI 1)) 81 c ((up S 73 c (S.1 73 c + iI 1)).1 81 c + iI 1)) := by
  obtain ⟨⟨a, hw, hc, hm⟩, ⟨n, t1, t2, t3, t4⟩, ⟨m, r1, r2, r3, r4⟩, hn, hi, hi2⟩ := h
  refine ⟨⟨a, hw, (hc.ne (by omega)).ne (by omega), (hm.ne (by omega)).ne (by omega)⟩, ⟨n, t1, ?_, ?_, fun k hk => ?_⟩, ⟨m, r1, ?_, ?_, fun k hk => ?_⟩, fun k hk => ?_, ?_, ?_⟩
  · rw [up_ne (by omega), up_ne (by omega)]; exact t2
  · rw [up_ne (by omega), up_ne (by omega)]; exact t3
  · rw [up_ne (by omega), up_ne (by omega), up_ne (by omega), up_ne (by omega)]; exact t4 k hk
  · rw [up_ne (by omega), up_ne (by omega)]; exact r2
  · rw [up_ne (by omega), up_ne (by omega)]; exact r3
  · rw [up_ne (by omega), up_ne (by omega), up_ne (by omega), up_ne (by omega)]; exact r4 k hk
  · rw [up_ne (i := 81) (q := 73) (by omega), up_ne (i := 73) (q := 81) (by omega)]
    show (if 73 = 73 ∧ k = c then S.1 73 c + iI 1 else S.1 73 k) = (if 81 = 81 ∧ k = c then S.1 81 c + iI 1 else (up S 73 c (S.1 73 c + iI 1)).1 81 k)
    by_cases e : k = c
    · rw [if_pos ⟨rfl, e⟩, if_pos ⟨rfl, e⟩, ← e, hn k hk]
    · rw [if_neg (fun z => e z.2), if_neg (fun z => e z.2), up_ne (by omega)]; exact hn k hk
  · rw [up_ne (by omega), up_ne (by omega), up_ne (by omega), up_ne (by omega)]; exact hi
  · rw [up_ne (by omega), up_ne (by omega)]
    rcases hi2 with hi2 | ⟨hi2, b, hb, hbc, hbm⟩
    · exact Or.inl hi2
    · exact Or.inr ⟨hi2, b, hb, (hbc.ne (by omega)).ne (by omega), (hbm.ne (by omega)).ne (by omega)⟩
theorem e_mk {α : Type} {x1 : Option (α × St)} {g : St → Option (α × St)} {v : α} {S1 S2 : St} (h1 : x1 = some (v, S1)) (h2 : g S1 = some (v, S2)) (h3 : Inv S2) : ∃ z1 z2, x1 = some z1 ∧ g z1.2 = some z2 ∧ z1.1 = z2.1 ∧ Inv z2.2 := ⟨(v, S1), (v, S2), h1, h2, rfl, h3⟩
theorem e_no {S : St} (hS : Inv S) {x1 : Option (Int32 × St)} {g : St → Option (Int32 × St)} (v : Int) (c : Nat) (hc : 1 ≤ c ∧ c ≤ 6) (hv : v = -(c : Int)) (h1 : x1 = f_X7_refuse (iI v) S) (h2 : ∀ S1 : St, S1.1 75 = S.1 75 → S1.1 74 = S.1 74 → g S1 = f_X8_no (iI v) S1) : ∃ z1 z2, x1 = some z1 ∧ g z1.2 = some z2 ∧ z1.1 = z2.1 ∧ Inv z2.2 := by
  rw [cRef hc hv] at h1
  have h3 := h2 (up S 73 c (S.1 73 c + iI 1)) (up_ne (by omega)) (up_ne (by omega))
  rw [rNo hc hv] at h3
  exact e_mk h1 h3 (hS.no hc)
end
section
-- ===== reading behind writes =====
theorem up_s {S : St} {q k : Nat} {x : Int32} : (up S q k x).1 q k = x := if_pos ⟨rfl, rfl⟩
theorem up_n {S : St} {q k : Nat} {x : Int32} {i j : Nat} (h : i ≠ q ∨ j ≠ k) : (up S q k x).1 i j = S.1 i j := if_neg (fun z => h.elim (fun e => e z.1) (fun e => e z.2))
-- ===== what holds, cell by cell =====
theorem Both.fr {S S' : St} {q r : Nat} (h : Both S q r) (hs : ∀ i k, (q ≤ i ∧ i ≤ q + 18) ∨ i = r → S'.1 i k = S.1 i k) : Both S' q r := by
  obtain ⟨a, hw, hc, hm⟩ := h
  refine ⟨a, hw, ⟨fun k hk => ?_, fun j hj => ?_, fun j hj hl => ⟨?_, ?_, ?_, fun y hy => ?_⟩⟩, fun k hk => ?_⟩
  · rw [hs _ _ (by omega)]; exact hc.1 k hk
  · rw [hs _ _ (by omega)]; exact hc.2.1 j hj
  · rw [hs _ _ (by omega)]; exact (hc.2.2 j hj hl).1
  · rw [hs _ _ (by omega)]; exact (hc.2.2 j hj hl).2.1
  · rw [hs _ _ (by omega)]; exact (hc.2.2 j hj hl).2.2.1
  · rw [hs _ _ (by omega)]; exact (hc.2.2 j hj hl).2.2.2 y hy
  · rw [hs _ _ (by omega)]; exact hm k hk
theorem InvText.fr {S S' : St} (h : InvText S) (hs : ∀ i k, i = 60 ∨ i = 61 ∨ i = 79 ∨ (i = 74 ∧ k = 8) → S'.1 i k = S.1 i k) : InvText S' := by
  obtain ⟨n, t1, t2, t3, t4⟩ := h
  refine ⟨n, t1, ?_, ?_, fun k hk => ?_⟩
  · rw [hs _ _ (by omega)]; exact t2
  · rw [hs _ _ (by omega)]; exact t3
  · rw [hs _ _ (by omega), hs _ _ (by omega)]; exact t4 k hk
theorem InvRow.fr {S S' : St} (h : InvRow S) (hs : ∀ i k, i = 62 ∨ i = 63 ∨ i = 80 ∨ (i = 74 ∧ k = 9) → S'.1 i k = S.1 i k) : InvRow S' := by
  obtain ⟨n, t1, t2, t3, t4⟩ := h
  refine ⟨n, t1, ?_, ?_, fun k hk => ?_⟩
  · rw [hs _ _ (by omega)]; exact t2
  · rw [hs _ _ (by omega)]; exact t3
  · rw [hs _ _ (by omega), hs _ _ (by omega)]; exact t4 k hk
theorem Inv.shop {S S' : St} (h : Inv S) (hB : Both S' 1 75) (hs : ∀ i k, ¬ ((1 ≤ i ∧ i ≤ 19) ∨ i = 75 ∨ scr i k) → S'.1 i k = S.1 i k) : Inv S' := by
  obtain ⟨_, hT, hR, hn, hi, hi2⟩ := h
  refine ⟨hB, hT.fr (fun i k h => hs i k (by unfold scr; omega)), hR.fr (fun i k h => hs i k (by unfold scr; omega)), fun k hk => ?_, ?_, ?_⟩
  · rw [hs _ _ (by unfold scr; omega), hs _ _ (by unfold scr; omega)]; exact hn k hk
  · rw [hs _ _ (by unfold scr; omega), hs _ _ (by unfold scr; omega)]; exact hi
  · rw [hs _ _ (by unfold scr; omega)]
    rcases hi2 with hi2 | ⟨hi2, hb⟩
    · exact Or.inl hi2
    · exact Or.inr ⟨hi2, hb.fr (fun i k h => hs i k (by unfold scr; omega))⟩
theorem Inv.text {S S' : St} (h : Inv S) (hT : InvText S') (hs : ∀ i k, ¬ (i = 60 ∨ i = 61 ∨ i = 79 ∨ (i = 74 ∧ k = 8) ∨ scr i k) → S'.1 i k = S.1 i k) : Inv S' := by
  obtain ⟨hB, _, hR, hn, hi, hi2⟩ := h
  refine ⟨hB.fr (fun i k h => hs i k (by unfold scr; omega)), hT, hR.fr (fun i k h => hs i k (by unfold scr; omega)), fun k hk => ?_, ?_, ?_⟩
  · rw [hs _ _ (by unfold scr; omega), hs _ _ (by unfold scr; omega)]; exact hn k hk
  · rw [hs _ _ (by unfold scr; omega), hs _ _ (by unfold scr; omega)]; exact hi
  · rw [hs _ _ (by unfold scr; omega)]
    rcases hi2 with hi2 | ⟨hi2, hb⟩
    · exact Or.inl hi2
    · exact Or.inr ⟨hi2, hb.fr (fun i k h => hs i k (by unfold scr; omega))⟩
theorem Inv.rowT {S S' : St} (h : Inv S) (hR : InvRow S') (hs : ∀ i k, ¬ (i = 62 ∨ i = 63 ∨ i = 80 ∨ (i = 74 ∧ k = 9) ∨ scr i k) → S'.1 i k = S.1 i k) : Inv S' := by
  obtain ⟨hB, hT, _, hn, hi, hi2⟩ := h
  refine ⟨hB.fr (fun i k h => hs i k (by unfold scr; omega)), hT.fr (fun i k h => hs i k (by unfold scr; omega)), hR, fun k hk => ?_, ?_, ?_⟩
  · rw [hs _ _ (by unfold scr; omega), hs _ _ (by unfold scr; omega)]; exact hn k hk
  · rw [hs _ _ (by unfold scr; omega), hs _ _ (by unfold scr; omega)]; exact hi
  · rw [hs _ _ (by unfold scr; omega)]
    rcases hi2 with hi2 | ⟨hi2, hb⟩
    · exact Or.inl hi2
    · exact Or.inr ⟨hi2, hb.fr (fun i k h => hs i k (by unfold scr; omega))⟩
section STX
variable {S : St} {q : Nat} {a : Nat → Int}
theorem RC.stk (h : RC S q a) {i : Nat} (hi : i < 8) (v : Int) : RC (up S (q + 1 + 2 + 2 * i) 0 (iI v)) q (st a (4 + i) v) := h.stt (c := 0) hi (by omega) v
theorem RC.stf (h : RC S q a) {i : Nat} (hi : i < 8) (v : Int) : RC (up S (q + 1 + 2 + 2 * i) 1 (iI v)) q (st a (12 + i) v) := h.stt (c := 1) hi (by omega) v
theorem RC.sts (h : RC S q a) {i : Nat} (hi : i < 8) (v : Int) : RC (up S (q + 1 + 2 + 2 * i) 2 (iI v)) q (st a (20 + i) v) := h.stt (c := 2) hi (by omega) v
theorem WFa.stk (h : WFa a) {i : Nat} {v : Int} (hi : i < 8) (hv : 0 ≤ v ∧ v ≤ 5) : WFa (st a (4 + i) v) := h.stt (c := 0) hi (by omega)
theorem WFa.stf (h : WFa a) {i : Nat} {v : Int} (hi : i < 8) (hv : 0 ≤ v ∧ v ≤ 9) : WFa (st a (12 + i) v) := h.stt (c := 1) hi (by omega)
theorem WFa.sts (h : WFa a) {i : Nat} {v : Int} (hi : i < 8) (hv : v = -9 ∨ (0 ≤ v ∧ v ≤ 11)) : WFa (st a (20 + i) v) := h.stt (c := 2) hi (by omega)
end STX
-- ===== small questions =====
theorem cNo {z : Int} (h1 : -2147483648 ≤ z) (h2 : z < 2147483648) : f_X7_noYear (iI z) = some (iI (if 0 ≤ z ∧ z < 12 then 0 else 1)) := by
  by_cases c1 : z < 0
  · simp (disch := omega) only [li_0, li_1, li_2, li_3, li_4, li_5, li_6, li_7, li_8, li_9, li_10, li_11, li_12, li_16, li_19, li_20, li_28, li_48, li_57, li_59, li_60, li_96, li_97, li_99, li_100, li_102, li_103, li_104, li_112, li_115, li_116, li_118, li_119, li_121, li_124, li_132, li_255, li_256, li_1000, li_2000, li_1000000000, iI_add, iI_sub, iI_mul, iI_neg, iI_lt, iI_le, iI_eq, iI_clamp, iI_s, iI_m1, iI_div, bs, tn, tn4, tn12, tn20, tn124, tn28, itT, itF, if_pos, if_neg, f_X7_noYear]
  · by_cases c2 : z < 12
    · simp (disch := omega) only [li_0, li_1, li_2, li_3, li_4, li_5, li_6, li_7, li_8, li_9, li_10, li_11, li_12, li_16, li_19, li_20, li_28, li_48, li_57, li_59, li_60, li_96, li_97, li_99, li_100, li_102, li_103, li_104, li_112, li_115, li_116, li_118, li_119, li_121, li_124, li_132, li_255, li_256, li_1000, li_2000, li_1000000000, iI_add, iI_sub, iI_mul, iI_neg, iI_lt, iI_le, iI_eq, iI_clamp, iI_s, iI_m1, iI_div, bs, tn, tn4, tn12, tn20, tn124, tn28, itT, itF, if_pos, if_neg, f_X7_noYear]
    · simp (disch := omega) only [li_0, li_1, li_2, li_3, li_4, li_5, li_6, li_7, li_8, li_9, li_10, li_11, li_12, li_16, li_19, li_20, li_28, li_48, li_57, li_59, li_60, li_96, li_97, li_99, li_100, li_102, li_103, li_104, li_112, li_115, li_116, li_118, li_119, li_121, li_124, li_132, li_255, li_256, li_1000, li_2000, li_1000000000, iI_add, iI_sub, iI_mul, iI_neg, iI_lt, iI_le, iI_eq, iI_clamp, iI_s, iI_m1, iI_div, bs, tn, tn4, tn12, tn20, tn124, tn28, itT, itF, if_pos, if_neg, f_X7_noYear]
theorem cTwo {z : Int} (h1 : -2147483648 ≤ z) (h2 : z < 2147483648) : f_X7_notOneOfTwo (iI z) = some (iI (if 0 ≤ z ∧ z ≤ 1 then 0 else 1)) := by
  by_cases c1 : z < 0
  · simp (disch := omega) only [li_0, li_1, li_2, li_3, li_4, li_5, li_6, li_7, li_8, li_9, li_10, li_11, li_12, li_16, li_19, li_20, li_28, li_48, li_57, li_59, li_60, li_96, li_97, li_99, li_100, li_102, li_103, li_104, li_112, li_115, li_116, li_118, li_119, li_121, li_124, li_132, li_255, li_256, li_1000, li_2000, li_1000000000, iI_add, iI_sub, iI_mul, iI_neg, iI_lt, iI_le, iI_eq, iI_clamp, iI_s, iI_m1, iI_div, bs, tn, tn4, tn12, tn20, tn124, tn28, itT, itF, if_pos, if_neg, f_X7_notOneOfTwo]
  · by_cases c2 : z ≤ 1
    · simp (disch := omega) only [li_0, li_1, li_2, li_3, li_4, li_5, li_6, li_7, li_8, li_9, li_10, li_11, li_12, li_16, li_19, li_20, li_28, li_48, li_57, li_59, li_60, li_96, li_97, li_99, li_100, li_102, li_103, li_104, li_112, li_115, li_116, li_118, li_119, li_121, li_124, li_132, li_255, li_256, li_1000, li_2000, li_1000000000, iI_add, iI_sub, iI_mul, iI_neg, iI_lt, iI_le, iI_eq, iI_clamp, iI_s, iI_m1, iI_div, bs, tn, tn4, tn12, tn20, tn124, tn28, itT, itF, if_pos, if_neg, f_X7_notOneOfTwo]
    · simp (disch := omega) only [li_0, li_1, li_2, li_3, li_4, li_5, li_6, li_7, li_8, li_9, li_10, li_11, li_12, li_16, li_19, li_20, li_28, li_48, li_57, li_59, li_60, li_96, li_97, li_99, li_100, li_102, li_103, li_104, li_112, li_115, li_116, li_118, li_119, li_121, li_124, li_132, li_255, li_256, li_1000, li_2000, li_1000000000, iI_add, iI_sub, iI_mul, iI_neg, iI_lt, iI_le, iI_eq, iI_clamp, iI_s, iI_m1, iI_div, bs, tn, tn4, tn12, tn20, tn124, tn28, itT, itF, if_pos, if_neg, f_X7_notOneOfTwo]
theorem cOut {z l u : Int} (h1 : -2147483648 ≤ z) (h2 : z < 2147483648) (h3 : -2147483648 ≤ l) (h4 : l < 2147483648) (h5 : -2147483648 ≤ u) (h6 : u < 2147483648) : f_X7_outside (iI z) (iI l) (iI u) = some (iI (if z < l then -4 else if u < z then -6 else 0)) := by
  by_cases c1 : z < l
  · simp (disch := omega) only [li_0, li_1, li_2, li_3, li_4, li_5, li_6, li_7, li_8, li_9, li_10, li_11, li_12, li_16, li_19, li_20, li_28, li_48, li_57, li_59, li_60, li_96, li_97, li_99, li_100, li_102, li_103, li_104, li_112, li_115, li_116, li_118, li_119, li_121, li_124, li_132, li_255, li_256, li_1000, li_2000, li_1000000000, iI_add, iI_sub, iI_mul, iI_neg, iI_lt, iI_le, iI_eq, iI_clamp, iI_s, iI_m1, iI_div, bs, tn, tn4, tn12, tn20, tn124, tn28, itT, itF, if_pos, if_neg, f_X7_outside]
  · by_cases c2 : u < z
    · simp (disch := omega) only [li_0, li_1, li_2, li_3, li_4, li_5, li_6, li_7, li_8, li_9, li_10, li_11, li_12, li_16, li_19, li_20, li_28, li_48, li_57, li_59, li_60, li_96, li_97, li_99, li_100, li_102, li_103, li_104, li_112, li_115, li_116, li_118, li_119, li_121, li_124, li_132, li_255, li_256, li_1000, li_2000, li_1000000000, iI_add, iI_sub, iI_mul, iI_neg, iI_lt, iI_le, iI_eq, iI_clamp, iI_s, iI_m1, iI_div, bs, tn, tn4, tn12, tn20, tn124, tn28, itT, itF, if_pos, if_neg, f_X7_outside]
    · simp (disch := omega) only [li_0, li_1, li_2, li_3, li_4, li_5, li_6, li_7, li_8, li_9, li_10, li_11, li_12, li_16, li_19, li_20, li_28, li_48, li_57, li_59, li_60, li_96, li_97, li_99, li_100, li_102, li_103, li_104, li_112, li_115, li_116, li_118, li_119, li_121, li_124, li_132, li_255, li_256, li_1000, li_2000, li_1000000000, iI_add, iI_sub, iI_mul, iI_neg, iI_lt, iI_le, iI_eq, iI_clamp, iI_s, iI_m1, iI_div, bs, tn, tn4, tn12, tn20, tn124, tn28, itT, itF, if_pos, if_neg, f_X7_outside]
theorem rYear {z : Int} (h1 : -2147483648 ≤ z) (h2 : z < 2147483648) : f_X8_isYear (iI z) = some (iI (if 0 ≤ z ∧ z ≤ 11 then 1 else 0)) := by
  have e := rIn (x := z) (l := 0) (u := 11) h1 h2 (by omega) (by omega) (by omega) (by omega)
  simp (disch := omega) only [li_0, li_1, li_2, li_3, li_4, li_5, li_6, li_7, li_8, li_9, li_10, li_11, li_12, li_16, li_19, li_20, li_28, li_48, li_57, li_59, li_60, li_96, li_97, li_99, li_100, li_102, li_103, li_104, li_112, li_115, li_116, li_118, li_119, li_121, li_124, li_132, li_255, li_256, li_1000, li_2000, li_1000000000, iI_add, iI_sub, iI_mul, iI_neg, iI_lt, iI_le, iI_eq, iI_clamp, iI_s, iI_m1, iI_div, bs, tn, tn4, tn12, tn20, tn124, tn28, itT, itF, if_pos, if_neg, f_X8_isYear, e]
theorem rThing {S : St} {N : Nat} (h0 : S.1 75 0 = iI N) (h8 : N ≤ 8) {z : Int} (h1 : -2147483648 ≤ z) (h2 : z < 2147483648) : f_X8_isThing (iI z) S = some (iI (if 0 ≤ z ∧ z < N then 1 else 0)) := by
  have e := rIn (x := z) (l := 0) (u := (N : Int) - 1) h1 h2 (by omega) (by omega) (by omega) (by omega)
  by_cases c : 0 ≤ z ∧ z < N
  · simp (disch := omega) only [li_0, li_1, li_2, li_3, li_4, li_5, li_6, li_7, li_8, li_9, li_10, li_11, li_12, li_16, li_19, li_20, li_28, li_48, li_57, li_59, li_60, li_96, li_97, li_99, li_100, li_102, li_103, li_104, li_112, li_115, li_116, li_118, li_119, li_121, li_124, li_132, li_255, li_256, li_1000, li_2000, li_1000000000, iI_add, iI_sub, iI_mul, iI_neg, iI_lt, iI_le, iI_eq, iI_clamp, iI_s, iI_m1, iI_div, bs, tn, tn4, tn12, tn20, tn124, tn28, itT, itF, if_pos, if_neg, f_X8_isThing, h0, e]
  · simp (disch := omega) only [li_0, li_1, li_2, li_3, li_4, li_5, li_6, li_7, li_8, li_9, li_10, li_11, li_12, li_16, li_19, li_20, li_28, li_48, li_57, li_59, li_60, li_96, li_97, li_99, li_100, li_102, li_103, li_104, li_112, li_115, li_116, li_118, li_119, li_121, li_124, li_132, li_255, li_256, li_1000, li_2000, li_1000000000, iI_add, iI_sub, iI_mul, iI_neg, iI_lt, iI_le, iI_eq, iI_clamp, iI_s, iI_m1, iI_div, bs, tn, tn4, tn12, tn20, tn124, tn28, itT, itF, if_pos, if_neg, f_X8_isThing, h0, e]
theorem rTwo {S : St} {N : Nat} (h0 : S.1 75 0 = iI N) (h8 : N ≤ 8) {z y : Int} (h1 : -2147483648 ≤ z) (h2 : z < 2147483648) (h3 : -2147483648 ≤ y) (h4 : y < 2147483648) : f_X8_areTwo (iI z) (iI y) S = some (iI (if (0 ≤ z ∧ z < N) ∧ (0 ≤ y ∧ y < N) ∧ z ≠ y then 1 else 0)) := by
  have e1 := rThing h0 h8 h1 h2
  have e2 := rThing h0 h8 h3 h4
  by_cases c1 : 0 ≤ z ∧ z < N
  · by_cases c2 : 0 ≤ y ∧ y < N
    · by_cases c3 : z = y
      · subst c3
        simp (disch := omega) only [li_0, li_1, li_2, li_3, li_4, li_5, li_6, li_7, li_8, li_9, li_10, li_11, li_12, li_16, li_19, li_20, li_28, li_48, li_57, li_59, li_60, li_96, li_97, li_99, li_100, li_102, li_103, li_104, li_112, li_115, li_116, li_118, li_119, li_121, li_124, li_132, li_255, li_256, li_1000, li_2000, li_1000000000, iI_add, iI_sub, iI_mul, iI_neg, iI_lt, iI_le, iI_eq, iI_clamp, iI_s, iI_m1, iI_div, bs, tn, tn4, tn12, tn20, tn124, tn28, itT, itF, if_pos, if_neg, f_X8_areTwo, e1, e2]
      · simp (disch := omega) only [li_0, li_1, li_2, li_3, li_4, li_5, li_6, li_7, li_8, li_9, li_10, li_11, li_12, li_16, li_19, li_20, li_28, li_48, li_57, li_59, li_60, li_96, li_97, li_99, li_100, li_102, li_103, li_104, li_112, li_115, li_116, li_118, li_119, li_121, li_124, li_132, li_255, li_256, li_1000, li_2000, li_1000000000, iI_add, iI_sub, iI_mul, iI_neg, iI_lt, iI_le, iI_eq, iI_clamp, iI_s, iI_m1, iI_div, bs, tn, tn4, tn12, tn20, tn124, tn28, itT, itF, if_pos, if_neg, f_X8_areTwo, e1, e2]
    · simp (disch := omega) only [li_0, li_1, li_2, li_3, li_4, li_5, li_6, li_7, li_8, li_9, li_10, li_11, li_12, li_16, li_19, li_20, li_28, li_48, li_57, li_59, li_60, li_96, li_97, li_99, li_100, li_102, li_103, li_104, li_112, li_115, li_116, li_118, li_119, li_121, li_124, li_132, li_255, li_256, li_1000, li_2000, li_1000000000, iI_add, iI_sub, iI_mul, iI_neg, iI_lt, iI_le, iI_eq, iI_clamp, iI_s, iI_m1, iI_div, bs, tn, tn4, tn12, tn20, tn124, tn28, itT, itF, if_pos, if_neg, f_X8_areTwo, e1, e2]
  · simp (disch := omega) only [li_0, li_1, li_2, li_3, li_4, li_5, li_6, li_7, li_8, li_9, li_10, li_11, li_12, li_16, li_19, li_20, li_28, li_48, li_57, li_59, li_60, li_96, li_97, li_99, li_100, li_102, li_103, li_104, li_112, li_115, li_116, li_118, li_119, li_121, li_124, li_132, li_255, li_256, li_1000, li_2000, li_1000000000, iI_add, iI_sub, iI_mul, iI_neg, iI_lt, iI_le, iI_eq, iI_clamp, iI_s, iI_m1, iI_div, bs, tn, tn4, tn12, tn20, tn124, tn28, itT, itF, if_pos, if_neg, f_X8_areTwo, e1, e2]
theorem cHeld {S : St} {a : Nat → Int} (hc : RC S 1 a) (hw : WFa a) {x y z : Int} (x1 : -2147483648 ≤ x) (x2 : x < 2147483648) (y1 : -2147483648 ≤ y) (y2 : y < 2147483648) (z1 : -2147483648 ≤ z) (z2 : z < 2147483648) : f_X7_heldRefusal (iI x) (iI y) (iI z) S = some (iI (if ¬ (0 ≤ x ∧ x < a 0) then -1 else if y < 0 ∨ z < 0 then -4 else if 99 < y ∨ 9 < z then -6 else 0)) := by
  have e1 := cLacks hc hw x1 x2
  by_cases c1 : 0 ≤ x ∧ x < a 0
  · by_cases c2 : y < 0
    · simp (disch := omega) only [li_0, li_1, li_2, li_3, li_4, li_5, li_6, li_7, li_8, li_9, li_10, li_11, li_12, li_16, li_19, li_20, li_28, li_48, li_57, li_59, li_60, li_96, li_97, li_99, li_100, li_102, li_103, li_104, li_112, li_115, li_116, li_118, li_119, li_121, li_124, li_132, li_255, li_256, li_1000, li_2000, li_1000000000, iI_add, iI_sub, iI_mul, iI_neg, iI_lt, iI_le, iI_eq, iI_clamp, iI_s, iI_m1, iI_div, bs, tn, tn4, tn12, tn20, tn124, tn28, itT, itF, if_pos, if_neg, f_X7_heldRefusal, e1]
    · by_cases c3 : z < 0
      · simp (disch := omega) only [li_0, li_1, li_2, li_3, li_4, li_5, li_6, li_7, li_8, li_9, li_10, li_11, li_12, li_16, li_19, li_20, li_28, li_48, li_57, li_59, li_60, li_96, li_97, li_99, li_100, li_102, li_103, li_104, li_112, li_115, li_116, li_118, li_119, li_121, li_124, li_132, li_255, li_256, li_1000, li_2000, li_1000000000, iI_add, iI_sub, iI_mul, iI_neg, iI_lt, iI_le, iI_eq, iI_clamp, iI_s, iI_m1, iI_div, bs, tn, tn4, tn12, tn20, tn124, tn28, itT, itF, if_pos, if_neg, f_X7_heldRefusal, e1]
      · by_cases c4 : 99 < y
        · simp (disch := omega) only [li_0, li_1, li_2, li_3, li_4, li_5, li_6, li_7, li_8, li_9, li_10, li_11, li_12, li_16, li_19, li_20, li_28, li_48, li_57, li_59, li_60, li_96, li_97, li_99, li_100, li_102, li_103, li_104, li_112, li_115, li_116, li_118, li_119, li_121, li_124, li_132, li_255, li_256, li_1000, li_2000, li_1000000000, iI_add, iI_sub, iI_mul, iI_neg, iI_lt, iI_le, iI_eq, iI_clamp, iI_s, iI_m1, iI_div, bs, tn, tn4, tn12, tn20, tn124, tn28, itT, itF, if_pos, if_neg, f_X7_heldRefusal, e1]
        · by_cases c5 : 9 < z
          · simp (disch := omega) only [li_0, li_1, li_2, li_3, li_4, li_5, li_6, li_7, li_8, li_9, li_10, li_11, li_12, li_16, li_19, li_20, li_28, li_48, li_57, li_59, li_60, li_96, li_97, li_99, li_100, li_102, li_103, li_104, li_112, li_115, li_116, li_118, li_119, li_121, li_124, li_132, li_255, li_256, li_1000, li_2000, li_1000000000, iI_add, iI_sub, iI_mul, iI_neg, iI_lt, iI_le, iI_eq, iI_clamp, iI_s, iI_m1, iI_div, bs, tn, tn4, tn12, tn20, tn124, tn28, itT, itF, if_pos, if_neg, f_X7_heldRefusal, e1]
          · simp (disch := omega) only [li_0, li_1, li_2, li_3, li_4, li_5, li_6, li_7, li_8, li_9, li_10, li_11, li_12, li_16, li_19, li_20, li_28, li_48, li_57, li_59, li_60, li_96, li_97, li_99, li_100, li_102, li_103, li_104, li_112, li_115, li_116, li_118, li_119, li_121, li_124, li_132, li_255, li_256, li_1000, li_2000, li_1000000000, iI_add, iI_sub, iI_mul, iI_neg, iI_lt, iI_le, iI_eq, iI_clamp, iI_s, iI_m1, iI_div, bs, tn, tn4, tn12, tn20, tn124, tn28, itT, itF, if_pos, if_neg, f_X7_heldRefusal, e1]
  · simp (disch := omega) only [li_0, li_1, li_2, li_3, li_4, li_5, li_6, li_7, li_8, li_9, li_10, li_11, li_12, li_16, li_19, li_20, li_28, li_48, li_57, li_59, li_60, li_96, li_97, li_99, li_100, li_102, li_103, li_104, li_112, li_115, li_116, li_118, li_119, li_121, li_124, li_132, li_255, li_256, li_1000, li_2000, li_1000000000, iI_add, iI_sub, iI_mul, iI_neg, iI_lt, iI_le, iI_eq, iI_clamp, iI_s, iI_m1, iI_div, bs, tn, tn4, tn12, tn20, tn124, tn28, itT, itF, if_pos, if_neg, f_X7_heldRefusal, e1]
theorem rWrong {S : St} {N : Nat} (h0 : S.1 75 0 = iI N) (h8 : N ≤ 8) {x y z : Int} (x1 : -2147483648 ≤ x) (x2 : x < 2147483648) (y1 : -2147483648 ≤ y) (y2 : y < 2147483648) (z1 : -2147483648 ≤ z) (z2 : z < 2147483648) : f_X8_wrongGlue (iI x) (iI y) (iI z) S = some (iI (if ¬ (0 ≤ x ∧ x < N) then -1 else if y < 0 ∨ z < 0 then -4 else if 99 < y ∨ 9 < z then -6 else 0)) := by
  have e1 := rThing h0 h8 x1 x2
  by_cases c1 : 0 ≤ x ∧ x < N
  · by_cases c2 : y < 0
    · simp (disch := omega) only [li_0, li_1, li_2, li_3, li_4, li_5, li_6, li_7, li_8, li_9, li_10, li_11, li_12, li_16, li_19, li_20, li_28, li_48, li_57, li_59, li_60, li_96, li_97, li_99, li_100, li_102, li_103, li_104, li_112, li_115, li_116, li_118, li_119, li_121, li_124, li_132, li_255, li_256, li_1000, li_2000, li_1000000000, iI_add, iI_sub, iI_mul, iI_neg, iI_lt, iI_le, iI_eq, iI_clamp, iI_s, iI_m1, iI_div, bs, tn, tn4, tn12, tn20, tn124, tn28, itT, itF, if_pos, if_neg, f_X8_wrongGlue, e1]
    · by_cases c3 : z < 0
      · simp (disch := omega) only [li_0, li_1, li_2, li_3, li_4, li_5, li_6, li_7, li_8, li_9, li_10, li_11, li_12, li_16, li_19, li_20, li_28, li_48, li_57, li_59, li_60, li_96, li_97, li_99, li_100, li_102, li_103, li_104, li_112, li_115, li_116, li_118, li_119, li_121, li_124, li_132, li_255, li_256, li_1000, li_2000, li_1000000000, iI_add, iI_sub, iI_mul, iI_neg, iI_lt, iI_le, iI_eq, iI_clamp, iI_s, iI_m1, iI_div, bs, tn, tn4, tn12, tn20, tn124, tn28, itT, itF, if_pos, if_neg, f_X8_wrongGlue, e1]
      · by_cases c4 : 99 < y
        · simp (disch := omega) only [li_0, li_1, li_2, li_3, li_4, li_5, li_6, li_7, li_8, li_9, li_10, li_11, li_12, li_16, li_19, li_20, li_28, li_48, li_57, li_59, li_60, li_96, li_97, li_99, li_100, li_102, li_103, li_104, li_112, li_115, li_116, li_118, li_119, li_121, li_124, li_132, li_255, li_256, li_1000, li_2000, li_1000000000, iI_add, iI_sub, iI_mul, iI_neg, iI_lt, iI_le, iI_eq, iI_clamp, iI_s, iI_m1, iI_div, bs, tn, tn4, tn12, tn20, tn124, tn28, itT, itF, if_pos, if_neg, f_X8_wrongGlue, e1]
        · by_cases c5 : 9 < z
          · simp (disch := omega) only [li_0, li_1, li_2, li_3, li_4, li_5, li_6, li_7, li_8, li_9, li_10, li_11, li_12, li_16, li_19, li_20, li_28, li_48, li_57, li_59, li_60, li_96, li_97, li_99, li_100, li_102, li_103, li_104, li_112, li_115, li_116, li_118, li_119, li_121, li_124, li_132, li_255, li_256, li_1000, li_2000, li_1000000000, iI_add, iI_sub, iI_mul, iI_neg, iI_lt, iI_le, iI_eq, iI_clamp, iI_s, iI_m1, iI_div, bs, tn, tn4, tn12, tn20, tn124, tn28, itT, itF, if_pos, if_neg, f_X8_wrongGlue, e1]
          · simp (disch := omega) only [li_0, li_1, li_2, li_3, li_4, li_5, li_6, li_7, li_8, li_9, li_10, li_11, li_12, li_16, li_19, li_20, li_28, li_48, li_57, li_59, li_60, li_96, li_97, li_99, li_100, li_102, li_103, li_104, li_112, li_115, li_116, li_118, li_119, li_121, li_124, li_132, li_255, li_256, li_1000, li_2000, li_1000000000, iI_add, iI_sub, iI_mul, iI_neg, iI_lt, iI_le, iI_eq, iI_clamp, iI_s, iI_m1, iI_div, bs, tn, tn4, tn12, tn20, tn124, tn28, itT, itF, if_pos, if_neg, f_X8_wrongGlue, e1]
  · simp (disch := omega) only [li_0, li_1, li_2, li_3, li_4, li_5, li_6, li_7, li_8, li_9, li_10, li_11, li_12, li_16, li_19, li_20, li_28, li_48, li_57, li_59, li_60, li_96, li_97, li_99, li_100, li_102, li_103, li_104, li_112, li_115, li_116, li_118, li_119, li_121, li_124, li_132, li_255, li_256, li_1000, li_2000, li_1000000000, iI_add, iI_sub, iI_mul, iI_neg, iI_lt, iI_le, iI_eq, iI_clamp, iI_s, iI_m1, iI_div, bs, tn, tn4, tn12, tn20, tn124, tn28, itT, itF, if_pos, if_neg, f_X8_wrongGlue, e1]
-- ===== calls that read or write one place =====
theorem e_thing {S : St} (hS : Inv S) (a1 : Int32) (a2 : Int32) : ∃ (z1 : Int32 × St) (z2 : Int32 × St), f_X7_thing a1 a2 S = some z1 ∧ f_X8_thing a1 a2 z1.2 = some z2 ∧ z1.1 = z2.1 ∧ Inv z2.2 := by
  obtain ⟨⟨a, hw, hc, hm0⟩, -⟩ := id hS
  have hm : ∀ k, k < 132 → S.1 75 k = iI (a k) := hm0
  have h8 := hw.1
  have w1 := hw.2.1
  have w2 := hw.2.2.1
  have w3 := hw.2.2.2.1
  obtain ⟨now, hnow⟩ : ∃ n : Nat, a 1 = n := ⟨(a 1).toNat, by omega⟩
  obtain ⟨N, hN⟩ : ∃ n : Nat, a 0 = n := ⟨(a 0).toNat, by omega⟩
  have hn : now ≤ 11 := by omega
  have hN8 : N ≤ 8 := by omega
  have p1 : S.1 1 1 = iI now := by rw [hc.1 1 (by omega), hnow]
  have p0 : S.1 1 0 = iI N := by rw [hc.1 0 (by omega), hN]
  have m0 : S.1 75 0 = iI N := by rw [hm 0 (by omega), hN]
  have m1 : S.1 75 1 = iI now := by rw [hm 1 (by omega), hnow]
  obtain ⟨x, x1, x2, rfl⟩ := iI_any a1
  obtain ⟨y, y1, y2, rfl⟩ := iI_any a2
  have e1 := cLacks hc hw x1 x2
  have g1 := rThing m0 hN8 x1 x2
  by_cases c : 0 ≤ x ∧ x < a 0
  · obtain ⟨j, rfl⟩ : ∃ n : Nat, x = n := ⟨x.toNat, by omega⟩
    have ht := hc.t (j := j) (by omega) (by omega)
    have hwt := hw.t (j := j) (by omega)
    have e2 := cAt (S := S) (q := 1) (j := j) (by omega)
    have e3 := cHow ht hwt hn
    have e4 := cCost ht hwt
    have g3 := rHow hm (by omega) hwt hn hnow
    have g4 := rCost hm (by omega) hwt
    by_cases y0 : y = 0
    · exact e_mk (v := iI (a (4 + j))) (S1 := S) (S2 := S) (by simp (disch := omega) only [li_0, li_1, li_2, li_3, li_4, li_5, li_6, li_7, li_8, li_9, li_10, li_11, li_12, li_16, li_19, li_20, li_28, li_48, li_57, li_59, li_60, li_96, li_97, li_99, li_100, li_102, li_103, li_104, li_112, li_115, li_116, li_118, li_119, li_121, li_124, li_132, li_255, li_256, li_1000, li_2000, li_1000000000, iI_add, iI_sub, iI_mul, iI_neg, iI_lt, iI_le, iI_eq, iI_clamp, iI_s, iI_m1, iI_div, bs, tn, tn4, tn12, tn20, tn124, tn28, itT, itF, if_pos, if_neg, f_X7_thing, e1, e2, ht.1]) (by simp (disch := omega) only [li_0, li_1, li_2, li_3, li_4, li_5, li_6, li_7, li_8, li_9, li_10, li_11, li_12, li_16, li_19, li_20, li_28, li_48, li_57, li_59, li_60, li_96, li_97, li_99, li_100, li_102, li_103, li_104, li_112, li_115, li_116, li_118, li_119, li_121, li_124, li_132, li_255, li_256, li_1000, li_2000, li_1000000000, iI_add, iI_sub, iI_mul, iI_neg, iI_lt, iI_le, iI_eq, iI_clamp, iI_s, iI_m1, iI_div, bs, tn, tn4, tn12, tn20, tn124, tn28, itT, itF, if_pos, if_neg, f_X8_thing, g1, hm]) hS
    · by_cases y1' : y = 1
      · exact e_mk (v := iI (a (12 + j))) (S1 := S) (S2 := S) (by simp (disch := omega) only [li_0, li_1, li_2, li_3, li_4, li_5, li_6, li_7, li_8, li_9, li_10, li_11, li_12, li_16, li_19, li_20, li_28, li_48, li_57, li_59, li_60, li_96, li_97, li_99, li_100, li_102, li_103, li_104, li_112, li_115, li_116, li_118, li_119, li_121, li_124, li_132, li_255, li_256, li_1000, li_2000, li_1000000000, iI_add, iI_sub, iI_mul, iI_neg, iI_lt, iI_le, iI_eq, iI_clamp, iI_s, iI_m1, iI_div, bs, tn, tn4, tn12, tn20, tn124, tn28, itT, itF, if_pos, if_neg, f_X7_thing, e1, e2, ht.2.1]) (by simp (disch := omega) only [li_0, li_1, li_2, li_3, li_4, li_5, li_6, li_7, li_8, li_9, li_10, li_11, li_12, li_16, li_19, li_20, li_28, li_48, li_57, li_59, li_60, li_96, li_97, li_99, li_100, li_102, li_103, li_104, li_112, li_115, li_116, li_118, li_119, li_121, li_124, li_132, li_255, li_256, li_1000, li_2000, li_1000000000, iI_add, iI_sub, iI_mul, iI_neg, iI_lt, iI_le, iI_eq, iI_clamp, iI_s, iI_m1, iI_div, bs, tn, tn4, tn12, tn20, tn124, tn28, itT, itF, if_pos, if_neg, f_X8_thing, g1, hm]) hS
      · by_cases y2' : y = 2
        · exact e_mk (v := iI (a (20 + j))) (S1 := S) (S2 := S) (by simp (disch := omega) only [li_0, li_1, li_2, li_3, li_4, li_5, li_6, li_7, li_8, li_9, li_10, li_11, li_12, li_16, li_19, li_20, li_28, li_48, li_57, li_59, li_60, li_96, li_97, li_99, li_100, li_102, li_103, li_104, li_112, li_115, li_116, li_118, li_119, li_121, li_124, li_132, li_255, li_256, li_1000, li_2000, li_1000000000, iI_add, iI_sub, iI_mul, iI_neg, iI_lt, iI_le, iI_eq, iI_clamp, iI_s, iI_m1, iI_div, bs, tn, tn4, tn12, tn20, tn124, tn28, itT, itF, if_pos, if_neg, f_X7_thing, e1, e2, ht.2.2.1]) (by simp (disch := omega) only [li_0, li_1, li_2, li_3, li_4, li_5, li_6, li_7, li_8, li_9, li_10, li_11, li_12, li_16, li_19, li_20, li_28, li_48, li_57, li_59, li_60, li_96, li_97, li_99, li_100, li_102, li_103, li_104, li_112, li_115, li_116, li_118, li_119, li_121, li_124, li_132, li_255, li_256, li_1000, li_2000, li_1000000000, iI_add, iI_sub, iI_mul, iI_neg, iI_lt, iI_le, iI_eq, iI_clamp, iI_s, iI_m1, iI_div, bs, tn, tn4, tn12, tn20, tn124, tn28, itT, itF, if_pos, if_neg, f_X8_thing, g1, hm]) hS
        · by_cases y3' : y = 3
          · exact e_mk (v := iI (sHow a j now)) (S1 := S) (S2 := S) (by simp (disch := omega) only [li_0, li_1, li_2, li_3, li_4, li_5, li_6, li_7, li_8, li_9, li_10, li_11, li_12, li_16, li_19, li_20, li_28, li_48, li_57, li_59, li_60, li_96, li_97, li_99, li_100, li_102, li_103, li_104, li_112, li_115, li_116, li_118, li_119, li_121, li_124, li_132, li_255, li_256, li_1000, li_2000, li_1000000000, iI_add, iI_sub, iI_mul, iI_neg, iI_lt, iI_le, iI_eq, iI_clamp, iI_s, iI_m1, iI_div, bs, tn, tn4, tn12, tn20, tn124, tn28, itT, itF, if_pos, if_neg, f_X7_thing, e1, e2, p1, e3]) (by simp (disch := omega) only [li_0, li_1, li_2, li_3, li_4, li_5, li_6, li_7, li_8, li_9, li_10, li_11, li_12, li_16, li_19, li_20, li_28, li_48, li_57, li_59, li_60, li_96, li_97, li_99, li_100, li_102, li_103, li_104, li_112, li_115, li_116, li_118, li_119, li_121, li_124, li_132, li_255, li_256, li_1000, li_2000, li_1000000000, iI_add, iI_sub, iI_mul, iI_neg, iI_lt, iI_le, iI_eq, iI_clamp, iI_s, iI_m1, iI_div, bs, tn, tn4, tn12, tn20, tn124, tn28, itT, itF, if_pos, if_neg, f_X8_thing, g1, g3]) hS
          · by_cases y4' : y = 4
            · exact e_mk (v := iI (sCost a j)) (S1 := S) (S2 := S) (by simp (disch := omega) only [li_0, li_1, li_2, li_3, li_4, li_5, li_6, li_7, li_8, li_9, li_10, li_11, li_12, li_16, li_19, li_20, li_28, li_48, li_57, li_59, li_60, li_96, li_97, li_99, li_100, li_102, li_103, li_104, li_112, li_115, li_116, li_118, li_119, li_121, li_124, li_132, li_255, li_256, li_1000, li_2000, li_1000000000, iI_add, iI_sub, iI_mul, iI_neg, iI_lt, iI_le, iI_eq, iI_clamp, iI_s, iI_m1, iI_div, bs, tn, tn4, tn12, tn20, tn124, tn28, itT, itF, if_pos, if_neg, f_X7_thing, e1, e2, e4]) (by simp (disch := omega) only [li_0, li_1, li_2, li_3, li_4, li_5, li_6, li_7, li_8, li_9, li_10, li_11, li_12, li_16, li_19, li_20, li_28, li_48, li_57, li_59, li_60, li_96, li_97, li_99, li_100, li_102, li_103, li_104, li_112, li_115, li_116, li_118, li_119, li_121, li_124, li_132, li_255, li_256, li_1000, li_2000, li_1000000000, iI_add, iI_sub, iI_mul, iI_neg, iI_lt, iI_le, iI_eq, iI_clamp, iI_s, iI_m1, iI_div, bs, tn, tn4, tn12, tn20, tn124, tn28, itT, itF, if_pos, if_neg, f_X8_thing, g1, g4]) hS
            · exact e_no hS (-2) 2 (by omega) (by omega) (by simp (disch := omega) only [li_0, li_1, li_2, li_3, li_4, li_5, li_6, li_7, li_8, li_9, li_10, li_11, li_12, li_16, li_19, li_20, li_28, li_48, li_57, li_59, li_60, li_96, li_97, li_99, li_100, li_102, li_103, li_104, li_112, li_115, li_116, li_118, li_119, li_121, li_124, li_132, li_255, li_256, li_1000, li_2000, li_1000000000, iI_add, iI_sub, iI_mul, iI_neg, iI_lt, iI_le, iI_eq, iI_clamp, iI_s, iI_m1, iI_div, bs, tn, tn4, tn12, tn20, tn124, tn28, itT, itF, if_pos, if_neg, f_X7_thing, e1, e2, bse]) (fun S1 q1 q2 => by
                have g1 := rThing (S := S1) (by rw [q1]; exact m0) hN8 x1 x2
                simp (disch := omega) only [li_0, li_1, li_2, li_3, li_4, li_5, li_6, li_7, li_8, li_9, li_10, li_11, li_12, li_16, li_19, li_20, li_28, li_48, li_57, li_59, li_60, li_96, li_97, li_99, li_100, li_102, li_103, li_104, li_112, li_115, li_116, li_118, li_119, li_121, li_124, li_132, li_255, li_256, li_1000, li_2000, li_1000000000, iI_add, iI_sub, iI_mul, iI_neg, iI_lt, iI_le, iI_eq, iI_clamp, iI_s, iI_m1, iI_div, bs, tn, tn4, tn12, tn20, tn124, tn28, itT, itF, if_pos, if_neg, f_X8_thing, g1, bse])
  · exact e_no hS (-1) 1 (by omega) (by omega) (by simp (disch := omega) only [li_0, li_1, li_2, li_3, li_4, li_5, li_6, li_7, li_8, li_9, li_10, li_11, li_12, li_16, li_19, li_20, li_28, li_48, li_57, li_59, li_60, li_96, li_97, li_99, li_100, li_102, li_103, li_104, li_112, li_115, li_116, li_118, li_119, li_121, li_124, li_132, li_255, li_256, li_1000, li_2000, li_1000000000, iI_add, iI_sub, iI_mul, iI_neg, iI_lt, iI_le, iI_eq, iI_clamp, iI_s, iI_m1, iI_div, bs, tn, tn4, tn12, tn20, tn124, tn28, itT, itF, if_pos, if_neg, f_X7_thing, e1, bse]) (fun S1 q1 q2 => by
      have g1 := rThing (S := S1) (by rw [q1]; exact m0) hN8 x1 x2
      simp (disch := omega) only [li_0, li_1, li_2, li_3, li_4, li_5, li_6, li_7, li_8, li_9, li_10, li_11, li_12, li_16, li_19, li_20, li_28, li_48, li_57, li_59, li_60, li_96, li_97, li_99, li_100, li_102, li_103, li_104, li_112, li_115, li_116, li_118, li_119, li_121, li_124, li_132, li_255, li_256, li_1000, li_2000, li_1000000000, iI_add, iI_sub, iI_mul, iI_neg, iI_lt, iI_le, iI_eq, iI_clamp, iI_s, iI_m1, iI_div, bs, tn, tn4, tn12, tn20, tn124, tn28, itT, itF, if_pos, if_neg, f_X8_thing, g1, bse])
theorem e_glad {S : St} (hS : Inv S) (a1 : Int32) (a2 : Int32) : ∃ (z1 : Int32 × St) (z2 : Int32 × St), f_X7_glad a1 a2 S = some z1 ∧ f_X8_glad a1 a2 z1.2 = some z2 ∧ z1.1 = z2.1 ∧ Inv z2.2 := by
  obtain ⟨⟨a, hw, hc, hm0⟩, -⟩ := id hS
  have hm : ∀ k, k < 132 → S.1 75 k = iI (a k) := hm0
  have h8 := hw.1
  have w1 := hw.2.1
  have w2 := hw.2.2.1
  have w3 := hw.2.2.2.1
  obtain ⟨now, hnow⟩ : ∃ n : Nat, a 1 = n := ⟨(a 1).toNat, by omega⟩
  obtain ⟨N, hN⟩ : ∃ n : Nat, a 0 = n := ⟨(a 0).toNat, by omega⟩
  have hn : now ≤ 11 := by omega
  have hN8 : N ≤ 8 := by omega
  have p1 : S.1 1 1 = iI now := by rw [hc.1 1 (by omega), hnow]
  have p0 : S.1 1 0 = iI N := by rw [hc.1 0 (by omega), hN]
  have m0 : S.1 75 0 = iI N := by rw [hm 0 (by omega), hN]
  have m1 : S.1 75 1 = iI now := by rw [hm 1 (by omega), hnow]
  obtain ⟨x, x1, x2, rfl⟩ := iI_any a1
  obtain ⟨y, y1, y2, rfl⟩ := iI_any a2
  have e1 := cLacks hc hw x1 x2
  have g1 := rThing m0 hN8 x1 x2
  have e3 := cNo y1 y2
  have g3 := rYear y1 y2
  by_cases c : 0 ≤ x ∧ x < a 0
  · obtain ⟨j, rfl⟩ : ∃ n : Nat, x = n := ⟨x.toNat, by omega⟩
    have ht := hc.t (j := j) (by omega) (by omega)
    have hwt := hw.t (j := j) (by omega)
    have e2 := cAt (S := S) (q := 1) (j := j) (by omega)
    by_cases cy : 0 ≤ y ∧ y < 12
    · obtain ⟨u, rfl⟩ : ∃ n : Nat, y = n := ⟨y.toNat, by omega⟩
      have e4 := cG ht (y := u) (by omega)
      exact e_mk (v := iI (sG a j u)) (S1 := S) (S2 := S) (by simp (disch := omega) only [li_0, li_1, li_2, li_3, li_4, li_5, li_6, li_7, li_8, li_9, li_10, li_11, li_12, li_16, li_19, li_20, li_28, li_48, li_57, li_59, li_60, li_96, li_97, li_99, li_100, li_102, li_103, li_104, li_112, li_115, li_116, li_118, li_119, li_121, li_124, li_132, li_255, li_256, li_1000, li_2000, li_1000000000, iI_add, iI_sub, iI_mul, iI_neg, iI_lt, iI_le, iI_eq, iI_clamp, iI_s, iI_m1, iI_div, bs, tn, tn4, tn12, tn20, tn124, tn28, itT, itF, if_pos, if_neg, f_X7_glad, e1, e2, e3, e4]) (by simp (disch := omega) only [li_0, li_1, li_2, li_3, li_4, li_5, li_6, li_7, li_8, li_9, li_10, li_11, li_12, li_16, li_19, li_20, li_28, li_48, li_57, li_59, li_60, li_96, li_97, li_99, li_100, li_102, li_103, li_104, li_112, li_115, li_116, li_118, li_119, li_121, li_124, li_132, li_255, li_256, li_1000, li_2000, li_1000000000, iI_add, iI_sub, iI_mul, iI_neg, iI_lt, iI_le, iI_eq, iI_clamp, iI_s, iI_m1, iI_div, bs, tn, tn4, tn12, tn20, tn124, tn28, itT, itF, if_pos, if_neg, f_X8_glad, g1, g3, rAt, hm, sG]) hS
    · exact e_no hS (-1) 1 (by omega) (by omega) (by simp (disch := omega) only [li_0, li_1, li_2, li_3, li_4, li_5, li_6, li_7, li_8, li_9, li_10, li_11, li_12, li_16, li_19, li_20, li_28, li_48, li_57, li_59, li_60, li_96, li_97, li_99, li_100, li_102, li_103, li_104, li_112, li_115, li_116, li_118, li_119, li_121, li_124, li_132, li_255, li_256, li_1000, li_2000, li_1000000000, iI_add, iI_sub, iI_mul, iI_neg, iI_lt, iI_le, iI_eq, iI_clamp, iI_s, iI_m1, iI_div, bs, tn, tn4, tn12, tn20, tn124, tn28, itT, itF, if_pos, if_neg, f_X7_glad, e1, e3, bse]) (fun S1 q1 q2 => by
        have g1 := rThing (S := S1) (by rw [q1]; exact m0) hN8 x1 x2
        simp (disch := omega) only [li_0, li_1, li_2, li_3, li_4, li_5, li_6, li_7, li_8, li_9, li_10, li_11, li_12, li_16, li_19, li_20, li_28, li_48, li_57, li_59, li_60, li_96, li_97, li_99, li_100, li_102, li_103, li_104, li_112, li_115, li_116, li_118, li_119, li_121, li_124, li_132, li_255, li_256, li_1000, li_2000, li_1000000000, iI_add, iI_sub, iI_mul, iI_neg, iI_lt, iI_le, iI_eq, iI_clamp, iI_s, iI_m1, iI_div, bs, tn, tn4, tn12, tn20, tn124, tn28, itT, itF, if_pos, if_neg, f_X8_glad, g1, g3, bse])
  · exact e_no hS (-1) 1 (by omega) (by omega) (by simp (disch := omega) only [li_0, li_1, li_2, li_3, li_4, li_5, li_6, li_7, li_8, li_9, li_10, li_11, li_12, li_16, li_19, li_20, li_28, li_48, li_57, li_59, li_60, li_96, li_97, li_99, li_100, li_102, li_103, li_104, li_112, li_115, li_116, li_118, li_119, li_121, li_124, li_132, li_255, li_256, li_1000, li_2000, li_1000000000, iI_add, iI_sub, iI_mul, iI_neg, iI_lt, iI_le, iI_eq, iI_clamp, iI_s, iI_m1, iI_div, bs, tn, tn4, tn12, tn20, tn124, tn28, itT, itF, if_pos, if_neg, f_X7_glad, e1, bse]) (fun S1 q1 q2 => by
      have g1 := rThing (S := S1) (by rw [q1]; exact m0) hN8 x1 x2
      simp (disch := omega) only [li_0, li_1, li_2, li_3, li_4, li_5, li_6, li_7, li_8, li_9, li_10, li_11, li_12, li_16, li_19, li_20, li_28, li_48, li_57, li_59, li_60, li_96, li_97, li_99, li_100, li_102, li_103, li_104, li_112, li_115, li_116, li_118, li_119, li_121, li_124, li_132, li_255, li_256, li_1000, li_2000, li_1000000000, iI_add, iI_sub, iI_mul, iI_neg, iI_lt, iI_le, iI_eq, iI_clamp, iI_s, iI_m1, iI_div, bs, tn, tn4, tn12, tn20, tn124, tn28, itT, itF, if_pos, if_neg, f_X8_glad, g1, bse])
theorem e_halves {S : St} (hS : Inv S) (a1 : Int32) (a2 : Int32) : ∃ (z1 : Int32 × St) (z2 : Int32 × St), f_X7_halves a1 a2 S = some z1 ∧ f_X8_halves a1 a2 z1.2 = some z2 ∧ z1.1 = z2.1 ∧ Inv z2.2 := by
  obtain ⟨⟨a, hw, hc, hm0⟩, -⟩ := id hS
  have hm : ∀ k, k < 132 → S.1 75 k = iI (a k) := hm0
  have h8 := hw.1
  have w1 := hw.2.1
  have w2 := hw.2.2.1
  have w3 := hw.2.2.2.1
  obtain ⟨now, hnow⟩ : ∃ n : Nat, a 1 = n := ⟨(a 1).toNat, by omega⟩
  obtain ⟨N, hN⟩ : ∃ n : Nat, a 0 = n := ⟨(a 0).toNat, by omega⟩
  have hn : now ≤ 11 := by omega
  have hN8 : N ≤ 8 := by omega
  have p1 : S.1 1 1 = iI now := by rw [hc.1 1 (by omega), hnow]
  have p0 : S.1 1 0 = iI N := by rw [hc.1 0 (by omega), hN]
  have m0 : S.1 75 0 = iI N := by rw [hm 0 (by omega), hN]
  have m1 : S.1 75 1 = iI now := by rw [hm 1 (by omega), hnow]
  obtain ⟨x, x1, x2, rfl⟩ := iI_any a1
  obtain ⟨y, y1, y2, rfl⟩ := iI_any a2
  have e1 := cLacksTwo hc hw x1 x2 y1 y2
  have g1 := rTwo m0 hN8 x1 x2 y1 y2
  by_cases c : (0 ≤ x ∧ x < a 0) ∧ (0 ≤ y ∧ y < a 0) ∧ x ≠ y
  · obtain ⟨i, rfl⟩ : ∃ n : Nat, x = n := ⟨x.toNat, by omega⟩
    obtain ⟨j, rfl⟩ : ∃ n : Nat, y = n := ⟨y.toNat, by omega⟩
    have e3 := cHalves hc hw hN (i := i) (j := j) (by omega) (by omega) (by omega)
    have b := (hw.2.2.2.2.1 i (by omega)).2.2.2.2
    have g3 := iI_bit (A := a (124 + i)) (j := j) b.1 (by omega) (by omega)
    have g4 : (((a (124 + i)).toNat / 2 ^ j % 2 : Nat) : Int) = (hb a i j : Int) := rfl
    refine e_mk (v := iI (hb a i j)) (S1 := S) (S2 := S) ?_ (by simp (disch := omega) only [li_0, li_1, li_2, li_3, li_4, li_5, li_6, li_7, li_8, li_9, li_10, li_11, li_12, li_16, li_19, li_20, li_28, li_48, li_57, li_59, li_60, li_96, li_97, li_99, li_100, li_102, li_103, li_104, li_112, li_115, li_116, li_118, li_119, li_121, li_124, li_132, li_255, li_256, li_1000, li_2000, li_1000000000, iI_add, iI_sub, iI_mul, iI_neg, iI_lt, iI_le, iI_eq, iI_clamp, iI_s, iI_m1, iI_div, bs, tn, tn4, tn12, tn20, tn124, tn28, itT, itF, if_pos, if_neg, f_X8_halves, g1, hm, g3, g4]) hS
    rcases hb_le a i j with h | h
    · simp (disch := omega) only [li_0, li_1, li_2, li_3, li_4, li_5, li_6, li_7, li_8, li_9, li_10, li_11, li_12, li_16, li_19, li_20, li_28, li_48, li_57, li_59, li_60, li_96, li_97, li_99, li_100, li_102, li_103, li_104, li_112, li_115, li_116, li_118, li_119, li_121, li_124, li_132, li_255, li_256, li_1000, li_2000, li_1000000000, iI_add, iI_sub, iI_mul, iI_neg, iI_lt, iI_le, iI_eq, iI_clamp, iI_s, iI_m1, iI_div, bs, tn, tn4, tn12, tn20, tn124, tn28, itT, itF, if_pos, if_neg, f_X7_halves, e1, e3, h]
      rfl
    · simp (disch := omega) only [li_0, li_1, li_2, li_3, li_4, li_5, li_6, li_7, li_8, li_9, li_10, li_11, li_12, li_16, li_19, li_20, li_28, li_48, li_57, li_59, li_60, li_96, li_97, li_99, li_100, li_102, li_103, li_104, li_112, li_115, li_116, li_118, li_119, li_121, li_124, li_132, li_255, li_256, li_1000, li_2000, li_1000000000, iI_add, iI_sub, iI_mul, iI_neg, iI_lt, iI_le, iI_eq, iI_clamp, iI_s, iI_m1, iI_div, bs, tn, tn4, tn12, tn20, tn124, tn28, itT, itF, if_pos, if_neg, f_X7_halves, e1, e3, h]
      rfl
  · exact e_no hS (-1) 1 (by omega) (by omega) (by simp (disch := omega) only [li_0, li_1, li_2, li_3, li_4, li_5, li_6, li_7, li_8, li_9, li_10, li_11, li_12, li_16, li_19, li_20, li_28, li_48, li_57, li_59, li_60, li_96, li_97, li_99, li_100, li_102, li_103, li_104, li_112, li_115, li_116, li_118, li_119, li_121, li_124, li_132, li_255, li_256, li_1000, li_2000, li_1000000000, iI_add, iI_sub, iI_mul, iI_neg, iI_lt, iI_le, iI_eq, iI_clamp, iI_s, iI_m1, iI_div, bs, tn, tn4, tn12, tn20, tn124, tn28, itT, itF, if_pos, if_neg, f_X7_halves, e1, bse]) (fun S1 q1 q2 => by
      have g1 := rTwo (S := S1) (by rw [q1]; exact m0) hN8 x1 x2 y1 y2
      simp (disch := omega) only [li_0, li_1, li_2, li_3, li_4, li_5, li_6, li_7, li_8, li_9, li_10, li_11, li_12, li_16, li_19, li_20, li_28, li_48, li_57, li_59, li_60, li_96, li_97, li_99, li_100, li_102, li_103, li_104, li_112, li_115, li_116, li_118, li_119, li_121, li_124, li_132, li_255, li_256, li_1000, li_2000, li_1000000000, iI_add, iI_sub, iI_mul, iI_neg, iI_lt, iI_le, iI_eq, iI_clamp, iI_s, iI_m1, iI_div, bs, tn, tn4, tn12, tn20, tn124, tn28, itT, itF, if_pos, if_neg, f_X8_halves, g1, bse])
theorem e_now {S : St} (hS : Inv S) (a1 : Int32) : ∃ (z1 : Int32 × St) (z2 : Int32 × St), f_X7_now a1 S = some z1 ∧ f_X8_now a1 z1.2 = some z2 ∧ z1.1 = z2.1 ∧ Inv z2.2 := by
  obtain ⟨⟨a, hw, hc, hm0⟩, -⟩ := id hS
  have hm : ∀ k, k < 132 → S.1 75 k = iI (a k) := hm0
  have h8 := hw.1
  have w1 := hw.2.1
  have w2 := hw.2.2.1
  have w3 := hw.2.2.2.1
  obtain ⟨now, hnow⟩ : ∃ n : Nat, a 1 = n := ⟨(a 1).toNat, by omega⟩
  obtain ⟨N, hN⟩ : ∃ n : Nat, a 0 = n := ⟨(a 0).toNat, by omega⟩
  have hn : now ≤ 11 := by omega
  have hN8 : N ≤ 8 := by omega
  have p1 : S.1 1 1 = iI now := by rw [hc.1 1 (by omega), hnow]
  have p0 : S.1 1 0 = iI N := by rw [hc.1 0 (by omega), hN]
  have m0 : S.1 75 0 = iI N := by rw [hm 0 (by omega), hN]
  have m1 : S.1 75 1 = iI now := by rw [hm 1 (by omega), hnow]
  obtain ⟨x, x1, x2, rfl⟩ := iI_any a1
  have e1 := cNo x1 x2
  have g1 := rYear x1 x2
  by_cases c : 0 ≤ x ∧ x < 12
  · refine e_mk (v := iI now) (S1 := up S 1 1 (iI x)) (S2 := up (up S 1 1 (iI x)) 75 1 (iI x)) (by simp (disch := omega) only [li_0, li_1, li_2, li_3, li_4, li_5, li_6, li_7, li_8, li_9, li_10, li_11, li_12, li_16, li_19, li_20, li_28, li_48, li_57, li_59, li_60, li_96, li_97, li_99, li_100, li_102, li_103, li_104, li_112, li_115, li_116, li_118, li_119, li_121, li_124, li_132, li_255, li_256, li_1000, li_2000, li_1000000000, iI_add, iI_sub, iI_mul, iI_neg, iI_lt, iI_le, iI_eq, iI_clamp, iI_s, iI_m1, iI_div, bs, tn, tn4, tn12, tn20, tn124, tn28, itT, itF, if_pos, if_neg, f_X7_now, e1, p1]) (by simp (disch := omega) only [li_0, li_1, li_2, li_3, li_4, li_5, li_6, li_7, li_8, li_9, li_10, li_11, li_12, li_16, li_19, li_20, li_28, li_48, li_57, li_59, li_60, li_96, li_97, li_99, li_100, li_102, li_103, li_104, li_112, li_115, li_116, li_118, li_119, li_121, li_124, li_132, li_255, li_256, li_1000, li_2000, li_1000000000, iI_add, iI_sub, iI_mul, iI_neg, iI_lt, iI_le, iI_eq, iI_clamp, iI_s, iI_m1, iI_div, bs, tn, tn4, tn12, tn20, tn124, tn28, itT, itF, if_pos, if_neg, up_s, up_n, f_X8_now, g1, m1]) ?_
    refine hS.shop ⟨st a 1 x, hw.st0 (by omega), (hc.st0 (by omega) x).ne (by omega), (hm0.ne (by omega)).st 1 x⟩ (fun i k h => ?_)
    unfold scr at h
    simp (disch := omega) only [up_n]
  · exact e_no hS (-1) 1 (by omega) (by omega) (by simp (disch := omega) only [li_0, li_1, li_2, li_3, li_4, li_5, li_6, li_7, li_8, li_9, li_10, li_11, li_12, li_16, li_19, li_20, li_28, li_48, li_57, li_59, li_60, li_96, li_97, li_99, li_100, li_102, li_103, li_104, li_112, li_115, li_116, li_118, li_119, li_121, li_124, li_132, li_255, li_256, li_1000, li_2000, li_1000000000, iI_add, iI_sub, iI_mul, iI_neg, iI_lt, iI_le, iI_eq, iI_clamp, iI_s, iI_m1, iI_div, bs, tn, tn4, tn12, tn20, tn124, tn28, itT, itF, if_pos, if_neg, f_X7_now, e1, bse]) (fun S1 q1 q2 => by simp (disch := omega) only [li_0, li_1, li_2, li_3, li_4, li_5, li_6, li_7, li_8, li_9, li_10, li_11, li_12, li_16, li_19, li_20, li_28, li_48, li_57, li_59, li_60, li_96, li_97, li_99, li_100, li_102, li_103, li_104, li_112, li_115, li_116, li_118, li_119, li_121, li_124, li_132, li_255, li_256, li_1000, li_2000, li_1000000000, iI_add, iI_sub, iI_mul, iI_neg, iI_lt, iI_le, iI_eq, iI_clamp, iI_s, iI_m1, iI_div, bs, tn, tn4, tn12, tn20, tn124, tn28, itT, itF, if_pos, if_neg, f_X8_now, g1, bse])
theorem e_hands {S : St} (hS : Inv S) (a1 : Int32) : ∃ (z1 : Int32 × St) (z2 : Int32 × St), f_X7_hands a1 S = some z1 ∧ f_X8_hands a1 z1.2 = some z2 ∧ z1.1 = z2.1 ∧ Inv z2.2 := by
  obtain ⟨⟨a, hw, hc, hm0⟩, -⟩ := id hS
  have hm : ∀ k, k < 132 → S.1 75 k = iI (a k) := hm0
  have h8 := hw.1
  have w1 := hw.2.1
  have w2 := hw.2.2.1
  have w3 := hw.2.2.2.1
  obtain ⟨now, hnow⟩ : ∃ n : Nat, a 1 = n := ⟨(a 1).toNat, by omega⟩
  obtain ⟨N, hN⟩ : ∃ n : Nat, a 0 = n := ⟨(a 0).toNat, by omega⟩
  have hn : now ≤ 11 := by omega
  have hN8 : N ≤ 8 := by omega
  have p1 : S.1 1 1 = iI now := by rw [hc.1 1 (by omega), hnow]
  have p0 : S.1 1 0 = iI N := by rw [hc.1 0 (by omega), hN]
  have m0 : S.1 75 0 = iI N := by rw [hm 0 (by omega), hN]
  have m1 : S.1 75 1 = iI now := by rw [hm 1 (by omega), hnow]
  obtain ⟨x, x1, x2, rfl⟩ := iI_any a1
  have e1 := cOut (z := x) (l := 1) (u := 4) x1 x2 (by omega) (by omega) (by omega) (by omega)
  have p3 := hc.1 3 (by omega)
  by_cases c1 : x < 1
  · exact e_no hS (-4) 4 (by omega) (by omega) (by simp (disch := omega) only [li_0, li_1, li_2, li_3, li_4, li_5, li_6, li_7, li_8, li_9, li_10, li_11, li_12, li_16, li_19, li_20, li_28, li_48, li_57, li_59, li_60, li_96, li_97, li_99, li_100, li_102, li_103, li_104, li_112, li_115, li_116, li_118, li_119, li_121, li_124, li_132, li_255, li_256, li_1000, li_2000, li_1000000000, iI_add, iI_sub, iI_mul, iI_neg, iI_lt, iI_le, iI_eq, iI_clamp, iI_s, iI_m1, iI_div, bs, tn, tn4, tn12, tn20, tn124, tn28, itT, itF, if_pos, if_neg, f_X7_hands, e1, bse]) (fun S1 q1 q2 => by simp (disch := omega) only [li_0, li_1, li_2, li_3, li_4, li_5, li_6, li_7, li_8, li_9, li_10, li_11, li_12, li_16, li_19, li_20, li_28, li_48, li_57, li_59, li_60, li_96, li_97, li_99, li_100, li_102, li_103, li_104, li_112, li_115, li_116, li_118, li_119, li_121, li_124, li_132, li_255, li_256, li_1000, li_2000, li_1000000000, iI_add, iI_sub, iI_mul, iI_neg, iI_lt, iI_le, iI_eq, iI_clamp, iI_s, iI_m1, iI_div, bs, tn, tn4, tn12, tn20, tn124, tn28, itT, itF, if_pos, if_neg, f_X8_hands, bse])
  · by_cases c2 : 4 < x
    · exact e_no hS (-6) 6 (by omega) (by omega) (by simp (disch := omega) only [li_0, li_1, li_2, li_3, li_4, li_5, li_6, li_7, li_8, li_9, li_10, li_11, li_12, li_16, li_19, li_20, li_28, li_48, li_57, li_59, li_60, li_96, li_97, li_99, li_100, li_102, li_103, li_104, li_112, li_115, li_116, li_118, li_119, li_121, li_124, li_132, li_255, li_256, li_1000, li_2000, li_1000000000, iI_add, iI_sub, iI_mul, iI_neg, iI_lt, iI_le, iI_eq, iI_clamp, iI_s, iI_m1, iI_div, bs, tn, tn4, tn12, tn20, tn124, tn28, itT, itF, if_pos, if_neg, f_X7_hands, e1, bse]) (fun S1 q1 q2 => by simp (disch := omega) only [li_0, li_1, li_2, li_3, li_4, li_5, li_6, li_7, li_8, li_9, li_10, li_11, li_12, li_16, li_19, li_20, li_28, li_48, li_57, li_59, li_60, li_96, li_97, li_99, li_100, li_102, li_103, li_104, li_112, li_115, li_116, li_118, li_119, li_121, li_124, li_132, li_255, li_256, li_1000, li_2000, li_1000000000, iI_add, iI_sub, iI_mul, iI_neg, iI_lt, iI_le, iI_eq, iI_clamp, iI_s, iI_m1, iI_div, bs, tn, tn4, tn12, tn20, tn124, tn28, itT, itF, if_pos, if_neg, f_X8_hands, bse])
    · refine e_mk (v := iI (a 3)) (S1 := up S 1 3 (iI x)) (S2 := up (up S 1 3 (iI x)) 75 3 (iI x)) (by simp (disch := omega) only [li_0, li_1, li_2, li_3, li_4, li_5, li_6, li_7, li_8, li_9, li_10, li_11, li_12, li_16, li_19, li_20, li_28, li_48, li_57, li_59, li_60, li_96, li_97, li_99, li_100, li_102, li_103, li_104, li_112, li_115, li_116, li_118, li_119, li_121, li_124, li_132, li_255, li_256, li_1000, li_2000, li_1000000000, iI_add, iI_sub, iI_mul, iI_neg, iI_lt, iI_le, iI_eq, iI_clamp, iI_s, iI_m1, iI_div, bs, tn, tn4, tn12, tn20, tn124, tn28, itT, itF, if_pos, if_neg, f_X7_hands, e1, p3]) (by simp (disch := omega) only [li_0, li_1, li_2, li_3, li_4, li_5, li_6, li_7, li_8, li_9, li_10, li_11, li_12, li_16, li_19, li_20, li_28, li_48, li_57, li_59, li_60, li_96, li_97, li_99, li_100, li_102, li_103, li_104, li_112, li_115, li_116, li_118, li_119, li_121, li_124, li_132, li_255, li_256, li_1000, li_2000, li_1000000000, iI_add, iI_sub, iI_mul, iI_neg, iI_lt, iI_le, iI_eq, iI_clamp, iI_s, iI_m1, iI_div, bs, tn, tn4, tn12, tn20, tn124, tn28, itT, itF, if_pos, if_neg, up_s, up_n, f_X8_hands, hm]) ?_
      refine hS.shop ⟨st a 3 x, hw.st0 (by omega), (hc.st0 (by omega) x).ne (by omega), (hm0.ne (by omega)).st 3 x⟩ (fun i k h => ?_)
      unfold scr at h
      simp (disch := omega) only [up_n]
theorem e_pours {S : St} (hS : Inv S) (a1 : Int32) : ∃ (z1 : Int32 × St) (z2 : Int32 × St), f_X7_pours a1 S = some z1 ∧ f_X8_pours a1 z1.2 = some z2 ∧ z1.1 = z2.1 ∧ Inv z2.2 := by
  obtain ⟨⟨a, hw, hc, hm0⟩, -⟩ := id hS
  have hm : ∀ k, k < 132 → S.1 75 k = iI (a k) := hm0
  have h8 := hw.1
  have w1 := hw.2.1
  have w2 := hw.2.2.1
  have w3 := hw.2.2.2.1
  obtain ⟨now, hnow⟩ : ∃ n : Nat, a 1 = n := ⟨(a 1).toNat, by omega⟩
  obtain ⟨N, hN⟩ : ∃ n : Nat, a 0 = n := ⟨(a 0).toNat, by omega⟩
  have hn : now ≤ 11 := by omega
  have hN8 : N ≤ 8 := by omega
  have p1 : S.1 1 1 = iI now := by rw [hc.1 1 (by omega), hnow]
  have p0 : S.1 1 0 = iI N := by rw [hc.1 0 (by omega), hN]
  have m0 : S.1 75 0 = iI N := by rw [hm 0 (by omega), hN]
  have m1 : S.1 75 1 = iI now := by rw [hm 1 (by omega), hnow]
  obtain ⟨x, x1, x2, rfl⟩ := iI_any a1
  have e1 := cOut (z := x) (l := 0) (u := 99) x1 x2 (by omega) (by omega) (by omega) (by omega)
  have p3 := hc.1 2 (by omega)
  by_cases c1 : x < 0
  · exact e_no hS (-4) 4 (by omega) (by omega) (by simp (disch := omega) only [li_0, li_1, li_2, li_3, li_4, li_5, li_6, li_7, li_8, li_9, li_10, li_11, li_12, li_16, li_19, li_20, li_28, li_48, li_57, li_59, li_60, li_96, li_97, li_99, li_100, li_102, li_103, li_104, li_112, li_115, li_116, li_118, li_119, li_121, li_124, li_132, li_255, li_256, li_1000, li_2000, li_1000000000, iI_add, iI_sub, iI_mul, iI_neg, iI_lt, iI_le, iI_eq, iI_clamp, iI_s, iI_m1, iI_div, bs, tn, tn4, tn12, tn20, tn124, tn28, itT, itF, if_pos, if_neg, f_X7_pours, e1, bse]) (fun S1 q1 q2 => by simp (disch := omega) only [li_0, li_1, li_2, li_3, li_4, li_5, li_6, li_7, li_8, li_9, li_10, li_11, li_12, li_16, li_19, li_20, li_28, li_48, li_57, li_59, li_60, li_96, li_97, li_99, li_100, li_102, li_103, li_104, li_112, li_115, li_116, li_118, li_119, li_121, li_124, li_132, li_255, li_256, li_1000, li_2000, li_1000000000, iI_add, iI_sub, iI_mul, iI_neg, iI_lt, iI_le, iI_eq, iI_clamp, iI_s, iI_m1, iI_div, bs, tn, tn4, tn12, tn20, tn124, tn28, itT, itF, if_pos, if_neg, f_X8_pours, bse])
  · by_cases c2 : 99 < x
    · exact e_no hS (-6) 6 (by omega) (by omega) (by simp (disch := omega) only [li_0, li_1, li_2, li_3, li_4, li_5, li_6, li_7, li_8, li_9, li_10, li_11, li_12, li_16, li_19, li_20, li_28, li_48, li_57, li_59, li_60, li_96, li_97, li_99, li_100, li_102, li_103, li_104, li_112, li_115, li_116, li_118, li_119, li_121, li_124, li_132, li_255, li_256, li_1000, li_2000, li_1000000000, iI_add, iI_sub, iI_mul, iI_neg, iI_lt, iI_le, iI_eq, iI_clamp, iI_s, iI_m1, iI_div, bs, tn, tn4, tn12, tn20, tn124, tn28, itT, itF, if_pos, if_neg, f_X7_pours, e1, bse]) (fun S1 q1 q2 => by simp (disch := omega) only [li_0, li_1, li_2, li_3, li_4, li_5, li_6, li_7, li_8, li_9, li_10, li_11, li_12, li_16, li_19, li_20, li_28, li_48, li_57, li_59, li_60, li_96, li_97, li_99, li_100, li_102, li_103, li_104, li_112, li_115, li_116, li_118, li_119, li_121, li_124, li_132, li_255, li_256, li_1000, li_2000, li_1000000000, iI_add, iI_sub, iI_mul, iI_neg, iI_lt, iI_le, iI_eq, iI_clamp, iI_s, iI_m1, iI_div, bs, tn, tn4, tn12, tn20, tn124, tn28, itT, itF, if_pos, if_neg, f_X8_pours, bse])
    · refine e_mk (v := iI (a 2)) (S1 := up S 1 2 (iI x)) (S2 := up (up S 1 2 (iI x)) 75 2 (iI x)) (by simp (disch := omega) only [li_0, li_1, li_2, li_3, li_4, li_5, li_6, li_7, li_8, li_9, li_10, li_11, li_12, li_16, li_19, li_20, li_28, li_48, li_57, li_59, li_60, li_96, li_97, li_99, li_100, li_102, li_103, li_104, li_112, li_115, li_116, li_118, li_119, li_121, li_124, li_132, li_255, li_256, li_1000, li_2000, li_1000000000, iI_add, iI_sub, iI_mul, iI_neg, iI_lt, iI_le, iI_eq, iI_clamp, iI_s, iI_m1, iI_div, bs, tn, tn4, tn12, tn20, tn124, tn28, itT, itF, if_pos, if_neg, f_X7_pours, e1, p3]) (by simp (disch := omega) only [li_0, li_1, li_2, li_3, li_4, li_5, li_6, li_7, li_8, li_9, li_10, li_11, li_12, li_16, li_19, li_20, li_28, li_48, li_57, li_59, li_60, li_96, li_97, li_99, li_100, li_102, li_103, li_104, li_112, li_115, li_116, li_118, li_119, li_121, li_124, li_132, li_255, li_256, li_1000, li_2000, li_1000000000, iI_add, iI_sub, iI_mul, iI_neg, iI_lt, iI_le, iI_eq, iI_clamp, iI_s, iI_m1, iI_div, bs, tn, tn4, tn12, tn20, tn124, tn28, itT, itF, if_pos, if_neg, up_s, up_n, f_X8_pours, hm]) ?_
      refine hS.shop ⟨st a 2 x, hw.st0 (by omega), (hc.st0 (by omega) x).ne (by omega), (hm0.ne (by omega)).st 2 x⟩ (fun i k h => ?_)
      unfold scr at h
      simp (disch := omega) only [up_n]
theorem e_turn {S : St} (hS : Inv S) (a1 : Int32) (a2 : Int32) (a3 : Int32) : ∃ (z1 : Int32 × St) (z2 : Int32 × St), f_X7_turn a1 a2 a3 S = some z1 ∧ f_X8_turn a1 a2 a3 z1.2 = some z2 ∧ z1.1 = z2.1 ∧ Inv z2.2 := by
  obtain ⟨⟨a, hw, hc, hm0⟩, -⟩ := id hS
  have hm : ∀ k, k < 132 → S.1 75 k = iI (a k) := hm0
  have h8 := hw.1
  have w1 := hw.2.1
  have w2 := hw.2.2.1
  have w3 := hw.2.2.2.1
  obtain ⟨now, hnow⟩ : ∃ n : Nat, a 1 = n := ⟨(a 1).toNat, by omega⟩
  obtain ⟨N, hN⟩ : ∃ n : Nat, a 0 = n := ⟨(a 0).toNat, by omega⟩
  have hn : now ≤ 11 := by omega
  have hN8 : N ≤ 8 := by omega
  have p1 : S.1 1 1 = iI now := by rw [hc.1 1 (by omega), hnow]
  have p0 : S.1 1 0 = iI N := by rw [hc.1 0 (by omega), hN]
  have m0 : S.1 75 0 = iI N := by rw [hm 0 (by omega), hN]
  have m1 : S.1 75 1 = iI now := by rw [hm 1 (by omega), hnow]
  obtain ⟨x, x1, x2, rfl⟩ := iI_any a1
  obtain ⟨y, y1, y2, rfl⟩ := iI_any a2
  obtain ⟨z, z1, z2, rfl⟩ := iI_any a3
  have e1 := cLacks hc hw x1 x2
  have g1 := rThing m0 hN8 x1 x2
  have e3 := cOut (z := z) (l := 0) (u := 9) z1 z2 (by omega) (by omega) (by omega) (by omega)
  have g3 := rIn (x := y) (l := 0) (u := 5) y1 y2 (by omega) (by omega) (by omega) (by omega)
  by_cases c : 0 ≤ x ∧ x < a 0
  · obtain ⟨j, rfl⟩ : ∃ n : Nat, x = n := ⟨x.toNat, by omega⟩
    have ht := hc.t (j := j) (by omega) (by omega)
    have hwt := hw.t (j := j) (by omega)
    have e2 := cAt (S := S) (q := 1) (j := j) (by omega)
    by_cases c1 : y < 0 ∨ 5 < y
    · refine e_no hS (-2) 2 (by omega) (by omega) ?_ (fun S1 q1 q2 => by
        have g1 := rThing (S := S1) (by rw [q1]; exact m0) hN8 x1 x2
        simp (disch := omega) only [li_0, li_1, li_2, li_3, li_4, li_5, li_6, li_7, li_8, li_9, li_10, li_11, li_12, li_16, li_19, li_20, li_28, li_48, li_57, li_59, li_60, li_96, li_97, li_99, li_100, li_102, li_103, li_104, li_112, li_115, li_116, li_118, li_119, li_121, li_124, li_132, li_255, li_256, li_1000, li_2000, li_1000000000, iI_add, iI_sub, iI_mul, iI_neg, iI_lt, iI_le, iI_eq, iI_clamp, iI_s, iI_m1, iI_div, bs, tn, tn4, tn12, tn20, tn124, tn28, itT, itF, if_pos, if_neg, f_X8_turn, g1, g3, bse])
      by_cases c2 : y < 0
      · simp (disch := omega) only [li_0, li_1, li_2, li_3, li_4, li_5, li_6, li_7, li_8, li_9, li_10, li_11, li_12, li_16, li_19, li_20, li_28, li_48, li_57, li_59, li_60, li_96, li_97, li_99, li_100, li_102, li_103, li_104, li_112, li_115, li_116, li_118, li_119, li_121, li_124, li_132, li_255, li_256, li_1000, li_2000, li_1000000000, iI_add, iI_sub, iI_mul, iI_neg, iI_lt, iI_le, iI_eq, iI_clamp, iI_s, iI_m1, iI_div, bs, tn, tn4, tn12, tn20, tn124, tn28, itT, itF, if_pos, if_neg, f_X7_turn, e1, bse]
      · simp (disch := omega) only [li_0, li_1, li_2, li_3, li_4, li_5, li_6, li_7, li_8, li_9, li_10, li_11, li_12, li_16, li_19, li_20, li_28, li_48, li_57, li_59, li_60, li_96, li_97, li_99, li_100, li_102, li_103, li_104, li_112, li_115, li_116, li_118, li_119, li_121, li_124, li_132, li_255, li_256, li_1000, li_2000, li_1000000000, iI_add, iI_sub, iI_mul, iI_neg, iI_lt, iI_le, iI_eq, iI_clamp, iI_s, iI_m1, iI_div, bs, tn, tn4, tn12, tn20, tn124, tn28, itT, itF, if_pos, if_neg, f_X7_turn, e1, bse]
    · by_cases c2 : z < 0
      · exact e_no hS (-4) 4 (by omega) (by omega) (by simp (disch := omega) only [li_0, li_1, li_2, li_3, li_4, li_5, li_6, li_7, li_8, li_9, li_10, li_11, li_12, li_16, li_19, li_20, li_28, li_48, li_57, li_59, li_60, li_96, li_97, li_99, li_100, li_102, li_103, li_104, li_112, li_115, li_116, li_118, li_119, li_121, li_124, li_132, li_255, li_256, li_1000, li_2000, li_1000000000, iI_add, iI_sub, iI_mul, iI_neg, iI_lt, iI_le, iI_eq, iI_clamp, iI_s, iI_m1, iI_div, bs, tn, tn4, tn12, tn20, tn124, tn28, itT, itF, if_pos, if_neg, f_X7_turn, e1, e3, bse]) (fun S1 q1 q2 => by
          have g1 := rThing (S := S1) (by rw [q1]; exact m0) hN8 x1 x2
          simp (disch := omega) only [li_0, li_1, li_2, li_3, li_4, li_5, li_6, li_7, li_8, li_9, li_10, li_11, li_12, li_16, li_19, li_20, li_28, li_48, li_57, li_59, li_60, li_96, li_97, li_99, li_100, li_102, li_103, li_104, li_112, li_115, li_116, li_118, li_119, li_121, li_124, li_132, li_255, li_256, li_1000, li_2000, li_1000000000, iI_add, iI_sub, iI_mul, iI_neg, iI_lt, iI_le, iI_eq, iI_clamp, iI_s, iI_m1, iI_div, bs, tn, tn4, tn12, tn20, tn124, tn28, itT, itF, if_pos, if_neg, f_X8_turn, g1, g3, bse])
      · by_cases c3 : 9 < z
        · exact e_no hS (-6) 6 (by omega) (by omega) (by simp (disch := omega) only [li_0, li_1, li_2, li_3, li_4, li_5, li_6, li_7, li_8, li_9, li_10, li_11, li_12, li_16, li_19, li_20, li_28, li_48, li_57, li_59, li_60, li_96, li_97, li_99, li_100, li_102, li_103, li_104, li_112, li_115, li_116, li_118, li_119, li_121, li_124, li_132, li_255, li_256, li_1000, li_2000, li_1000000000, iI_add, iI_sub, iI_mul, iI_neg, iI_lt, iI_le, iI_eq, iI_clamp, iI_s, iI_m1, iI_div, bs, tn, tn4, tn12, tn20, tn124, tn28, itT, itF, if_pos, if_neg, f_X7_turn, e1, e3, bse]) (fun S1 q1 q2 => by
            have g1 := rThing (S := S1) (by rw [q1]; exact m0) hN8 x1 x2
            simp (disch := omega) only [li_0, li_1, li_2, li_3, li_4, li_5, li_6, li_7, li_8, li_9, li_10, li_11, li_12, li_16, li_19, li_20, li_28, li_48, li_57, li_59, li_60, li_96, li_97, li_99, li_100, li_102, li_103, li_104, li_112, li_115, li_116, li_118, li_119, li_121, li_124, li_132, li_255, li_256, li_1000, li_2000, li_1000000000, iI_add, iI_sub, iI_mul, iI_neg, iI_lt, iI_le, iI_eq, iI_clamp, iI_s, iI_m1, iI_div, bs, tn, tn4, tn12, tn20, tn124, tn28, itT, itF, if_pos, if_neg, f_X8_turn, g1, g3, bse])
        · have q0 : (up (up S (1 + 1 + 2 + 2 * j) 0 (iI y)) (1 + 1 + 2 + 2 * j) 1 (iI z)).1 75 0 = iI N := by simp (disch := omega) only [li_0, li_1, li_2, li_3, li_4, li_5, li_6, li_7, li_8, li_9, li_10, li_11, li_12, li_16, li_19, li_20, li_28, li_48, li_57, li_59, li_60, li_96, li_97, li_99, li_100, li_102, li_103, li_104, li_112, li_115, li_116, li_118, li_119, li_121, li_124, li_132, li_255, li_256, li_1000, li_2000, li_1000000000, iI_add, iI_sub, iI_mul, iI_neg, iI_lt, iI_le, iI_eq, iI_clamp, iI_s, iI_m1, iI_div, bs, tn, tn4, tn12, tn20, tn124, tn28, itT, itF, if_pos, if_neg, up_s, up_n, m0]
          have g1 := rThing q0 hN8 x1 x2
          refine e_mk (v := iI (10 * a (4 + j) + a (12 + j))) (S1 := up (up S (1 + 1 + 2 + 2 * j) 0 (iI y)) (1 + 1 + 2 + 2 * j) 1 (iI z)) (S2 := up (up (up (up S (1 + 1 + 2 + 2 * j) 0 (iI y)) (1 + 1 + 2 + 2 * j) 1 (iI z)) 75 (4 + j) (iI y)) 75 (12 + j) (iI z)) (by simp (disch := omega) only [li_0, li_1, li_2, li_3, li_4, li_5, li_6, li_7, li_8, li_9, li_10, li_11, li_12, li_16, li_19, li_20, li_28, li_48, li_57, li_59, li_60, li_96, li_97, li_99, li_100, li_102, li_103, li_104, li_112, li_115, li_116, li_118, li_119, li_121, li_124, li_132, li_255, li_256, li_1000, li_2000, li_1000000000, iI_add, iI_sub, iI_mul, iI_neg, iI_lt, iI_le, iI_eq, iI_clamp, iI_s, iI_m1, iI_div, bs, tn, tn4, tn12, tn20, tn124, tn28, itT, itF, if_pos, if_neg, f_X7_turn, e1, e2, e3, ht.1, ht.2.1]) (by simp (disch := omega) only [li_0, li_1, li_2, li_3, li_4, li_5, li_6, li_7, li_8, li_9, li_10, li_11, li_12, li_16, li_19, li_20, li_28, li_48, li_57, li_59, li_60, li_96, li_97, li_99, li_100, li_102, li_103, li_104, li_112, li_115, li_116, li_118, li_119, li_121, li_124, li_132, li_255, li_256, li_1000, li_2000, li_1000000000, iI_add, iI_sub, iI_mul, iI_neg, iI_lt, iI_le, iI_eq, iI_clamp, iI_s, iI_m1, iI_div, bs, tn, tn4, tn12, tn20, tn124, tn28, itT, itF, if_pos, if_neg, up_s, up_n, f_X8_turn, g1, g3, hm]) ?_
          refine hS.shop ⟨st (st a (4 + j) y) (12 + j) z, (hw.stk (by omega) (by omega)).stf (by omega) (by omega), (((hc.stk (by omega) y).stf (by omega) z).ne (by omega)).ne (by omega), (((hm0.ne (by omega)).ne (by omega)).st _ y).st _ z⟩ (fun i k h => ?_)
          unfold scr at h
          simp (disch := omega) only [up_n]
  · exact e_no hS (-1) 1 (by omega) (by omega) (by simp (disch := omega) only [li_0, li_1, li_2, li_3, li_4, li_5, li_6, li_7, li_8, li_9, li_10, li_11, li_12, li_16, li_19, li_20, li_28, li_48, li_57, li_59, li_60, li_96, li_97, li_99, li_100, li_102, li_103, li_104, li_112, li_115, li_116, li_118, li_119, li_121, li_124, li_132, li_255, li_256, li_1000, li_2000, li_1000000000, iI_add, iI_sub, iI_mul, iI_neg, iI_lt, iI_le, iI_eq, iI_clamp, iI_s, iI_m1, iI_div, bs, tn, tn4, tn12, tn20, tn124, tn28, itT, itF, if_pos, if_neg, f_X7_turn, e1, bse]) (fun S1 q1 q2 => by
      have g1 := rThing (S := S1) (by rw [q1]; exact m0) hN8 x1 x2
      simp (disch := omega) only [li_0, li_1, li_2, li_3, li_4, li_5, li_6, li_7, li_8, li_9, li_10, li_11, li_12, li_16, li_19, li_20, li_28, li_48, li_57, li_59, li_60, li_96, li_97, li_99, li_100, li_102, li_103, li_104, li_112, li_115, li_116, li_118, li_119, li_121, li_124, li_132, li_255, li_256, li_1000, li_2000, li_1000000000, iI_add, iI_sub, iI_mul, iI_neg, iI_lt, iI_le, iI_eq, iI_clamp, iI_s, iI_m1, iI_div, bs, tn, tn4, tn12, tn20, tn124, tn28, itT, itF, if_pos, if_neg, f_X8_turn, g1, bse])
theorem e_makes {S : St} (hS : Inv S) (a1 : Int32) (a2 : Int32) (a3 : Int32) : ∃ (z1 : Int32 × St) (z2 : Int32 × St), f_X7_makes a1 a2 a3 S = some z1 ∧ f_X8_makes a1 a2 a3 z1.2 = some z2 ∧ z1.1 = z2.1 ∧ Inv z2.2 := by
  obtain ⟨⟨a, hw, hc, hm0⟩, -⟩ := id hS
  have hm : ∀ k, k < 132 → S.1 75 k = iI (a k) := hm0
  have h8 := hw.1
  have w1 := hw.2.1
  have w2 := hw.2.2.1
  have w3 := hw.2.2.2.1
  obtain ⟨now, hnow⟩ : ∃ n : Nat, a 1 = n := ⟨(a 1).toNat, by omega⟩
  obtain ⟨N, hN⟩ : ∃ n : Nat, a 0 = n := ⟨(a 0).toNat, by omega⟩
  have hn : now ≤ 11 := by omega
  have hN8 : N ≤ 8 := by omega
  have p1 : S.1 1 1 = iI now := by rw [hc.1 1 (by omega), hnow]
  have p0 : S.1 1 0 = iI N := by rw [hc.1 0 (by omega), hN]
  have m0 : S.1 75 0 = iI N := by rw [hm 0 (by omega), hN]
  have m1 : S.1 75 1 = iI now := by rw [hm 1 (by omega), hnow]
  obtain ⟨x, x1, x2, rfl⟩ := iI_any a1
  obtain ⟨y, y1, y2, rfl⟩ := iI_any a2
  obtain ⟨z, z1, z2, rfl⟩ := iI_any a3
  have e1 := cLacks hc hw x1 x2
  have g1 := rThing m0 hN8 x1 x2
  have e3 := cOut (z := z) (l := 0) (u := 99) z1 z2 (by omega) (by omega) (by omega) (by omega)
  have e4 := cNo y1 y2
  have g4 := rYear y1 y2
  by_cases c : 0 ≤ x ∧ x < a 0
  · obtain ⟨j, rfl⟩ : ∃ n : Nat, x = n := ⟨x.toNat, by omega⟩
    have ht := hc.t (j := j) (by omega) (by omega)
    have hwt := hw.t (j := j) (by omega)
    have e2 := cAt (S := S) (q := 1) (j := j) (by omega)
    by_cases c1 : 0 ≤ y ∧ y < 12
    · by_cases c2 : z < 0
      · exact e_no hS (-4) 4 (by omega) (by omega) (by simp (disch := omega) only [li_0, li_1, li_2, li_3, li_4, li_5, li_6, li_7, li_8, li_9, li_10, li_11, li_12, li_16, li_19, li_20, li_28, li_48, li_57, li_59, li_60, li_96, li_97, li_99, li_100, li_102, li_103, li_104, li_112, li_115, li_116, li_118, li_119, li_121, li_124, li_132, li_255, li_256, li_1000, li_2000, li_1000000000, iI_add, iI_sub, iI_mul, iI_neg, iI_lt, iI_le, iI_eq, iI_clamp, iI_s, iI_m1, iI_div, bs, tn, tn4, tn12, tn20, tn124, tn28, itT, itF, if_pos, if_neg, f_X7_makes, e1, e3, e4, bse]) (fun S1 q1 q2 => by
          have g1 := rThing (S := S1) (by rw [q1]; exact m0) hN8 x1 x2
          simp (disch := omega) only [li_0, li_1, li_2, li_3, li_4, li_5, li_6, li_7, li_8, li_9, li_10, li_11, li_12, li_16, li_19, li_20, li_28, li_48, li_57, li_59, li_60, li_96, li_97, li_99, li_100, li_102, li_103, li_104, li_112, li_115, li_116, li_118, li_119, li_121, li_124, li_132, li_255, li_256, li_1000, li_2000, li_1000000000, iI_add, iI_sub, iI_mul, iI_neg, iI_lt, iI_le, iI_eq, iI_clamp, iI_s, iI_m1, iI_div, bs, tn, tn4, tn12, tn20, tn124, tn28, itT, itF, if_pos, if_neg, f_X8_makes, g1, g4, bse])
      · by_cases c3 : 99 < z
        · exact e_no hS (-6) 6 (by omega) (by omega) (by simp (disch := omega) only [li_0, li_1, li_2, li_3, li_4, li_5, li_6, li_7, li_8, li_9, li_10, li_11, li_12, li_16, li_19, li_20, li_28, li_48, li_57, li_59, li_60, li_96, li_97, li_99, li_100, li_102, li_103, li_104, li_112, li_115, li_116, li_118, li_119, li_121, li_124, li_132, li_255, li_256, li_1000, li_2000, li_1000000000, iI_add, iI_sub, iI_mul, iI_neg, iI_lt, iI_le, iI_eq, iI_clamp, iI_s, iI_m1, iI_div, bs, tn, tn4, tn12, tn20, tn124, tn28, itT, itF, if_pos, if_neg, f_X7_makes, e1, e3, e4, bse]) (fun S1 q1 q2 => by
            have g1 := rThing (S := S1) (by rw [q1]; exact m0) hN8 x1 x2
            simp (disch := omega) only [li_0, li_1, li_2, li_3, li_4, li_5, li_6, li_7, li_8, li_9, li_10, li_11, li_12, li_16, li_19, li_20, li_28, li_48, li_57, li_59, li_60, li_96, li_97, li_99, li_100, li_102, li_103, li_104, li_112, li_115, li_116, li_118, li_119, li_121, li_124, li_132, li_255, li_256, li_1000, li_2000, li_1000000000, iI_add, iI_sub, iI_mul, iI_neg, iI_lt, iI_le, iI_eq, iI_clamp, iI_s, iI_m1, iI_div, bs, tn, tn4, tn12, tn20, tn124, tn28, itT, itF, if_pos, if_neg, f_X8_makes, g1, g4, bse])
        · obtain ⟨u, rfl⟩ : ∃ n : Nat, y = n := ⟨y.toNat, by omega⟩
          have e5 := cG ht (y := u) (by omega)
          have q0 : (up S (1 + 1 + 2 + 2 * j + 1) u (iI z)).1 75 0 = iI N := by simp (disch := omega) only [li_0, li_1, li_2, li_3, li_4, li_5, li_6, li_7, li_8, li_9, li_10, li_11, li_12, li_16, li_19, li_20, li_28, li_48, li_57, li_59, li_60, li_96, li_97, li_99, li_100, li_102, li_103, li_104, li_112, li_115, li_116, li_118, li_119, li_121, li_124, li_132, li_255, li_256, li_1000, li_2000, li_1000000000, iI_add, iI_sub, iI_mul, iI_neg, iI_lt, iI_le, iI_eq, iI_clamp, iI_s, iI_m1, iI_div, bs, tn, tn4, tn12, tn20, tn124, tn28, itT, itF, if_pos, if_neg, up_s, up_n, m0]
          have g1 := rThing q0 hN8 x1 x2
          refine e_mk (v := iI (sG a j u)) (S1 := up S (1 + 1 + 2 + 2 * j + 1) u (iI z)) (S2 := up (up S (1 + 1 + 2 + 2 * j + 1) u (iI z)) 75 (28 + 12 * j + u) (iI z)) (by simp (disch := omega) only [li_0, li_1, li_2, li_3, li_4, li_5, li_6, li_7, li_8, li_9, li_10, li_11, li_12, li_16, li_19, li_20, li_28, li_48, li_57, li_59, li_60, li_96, li_97, li_99, li_100, li_102, li_103, li_104, li_112, li_115, li_116, li_118, li_119, li_121, li_124, li_132, li_255, li_256, li_1000, li_2000, li_1000000000, iI_add, iI_sub, iI_mul, iI_neg, iI_lt, iI_le, iI_eq, iI_clamp, iI_s, iI_m1, iI_div, bs, tn, tn4, tn12, tn20, tn124, tn28, itT, itF, if_pos, if_neg, f_X7_makes, e1, e2, e3, e4, e5, f_X6_makeGlad]) (by simp (disch := omega) only [li_0, li_1, li_2, li_3, li_4, li_5, li_6, li_7, li_8, li_9, li_10, li_11, li_12, li_16, li_19, li_20, li_28, li_48, li_57, li_59, li_60, li_96, li_97, li_99, li_100, li_102, li_103, li_104, li_112, li_115, li_116, li_118, li_119, li_121, li_124, li_132, li_255, li_256, li_1000, li_2000, li_1000000000, iI_add, iI_sub, iI_mul, iI_neg, iI_lt, iI_le, iI_eq, iI_clamp, iI_s, iI_m1, iI_div, bs, tn, tn4, tn12, tn20, tn124, tn28, itT, itF, if_pos, if_neg, up_s, up_n, f_X8_makes, g1, g4, rAt, hm, sG]) ?_
          refine hS.shop ⟨st a (28 + 12 * j + u) z, hw.stg (by omega) (by omega) (by omega), (hc.stg (by omega) (by omega) z).ne (by omega), (hm0.ne (by omega)).st _ z⟩ (fun i k h => ?_)
          unfold scr at h
          simp (disch := omega) only [up_n]
    · exact e_no hS (-1) 1 (by omega) (by omega) (by simp (disch := omega) only [li_0, li_1, li_2, li_3, li_4, li_5, li_6, li_7, li_8, li_9, li_10, li_11, li_12, li_16, li_19, li_20, li_28, li_48, li_57, li_59, li_60, li_96, li_97, li_99, li_100, li_102, li_103, li_104, li_112, li_115, li_116, li_118, li_119, li_121, li_124, li_132, li_255, li_256, li_1000, li_2000, li_1000000000, iI_add, iI_sub, iI_mul, iI_neg, iI_lt, iI_le, iI_eq, iI_clamp, iI_s, iI_m1, iI_div, bs, tn, tn4, tn12, tn20, tn124, tn28, itT, itF, if_pos, if_neg, f_X7_makes, e1, e4, bse]) (fun S1 q1 q2 => by
        have g1 := rThing (S := S1) (by rw [q1]; exact m0) hN8 x1 x2
        simp (disch := omega) only [li_0, li_1, li_2, li_3, li_4, li_5, li_6, li_7, li_8, li_9, li_10, li_11, li_12, li_16, li_19, li_20, li_28, li_48, li_57, li_59, li_60, li_96, li_97, li_99, li_100, li_102, li_103, li_104, li_112, li_115, li_116, li_118, li_119, li_121, li_124, li_132, li_255, li_256, li_1000, li_2000, li_1000000000, iI_add, iI_sub, iI_mul, iI_neg, iI_lt, iI_le, iI_eq, iI_clamp, iI_s, iI_m1, iI_div, bs, tn, tn4, tn12, tn20, tn124, tn28, itT, itF, if_pos, if_neg, f_X8_makes, g1, g4, bse])
  · exact e_no hS (-1) 1 (by omega) (by omega) (by simp (disch := omega) only [li_0, li_1, li_2, li_3, li_4, li_5, li_6, li_7, li_8, li_9, li_10, li_11, li_12, li_16, li_19, li_20, li_28, li_48, li_57, li_59, li_60, li_96, li_97, li_99, li_100, li_102, li_103, li_104, li_112, li_115, li_116, li_118, li_119, li_121, li_124, li_132, li_255, li_256, li_1000, li_2000, li_1000000000, iI_add, iI_sub, iI_mul, iI_neg, iI_lt, iI_le, iI_eq, iI_clamp, iI_s, iI_m1, iI_div, bs, tn, tn4, tn12, tn20, tn124, tn28, itT, itF, if_pos, if_neg, f_X7_makes, e1, bse]) (fun S1 q1 q2 => by
      have g1 := rThing (S := S1) (by rw [q1]; exact m0) hN8 x1 x2
      simp (disch := omega) only [li_0, li_1, li_2, li_3, li_4, li_5, li_6, li_7, li_8, li_9, li_10, li_11, li_12, li_16, li_19, li_20, li_28, li_48, li_57, li_59, li_60, li_96, li_97, li_99, li_100, li_102, li_103, li_104, li_112, li_115, li_116, li_118, li_119, li_121, li_124, li_132, li_255, li_256, li_1000, li_2000, li_1000000000, iI_add, iI_sub, iI_mul, iI_neg, iI_lt, iI_le, iI_eq, iI_clamp, iI_s, iI_m1, iI_div, bs, tn, tn4, tn12, tn20, tn124, tn28, itT, itF, if_pos, if_neg, f_X8_makes, g1, bse])
end
section
theorem RT.ne {S : St} {t : Nat} {a : Nat → Int} {j : Nat} (h : RT S t a j) {i k : Nat} {x : Int32} (h1 : i ≠ t) (h2 : i ≠ t + 1) : RT (up S i k x) t a j := by
  refine ⟨?_, ?_, ?_, fun y hy => ?_⟩
  · rw [up_ne (fun e => h1 e.symm)]; exact h.1
  · rw [up_ne (fun e => h1 e.symm)]; exact h.2.1
  · rw [up_ne (fun e => h1 e.symm)]; exact h.2.2.1
  · rw [up_ne (fun e => h2 e.symm)]; exact h.2.2.2 y hy
theorem st_comm {a : Nat → Int} {i k : Nat} {u v : Int} (h : i ≠ k) : st (st a i u) k v = st (st a k v) i u := by
  funext x
  show (if x = k then v else if x = i then u else a x) = (if x = i then u else if x = k then v else a x)
  by_cases e : x = k
  · rw [if_pos e, if_neg (by omega), if_pos e]
  · rw [if_neg e, if_neg e]
theorem sCost_st {a : Nat → Int} {j k : Nat} {v : Int} (h1 : 4 + j ≠ k) (h2 : 12 + j ≠ k) : sCost (st a k v) j = sCost a j := by
  unfold sCost
  rw [st_n h1, st_n h2]
-- ===== gluing =====
theorem cGlue {S : St} {q : Nat} {a : Nat → Int} {j now : Nat} (hc : RC S q a) (hw : WFa a) (hj : j < 8) (hs : (j : Int) < a 0) (hnow : a 1 = now) {m f : Int} (h1 : 0 ≤ m ∧ m ≤ 999) (h2 : 0 ≤ f ∧ f ≤ 999) :
    f_X3_glue q (iI j) (iI m) (iI f) S = if a (20 + j) < 0 ∧ sCost a j ≤ a 2 then some (iI 1, up (up S q 2 (iI (a 2 - sCost a j))) (q + 1 + 2 + 2 * j) 2 (iI (sY a j now m f))) else some (iI 0, S) := by
  have h8 := hw.1
  have w1 := hw.2.1
  have w2 := hw.2.2.1
  have ht := hc.t hj hs
  have hwt := hw.t hj
  have e1 := cLacks hc hw (z := j) (by omega) (by omega)
  have e2 : ∀ S' : St, f_X3_at q (iI j) S' = some (q + 1 + 2 + 2 * j) := fun S' => cAt hj
  have e3 := cSet ht hwt
  have e4 := cCost ht hwt
  have b4 := sCost_b hwt
  have e5 := cY (ht.ne (i := q) (k := 2) (x := iI (a 2 - sCost a j)) (by omega) (by omega)) hwt (now := now) (by omega) h1 h2
  have p1 : S.1 q 1 = iI now := by rw [hc.1 1 (by omega), hnow]
  have p2 := hc.1 2 (by omega)
  by_cases c1 : a (20 + j) < 0
  · by_cases c2 : sCost a j ≤ a 2
    · simp (disch := omega) only [li_0, li_1, li_2, li_3, li_4, li_5, li_6, li_7, li_8, li_9, li_10, li_11, li_12, li_16, li_19, li_20, li_28, li_48, li_57, li_59, li_60, li_96, li_97, li_99, li_100, li_102, li_103, li_104, li_112, li_115, li_116, li_118, li_119, li_121, li_124, li_132, li_255, li_256, li_1000, li_2000, li_1000000000, iI_add, iI_sub, iI_mul, iI_neg, iI_lt, iI_le, iI_eq, iI_clamp, iI_s, iI_m1, iI_div, bs, tn, tn4, tn12, tn20, tn124, tn28, itT, itF, if_pos, if_neg, up_s, up_n, f_X3_glue, e1, e2, e3, e4, p2, e5, p1]
    · simp (disch := omega) only [li_0, li_1, li_2, li_3, li_4, li_5, li_6, li_7, li_8, li_9, li_10, li_11, li_12, li_16, li_19, li_20, li_28, li_48, li_57, li_59, li_60, li_96, li_97, li_99, li_100, li_102, li_103, li_104, li_112, li_115, li_116, li_118, li_119, li_121, li_124, li_132, li_255, li_256, li_1000, li_2000, li_1000000000, iI_add, iI_sub, iI_mul, iI_neg, iI_lt, iI_le, iI_eq, iI_clamp, iI_s, iI_m1, iI_div, bs, tn, tn4, tn12, tn20, tn124, tn28, itT, itF, if_pos, if_neg, up_s, up_n, f_X3_glue, e1, e2, e3, e4, p2]
  · simp (disch := omega) only [li_0, li_1, li_2, li_3, li_4, li_5, li_6, li_7, li_8, li_9, li_10, li_11, li_12, li_16, li_19, li_20, li_28, li_48, li_57, li_59, li_60, li_96, li_97, li_99, li_100, li_102, li_103, li_104, li_112, li_115, li_116, li_118, li_119, li_121, li_124, li_132, li_255, li_256, li_1000, li_2000, li_1000000000, iI_add, iI_sub, iI_mul, iI_neg, iI_lt, iI_le, iI_eq, iI_clamp, iI_s, iI_m1, iI_div, bs, tn, tn4, tn12, tn20, tn124, tn28, itT, itF, if_pos, if_neg, up_s, up_n, f_X3_glue, e1, e2, e3]
theorem rCanG {S : St} {a : Nat → Int} {j : Nat} (hm : ∀ k, k < 132 → S.1 75 k = iI (a k)) (hw : WFa a) (hj : j < 8) : f_X8_canGlue (iI j) S = some (iI (if a (20 + j) < 0 ∧ sCost a j ≤ a 2 then 1 else 0)) := by
  have w2 := hw.2.2.1
  have hwt := hw.t hj
  have k := hwt.2.2.1
  have e4 := rCost hm hj hwt
  have b4 := sCost_b hwt
  by_cases c1 : a (20 + j) < 0
  · by_cases c2 : sCost a j ≤ a 2
    · simp (disch := omega) only [li_0, li_1, li_2, li_3, li_4, li_5, li_6, li_7, li_8, li_9, li_10, li_11, li_12, li_16, li_19, li_20, li_28, li_48, li_57, li_59, li_60, li_96, li_97, li_99, li_100, li_102, li_103, li_104, li_112, li_115, li_116, li_118, li_119, li_121, li_124, li_132, li_255, li_256, li_1000, li_2000, li_1000000000, iI_add, iI_sub, iI_mul, iI_neg, iI_lt, iI_le, iI_eq, iI_clamp, iI_s, iI_m1, iI_div, bs, tn, tn4, tn12, tn20, tn124, tn28, itT, itF, if_pos, if_neg, f_X8_canGlue, hm, e4]
    · simp (disch := omega) only [li_0, li_1, li_2, li_3, li_4, li_5, li_6, li_7, li_8, li_9, li_10, li_11, li_12, li_16, li_19, li_20, li_28, li_48, li_57, li_59, li_60, li_96, li_97, li_99, li_100, li_102, li_103, li_104, li_112, li_115, li_116, li_118, li_119, li_121, li_124, li_132, li_255, li_256, li_1000, li_2000, li_1000000000, iI_add, iI_sub, iI_mul, iI_neg, iI_lt, iI_le, iI_eq, iI_clamp, iI_s, iI_m1, iI_div, bs, tn, tn4, tn12, tn20, tn124, tn28, itT, itF, if_pos, if_neg, f_X8_canGlue, hm, e4]
  · simp (disch := omega) only [li_0, li_1, li_2, li_3, li_4, li_5, li_6, li_7, li_8, li_9, li_10, li_11, li_12, li_16, li_19, li_20, li_28, li_48, li_57, li_59, li_60, li_96, li_97, li_99, li_100, li_102, li_103, li_104, li_112, li_115, li_116, li_118, li_119, li_121, li_124, li_132, li_255, li_256, li_1000, li_2000, li_1000000000, iI_add, iI_sub, iI_mul, iI_neg, iI_lt, iI_le, iI_eq, iI_clamp, iI_s, iI_m1, iI_div, bs, tn, tn4, tn12, tn20, tn124, tn28, itT, itF, if_pos, if_neg, f_X8_canGlue, hm, e4]
theorem rGlue {S : St} {a : Nat → Int} {j now : Nat} (hm : ∀ k, k < 132 → S.1 75 k = iI (a k)) (hw : WFa a) (hj : j < 8) (hnow : a 1 = now) {m f : Int} (h1 : 0 ≤ m ∧ m ≤ 999) (h2 : 0 ≤ f ∧ f ≤ 999) :
    f_X8_gluesTo (iI j) (iI m) (iI f) S = some (iI (sY a j now m f), up (up S 75 (20 + j) (iI (sY a j now m f))) 75 2 (iI (a 2 - sCost a j))) := by
  have w1 := hw.2.1
  have hwt := hw.t hj
  have e4 := rY hm hj hwt (now := now) (by omega) hnow h1 h2
  have yb := sY_le a j now m f
  have hm2 : ∀ k, k < 132 → (up S 75 (20 + j) (iI (sY a j now m f))).1 75 k = iI (st a (20 + j) (sY a j now m f) k) := RM.st hm _ _
  have e5 := rCost hm2 hj ((hw.sts (i := j) (v := sY a j now m f) (by omega) (by omega)).t hj)
  rw [sCost_st (by omega) (by omega)] at e5
  have p2 := hm 2 (by omega)
  simp (disch := omega) only [li_0, li_1, li_2, li_3, li_4, li_5, li_6, li_7, li_8, li_9, li_10, li_11, li_12, li_16, li_19, li_20, li_28, li_48, li_57, li_59, li_60, li_96, li_97, li_99, li_100, li_102, li_103, li_104, li_112, li_115, li_116, li_118, li_119, li_121, li_124, li_132, li_255, li_256, li_1000, li_2000, li_1000000000, iI_add, iI_sub, iI_mul, iI_neg, iI_lt, iI_le, iI_eq, iI_clamp, iI_s, iI_m1, iI_div, bs, tn, tn4, tn12, tn20, tn124, tn28, itT, itF, if_pos, if_neg, up_s, up_n, f_X8_gluesTo, e4, e5, p2]
theorem e_glues {S : St} (hS : Inv S) (a1 : Int32) (a2 : Int32) (a3 : Int32) : ∃ (z1 : Int32 × St) (z2 : Int32 × St), f_X7_glues a1 a2 a3 S = some z1 ∧ f_X8_glues a1 a2 a3 z1.2 = some z2 ∧ z1.1 = z2.1 ∧ Inv z2.2 := by
  obtain ⟨⟨a, hw, hc, hm0⟩, -⟩ := id hS
  have hm : ∀ k, k < 132 → S.1 75 k = iI (a k) := hm0
  have h8 := hw.1
  have w1 := hw.2.1
  have w2 := hw.2.2.1
  have w3 := hw.2.2.2.1
  obtain ⟨now, hnow⟩ : ∃ n : Nat, a 1 = n := ⟨(a 1).toNat, by omega⟩
  obtain ⟨N, hN⟩ : ∃ n : Nat, a 0 = n := ⟨(a 0).toNat, by omega⟩
  have hn : now ≤ 11 := by omega
  have hN8 : N ≤ 8 := by omega
  have p1 : S.1 1 1 = iI now := by rw [hc.1 1 (by omega), hnow]
  have p0 : S.1 1 0 = iI N := by rw [hc.1 0 (by omega), hN]
  have m0 : S.1 75 0 = iI N := by rw [hm 0 (by omega), hN]
  have m1 : S.1 75 1 = iI now := by rw [hm 1 (by omega), hnow]
  obtain ⟨x, x1, x2, rfl⟩ := iI_any a1
  obtain ⟨y, y1, y2, rfl⟩ := iI_any a2
  obtain ⟨z, z1, z2, rfl⟩ := iI_any a3
  have e1 := cHeld hc hw x1 x2 y1 y2 z1 z2
  by_cases c : 0 ≤ x ∧ x < a 0
  · obtain ⟨j, rfl⟩ : ∃ n : Nat, x = n := ⟨x.toNat, by omega⟩
    have ht := hc.t (j := j) (by omega) (by omega)
    have hwt := hw.t (j := j) (by omega)
    have e2 := cAt (S := S) (q := 1) (j := j) (by omega)
    by_cases c1 : y < 0 ∨ z < 0
    · exact e_no hS (-4) 4 (by omega) (by omega) (by simp (disch := omega) only [li_0, li_1, li_2, li_3, li_4, li_5, li_6, li_7, li_8, li_9, li_10, li_11, li_12, li_16, li_19, li_20, li_28, li_48, li_57, li_59, li_60, li_96, li_97, li_99, li_100, li_102, li_103, li_104, li_112, li_115, li_116, li_118, li_119, li_121, li_124, li_132, li_255, li_256, li_1000, li_2000, li_1000000000, iI_add, iI_sub, iI_mul, iI_neg, iI_lt, iI_le, iI_eq, iI_clamp, iI_s, iI_m1, iI_div, bs, tn, tn4, tn12, tn20, tn124, tn28, itT, itF, if_pos, if_neg, f_X7_glues, e1, bse]) (fun S1 q1 q2 => by
        have g1 := rWrong (S := S1) (by rw [q1]; exact m0) hN8 x1 x2 y1 y2 z1 z2
        simp (disch := omega) only [li_0, li_1, li_2, li_3, li_4, li_5, li_6, li_7, li_8, li_9, li_10, li_11, li_12, li_16, li_19, li_20, li_28, li_48, li_57, li_59, li_60, li_96, li_97, li_99, li_100, li_102, li_103, li_104, li_112, li_115, li_116, li_118, li_119, li_121, li_124, li_132, li_255, li_256, li_1000, li_2000, li_1000000000, iI_add, iI_sub, iI_mul, iI_neg, iI_lt, iI_le, iI_eq, iI_clamp, iI_s, iI_m1, iI_div, bs, tn, tn4, tn12, tn20, tn124, tn28, itT, itF, if_pos, if_neg, f_X8_glues, g1, bse])
    · by_cases c2 : 99 < y ∨ 9 < z
      · exact e_no hS (-6) 6 (by omega) (by omega) (by simp (disch := omega) only [li_0, li_1, li_2, li_3, li_4, li_5, li_6, li_7, li_8, li_9, li_10, li_11, li_12, li_16, li_19, li_20, li_28, li_48, li_57, li_59, li_60, li_96, li_97, li_99, li_100, li_102, li_103, li_104, li_112, li_115, li_116, li_118, li_119, li_121, li_124, li_132, li_255, li_256, li_1000, li_2000, li_1000000000, iI_add, iI_sub, iI_mul, iI_neg, iI_lt, iI_le, iI_eq, iI_clamp, iI_s, iI_m1, iI_div, bs, tn, tn4, tn12, tn20, tn124, tn28, itT, itF, if_pos, if_neg, f_X7_glues, e1, bse]) (fun S1 q1 q2 => by
          have g1 := rWrong (S := S1) (by rw [q1]; exact m0) hN8 x1 x2 y1 y2 z1 z2
          simp (disch := omega) only [li_0, li_1, li_2, li_3, li_4, li_5, li_6, li_7, li_8, li_9, li_10, li_11, li_12, li_16, li_19, li_20, li_28, li_48, li_57, li_59, li_60, li_96, li_97, li_99, li_100, li_102, li_103, li_104, li_112, li_115, li_116, li_118, li_119, li_121, li_124, li_132, li_255, li_256, li_1000, li_2000, li_1000000000, iI_add, iI_sub, iI_mul, iI_neg, iI_lt, iI_le, iI_eq, iI_clamp, iI_s, iI_m1, iI_div, bs, tn, tn4, tn12, tn20, tn124, tn28, itT, itF, if_pos, if_neg, f_X8_glues, g1, bse])
      · have e3 := cGlue hc hw (j := j) (by omega) (by omega) hnow (m := y) (f := z) (by omega) (by omega)
        by_cases c3 : a (20 + j) < 0 ∧ sCost a j ≤ a 2
        · rw [if_pos c3] at e3
          have yb := sY_le a j now y z
          have b4 := sCost_b hwt
          have e4 : ∀ S' : St, f_X3_at 1 (iI j) S' = some (1 + 1 + 2 + 2 * j) := fun S' => cAt (by omega)
          have hmm : ∀ k, k < 132 → (up (up S 1 2 (iI (a 2 - sCost a j))) (1 + 1 + 2 + 2 * j) 2 (iI (sY a j now y z))).1 75 k = iI (a k) := (hm0.ne (by omega)).ne (by omega)
          have m0' := hmm 0 (by omega)
          rw [hN] at m0'
          have g1 := rWrong m0' hN8 x1 x2 y1 y2 z1 z2
          have g2 := rCanG hmm hw (j := j) (by omega)
          have g3 := rGlue hmm hw (j := j) (by omega) hnow (m := y) (f := z) (by omega) (by omega)
          refine e_mk (v := iI (sY a j now y z)) (S1 := up (up S 1 2 (iI (a 2 - sCost a j))) (1 + 1 + 2 + 2 * j) 2 (iI (sY a j now y z))) (S2 := up (up (up (up S 1 2 (iI (a 2 - sCost a j))) (1 + 1 + 2 + 2 * j) 2 (iI (sY a j now y z))) 75 (20 + j) (iI (sY a j now y z))) 75 2 (iI (a 2 - sCost a j))) (by simp (disch := omega) only [li_0, li_1, li_2, li_3, li_4, li_5, li_6, li_7, li_8, li_9, li_10, li_11, li_12, li_16, li_19, li_20, li_28, li_48, li_57, li_59, li_60, li_96, li_97, li_99, li_100, li_102, li_103, li_104, li_112, li_115, li_116, li_118, li_119, li_121, li_124, li_132, li_255, li_256, li_1000, li_2000, li_1000000000, iI_add, iI_sub, iI_mul, iI_neg, iI_lt, iI_le, iI_eq, iI_clamp, iI_s, iI_m1, iI_div, bs, tn, tn4, tn12, tn20, tn124, tn28, itT, itF, if_pos, if_neg, up_s, up_n, f_X7_glues, e1, e3, e4]) (by simp (disch := omega) only [li_0, li_1, li_2, li_3, li_4, li_5, li_6, li_7, li_8, li_9, li_10, li_11, li_12, li_16, li_19, li_20, li_28, li_48, li_57, li_59, li_60, li_96, li_97, li_99, li_100, li_102, li_103, li_104, li_112, li_115, li_116, li_118, li_119, li_121, li_124, li_132, li_255, li_256, li_1000, li_2000, li_1000000000, iI_add, iI_sub, iI_mul, iI_neg, iI_lt, iI_le, iI_eq, iI_clamp, iI_s, iI_m1, iI_div, bs, tn, tn4, tn12, tn20, tn124, tn28, itT, itF, if_pos, if_neg, up_s, up_n, f_X8_glues, g1, g2, g3]) ?_
          refine hS.shop ⟨st (st a 2 (a 2 - sCost a j)) (20 + j) (sY a j now y z), (hw.st0 (by omega)).sts (by omega) (by omega), (((hc.st0 (by omega) _).sts (by omega) _).ne (by omega)).ne (by omega), ?_⟩ (fun i k h => ?_)
          · rw [st_comm (by omega)]
            exact (((hm0.ne (by omega)).ne (by omega)).st _ _).st _ _
          · unfold scr at h
            simp (disch := omega) only [up_n]
        · rw [if_neg c3] at e3
          exact e_no hS (-3) 3 (by omega) (by omega) (by simp (disch := omega) only [li_0, li_1, li_2, li_3, li_4, li_5, li_6, li_7, li_8, li_9, li_10, li_11, li_12, li_16, li_19, li_20, li_28, li_48, li_57, li_59, li_60, li_96, li_97, li_99, li_100, li_102, li_103, li_104, li_112, li_115, li_116, li_118, li_119, li_121, li_124, li_132, li_255, li_256, li_1000, li_2000, li_1000000000, iI_add, iI_sub, iI_mul, iI_neg, iI_lt, iI_le, iI_eq, iI_clamp, iI_s, iI_m1, iI_div, bs, tn, tn4, tn12, tn20, tn124, tn28, itT, itF, if_pos, if_neg, f_X7_glues, e1, e3, bse]) (fun S1 q1 q2 => by
            have hmm : ∀ k, k < 132 → S1.1 75 k = iI (a k) := fun k hk => by rw [q1]; exact hm k hk
            have g1 := rWrong (S := S1) (by rw [q1]; exact m0) hN8 x1 x2 y1 y2 z1 z2
            have g2 := rCanG hmm hw (j := j) (by omega)
            simp (disch := omega) only [li_0, li_1, li_2, li_3, li_4, li_5, li_6, li_7, li_8, li_9, li_10, li_11, li_12, li_16, li_19, li_20, li_28, li_48, li_57, li_59, li_60, li_96, li_97, li_99, li_100, li_102, li_103, li_104, li_112, li_115, li_116, li_118, li_119, li_121, li_124, li_132, li_255, li_256, li_1000, li_2000, li_1000000000, iI_add, iI_sub, iI_mul, iI_neg, iI_lt, iI_le, iI_eq, iI_clamp, iI_s, iI_m1, iI_div, bs, tn, tn4, tn12, tn20, tn124, tn28, itT, itF, if_pos, if_neg, f_X8_glues, g1, g2, bse])
  · exact e_no hS (-1) 1 (by omega) (by omega) (by simp (disch := omega) only [li_0, li_1, li_2, li_3, li_4, li_5, li_6, li_7, li_8, li_9, li_10, li_11, li_12, li_16, li_19, li_20, li_28, li_48, li_57, li_59, li_60, li_96, li_97, li_99, li_100, li_102, li_103, li_104, li_112, li_115, li_116, li_118, li_119, li_121, li_124, li_132, li_255, li_256, li_1000, li_2000, li_1000000000, iI_add, iI_sub, iI_mul, iI_neg, iI_lt, iI_le, iI_eq, iI_clamp, iI_s, iI_m1, iI_div, bs, tn, tn4, tn12, tn20, tn124, tn28, itT, itF, if_pos, if_neg, f_X7_glues, e1, bse]) (fun S1 q1 q2 => by
      have g1 := rWrong (S := S1) (by rw [q1]; exact m0) hN8 x1 x2 y1 y2 z1 z2
      simp (disch := omega) only [li_0, li_1, li_2, li_3, li_4, li_5, li_6, li_7, li_8, li_9, li_10, li_11, li_12, li_16, li_19, li_20, li_28, li_48, li_57, li_59, li_60, li_96, li_97, li_99, li_100, li_102, li_103, li_104, li_112, li_115, li_116, li_118, li_119, li_121, li_124, li_132, li_255, li_256, li_1000, li_2000, li_1000000000, iI_add, iI_sub, iI_mul, iI_neg, iI_lt, iI_le, iI_eq, iI_clamp, iI_s, iI_m1, iI_div, bs, tn, tn4, tn12, tn20, tn124, tn28, itT, itF, if_pos, if_neg, f_X8_glues, g1, bse])
theorem e_washes {S : St} (hS : Inv S) (a1 : Int32) : ∃ (z1 : Int32 × St) (z2 : Int32 × St), f_X7_washes a1 S = some z1 ∧ f_X8_washes a1 z1.2 = some z2 ∧ z1.1 = z2.1 ∧ Inv z2.2 := by
  obtain ⟨⟨a, hw, hc, hm0⟩, -⟩ := id hS
  have hm : ∀ k, k < 132 → S.1 75 k = iI (a k) := hm0
  have h8 := hw.1
  have w1 := hw.2.1
  have w2 := hw.2.2.1
  have w3 := hw.2.2.2.1
  obtain ⟨now, hnow⟩ : ∃ n : Nat, a 1 = n := ⟨(a 1).toNat, by omega⟩
  obtain ⟨N, hN⟩ : ∃ n : Nat, a 0 = n := ⟨(a 0).toNat, by omega⟩
  have hn : now ≤ 11 := by omega
  have hN8 : N ≤ 8 := by omega
  have p1 : S.1 1 1 = iI now := by rw [hc.1 1 (by omega), hnow]
  have p0 : S.1 1 0 = iI N := by rw [hc.1 0 (by omega), hN]
  have m0 : S.1 75 0 = iI N := by rw [hm 0 (by omega), hN]
  have m1 : S.1 75 1 = iI now := by rw [hm 1 (by omega), hnow]
  obtain ⟨x, x1, x2, rfl⟩ := iI_any a1
  have e1 := cLacks hc hw x1 x2
  by_cases c : 0 ≤ x ∧ x < a 0
  · obtain ⟨j, rfl⟩ : ∃ n : Nat, x = n := ⟨x.toNat, by omega⟩
    have ht := hc.t (j := j) (by omega) (by omega)
    have hwt := hw.t (j := j) (by omega)
    have e2 := cAt (S := S) (q := 1) (j := j) (by omega)
    have k := hwt.2.2.1
    have e3 := cSet ht hwt
    by_cases c1 : a (20 + j) < 0
    · exact e_no hS (-3) 3 (by omega) (by omega) (by simp (disch := omega) only [li_0, li_1, li_2, li_3, li_4, li_5, li_6, li_7, li_8, li_9, li_10, li_11, li_12, li_16, li_19, li_20, li_28, li_48, li_57, li_59, li_60, li_96, li_97, li_99, li_100, li_102, li_103, li_104, li_112, li_115, li_116, li_118, li_119, li_121, li_124, li_132, li_255, li_256, li_1000, li_2000, li_1000000000, iI_add, iI_sub, iI_mul, iI_neg, iI_lt, iI_le, iI_eq, iI_clamp, iI_s, iI_m1, iI_div, bs, tn, tn4, tn12, tn20, tn124, tn28, itT, itF, if_pos, if_neg, f_X7_washes, e1, e2, e3, bse]) (fun S1 q1 q2 => by
        have hmm : ∀ k, k < 132 → S1.1 75 k = iI (a k) := fun k hk => by rw [q1]; exact hm k hk
        have g1 := rThing (S := S1) (by rw [q1]; exact m0) hN8 x1 x2
        simp (disch := omega) only [li_0, li_1, li_2, li_3, li_4, li_5, li_6, li_7, li_8, li_9, li_10, li_11, li_12, li_16, li_19, li_20, li_28, li_48, li_57, li_59, li_60, li_96, li_97, li_99, li_100, li_102, li_103, li_104, li_112, li_115, li_116, li_118, li_119, li_121, li_124, li_132, li_255, li_256, li_1000, li_2000, li_1000000000, iI_add, iI_sub, iI_mul, iI_neg, iI_lt, iI_le, iI_eq, iI_clamp, iI_s, iI_m1, iI_div, bs, tn, tn4, tn12, tn20, tn124, tn28, itT, itF, if_pos, if_neg, f_X8_washes, g1, hmm, bse])
    · have m0' : (up S (1 + 1 + 2 + 2 * j) 2 (iI (-9))).1 75 0 = iI N := by simp (disch := omega) only [li_0, li_1, li_2, li_3, li_4, li_5, li_6, li_7, li_8, li_9, li_10, li_11, li_12, li_16, li_19, li_20, li_28, li_48, li_57, li_59, li_60, li_96, li_97, li_99, li_100, li_102, li_103, li_104, li_112, li_115, li_116, li_118, li_119, li_121, li_124, li_132, li_255, li_256, li_1000, li_2000, li_1000000000, iI_add, iI_sub, iI_mul, iI_neg, iI_lt, iI_le, iI_eq, iI_clamp, iI_s, iI_m1, iI_div, bs, tn, tn4, tn12, tn20, tn124, tn28, itT, itF, if_pos, if_neg, up_s, up_n, m0]
      have g1 := rThing m0' hN8 x1 x2
      refine e_mk (v := iI (a (20 + j))) (S1 := up S (1 + 1 + 2 + 2 * j) 2 (iI (-9))) (S2 := up (up S (1 + 1 + 2 + 2 * j) 2 (iI (-9))) 75 (20 + j) (iI (-9))) (by simp (disch := omega) only [li_0, li_1, li_2, li_3, li_4, li_5, li_6, li_7, li_8, li_9, li_10, li_11, li_12, li_16, li_19, li_20, li_28, li_48, li_57, li_59, li_60, li_96, li_97, li_99, li_100, li_102, li_103, li_104, li_112, li_115, li_116, li_118, li_119, li_121, li_124, li_132, li_255, li_256, li_1000, li_2000, li_1000000000, iI_add, iI_sub, iI_mul, iI_neg, iI_lt, iI_le, iI_eq, iI_clamp, iI_s, iI_m1, iI_div, bs, tn, tn4, tn12, tn20, tn124, tn28, itT, itF, if_pos, if_neg, up_s, up_n, f_X7_washes, e1, e2, e3, ht.2.2.1]) (by simp (disch := omega) only [li_0, li_1, li_2, li_3, li_4, li_5, li_6, li_7, li_8, li_9, li_10, li_11, li_12, li_16, li_19, li_20, li_28, li_48, li_57, li_59, li_60, li_96, li_97, li_99, li_100, li_102, li_103, li_104, li_112, li_115, li_116, li_118, li_119, li_121, li_124, li_132, li_255, li_256, li_1000, li_2000, li_1000000000, iI_add, iI_sub, iI_mul, iI_neg, iI_lt, iI_le, iI_eq, iI_clamp, iI_s, iI_m1, iI_div, bs, tn, tn4, tn12, tn20, tn124, tn28, itT, itF, if_pos, if_neg, up_s, up_n, f_X8_washes, g1, hm]) ?_
      refine hS.shop ⟨st a (20 + j) (-9), hw.sts (by omega) (by omega), (hc.sts (by omega) _).ne (by omega), (hm0.ne (by omega)).st _ _⟩ (fun i k h => ?_)
      unfold scr at h
      simp (disch := omega) only [up_n]
  · exact e_no hS (-1) 1 (by omega) (by omega) (by simp (disch := omega) only [li_0, li_1, li_2, li_3, li_4, li_5, li_6, li_7, li_8, li_9, li_10, li_11, li_12, li_16, li_19, li_20, li_28, li_48, li_57, li_59, li_60, li_96, li_97, li_99, li_100, li_102, li_103, li_104, li_112, li_115, li_116, li_118, li_119, li_121, li_124, li_132, li_255, li_256, li_1000, li_2000, li_1000000000, iI_add, iI_sub, iI_mul, iI_neg, iI_lt, iI_le, iI_eq, iI_clamp, iI_s, iI_m1, iI_div, bs, tn, tn4, tn12, tn20, tn124, tn28, itT, itF, if_pos, if_neg, f_X7_washes, e1, bse]) (fun S1 q1 q2 => by
      have g1 := rThing (S := S1) (by rw [q1]; exact m0) hN8 x1 x2
      simp (disch := omega) only [li_0, li_1, li_2, li_3, li_4, li_5, li_6, li_7, li_8, li_9, li_10, li_11, li_12, li_16, li_19, li_20, li_28, li_48, li_57, li_59, li_60, li_96, li_97, li_99, li_100, li_102, li_103, li_104, li_112, li_115, li_116, li_118, li_119, li_121, li_124, li_132, li_255, li_256, li_1000, li_2000, li_1000000000, iI_add, iI_sub, iI_mul, iI_neg, iI_lt, iI_le, iI_eq, iI_clamp, iI_s, iI_m1, iI_div, bs, tn, tn4, tn12, tn20, tn124, tn28, itT, itF, if_pos, if_neg, f_X8_washes, g1, bse])
theorem cWould {S : St} {a : Nat → Int} {j now : Nat} (hc : RC S 1 a) (hw : WFa a) (hj : j < 8) (hs : (j : Int) < a 0) (hn : now ≤ 11) (p1 : S.1 1 1 = iI now) {y z v : Int} (h1 : 0 ≤ y ∧ y ≤ 99) (h2 : 0 ≤ z ∧ z ≤ 9) (h3 : 0 ≤ v ∧ v ≤ 2) :
    f_X7_would (iI j) (iI y) (iI z) (iI v) S = some (iI (if v = 0 then sY a j now y z else if v = 1 then sR a j y z else sG a j (sY a j now y z)), S) := by
  have h8 := hw.1
  have ht := hc.t hj hs
  have hwt := hw.t hj
  have e1 := cHeld hc hw (x := j) (y := y) (z := z) (by omega) (by omega) (by omega) (by omega) (by omega) (by omega)
  have e2 := cAt (S := S) (q := 1) hj
  have e3 := cY ht hwt hn (m := y) (f := z) (by omega) (by omega)
  have e5 := cR ht hwt (m := y) (f := z) (by omega) (by omega)
  have yb := sY_le a j now y z
  have e6 := cG ht (y := sY a j now y z) (by omega)
  by_cases c4 : v = 0
  · simp (disch := omega) only [li_0, li_1, li_2, li_3, li_4, li_5, li_6, li_7, li_8, li_9, li_10, li_11, li_12, li_16, li_19, li_20, li_28, li_48, li_57, li_59, li_60, li_96, li_97, li_99, li_100, li_102, li_103, li_104, li_112, li_115, li_116, li_118, li_119, li_121, li_124, li_132, li_255, li_256, li_1000, li_2000, li_1000000000, iI_add, iI_sub, iI_mul, iI_neg, iI_lt, iI_le, iI_eq, iI_clamp, iI_s, iI_m1, iI_div, bs, tn, tn4, tn12, tn20, tn124, tn28, itT, itF, if_pos, if_neg, f_X7_would, e1, e2, p1, e3]
  · by_cases c5 : v = 1
    · simp (disch := omega) only [li_0, li_1, li_2, li_3, li_4, li_5, li_6, li_7, li_8, li_9, li_10, li_11, li_12, li_16, li_19, li_20, li_28, li_48, li_57, li_59, li_60, li_96, li_97, li_99, li_100, li_102, li_103, li_104, li_112, li_115, li_116, li_118, li_119, li_121, li_124, li_132, li_255, li_256, li_1000, li_2000, li_1000000000, iI_add, iI_sub, iI_mul, iI_neg, iI_lt, iI_le, iI_eq, iI_clamp, iI_s, iI_m1, iI_div, bs, tn, tn4, tn12, tn20, tn124, tn28, itT, itF, if_pos, if_neg, f_X7_would, e1, e2, p1, e5]
    · simp (disch := omega) only [li_0, li_1, li_2, li_3, li_4, li_5, li_6, li_7, li_8, li_9, li_10, li_11, li_12, li_16, li_19, li_20, li_28, li_48, li_57, li_59, li_60, li_96, li_97, li_99, li_100, li_102, li_103, li_104, li_112, li_115, li_116, li_118, li_119, li_121, li_124, li_132, li_255, li_256, li_1000, li_2000, li_1000000000, iI_add, iI_sub, iI_mul, iI_neg, iI_lt, iI_le, iI_eq, iI_clamp, iI_s, iI_m1, iI_div, bs, tn, tn4, tn12, tn20, tn124, tn28, itT, itF, if_pos, if_neg, f_X7_would, e1, e2, p1, e3, e6]
theorem rWould {S : St} {a : Nat → Int} {j now N : Nat} (hm : ∀ k, k < 132 → S.1 75 k = iI (a k)) (hw : WFa a) (hj : j < 8) (hN : a 0 = N) (hs : j < N) (hn : now ≤ 11) (hnow : a 1 = now) {y z v : Int} (h1 : 0 ≤ y ∧ y ≤ 99) (h2 : 0 ≤ z ∧ z ≤ 9) (h3 : 0 ≤ v ∧ v ≤ 2) :
    f_X8_would (iI j) (iI y) (iI z) (iI v) S = some (iI (if v = 0 then sY a j now y z else if v = 1 then sR a j y z else sG a j (sY a j now y z)), S) := by
  have h8 := hw.1
  have hwt := hw.t hj
  have m0 : S.1 75 0 = iI N := by rw [hm 0 (by omega), hN]
  have g1 : f_X8_wrongGlue (iI j) (iI y) (iI z) S = some (iI 0) := by
    rw [rWrong m0 (by omega) (x := j) (y := y) (z := z) (by omega) (by omega) (by omega) (by omega) (by omega) (by omega), if_neg (by omega), if_neg (by omega), if_neg (by omega)]
  have g4 : f_X8_isIn (iI v) (iI 0) (iI 2) = some (iI 1) := by
    rw [rIn (x := v) (l := 0) (u := 2) (by omega) (by omega) (by omega) (by omega) (by omega) (by omega), if_pos (by omega)]
  have g3 := rY hm hj hwt hn hnow (m := y) (f := z) (by omega) (by omega)
  have g5 := rR hm hj hwt (m := y) (f := z) (by omega) (by omega)
  have yb := sY_le a j now y z
  have g6 : S.1 75 (28 + 12 * j + sY a j now y z) = iI (sG a j (sY a j now y z)) := hm _ (by omega)
  rw [f_X8_would, g1, bs, if_pos (show iI 0 = 0 from rfl), show (2 : Int32) = iI 2 from rfl, show (0 : Int32) = iI 0 from rfl, g4, bs, if_neg (by decide), if_pos rfl, g3, bs]
  by_cases c4 : v = 0
  · simp (disch := omega) only [li_0, li_1, li_2, li_3, li_4, li_5, li_6, li_7, li_8, li_9, li_10, li_11, li_12, li_16, li_19, li_20, li_28, li_48, li_57, li_59, li_60, li_96, li_97, li_99, li_100, li_102, li_103, li_104, li_112, li_115, li_116, li_118, li_119, li_121, li_124, li_132, li_255, li_256, li_1000, li_2000, li_1000000000, iI_add, iI_sub, iI_mul, iI_neg, iI_lt, iI_le, iI_eq, iI_clamp, iI_s, iI_m1, iI_div, bs, tn, tn4, tn12, tn20, tn124, tn28, itT, itF, if_pos, if_neg]
  · by_cases c5 : v = 1
    · simp (disch := omega) only [li_0, li_1, li_2, li_3, li_4, li_5, li_6, li_7, li_8, li_9, li_10, li_11, li_12, li_16, li_19, li_20, li_28, li_48, li_57, li_59, li_60, li_96, li_97, li_99, li_100, li_102, li_103, li_104, li_112, li_115, li_116, li_118, li_119, li_121, li_124, li_132, li_255, li_256, li_1000, li_2000, li_1000000000, iI_add, iI_sub, iI_mul, iI_neg, iI_lt, iI_le, iI_eq, iI_clamp, iI_s, iI_m1, iI_div, bs, tn, tn4, tn12, tn20, tn124, tn28, itT, itF, if_pos, if_neg, g5]
    · simp (disch := omega) only [li_0, li_1, li_2, li_3, li_4, li_5, li_6, li_7, li_8, li_9, li_10, li_11, li_12, li_16, li_19, li_20, li_28, li_48, li_57, li_59, li_60, li_96, li_97, li_99, li_100, li_102, li_103, li_104, li_112, li_115, li_116, li_118, li_119, li_121, li_124, li_132, li_255, li_256, li_1000, li_2000, li_1000000000, iI_add, iI_sub, iI_mul, iI_neg, iI_lt, iI_le, iI_eq, iI_clamp, iI_s, iI_m1, iI_div, bs, tn, tn4, tn12, tn20, tn124, tn28, itT, itF, if_pos, if_neg, rAt, g6]
theorem e_would {S : St} (hS : Inv S) (a1 : Int32) (a2 : Int32) (a3 : Int32) (a4 : Int32) : ∃ (z1 : Int32 × St) (z2 : Int32 × St), f_X7_would a1 a2 a3 a4 S = some z1 ∧ f_X8_would a1 a2 a3 a4 z1.2 = some z2 ∧ z1.1 = z2.1 ∧ Inv z2.2 := by
  obtain ⟨⟨a, hw, hc, hm0⟩, -⟩ := id hS
  have hm : ∀ k, k < 132 → S.1 75 k = iI (a k) := hm0
  have h8 := hw.1
  have w1 := hw.2.1
  have w2 := hw.2.2.1
  have w3 := hw.2.2.2.1
  obtain ⟨now, hnow⟩ : ∃ n : Nat, a 1 = n := ⟨(a 1).toNat, by omega⟩
  obtain ⟨N, hN⟩ : ∃ n : Nat, a 0 = n := ⟨(a 0).toNat, by omega⟩
  have hn : now ≤ 11 := by omega
  have hN8 : N ≤ 8 := by omega
  have p1 : S.1 1 1 = iI now := by rw [hc.1 1 (by omega), hnow]
  have p0 : S.1 1 0 = iI N := by rw [hc.1 0 (by omega), hN]
  have m0 : S.1 75 0 = iI N := by rw [hm 0 (by omega), hN]
  have m1 : S.1 75 1 = iI now := by rw [hm 1 (by omega), hnow]
  obtain ⟨x, x1, x2, rfl⟩ := iI_any a1
  obtain ⟨y, y1, y2, rfl⟩ := iI_any a2
  obtain ⟨z, z1, z2, rfl⟩ := iI_any a3
  obtain ⟨v, v1, v2, rfl⟩ := iI_any a4
  have e1 := cHeld hc hw x1 x2 y1 y2 z1 z2
  have g1 := rWrong m0 hN8 x1 x2 y1 y2 z1 z2
  have g4 := rIn (x := v) (l := 0) (u := 2) v1 v2 (by omega) (by omega) (by omega) (by omega)
  by_cases c : 0 ≤ x ∧ x < a 0
  · obtain ⟨j, rfl⟩ : ∃ n : Nat, x = n := ⟨x.toNat, by omega⟩
    have ht := hc.t (j := j) (by omega) (by omega)
    have hwt := hw.t (j := j) (by omega)
    have e2 := cAt (S := S) (q := 1) (j := j) (by omega)
    by_cases c1 : y < 0 ∨ z < 0
    · exact e_no hS (-4) 4 (by omega) (by omega) (by simp (disch := omega) only [li_0, li_1, li_2, li_3, li_4, li_5, li_6, li_7, li_8, li_9, li_10, li_11, li_12, li_16, li_19, li_20, li_28, li_48, li_57, li_59, li_60, li_96, li_97, li_99, li_100, li_102, li_103, li_104, li_112, li_115, li_116, li_118, li_119, li_121, li_124, li_132, li_255, li_256, li_1000, li_2000, li_1000000000, iI_add, iI_sub, iI_mul, iI_neg, iI_lt, iI_le, iI_eq, iI_clamp, iI_s, iI_m1, iI_div, bs, tn, tn4, tn12, tn20, tn124, tn28, itT, itF, if_pos, if_neg, f_X7_would, e1, bse]) (fun S1 q1 q2 => by
        have g1 := rWrong (S := S1) (by rw [q1]; exact m0) hN8 x1 x2 y1 y2 z1 z2
        simp (disch := omega) only [li_0, li_1, li_2, li_3, li_4, li_5, li_6, li_7, li_8, li_9, li_10, li_11, li_12, li_16, li_19, li_20, li_28, li_48, li_57, li_59, li_60, li_96, li_97, li_99, li_100, li_102, li_103, li_104, li_112, li_115, li_116, li_118, li_119, li_121, li_124, li_132, li_255, li_256, li_1000, li_2000, li_1000000000, iI_add, iI_sub, iI_mul, iI_neg, iI_lt, iI_le, iI_eq, iI_clamp, iI_s, iI_m1, iI_div, bs, tn, tn4, tn12, tn20, tn124, tn28, itT, itF, if_pos, if_neg, f_X8_would, g1, bse])
    · by_cases c2 : 99 < y ∨ 9 < z
      · exact e_no hS (-6) 6 (by omega) (by omega) (by simp (disch := omega) only [li_0, li_1, li_2, li_3, li_4, li_5, li_6, li_7, li_8, li_9, li_10, li_11, li_12, li_16, li_19, li_20, li_28, li_48, li_57, li_59, li_60, li_96, li_97, li_99, li_100, li_102, li_103, li_104, li_112, li_115, li_116, li_118, li_119, li_121, li_124, li_132, li_255, li_256, li_1000, li_2000, li_1000000000, iI_add, iI_sub, iI_mul, iI_neg, iI_lt, iI_le, iI_eq, iI_clamp, iI_s, iI_m1, iI_div, bs, tn, tn4, tn12, tn20, tn124, tn28, itT, itF, if_pos, if_neg, f_X7_would, e1, bse]) (fun S1 q1 q2 => by
          have g1 := rWrong (S := S1) (by rw [q1]; exact m0) hN8 x1 x2 y1 y2 z1 z2
          simp (disch := omega) only [li_0, li_1, li_2, li_3, li_4, li_5, li_6, li_7, li_8, li_9, li_10, li_11, li_12, li_16, li_19, li_20, li_28, li_48, li_57, li_59, li_60, li_96, li_97, li_99, li_100, li_102, li_103, li_104, li_112, li_115, li_116, li_118, li_119, li_121, li_124, li_132, li_255, li_256, li_1000, li_2000, li_1000000000, iI_add, iI_sub, iI_mul, iI_neg, iI_lt, iI_le, iI_eq, iI_clamp, iI_s, iI_m1, iI_div, bs, tn, tn4, tn12, tn20, tn124, tn28, itT, itF, if_pos, if_neg, f_X8_would, g1, bse])
      · by_cases c3 : v < 0 ∨ 2 < v
        · refine e_no hS (-2) 2 (by omega) (by omega) ?_ (fun S1 q1 q2 => by
            have g1 := rWrong (S := S1) (by rw [q1]; exact m0) hN8 x1 x2 y1 y2 z1 z2
            simp (disch := omega) only [li_0, li_1, li_2, li_3, li_4, li_5, li_6, li_7, li_8, li_9, li_10, li_11, li_12, li_16, li_19, li_20, li_28, li_48, li_57, li_59, li_60, li_96, li_97, li_99, li_100, li_102, li_103, li_104, li_112, li_115, li_116, li_118, li_119, li_121, li_124, li_132, li_255, li_256, li_1000, li_2000, li_1000000000, iI_add, iI_sub, iI_mul, iI_neg, iI_lt, iI_le, iI_eq, iI_clamp, iI_s, iI_m1, iI_div, bs, tn, tn4, tn12, tn20, tn124, tn28, itT, itF, if_pos, if_neg, f_X8_would, g1, g4, bse])
          by_cases c4 : v < 0
          · simp (disch := omega) only [li_0, li_1, li_2, li_3, li_4, li_5, li_6, li_7, li_8, li_9, li_10, li_11, li_12, li_16, li_19, li_20, li_28, li_48, li_57, li_59, li_60, li_96, li_97, li_99, li_100, li_102, li_103, li_104, li_112, li_115, li_116, li_118, li_119, li_121, li_124, li_132, li_255, li_256, li_1000, li_2000, li_1000000000, iI_add, iI_sub, iI_mul, iI_neg, iI_lt, iI_le, iI_eq, iI_clamp, iI_s, iI_m1, iI_div, bs, tn, tn4, tn12, tn20, tn124, tn28, itT, itF, if_pos, if_neg, f_X7_would, e1, bse]
          · simp (disch := omega) only [li_0, li_1, li_2, li_3, li_4, li_5, li_6, li_7, li_8, li_9, li_10, li_11, li_12, li_16, li_19, li_20, li_28, li_48, li_57, li_59, li_60, li_96, li_97, li_99, li_100, li_102, li_103, li_104, li_112, li_115, li_116, li_118, li_119, li_121, li_124, li_132, li_255, li_256, li_1000, li_2000, li_1000000000, iI_add, iI_sub, iI_mul, iI_neg, iI_lt, iI_le, iI_eq, iI_clamp, iI_s, iI_m1, iI_div, bs, tn, tn4, tn12, tn20, tn124, tn28, itT, itF, if_pos, if_neg, f_X7_would, e1, bse]
        · exact e_mk (cWould hc hw (j := j) (by omega) (by omega) hn p1 (by omega) (by omega) (by omega)) (rWould hm hw (j := j) (by omega) hN (by omega) hn hnow (by omega) (by omega) (by omega)) hS
  · exact e_no hS (-1) 1 (by omega) (by omega) (by simp (disch := omega) only [li_0, li_1, li_2, li_3, li_4, li_5, li_6, li_7, li_8, li_9, li_10, li_11, li_12, li_16, li_19, li_20, li_28, li_48, li_57, li_59, li_60, li_96, li_97, li_99, li_100, li_102, li_103, li_104, li_112, li_115, li_116, li_118, li_119, li_121, li_124, li_132, li_255, li_256, li_1000, li_2000, li_1000000000, iI_add, iI_sub, iI_mul, iI_neg, iI_lt, iI_le, iI_eq, iI_clamp, iI_s, iI_m1, iI_div, bs, tn, tn4, tn12, tn20, tn124, tn28, itT, itF, if_pos, if_neg, f_X7_would, e1, bse]) (fun S1 q1 q2 => by
      have g1 := rWrong (S := S1) (by rw [q1]; exact m0) hN8 x1 x2 y1 y2 z1 z2
      simp (disch := omega) only [li_0, li_1, li_2, li_3, li_4, li_5, li_6, li_7, li_8, li_9, li_10, li_11, li_12, li_16, li_19, li_20, li_28, li_48, li_57, li_59, li_60, li_96, li_97, li_99, li_100, li_102, li_103, li_104, li_112, li_115, li_116, li_118, li_119, li_121, li_124, li_132, li_255, li_256, li_1000, li_2000, li_1000000000, iI_add, iI_sub, iI_mul, iI_neg, iI_lt, iI_le, iI_eq, iI_clamp, iI_s, iI_m1, iI_div, bs, tn, tn4, tn12, tn20, tn124, tn28, itT, itF, if_pos, if_neg, f_X8_would, g1, bse])
-- ===== letters and the row =====
theorem e_letter {S : St} (hS : Inv S) (a1 : Int32) : ∃ (z1 : Int32 × St) (z2 : Int32 × St), f_X7_letter a1 S = some z1 ∧ f_X8_letter a1 z1.2 = some z2 ∧ z1.1 = z2.1 ∧ Inv z2.2 := by
  obtain ⟨x, x1, x2, rfl⟩ := iI_any a1
  obtain ⟨_, ⟨n, t1, t2, t3, t4⟩, _⟩ := id hS
  by_cases c1 : x < 0
  · exact e_no hS (-4) 4 (by omega) (by omega) (by simp (disch := omega) only [li_0, li_1, li_2, li_3, li_4, li_5, li_6, li_7, li_8, li_9, li_10, li_11, li_12, li_16, li_19, li_20, li_28, li_48, li_57, li_59, li_60, li_96, li_97, li_99, li_100, li_102, li_103, li_104, li_112, li_115, li_116, li_118, li_119, li_121, li_124, li_132, li_255, li_256, li_1000, li_2000, li_1000000000, iI_add, iI_sub, iI_mul, iI_neg, iI_lt, iI_le, iI_eq, iI_clamp, iI_s, iI_m1, iI_div, bs, tn, tn4, tn12, tn20, tn124, tn28, itT, itF, if_pos, if_neg, f_X7_letter, bse]) (fun S1 q1 q2 => by simp (disch := omega) only [li_0, li_1, li_2, li_3, li_4, li_5, li_6, li_7, li_8, li_9, li_10, li_11, li_12, li_16, li_19, li_20, li_28, li_48, li_57, li_59, li_60, li_96, li_97, li_99, li_100, li_102, li_103, li_104, li_112, li_115, li_116, li_118, li_119, li_121, li_124, li_132, li_255, li_256, li_1000, li_2000, li_1000000000, iI_add, iI_sub, iI_mul, iI_neg, iI_lt, iI_le, iI_eq, iI_clamp, iI_s, iI_m1, iI_div, bs, tn, tn4, tn12, tn20, tn124, tn28, itT, itF, if_pos, if_neg, f_X8_letter, bse])
  · by_cases c2 : 255 < x
    · exact e_no hS (-6) 6 (by omega) (by omega) (by simp (disch := omega) only [li_0, li_1, li_2, li_3, li_4, li_5, li_6, li_7, li_8, li_9, li_10, li_11, li_12, li_16, li_19, li_20, li_28, li_48, li_57, li_59, li_60, li_96, li_97, li_99, li_100, li_102, li_103, li_104, li_112, li_115, li_116, li_118, li_119, li_121, li_124, li_132, li_255, li_256, li_1000, li_2000, li_1000000000, iI_add, iI_sub, iI_mul, iI_neg, iI_lt, iI_le, iI_eq, iI_clamp, iI_s, iI_m1, iI_div, bs, tn, tn4, tn12, tn20, tn124, tn28, itT, itF, if_pos, if_neg, f_X7_letter, bse]) (fun S1 q1 q2 => by simp (disch := omega) only [li_0, li_1, li_2, li_3, li_4, li_5, li_6, li_7, li_8, li_9, li_10, li_11, li_12, li_16, li_19, li_20, li_28, li_48, li_57, li_59, li_60, li_96, li_97, li_99, li_100, li_102, li_103, li_104, li_112, li_115, li_116, li_118, li_119, li_121, li_124, li_132, li_255, li_256, li_1000, li_2000, li_1000000000, iI_add, iI_sub, iI_mul, iI_neg, iI_lt, iI_le, iI_eq, iI_clamp, iI_s, iI_m1, iI_div, bs, tn, tn4, tn12, tn20, tn124, tn28, itT, itF, if_pos, if_neg, f_X8_letter, bse])
    · by_cases c3 : n = 96
      · subst c3
        exact e_no hS (-6) 6 (by omega) (by omega) (by simp (disch := omega) only [li_0, li_1, li_2, li_3, li_4, li_5, li_6, li_7, li_8, li_9, li_10, li_11, li_12, li_16, li_19, li_20, li_28, li_48, li_57, li_59, li_60, li_96, li_97, li_99, li_100, li_102, li_103, li_104, li_112, li_115, li_116, li_118, li_119, li_121, li_124, li_132, li_255, li_256, li_1000, li_2000, li_1000000000, iI_add, iI_sub, iI_mul, iI_neg, iI_lt, iI_le, iI_eq, iI_clamp, iI_s, iI_m1, iI_div, bs, tn, tn4, tn12, tn20, tn124, tn28, itT, itF, if_pos, if_neg, f_X7_letter, f_X5_isFull, t2, bse]) (fun S1 q1 q2 => by
          rw [← q2] at t3
          simp (disch := omega) only [li_0, li_1, li_2, li_3, li_4, li_5, li_6, li_7, li_8, li_9, li_10, li_11, li_12, li_16, li_19, li_20, li_28, li_48, li_57, li_59, li_60, li_96, li_97, li_99, li_100, li_102, li_103, li_104, li_112, li_115, li_116, li_118, li_119, li_121, li_124, li_132, li_255, li_256, li_1000, li_2000, li_1000000000, iI_add, iI_sub, iI_mul, iI_neg, iI_lt, iI_le, iI_eq, iI_clamp, iI_s, iI_m1, iI_div, bs, tn, tn4, tn12, tn20, tn124, tn28, itT, itF, if_pos, if_neg, f_X8_letter, t3, bse])
      · refine e_mk (v := iI ((n + 1 : Nat) : Int)) (S1 := up (up S 61 n (iI x)) 60 1 (iI ((n + 1 : Nat) : Int))) (S2 := up (up (up (up S 61 n (iI x)) 60 1 (iI ((n + 1 : Nat) : Int))) 79 n (iI x)) 74 8 (iI ((n + 1 : Nat) : Int))) (by simp (disch := omega) only [li_0, li_1, li_2, li_3, li_4, li_5, li_6, li_7, li_8, li_9, li_10, li_11, li_12, li_16, li_19, li_20, li_28, li_48, li_57, li_59, li_60, li_96, li_97, li_99, li_100, li_102, li_103, li_104, li_112, li_115, li_116, li_118, li_119, li_121, li_124, li_132, li_255, li_256, li_1000, li_2000, li_1000000000, iI_add, iI_sub, iI_mul, iI_neg, iI_lt, iI_le, iI_eq, iI_clamp, iI_s, iI_m1, iI_div, bs, tn, tn4, tn12, tn20, tn124, tn28, itT, itF, if_pos, if_neg, up_s, up_n, f_X7_letter, f_X5_isFull, f_X5_put, t2]) (by simp (disch := omega) only [li_0, li_1, li_2, li_3, li_4, li_5, li_6, li_7, li_8, li_9, li_10, li_11, li_12, li_16, li_19, li_20, li_28, li_48, li_57, li_59, li_60, li_96, li_97, li_99, li_100, li_102, li_103, li_104, li_112, li_115, li_116, li_118, li_119, li_121, li_124, li_132, li_255, li_256, li_1000, li_2000, li_1000000000, iI_add, iI_sub, iI_mul, iI_neg, iI_lt, iI_le, iI_eq, iI_clamp, iI_s, iI_m1, iI_div, bs, tn, tn4, tn12, tn20, tn124, tn28, itT, itF, if_pos, if_neg, up_s, up_n, f_X8_letter, t3]) ?_
        refine hS.text ⟨n + 1, by omega, by simp (disch := omega) only [up_n, up_s], by simp (disch := omega) only [up_n, up_s], fun k hk => ?_⟩ (fun i k h => ?_)
        · by_cases e : k = n
          · subst e
            simp (disch := omega) only [up_n, up_s]
            exact ⟨trivial, x.toNat, by omega, by rw [show ((x.toNat : Nat) : Int) = x by omega]⟩
          · simp (disch := omega) only [up_n]
            exact t4 k (by omega)
        · unfold scr at h
          simp (disch := omega) only [up_n]
theorem e_row {S : St} (hS : Inv S) (a1 : Int32) : ∃ (z1 : Int32 × St) (z2 : Int32 × St), f_X7_row a1 S = some z1 ∧ f_X8_row a1 z1.2 = some z2 ∧ z1.1 = z2.1 ∧ Inv z2.2 := by
  obtain ⟨x, x1, x2, rfl⟩ := iI_any a1
  obtain ⟨_, _, ⟨n, t1, t2, t3, t4⟩, _⟩ := id hS
  by_cases c1 : x < 0
  · exact e_no hS (-4) 4 (by omega) (by omega) (by simp (disch := omega) only [li_0, li_1, li_2, li_3, li_4, li_5, li_6, li_7, li_8, li_9, li_10, li_11, li_12, li_16, li_19, li_20, li_28, li_48, li_57, li_59, li_60, li_96, li_97, li_99, li_100, li_102, li_103, li_104, li_112, li_115, li_116, li_118, li_119, li_121, li_124, li_132, li_255, li_256, li_1000, li_2000, li_1000000000, iI_add, iI_sub, iI_mul, iI_neg, iI_lt, iI_le, iI_eq, iI_clamp, iI_s, iI_m1, iI_div, bs, tn, tn4, tn12, tn20, tn124, tn28, itT, itF, if_pos, if_neg, f_X7_row, bse]) (fun S1 q1 q2 => by simp (disch := omega) only [li_0, li_1, li_2, li_3, li_4, li_5, li_6, li_7, li_8, li_9, li_10, li_11, li_12, li_16, li_19, li_20, li_28, li_48, li_57, li_59, li_60, li_96, li_97, li_99, li_100, li_102, li_103, li_104, li_112, li_115, li_116, li_118, li_119, li_121, li_124, li_132, li_255, li_256, li_1000, li_2000, li_1000000000, iI_add, iI_sub, iI_mul, iI_neg, iI_lt, iI_le, iI_eq, iI_clamp, iI_s, iI_m1, iI_div, bs, tn, tn4, tn12, tn20, tn124, tn28, itT, itF, if_pos, if_neg, f_X8_row, bse])
  · by_cases c2 : 99 < x
    · exact e_no hS (-6) 6 (by omega) (by omega) (by simp (disch := omega) only [li_0, li_1, li_2, li_3, li_4, li_5, li_6, li_7, li_8, li_9, li_10, li_11, li_12, li_16, li_19, li_20, li_28, li_48, li_57, li_59, li_60, li_96, li_97, li_99, li_100, li_102, li_103, li_104, li_112, li_115, li_116, li_118, li_119, li_121, li_124, li_132, li_255, li_256, li_1000, li_2000, li_1000000000, iI_add, iI_sub, iI_mul, iI_neg, iI_lt, iI_le, iI_eq, iI_clamp, iI_s, iI_m1, iI_div, bs, tn, tn4, tn12, tn20, tn124, tn28, itT, itF, if_pos, if_neg, f_X7_row, bse]) (fun S1 q1 q2 => by simp (disch := omega) only [li_0, li_1, li_2, li_3, li_4, li_5, li_6, li_7, li_8, li_9, li_10, li_11, li_12, li_16, li_19, li_20, li_28, li_48, li_57, li_59, li_60, li_96, li_97, li_99, li_100, li_102, li_103, li_104, li_112, li_115, li_116, li_118, li_119, li_121, li_124, li_132, li_255, li_256, li_1000, li_2000, li_1000000000, iI_add, iI_sub, iI_mul, iI_neg, iI_lt, iI_le, iI_eq, iI_clamp, iI_s, iI_m1, iI_div, bs, tn, tn4, tn12, tn20, tn124, tn28, itT, itF, if_pos, if_neg, f_X8_row, bse])
    · by_cases c3 : n = 16
      · subst c3
        exact e_no hS (-6) 6 (by omega) (by omega) (by simp (disch := omega) only [li_0, li_1, li_2, li_3, li_4, li_5, li_6, li_7, li_8, li_9, li_10, li_11, li_12, li_16, li_19, li_20, li_28, li_48, li_57, li_59, li_60, li_96, li_97, li_99, li_100, li_102, li_103, li_104, li_112, li_115, li_116, li_118, li_119, li_121, li_124, li_132, li_255, li_256, li_1000, li_2000, li_1000000000, iI_add, iI_sub, iI_mul, iI_neg, iI_lt, iI_le, iI_eq, iI_clamp, iI_s, iI_m1, iI_div, bs, tn, tn4, tn12, tn20, tn124, tn28, itT, itF, if_pos, if_neg, f_X7_row, f_X2_isFull, t2, bse]) (fun S1 q1 q2 => by
          rw [← q2] at t3
          simp (disch := omega) only [li_0, li_1, li_2, li_3, li_4, li_5, li_6, li_7, li_8, li_9, li_10, li_11, li_12, li_16, li_19, li_20, li_28, li_48, li_57, li_59, li_60, li_96, li_97, li_99, li_100, li_102, li_103, li_104, li_112, li_115, li_116, li_118, li_119, li_121, li_124, li_132, li_255, li_256, li_1000, li_2000, li_1000000000, iI_add, iI_sub, iI_mul, iI_neg, iI_lt, iI_le, iI_eq, iI_clamp, iI_s, iI_m1, iI_div, bs, tn, tn4, tn12, tn20, tn124, tn28, itT, itF, if_pos, if_neg, f_X8_row, t3, bse])
      · refine e_mk (v := iI ((n + 1 : Nat) : Int)) (S1 := up (up S 63 n (iI x)) 62 1 (iI ((n + 1 : Nat) : Int))) (S2 := up (up (up (up S 63 n (iI x)) 62 1 (iI ((n + 1 : Nat) : Int))) 80 n (iI x)) 74 9 (iI ((n + 1 : Nat) : Int))) (by simp (disch := omega) only [li_0, li_1, li_2, li_3, li_4, li_5, li_6, li_7, li_8, li_9, li_10, li_11, li_12, li_16, li_19, li_20, li_28, li_48, li_57, li_59, li_60, li_96, li_97, li_99, li_100, li_102, li_103, li_104, li_112, li_115, li_116, li_118, li_119, li_121, li_124, li_132, li_255, li_256, li_1000, li_2000, li_1000000000, iI_add, iI_sub, iI_mul, iI_neg, iI_lt, iI_le, iI_eq, iI_clamp, iI_s, iI_m1, iI_div, bs, tn, tn4, tn12, tn20, tn124, tn28, itT, itF, if_pos, if_neg, up_s, up_n, f_X7_row, f_X2_isFull, f_X2_put, t2]) (by simp (disch := omega) only [li_0, li_1, li_2, li_3, li_4, li_5, li_6, li_7, li_8, li_9, li_10, li_11, li_12, li_16, li_19, li_20, li_28, li_48, li_57, li_59, li_60, li_96, li_97, li_99, li_100, li_102, li_103, li_104, li_112, li_115, li_116, li_118, li_119, li_121, li_124, li_132, li_255, li_256, li_1000, li_2000, li_1000000000, iI_add, iI_sub, iI_mul, iI_neg, iI_lt, iI_le, iI_eq, iI_clamp, iI_s, iI_m1, iI_div, bs, tn, tn4, tn12, tn20, tn124, tn28, itT, itF, if_pos, if_neg, up_s, up_n, f_X8_row, t3]) ?_
        refine hS.rowT ⟨n + 1, by omega, by simp (disch := omega) only [up_n, up_s], by simp (disch := omega) only [up_n, up_s], fun k hk => ?_⟩ (fun i k h => ?_)
        · by_cases e : k = n
          · subst e
            simp (disch := omega) only [up_n, up_s]
          · simp (disch := omega) only [up_n]
            exact t4 k (by omega)
        · unfold scr at h
          simp (disch := omega) only [up_n]
theorem Inv.clear {S : St} (hS : Inv S) : Inv (up (up S 62 1 (iI 0)) 74 9 (iI 0)) := by
  refine hS.rowT ⟨0, by omega, ?_, ?_, fun k hk => absurd hk (by omega)⟩ (fun i k h => ?_)
  · simp (disch := omega) only [up_n, up_s]; rfl
  · simp (disch := omega) only [up_n, up_s]; rfl
  · unfold scr at h
    simp (disch := omega) only [up_n]
theorem e_clear {S : St} (hS : Inv S) : ∃ (z1 : Int32 × St) (z2 : Int32 × St), f_X7_clear S = some z1 ∧ f_X8_clear z1.2 = some z2 ∧ z1.1 = z2.1 ∧ Inv z2.2 := by
  obtain ⟨_, _, ⟨n, t1, t2, t3, t4⟩, _⟩ := id hS
  exact e_mk (v := iI n) (S1 := up S 62 1 (iI 0)) (S2 := up (up S 62 1 (iI 0)) 74 9 (iI 0)) (by simp (disch := omega) only [li_0, li_1, li_2, li_3, li_4, li_5, li_6, li_7, li_8, li_9, li_10, li_11, li_12, li_16, li_19, li_20, li_28, li_48, li_57, li_59, li_60, li_96, li_97, li_99, li_100, li_102, li_103, li_104, li_112, li_115, li_116, li_118, li_119, li_121, li_124, li_132, li_255, li_256, li_1000, li_2000, li_1000000000, iI_add, iI_sub, iI_mul, iI_neg, iI_lt, iI_le, iI_eq, iI_clamp, iI_s, iI_m1, iI_div, bs, tn, tn4, tn12, tn20, tn124, tn28, itT, itF, if_pos, if_neg, f_X7_clear, t2]) (by simp (disch := omega) only [li_0, li_1, li_2, li_3, li_4, li_5, li_6, li_7, li_8, li_9, li_10, li_11, li_12, li_16, li_19, li_20, li_28, li_48, li_57, li_59, li_60, li_96, li_97, li_99, li_100, li_102, li_103, li_104, li_112, li_115, li_116, li_118, li_119, li_121, li_124, li_132, li_255, li_256, li_1000, li_2000, li_1000000000, iI_add, iI_sub, iI_mul, iI_neg, iI_lt, iI_le, iI_eq, iI_clamp, iI_s, iI_m1, iI_div, bs, tn, tn4, tn12, tn20, tn124, tn28, itT, itF, if_pos, if_neg, up_s, up_n, f_X8_clear, t3]) hS.clear
theorem cJudgeL {S : St} {t : Nat} {a : Nat → Int} {j : Nat} (h : RT S t a j) {N : Nat} (hN : N ≤ 16) (hl : S.1 62 1 = iI N) {k : Int32 → Option Int32} {k9 : Unit → Option Int32} :
    ∀ d n x : Nat, x + d = N → d < n → f_X2_firstNotGladOf_L2 n t (iI x) S k k9 = if sFst (fun x => decide (12 ≤ x ∨ S.1 63 x ≠ iI (sG a j x))) d x < 0 then k9 () else k (iI (sFst (fun x => decide (12 ≤ x ∨ S.1 63 x ≠ iI (sG a j x))) d x)) := by
  intro d
  induction d with
  | zero =>
    intro n x hx hd
    obtain ⟨n, rfl⟩ : ∃ p, n = p + 1 := ⟨n - 1, by omega⟩
    rw [f_X2_firstNotGladOf_L2, sFst]
    simp (disch := omega) only [li_0, li_1, li_2, li_3, li_4, li_5, li_6, li_7, li_8, li_9, li_10, li_11, li_12, li_16, li_19, li_20, li_28, li_48, li_57, li_59, li_60, li_96, li_97, li_99, li_100, li_102, li_103, li_104, li_112, li_115, li_116, li_118, li_119, li_121, li_124, li_132, li_255, li_256, li_1000, li_2000, li_1000000000, iI_add, iI_sub, iI_mul, iI_neg, iI_lt, iI_le, iI_eq, iI_clamp, iI_s, iI_m1, iI_div, bs, tn, tn4, tn12, tn20, tn124, tn28, itT, itF, if_pos, if_neg, hl]
  | succ d ih =>
    intro n x hx hd
    obtain ⟨n, rfl⟩ : ∃ p, n = p + 1 := ⟨n - 1, by omega⟩
    have i1 := ih n (x + 1) (by omega) (by omega)
    have e1 := cNo (z := x) (by omega) (by omega)
    rw [f_X2_firstNotGladOf_L2, sFst]
    by_cases c : 12 ≤ x
    · rw [decide_eq_true (show 12 ≤ x ∨ S.1 63 x ≠ iI (sG a j x) from Or.inl c)]
      simp (disch := omega) only [li_0, li_1, li_2, li_3, li_4, li_5, li_6, li_7, li_8, li_9, li_10, li_11, li_12, li_16, li_19, li_20, li_28, li_48, li_57, li_59, li_60, li_96, li_97, li_99, li_100, li_102, li_103, li_104, li_112, li_115, li_116, li_118, li_119, li_121, li_124, li_132, li_255, li_256, li_1000, li_2000, li_1000000000, iI_add, iI_sub, iI_mul, iI_neg, iI_lt, iI_le, iI_eq, iI_clamp, iI_s, iI_m1, iI_div, bs, tn, tn4, tn12, tn20, tn124, tn28, itT, itF, if_pos, if_neg, hl, e1]
    · have e2 := cG h (y := x) (by omega)
      by_cases c2 : S.1 63 x = iI (sG a j x)
      · rw [decide_eq_false (show ¬ (12 ≤ x ∨ S.1 63 x ≠ iI (sG a j x)) from fun z => z.elim c (fun z => z c2))]
        simp (disch := omega) only [li_0, li_1, li_2, li_3, li_4, li_5, li_6, li_7, li_8, li_9, li_10, li_11, li_12, li_16, li_19, li_20, li_28, li_48, li_57, li_59, li_60, li_96, li_97, li_99, li_100, li_102, li_103, li_104, li_112, li_115, li_116, li_118, li_119, li_121, li_124, li_132, li_255, li_256, li_1000, li_2000, li_1000000000, iI_add, iI_sub, iI_mul, iI_neg, iI_lt, iI_le, iI_eq, iI_clamp, iI_s, iI_m1, iI_div, bs, tn, tn4, tn12, tn20, tn124, tn28, itT, itF, if_pos, if_neg, hl, e1, e2, c2, i1, Bool.false_eq_true]
      · rw [decide_eq_true (show 12 ≤ x ∨ S.1 63 x ≠ iI (sG a j x) from Or.inr c2)]
        simp (disch := omega) only [li_0, li_1, li_2, li_3, li_4, li_5, li_6, li_7, li_8, li_9, li_10, li_11, li_12, li_16, li_19, li_20, li_28, li_48, li_57, li_59, li_60, li_96, li_97, li_99, li_100, li_102, li_103, li_104, li_112, li_115, li_116, li_118, li_119, li_121, li_124, li_132, li_255, li_256, li_1000, li_2000, li_1000000000, iI_add, iI_sub, iI_mul, iI_neg, iI_lt, iI_le, iI_eq, iI_clamp, iI_s, iI_m1, iI_div, bs, tn, tn4, tn12, tn20, tn124, tn28, itT, itF, if_pos, if_neg, hl, e1, e2, c2]
theorem rJudgeL {S : St} {a : Nat → Int} {j : Nat} (hm : ∀ k, k < 132 → S.1 75 k = iI (a k)) (hj : j < 8) {N : Nat} (hN : N ≤ 16) {g : Nat → Int32} (hg : ∀ x, x < N → S.1 80 x = g x) {k : Int32 → Option (Int32 × St)} {k9 : Unit → Option (Int32 × St)} :
    ∀ d n x : Nat, x + d = N → d < n → f_X8_judge_L26 n (iI j) (iI N) (iI x) S k k9 = if sFst (fun x => decide (12 ≤ x ∨ g x ≠ iI (sG a j x))) d x < 0 then k9 () else k (iI (sFst (fun x => decide (12 ≤ x ∨ g x ≠ iI (sG a j x))) d x)) := by
  intro d
  induction d with
  | zero =>
    intro n x hx hd
    obtain ⟨n, rfl⟩ : ∃ p, n = p + 1 := ⟨n - 1, by omega⟩
    rw [f_X8_judge_L26, sFst]
    simp (disch := omega) only [li_0, li_1, li_2, li_3, li_4, li_5, li_6, li_7, li_8, li_9, li_10, li_11, li_12, li_16, li_19, li_20, li_28, li_48, li_57, li_59, li_60, li_96, li_97, li_99, li_100, li_102, li_103, li_104, li_112, li_115, li_116, li_118, li_119, li_121, li_124, li_132, li_255, li_256, li_1000, li_2000, li_1000000000, iI_add, iI_sub, iI_mul, iI_neg, iI_lt, iI_le, iI_eq, iI_clamp, iI_s, iI_m1, iI_div, bs, tn, tn4, tn12, tn20, tn124, tn28, itT, itF, if_pos, if_neg]
  | succ d ih =>
    intro n x hx hd
    obtain ⟨n, rfl⟩ : ∃ p, n = p + 1 := ⟨n - 1, by omega⟩
    have i1 := ih n (x + 1) (by omega) (by omega)
    have e3 := hg x (by omega)
    rw [f_X8_judge_L26, sFst]
    by_cases c : 12 ≤ x
    · rw [decide_eq_true (show 12 ≤ x ∨ g x ≠ iI (sG a j x) from Or.inl c)]
      simp (disch := omega) only [li_0, li_1, li_2, li_3, li_4, li_5, li_6, li_7, li_8, li_9, li_10, li_11, li_12, li_16, li_19, li_20, li_28, li_48, li_57, li_59, li_60, li_96, li_97, li_99, li_100, li_102, li_103, li_104, li_112, li_115, li_116, li_118, li_119, li_121, li_124, li_132, li_255, li_256, li_1000, li_2000, li_1000000000, iI_add, iI_sub, iI_mul, iI_neg, iI_lt, iI_le, iI_eq, iI_clamp, iI_s, iI_m1, iI_div, bs, tn, tn4, tn12, tn20, tn124, tn28, itT, itF, if_pos, if_neg]
    · have e2 : S.1 75 (28 + 12 * j + x) = iI (sG a j x) := hm _ (by omega)
      by_cases c2 : g x = iI (sG a j x)
      · rw [decide_eq_false (show ¬ (12 ≤ x ∨ g x ≠ iI (sG a j x)) from fun z => z.elim c (fun z => z c2))]
        simp (disch := omega) only [li_0, li_1, li_2, li_3, li_4, li_5, li_6, li_7, li_8, li_9, li_10, li_11, li_12, li_16, li_19, li_20, li_28, li_48, li_57, li_59, li_60, li_96, li_97, li_99, li_100, li_102, li_103, li_104, li_112, li_115, li_116, li_118, li_119, li_121, li_124, li_132, li_255, li_256, li_1000, li_2000, li_1000000000, iI_add, iI_sub, iI_mul, iI_neg, iI_lt, iI_le, iI_eq, iI_clamp, iI_s, iI_m1, iI_div, bs, tn, tn4, tn12, tn20, tn124, tn28, itT, itF, if_pos, if_neg, rAt, e2, e3, c2, i1, Bool.false_eq_true]
      · rw [decide_eq_true (show 12 ≤ x ∨ g x ≠ iI (sG a j x) from Or.inr c2)]
        have c3 : ¬ iI (sG a j x) = g x := fun z => c2 z.symm
        simp (disch := omega) only [li_0, li_1, li_2, li_3, li_4, li_5, li_6, li_7, li_8, li_9, li_10, li_11, li_12, li_16, li_19, li_20, li_28, li_48, li_57, li_59, li_60, li_96, li_97, li_99, li_100, li_102, li_103, li_104, li_112, li_115, li_116, li_118, li_119, li_121, li_124, li_132, li_255, li_256, li_1000, li_2000, li_1000000000, iI_add, iI_sub, iI_mul, iI_neg, iI_lt, iI_le, iI_eq, iI_clamp, iI_s, iI_m1, iI_div, bs, tn, tn4, tn12, tn20, tn124, tn28, itT, itF, if_pos, if_neg, rAt, e2, e3, c3]
theorem e_judge {S : St} (hS : Inv S) (a1 : Int32) : ∃ (z1 : Int32 × St) (z2 : Int32 × St), f_X7_judge a1 S = some z1 ∧ f_X8_judge a1 z1.2 = some z2 ∧ z1.1 = z2.1 ∧ Inv z2.2 := by
  obtain ⟨⟨a, hw, hc, hm0⟩, -⟩ := id hS
  have hm : ∀ k, k < 132 → S.1 75 k = iI (a k) := hm0
  have h8 := hw.1
  have w1 := hw.2.1
  have w2 := hw.2.2.1
  have w3 := hw.2.2.2.1
  obtain ⟨now, hnow⟩ : ∃ n : Nat, a 1 = n := ⟨(a 1).toNat, by omega⟩
  obtain ⟨N, hN⟩ : ∃ n : Nat, a 0 = n := ⟨(a 0).toNat, by omega⟩
  have hn : now ≤ 11 := by omega
  have hN8 : N ≤ 8 := by omega
  have p1 : S.1 1 1 = iI now := by rw [hc.1 1 (by omega), hnow]
  have p0 : S.1 1 0 = iI N := by rw [hc.1 0 (by omega), hN]
  have m0 : S.1 75 0 = iI N := by rw [hm 0 (by omega), hN]
  have m1 : S.1 75 1 = iI now := by rw [hm 1 (by omega), hnow]
  obtain ⟨x, x1, x2, rfl⟩ := iI_any a1
  obtain ⟨_, _, ⟨n, t1, t2, t3, t4⟩, _⟩ := id hS
  have e1 := cLacks hc hw x1 x2
  by_cases c : 0 ≤ x ∧ x < a 0
  · obtain ⟨j, rfl⟩ : ∃ n : Nat, x = n := ⟨x.toNat, by omega⟩
    have ht := hc.t (j := j) (by omega) (by omega)
    have hwt := hw.t (j := j) (by omega)
    have e2 := cAt (S := S) (q := 1) (j := j) (by omega)
    have m0' : (up S 62 1 (iI 0)).1 75 0 = iI N := by simp (disch := omega) only [li_0, li_1, li_2, li_3, li_4, li_5, li_6, li_7, li_8, li_9, li_10, li_11, li_12, li_16, li_19, li_20, li_28, li_48, li_57, li_59, li_60, li_96, li_97, li_99, li_100, li_102, li_103, li_104, li_112, li_115, li_116, li_118, li_119, li_121, li_124, li_132, li_255, li_256, li_1000, li_2000, li_1000000000, iI_add, iI_sub, iI_mul, iI_neg, iI_lt, iI_le, iI_eq, iI_clamp, iI_s, iI_m1, iI_div, bs, tn, tn4, tn12, tn20, tn124, tn28, itT, itF, if_pos, if_neg, up_s, up_n, m0]
    have g1 := rThing m0' hN8 x1 x2
    have e3 : f_X2_firstNotGladOf_L2 2000 (1 + 1 + 2 + 2 * j) (iI 0) S (fun y => some y) (fun _ => some (iI (-9))) = _ := cJudgeL ht t1 t2 n 2000 0 (by omega) (by omega)
    have g3 : f_X8_judge_L26 2000 (iI j) (iI n) (iI 0) (up (up S 62 1 (iI 0)) 74 9 (iI 0)) (fun y => some (y, up (up S 62 1 (iI 0)) 74 9 (iI 0))) (fun _ => some (iI (-9), up (up S 62 1 (iI 0)) 74 9 (iI 0))) = _ := rJudgeL (S := up (up S 62 1 (iI 0)) 74 9 (iI 0)) (a := a) (j := j) ((hm0.ne (by omega)).ne (by omega)) (by omega) t1 (g := S.1 63) (fun x hx => by simp (disch := omega) only [up_n]; exact t4 x hx)
      n 2000 0 (by omega) (by omega)
    have i9 := hS.clear
    have t3' : (up S 62 1 (iI 0)).1 74 9 = iI n := by rw [up_ne (by omega)]; exact t3
    rcases sFst_b (fun x => decide (12 ≤ x ∨ S.1 63 x ≠ iI (sG a j x))) n 0 with b | b
    · rw [if_pos (by omega)] at e3 g3
      exact e_mk (v := iI (-9)) (S1 := up S 62 1 (iI 0)) (S2 := up (up S 62 1 (iI 0)) 74 9 (iI 0)) (by simp (disch := omega) only [li_0, li_1, li_2, li_3, li_4, li_5, li_6, li_7, li_8, li_9, li_10, li_11, li_12, li_16, li_19, li_20, li_28, li_48, li_57, li_59, li_60, li_96, li_97, li_99, li_100, li_102, li_103, li_104, li_112, li_115, li_116, li_118, li_119, li_121, li_124, li_132, li_255, li_256, li_1000, li_2000, li_1000000000, iI_add, iI_sub, iI_mul, iI_neg, iI_lt, iI_le, iI_eq, iI_clamp, iI_s, iI_m1, iI_div, bs, tn, tn4, tn12, tn20, tn124, tn28, itT, itF, if_pos, if_neg, f_X7_judge, f_X2_firstNotGladOf, e1, e2, e3]) (by simp (disch := omega) only [li_0, li_1, li_2, li_3, li_4, li_5, li_6, li_7, li_8, li_9, li_10, li_11, li_12, li_16, li_19, li_20, li_28, li_48, li_57, li_59, li_60, li_96, li_97, li_99, li_100, li_102, li_103, li_104, li_112, li_115, li_116, li_118, li_119, li_121, li_124, li_132, li_255, li_256, li_1000, li_2000, li_1000000000, iI_add, iI_sub, iI_mul, iI_neg, iI_lt, iI_le, iI_eq, iI_clamp, iI_s, iI_m1, iI_div, bs, tn, tn4, tn12, tn20, tn124, tn28, itT, itF, if_pos, if_neg, f_X8_judge, g1, t3', g3]) i9
    · rw [if_neg (by omega)] at e3 g3
      exact e_mk (v := iI (sFst (fun x => decide (12 ≤ x ∨ S.1 63 x ≠ iI (sG a j x))) n 0)) (S1 := up S 62 1 (iI 0)) (S2 := up (up S 62 1 (iI 0)) 74 9 (iI 0)) (by simp (disch := omega) only [li_0, li_1, li_2, li_3, li_4, li_5, li_6, li_7, li_8, li_9, li_10, li_11, li_12, li_16, li_19, li_20, li_28, li_48, li_57, li_59, li_60, li_96, li_97, li_99, li_100, li_102, li_103, li_104, li_112, li_115, li_116, li_118, li_119, li_121, li_124, li_132, li_255, li_256, li_1000, li_2000, li_1000000000, iI_add, iI_sub, iI_mul, iI_neg, iI_lt, iI_le, iI_eq, iI_clamp, iI_s, iI_m1, iI_div, bs, tn, tn4, tn12, tn20, tn124, tn28, itT, itF, if_pos, if_neg, f_X7_judge, f_X2_firstNotGladOf, e1, e2, e3]) (by simp (disch := omega) only [li_0, li_1, li_2, li_3, li_4, li_5, li_6, li_7, li_8, li_9, li_10, li_11, li_12, li_16, li_19, li_20, li_28, li_48, li_57, li_59, li_60, li_96, li_97, li_99, li_100, li_102, li_103, li_104, li_112, li_115, li_116, li_118, li_119, li_121, li_124, li_132, li_255, li_256, li_1000, li_2000, li_1000000000, iI_add, iI_sub, iI_mul, iI_neg, iI_lt, iI_le, iI_eq, iI_clamp, iI_s, iI_m1, iI_div, bs, tn, tn4, tn12, tn20, tn124, tn28, itT, itF, if_pos, if_neg, f_X8_judge, g1, t3', g3]) i9
  · exact e_no hS (-1) 1 (by omega) (by omega) (by simp (disch := omega) only [li_0, li_1, li_2, li_3, li_4, li_5, li_6, li_7, li_8, li_9, li_10, li_11, li_12, li_16, li_19, li_20, li_28, li_48, li_57, li_59, li_60, li_96, li_97, li_99, li_100, li_102, li_103, li_104, li_112, li_115, li_116, li_118, li_119, li_121, li_124, li_132, li_255, li_256, li_1000, li_2000, li_1000000000, iI_add, iI_sub, iI_mul, iI_neg, iI_lt, iI_le, iI_eq, iI_clamp, iI_s, iI_m1, iI_div, bs, tn, tn4, tn12, tn20, tn124, tn28, itT, itF, if_pos, if_neg, f_X7_judge, e1, bse]) (fun S1 q1 q2 => by
      have g1 := rThing (S := S1) (by rw [q1]; exact m0) hN8 x1 x2
      simp (disch := omega) only [li_0, li_1, li_2, li_3, li_4, li_5, li_6, li_7, li_8, li_9, li_10, li_11, li_12, li_16, li_19, li_20, li_28, li_48, li_57, li_59, li_60, li_96, li_97, li_99, li_100, li_102, li_103, li_104, li_112, li_115, li_116, li_118, li_119, li_121, li_124, li_132, li_255, li_256, li_1000, li_2000, li_1000000000, iI_add, iI_sub, iI_mul, iI_neg, iI_lt, iI_le, iI_eq, iI_clamp, iI_s, iI_m1, iI_div, bs, tn, tn4, tn12, tn20, tn124, tn28, itT, itF, if_pos, if_neg, f_X8_judge, g1, bse])
end
section
-- ===== halves turned =====
theorem nx_xor (a b : Nat) : nI a ^^^ nI b = nI (a ^^^ b) := by
  apply Int32.toBitVec_inj.1
  show BitVec.ofNat 32 a ^^^ BitVec.ofNat 32 b = BitVec.ofNat 32 (a ^^^ b)
  apply BitVec.eq_of_getLsbD_eq
  intro i hi
  simp [hi]
theorem w_shl : ∀ n, n < 31 → (nI 1 <<< (nI n &&& 31)) = nI (2 ^ n) := by decide +kernel
def fl (A : Int) (j : Nat) : Int := ((A.toNat ^^^ 2 ^ j : Nat) : Int)
theorem iI_flip {A : Int} {j : Nat} (h0 : 0 ≤ A) (hj : j < 31) : iI A ^^^ (iI 1 <<< (iI (j : Int) &&& 31)) = iI (fl A j) := by
  obtain ⟨n, rfl⟩ : ∃ n : Nat, A = n := ⟨A.toNat, by omega⟩
  have e1 : (iI 1 : Int32) = nI 1 := iI_nI 1
  rw [e1, iI_nI, iI_nI, w_shl j hj, nx_xor]
  exact (iI_nI _).symm
theorem fl_b {A : Int} {j : Nat} (h : 0 ≤ A ∧ A ≤ 255) (hj : j < 8) : 0 ≤ fl A j ∧ fl A j ≤ 255 := by
  have h1 : A.toNat < 2 ^ 8 := by omega
  have h2 : 2 ^ j < 2 ^ 8 := Nat.pow_lt_pow_right (by omega) hj
  have h3 := Nat.xor_lt_two_pow h1 h2
  unfold fl
  omega
theorem fl_bit (A : Int) (j l : Nat) : bitI (fl A j) l = (bitI A l ^^ decide (j = l)) := by
  unfold bitI fl
  rw [Int.toNat_natCast, Nat.testBit_xor, Nat.testBit_two_pow]
def flip2 (a : Nat → Int) (i j : Nat) : Nat → Int := st (st a (124 + i) (fl (a (124 + i)) j)) (124 + j) (fl (a (124 + j)) i)
theorem flip2_bit {a : Nat → Int} {i j : Nat} (hij : i ≠ j) (k l : Nat) : bitI (flip2 a i j (124 + k)) l = (bitI (a (124 + k)) l ^^ decide ((k = i ∧ l = j) ∨ (k = j ∧ l = i))) := by
  unfold flip2
  by_cases c1 : k = j
  · subst c1
    rw [st_s, fl_bit]
    congr 1
    exact decide_eq_decide.mpr ⟨fun h => Or.inr ⟨rfl, h.symm⟩, fun h => h.elim (fun z => absurd z.1.symm hij) (fun z => z.2.symm)⟩
  · rw [st_n (by omega)]
    by_cases c2 : k = i
    · subst c2
      rw [st_s, fl_bit]
      congr 1
      exact decide_eq_decide.mpr ⟨fun h => Or.inl ⟨rfl, h.symm⟩, fun h => h.elim (fun z => z.2.symm) (fun z => absurd z.1 c1)⟩
    · rw [st_n (by omega), decide_eq_false (by omega), Bool.xor_false]
theorem flip2_n {a : Nat → Int} {i j k : Nat} (hk : k < 124) : flip2 a i j k = a k := by
  unfold flip2
  rw [st_n (by omega), st_n (by omega)]
theorem bit_sym {a : Nat → Int} (hw : WFa a) {i j : Nat} (hi : i < 8) (hj : j < 8) : bitI (a (124 + i)) j = bitI (a (124 + j)) i := by
  have h := hw.2.2.2.2.2
  cases e1 : bitI (a (124 + i)) j with
  | true => exact ((h i j hi hj e1).1).symm
  | false =>
    cases e2 : bitI (a (124 + j)) i with
    | true => rw [(h j i hj hi e2).1] at e1; exact e1.symm
    | false => rfl
theorem WFa.turned {a : Nat → Int} (hw : WFa a) {i j : Nat} (hi : i < 8) (hj : j < 8) (hij : i ≠ j) (hi2 : (i : Int) < a 0) (hj2 : (j : Int) < a 0) : WFa (flip2 a i j) := by
  obtain ⟨h0, h1, h2, h3, h4, h5⟩ := id hw
  refine ⟨?_, ?_, ?_, ?_, fun k hk => ⟨?_, ?_, ?_, fun y hy => ?_, ?_⟩, fun k l hk hl hb => ?_⟩
  · rw [flip2_n (by omega)]; exact h0
  · rw [flip2_n (by omega)]; exact h1
  · rw [flip2_n (by omega)]; exact h2
  · rw [flip2_n (by omega)]; exact h3
  · rw [flip2_n (by omega)]; exact (h4 k hk).1
  · rw [flip2_n (by omega)]; exact (h4 k hk).2.1
  · rw [flip2_n (by omega)]; exact (h4 k hk).2.2.1
  · rw [flip2_n (by omega)]; exact (h4 k hk).2.2.2.1 y hy
  · unfold flip2
    by_cases c1 : k = j
    · subst c1
      rw [st_s]; exact fl_b (h4 k hk).2.2.2.2 hi
    · rw [st_n (by omega)]
      by_cases c2 : k = i
      · subst c2
        rw [st_s]; exact fl_b (h4 k hk).2.2.2.2 hj
      · rw [st_n (by omega)]; exact (h4 k hk).2.2.2.2
  · rw [flip2_bit hij] at hb
    rw [flip2_bit hij, flip2_n (by omega)]
    have hs := bit_sym hw hk hl
    by_cases c : (k = i ∧ l = j) ∨ (k = j ∧ l = i)
    · rw [decide_eq_true c] at hb
      rw [decide_eq_true (show (l = i ∧ k = j) ∨ (l = j ∧ k = i) by omega), ← hs]
      refine ⟨hb, ?_, ?_, ?_⟩
      · omega
      · omega
      · omega
    · rw [decide_eq_false c, Bool.xor_false] at hb
      rw [decide_eq_false (show ¬ ((l = i ∧ k = j) ∨ (l = j ∧ k = i)) by omega), Bool.xor_false]
      exact h5 k l hk hl hb
theorem cTurn {S : St} {q : Nat} {a : Nat → Int} (hc : RC S q a) (hw : WFa a) {i j : Nat} (hi : i < 8) (hj : j < 8) (hij : i ≠ j) (hi2 : (i : Int) < a 0) (hj2 : (j : Int) < a 0) :
    f_X3_turnHalves q (iI i) (iI j) S = some (iI 1, up (up S (q + 2) i (iI (fl (a (124 + i)) j))) (q + 2) j (iI (fl (a (124 + j)) i))) := by
  have h8 := hw.1
  have e1 := cLacksTwo hc hw (z := i) (y := j) (by omega) (by omega) (by omega) (by omega)
  have b1 := (hw.2.2.2.2.1 i hi).2.2.2.2
  have b2 := (hw.2.2.2.2.1 j hj).2.2.2.2
  have e2 := hc.2.1 i hi
  have e3 := hc.2.1 j hj
  have f1 := iI_flip (A := a (124 + i)) (j := j) b1.1 (by omega)
  have f2 := iI_flip (A := a (124 + j)) (j := i) b2.1 (by omega)
  simp (disch := omega) only [li_0, li_1, li_2, li_3, li_4, li_5, li_6, li_7, li_8, li_9, li_10, li_11, li_12, li_16, li_19, li_20, li_28, li_48, li_57, li_59, li_60, li_96, li_97, li_99, li_100, li_102, li_103, li_104, li_112, li_115, li_116, li_118, li_119, li_121, li_124, li_132, li_255, li_256, li_1000, li_2000, li_1000000000, iI_add, iI_sub, iI_mul, iI_neg, iI_lt, iI_le, iI_eq, iI_clamp, iI_s, iI_m1, iI_div, bs, tn, tn4, tn12, tn20, tn124, tn28, itT, itF, if_pos, if_neg, up_s, up_n, f_X3_turnHalves, e1, e2, e3, f1, f2]
theorem RC.turned {S : St} {q : Nat} {a : Nat → Int} (hc : RC S q a) {i j : Nat} (hi : i < 8) (hj : j < 8) : RC (up (up S (q + 2) i (iI (fl (a (124 + i)) j))) (q + 2) j (iI (fl (a (124 + j)) i))) q (flip2 a i j) := (hc.sth hi _).sth hj _
theorem rTurn {S : St} {a : Nat → Int} (hm : ∀ k, k < 132 → S.1 75 k = iI (a k)) (hw : WFa a) {i j : Nat} (hi : i < 8) (hj : j < 8) (hij : i ≠ j) :
    f_X8_turnsHalves (iI i) (iI j) S = some (up (up S 75 (124 + i) (iI (fl (a (124 + i)) j))) 75 (124 + j) (iI (fl (a (124 + j)) i))) := by
  have b1 := (hw.2.2.2.2.1 i hi).2.2.2.2
  have b2 := (hw.2.2.2.2.1 j hj).2.2.2.2
  have e2 := hm (124 + i) (by omega)
  have e3 := hm (124 + j) (by omega)
  have f1 := iI_flip (A := a (124 + i)) (j := j) b1.1 (by omega)
  have f2 := iI_flip (A := a (124 + j)) (j := i) b2.1 (by omega)
  simp (disch := omega) only [li_0, li_1, li_2, li_3, li_4, li_5, li_6, li_7, li_8, li_9, li_10, li_11, li_12, li_16, li_19, li_20, li_28, li_48, li_57, li_59, li_60, li_96, li_97, li_99, li_100, li_102, li_103, li_104, li_112, li_115, li_116, li_118, li_119, li_121, li_124, li_132, li_255, li_256, li_1000, li_2000, li_1000000000, iI_add, iI_sub, iI_mul, iI_neg, iI_lt, iI_le, iI_eq, iI_clamp, iI_s, iI_m1, iI_div, bs, tn, tn4, tn12, tn20, tn124, tn28, itT, itF, if_pos, if_neg, up_s, up_n, f_X8_turnsHalves, e2, e3, f1, f2]
theorem RM.turned {S : St} {r : Nat} {a : Nat → Int} (hm : RM S r a) (i j : Nat) : RM (up (up S r (124 + i) (iI (fl (a (124 + i)) j))) r (124 + j) (iI (fl (a (124 + j)) i))) r (flip2 a i j) := (hm.st _ _).st _ _
theorem e_pairs {S : St} (hS : Inv S) (a1 : Int32) (a2 : Int32) : ∃ (z1 : Int32 × St) (z2 : Int32 × St), f_X7_pairs a1 a2 S = some z1 ∧ f_X8_pairs a1 a2 z1.2 = some z2 ∧ z1.1 = z2.1 ∧ Inv z2.2 := by
  obtain ⟨⟨a, hw, hc, hm0⟩, -⟩ := id hS
  have hm : ∀ k, k < 132 → S.1 75 k = iI (a k) := hm0
  have h8 := hw.1
  have w1 := hw.2.1
  have w2 := hw.2.2.1
  have w3 := hw.2.2.2.1
  obtain ⟨now, hnow⟩ : ∃ n : Nat, a 1 = n := ⟨(a 1).toNat, by omega⟩
  obtain ⟨N, hN⟩ : ∃ n : Nat, a 0 = n := ⟨(a 0).toNat, by omega⟩
  have hn : now ≤ 11 := by omega
  have hN8 : N ≤ 8 := by omega
  have p1 : S.1 1 1 = iI now := by rw [hc.1 1 (by omega), hnow]
  have p0 : S.1 1 0 = iI N := by rw [hc.1 0 (by omega), hN]
  have m0 : S.1 75 0 = iI N := by rw [hm 0 (by omega), hN]
  have m1 : S.1 75 1 = iI now := by rw [hm 1 (by omega), hnow]
  obtain ⟨x, x1, x2, rfl⟩ := iI_any a1
  obtain ⟨y, y1, y2, rfl⟩ := iI_any a2
  have e1 := cLacksTwo hc hw x1 x2 y1 y2
  by_cases c : (0 ≤ x ∧ x < a 0) ∧ (0 ≤ y ∧ y < a 0) ∧ x ≠ y
  · obtain ⟨i, rfl⟩ : ∃ n : Nat, x = n := ⟨x.toNat, by omega⟩
    obtain ⟨j, rfl⟩ : ∃ n : Nat, y = n := ⟨y.toNat, by omega⟩
    have hw2 := hw.turned (i := i) (j := j) (by omega) (by omega) (by omega) (by omega) (by omega)
    have e3 := cTurn hc hw (i := i) (j := j) (by omega) (by omega) (by omega) (by omega) (by omega)
    have hc2 := hc.turned (i := i) (j := j) (by omega) (by omega)
    have e4 := cHalves hc2 hw2 (N := N) (by rw [flip2_n (by omega)]; exact hN) (i := i) (j := j) (by omega) (by omega) (by omega)
    obtain ⟨S1, hS1⟩ : ∃ S1, S1 = up (up S (1 + 2) i (iI (fl (a (124 + i)) j))) (1 + 2) j (iI (fl (a (124 + j)) i)) := ⟨_, rfl⟩
    have hmm : RM S1 75 a := by rw [hS1]; exact (hm0.ne (by omega)).ne (by omega)
    have m0' := hmm 0 (by omega)
    rw [hN] at m0'
    have g1 := rTwo m0' hN8 x1 x2 y1 y2
    have g3 := rTurn hmm hw (i := i) (j := j) (by omega) (by omega) (by omega)
    have hm2 := hmm.turned i j
    rw [← hS1] at e3 e4 hc2
    obtain ⟨S2, hS2⟩ : ∃ S2, S2 = up (up S1 75 (124 + i) (iI (fl (a (124 + i)) j))) 75 (124 + j) (iI (fl (a (124 + j)) i)) := ⟨_, rfl⟩
    rw [← hS2] at g3 hm2
    have b := (hw2.2.2.2.2.1 i (by omega)).2.2.2.2
    have g4 := hm2 (124 + i) (by omega)
    have g5 := iI_bit (A := flip2 a i j (124 + i)) (j := j) b.1 (by omega) (by omega)
    have g6 : (((flip2 a i j (124 + i)).toNat / 2 ^ j % 2 : Nat) : Int) = (hb (flip2 a i j) i j : Int) := rfl
    refine e_mk (v := iI (hb (flip2 a i j) i j)) (S1 := S1) (S2 := S2) ?_ (by simp (disch := omega) only [li_0, li_1, li_2, li_3, li_4, li_5, li_6, li_7, li_8, li_9, li_10, li_11, li_12, li_16, li_19, li_20, li_28, li_48, li_57, li_59, li_60, li_96, li_97, li_99, li_100, li_102, li_103, li_104, li_112, li_115, li_116, li_118, li_119, li_121, li_124, li_132, li_255, li_256, li_1000, li_2000, li_1000000000, iI_add, iI_sub, iI_mul, iI_neg, iI_lt, iI_le, iI_eq, iI_clamp, iI_s, iI_m1, iI_div, bs, tn, tn4, tn12, tn20, tn124, tn28, itT, itF, if_pos, if_neg, f_X8_pairs, g1, g3, g4, g5, g6]) ?_
    · rcases hb_le (flip2 a i j) i j with h | h
      · simp (disch := omega) only [li_0, li_1, li_2, li_3, li_4, li_5, li_6, li_7, li_8, li_9, li_10, li_11, li_12, li_16, li_19, li_20, li_28, li_48, li_57, li_59, li_60, li_96, li_97, li_99, li_100, li_102, li_103, li_104, li_112, li_115, li_116, li_118, li_119, li_121, li_124, li_132, li_255, li_256, li_1000, li_2000, li_1000000000, iI_add, iI_sub, iI_mul, iI_neg, iI_lt, iI_le, iI_eq, iI_clamp, iI_s, iI_m1, iI_div, bs, tn, tn4, tn12, tn20, tn124, tn28, itT, itF, if_pos, if_neg, f_X7_pairs, e1, e3, e4, h]
        rfl
      · simp (disch := omega) only [li_0, li_1, li_2, li_3, li_4, li_5, li_6, li_7, li_8, li_9, li_10, li_11, li_12, li_16, li_19, li_20, li_28, li_48, li_57, li_59, li_60, li_96, li_97, li_99, li_100, li_102, li_103, li_104, li_112, li_115, li_116, li_118, li_119, li_121, li_124, li_132, li_255, li_256, li_1000, li_2000, li_1000000000, iI_add, iI_sub, iI_mul, iI_neg, iI_lt, iI_le, iI_eq, iI_clamp, iI_s, iI_m1, iI_div, bs, tn, tn4, tn12, tn20, tn124, tn28, itT, itF, if_pos, if_neg, f_X7_pairs, e1, e3, e4, h]
        rfl
    · refine hS.shop ⟨flip2 a i j, hw2, ?_, hm2⟩ (fun i k h => ?_)
      · rw [hS2]; exact (hc2.ne (by omega)).ne (by omega)
      · unfold scr at h
        rw [hS2, hS1]
        simp (disch := omega) only [up_n]
  · exact e_no hS (-1) 1 (by omega) (by omega) (by simp (disch := omega) only [li_0, li_1, li_2, li_3, li_4, li_5, li_6, li_7, li_8, li_9, li_10, li_11, li_12, li_16, li_19, li_20, li_28, li_48, li_57, li_59, li_60, li_96, li_97, li_99, li_100, li_102, li_103, li_104, li_112, li_115, li_116, li_118, li_119, li_121, li_124, li_132, li_255, li_256, li_1000, li_2000, li_1000000000, iI_add, iI_sub, iI_mul, iI_neg, iI_lt, iI_le, iI_eq, iI_clamp, iI_s, iI_m1, iI_div, bs, tn, tn4, tn12, tn20, tn124, tn28, itT, itF, if_pos, if_neg, f_X7_pairs, e1, bse]) (fun S1 q1 q2 => by
      have g1 := rTwo (S := S1) (by rw [q1]; exact m0) hN8 x1 x2 y1 y2
      simp (disch := omega) only [li_0, li_1, li_2, li_3, li_4, li_5, li_6, li_7, li_8, li_9, li_10, li_11, li_12, li_16, li_19, li_20, li_28, li_48, li_57, li_59, li_60, li_96, li_97, li_99, li_100, li_102, li_103, li_104, li_112, li_115, li_116, li_118, li_119, li_121, li_124, li_132, li_255, li_256, li_1000, li_2000, li_1000000000, iI_add, iI_sub, iI_mul, iI_neg, iI_lt, iI_le, iI_eq, iI_clamp, iI_s, iI_m1, iI_div, bs, tn, tn4, tn12, tn20, tn124, tn28, itT, itF, if_pos, if_neg, f_X8_pairs, g1, bse])
-- ===== the image =====
theorem e_image {S : St} (hS : Inv S) : ∃ (z1 : Int32 × St) (z2 : Int32 × St), f_X7_image S = some z1 ∧ f_X8_image z1.2 = some z2 ∧ z1.1 = z2.1 ∧ Inv z2.2 := by
  obtain ⟨⟨a, hw, hc, hm0⟩, -⟩ := id hS
  have hm : ∀ k, k < 132 → S.1 75 k = iI (a k) := hm0
  have h8 := hw.1
  have w1 := hw.2.1
  have w2 := hw.2.2.1
  have w3 := hw.2.2.2.1
  obtain ⟨now, hnow⟩ : ∃ n : Nat, a 1 = n := ⟨(a 1).toNat, by omega⟩
  obtain ⟨N, hN⟩ : ∃ n : Nat, a 0 = n := ⟨(a 0).toNat, by omega⟩
  have hn : now ≤ 11 := by omega
  have hN8 : N ≤ 8 := by omega
  have p1 : S.1 1 1 = iI now := by rw [hc.1 1 (by omega), hnow]
  have p0 : S.1 1 0 = iI N := by rw [hc.1 0 (by omega), hN]
  have m0 : S.1 75 0 = iI N := by rw [hm 0 (by omega), hN]
  have m1 : S.1 75 1 = iI now := by rw [hm 1 (by omega), hnow]
  obtain ⟨S1, c1, c2, c3⟩ := cCopy (q0 := 20) (q1 := 1) (by omega) S
  obtain ⟨S2, d1, d2, d3⟩ := rLays (q0 := 75) (q1 := 77) (by omega) (up S1 0 11 (iI 1))
  have f1 : S1.1 1 1 = iI now := by rw [c2 _ _ (by omega)]; exact p1
  have f2 : S2.1 75 1 = iI now := by rw [d2 _ _ (by omega), up_ne (by omega), c2 _ _ (by omega)]; exact m1
  refine e_mk (v := iI now) (S1 := up S1 0 11 (iI 1)) (S2 := up S2 74 4 (iI 1)) (by simp (disch := omega) only [li_0, li_1, li_2, li_3, li_4, li_5, li_6, li_7, li_8, li_9, li_10, li_11, li_12, li_16, li_19, li_20, li_28, li_48, li_57, li_59, li_60, li_96, li_97, li_99, li_100, li_102, li_103, li_104, li_112, li_115, li_116, li_118, li_119, li_121, li_124, li_132, li_255, li_256, li_1000, li_2000, li_1000000000, iI_add, iI_sub, iI_mul, iI_neg, iI_lt, iI_le, iI_eq, iI_clamp, iI_s, iI_m1, iI_div, bs, tn, tn4, tn12, tn20, tn124, tn28, itT, itF, if_pos, if_neg, up_s, up_n, f_X7_image, c1, f1]) (by simp (disch := omega) only [li_0, li_1, li_2, li_3, li_4, li_5, li_6, li_7, li_8, li_9, li_10, li_11, li_12, li_16, li_19, li_20, li_28, li_48, li_57, li_59, li_60, li_96, li_97, li_99, li_100, li_102, li_103, li_104, li_112, li_115, li_116, li_118, li_119, li_121, li_124, li_132, li_255, li_256, li_1000, li_2000, li_1000000000, iI_add, iI_sub, iI_mul, iI_neg, iI_lt, iI_le, iI_eq, iI_clamp, iI_s, iI_m1, iI_div, bs, tn, tn4, tn12, tn20, tn124, tn28, itT, itF, if_pos, if_neg, up_s, up_n, f_X8_image, d1, f2]) ?_
  have hfr : ∀ i k, ¬ ((20 ≤ i ∧ i ≤ 38) ∨ i = 77 ∨ (i = 0 ∧ k = 11) ∨ (i = 74 ∧ k = 4)) → (up S2 74 4 (iI 1)).1 i k = S.1 i k := by
    intro i k h
    rw [up_n (by omega), d2 _ _ (by omega), up_n (by omega), c2 _ _ (by omega)]
  obtain ⟨hB, hT, hR, hn', hi, hi2⟩ := hS
  refine ⟨hB.fr (fun i k h => hfr i k (by omega)), hT.fr (fun i k h => hfr i k (by omega)), hR.fr (fun i k h => hfr i k (by omega)), fun k hk => ?_, ?_, Or.inr ⟨?_, a, hw, ?_, fun k hk => ?_⟩⟩
  · rw [hfr _ _ (by omega), hfr _ _ (by omega)]; exact hn' k hk
  · rw [up_n (by omega), d2 _ _ (by omega), up_s, up_s]
  · rw [up_n (by omega), d2 _ _ (by omega), up_s]; rfl
  · have h := c3 a hc
    have h2 : RC (up S1 0 11 (iI 1)) 20 a := h.ne (by omega)
    refine RC.ne ⟨fun k hk => ?_, fun j hj => ?_, fun j hj hl => ⟨?_, ?_, ?_, fun y hy => ?_⟩⟩ (by omega)
    · rw [d2 _ _ (by omega)]; exact h2.1 k hk
    · rw [d2 _ _ (by omega)]; exact h2.2.1 j hj
    · rw [d2 _ _ (by omega)]; exact (h2.2.2 j hj hl).1
    · rw [d2 _ _ (by omega)]; exact (h2.2.2 j hj hl).2.1
    · rw [d2 _ _ (by omega)]; exact (h2.2.2 j hj hl).2.2.1
    · rw [d2 _ _ (by omega)]; exact (h2.2.2 j hj hl).2.2.2 y hy
  · rw [up_n (by omega), d3 k hk, up_ne (by omega), c2 _ _ (by omega)]; exact hm k hk
theorem e_on {S : St} (hS : Inv S) : ∃ (z1 : Int32 × St) (z2 : Int32 × St), f_X7_on S = some z1 ∧ f_X8_on z1.2 = some z2 ∧ z1.1 = z2.1 ∧ Inv z2.2 := by
  obtain ⟨hB, hT, hR, hn', hi, hi2⟩ := id hS
  rcases hi2 with h0 | ⟨h1, b, hb, hbc, hbm⟩
  · exact e_no hS (-3) 3 (by omega) (by omega) (by simp (disch := omega) only [li_0, li_1, li_2, li_3, li_4, li_5, li_6, li_7, li_8, li_9, li_10, li_11, li_12, li_16, li_19, li_20, li_28, li_48, li_57, li_59, li_60, li_96, li_97, li_99, li_100, li_102, li_103, li_104, li_112, li_115, li_116, li_118, li_119, li_121, li_124, li_132, li_255, li_256, li_1000, li_2000, li_1000000000, iI_add, iI_sub, iI_mul, iI_neg, iI_lt, iI_le, iI_eq, iI_clamp, iI_s, iI_m1, iI_div, bs, tn, tn4, tn12, tn20, tn124, tn28, itT, itF, if_pos, if_neg, f_X7_on, h0, bse]) (fun S1 q1 q2 => by
      have e : S1.1 74 4 = 0 := by rw [q2, ← hi]; exact h0
      simp (disch := omega) only [li_0, li_1, li_2, li_3, li_4, li_5, li_6, li_7, li_8, li_9, li_10, li_11, li_12, li_16, li_19, li_20, li_28, li_48, li_57, li_59, li_60, li_96, li_97, li_99, li_100, li_102, li_103, li_104, li_112, li_115, li_116, li_118, li_119, li_121, li_124, li_132, li_255, li_256, li_1000, li_2000, li_1000000000, iI_add, iI_sub, iI_mul, iI_neg, iI_lt, iI_le, iI_eq, iI_clamp, iI_s, iI_m1, iI_div, bs, tn, tn4, tn12, tn20, tn124, tn28, itT, itF, if_pos, if_neg, f_X8_on, e, bse])
  · have w1 := hb.2.1
    obtain ⟨S1, c1, c2, c3⟩ := cCopy (q0 := 1) (q1 := 20) (by omega) S
    obtain ⟨S2, d1, d2, d3⟩ := rLays (q0 := 77) (q1 := 75) (by omega) S1
    have hc := c3 b hbc
    have f1 : S1.1 1 1 = iI (b 1) := hc.1 1 (by omega)
    have f2 : S2.1 75 1 = iI (b 1) := by rw [d3 _ (by omega), c2 _ _ (by omega)]; exact hbm 1 (by omega)
    have f3 : S1.1 74 4 = 1 := by rw [c2 _ _ (by omega), ← hi]; exact h1
    refine e_mk (v := iI (b 1)) (S1 := S1) (S2 := S2) (by simp (disch := omega) only [li_0, li_1, li_2, li_3, li_4, li_5, li_6, li_7, li_8, li_9, li_10, li_11, li_12, li_16, li_19, li_20, li_28, li_48, li_57, li_59, li_60, li_96, li_97, li_99, li_100, li_102, li_103, li_104, li_112, li_115, li_116, li_118, li_119, li_121, li_124, li_132, li_255, li_256, li_1000, li_2000, li_1000000000, iI_add, iI_sub, iI_mul, iI_neg, iI_lt, iI_le, iI_eq, iI_clamp, iI_s, iI_m1, iI_div, bs, tn, tn4, tn12, tn20, tn124, tn28, itT, itF, if_pos, if_neg, f_X7_on, h1, c1, f1]) (by simp (disch := omega) only [li_0, li_1, li_2, li_3, li_4, li_5, li_6, li_7, li_8, li_9, li_10, li_11, li_12, li_16, li_19, li_20, li_28, li_48, li_57, li_59, li_60, li_96, li_97, li_99, li_100, li_102, li_103, li_104, li_112, li_115, li_116, li_118, li_119, li_121, li_124, li_132, li_255, li_256, li_1000, li_2000, li_1000000000, iI_add, iI_sub, iI_mul, iI_neg, iI_lt, iI_le, iI_eq, iI_clamp, iI_s, iI_m1, iI_div, bs, tn, tn4, tn12, tn20, tn124, tn28, itT, itF, if_pos, if_neg, f_X8_on, f3, d1, f2]) ?_
    refine hS.shop ⟨b, hb, ?_, fun k hk => ?_⟩ (fun i k h => ?_)
    · refine ⟨fun k hk => ?_, fun j hj => ?_, fun j hj hl => ⟨?_, ?_, ?_, fun y hy => ?_⟩⟩
      · rw [d2 _ _ (by omega)]; exact hc.1 k hk
      · rw [d2 _ _ (by omega)]; exact hc.2.1 j hj
      · rw [d2 _ _ (by omega)]; exact (hc.2.2 j hj hl).1
      · rw [d2 _ _ (by omega)]; exact (hc.2.2 j hj hl).2.1
      · rw [d2 _ _ (by omega)]; exact (hc.2.2 j hj hl).2.2.1
      · rw [d2 _ _ (by omega)]; exact (hc.2.2 j hj hl).2.2.2 y hy
    · rw [d3 k hk, c2 _ _ (by omega)]; exact hbm k hk
    · rw [d2 _ _ (by omega), c2 _ _ (by omega)]
end
section
-- ===== sums over pairs =====
def in2 (f : Nat → Nat → Int) (i x : Nat) : Int := sSum (fun j => if i < j then f i j else 0) x
def out2 (f : Nat → Nat → Int) (N x : Nat) : Int := sSum (fun i => in2 f i N) x
theorem in2_0 (f : Nat → Nat → Int) (i : Nat) : ∀ x, x ≤ i + 1 → in2 f i x = 0 := by
  intro x
  induction x with
  | zero => intro _; rfl
  | succ x ih =>
    intro h
    show sSum _ x + (if i < x then f i x else 0) = 0
    rw [if_neg (by omega)]
    have := ih (by omega)
    unfold in2 at this
    omega
theorem in2_s (f : Nat → Nat → Int) {i x : Nat} (h : i < x) : in2 f i (x + 1) = in2 f i x + f i x := by
  show sSum _ x + (if i < x then f i x else 0) = _
  rw [if_pos h]
  rfl
def sAgr (a : Nat → Int) (i j : Nat) : Prop := 0 ≤ a (20 + i) ∧ a (20 + i) = a (20 + j)
def fAgr (a : Nat → Int) (i j : Nat) : Int := if hb a i j = 1 ∧ (0 ≤ a (20 + i) ∧ a (20 + i) = a (20 + j)) then 1 else 0
def sPart (a : Nat → Int) (i : Nat) (d x : Nat) : Int := sFst (fun j => decide (hb a i j = 1 ∧ ¬ (0 ≤ a (20 + i) ∧ a (20 + i) = a (20 + j)))) d x
def sFA (a : Nat → Int) : Nat → Nat → Int
  | 0, _ => -9
  | d + 1, x => if sPart a x d (x + 1) < 0 then sFA a d (x + 1) else 10 * (x : Int) + sPart a x d (x + 1)
theorem iI_or0 (x : Int32) : x ||| iI 0 = x := Int32.or_zero
-- ===== the class' pairs =====
section CP1
variable {S : St} {q : Nat} {a : Nat → Int} {N : Nat}
theorem cSame (hc : RC S q a) (hw : WFa a) (hN : a 0 = N) {i j : Nat} (hi : i < N) (hj : j < N) : f_X3_setInOneYear q (iI i) (iI j) S = some (iI (if 0 ≤ a (20 + i) ∧ a (20 + i) = a (20 + j) then 1 else 0)) := by
  have h8 := hw.1
  have t1 := hc.t (j := i) (by omega) (by omega)
  have t2 := hc.t (j := j) (by omega) (by omega)
  have w1 := hw.t (j := i) (by omega)
  have w2 := hw.t (j := j) (by omega)
  have k1 := w1.2.2.1
  have k2 := w2.2.2.1
  have e1 := cAt (S := S) (q := q) (j := i) (by omega)
  have e2 := cAt (S := S) (q := q) (j := j) (by omega)
  have e3 := cSet t1 w1
  have e4 := t1.2.2.1
  have e5 := t2.2.2.1
  by_cases c1 : a (20 + i) < 0
  · simp (disch := omega) only [li_0, li_1, li_2, li_3, li_4, li_5, li_6, li_7, li_8, li_9, li_10, li_11, li_12, li_16, li_19, li_20, li_28, li_48, li_57, li_59, li_60, li_96, li_97, li_99, li_100, li_102, li_103, li_104, li_112, li_115, li_116, li_118, li_119, li_121, li_124, li_132, li_255, li_256, li_1000, li_2000, li_1000000000, iI_add, iI_sub, iI_mul, iI_neg, iI_lt, iI_le, iI_eq, iI_clamp, iI_s, iI_m1, iI_div, bs, tn, tn4, tn12, tn20, tn124, tn28, itT, itF, if_pos, if_neg, f_X3_setInOneYear, e1, e2, e3]
  · by_cases c2 : a (20 + i) = a (20 + j)
    · simp (disch := omega) only [li_0, li_1, li_2, li_3, li_4, li_5, li_6, li_7, li_8, li_9, li_10, li_11, li_12, li_16, li_19, li_20, li_28, li_48, li_57, li_59, li_60, li_96, li_97, li_99, li_100, li_102, li_103, li_104, li_112, li_115, li_116, li_118, li_119, li_121, li_124, li_132, li_255, li_256, li_1000, li_2000, li_1000000000, iI_add, iI_sub, iI_mul, iI_neg, iI_lt, iI_le, iI_eq, iI_clamp, iI_s, iI_m1, iI_div, bs, tn, tn4, tn12, tn20, tn124, tn28, itT, itF, if_pos, if_neg, f_X3_setInOneYear, e1, e2, e3, e4, e5]
    · simp (disch := omega) only [li_0, li_1, li_2, li_3, li_4, li_5, li_6, li_7, li_8, li_9, li_10, li_11, li_12, li_16, li_19, li_20, li_28, li_48, li_57, li_59, li_60, li_96, li_97, li_99, li_100, li_102, li_103, li_104, li_112, li_115, li_116, li_118, li_119, li_121, li_124, li_132, li_255, li_256, li_1000, li_2000, li_1000000000, iI_add, iI_sub, iI_mul, iI_neg, iI_lt, iI_le, iI_eq, iI_clamp, iI_s, iI_m1, iI_div, bs, tn, tn4, tn12, tn20, tn124, tn28, itT, itF, if_pos, if_neg, f_X3_setInOneYear, e1, e2, e3, e4, e5]
theorem cAgrI (hc : RC S q a) (hw : WFa a) (hN : a 0 = N) {i : Nat} {k : Int32 → Option Int32} (A : Int) :
    ∀ d n x : Nat, x + d = N → d < n → i < x → f_X3_countAgreeing_L16 n q (iI (A + in2 (fAgr a) i x)) (iI i) (iI x) S k = k (iI (A + in2 (fAgr a) i N)) := by
  have h8 := hw.1
  have e0 : S.1 q 0 = iI N := by rw [hc.1 0 (by omega), hN]
  intro d
  induction d with
  | zero =>
    intro n x hx hd hi
    obtain ⟨n, rfl⟩ : ∃ p, n = p + 1 := ⟨n - 1, by omega⟩
    obtain rfl : x = N := by omega
    rw [f_X3_countAgreeing_L16]
    simp (disch := omega) only [li_0, li_1, li_2, li_3, li_4, li_5, li_6, li_7, li_8, li_9, li_10, li_11, li_12, li_16, li_19, li_20, li_28, li_48, li_57, li_59, li_60, li_96, li_97, li_99, li_100, li_102, li_103, li_104, li_112, li_115, li_116, li_118, li_119, li_121, li_124, li_132, li_255, li_256, li_1000, li_2000, li_1000000000, iI_add, iI_sub, iI_mul, iI_neg, iI_lt, iI_le, iI_eq, iI_clamp, iI_s, iI_m1, iI_div, bs, tn, tn4, tn12, tn20, tn124, tn28, itT, itF, if_pos, if_neg, e0]
  | succ d ih =>
    intro n x hx hd hi
    obtain ⟨n, rfl⟩ : ∃ p, n = p + 1 := ⟨n - 1, by omega⟩
    have i1 := ih n (x + 1) (by omega) (by omega) (by omega)
    have e1 := cHalves hc hw hN (i := i) (j := x) (by omega) (by omega) (by omega)
    have e2 := cSame hc hw hN (i := i) (j := x) (by omega) (by omega)
    rw [in2_s _ hi, ← Int.add_assoc] at i1
    rw [f_X3_countAgreeing_L16]
    by_cases c1 : hb a i x = 1
    · by_cases c2 : 0 ≤ a (20 + i) ∧ a (20 + i) = a (20 + x)
      · rw [show fAgr a i x = 1 from if_pos ⟨c1, c2⟩] at i1
        simp (disch := omega) only [li_0, li_1, li_2, li_3, li_4, li_5, li_6, li_7, li_8, li_9, li_10, li_11, li_12, li_16, li_19, li_20, li_28, li_48, li_57, li_59, li_60, li_96, li_97, li_99, li_100, li_102, li_103, li_104, li_112, li_115, li_116, li_118, li_119, li_121, li_124, li_132, li_255, li_256, li_1000, li_2000, li_1000000000, iI_add, iI_sub, iI_mul, iI_neg, iI_lt, iI_le, iI_eq, iI_clamp, iI_s, iI_m1, iI_div, bs, tn, tn4, tn12, tn20, tn124, tn28, itT, itF, if_pos, if_neg, e0, e1, e2, i1]
      · rw [show fAgr a i x = 0 from if_neg (fun z => c2 z.2)] at i1
        simp (disch := omega) only [li_0, li_1, li_2, li_3, li_4, li_5, li_6, li_7, li_8, li_9, li_10, li_11, li_12, li_16, li_19, li_20, li_28, li_48, li_57, li_59, li_60, li_96, li_97, li_99, li_100, li_102, li_103, li_104, li_112, li_115, li_116, li_118, li_119, li_121, li_124, li_132, li_255, li_256, li_1000, li_2000, li_1000000000, iI_add, iI_sub, iI_mul, iI_neg, iI_lt, iI_le, iI_eq, iI_clamp, iI_s, iI_m1, iI_div, bs, tn, tn4, tn12, tn20, tn124, tn28, itT, itF, if_pos, if_neg, e0, e1, e2, i1]
    · rw [show fAgr a i x = 0 from if_neg (fun z => c1 z.1)] at i1
      have c3 := hb_le a i x
      simp (disch := omega) only [li_0, li_1, li_2, li_3, li_4, li_5, li_6, li_7, li_8, li_9, li_10, li_11, li_12, li_16, li_19, li_20, li_28, li_48, li_57, li_59, li_60, li_96, li_97, li_99, li_100, li_102, li_103, li_104, li_112, li_115, li_116, li_118, li_119, li_121, li_124, li_132, li_255, li_256, li_1000, li_2000, li_1000000000, iI_add, iI_sub, iI_mul, iI_neg, iI_lt, iI_le, iI_eq, iI_clamp, iI_s, iI_m1, iI_div, bs, tn, tn4, tn12, tn20, tn124, tn28, itT, itF, if_pos, if_neg, e0, e1, e2, i1]
theorem cAgrL (hc : RC S q a) (hw : WFa a) (hN : a 0 = N) {k : Int32 → Option Int32} :
    ∀ d n x : Nat, x + d = N → d < n → f_X3_countAgreeing_L4 n q (iI (out2 (fAgr a) N x)) (iI x) S k = k (iI (out2 (fAgr a) N N)) := by
  have h8 := hw.1
  have e0 : S.1 q 0 = iI N := by rw [hc.1 0 (by omega), hN]
  intro d
  induction d with
  | zero =>
    intro n x hx hd
    obtain ⟨n, rfl⟩ : ∃ p, n = p + 1 := ⟨n - 1, by omega⟩
    obtain rfl : x = N := by omega
    rw [f_X3_countAgreeing_L4]
    simp (disch := omega) only [li_0, li_1, li_2, li_3, li_4, li_5, li_6, li_7, li_8, li_9, li_10, li_11, li_12, li_16, li_19, li_20, li_28, li_48, li_57, li_59, li_60, li_96, li_97, li_99, li_100, li_102, li_103, li_104, li_112, li_115, li_116, li_118, li_119, li_121, li_124, li_132, li_255, li_256, li_1000, li_2000, li_1000000000, iI_add, iI_sub, iI_mul, iI_neg, iI_lt, iI_le, iI_eq, iI_clamp, iI_s, iI_m1, iI_div, bs, tn, tn4, tn12, tn20, tn124, tn28, itT, itF, if_pos, if_neg, e0]
  | succ d ih =>
    intro n x hx hd
    obtain ⟨n, rfl⟩ : ∃ p, n = p + 1 := ⟨n - 1, by omega⟩
    have i1 := ih n (x + 1) (by omega) (by omega)
    have e1 := cAgrI hc hw hN (i := x) (k := fun y => f_X3_countAgreeing_L4 n q y (iI ((x + 1 : Nat) : Int)) S k) (out2 (fAgr a) N x) d 2000 (x + 1) (by omega) (by omega) (by omega)
    rw [in2_0 _ _ _ (by omega), Int.add_zero] at e1
    rw [show out2 (fAgr a) N (x + 1) = out2 (fAgr a) N x + in2 (fAgr a) x N from rfl] at i1
    rw [f_X3_countAgreeing_L4]
    simp (disch := omega) only [li_0, li_1, li_2, li_3, li_4, li_5, li_6, li_7, li_8, li_9, li_10, li_11, li_12, li_16, li_19, li_20, li_28, li_48, li_57, li_59, li_60, li_96, li_97, li_99, li_100, li_102, li_103, li_104, li_112, li_115, li_116, li_118, li_119, li_121, li_124, li_132, li_255, li_256, li_1000, li_2000, li_1000000000, iI_add, iI_sub, iI_mul, iI_neg, iI_lt, iI_le, iI_eq, iI_clamp, iI_s, iI_m1, iI_div, bs, tn, tn4, tn12, tn20, tn124, tn28, itT, itF, if_pos, if_neg, e0]
    rw [e1]
    exact i1
theorem cAgr (hc : RC S q a) (hw : WFa a) (hN : a 0 = N) : f_X3_countAgreeing q S = some (iI (out2 (fAgr a) N N)) := by
  have h8 := hw.1
  have i := cAgrL hc hw hN (k := fun y => some y) N 2000 0 (by omega) (by omega)
  rw [f_X3_countAgreeing]
  exact i
theorem cHalfI (hc : RC S q a) (hw : WFa a) (hN : a 0 = N) {i : Nat} {k : Int32 → Option Int32} (A : Int) :
    ∀ d n x : Nat, x + d = N → d < n → i < x → f_X3_countHalves_L16 n q (iI (A + in2 (fun i j => (hb a i j : Int)) i x)) (iI i) (iI x) S k = k (iI (A + in2 (fun i j => (hb a i j : Int)) i N)) := by
  have h8 := hw.1
  have e0 : S.1 q 0 = iI N := by rw [hc.1 0 (by omega), hN]
  intro d
  induction d with
  | zero =>
    intro n x hx hd hi
    obtain ⟨n, rfl⟩ : ∃ p, n = p + 1 := ⟨n - 1, by omega⟩
    obtain rfl : x = N := by omega
    rw [f_X3_countHalves_L16]
    simp (disch := omega) only [li_0, li_1, li_2, li_3, li_4, li_5, li_6, li_7, li_8, li_9, li_10, li_11, li_12, li_16, li_19, li_20, li_28, li_48, li_57, li_59, li_60, li_96, li_97, li_99, li_100, li_102, li_103, li_104, li_112, li_115, li_116, li_118, li_119, li_121, li_124, li_132, li_255, li_256, li_1000, li_2000, li_1000000000, iI_add, iI_sub, iI_mul, iI_neg, iI_lt, iI_le, iI_eq, iI_clamp, iI_s, iI_m1, iI_div, bs, tn, tn4, tn12, tn20, tn124, tn28, itT, itF, if_pos, if_neg, e0]
  | succ d ih =>
    intro n x hx hd hi
    obtain ⟨n, rfl⟩ : ∃ p, n = p + 1 := ⟨n - 1, by omega⟩
    have i1 := ih n (x + 1) (by omega) (by omega) (by omega)
    have e1 := cHalves hc hw hN (i := i) (j := x) (by omega) (by omega) (by omega)
    rw [in2_s _ hi, ← Int.add_assoc] at i1
    rw [f_X3_countHalves_L16]
    rcases hb_le a i x with c | c
    · rw [show ((hb a i x : Nat) : Int) = 0 by rw [c]; rfl] at i1 e1
      simp (disch := omega) only [li_0, li_1, li_2, li_3, li_4, li_5, li_6, li_7, li_8, li_9, li_10, li_11, li_12, li_16, li_19, li_20, li_28, li_48, li_57, li_59, li_60, li_96, li_97, li_99, li_100, li_102, li_103, li_104, li_112, li_115, li_116, li_118, li_119, li_121, li_124, li_132, li_255, li_256, li_1000, li_2000, li_1000000000, iI_add, iI_sub, iI_mul, iI_neg, iI_lt, iI_le, iI_eq, iI_clamp, iI_s, iI_m1, iI_div, bs, tn, tn4, tn12, tn20, tn124, tn28, itT, itF, if_pos, if_neg, e0, e1, i1]
    · rw [show ((hb a i x : Nat) : Int) = 1 by rw [c]; rfl] at i1 e1
      simp (disch := omega) only [li_0, li_1, li_2, li_3, li_4, li_5, li_6, li_7, li_8, li_9, li_10, li_11, li_12, li_16, li_19, li_20, li_28, li_48, li_57, li_59, li_60, li_96, li_97, li_99, li_100, li_102, li_103, li_104, li_112, li_115, li_116, li_118, li_119, li_121, li_124, li_132, li_255, li_256, li_1000, li_2000, li_1000000000, iI_add, iI_sub, iI_mul, iI_neg, iI_lt, iI_le, iI_eq, iI_clamp, iI_s, iI_m1, iI_div, bs, tn, tn4, tn12, tn20, tn124, tn28, itT, itF, if_pos, if_neg, e0, e1, i1]
theorem cHalfL (hc : RC S q a) (hw : WFa a) (hN : a 0 = N) {k : Int32 → Option Int32} :
    ∀ d n x : Nat, x + d = N → d < n → f_X3_countHalves_L4 n q (iI (out2 (fun i j => (hb a i j : Int)) N x)) (iI x) S k = k (iI (out2 (fun i j => (hb a i j : Int)) N N)) := by
  have h8 := hw.1
  have e0 : S.1 q 0 = iI N := by rw [hc.1 0 (by omega), hN]
  intro d
  induction d with
  | zero =>
    intro n x hx hd
    obtain ⟨n, rfl⟩ : ∃ p, n = p + 1 := ⟨n - 1, by omega⟩
    obtain rfl : x = N := by omega
    rw [f_X3_countHalves_L4]
    simp (disch := omega) only [li_0, li_1, li_2, li_3, li_4, li_5, li_6, li_7, li_8, li_9, li_10, li_11, li_12, li_16, li_19, li_20, li_28, li_48, li_57, li_59, li_60, li_96, li_97, li_99, li_100, li_102, li_103, li_104, li_112, li_115, li_116, li_118, li_119, li_121, li_124, li_132, li_255, li_256, li_1000, li_2000, li_1000000000, iI_add, iI_sub, iI_mul, iI_neg, iI_lt, iI_le, iI_eq, iI_clamp, iI_s, iI_m1, iI_div, bs, tn, tn4, tn12, tn20, tn124, tn28, itT, itF, if_pos, if_neg, e0]
  | succ d ih =>
    intro n x hx hd
    obtain ⟨n, rfl⟩ : ∃ p, n = p + 1 := ⟨n - 1, by omega⟩
    have i1 := ih n (x + 1) (by omega) (by omega)
    have e1 := cHalfI hc hw hN (i := x) (k := fun y => f_X3_countHalves_L4 n q y (iI ((x + 1 : Nat) : Int)) S k) (out2 (fun i j => (hb a i j : Int)) N x) d 2000 (x + 1) (by omega) (by omega) (by omega)
    rw [in2_0 _ _ _ (by omega), Int.add_zero] at e1
    rw [show out2 (fun i j => (hb a i j : Int)) N (x + 1) = out2 (fun i j => (hb a i j : Int)) N x + in2 (fun i j => (hb a i j : Int)) x N from rfl] at i1
    rw [f_X3_countHalves_L4]
    simp (disch := omega) only [li_0, li_1, li_2, li_3, li_4, li_5, li_6, li_7, li_8, li_9, li_10, li_11, li_12, li_16, li_19, li_20, li_28, li_48, li_57, li_59, li_60, li_96, li_97, li_99, li_100, li_102, li_103, li_104, li_112, li_115, li_116, li_118, li_119, li_121, li_124, li_132, li_255, li_256, li_1000, li_2000, li_1000000000, iI_add, iI_sub, iI_mul, iI_neg, iI_lt, iI_le, iI_eq, iI_clamp, iI_s, iI_m1, iI_div, bs, tn, tn4, tn12, tn20, tn124, tn28, itT, itF, if_pos, if_neg, e0]
    rw [e1]
    exact i1
theorem cHalf (hc : RC S q a) (hw : WFa a) (hN : a 0 = N) : f_X3_countHalves q S = some (iI (out2 (fun i j => (hb a i j : Int)) N N)) := by
  have h8 := hw.1
  have i := cHalfL hc hw hN (k := fun y => some y) N 2000 0 (by omega) (by omega)
  rw [f_X3_countHalves]
  exact i
theorem cPartL (hc : RC S q a) (hw : WFa a) (hN : a 0 = N) {i : Nat} {k : Int32 → Option Int32} {k9 : Unit → Option Int32} :
    ∀ d n x : Nat, x + d = N → d < n → i < x → f_X3_firstApart_L14 n q (iI i) (iI x) S k k9 = if sPart a i d x < 0 then k9 () else k (iI (sPart a i d x)) := by
  have h8 := hw.1
  have e0 : S.1 q 0 = iI N := by rw [hc.1 0 (by omega), hN]
  intro d
  induction d with
  | zero =>
    intro n x hx hd hi
    obtain ⟨n, rfl⟩ : ∃ p, n = p + 1 := ⟨n - 1, by omega⟩
    rw [f_X3_firstApart_L14, sPart, sFst]
    simp (disch := omega) only [li_0, li_1, li_2, li_3, li_4, li_5, li_6, li_7, li_8, li_9, li_10, li_11, li_12, li_16, li_19, li_20, li_28, li_48, li_57, li_59, li_60, li_96, li_97, li_99, li_100, li_102, li_103, li_104, li_112, li_115, li_116, li_118, li_119, li_121, li_124, li_132, li_255, li_256, li_1000, li_2000, li_1000000000, iI_add, iI_sub, iI_mul, iI_neg, iI_lt, iI_le, iI_eq, iI_clamp, iI_s, iI_m1, iI_div, bs, tn, tn4, tn12, tn20, tn124, tn28, itT, itF, if_pos, if_neg, e0]
  | succ d ih =>
    intro n x hx hd hi
    obtain ⟨n, rfl⟩ : ∃ p, n = p + 1 := ⟨n - 1, by omega⟩
    have i1 := ih n (x + 1) (by omega) (by omega) (by omega)
    have e1 := cHalves hc hw hN (i := i) (j := x) (by omega) (by omega) (by omega)
    have e2 := cSame hc hw hN (i := i) (j := x) (by omega) (by omega)
    have e3 : sPart a i (d + 1) x = if decide (hb a i x = 1 ∧ ¬ (0 ≤ a (20 + i) ∧ a (20 + i) = a (20 + x))) = true then (x : Int) else sPart a i d (x + 1) := rfl
    rw [f_X3_firstApart_L14, e3]
    by_cases c1 : hb a i x = 1
    · by_cases c2 : 0 ≤ a (20 + i) ∧ a (20 + i) = a (20 + x)
      · simp (disch := omega) only [li_0, li_1, li_2, li_3, li_4, li_5, li_6, li_7, li_8, li_9, li_10, li_11, li_12, li_16, li_19, li_20, li_28, li_48, li_57, li_59, li_60, li_96, li_97, li_99, li_100, li_102, li_103, li_104, li_112, li_115, li_116, li_118, li_119, li_121, li_124, li_132, li_255, li_256, li_1000, li_2000, li_1000000000, iI_add, iI_sub, iI_mul, iI_neg, iI_lt, iI_le, iI_eq, iI_clamp, iI_s, iI_m1, iI_div, bs, tn, tn4, tn12, tn20, tn124, tn28, itT, itF, if_pos, if_neg, e0, e1, e2, i1, decide_eq_true_eq]
      · simp (disch := omega) only [li_0, li_1, li_2, li_3, li_4, li_5, li_6, li_7, li_8, li_9, li_10, li_11, li_12, li_16, li_19, li_20, li_28, li_48, li_57, li_59, li_60, li_96, li_97, li_99, li_100, li_102, li_103, li_104, li_112, li_115, li_116, li_118, li_119, li_121, li_124, li_132, li_255, li_256, li_1000, li_2000, li_1000000000, iI_add, iI_sub, iI_mul, iI_neg, iI_lt, iI_le, iI_eq, iI_clamp, iI_s, iI_m1, iI_div, bs, tn, tn4, tn12, tn20, tn124, tn28, itT, itF, if_pos, if_neg, e0, e1, e2, decide_eq_true_eq]
    · have c3 := hb_le a i x
      simp (disch := omega) only [li_0, li_1, li_2, li_3, li_4, li_5, li_6, li_7, li_8, li_9, li_10, li_11, li_12, li_16, li_19, li_20, li_28, li_48, li_57, li_59, li_60, li_96, li_97, li_99, li_100, li_102, li_103, li_104, li_112, li_115, li_116, li_118, li_119, li_121, li_124, li_132, li_255, li_256, li_1000, li_2000, li_1000000000, iI_add, iI_sub, iI_mul, iI_neg, iI_lt, iI_le, iI_eq, iI_clamp, iI_s, iI_m1, iI_div, bs, tn, tn4, tn12, tn20, tn124, tn28, itT, itF, if_pos, if_neg, e0, e1, i1, decide_eq_true_eq]
theorem cApartL (hc : RC S q a) (hw : WFa a) (hN : a 0 = N) {k : Int32 → Int32 → Option Int32} {k9 : Unit → Option Int32} {K : Int32 → Option Int32} (hk : ∀ x y : Int, k (iI x) (iI y) = K (iI (10 * x + y))) (h9 : k9 () = K (iI (-9))) :
    ∀ d n x : Nat, x + d = N → d < n → f_X3_firstApart_L2 n q (iI x) S k k9 = K (iI (sFA a d x)) := by
  have h8 := hw.1
  have e0 : S.1 q 0 = iI N := by rw [hc.1 0 (by omega), hN]
  intro d
  induction d with
  | zero =>
    intro n x hx hd
    obtain ⟨n, rfl⟩ : ∃ p, n = p + 1 := ⟨n - 1, by omega⟩
    rw [f_X3_firstApart_L2, sFA]
    simp (disch := omega) only [li_0, li_1, li_2, li_3, li_4, li_5, li_6, li_7, li_8, li_9, li_10, li_11, li_12, li_16, li_19, li_20, li_28, li_48, li_57, li_59, li_60, li_96, li_97, li_99, li_100, li_102, li_103, li_104, li_112, li_115, li_116, li_118, li_119, li_121, li_124, li_132, li_255, li_256, li_1000, li_2000, li_1000000000, iI_add, iI_sub, iI_mul, iI_neg, iI_lt, iI_le, iI_eq, iI_clamp, iI_s, iI_m1, iI_div, bs, tn, tn4, tn12, tn20, tn124, tn28, itT, itF, if_pos, if_neg, e0]
    exact h9
  | succ d ih =>
    intro n x hx hd
    obtain ⟨n, rfl⟩ : ∃ p, n = p + 1 := ⟨n - 1, by omega⟩
    have i1 := ih n (x + 1) (by omega) (by omega)
    have e1 := cPartL hc hw hN (i := x) (k := fun y => k (iI x) y) (k9 := fun _ => f_X3_firstApart_L2 n q (iI ((x + 1 : Nat) : Int)) S k k9) d 2000 (x + 1) (by omega) (by omega) (by omega)
    rw [f_X3_firstApart_L2, sFA]
    simp (disch := omega) only [li_0, li_1, li_2, li_3, li_4, li_5, li_6, li_7, li_8, li_9, li_10, li_11, li_12, li_16, li_19, li_20, li_28, li_48, li_57, li_59, li_60, li_96, li_97, li_99, li_100, li_102, li_103, li_104, li_112, li_115, li_116, li_118, li_119, li_121, li_124, li_132, li_255, li_256, li_1000, li_2000, li_1000000000, iI_add, iI_sub, iI_mul, iI_neg, iI_lt, iI_le, iI_eq, iI_clamp, iI_s, iI_m1, iI_div, bs, tn, tn4, tn12, tn20, tn124, tn28, itT, itF, if_pos, if_neg, e0]
    rw [e1]
    by_cases c : sPart a x d (x + 1) < 0
    · rw [if_pos c, if_pos c]; exact i1
    · rw [if_neg c, if_neg c]; exact hk _ _
theorem cApart (hc : RC S q a) (hw : WFa a) (hN : a 0 = N) : f_X3_firstApart q S = some (iI (sFA a N 0)) := by
  have h8 := hw.1
  rw [f_X3_firstApart]
  exact cApartL hc hw hN (K := fun y => some y) (fun x y => by simp (disch := omega) only [li_0, li_1, li_2, li_3, li_4, li_5, li_6, li_7, li_8, li_9, li_10, li_11, li_12, li_16, li_19, li_20, li_28, li_48, li_57, li_59, li_60, li_96, li_97, li_99, li_100, li_102, li_103, li_104, li_112, li_115, li_116, li_118, li_119, li_121, li_124, li_132, li_255, li_256, li_1000, li_2000, li_1000000000, iI_add, iI_sub, iI_mul, iI_neg, iI_lt, iI_le, iI_eq, iI_clamp, iI_s, iI_m1, iI_div, bs, tn, tn4, tn12, tn20, tn124, tn28, itT, itF, if_pos, if_neg]) (by simp (disch := omega) only [li_0, li_1, li_2, li_3, li_4, li_5, li_6, li_7, li_8, li_9, li_10, li_11, li_12, li_16, li_19, li_20, li_28, li_48, li_57, li_59, li_60, li_96, li_97, li_99, li_100, li_102, li_103, li_104, li_112, li_115, li_116, li_118, li_119, li_121, li_124, li_132, li_255, li_256, li_1000, li_2000, li_1000000000, iI_add, iI_sub, iI_mul, iI_neg, iI_lt, iI_le, iI_eq, iI_clamp, iI_s, iI_m1, iI_div, bs, tn, tn4, tn12, tn20, tn124, tn28, itT, itF, if_pos, if_neg]) N 2000 0 (by omega) (by omega)
end CP1
-- ===== the reference's pairs =====
section RP1
variable {S : St} {r : Nat} {a : Nat → Int} {N : Nat}
theorem rSame (hm : ∀ k, k < 132 → S.1 r k = iI (a k)) (hw : WFa a) {i j : Nat} (hi : i < 8) (hj : j < 8) : f_X8_doAgree r (iI i) (iI j) S = some (iI (if 0 ≤ a (20 + i) ∧ a (20 + i) = a (20 + j) then 1 else 0)) := by
  have k1 := (hw.t hi).2.2.1
  have k2 := (hw.t hj).2.2.1
  by_cases c1 : a (20 + i) < 0
  · simp (disch := omega) only [li_0, li_1, li_2, li_3, li_4, li_5, li_6, li_7, li_8, li_9, li_10, li_11, li_12, li_16, li_19, li_20, li_28, li_48, li_57, li_59, li_60, li_96, li_97, li_99, li_100, li_102, li_103, li_104, li_112, li_115, li_116, li_118, li_119, li_121, li_124, li_132, li_255, li_256, li_1000, li_2000, li_1000000000, iI_add, iI_sub, iI_mul, iI_neg, iI_lt, iI_le, iI_eq, iI_clamp, iI_s, iI_m1, iI_div, bs, tn, tn4, tn12, tn20, tn124, tn28, itT, itF, if_pos, if_neg, f_X8_doAgree, hm]
  · by_cases c2 : a (20 + i) = a (20 + j)
    · simp (disch := omega) only [li_0, li_1, li_2, li_3, li_4, li_5, li_6, li_7, li_8, li_9, li_10, li_11, li_12, li_16, li_19, li_20, li_28, li_48, li_57, li_59, li_60, li_96, li_97, li_99, li_100, li_102, li_103, li_104, li_112, li_115, li_116, li_118, li_119, li_121, li_124, li_132, li_255, li_256, li_1000, li_2000, li_1000000000, iI_add, iI_sub, iI_mul, iI_neg, iI_lt, iI_le, iI_eq, iI_clamp, iI_s, iI_m1, iI_div, bs, tn, tn4, tn12, tn20, tn124, tn28, itT, itF, if_pos, if_neg, f_X8_doAgree, hm]
    · simp (disch := omega) only [li_0, li_1, li_2, li_3, li_4, li_5, li_6, li_7, li_8, li_9, li_10, li_11, li_12, li_16, li_19, li_20, li_28, li_48, li_57, li_59, li_60, li_96, li_97, li_99, li_100, li_102, li_103, li_104, li_112, li_115, li_116, li_118, li_119, li_121, li_124, li_132, li_255, li_256, li_1000, li_2000, li_1000000000, iI_add, iI_sub, iI_mul, iI_neg, iI_lt, iI_le, iI_eq, iI_clamp, iI_s, iI_m1, iI_div, bs, tn, tn4, tn12, tn20, tn124, tn28, itT, itF, if_pos, if_neg, f_X8_doAgree, hm]
theorem rBit (hm : ∀ k, k < 132 → S.1 r k = iI (a k)) (hw : WFa a) {i j : Nat} (hi : i < 8) (hj : j < 31) : (S.1 r (124 + i) >>> (iI j &&& 31)) &&& iI 1 = iI (hb a i j) := by
  have b := (hw.2.2.2.2.1 i hi).2.2.2.2
  rw [hm _ (by omega), iI_bit b.1 (by omega) hj]
  rfl
theorem rAgrI (hm : ∀ k, k < 132 → S.1 r k = iI (a k)) (hw : WFa a) (hN : a 0 = N) {i : Nat} {k : Int32 → Option Int32} (A : Int) :
    ∀ d n x : Nat, x + d = N → d < n → i < x → f_X8_agreeMany_L16 n r (iI (A + in2 (fAgr a) i x)) (iI i) (iI x) S k = k (iI (A + in2 (fAgr a) i N)) := by
  have h8 := hw.1
  have e0 : S.1 r 0 = iI N := by rw [hm 0 (by omega), hN]
  intro d
  induction d with
  | zero =>
    intro n x hx hd hi
    obtain ⟨n, rfl⟩ : ∃ p, n = p + 1 := ⟨n - 1, by omega⟩
    obtain rfl : x = N := by omega
    rw [f_X8_agreeMany_L16]
    simp (disch := omega) only [li_0, li_1, li_2, li_3, li_4, li_5, li_6, li_7, li_8, li_9, li_10, li_11, li_12, li_16, li_19, li_20, li_28, li_48, li_57, li_59, li_60, li_96, li_97, li_99, li_100, li_102, li_103, li_104, li_112, li_115, li_116, li_118, li_119, li_121, li_124, li_132, li_255, li_256, li_1000, li_2000, li_1000000000, iI_add, iI_sub, iI_mul, iI_neg, iI_lt, iI_le, iI_eq, iI_clamp, iI_s, iI_m1, iI_div, bs, tn, tn4, tn12, tn20, tn124, tn28, itT, itF, if_pos, if_neg, e0]
  | succ d ih =>
    intro n x hx hd hi
    obtain ⟨n, rfl⟩ : ∃ p, n = p + 1 := ⟨n - 1, by omega⟩
    have i1 := ih n (x + 1) (by omega) (by omega) (by omega)
    have e1 := rBit hm hw (i := i) (j := x) (by omega) (by omega)
    have e2 := rSame hm hw (i := i) (j := x) (by omega) (by omega)
    rw [in2_s _ hi, ← Int.add_assoc] at i1
    rw [f_X8_agreeMany_L16]
    by_cases c1 : hb a i x = 1
    · by_cases c2 : 0 ≤ a (20 + i) ∧ a (20 + i) = a (20 + x)
      · rw [show fAgr a i x = 1 from if_pos ⟨c1, c2⟩] at i1
        simp (disch := omega) only [li_0, li_1, li_2, li_3, li_4, li_5, li_6, li_7, li_8, li_9, li_10, li_11, li_12, li_16, li_19, li_20, li_28, li_48, li_57, li_59, li_60, li_96, li_97, li_99, li_100, li_102, li_103, li_104, li_112, li_115, li_116, li_118, li_119, li_121, li_124, li_132, li_255, li_256, li_1000, li_2000, li_1000000000, iI_add, iI_sub, iI_mul, iI_neg, iI_lt, iI_le, iI_eq, iI_clamp, iI_s, iI_m1, iI_div, bs, tn, tn4, tn12, tn20, tn124, tn28, itT, itF, if_pos, if_neg, e0, e1, e2, i1]
      · rw [show fAgr a i x = 0 from if_neg (fun z => c2 z.2)] at i1
        simp (disch := omega) only [li_0, li_1, li_2, li_3, li_4, li_5, li_6, li_7, li_8, li_9, li_10, li_11, li_12, li_16, li_19, li_20, li_28, li_48, li_57, li_59, li_60, li_96, li_97, li_99, li_100, li_102, li_103, li_104, li_112, li_115, li_116, li_118, li_119, li_121, li_124, li_132, li_255, li_256, li_1000, li_2000, li_1000000000, iI_add, iI_sub, iI_mul, iI_neg, iI_lt, iI_le, iI_eq, iI_clamp, iI_s, iI_m1, iI_div, bs, tn, tn4, tn12, tn20, tn124, tn28, itT, itF, if_pos, if_neg, e0, e1, e2, i1]
    · rw [show fAgr a i x = 0 from if_neg (fun z => c1 z.1)] at i1
      have c3 := hb_le a i x
      simp (disch := omega) only [li_0, li_1, li_2, li_3, li_4, li_5, li_6, li_7, li_8, li_9, li_10, li_11, li_12, li_16, li_19, li_20, li_28, li_48, li_57, li_59, li_60, li_96, li_97, li_99, li_100, li_102, li_103, li_104, li_112, li_115, li_116, li_118, li_119, li_121, li_124, li_132, li_255, li_256, li_1000, li_2000, li_1000000000, iI_add, iI_sub, iI_mul, iI_neg, iI_lt, iI_le, iI_eq, iI_clamp, iI_s, iI_m1, iI_div, bs, tn, tn4, tn12, tn20, tn124, tn28, itT, itF, if_pos, if_neg, e0, e1, e2, i1]
theorem rAgrL (hm : ∀ k, k < 132 → S.1 r k = iI (a k)) (hw : WFa a) (hN : a 0 = N) {k : Int32 → Option Int32} :
    ∀ d n x : Nat, x + d = N → d < n → f_X8_agreeMany_L4 n r (iI (out2 (fAgr a) N x)) (iI x) S k = k (iI (out2 (fAgr a) N N)) := by
  have h8 := hw.1
  have e0 : S.1 r 0 = iI N := by rw [hm 0 (by omega), hN]
  intro d
  induction d with
  | zero =>
    intro n x hx hd
    obtain ⟨n, rfl⟩ : ∃ p, n = p + 1 := ⟨n - 1, by omega⟩
    obtain rfl : x = N := by omega
    rw [f_X8_agreeMany_L4]
    simp (disch := omega) only [li_0, li_1, li_2, li_3, li_4, li_5, li_6, li_7, li_8, li_9, li_10, li_11, li_12, li_16, li_19, li_20, li_28, li_48, li_57, li_59, li_60, li_96, li_97, li_99, li_100, li_102, li_103, li_104, li_112, li_115, li_116, li_118, li_119, li_121, li_124, li_132, li_255, li_256, li_1000, li_2000, li_1000000000, iI_add, iI_sub, iI_mul, iI_neg, iI_lt, iI_le, iI_eq, iI_clamp, iI_s, iI_m1, iI_div, bs, tn, tn4, tn12, tn20, tn124, tn28, itT, itF, if_pos, if_neg, e0]
  | succ d ih =>
    intro n x hx hd
    obtain ⟨n, rfl⟩ : ∃ p, n = p + 1 := ⟨n - 1, by omega⟩
    have i1 := ih n (x + 1) (by omega) (by omega)
    have e1 := rAgrI hm hw hN (i := x) (k := fun y => f_X8_agreeMany_L4 n r y (iI ((x + 1 : Nat) : Int)) S k) (out2 (fAgr a) N x) d 2000 (x + 1) (by omega) (by omega) (by omega)
    rw [in2_0 _ _ _ (by omega), Int.add_zero] at e1
    rw [show out2 (fAgr a) N (x + 1) = out2 (fAgr a) N x + in2 (fAgr a) x N from rfl] at i1
    rw [f_X8_agreeMany_L4]
    simp (disch := omega) only [li_0, li_1, li_2, li_3, li_4, li_5, li_6, li_7, li_8, li_9, li_10, li_11, li_12, li_16, li_19, li_20, li_28, li_48, li_57, li_59, li_60, li_96, li_97, li_99, li_100, li_102, li_103, li_104, li_112, li_115, li_116, li_118, li_119, li_121, li_124, li_132, li_255, li_256, li_1000, li_2000, li_1000000000, iI_add, iI_sub, iI_mul, iI_neg, iI_lt, iI_le, iI_eq, iI_clamp, iI_s, iI_m1, iI_div, bs, tn, tn4, tn12, tn20, tn124, tn28, itT, itF, if_pos, if_neg, e0]
    rw [e1]
    exact i1
theorem rAgr (hm : ∀ k, k < 132 → S.1 r k = iI (a k)) (hw : WFa a) (hN : a 0 = N) : f_X8_agreeMany r S = some (iI (out2 (fAgr a) N N)) := by
  have h8 := hw.1
  have i := rAgrL hm hw hN (k := fun y => some y) N 2000 0 (by omega) (by omega)
  rw [f_X8_agreeMany]
  exact i
theorem rPartL (hm : ∀ k, k < 132 → S.1 75 k = iI (a k)) (hw : WFa a) (hN : a 0 = N) {i : Nat} {k : Int32 → Option (Int32 × St)} {k9 : Unit → Option (Int32 × St)} :
    ∀ d n x : Nat, x + d = N → d < n → i < x → f_X8_agree_L45 n (iI i) (iI x) S k k9 = if sPart a i d x < 0 then k9 () else k (iI (sPart a i d x)) := by
  have h8 := hw.1
  have e0 : S.1 75 0 = iI N := by rw [hm 0 (by omega), hN]
  intro d
  induction d with
  | zero =>
    intro n x hx hd hi
    obtain ⟨n, rfl⟩ : ∃ p, n = p + 1 := ⟨n - 1, by omega⟩
    rw [f_X8_agree_L45, sPart, sFst]
    simp (disch := omega) only [li_0, li_1, li_2, li_3, li_4, li_5, li_6, li_7, li_8, li_9, li_10, li_11, li_12, li_16, li_19, li_20, li_28, li_48, li_57, li_59, li_60, li_96, li_97, li_99, li_100, li_102, li_103, li_104, li_112, li_115, li_116, li_118, li_119, li_121, li_124, li_132, li_255, li_256, li_1000, li_2000, li_1000000000, iI_add, iI_sub, iI_mul, iI_neg, iI_lt, iI_le, iI_eq, iI_clamp, iI_s, iI_m1, iI_div, bs, tn, tn4, tn12, tn20, tn124, tn28, itT, itF, if_pos, if_neg, e0]
  | succ d ih =>
    intro n x hx hd hi
    obtain ⟨n, rfl⟩ : ∃ p, n = p + 1 := ⟨n - 1, by omega⟩
    have i1 := ih n (x + 1) (by omega) (by omega) (by omega)
    have e1 := rBit hm hw (i := i) (j := x) (by omega) (by omega)
    have e2 := rSame hm hw (i := i) (j := x) (by omega) (by omega)
    have e3 : sPart a i (d + 1) x = if decide (hb a i x = 1 ∧ ¬ (0 ≤ a (20 + i) ∧ a (20 + i) = a (20 + x))) = true then (x : Int) else sPart a i d (x + 1) := rfl
    rw [f_X8_agree_L45, e3]
    by_cases c1 : hb a i x = 1
    · by_cases c2 : 0 ≤ a (20 + i) ∧ a (20 + i) = a (20 + x)
      · simp (disch := omega) only [li_0, li_1, li_2, li_3, li_4, li_5, li_6, li_7, li_8, li_9, li_10, li_11, li_12, li_16, li_19, li_20, li_28, li_48, li_57, li_59, li_60, li_96, li_97, li_99, li_100, li_102, li_103, li_104, li_112, li_115, li_116, li_118, li_119, li_121, li_124, li_132, li_255, li_256, li_1000, li_2000, li_1000000000, iI_add, iI_sub, iI_mul, iI_neg, iI_lt, iI_le, iI_eq, iI_clamp, iI_s, iI_m1, iI_div, bs, tn, tn4, tn12, tn20, tn124, tn28, itT, itF, if_pos, if_neg, e0, e1, e2, i1, decide_eq_true_eq]
      · simp (disch := omega) only [li_0, li_1, li_2, li_3, li_4, li_5, li_6, li_7, li_8, li_9, li_10, li_11, li_12, li_16, li_19, li_20, li_28, li_48, li_57, li_59, li_60, li_96, li_97, li_99, li_100, li_102, li_103, li_104, li_112, li_115, li_116, li_118, li_119, li_121, li_124, li_132, li_255, li_256, li_1000, li_2000, li_1000000000, iI_add, iI_sub, iI_mul, iI_neg, iI_lt, iI_le, iI_eq, iI_clamp, iI_s, iI_m1, iI_div, bs, tn, tn4, tn12, tn20, tn124, tn28, itT, itF, if_pos, if_neg, e0, e1, e2, decide_eq_true_eq]
    · have c3 := hb_le a i x
      simp (disch := omega) only [li_0, li_1, li_2, li_3, li_4, li_5, li_6, li_7, li_8, li_9, li_10, li_11, li_12, li_16, li_19, li_20, li_28, li_48, li_57, li_59, li_60, li_96, li_97, li_99, li_100, li_102, li_103, li_104, li_112, li_115, li_116, li_118, li_119, li_121, li_124, li_132, li_255, li_256, li_1000, li_2000, li_1000000000, iI_add, iI_sub, iI_mul, iI_neg, iI_lt, iI_le, iI_eq, iI_clamp, iI_s, iI_m1, iI_div, bs, tn, tn4, tn12, tn20, tn124, tn28, itT, itF, if_pos, if_neg, e0, e1, i1, decide_eq_true_eq]
theorem rApartL (hm : ∀ k, k < 132 → S.1 75 k = iI (a k)) (hw : WFa a) (hN : a 0 = N) {k : Int32 → Int32 → Option (Int32 × St)} {k9 : Unit → Option (Int32 × St)} {K : Int32 → Option (Int32 × St)} (hk : ∀ x y : Int, k (iI x) (iI y) = K (iI (10 * x + y))) (h9 : k9 () = K (iI (-9))) :
    ∀ d n x : Nat, x + d = N → d < n → f_X8_agree_L31 n (iI x) S k k9 = K (iI (sFA a d x)) := by
  have h8 := hw.1
  have e0 : S.1 75 0 = iI N := by rw [hm 0 (by omega), hN]
  intro d
  induction d with
  | zero =>
    intro n x hx hd
    obtain ⟨n, rfl⟩ : ∃ p, n = p + 1 := ⟨n - 1, by omega⟩
    rw [f_X8_agree_L31, sFA]
    simp (disch := omega) only [li_0, li_1, li_2, li_3, li_4, li_5, li_6, li_7, li_8, li_9, li_10, li_11, li_12, li_16, li_19, li_20, li_28, li_48, li_57, li_59, li_60, li_96, li_97, li_99, li_100, li_102, li_103, li_104, li_112, li_115, li_116, li_118, li_119, li_121, li_124, li_132, li_255, li_256, li_1000, li_2000, li_1000000000, iI_add, iI_sub, iI_mul, iI_neg, iI_lt, iI_le, iI_eq, iI_clamp, iI_s, iI_m1, iI_div, bs, tn, tn4, tn12, tn20, tn124, tn28, itT, itF, if_pos, if_neg, e0]
    exact h9
  | succ d ih =>
    intro n x hx hd
    obtain ⟨n, rfl⟩ : ∃ p, n = p + 1 := ⟨n - 1, by omega⟩
    have i1 := ih n (x + 1) (by omega) (by omega)
    have e1 := rPartL hm hw hN (i := x) (k := fun y => k (iI x) y) (k9 := fun _ => f_X8_agree_L31 n (iI ((x + 1 : Nat) : Int)) S k k9) d 2000 (x + 1) (by omega) (by omega) (by omega)
    rw [f_X8_agree_L31, sFA]
    simp (disch := omega) only [li_0, li_1, li_2, li_3, li_4, li_5, li_6, li_7, li_8, li_9, li_10, li_11, li_12, li_16, li_19, li_20, li_28, li_48, li_57, li_59, li_60, li_96, li_97, li_99, li_100, li_102, li_103, li_104, li_112, li_115, li_116, li_118, li_119, li_121, li_124, li_132, li_255, li_256, li_1000, li_2000, li_1000000000, iI_add, iI_sub, iI_mul, iI_neg, iI_lt, iI_le, iI_eq, iI_clamp, iI_s, iI_m1, iI_div, bs, tn, tn4, tn12, tn20, tn124, tn28, itT, itF, if_pos, if_neg, e0]
    rw [e1]
    by_cases c : sPart a x d (x + 1) < 0
    · rw [if_pos c, if_pos c]; exact i1
    · rw [if_neg c, if_neg c]; exact hk _ _
theorem rBitsL {A : Int} (h0 : 0 ≤ A) (h1 : A < 2147483648) {k : Int32 → Option Int32} : ∀ d n x : Nat, x + d = 12 → d < n → f_X8_bits_L4 n (iI A) (iI (sSum (fun b => ((A.toNat / 2 ^ b % 2 : Nat) : Int)) x)) (iI x) k = k (iI (sSum (fun b => ((A.toNat / 2 ^ b % 2 : Nat) : Int)) 12)) := by
  intro d
  induction d with
  | zero =>
    intro n x hx hd
    obtain ⟨n, rfl⟩ : ∃ p, n = p + 1 := ⟨n - 1, by omega⟩
    obtain rfl : x = 12 := by omega
    rw [f_X8_bits_L4]
    simp (disch := omega) only [li_0, li_1, li_2, li_3, li_4, li_5, li_6, li_7, li_8, li_9, li_10, li_11, li_12, li_16, li_19, li_20, li_28, li_48, li_57, li_59, li_60, li_96, li_97, li_99, li_100, li_102, li_103, li_104, li_112, li_115, li_116, li_118, li_119, li_121, li_124, li_132, li_255, li_256, li_1000, li_2000, li_1000000000, iI_add, iI_sub, iI_mul, iI_neg, iI_lt, iI_le, iI_eq, iI_clamp, iI_s, iI_m1, iI_div, bs, tn, tn4, tn12, tn20, tn124, tn28, itT, itF, if_pos, if_neg]
  | succ d ih =>
    intro n x hx hd
    obtain ⟨n, rfl⟩ : ∃ p, n = p + 1 := ⟨n - 1, by omega⟩
    have i1 := ih n (x + 1) (by omega) (by omega)
    have e1 := iI_bit (A := A) (j := x) h0 h1 (by omega)
    rw [sSum] at i1
    rw [f_X8_bits_L4]
    simp (disch := omega) only [li_0, li_1, li_2, li_3, li_4, li_5, li_6, li_7, li_8, li_9, li_10, li_11, li_12, li_16, li_19, li_20, li_28, li_48, li_57, li_59, li_60, li_96, li_97, li_99, li_100, li_102, li_103, li_104, li_112, li_115, li_116, li_118, li_119, li_121, li_124, li_132, li_255, li_256, li_1000, li_2000, li_1000000000, iI_add, iI_sub, iI_mul, iI_neg, iI_lt, iI_le, iI_eq, iI_clamp, iI_s, iI_m1, iI_div, bs, tn, tn4, tn12, tn20, tn124, tn28, itT, itF, if_pos, if_neg, e1, i1]
theorem rBits {A : Int} (h0 : 0 ≤ A) (h1 : A < 2147483648) : f_X8_bits (iI A) = some (iI (sSum (fun b => ((A.toNat / 2 ^ b % 2 : Nat) : Int)) 12)) := by
  rw [f_X8_bits]
  exact rBitsL h0 h1 12 2000 0 (by omega) (by omega)
end RP1
theorem e_agree {S : St} (hS : Inv S) (a1 : Int32) : ∃ (z1 : Int32 × St) (z2 : Int32 × St), f_X7_agree a1 S = some z1 ∧ f_X8_agree a1 z1.2 = some z2 ∧ z1.1 = z2.1 ∧ Inv z2.2 := by
  obtain ⟨⟨a, hw, hc, hm0⟩, -⟩ := id hS
  have hm : ∀ k, k < 132 → S.1 75 k = iI (a k) := hm0
  have h8 := hw.1
  have w1 := hw.2.1
  have w2 := hw.2.2.1
  have w3 := hw.2.2.2.1
  obtain ⟨now, hnow⟩ : ∃ n : Nat, a 1 = n := ⟨(a 1).toNat, by omega⟩
  obtain ⟨N, hN⟩ : ∃ n : Nat, a 0 = n := ⟨(a 0).toNat, by omega⟩
  have hn : now ≤ 11 := by omega
  have hN8 : N ≤ 8 := by omega
  have p1 : S.1 1 1 = iI now := by rw [hc.1 1 (by omega), hnow]
  have p0 : S.1 1 0 = iI N := by rw [hc.1 0 (by omega), hN]
  have m0 : S.1 75 0 = iI N := by rw [hm 0 (by omega), hN]
  have m1 : S.1 75 1 = iI now := by rw [hm 1 (by omega), hnow]
  obtain ⟨x, x1, x2, rfl⟩ := iI_any a1
  have e1 := cTwo x1 x2
  have g1 := rIn (x := x) (l := 0) (u := 1) x1 x2 (by omega) (by omega) (by omega) (by omega)
  by_cases c : 0 ≤ x ∧ x ≤ 1
  · by_cases c1 : x = 0
    · have e2 := cAgr hc hw hN
      have g2 := rAgr hm hw hN
      exact e_mk (v := iI (out2 (fAgr a) N N)) (S1 := S) (S2 := S) (by simp (disch := omega) only [li_0, li_1, li_2, li_3, li_4, li_5, li_6, li_7, li_8, li_9, li_10, li_11, li_12, li_16, li_19, li_20, li_28, li_48, li_57, li_59, li_60, li_96, li_97, li_99, li_100, li_102, li_103, li_104, li_112, li_115, li_116, li_118, li_119, li_121, li_124, li_132, li_255, li_256, li_1000, li_2000, li_1000000000, iI_add, iI_sub, iI_mul, iI_neg, iI_lt, iI_le, iI_eq, iI_clamp, iI_s, iI_m1, iI_div, bs, tn, tn4, tn12, tn20, tn124, tn28, itT, itF, if_pos, if_neg, f_X7_agree, e1, e2]) (by simp (disch := omega) only [li_0, li_1, li_2, li_3, li_4, li_5, li_6, li_7, li_8, li_9, li_10, li_11, li_12, li_16, li_19, li_20, li_28, li_48, li_57, li_59, li_60, li_96, li_97, li_99, li_100, li_102, li_103, li_104, li_112, li_115, li_116, li_118, li_119, li_121, li_124, li_132, li_255, li_256, li_1000, li_2000, li_1000000000, iI_add, iI_sub, iI_mul, iI_neg, iI_lt, iI_le, iI_eq, iI_clamp, iI_s, iI_m1, iI_div, bs, tn, tn4, tn12, tn20, tn124, tn28, itT, itF, if_pos, if_neg, f_X8_agree, g1, g2]) hS
    · have e2 := cApart hc hw hN
      have g2 : f_X8_agree_L31 2000 (iI 0) S (fun y11 y12 => some ((iI 10 * y11) + y12, S)) (fun _ => some (iI (-9), S)) = some (iI (sFA a N 0), S) := rApartL hm hw hN (K := fun y => some (y, S)) (fun x y => by simp (disch := omega) only [li_0, li_1, li_2, li_3, li_4, li_5, li_6, li_7, li_8, li_9, li_10, li_11, li_12, li_16, li_19, li_20, li_28, li_48, li_57, li_59, li_60, li_96, li_97, li_99, li_100, li_102, li_103, li_104, li_112, li_115, li_116, li_118, li_119, li_121, li_124, li_132, li_255, li_256, li_1000, li_2000, li_1000000000, iI_add, iI_sub, iI_mul, iI_neg, iI_lt, iI_le, iI_eq, iI_clamp, iI_s, iI_m1, iI_div, bs, tn, tn4, tn12, tn20, tn124, tn28, itT, itF, if_pos, if_neg]) rfl N 2000 0 (by omega) (by omega)
      exact e_mk (v := iI (sFA a N 0)) (S1 := S) (S2 := S) (by simp (disch := omega) only [li_0, li_1, li_2, li_3, li_4, li_5, li_6, li_7, li_8, li_9, li_10, li_11, li_12, li_16, li_19, li_20, li_28, li_48, li_57, li_59, li_60, li_96, li_97, li_99, li_100, li_102, li_103, li_104, li_112, li_115, li_116, li_118, li_119, li_121, li_124, li_132, li_255, li_256, li_1000, li_2000, li_1000000000, iI_add, iI_sub, iI_mul, iI_neg, iI_lt, iI_le, iI_eq, iI_clamp, iI_s, iI_m1, iI_div, bs, tn, tn4, tn12, tn20, tn124, tn28, itT, itF, if_pos, if_neg, f_X7_agree, e1, e2]) (by simp (disch := omega) only [li_0, li_1, li_2, li_3, li_4, li_5, li_6, li_7, li_8, li_9, li_10, li_11, li_12, li_16, li_19, li_20, li_28, li_48, li_57, li_59, li_60, li_96, li_97, li_99, li_100, li_102, li_103, li_104, li_112, li_115, li_116, li_118, li_119, li_121, li_124, li_132, li_255, li_256, li_1000, li_2000, li_1000000000, iI_add, iI_sub, iI_mul, iI_neg, iI_lt, iI_le, iI_eq, iI_clamp, iI_s, iI_m1, iI_div, bs, tn, tn4, tn12, tn20, tn124, tn28, itT, itF, if_pos, if_neg, f_X8_agree, g1, g2]) hS
  · exact e_no hS (-2) 2 (by omega) (by omega) (by simp (disch := omega) only [li_0, li_1, li_2, li_3, li_4, li_5, li_6, li_7, li_8, li_9, li_10, li_11, li_12, li_16, li_19, li_20, li_28, li_48, li_57, li_59, li_60, li_96, li_97, li_99, li_100, li_102, li_103, li_104, li_112, li_115, li_116, li_118, li_119, li_121, li_124, li_132, li_255, li_256, li_1000, li_2000, li_1000000000, iI_add, iI_sub, iI_mul, iI_neg, iI_lt, iI_le, iI_eq, iI_clamp, iI_s, iI_m1, iI_div, bs, tn, tn4, tn12, tn20, tn124, tn28, itT, itF, if_pos, if_neg, f_X7_agree, e1, bse]) (fun S1 q1 q2 => by simp (disch := omega) only [li_0, li_1, li_2, li_3, li_4, li_5, li_6, li_7, li_8, li_9, li_10, li_11, li_12, li_16, li_19, li_20, li_28, li_48, li_57, li_59, li_60, li_96, li_97, li_99, li_100, li_102, li_103, li_104, li_112, li_115, li_116, li_118, li_119, li_121, li_124, li_132, li_255, li_256, li_1000, li_2000, li_1000000000, iI_add, iI_sub, iI_mul, iI_neg, iI_lt, iI_le, iI_eq, iI_clamp, iI_s, iI_m1, iI_div, bs, tn, tn4, tn12, tn20, tn124, tn28, itT, itF, if_pos, if_neg, f_X8_agree, g1, bse])
end
section
-- ===== calls of one thing =====
theorem e_noF {S : St} (hS : Inv S) {x1 : Option (Int32 × St)} {g : St → Option (Int32 × St)} (v : Int) (c : Nat) (hc : 1 ≤ c ∧ c ≤ 6) (hv : v = -(c : Int)) (h1 : x1 = (f_X7_refuse (iI v) S).bind fun z => some (iI 1000000000 - z.1, z.2)) (h2 : ∀ S1 : St, S1.1 75 = S.1 75 → g S1 = f_X8_noFar (iI v) S1) : ∃ z1 z2, x1 = some z1 ∧ g z1.2 = some z2 ∧ z1.1 = z2.1 ∧ Inv z2.2 := by
  rw [cRef hc hv] at h1
  have h3 := h2 (up S 73 c (S.1 73 c + iI 1)) (up_ne (by omega))
  rw [f_X8_noFar, rNo hc hv] at h3
  exact e_mk h1 h3 (hS.no hc)
def sWash (a : Nat → Int) (j now : Nat) : Int := sG a j now - sHow a j now
theorem sWash_b {a : Nat → Int} {j now : Nat} (hw : WT a j) (hn : now ≤ 11) : -99 ≤ sWash a j now ∧ sWash a j now ≤ 99 := by
  have h1 := sG_b hw (y := now) (by omega)
  have h2 := sHow_b hw hn
  unfold sWash
  omega
theorem cMore {S : St} {t : Nat} {a : Nat → Int} {j : Nat} (h : RT S t a j) (hw : WT a j) {now : Nat} (hn : now ≤ 11) : f_X6_moreIfWashed t (iI now) S = some (iI (sWash a j now)) := by
  have e1 := cG h (y := now) (by omega)
  have e2 := cHow h hw hn
  simp (disch := omega) only [li_0, li_1, li_2, li_3, li_4, li_5, li_6, li_7, li_8, li_9, li_10, li_11, li_12, li_16, li_19, li_20, li_28, li_48, li_57, li_59, li_60, li_96, li_97, li_99, li_100, li_102, li_103, li_104, li_112, li_115, li_116, li_118, li_119, li_121, li_124, li_132, li_255, li_256, li_1000, li_2000, li_1000000000, iI_add, iI_sub, iI_mul, iI_neg, iI_lt, iI_le, iI_eq, iI_clamp, iI_s, iI_m1, iI_div, bs, tn, tn4, tn12, tn20, tn124, tn28, itT, itF, if_pos, if_neg, f_X6_moreIfWashed, e1, e2, sWash]
theorem rWater {S : St} {a : Nat → Int} {j now : Nat} (hm : ∀ k, k < 132 → S.1 75 k = iI (a k)) (hj : j < 8) (hw : WT a j) (hn : now ≤ 11) (hn1 : a 1 = now) : f_X8_waterOf (iI j) S = some (iI (sWash a j now)) := by
  have hm1 : S.1 75 1 = iI now := by rw [hm 1 (by omega), hn1]
  have e1 : S.1 75 (28 + 12 * j + now) = iI (sG a j now) := hm _ (by omega)
  have e2 := rHow hm hj hw hn hn1
  simp (disch := omega) only [li_0, li_1, li_2, li_3, li_4, li_5, li_6, li_7, li_8, li_9, li_10, li_11, li_12, li_16, li_19, li_20, li_28, li_48, li_57, li_59, li_60, li_96, li_97, li_99, li_100, li_102, li_103, li_104, li_112, li_115, li_116, li_118, li_119, li_121, li_124, li_132, li_255, li_256, li_1000, li_2000, li_1000000000, iI_add, iI_sub, iI_mul, iI_neg, iI_lt, iI_le, iI_eq, iI_clamp, iI_s, iI_m1, iI_div, bs, tn, tn4, tn12, tn20, tn124, tn28, itT, itF, if_pos, if_neg, f_X8_waterOf, hm1, rAt, e1, e2, sWash]
theorem e_water {S : St} (hS : Inv S) (a1 : Int32) : ∃ (z1 : Int32 × St) (z2 : Int32 × St), f_X7_water a1 S = some z1 ∧ f_X8_water a1 z1.2 = some z2 ∧ z1.1 = z2.1 ∧ Inv z2.2 := by
  obtain ⟨⟨a, hw, hc, hm0⟩, -⟩ := id hS
  have hm : ∀ k, k < 132 → S.1 75 k = iI (a k) := hm0
  have h8 := hw.1
  have w1 := hw.2.1
  have w2 := hw.2.2.1
  have w3 := hw.2.2.2.1
  obtain ⟨now, hnow⟩ : ∃ n : Nat, a 1 = n := ⟨(a 1).toNat, by omega⟩
  obtain ⟨N, hN⟩ : ∃ n : Nat, a 0 = n := ⟨(a 0).toNat, by omega⟩
  have hn : now ≤ 11 := by omega
  have hN8 : N ≤ 8 := by omega
  have p1 : S.1 1 1 = iI now := by rw [hc.1 1 (by omega), hnow]
  have p0 : S.1 1 0 = iI N := by rw [hc.1 0 (by omega), hN]
  have m0 : S.1 75 0 = iI N := by rw [hm 0 (by omega), hN]
  have m1 : S.1 75 1 = iI now := by rw [hm 1 (by omega), hnow]
  obtain ⟨x, x1, x2, rfl⟩ := iI_any a1
  have e1 := cLacks hc hw x1 x2
  have g1 := rThing m0 hN8 x1 x2
  by_cases c : 0 ≤ x ∧ x < a 0
  · obtain ⟨j, rfl⟩ : ∃ n : Nat, x = n := ⟨x.toNat, by omega⟩
    have ht := hc.t (j := j) (by omega) (by omega)
    have hwt := hw.t (j := j) (by omega)
    have e2 := cAt (S := S) (q := 1) (j := j) (by omega)
    have k := hwt.2.2.1
    have e3 := cSet ht hwt
    by_cases c1 : a (20 + j) < 0
    · exact e_noF hS (-3) 3 (by omega) (by omega) (by simp (disch := omega) only [li_0, li_1, li_2, li_3, li_4, li_5, li_6, li_7, li_8, li_9, li_10, li_11, li_12, li_16, li_19, li_20, li_28, li_48, li_57, li_59, li_60, li_96, li_97, li_99, li_100, li_102, li_103, li_104, li_112, li_115, li_116, li_118, li_119, li_121, li_124, li_132, li_255, li_256, li_1000, li_2000, li_1000000000, iI_add, iI_sub, iI_mul, iI_neg, iI_lt, iI_le, iI_eq, iI_clamp, iI_s, iI_m1, iI_div, bs, tn, tn4, tn12, tn20, tn124, tn28, itT, itF, if_pos, if_neg, f_X7_water, e1, e2, e3]) (fun S1 q1 => by
        have hmm : ∀ k, k < 132 → S1.1 75 k = iI (a k) := fun k hk => by rw [q1]; exact hm k hk
        have g1 := rThing (S := S1) (by rw [q1]; exact m0) hN8 x1 x2
        simp (disch := omega) only [li_0, li_1, li_2, li_3, li_4, li_5, li_6, li_7, li_8, li_9, li_10, li_11, li_12, li_16, li_19, li_20, li_28, li_48, li_57, li_59, li_60, li_96, li_97, li_99, li_100, li_102, li_103, li_104, li_112, li_115, li_116, li_118, li_119, li_121, li_124, li_132, li_255, li_256, li_1000, li_2000, li_1000000000, iI_add, iI_sub, iI_mul, iI_neg, iI_lt, iI_le, iI_eq, iI_clamp, iI_s, iI_m1, iI_div, bs, tn, tn4, tn12, tn20, tn124, tn28, itT, itF, if_pos, if_neg, f_X8_water, g1, hmm, bse])
    · have e4 := cMore ht hwt hn
      have g4 := rWater hm (by omega) hwt hn hnow
      exact e_mk (v := iI (sWash a j now)) (S1 := S) (S2 := S) (by simp (disch := omega) only [li_0, li_1, li_2, li_3, li_4, li_5, li_6, li_7, li_8, li_9, li_10, li_11, li_12, li_16, li_19, li_20, li_28, li_48, li_57, li_59, li_60, li_96, li_97, li_99, li_100, li_102, li_103, li_104, li_112, li_115, li_116, li_118, li_119, li_121, li_124, li_132, li_255, li_256, li_1000, li_2000, li_1000000000, iI_add, iI_sub, iI_mul, iI_neg, iI_lt, iI_le, iI_eq, iI_clamp, iI_s, iI_m1, iI_div, bs, tn, tn4, tn12, tn20, tn124, tn28, itT, itF, if_pos, if_neg, f_X7_water, e1, e2, e3, p1, e4]) (by simp (disch := omega) only [li_0, li_1, li_2, li_3, li_4, li_5, li_6, li_7, li_8, li_9, li_10, li_11, li_12, li_16, li_19, li_20, li_28, li_48, li_57, li_59, li_60, li_96, li_97, li_99, li_100, li_102, li_103, li_104, li_112, li_115, li_116, li_118, li_119, li_121, li_124, li_132, li_255, li_256, li_1000, li_2000, li_1000000000, iI_add, iI_sub, iI_mul, iI_neg, iI_lt, iI_le, iI_eq, iI_clamp, iI_s, iI_m1, iI_div, bs, tn, tn4, tn12, tn20, tn124, tn28, itT, itF, if_pos, if_neg, f_X8_water, g1, hm, g4]) hS
  · exact e_noF hS (-1) 1 (by omega) (by omega) (by simp (disch := omega) only [li_0, li_1, li_2, li_3, li_4, li_5, li_6, li_7, li_8, li_9, li_10, li_11, li_12, li_16, li_19, li_20, li_28, li_48, li_57, li_59, li_60, li_96, li_97, li_99, li_100, li_102, li_103, li_104, li_112, li_115, li_116, li_118, li_119, li_121, li_124, li_132, li_255, li_256, li_1000, li_2000, li_1000000000, iI_add, iI_sub, iI_mul, iI_neg, iI_lt, iI_le, iI_eq, iI_clamp, iI_s, iI_m1, iI_div, bs, tn, tn4, tn12, tn20, tn124, tn28, itT, itF, if_pos, if_neg, f_X7_water, e1]) (fun S1 q1 => by
      have g1 := rThing (S := S1) (by rw [q1]; exact m0) hN8 x1 x2
      simp (disch := omega) only [li_0, li_1, li_2, li_3, li_4, li_5, li_6, li_7, li_8, li_9, li_10, li_11, li_12, li_16, li_19, li_20, li_28, li_48, li_57, li_59, li_60, li_96, li_97, li_99, li_100, li_102, li_103, li_104, li_112, li_115, li_116, li_118, li_119, li_121, li_124, li_132, li_255, li_256, li_1000, li_2000, li_1000000000, iI_add, iI_sub, iI_mul, iI_neg, iI_lt, iI_le, iI_eq, iI_clamp, iI_s, iI_m1, iI_div, bs, tn, tn4, tn12, tn20, tn124, tn28, itT, itF, if_pos, if_neg, f_X8_water, g1, bse])
theorem cRegret {S : St} {a : Nat → Int} {j now : Nat} (hc : RC S 1 a) (hw : WFa a) (hj : j < 8) (hs : (j : Int) < a 0) (hn : now ≤ 11) (p1 : S.1 1 1 = iI now) : f_X7_regret (iI j) S = some (iI (if 0 < sG a j (sGY a j now) - sHow a j now then sG a j (sGY a j now) - sHow a j now else 0), S) := by
  have h8 := hw.1
  have ht := hc.t hj hs
  have hwt := hw.t hj
  have e1 : f_X3_lacks 1 (iI j) S = some (iI 0) := by rw [cLacks hc hw (by omega) (by omega), if_pos (by omega)]
  have e2 := cAt (S := S) (q := 1) hj
  have e3 := cGY ht hwt hn
  have yb := sGY_le a j now
  have e4 := cG ht (y := sGY a j now) (by omega)
  have e5 := cHow ht hwt hn
  have b1 := sG_b hwt (y := sGY a j now) (by omega)
  have b2 := sHow_b hwt hn
  rw [f_X7_regret, e1, bs, if_pos (show iI 0 = 0 from rfl), e2, bs, p1, e3, bs, e4, bs, e5, bs]
  by_cases c1 : 0 < sG a j (sGY a j now) - sHow a j now
  · simp (disch := omega) only [li_0, li_1, li_2, li_3, li_4, li_5, li_6, li_7, li_8, li_9, li_10, li_11, li_12, li_16, li_19, li_20, li_28, li_48, li_57, li_59, li_60, li_96, li_97, li_99, li_100, li_102, li_103, li_104, li_112, li_115, li_116, li_118, li_119, li_121, li_124, li_132, li_255, li_256, li_1000, li_2000, li_1000000000, iI_add, iI_sub, iI_mul, iI_neg, iI_lt, iI_le, iI_eq, iI_clamp, iI_s, iI_m1, iI_div, bs, tn, tn4, tn12, tn20, tn124, tn28, itT, itF, if_pos, if_neg]
  · simp (disch := omega) only [li_0, li_1, li_2, li_3, li_4, li_5, li_6, li_7, li_8, li_9, li_10, li_11, li_12, li_16, li_19, li_20, li_28, li_48, li_57, li_59, li_60, li_96, li_97, li_99, li_100, li_102, li_103, li_104, li_112, li_115, li_116, li_118, li_119, li_121, li_124, li_132, li_255, li_256, li_1000, li_2000, li_1000000000, iI_add, iI_sub, iI_mul, iI_neg, iI_lt, iI_le, iI_eq, iI_clamp, iI_s, iI_m1, iI_div, bs, tn, tn4, tn12, tn20, tn124, tn28, itT, itF, if_pos, if_neg]
theorem rRegret {S : St} {a : Nat → Int} {j now N : Nat} (hm : ∀ k, k < 132 → S.1 75 k = iI (a k)) (hw : WFa a) (hN : a 0 = N) (hj : j < 8) (hs : j < N) (hn : now ≤ 11) (hn1 : a 1 = now) : f_X8_regret (iI j) S = some (iI (if 0 < sG a j (sGY a j now) - sHow a j now then sG a j (sGY a j now) - sHow a j now else 0), S) := by
  have h8 := hw.1
  have hwt := hw.t hj
  have m0 : S.1 75 0 = iI N := by rw [hm 0 (by omega), hN]
  have g1 : f_X8_isThing (iI j) S = some (iI 1) := by rw [rThing m0 (by omega) (by omega) (by omega), if_pos (by omega)]
  have yb := sGY_le a j now
  have g3 := rGY hm hj hwt hn hn1
  have g4 : S.1 75 (28 + 12 * j + sGY a j now) = iI (sG a j (sGY a j now)) := hm _ (by omega)
  have g5 := rHow hm hj hwt hn hn1
  have b1 := sG_b hwt (y := sGY a j now) (by omega)
  have b2 := sHow_b hwt hn
  have g6 := rMost (x := 0) (y := sG a j (sGY a j now) - sHow a j now) (by omega) (by omega) (by omega) (by omega)
  have e6 : (if 0 < sG a j (sGY a j now) - sHow a j now then sG a j (sGY a j now) - sHow a j now else 0) = (if 0 ≤ sG a j (sGY a j now) - sHow a j now then sG a j (sGY a j now) - sHow a j now else 0) := by
    by_cases c1 : 0 < sG a j (sGY a j now) - sHow a j now
    · rw [if_pos c1, if_pos (by omega)]
    · rw [if_neg c1]
      by_cases c2 : 0 ≤ sG a j (sGY a j now) - sHow a j now
      · rw [if_pos c2]; omega
      · rw [if_neg c2]
  rw [e6, f_X8_regret, g1, bs, if_neg (by decide), g3, bs, rAt, bs]
  simp (disch := omega) only [li_0, li_1, li_2, li_3, li_4, li_5, li_6, li_7, li_8, li_9, li_10, li_11, li_12, li_16, li_19, li_20, li_28, li_48, li_57, li_59, li_60, li_96, li_97, li_99, li_100, li_102, li_103, li_104, li_112, li_115, li_116, li_118, li_119, li_121, li_124, li_132, li_255, li_256, li_1000, li_2000, li_1000000000, iI_add, iI_sub, iI_mul, iI_neg, iI_lt, iI_le, iI_eq, iI_clamp, iI_s, iI_m1, iI_div, bs, tn, tn4, tn12, tn20, tn124, tn28, itT, itF, if_pos, if_neg, g4, g5, g6]
theorem e_regret {S : St} (hS : Inv S) (a1 : Int32) : ∃ (z1 : Int32 × St) (z2 : Int32 × St), f_X7_regret a1 S = some z1 ∧ f_X8_regret a1 z1.2 = some z2 ∧ z1.1 = z2.1 ∧ Inv z2.2 := by
  obtain ⟨⟨a, hw, hc, hm0⟩, -⟩ := id hS
  have hm : ∀ k, k < 132 → S.1 75 k = iI (a k) := hm0
  have h8 := hw.1
  have w1 := hw.2.1
  have w2 := hw.2.2.1
  have w3 := hw.2.2.2.1
  obtain ⟨now, hnow⟩ : ∃ n : Nat, a 1 = n := ⟨(a 1).toNat, by omega⟩
  obtain ⟨N, hN⟩ : ∃ n : Nat, a 0 = n := ⟨(a 0).toNat, by omega⟩
  have hn : now ≤ 11 := by omega
  have hN8 : N ≤ 8 := by omega
  have p1 : S.1 1 1 = iI now := by rw [hc.1 1 (by omega), hnow]
  have p0 : S.1 1 0 = iI N := by rw [hc.1 0 (by omega), hN]
  have m0 : S.1 75 0 = iI N := by rw [hm 0 (by omega), hN]
  have m1 : S.1 75 1 = iI now := by rw [hm 1 (by omega), hnow]
  obtain ⟨x, x1, x2, rfl⟩ := iI_any a1
  have e1 := cLacks hc hw x1 x2
  by_cases c : 0 ≤ x ∧ x < a 0
  · obtain ⟨j, rfl⟩ : ∃ n : Nat, x = n := ⟨x.toNat, by omega⟩
    have ht := hc.t (j := j) (by omega) (by omega)
    have hwt := hw.t (j := j) (by omega)
    have e2 := cAt (S := S) (q := 1) (j := j) (by omega)
    exact e_mk (cRegret hc hw (j := j) (by omega) (by omega) hn p1) (rRegret hm hw hN (j := j) (by omega) (by omega) hn hnow) hS
  · exact e_no hS (-1) 1 (by omega) (by omega) (by simp (disch := omega) only [li_0, li_1, li_2, li_3, li_4, li_5, li_6, li_7, li_8, li_9, li_10, li_11, li_12, li_16, li_19, li_20, li_28, li_48, li_57, li_59, li_60, li_96, li_97, li_99, li_100, li_102, li_103, li_104, li_112, li_115, li_116, li_118, li_119, li_121, li_124, li_132, li_255, li_256, li_1000, li_2000, li_1000000000, iI_add, iI_sub, iI_mul, iI_neg, iI_lt, iI_le, iI_eq, iI_clamp, iI_s, iI_m1, iI_div, bs, tn, tn4, tn12, tn20, tn124, tn28, itT, itF, if_pos, if_neg, f_X7_regret, e1, bse]) (fun S1 q1 q2 => by
      have g1 := rThing (S := S1) (by rw [q1]; exact m0) hN8 x1 x2
      simp (disch := omega) only [li_0, li_1, li_2, li_3, li_4, li_5, li_6, li_7, li_8, li_9, li_10, li_11, li_12, li_16, li_19, li_20, li_28, li_48, li_57, li_59, li_60, li_96, li_97, li_99, li_100, li_102, li_103, li_104, li_112, li_115, li_116, li_118, li_119, li_121, li_124, li_132, li_255, li_256, li_1000, li_2000, li_1000000000, iI_add, iI_sub, iI_mul, iI_neg, iI_lt, iI_le, iI_eq, iI_clamp, iI_s, iI_m1, iI_div, bs, tn, tn4, tn12, tn20, tn124, tn28, itT, itF, if_pos, if_neg, f_X8_regret, g1, bse])
theorem cCanL {S : St} {a : Nat → Int} {j now : Nat} (hc : RC S 1 a) (hw : WFa a) (hj : j < 8) (hs : (j : Int) < a 0) (hn : now ≤ 11) (p1 : S.1 1 1 = iI now) {k : Int32 → Option (Int32 × St)} :
    ∀ d n u : Nat, u + d = 20 → d < n → f_X7_can_L21 n (iI j) (sCan a j now u) (iI u) S k = k (sCan a j now 20) := by
  intro d
  induction d with
  | zero =>
    intro n u hu hd
    obtain ⟨n, rfl⟩ : ∃ p, n = p + 1 := ⟨n - 1, by omega⟩
    obtain rfl : u = 20 := by omega
    rw [f_X7_can_L21]
    simp (disch := omega) only [li_0, li_1, li_2, li_3, li_4, li_5, li_6, li_7, li_8, li_9, li_10, li_11, li_12, li_16, li_19, li_20, li_28, li_48, li_57, li_59, li_60, li_96, li_97, li_99, li_100, li_102, li_103, li_104, li_112, li_115, li_116, li_118, li_119, li_121, li_124, li_132, li_255, li_256, li_1000, li_2000, li_1000000000, iI_add, iI_sub, iI_mul, iI_neg, iI_lt, iI_le, iI_eq, iI_clamp, iI_s, iI_m1, iI_div, bs, tn, tn4, tn12, tn20, tn124, tn28, itT, itF, if_pos, if_neg]
  | succ d ih =>
    intro n u hu hd
    obtain ⟨n, rfl⟩ : ∃ p, n = p + 1 := ⟨n - 1, by omega⟩
    have e0 := cY (hc.t hj hs) (hw.t hj) hn (m := 5 * (u : Int)) (f := 0) (by omega) (by omega)
    have ec : (u : Int) * 5 = 5 * (u : Int) := Int.mul_comm _ _
    have e2 := cAt (S := S) (q := 1) hj
    have i1 := ih n (u + 1) (by omega) (by omega)
    rw [sCan] at i1
    rw [f_X7_can_L21]
    simp (disch := omega) only [li_0, li_1, li_2, li_3, li_4, li_5, li_6, li_7, li_8, li_9, li_10, li_11, li_12, li_16, li_19, li_20, li_28, li_48, li_57, li_59, li_60, li_96, li_97, li_99, li_100, li_102, li_103, li_104, li_112, li_115, li_116, li_118, li_119, li_121, li_124, li_132, li_255, li_256, li_1000, li_2000, li_1000000000, iI_add, iI_sub, iI_mul, iI_neg, iI_lt, iI_le, iI_eq, iI_clamp, iI_s, iI_m1, iI_div, bs, tn, tn4, tn12, tn20, tn124, tn28, itT, itF, if_pos, if_neg, ec, e2, p1, e0, i1]
theorem e_can {S : St} (hS : Inv S) (a1 : Int32) : ∃ (z1 : Int32 × St) (z2 : Int32 × St), f_X7_can a1 S = some z1 ∧ f_X8_can a1 z1.2 = some z2 ∧ z1.1 = z2.1 ∧ Inv z2.2 := by
  obtain ⟨⟨a, hw, hc, hm0⟩, -⟩ := id hS
  have hm : ∀ k, k < 132 → S.1 75 k = iI (a k) := hm0
  have h8 := hw.1
  have w1 := hw.2.1
  have w2 := hw.2.2.1
  have w3 := hw.2.2.2.1
  obtain ⟨now, hnow⟩ : ∃ n : Nat, a 1 = n := ⟨(a 1).toNat, by omega⟩
  obtain ⟨N, hN⟩ : ∃ n : Nat, a 0 = n := ⟨(a 0).toNat, by omega⟩
  have hn : now ≤ 11 := by omega
  have hN8 : N ≤ 8 := by omega
  have p1 : S.1 1 1 = iI now := by rw [hc.1 1 (by omega), hnow]
  have p0 : S.1 1 0 = iI N := by rw [hc.1 0 (by omega), hN]
  have m0 : S.1 75 0 = iI N := by rw [hm 0 (by omega), hN]
  have m1 : S.1 75 1 = iI now := by rw [hm 1 (by omega), hnow]
  obtain ⟨x, x1, x2, rfl⟩ := iI_any a1
  have e1 := cLacks hc hw x1 x2
  have g1 := rThing m0 hN8 x1 x2
  by_cases c : 0 ≤ x ∧ x < a 0
  · obtain ⟨j, rfl⟩ : ∃ n : Nat, x = n := ⟨x.toNat, by omega⟩
    have ht := hc.t (j := j) (by omega) (by omega)
    have hwt := hw.t (j := j) (by omega)
    have e2 := cAt (S := S) (q := 1) (j := j) (by omega)
    have e3 : f_X7_can_L21 2000 (iI j) (iI 0) (iI 0) S (fun y6 => some (y6, S)) = some (sCan a j now 20, S) := cCanL hc hw (by omega) (by omega) hn p1 20 2000 0 (by omega) (by omega)
    have g3 := rCan hm (by omega) hwt hn hnow
    exact e_mk (v := sCan a j now 20) (S1 := S) (S2 := S) (by simp (disch := omega) only [li_0, li_1, li_2, li_3, li_4, li_5, li_6, li_7, li_8, li_9, li_10, li_11, li_12, li_16, li_19, li_20, li_28, li_48, li_57, li_59, li_60, li_96, li_97, li_99, li_100, li_102, li_103, li_104, li_112, li_115, li_116, li_118, li_119, li_121, li_124, li_132, li_255, li_256, li_1000, li_2000, li_1000000000, iI_add, iI_sub, iI_mul, iI_neg, iI_lt, iI_le, iI_eq, iI_clamp, iI_s, iI_m1, iI_div, bs, tn, tn4, tn12, tn20, tn124, tn28, itT, itF, if_pos, if_neg, f_X7_can, e1, e3]) (by simp (disch := omega) only [li_0, li_1, li_2, li_3, li_4, li_5, li_6, li_7, li_8, li_9, li_10, li_11, li_12, li_16, li_19, li_20, li_28, li_48, li_57, li_59, li_60, li_96, li_97, li_99, li_100, li_102, li_103, li_104, li_112, li_115, li_116, li_118, li_119, li_121, li_124, li_132, li_255, li_256, li_1000, li_2000, li_1000000000, iI_add, iI_sub, iI_mul, iI_neg, iI_lt, iI_le, iI_eq, iI_clamp, iI_s, iI_m1, iI_div, bs, tn, tn4, tn12, tn20, tn124, tn28, itT, itF, if_pos, if_neg, f_X8_can, g1, g3]) hS
  · exact e_no hS (-1) 1 (by omega) (by omega) (by simp (disch := omega) only [li_0, li_1, li_2, li_3, li_4, li_5, li_6, li_7, li_8, li_9, li_10, li_11, li_12, li_16, li_19, li_20, li_28, li_48, li_57, li_59, li_60, li_96, li_97, li_99, li_100, li_102, li_103, li_104, li_112, li_115, li_116, li_118, li_119, li_121, li_124, li_132, li_255, li_256, li_1000, li_2000, li_1000000000, iI_add, iI_sub, iI_mul, iI_neg, iI_lt, iI_le, iI_eq, iI_clamp, iI_s, iI_m1, iI_div, bs, tn, tn4, tn12, tn20, tn124, tn28, itT, itF, if_pos, if_neg, f_X7_can, e1, bse]) (fun S1 q1 q2 => by
      have g1 := rThing (S := S1) (by rw [q1]; exact m0) hN8 x1 x2
      simp (disch := omega) only [li_0, li_1, li_2, li_3, li_4, li_5, li_6, li_7, li_8, li_9, li_10, li_11, li_12, li_16, li_19, li_20, li_28, li_48, li_57, li_59, li_60, li_96, li_97, li_99, li_100, li_102, li_103, li_104, li_112, li_115, li_116, li_118, li_119, li_121, li_124, li_132, li_255, li_256, li_1000, li_2000, li_1000000000, iI_add, iI_sub, iI_mul, iI_neg, iI_lt, iI_le, iI_eq, iI_clamp, iI_s, iI_m1, iI_div, bs, tn, tn4, tn12, tn20, tn124, tn28, itT, itF, if_pos, if_neg, f_X8_can, g1, bse])
theorem e_fewest {S : St} (hS : Inv S) (a1 : Int32) (a2 : Int32) : ∃ (z1 : Int32 × St) (z2 : Int32 × St), f_X7_fewest a1 a2 S = some z1 ∧ f_X8_fewest a1 a2 z1.2 = some z2 ∧ z1.1 = z2.1 ∧ Inv z2.2 := by
  obtain ⟨⟨a, hw, hc, hm0⟩, -⟩ := id hS
  have hm : ∀ k, k < 132 → S.1 75 k = iI (a k) := hm0
  have h8 := hw.1
  have w1 := hw.2.1
  have w2 := hw.2.2.1
  have w3 := hw.2.2.2.1
  obtain ⟨now, hnow⟩ : ∃ n : Nat, a 1 = n := ⟨(a 1).toNat, by omega⟩
  obtain ⟨N, hN⟩ : ∃ n : Nat, a 0 = n := ⟨(a 0).toNat, by omega⟩
  have hn : now ≤ 11 := by omega
  have hN8 : N ≤ 8 := by omega
  have p1 : S.1 1 1 = iI now := by rw [hc.1 1 (by omega), hnow]
  have p0 : S.1 1 0 = iI N := by rw [hc.1 0 (by omega), hN]
  have m0 : S.1 75 0 = iI N := by rw [hm 0 (by omega), hN]
  have m1 : S.1 75 1 = iI now := by rw [hm 1 (by omega), hnow]
  obtain ⟨x, x1, x2, rfl⟩ := iI_any a1
  obtain ⟨y, y1, y2, rfl⟩ := iI_any a2
  have e1 := cLacks hc hw x1 x2
  have g1 := rThing m0 hN8 x1 x2
  have e3 := cNo y1 y2
  have g3 := rYear y1 y2
  by_cases c : 0 ≤ x ∧ x < a 0
  · obtain ⟨j, rfl⟩ : ∃ n : Nat, x = n := ⟨x.toNat, by omega⟩
    have ht := hc.t (j := j) (by omega) (by omega)
    have hwt := hw.t (j := j) (by omega)
    have e2 := cAt (S := S) (q := 1) (j := j) (by omega)
    by_cases cy : 0 ≤ y ∧ y < 12
    · obtain ⟨u, rfl⟩ : ∃ n : Nat, y = n := ⟨y.toNat, by omega⟩
      have e4 := cFew ht hwt hn (y := u) (by omega)
      have g4 := rFew hm (by omega) hwt hn hnow (y := u) (by omega)
      exact e_mk (v := iI (sFw a j now u)) (S1 := S) (S2 := S) (by simp (disch := omega) only [li_0, li_1, li_2, li_3, li_4, li_5, li_6, li_7, li_8, li_9, li_10, li_11, li_12, li_16, li_19, li_20, li_28, li_48, li_57, li_59, li_60, li_96, li_97, li_99, li_100, li_102, li_103, li_104, li_112, li_115, li_116, li_118, li_119, li_121, li_124, li_132, li_255, li_256, li_1000, li_2000, li_1000000000, iI_add, iI_sub, iI_mul, iI_neg, iI_lt, iI_le, iI_eq, iI_clamp, iI_s, iI_m1, iI_div, bs, tn, tn4, tn12, tn20, tn124, tn28, itT, itF, if_pos, if_neg, f_X7_fewest, e1, e2, e3, p1, e4]) (by simp (disch := omega) only [li_0, li_1, li_2, li_3, li_4, li_5, li_6, li_7, li_8, li_9, li_10, li_11, li_12, li_16, li_19, li_20, li_28, li_48, li_57, li_59, li_60, li_96, li_97, li_99, li_100, li_102, li_103, li_104, li_112, li_115, li_116, li_118, li_119, li_121, li_124, li_132, li_255, li_256, li_1000, li_2000, li_1000000000, iI_add, iI_sub, iI_mul, iI_neg, iI_lt, iI_le, iI_eq, iI_clamp, iI_s, iI_m1, iI_div, bs, tn, tn4, tn12, tn20, tn124, tn28, itT, itF, if_pos, if_neg, f_X8_fewest, g1, g3, g4]) hS
    · exact e_no hS (-1) 1 (by omega) (by omega) (by simp (disch := omega) only [li_0, li_1, li_2, li_3, li_4, li_5, li_6, li_7, li_8, li_9, li_10, li_11, li_12, li_16, li_19, li_20, li_28, li_48, li_57, li_59, li_60, li_96, li_97, li_99, li_100, li_102, li_103, li_104, li_112, li_115, li_116, li_118, li_119, li_121, li_124, li_132, li_255, li_256, li_1000, li_2000, li_1000000000, iI_add, iI_sub, iI_mul, iI_neg, iI_lt, iI_le, iI_eq, iI_clamp, iI_s, iI_m1, iI_div, bs, tn, tn4, tn12, tn20, tn124, tn28, itT, itF, if_pos, if_neg, f_X7_fewest, e1, e3, bse]) (fun S1 q1 q2 => by
        have g1 := rThing (S := S1) (by rw [q1]; exact m0) hN8 x1 x2
        simp (disch := omega) only [li_0, li_1, li_2, li_3, li_4, li_5, li_6, li_7, li_8, li_9, li_10, li_11, li_12, li_16, li_19, li_20, li_28, li_48, li_57, li_59, li_60, li_96, li_97, li_99, li_100, li_102, li_103, li_104, li_112, li_115, li_116, li_118, li_119, li_121, li_124, li_132, li_255, li_256, li_1000, li_2000, li_1000000000, iI_add, iI_sub, iI_mul, iI_neg, iI_lt, iI_le, iI_eq, iI_clamp, iI_s, iI_m1, iI_div, bs, tn, tn4, tn12, tn20, tn124, tn28, itT, itF, if_pos, if_neg, f_X8_fewest, g1, g3, bse])
  · exact e_no hS (-1) 1 (by omega) (by omega) (by simp (disch := omega) only [li_0, li_1, li_2, li_3, li_4, li_5, li_6, li_7, li_8, li_9, li_10, li_11, li_12, li_16, li_19, li_20, li_28, li_48, li_57, li_59, li_60, li_96, li_97, li_99, li_100, li_102, li_103, li_104, li_112, li_115, li_116, li_118, li_119, li_121, li_124, li_132, li_255, li_256, li_1000, li_2000, li_1000000000, iI_add, iI_sub, iI_mul, iI_neg, iI_lt, iI_le, iI_eq, iI_clamp, iI_s, iI_m1, iI_div, bs, tn, tn4, tn12, tn20, tn124, tn28, itT, itF, if_pos, if_neg, f_X7_fewest, e1, bse]) (fun S1 q1 q2 => by
      have g1 := rThing (S := S1) (by rw [q1]; exact m0) hN8 x1 x2
      simp (disch := omega) only [li_0, li_1, li_2, li_3, li_4, li_5, li_6, li_7, li_8, li_9, li_10, li_11, li_12, li_16, li_19, li_20, li_28, li_48, li_57, li_59, li_60, li_96, li_97, li_99, li_100, li_102, li_103, li_104, li_112, li_115, li_116, li_118, li_119, li_121, li_124, li_132, li_255, li_256, li_1000, li_2000, li_1000000000, iI_add, iI_sub, iI_mul, iI_neg, iI_lt, iI_le, iI_eq, iI_clamp, iI_s, iI_m1, iI_div, bs, tn, tn4, tn12, tn20, tn124, tn28, itT, itF, if_pos, if_neg, f_X8_fewest, g1, bse])
-- ===== calls of all things =====
theorem e_gladness {S : St} (hS : Inv S)  : ∃ (z1 : Int32) (z2 : Int32), f_X7_gladness S = some z1 ∧ f_X8_gladness S = some z2 ∧ z1 = z2 ∧ Inv S := by
  obtain ⟨⟨a, hw, hc, hm0⟩, -⟩ := id hS
  have hm : ∀ k, k < 132 → S.1 75 k = iI (a k) := hm0
  have h8 := hw.1
  have w1 := hw.2.1
  have w2 := hw.2.2.1
  have w3 := hw.2.2.2.1
  obtain ⟨now, hnow⟩ : ∃ n : Nat, a 1 = n := ⟨(a 1).toNat, by omega⟩
  obtain ⟨N, hN⟩ : ∃ n : Nat, a 0 = n := ⟨(a 0).toNat, by omega⟩
  have hn : now ≤ 11 := by omega
  have hN8 : N ≤ 8 := by omega
  have p1 : S.1 1 1 = iI now := by rw [hc.1 1 (by omega), hnow]
  have p0 : S.1 1 0 = iI N := by rw [hc.1 0 (by omega), hN]
  have m0 : S.1 75 0 = iI N := by rw [hm 0 (by omega), hN]
  have m1 : S.1 75 1 = iI now := by rw [hm 1 (by omega), hnow]
  have e1 := cAll hc hw hN hn
  have g1 := rAll hm (fun j hj => hw.t (by omega)) hN hN8 hn hnow
  exact ⟨iI (sAll a N now), iI (sAll a N now), by simp (disch := omega) only [li_0, li_1, li_2, li_3, li_4, li_5, li_6, li_7, li_8, li_9, li_10, li_11, li_12, li_16, li_19, li_20, li_28, li_48, li_57, li_59, li_60, li_96, li_97, li_99, li_100, li_102, li_103, li_104, li_112, li_115, li_116, li_118, li_119, li_121, li_124, li_132, li_255, li_256, li_1000, li_2000, li_1000000000, iI_add, iI_sub, iI_mul, iI_neg, iI_lt, iI_le, iI_eq, iI_clamp, iI_s, iI_m1, iI_div, bs, tn, tn4, tn12, tn20, tn124, tn28, itT, itF, if_pos, if_neg, f_X7_gladness, p1, e1], by simp (disch := omega) only [li_0, li_1, li_2, li_3, li_4, li_5, li_6, li_7, li_8, li_9, li_10, li_11, li_12, li_16, li_19, li_20, li_28, li_48, li_57, li_59, li_60, li_96, li_97, li_99, li_100, li_102, li_103, li_104, li_112, li_115, li_116, li_118, li_119, li_121, li_124, li_132, li_255, li_256, li_1000, li_2000, li_1000000000, iI_add, iI_sub, iI_mul, iI_neg, iI_lt, iI_le, iI_eq, iI_clamp, iI_s, iI_m1, iI_div, bs, tn, tn4, tn12, tn20, tn124, tn28, itT, itF, if_pos, if_neg, f_X8_gladness, g1], rfl, hS⟩
theorem sG_st1 (a : Nat → Int) (v : Int) (j y : Nat) : sG (st a 1 v) j y = sG a j y := st_n (by omega)
theorem sHow_st1 (a : Nat → Int) (v : Int) (j now : Nat) : sHow (st a 1 v) j now = sHow a j now := by
  unfold sHow
  rw [st_n (by omega), sG_st1, sG_st1]
theorem sAll_st1 (a : Nat → Int) (v : Int) (N now : Nat) : sAll (st a 1 v) N now = sAll a N now := by
  unfold sAll
  congr 1
  funext j
  exact sHow_st1 a v j now
theorem e_oneMore {S : St} (hS : Inv S)  : ∃ (z1 : Int32) (z2 : Int32 × St), f_X7_oneMore S = some z1 ∧ f_X8_oneMore S = some z2 ∧ z1 = z2.1 ∧ Inv z2.2 := by
  obtain ⟨⟨a, hw, hc, hm0⟩, -⟩ := id hS
  have hm : ∀ k, k < 132 → S.1 75 k = iI (a k) := hm0
  have h8 := hw.1
  have w1 := hw.2.1
  have w2 := hw.2.2.1
  have w3 := hw.2.2.2.1
  obtain ⟨now, hnow⟩ : ∃ n : Nat, a 1 = n := ⟨(a 1).toNat, by omega⟩
  obtain ⟨N, hN⟩ : ∃ n : Nat, a 0 = n := ⟨(a 0).toNat, by omega⟩
  have hn : now ≤ 11 := by omega
  have hN8 : N ≤ 8 := by omega
  have p1 : S.1 1 1 = iI now := by rw [hc.1 1 (by omega), hnow]
  have p0 : S.1 1 0 = iI N := by rw [hc.1 0 (by omega), hN]
  have m0 : S.1 75 0 = iI N := by rw [hm 0 (by omega), hN]
  have m1 : S.1 75 1 = iI now := by rw [hm 1 (by omega), hnow]
  obtain ⟨nx, hnx⟩ : ∃ nx : Nat, nx = if 11 < now + 1 then 11 else now + 1 := ⟨_, rfl⟩
  have hx : nx ≤ 11 := by rw [hnx]; split <;> omega
  have e0 : (if (11 : Int32) < (iI now + 1) then 11 else iI now + 1) = iI nx := by
    rw [hnx]
    by_cases c : 11 < now + 1
    · simp (disch := omega) only [li_0, li_1, li_2, li_3, li_4, li_5, li_6, li_7, li_8, li_9, li_10, li_11, li_12, li_16, li_19, li_20, li_28, li_48, li_57, li_59, li_60, li_96, li_97, li_99, li_100, li_102, li_103, li_104, li_112, li_115, li_116, li_118, li_119, li_121, li_124, li_132, li_255, li_256, li_1000, li_2000, li_1000000000, iI_add, iI_sub, iI_mul, iI_neg, iI_lt, iI_le, iI_eq, iI_clamp, iI_s, iI_m1, iI_div, bs, tn, tn4, tn12, tn20, tn124, tn28, itT, itF, if_pos, if_neg]
      rfl
    · simp (disch := omega) only [li_0, li_1, li_2, li_3, li_4, li_5, li_6, li_7, li_8, li_9, li_10, li_11, li_12, li_16, li_19, li_20, li_28, li_48, li_57, li_59, li_60, li_96, li_97, li_99, li_100, li_102, li_103, li_104, li_112, li_115, li_116, li_118, li_119, li_121, li_124, li_132, li_255, li_256, li_1000, li_2000, li_1000000000, iI_add, iI_sub, iI_mul, iI_neg, iI_lt, iI_le, iI_eq, iI_clamp, iI_s, iI_m1, iI_div, bs, tn, tn4, tn12, tn20, tn124, tn28, itT, itF, if_pos, if_neg]
  have e1 := cAll hc hw hN hx
  obtain ⟨S1, d1, d2, d3⟩ := rLays (q0 := 75) (q1 := 76) (by omega) S
  have f0 : f_X8_least 11 (iI now + 1) = some (iI nx) := by
    rw [hnx]
    by_cases c : 11 < now + 1
    · simp (disch := omega) only [li_0, li_1, li_2, li_3, li_4, li_5, li_6, li_7, li_8, li_9, li_10, li_11, li_12, li_16, li_19, li_20, li_28, li_48, li_57, li_59, li_60, li_96, li_97, li_99, li_100, li_102, li_103, li_104, li_112, li_115, li_116, li_118, li_119, li_121, li_124, li_132, li_255, li_256, li_1000, li_2000, li_1000000000, iI_add, iI_sub, iI_mul, iI_neg, iI_lt, iI_le, iI_eq, iI_clamp, iI_s, iI_m1, iI_div, bs, tn, tn4, tn12, tn20, tn124, tn28, itT, itF, if_pos, if_neg, f_X8_least]
      rfl
    · simp (disch := omega) only [li_0, li_1, li_2, li_3, li_4, li_5, li_6, li_7, li_8, li_9, li_10, li_11, li_12, li_16, li_19, li_20, li_28, li_48, li_57, li_59, li_60, li_96, li_97, li_99, li_100, li_102, li_103, li_104, li_112, li_115, li_116, li_118, li_119, li_121, li_124, li_132, li_255, li_256, li_1000, li_2000, li_1000000000, iI_add, iI_sub, iI_mul, iI_neg, iI_lt, iI_le, iI_eq, iI_clamp, iI_s, iI_m1, iI_div, bs, tn, tn4, tn12, tn20, tn124, tn28, itT, itF, if_pos, if_neg, f_X8_least]
  have f1 : S1.1 75 1 = iI now := by rw [d2 _ _ (by omega)]; exact m1
  have hm6 : RM S1 76 a := fun k hk => by rw [d3 k hk]; exact hm k hk
  have hm7 : RM (up S1 76 1 (iI nx)) 76 (st a 1 nx) := hm6.st 1 nx
  have hw7 : WFa (st a 1 nx) := hw.st0 (by omega)
  have g1 := rAll hm7 (N := N) (fun j hj => hw7.t (by omega)) (by rw [st_n (by omega)]; exact hN) hN8 hx (st_s _ _ _)
  rw [sAll_st1] at g1
  refine ⟨iI (sAll a N nx), (iI (sAll a N nx), up S1 76 1 (iI nx)), ?_, ?_, rfl, ?_⟩
  · rw [f_X7_oneMore, p1, e0, e1]
    rfl
  · rw [f_X8_oneMore, d1, bs, f1, f0, bs, g1]
    rfl
  · refine hS.sm (fun i k h => ?_)
    unfold scr at h
    rw [up_n (by omega), d2 _ _ (by omega)]
def sBW (f : Nat → Int) : Nat → Int × Int
  | 0 => (-9, 0)
  | x + 1 => if (sBW f x).2 < f x then ((x : Int), f x) else sBW f x
theorem sBW_b (f : Nat → Int) : ∀ x, (∀ y, y < x → f y ≤ 99) → 0 ≤ (sBW f x).2 ∧ (sBW f x).2 ≤ 99 := by
  intro x
  induction x with
  | zero => intro _; exact ⟨Int.le_refl _, by show (0 : Int) ≤ 99; omega⟩
  | succ x ih =>
    intro h
    have h1 := ih (fun y hy => h y (by omega))
    have h2 := h x (by omega)
    rw [sBW]
    split
    · show 0 ≤ f x ∧ f x ≤ 99
      omega
    · exact h1
theorem cBWL {S : St} {a : Nat → Int} {N now : Nat} (hc : RC S 1 a) (hw : WFa a) (hN : a 0 = N) (hn : now ≤ 11) (p1 : S.1 1 1 = iI now) {k : Int32 → Option Int32} :
    ∀ d n x : Nat, x + d = N → d < n → f_X7_bestWash_L7 n (iI (sBW (fun j => sWash a j now) x).1) (iI (sBW (fun j => sWash a j now) x).2) (iI x) S k = k (iI (sBW (fun j => sWash a j now) N).1) := by
  have h8 := hw.1
  have e0 : S.1 1 0 = iI N := by rw [hc.1 0 (by omega), hN]
  intro d
  induction d with
  | zero =>
    intro n x hx hd
    obtain ⟨n, rfl⟩ : ∃ p, n = p + 1 := ⟨n - 1, by omega⟩
    obtain rfl : x = N := by omega
    rw [f_X7_bestWash_L7]
    simp (disch := omega) only [li_0, li_1, li_2, li_3, li_4, li_5, li_6, li_7, li_8, li_9, li_10, li_11, li_12, li_16, li_19, li_20, li_28, li_48, li_57, li_59, li_60, li_96, li_97, li_99, li_100, li_102, li_103, li_104, li_112, li_115, li_116, li_118, li_119, li_121, li_124, li_132, li_255, li_256, li_1000, li_2000, li_1000000000, iI_add, iI_sub, iI_mul, iI_neg, iI_lt, iI_le, iI_eq, iI_clamp, iI_s, iI_m1, iI_div, bs, tn, tn4, tn12, tn20, tn124, tn28, itT, itF, if_pos, if_neg, e0]
  | succ d ih =>
    intro n x hx hd
    obtain ⟨n, rfl⟩ : ∃ p, n = p + 1 := ⟨n - 1, by omega⟩
    have i1 := ih n (x + 1) (by omega) (by omega)
    have e1 := cAt (S := S) (q := 1) (j := x) (by omega)
    have e2 := cMore (hc.t (j := x) (by omega) (by omega)) (hw.t (by omega)) hn
    have b1 := sWash_b (hw.t (j := x) (by omega)) hn
    have b2 := sBW_b (fun j => sWash a j now) x (fun y hy => (sWash_b (hw.t (j := y) (by omega)) hn).2)
    rw [sBW] at i1
    rw [f_X7_bestWash_L7]
    by_cases c : (sBW (fun j => sWash a j now) x).2 < sWash a x now
    · rw [if_pos c] at i1
      simp (disch := omega) only [li_0, li_1, li_2, li_3, li_4, li_5, li_6, li_7, li_8, li_9, li_10, li_11, li_12, li_16, li_19, li_20, li_28, li_48, li_57, li_59, li_60, li_96, li_97, li_99, li_100, li_102, li_103, li_104, li_112, li_115, li_116, li_118, li_119, li_121, li_124, li_132, li_255, li_256, li_1000, li_2000, li_1000000000, iI_add, iI_sub, iI_mul, iI_neg, iI_lt, iI_le, iI_eq, iI_clamp, iI_s, iI_m1, iI_div, bs, tn, tn4, tn12, tn20, tn124, tn28, itT, itF, if_pos, if_neg, e0, e1, p1, e2, i1]
    · rw [if_neg c] at i1
      simp (disch := omega) only [li_0, li_1, li_2, li_3, li_4, li_5, li_6, li_7, li_8, li_9, li_10, li_11, li_12, li_16, li_19, li_20, li_28, li_48, li_57, li_59, li_60, li_96, li_97, li_99, li_100, li_102, li_103, li_104, li_112, li_115, li_116, li_118, li_119, li_121, li_124, li_132, li_255, li_256, li_1000, li_2000, li_1000000000, iI_add, iI_sub, iI_mul, iI_neg, iI_lt, iI_le, iI_eq, iI_clamp, iI_s, iI_m1, iI_div, bs, tn, tn4, tn12, tn20, tn124, tn28, itT, itF, if_pos, if_neg, e0, e1, p1, e2, i1]
theorem rBWL {S : St} {a : Nat → Int} {N now : Nat} (hm : ∀ k, k < 132 → S.1 75 k = iI (a k)) (hw : WFa a) (hN : a 0 = N) (hn : now ≤ 11) (hn1 : a 1 = now) {k : Int32 → Option Int32} :
    ∀ d n x : Nat, x + d = N → d < n → f_X8_bestWash_L7 n (iI (sBW (fun j => sWash a j now) x).1) (iI (sBW (fun j => sWash a j now) x).2) (iI x) S k = k (iI (sBW (fun j => sWash a j now) N).1) := by
  have h8 := hw.1
  have e0 : S.1 75 0 = iI N := by rw [hm 0 (by omega), hN]
  intro d
  induction d with
  | zero =>
    intro n x hx hd
    obtain ⟨n, rfl⟩ : ∃ p, n = p + 1 := ⟨n - 1, by omega⟩
    obtain rfl : x = N := by omega
    rw [f_X8_bestWash_L7]
    simp (disch := omega) only [li_0, li_1, li_2, li_3, li_4, li_5, li_6, li_7, li_8, li_9, li_10, li_11, li_12, li_16, li_19, li_20, li_28, li_48, li_57, li_59, li_60, li_96, li_97, li_99, li_100, li_102, li_103, li_104, li_112, li_115, li_116, li_118, li_119, li_121, li_124, li_132, li_255, li_256, li_1000, li_2000, li_1000000000, iI_add, iI_sub, iI_mul, iI_neg, iI_lt, iI_le, iI_eq, iI_clamp, iI_s, iI_m1, iI_div, bs, tn, tn4, tn12, tn20, tn124, tn28, itT, itF, if_pos, if_neg, e0]
  | succ d ih =>
    intro n x hx hd
    obtain ⟨n, rfl⟩ : ∃ p, n = p + 1 := ⟨n - 1, by omega⟩
    have i1 := ih n (x + 1) (by omega) (by omega)
    have e2 := rWater hm (j := x) (by omega) (hw.t (by omega)) hn hn1
    have b1 := sWash_b (hw.t (j := x) (by omega)) hn
    have b2 := sBW_b (fun j => sWash a j now) x (fun y hy => (sWash_b (hw.t (j := y) (by omega)) hn).2)
    rw [sBW] at i1
    rw [f_X8_bestWash_L7]
    by_cases c : (sBW (fun j => sWash a j now) x).2 < sWash a x now
    · rw [if_pos c] at i1
      simp (disch := omega) only [li_0, li_1, li_2, li_3, li_4, li_5, li_6, li_7, li_8, li_9, li_10, li_11, li_12, li_16, li_19, li_20, li_28, li_48, li_57, li_59, li_60, li_96, li_97, li_99, li_100, li_102, li_103, li_104, li_112, li_115, li_116, li_118, li_119, li_121, li_124, li_132, li_255, li_256, li_1000, li_2000, li_1000000000, iI_add, iI_sub, iI_mul, iI_neg, iI_lt, iI_le, iI_eq, iI_clamp, iI_s, iI_m1, iI_div, bs, tn, tn4, tn12, tn20, tn124, tn28, itT, itF, if_pos, if_neg, e0, e2, i1]
    · rw [if_neg c] at i1
      simp (disch := omega) only [li_0, li_1, li_2, li_3, li_4, li_5, li_6, li_7, li_8, li_9, li_10, li_11, li_12, li_16, li_19, li_20, li_28, li_48, li_57, li_59, li_60, li_96, li_97, li_99, li_100, li_102, li_103, li_104, li_112, li_115, li_116, li_118, li_119, li_121, li_124, li_132, li_255, li_256, li_1000, li_2000, li_1000000000, iI_add, iI_sub, iI_mul, iI_neg, iI_lt, iI_le, iI_eq, iI_clamp, iI_s, iI_m1, iI_div, bs, tn, tn4, tn12, tn20, tn124, tn28, itT, itF, if_pos, if_neg, e0, e2, i1]
theorem e_bestWash {S : St} (hS : Inv S)  : ∃ (z1 : Int32) (z2 : Int32), f_X7_bestWash S = some z1 ∧ f_X8_bestWash S = some z2 ∧ z1 = z2 ∧ Inv S := by
  obtain ⟨⟨a, hw, hc, hm0⟩, -⟩ := id hS
  have hm : ∀ k, k < 132 → S.1 75 k = iI (a k) := hm0
  have h8 := hw.1
  have w1 := hw.2.1
  have w2 := hw.2.2.1
  have w3 := hw.2.2.2.1
  obtain ⟨now, hnow⟩ : ∃ n : Nat, a 1 = n := ⟨(a 1).toNat, by omega⟩
  obtain ⟨N, hN⟩ : ∃ n : Nat, a 0 = n := ⟨(a 0).toNat, by omega⟩
  have hn : now ≤ 11 := by omega
  have hN8 : N ≤ 8 := by omega
  have p1 : S.1 1 1 = iI now := by rw [hc.1 1 (by omega), hnow]
  have p0 : S.1 1 0 = iI N := by rw [hc.1 0 (by omega), hN]
  have m0 : S.1 75 0 = iI N := by rw [hm 0 (by omega), hN]
  have m1 : S.1 75 1 = iI now := by rw [hm 1 (by omega), hnow]
  have e1 : f_X7_bestWash_L7 2000 (iI (-9)) (iI 0) (iI 0) S (fun y => some y) = some (iI (sBW (fun j => sWash a j now) N).1) := cBWL hc hw hN hn p1 N 2000 0 (by omega) (by omega)
  have g1 : f_X8_bestWash_L7 2000 (iI (-9)) (iI 0) (iI 0) S (fun y => some y) = some (iI (sBW (fun j => sWash a j now) N).1) := rBWL hm hw hN hn hnow N 2000 0 (by omega) (by omega)
  exact ⟨_, _, by simp (disch := omega) only [li_0, li_1, li_2, li_3, li_4, li_5, li_6, li_7, li_8, li_9, li_10, li_11, li_12, li_16, li_19, li_20, li_28, li_48, li_57, li_59, li_60, li_96, li_97, li_99, li_100, li_102, li_103, li_104, li_112, li_115, li_116, li_118, li_119, li_121, li_124, li_132, li_255, li_256, li_1000, li_2000, li_1000000000, iI_add, iI_sub, iI_mul, iI_neg, iI_lt, iI_le, iI_eq, iI_clamp, iI_s, iI_m1, iI_div, bs, tn, tn4, tn12, tn20, tn124, tn28, itT, itF, if_pos, if_neg, f_X7_bestWash, e1]; rfl, by simp (disch := omega) only [li_0, li_1, li_2, li_3, li_4, li_5, li_6, li_7, li_8, li_9, li_10, li_11, li_12, li_16, li_19, li_20, li_28, li_48, li_57, li_59, li_60, li_96, li_97, li_99, li_100, li_102, li_103, li_104, li_112, li_115, li_116, li_118, li_119, li_121, li_124, li_132, li_255, li_256, li_1000, li_2000, li_1000000000, iI_add, iI_sub, iI_mul, iI_neg, iI_lt, iI_le, iI_eq, iI_clamp, iI_s, iI_m1, iI_div, bs, tn, tn4, tn12, tn20, tn124, tn28, itT, itF, if_pos, if_neg, f_X8_bestWash, g1], rfl, hS⟩
def sSour (f : Nat → Int) : Nat → Int32
  | 0 => iI 0
  | x + 1 => if f x ≤ 0 then sSour f x else sSour f x ||| (iI 1 <<< (iI (x : Int) &&& 31))
theorem cSourL {S : St} {a : Nat → Int} {N now : Nat} (hc : RC S 1 a) (hw : WFa a) (hN : a 0 = N) (hn : now ≤ 11) (p1 : S.1 1 1 = iI now) {k : Int32 → Option Int32} :
    ∀ d n x : Nat, x + d = N → d < n → f_X7_sour_L4 n (sSour (fun j => sWash a j now) x) (iI x) S k = k (sSour (fun j => sWash a j now) N) := by
  have h8 := hw.1
  have e0 : S.1 1 0 = iI N := by rw [hc.1 0 (by omega), hN]
  intro d
  induction d with
  | zero =>
    intro n x hx hd
    obtain ⟨n, rfl⟩ : ∃ p, n = p + 1 := ⟨n - 1, by omega⟩
    obtain rfl : x = N := by omega
    rw [f_X7_sour_L4]
    simp (disch := omega) only [li_0, li_1, li_2, li_3, li_4, li_5, li_6, li_7, li_8, li_9, li_10, li_11, li_12, li_16, li_19, li_20, li_28, li_48, li_57, li_59, li_60, li_96, li_97, li_99, li_100, li_102, li_103, li_104, li_112, li_115, li_116, li_118, li_119, li_121, li_124, li_132, li_255, li_256, li_1000, li_2000, li_1000000000, iI_add, iI_sub, iI_mul, iI_neg, iI_lt, iI_le, iI_eq, iI_clamp, iI_s, iI_m1, iI_div, bs, tn, tn4, tn12, tn20, tn124, tn28, itT, itF, if_pos, if_neg, e0]
  | succ d ih =>
    intro n x hx hd
    obtain ⟨n, rfl⟩ : ∃ p, n = p + 1 := ⟨n - 1, by omega⟩
    have i1 := ih n (x + 1) (by omega) (by omega)
    have e1 := cAt (S := S) (q := 1) (j := x) (by omega)
    have e2 := cMore (hc.t (j := x) (by omega) (by omega)) (hw.t (by omega)) hn
    have b1 := sWash_b (hw.t (j := x) (by omega)) hn
    rw [sSour] at i1
    rw [f_X7_sour_L4]
    by_cases c : sWash a x now ≤ 0
    · rw [if_pos c] at i1
      simp (disch := omega) only [li_0, li_1, li_2, li_3, li_4, li_5, li_6, li_7, li_8, li_9, li_10, li_11, li_12, li_16, li_19, li_20, li_28, li_48, li_57, li_59, li_60, li_96, li_97, li_99, li_100, li_102, li_103, li_104, li_112, li_115, li_116, li_118, li_119, li_121, li_124, li_132, li_255, li_256, li_1000, li_2000, li_1000000000, iI_add, iI_sub, iI_mul, iI_neg, iI_lt, iI_le, iI_eq, iI_clamp, iI_s, iI_m1, iI_div, bs, tn, tn4, tn12, tn20, tn124, tn28, itT, itF, if_pos, if_neg, e0, e1, p1, e2, i1]
    · rw [if_neg c] at i1
      simp (disch := omega) only [li_0, li_1, li_2, li_3, li_4, li_5, li_6, li_7, li_8, li_9, li_10, li_11, li_12, li_16, li_19, li_20, li_28, li_48, li_57, li_59, li_60, li_96, li_97, li_99, li_100, li_102, li_103, li_104, li_112, li_115, li_116, li_118, li_119, li_121, li_124, li_132, li_255, li_256, li_1000, li_2000, li_1000000000, iI_add, iI_sub, iI_mul, iI_neg, iI_lt, iI_le, iI_eq, iI_clamp, iI_s, iI_m1, iI_div, bs, tn, tn4, tn12, tn20, tn124, tn28, itT, itF, if_pos, if_neg, e0, e1, p1, e2, i1]
theorem rSourL {S : St} {a : Nat → Int} {N now : Nat} (hm : ∀ k, k < 132 → S.1 75 k = iI (a k)) (hw : WFa a) (hN : a 0 = N) (hn : now ≤ 11) (hn1 : a 1 = now) {k : Int32 → Option Int32} :
    ∀ d n x : Nat, x + d = N → d < n → f_X8_sour_L4 n (sSour (fun j => sWash a j now) x) (iI x) S k = k (sSour (fun j => sWash a j now) N) := by
  have h8 := hw.1
  have e0 : S.1 75 0 = iI N := by rw [hm 0 (by omega), hN]
  intro d
  induction d with
  | zero =>
    intro n x hx hd
    obtain ⟨n, rfl⟩ : ∃ p, n = p + 1 := ⟨n - 1, by omega⟩
    obtain rfl : x = N := by omega
    rw [f_X8_sour_L4]
    simp (disch := omega) only [li_0, li_1, li_2, li_3, li_4, li_5, li_6, li_7, li_8, li_9, li_10, li_11, li_12, li_16, li_19, li_20, li_28, li_48, li_57, li_59, li_60, li_96, li_97, li_99, li_100, li_102, li_103, li_104, li_112, li_115, li_116, li_118, li_119, li_121, li_124, li_132, li_255, li_256, li_1000, li_2000, li_1000000000, iI_add, iI_sub, iI_mul, iI_neg, iI_lt, iI_le, iI_eq, iI_clamp, iI_s, iI_m1, iI_div, bs, tn, tn4, tn12, tn20, tn124, tn28, itT, itF, if_pos, if_neg, e0]
  | succ d ih =>
    intro n x hx hd
    obtain ⟨n, rfl⟩ : ∃ p, n = p + 1 := ⟨n - 1, by omega⟩
    have i1 := ih n (x + 1) (by omega) (by omega)
    have e2 := rWater hm (j := x) (by omega) (hw.t (by omega)) hn hn1
    have b1 := sWash_b (hw.t (j := x) (by omega)) hn
    rw [sSour] at i1
    rw [f_X8_sour_L4]
    by_cases c : sWash a x now ≤ 0
    · rw [if_pos c] at i1
      simp (disch := omega) only [li_0, li_1, li_2, li_3, li_4, li_5, li_6, li_7, li_8, li_9, li_10, li_11, li_12, li_16, li_19, li_20, li_28, li_48, li_57, li_59, li_60, li_96, li_97, li_99, li_100, li_102, li_103, li_104, li_112, li_115, li_116, li_118, li_119, li_121, li_124, li_132, li_255, li_256, li_1000, li_2000, li_1000000000, iI_add, iI_sub, iI_mul, iI_neg, iI_lt, iI_le, iI_eq, iI_clamp, iI_s, iI_m1, iI_div, bs, tn, tn4, tn12, tn20, tn124, tn28, itT, itF, if_pos, if_neg, e0, e2, iI_or0, i1]
    · rw [if_neg c] at i1
      simp (disch := omega) only [li_0, li_1, li_2, li_3, li_4, li_5, li_6, li_7, li_8, li_9, li_10, li_11, li_12, li_16, li_19, li_20, li_28, li_48, li_57, li_59, li_60, li_96, li_97, li_99, li_100, li_102, li_103, li_104, li_112, li_115, li_116, li_118, li_119, li_121, li_124, li_132, li_255, li_256, li_1000, li_2000, li_1000000000, iI_add, iI_sub, iI_mul, iI_neg, iI_lt, iI_le, iI_eq, iI_clamp, iI_s, iI_m1, iI_div, bs, tn, tn4, tn12, tn20, tn124, tn28, itT, itF, if_pos, if_neg, e0, e2, i1]
theorem e_sour {S : St} (hS : Inv S)  : ∃ (z1 : Int32) (z2 : Int32), f_X7_sour S = some z1 ∧ f_X8_sour S = some z2 ∧ z1 = z2 ∧ Inv S := by
  obtain ⟨⟨a, hw, hc, hm0⟩, -⟩ := id hS
  have hm : ∀ k, k < 132 → S.1 75 k = iI (a k) := hm0
  have h8 := hw.1
  have w1 := hw.2.1
  have w2 := hw.2.2.1
  have w3 := hw.2.2.2.1
  obtain ⟨now, hnow⟩ : ∃ n : Nat, a 1 = n := ⟨(a 1).toNat, by omega⟩
  obtain ⟨N, hN⟩ : ∃ n : Nat, a 0 = n := ⟨(a 0).toNat, by omega⟩
  have hn : now ≤ 11 := by omega
  have hN8 : N ≤ 8 := by omega
  have p1 : S.1 1 1 = iI now := by rw [hc.1 1 (by omega), hnow]
  have p0 : S.1 1 0 = iI N := by rw [hc.1 0 (by omega), hN]
  have m0 : S.1 75 0 = iI N := by rw [hm 0 (by omega), hN]
  have m1 : S.1 75 1 = iI now := by rw [hm 1 (by omega), hnow]
  have e1 : f_X7_sour_L4 2000 (iI 0) (iI 0) S (fun y => some y) = some (sSour (fun j => sWash a j now) N) := cSourL hc hw hN hn p1 N 2000 0 (by omega) (by omega)
  have g1 : f_X8_sour_L4 2000 (iI 0) (iI 0) S (fun y => some y) = some (sSour (fun j => sWash a j now) N) := rSourL hm hw hN hn hnow N 2000 0 (by omega) (by omega)
  exact ⟨_, _, by simp (disch := omega) only [li_0, li_1, li_2, li_3, li_4, li_5, li_6, li_7, li_8, li_9, li_10, li_11, li_12, li_16, li_19, li_20, li_28, li_48, li_57, li_59, li_60, li_96, li_97, li_99, li_100, li_102, li_103, li_104, li_112, li_115, li_116, li_118, li_119, li_121, li_124, li_132, li_255, li_256, li_1000, li_2000, li_1000000000, iI_add, iI_sub, iI_mul, iI_neg, iI_lt, iI_le, iI_eq, iI_clamp, iI_s, iI_m1, iI_div, bs, tn, tn4, tn12, tn20, tn124, tn28, itT, itF, if_pos, if_neg, f_X7_sour, e1]; rfl, by simp (disch := omega) only [li_0, li_1, li_2, li_3, li_4, li_5, li_6, li_7, li_8, li_9, li_10, li_11, li_12, li_16, li_19, li_20, li_28, li_48, li_57, li_59, li_60, li_96, li_97, li_99, li_100, li_102, li_103, li_104, li_112, li_115, li_116, li_118, li_119, li_121, li_124, li_132, li_255, li_256, li_1000, li_2000, li_1000000000, iI_add, iI_sub, iI_mul, iI_neg, iI_lt, iI_le, iI_eq, iI_clamp, iI_s, iI_m1, iI_div, bs, tn, tn4, tn12, tn20, tn124, tn28, itT, itF, if_pos, if_neg, f_X8_sour, g1], rfl, hS⟩
end
section
-- ===== counting halves twice =====
theorem sSum_congr {f g : Nat → Int} : ∀ n, (∀ x, x < n → f x = g x) → sSum f n = sSum g n := by
  intro n
  induction n with
  | zero => intro _; rfl
  | succ n ih =>
    intro h
    rw [sSum, sSum, ih (fun x hx => h x (by omega)), h n (by omega)]
theorem sSum_add (f g : Nat → Int) : ∀ n, sSum (fun x => f x + g x) n = sSum f n + sSum g n := by
  intro n
  induction n with
  | zero => rfl
  | succ n ih =>
    rw [sSum, sSum, sSum, ih]
    omega
theorem sSum_out {f : Nat → Nat → Int} : ∀ M, (∀ i j, i < M → j < M → f i j = f j i) → (∀ i, i < M → f i i = 0) → sSum (fun i => sSum (f i) M) M = 2 * out2 f M M := by
  intro M
  induction M with
  | zero => intro _ _; rfl
  | succ M ih =>
    intro hs h0
    have h1 := ih (fun i j hi hj => hs i j (by omega) (by omega)) (fun i hi => h0 i (by omega))
    have h2 : sSum (fun i => sSum (f i) (M + 1)) M = sSum (fun i => sSum (f i) M) M + sSum (fun i => f i M) M := sSum_add (fun i => sSum (f i) M) (fun i => f i M) M
    have h3 : sSum (fun i => in2 f i (M + 1)) M = sSum (fun i => in2 f i M) M + sSum (fun i => f i M) M := by
      rw [← sSum_add]
      exact sSum_congr M (fun x hx => in2_s f hx)
    have h4 : sSum (f M) M = sSum (fun i => f i M) M := sSum_congr M (fun x hx => hs M x (by omega) (by omega))
    have h5 := in2_0 f M (M + 1) (by omega)
    have h6 := h0 M (by omega)
    have h7 : out2 f (M + 1) (M + 1) = sSum (fun i => in2 f i (M + 1)) M + in2 f M (M + 1) := rfl
    have h8 : sSum (fun i => sSum (f i) (M + 1)) (M + 1) = sSum (fun i => sSum (f i) (M + 1)) M + (sSum (f M) M + f M M) := rfl
    have h9 : out2 f M M = sSum (fun i => in2 f i M) M := rfl
    omega
theorem hb_bit (a : Nat → Int) (i j : Nat) : hb a i j = 1 ↔ bitI (a (124 + i)) j = true := by
  unfold hb bitI
  rw [Nat.testBit_eq_decide_div_mod_eq, decide_eq_true_eq]
theorem hb_sym {a : Nat → Int} (hw : WFa a) {i j : Nat} (hi : i < 8) (hj : j < 8) : hb a i j = hb a j i := by
  have h1 := hb_bit a i j
  have h2 := hb_bit a j i
  rw [bit_sym hw hi hj] at h1
  have h3 := hb_le a i j
  have h4 := hb_le a j i
  by_cases c : hb a i j = 1
  · rw [c, h2.mpr (h1.mp c)]
  · have c2 : ¬ hb a j i = 1 := fun z => c (h1.mpr (h2.mp z))
    omega
theorem hb_self {a : Nat → Int} (hw : WFa a) {i : Nat} (hi : i < 8) : hb a i i = 0 := by
  have h3 := hb_le a i i
  by_cases c : hb a i i = 1
  · exact absurd rfl (hw.2.2.2.2.2 i i hi hi ((hb_bit a i i).mp c)).2.1
  · omega
theorem hb_out {a : Nat → Int} (hw : WFa a) {N : Nat} (hN : a 0 = N) {i j : Nat} (hi : i < 8) (hj : N ≤ j) : hb a i j = 0 := by
  have h3 := hb_le a i j
  by_cases c8 : j < 8
  · by_cases c : hb a i j = 1
    · have := (hw.2.2.2.2.2 i j hi c8 ((hb_bit a i j).mp c)).2.2.2
      omega
    · omega
  · have b := (hw.2.2.2.2.1 i hi).2.2.2.2
    unfold hb
    have h1 : (a (124 + i)).toNat < 2 ^ 8 := by omega
    have h2 : 2 ^ 8 ≤ 2 ^ j := Nat.pow_le_pow_right (by omega) (by omega)
    rw [Nat.div_eq_of_lt (by omega)]
theorem sSum_tail {f : Nat → Int} {N : Nat} : ∀ d, (∀ x, N ≤ x → f x = 0) → sSum f (N + d) = sSum f N := by
  intro d
  induction d with
  | zero => intro _; rfl
  | succ d ih =>
    intro h
    show sSum f (N + d) + f (N + d) = _
    rw [ih h, h _ (by omega), Int.add_zero]
theorem hb_sum {a : Nat → Int} (hw : WFa a) {N : Nat} (hN : a 0 = N) : sSum (fun x => sSum (fun b => (hb a x b : Int)) 12) N = 2 * out2 (fun i j => (hb a i j : Int)) N N := by
  have h8 := hw.1
  rw [← sSum_out N (fun i j hi hj => by show (hb a i j : Int) = (hb a j i : Int); rw [hb_sym hw (by omega) (by omega)]) (fun i hi => by show (hb a i i : Int) = 0; rw [hb_self hw (by omega)]; rfl)]
  refine sSum_congr N (fun x hx => ?_)
  have e : 12 = N + (12 - N) := by omega
  rw [e]
  exact sSum_tail (12 - N) (fun y hy => by show (hb a x y : Int) = 0; rw [hb_out hw hN (by omega) hy]; rfl)
theorem rSetL {S : St} {a : Nat → Int} {N : Nat} (hm : ∀ k, k < 132 → S.1 75 k = iI (a k)) (hw : WFa a) (hN : a 0 = N) {k : Int32 → Option Int32} :
    ∀ d n x : Nat, x + d = N → d < n → f_X8_count_L81 n (sSet a x) (iI x) S k = k (sSet a N) := by
  have h8 := hw.1
  have e0 : S.1 75 0 = iI N := by rw [hm 0 (by omega), hN]
  intro d
  induction d with
  | zero =>
    intro n x hx hd
    obtain ⟨n, rfl⟩ : ∃ p, n = p + 1 := ⟨n - 1, by omega⟩
    obtain rfl : x = N := by omega
    rw [f_X8_count_L81]
    simp (disch := omega) only [li_0, li_1, li_2, li_3, li_4, li_5, li_6, li_7, li_8, li_9, li_10, li_11, li_12, li_16, li_19, li_20, li_28, li_48, li_57, li_59, li_60, li_96, li_97, li_99, li_100, li_102, li_103, li_104, li_112, li_115, li_116, li_118, li_119, li_121, li_124, li_132, li_255, li_256, li_1000, li_2000, li_1000000000, iI_add, iI_sub, iI_mul, iI_neg, iI_lt, iI_le, iI_eq, iI_clamp, iI_s, iI_m1, iI_div, bs, tn, tn4, tn12, tn20, tn124, tn28, itT, itF, if_pos, if_neg, e0]
  | succ d ih =>
    intro n x hx hd
    obtain ⟨n, rfl⟩ : ∃ p, n = p + 1 := ⟨n - 1, by omega⟩
    have i1 := ih n (x + 1) (by omega) (by omega)
    have k1 := (hw.t (j := x) (by omega)).2.2.1
    rw [sSet] at i1
    rw [f_X8_count_L81]
    by_cases c : a (20 + x) < 0
    · rw [if_pos c] at i1
      simp (disch := omega) only [li_0, li_1, li_2, li_3, li_4, li_5, li_6, li_7, li_8, li_9, li_10, li_11, li_12, li_16, li_19, li_20, li_28, li_48, li_57, li_59, li_60, li_96, li_97, li_99, li_100, li_102, li_103, li_104, li_112, li_115, li_116, li_118, li_119, li_121, li_124, li_132, li_255, li_256, li_1000, li_2000, li_1000000000, iI_add, iI_sub, iI_mul, iI_neg, iI_lt, iI_le, iI_eq, iI_clamp, iI_s, iI_m1, iI_div, bs, tn, tn4, tn12, tn20, tn124, tn28, itT, itF, if_pos, if_neg, e0, hm, iI_or0, i1]
    · rw [if_neg c] at i1
      simp (disch := omega) only [li_0, li_1, li_2, li_3, li_4, li_5, li_6, li_7, li_8, li_9, li_10, li_11, li_12, li_16, li_19, li_20, li_28, li_48, li_57, li_59, li_60, li_96, li_97, li_99, li_100, li_102, li_103, li_104, li_112, li_115, li_116, li_118, li_119, li_121, li_124, li_132, li_255, li_256, li_1000, li_2000, li_1000000000, iI_add, iI_sub, iI_mul, iI_neg, iI_lt, iI_le, iI_eq, iI_clamp, iI_s, iI_m1, iI_div, bs, tn, tn4, tn12, tn20, tn124, tn28, itT, itF, if_pos, if_neg, e0, hm, i1]
theorem rHalfL {S : St} {a : Nat → Int} {N : Nat} (hm : ∀ k, k < 132 → S.1 75 k = iI (a k)) (hw : WFa a) (hN : a 0 = N) {k : Int32 → Option Int32} :
    ∀ d n x : Nat, x + d = N → d < n → f_X8_count_L123 n (iI (sSum (fun x => sSum (fun b => (hb a x b : Int)) 12) x)) (iI x) S k = k (iI (sSum (fun x => sSum (fun b => (hb a x b : Int)) 12) N)) := by
  have h8 := hw.1
  have e0 : S.1 75 0 = iI N := by rw [hm 0 (by omega), hN]
  intro d
  induction d with
  | zero =>
    intro n x hx hd
    obtain ⟨n, rfl⟩ : ∃ p, n = p + 1 := ⟨n - 1, by omega⟩
    obtain rfl : x = N := by omega
    rw [f_X8_count_L123]
    simp (disch := omega) only [li_0, li_1, li_2, li_3, li_4, li_5, li_6, li_7, li_8, li_9, li_10, li_11, li_12, li_16, li_19, li_20, li_28, li_48, li_57, li_59, li_60, li_96, li_97, li_99, li_100, li_102, li_103, li_104, li_112, li_115, li_116, li_118, li_119, li_121, li_124, li_132, li_255, li_256, li_1000, li_2000, li_1000000000, iI_add, iI_sub, iI_mul, iI_neg, iI_lt, iI_le, iI_eq, iI_clamp, iI_s, iI_m1, iI_div, bs, tn, tn4, tn12, tn20, tn124, tn28, itT, itF, if_pos, if_neg, e0]
  | succ d ih =>
    intro n x hx hd
    obtain ⟨n, rfl⟩ : ∃ p, n = p + 1 := ⟨n - 1, by omega⟩
    have i1 := ih n (x + 1) (by omega) (by omega)
    have b := (hw.2.2.2.2.1 x (by omega)).2.2.2.2
    have e1 : f_X8_bits (iI (a (124 + x))) = some (iI (sSum (fun b => (hb a x b : Int)) 12)) := rBits b.1 (by omega)
    have e2 := hm (124 + x) (by omega)
    rw [sSum] at i1
    rw [f_X8_count_L123]
    simp (disch := omega) only [li_0, li_1, li_2, li_3, li_4, li_5, li_6, li_7, li_8, li_9, li_10, li_11, li_12, li_16, li_19, li_20, li_28, li_48, li_57, li_59, li_60, li_96, li_97, li_99, li_100, li_102, li_103, li_104, li_112, li_115, li_116, li_118, li_119, li_121, li_124, li_132, li_255, li_256, li_1000, li_2000, li_1000000000, iI_add, iI_sub, iI_mul, iI_neg, iI_lt, iI_le, iI_eq, iI_clamp, iI_s, iI_m1, iI_div, bs, tn, tn4, tn12, tn20, tn124, tn28, itT, itF, if_pos, if_neg, e0, e2, e1, i1]
theorem out2_b {a : Nat → Int} {N : Nat} (h8 : N ≤ 8) : 0 ≤ out2 (fun i j => (hb a i j : Int)) N N ∧ out2 (fun i j => (hb a i j : Int)) N N ≤ 64 := by
  have h1 : ∀ i, 0 ≤ in2 (fun i j => (hb a i j : Int)) i N ∧ in2 (fun i j => (hb a i j : Int)) i N ≤ 1 * N := fun i =>
    sSum_b (n := 0) (by omega) N (fun y hy => by
      show 0 ≤ (if i < y then (hb a i y : Int) else 0) ∧ (if i < y then (hb a i y : Int) else 0) ≤ 1
      have := hb_le a i y
      split <;> omega)
  have h2 := sSum_b (f := fun i => in2 (fun i j => (hb a i j : Int)) i N) (B := 8) (n := 0) (by omega) N (fun y hy => by have := h1 y; omega)
  unfold out2
  omega
theorem e_count {S : St} (hS : Inv S) (a1 : Int32) : ∃ (z1 : Int32) (z2 : Int32), f_X7_count a1 S = some z1 ∧ f_X8_count a1 S = some z2 ∧ z1 = z2 ∧ Inv S := by
  obtain ⟨⟨a, hw, hc, hm0⟩, -⟩ := id hS
  have hm : ∀ k, k < 132 → S.1 75 k = iI (a k) := hm0
  have h8 := hw.1
  have w1 := hw.2.1
  have w2 := hw.2.2.1
  have w3 := hw.2.2.2.1
  obtain ⟨now, hnow⟩ : ∃ n : Nat, a 1 = n := ⟨(a 1).toNat, by omega⟩
  obtain ⟨N, hN⟩ : ∃ n : Nat, a 0 = n := ⟨(a 0).toNat, by omega⟩
  have hn : now ≤ 11 := by omega
  have hN8 : N ≤ 8 := by omega
  have p1 : S.1 1 1 = iI now := by rw [hc.1 1 (by omega), hnow]
  have p0 : S.1 1 0 = iI N := by rw [hc.1 0 (by omega), hN]
  have m0 : S.1 75 0 = iI N := by rw [hm 0 (by omega), hN]
  have m1 : S.1 75 1 = iI now := by rw [hm 1 (by omega), hnow]
  obtain ⟨x, x1, x2, rfl⟩ := iI_any a1
  obtain ⟨_, ⟨tn', t1, t2, t3, t4⟩, ⟨rn', r1, r2, r3, r4⟩, hno, _⟩ := id hS
  have g0 := rIn (x := x) (l := 11) (u := 16) x1 x2 (by omega) (by omega) (by omega) (by omega)
  by_cases c : 11 ≤ x ∧ x ≤ 16
  · obtain ⟨m, hm'⟩ : ∃ m : Nat, m = (x - 10).toNat := ⟨_, rfl⟩
    have e := hno m (by omega)
    exact ⟨S.1 73 m, S.1 73 m, by simp (disch := omega) only [li_0, li_1, li_2, li_3, li_4, li_5, li_6, li_7, li_8, li_9, li_10, li_11, li_12, li_16, li_19, li_20, li_28, li_48, li_57, li_59, li_60, li_96, li_97, li_99, li_100, li_102, li_103, li_104, li_112, li_115, li_116, li_118, li_119, li_121, li_124, li_132, li_255, li_256, li_1000, li_2000, li_1000000000, iI_add, iI_sub, iI_mul, iI_neg, iI_lt, iI_le, iI_eq, iI_clamp, iI_s, iI_m1, iI_div, bs, tn, tn4, tn12, tn20, tn124, tn28, itT, itF, if_pos, if_neg, f_X7_count, ← hm'], by simp (disch := omega) only [li_0, li_1, li_2, li_3, li_4, li_5, li_6, li_7, li_8, li_9, li_10, li_11, li_12, li_16, li_19, li_20, li_28, li_48, li_57, li_59, li_60, li_96, li_97, li_99, li_100, li_102, li_103, li_104, li_112, li_115, li_116, li_118, li_119, li_121, li_124, li_132, li_255, li_256, li_1000, li_2000, li_1000000000, iI_add, iI_sub, iI_mul, iI_neg, iI_lt, iI_le, iI_eq, iI_clamp, iI_s, iI_m1, iI_div, bs, tn, tn4, tn12, tn20, tn124, tn28, itT, itF, if_pos, if_neg, f_X8_count, g0, ← hm', e], rfl, hS⟩
  · have g0' : f_X8_isIn (iI x) (iI 11) (iI 16) = some (iI 0) := by rw [g0, if_neg c]
    by_cases c0 : x = 0
    · subst c0
      exact ⟨iI N, iI N, by simp (disch := omega) only [li_0, li_1, li_2, li_3, li_4, li_5, li_6, li_7, li_8, li_9, li_10, li_11, li_12, li_16, li_19, li_20, li_28, li_48, li_57, li_59, li_60, li_96, li_97, li_99, li_100, li_102, li_103, li_104, li_112, li_115, li_116, li_118, li_119, li_121, li_124, li_132, li_255, li_256, li_1000, li_2000, li_1000000000, iI_add, iI_sub, iI_mul, iI_neg, iI_lt, iI_le, iI_eq, iI_clamp, iI_s, iI_m1, iI_div, bs, tn, tn4, tn12, tn20, tn124, tn28, itT, itF, if_pos, if_neg, f_X7_count, p0], by simp (disch := omega) only [li_0, li_1, li_2, li_3, li_4, li_5, li_6, li_7, li_8, li_9, li_10, li_11, li_12, li_16, li_19, li_20, li_28, li_48, li_57, li_59, li_60, li_96, li_97, li_99, li_100, li_102, li_103, li_104, li_112, li_115, li_116, li_118, li_119, li_121, li_124, li_132, li_255, li_256, li_1000, li_2000, li_1000000000, iI_add, iI_sub, iI_mul, iI_neg, iI_lt, iI_le, iI_eq, iI_clamp, iI_s, iI_m1, iI_div, bs, tn, tn4, tn12, tn20, tn124, tn28, itT, itF, if_pos, if_neg, f_X8_count, g0', show Int.toNat 0 = 0 from rfl, m0], rfl, hS⟩
    · by_cases c1 : x = 1
      · subst c1
        exact ⟨iI now, iI now, by simp (disch := omega) only [li_0, li_1, li_2, li_3, li_4, li_5, li_6, li_7, li_8, li_9, li_10, li_11, li_12, li_16, li_19, li_20, li_28, li_48, li_57, li_59, li_60, li_96, li_97, li_99, li_100, li_102, li_103, li_104, li_112, li_115, li_116, li_118, li_119, li_121, li_124, li_132, li_255, li_256, li_1000, li_2000, li_1000000000, iI_add, iI_sub, iI_mul, iI_neg, iI_lt, iI_le, iI_eq, iI_clamp, iI_s, iI_m1, iI_div, bs, tn, tn4, tn12, tn20, tn124, tn28, itT, itF, if_pos, if_neg, f_X7_count, p1], by simp (disch := omega) only [li_0, li_1, li_2, li_3, li_4, li_5, li_6, li_7, li_8, li_9, li_10, li_11, li_12, li_16, li_19, li_20, li_28, li_48, li_57, li_59, li_60, li_96, li_97, li_99, li_100, li_102, li_103, li_104, li_112, li_115, li_116, li_118, li_119, li_121, li_124, li_132, li_255, li_256, li_1000, li_2000, li_1000000000, iI_add, iI_sub, iI_mul, iI_neg, iI_lt, iI_le, iI_eq, iI_clamp, iI_s, iI_m1, iI_div, bs, tn, tn4, tn12, tn20, tn124, tn28, itT, itF, if_pos, if_neg, f_X8_count, g0', show Int.toNat 1 = 1 from rfl, m1], rfl, hS⟩
      · by_cases c2 : x = 2
        · subst c2
          have e := hc.1 2 (by omega)
          exact ⟨iI (a 2), iI (a 2), by simp (disch := omega) only [li_0, li_1, li_2, li_3, li_4, li_5, li_6, li_7, li_8, li_9, li_10, li_11, li_12, li_16, li_19, li_20, li_28, li_48, li_57, li_59, li_60, li_96, li_97, li_99, li_100, li_102, li_103, li_104, li_112, li_115, li_116, li_118, li_119, li_121, li_124, li_132, li_255, li_256, li_1000, li_2000, li_1000000000, iI_add, iI_sub, iI_mul, iI_neg, iI_lt, iI_le, iI_eq, iI_clamp, iI_s, iI_m1, iI_div, bs, tn, tn4, tn12, tn20, tn124, tn28, itT, itF, if_pos, if_neg, f_X7_count, e], by simp (disch := omega) only [li_0, li_1, li_2, li_3, li_4, li_5, li_6, li_7, li_8, li_9, li_10, li_11, li_12, li_16, li_19, li_20, li_28, li_48, li_57, li_59, li_60, li_96, li_97, li_99, li_100, li_102, li_103, li_104, li_112, li_115, li_116, li_118, li_119, li_121, li_124, li_132, li_255, li_256, li_1000, li_2000, li_1000000000, iI_add, iI_sub, iI_mul, iI_neg, iI_lt, iI_le, iI_eq, iI_clamp, iI_s, iI_m1, iI_div, bs, tn, tn4, tn12, tn20, tn124, tn28, itT, itF, if_pos, if_neg, f_X8_count, g0', show Int.toNat 2 = 2 from rfl, hm], rfl, hS⟩
        · by_cases c3 : x = 3
          · subst c3
            have e := hc.1 3 (by omega)
            exact ⟨iI (a 3), iI (a 3), by simp (disch := omega) only [li_0, li_1, li_2, li_3, li_4, li_5, li_6, li_7, li_8, li_9, li_10, li_11, li_12, li_16, li_19, li_20, li_28, li_48, li_57, li_59, li_60, li_96, li_97, li_99, li_100, li_102, li_103, li_104, li_112, li_115, li_116, li_118, li_119, li_121, li_124, li_132, li_255, li_256, li_1000, li_2000, li_1000000000, iI_add, iI_sub, iI_mul, iI_neg, iI_lt, iI_le, iI_eq, iI_clamp, iI_s, iI_m1, iI_div, bs, tn, tn4, tn12, tn20, tn124, tn28, itT, itF, if_pos, if_neg, f_X7_count, e], by simp (disch := omega) only [li_0, li_1, li_2, li_3, li_4, li_5, li_6, li_7, li_8, li_9, li_10, li_11, li_12, li_16, li_19, li_20, li_28, li_48, li_57, li_59, li_60, li_96, li_97, li_99, li_100, li_102, li_103, li_104, li_112, li_115, li_116, li_118, li_119, li_121, li_124, li_132, li_255, li_256, li_1000, li_2000, li_1000000000, iI_add, iI_sub, iI_mul, iI_neg, iI_lt, iI_le, iI_eq, iI_clamp, iI_s, iI_m1, iI_div, bs, tn, tn4, tn12, tn20, tn124, tn28, itT, itF, if_pos, if_neg, f_X8_count, g0', show Int.toNat 3 = 3 from rfl, hm], rfl, hS⟩
          · by_cases c4 : x = 4
            · subst c4
              have e := cSetBits hc hw hN
              have g : f_X8_count_L81 2000 (iI 0) (iI 0) S (fun y15 => some y15) = some (sSet a N) := rSetL hm hw hN N 2000 0 (by omega) (by omega)
              exact ⟨sSet a N, sSet a N, by simp (disch := omega) only [li_0, li_1, li_2, li_3, li_4, li_5, li_6, li_7, li_8, li_9, li_10, li_11, li_12, li_16, li_19, li_20, li_28, li_48, li_57, li_59, li_60, li_96, li_97, li_99, li_100, li_102, li_103, li_104, li_112, li_115, li_116, li_118, li_119, li_121, li_124, li_132, li_255, li_256, li_1000, li_2000, li_1000000000, iI_add, iI_sub, iI_mul, iI_neg, iI_lt, iI_le, iI_eq, iI_clamp, iI_s, iI_m1, iI_div, bs, tn, tn4, tn12, tn20, tn124, tn28, itT, itF, if_pos, if_neg, f_X7_count, e], by simp (disch := omega) only [li_0, li_1, li_2, li_3, li_4, li_5, li_6, li_7, li_8, li_9, li_10, li_11, li_12, li_16, li_19, li_20, li_28, li_48, li_57, li_59, li_60, li_96, li_97, li_99, li_100, li_102, li_103, li_104, li_112, li_115, li_116, li_118, li_119, li_121, li_124, li_132, li_255, li_256, li_1000, li_2000, li_1000000000, iI_add, iI_sub, iI_mul, iI_neg, iI_lt, iI_le, iI_eq, iI_clamp, iI_s, iI_m1, iI_div, bs, tn, tn4, tn12, tn20, tn124, tn28, itT, itF, if_pos, if_neg, f_X8_count, g0', g], rfl, hS⟩
            · by_cases c5 : x = 5
              · subst c5
                have e := cHalf hc hw hN
                have g : f_X8_count_L123 2000 (iI 0) (iI 0) S (fun y20 => some (y20 / iI 2)) = some (iI (sSum (fun x => sSum (fun b => (hb a x b : Int)) 12) N) / iI 2) := rHalfL hm hw hN (k := fun y20 => some (y20 / iI 2)) N 2000 0 (by omega) (by omega)
                have b := out2_b (a := a) hN8
                rw [hb_sum hw hN, iI_div (by omega) (by omega) (by omega) (by omega), show 2 * out2 (fun i j => (hb a i j : Int)) N N / 2 = out2 (fun i j => (hb a i j : Int)) N N by omega] at g
                exact ⟨iI (out2 (fun i j => (hb a i j : Int)) N N), iI (out2 (fun i j => (hb a i j : Int)) N N), by simp (disch := omega) only [li_0, li_1, li_2, li_3, li_4, li_5, li_6, li_7, li_8, li_9, li_10, li_11, li_12, li_16, li_19, li_20, li_28, li_48, li_57, li_59, li_60, li_96, li_97, li_99, li_100, li_102, li_103, li_104, li_112, li_115, li_116, li_118, li_119, li_121, li_124, li_132, li_255, li_256, li_1000, li_2000, li_1000000000, iI_add, iI_sub, iI_mul, iI_neg, iI_lt, iI_le, iI_eq, iI_clamp, iI_s, iI_m1, iI_div, bs, tn, tn4, tn12, tn20, tn124, tn28, itT, itF, if_pos, if_neg, f_X7_count, e], by simp (disch := omega) only [li_0, li_1, li_2, li_3, li_4, li_5, li_6, li_7, li_8, li_9, li_10, li_11, li_12, li_16, li_19, li_20, li_28, li_48, li_57, li_59, li_60, li_96, li_97, li_99, li_100, li_102, li_103, li_104, li_112, li_115, li_116, li_118, li_119, li_121, li_124, li_132, li_255, li_256, li_1000, li_2000, li_1000000000, iI_add, iI_sub, iI_mul, iI_neg, iI_lt, iI_le, iI_eq, iI_clamp, iI_s, iI_m1, iI_div, bs, tn, tn4, tn12, tn20, tn124, tn28, itT, itF, if_pos, if_neg, f_X8_count, g0', g], rfl, hS⟩
              · by_cases c6 : x = 6
                · subst c6
                  exact ⟨iI rn', iI rn', by simp (disch := omega) only [li_0, li_1, li_2, li_3, li_4, li_5, li_6, li_7, li_8, li_9, li_10, li_11, li_12, li_16, li_19, li_20, li_28, li_48, li_57, li_59, li_60, li_96, li_97, li_99, li_100, li_102, li_103, li_104, li_112, li_115, li_116, li_118, li_119, li_121, li_124, li_132, li_255, li_256, li_1000, li_2000, li_1000000000, iI_add, iI_sub, iI_mul, iI_neg, iI_lt, iI_le, iI_eq, iI_clamp, iI_s, iI_m1, iI_div, bs, tn, tn4, tn12, tn20, tn124, tn28, itT, itF, if_pos, if_neg, f_X7_count, r2], by simp (disch := omega) only [li_0, li_1, li_2, li_3, li_4, li_5, li_6, li_7, li_8, li_9, li_10, li_11, li_12, li_16, li_19, li_20, li_28, li_48, li_57, li_59, li_60, li_96, li_97, li_99, li_100, li_102, li_103, li_104, li_112, li_115, li_116, li_118, li_119, li_121, li_124, li_132, li_255, li_256, li_1000, li_2000, li_1000000000, iI_add, iI_sub, iI_mul, iI_neg, iI_lt, iI_le, iI_eq, iI_clamp, iI_s, iI_m1, iI_div, bs, tn, tn4, tn12, tn20, tn124, tn28, itT, itF, if_pos, if_neg, f_X8_count, g0', r3], rfl, hS⟩
                · by_cases c7 : x = 7
                  · subst c7
                    exact ⟨iI tn', iI tn', by simp (disch := omega) only [li_0, li_1, li_2, li_3, li_4, li_5, li_6, li_7, li_8, li_9, li_10, li_11, li_12, li_16, li_19, li_20, li_28, li_48, li_57, li_59, li_60, li_96, li_97, li_99, li_100, li_102, li_103, li_104, li_112, li_115, li_116, li_118, li_119, li_121, li_124, li_132, li_255, li_256, li_1000, li_2000, li_1000000000, iI_add, iI_sub, iI_mul, iI_neg, iI_lt, iI_le, iI_eq, iI_clamp, iI_s, iI_m1, iI_div, bs, tn, tn4, tn12, tn20, tn124, tn28, itT, itF, if_pos, if_neg, f_X7_count, t2], by simp (disch := omega) only [li_0, li_1, li_2, li_3, li_4, li_5, li_6, li_7, li_8, li_9, li_10, li_11, li_12, li_16, li_19, li_20, li_28, li_48, li_57, li_59, li_60, li_96, li_97, li_99, li_100, li_102, li_103, li_104, li_112, li_115, li_116, li_118, li_119, li_121, li_124, li_132, li_255, li_256, li_1000, li_2000, li_1000000000, iI_add, iI_sub, iI_mul, iI_neg, iI_lt, iI_le, iI_eq, iI_clamp, iI_s, iI_m1, iI_div, bs, tn, tn4, tn12, tn20, tn124, tn28, itT, itF, if_pos, if_neg, f_X8_count, g0', t3], rfl, hS⟩
                  · refine ⟨iI (-9), iI (-9), ?_, by simp (disch := omega) only [li_0, li_1, li_2, li_3, li_4, li_5, li_6, li_7, li_8, li_9, li_10, li_11, li_12, li_16, li_19, li_20, li_28, li_48, li_57, li_59, li_60, li_96, li_97, li_99, li_100, li_102, li_103, li_104, li_112, li_115, li_116, li_118, li_119, li_121, li_124, li_132, li_255, li_256, li_1000, li_2000, li_1000000000, iI_add, iI_sub, iI_mul, iI_neg, iI_lt, iI_le, iI_eq, iI_clamp, iI_s, iI_m1, iI_div, bs, tn, tn4, tn12, tn20, tn124, tn28, itT, itF, if_pos, if_neg, f_X8_count, g0'], rfl, hS⟩
                    by_cases c8 : x < 11
                    · simp (disch := omega) only [li_0, li_1, li_2, li_3, li_4, li_5, li_6, li_7, li_8, li_9, li_10, li_11, li_12, li_16, li_19, li_20, li_28, li_48, li_57, li_59, li_60, li_96, li_97, li_99, li_100, li_102, li_103, li_104, li_112, li_115, li_116, li_118, li_119, li_121, li_124, li_132, li_255, li_256, li_1000, li_2000, li_1000000000, iI_add, iI_sub, iI_mul, iI_neg, iI_lt, iI_le, iI_eq, iI_clamp, iI_s, iI_m1, iI_div, bs, tn, tn4, tn12, tn20, tn124, tn28, itT, itF, if_pos, if_neg, f_X7_count]
                    · simp (disch := omega) only [li_0, li_1, li_2, li_3, li_4, li_5, li_6, li_7, li_8, li_9, li_10, li_11, li_12, li_16, li_19, li_20, li_28, li_48, li_57, li_59, li_60, li_96, li_97, li_99, li_100, li_102, li_103, li_104, li_112, li_115, li_116, li_118, li_119, li_121, li_124, li_132, li_255, li_256, li_1000, li_2000, li_1000000000, iI_add, iI_sub, iI_mul, iI_neg, iI_lt, iI_le, iI_eq, iI_clamp, iI_s, iI_m1, iI_div, bs, tn, tn4, tn12, tn20, tn124, tn28, itT, itF, if_pos, if_neg, f_X7_count]
end
section
-- ===== two who press =====
def tY (a : Nat → Int) (j now : Nat) (m : Int) (p : Nat) : Nat := sY a j now m (p : Int)
def sCt (Y : Nat → Nat) (x o : Nat) : Nat → Nat → Bool
  | 0, _ => true
  | d + 1, p => if Y (x + o) < Y (p + o) then false else if Y (x + p) < Y (x + o) then false else sCt Y x o d (p + 1)
def sTw (Y : Nat → Nat) (x d o : Nat) : Int := sFst (fun o => sCt Y x o 5 0) d o
def sT2 (Y : Nat → Nat) : Nat → Nat → Int
  | 0, _ => -9
  | d + 1, x => if sTw Y x 5 0 < 0 then sT2 Y d (x + 1) else 10 * (x : Int) + sTw Y x 5 0
theorem tY_le (a : Nat → Int) (j now : Nat) (m : Int) (p : Nat) : tY a j now m p ≤ now := sY_le _ _ _ _ _
theorem cCt {S : St} {t : Nat} {a : Nat → Int} {j : Nat} (h : RT S t a j) (hw : WT a j) {now : Nat} (hn : now ≤ 11) (p1 : S.1 1 1 = iI now) {m : Int} (h1 : 0 ≤ m ∧ m ≤ 99) {x o : Nat} (hx : x < 5) (ho : o < 5) {k k9 : Unit → Option Int32} :
    ∀ d n p : Nat, p + d = 5 → d < n → f_X7_bothContent_L21 n t (iI m) (iI x) (iI o) (iI (tY a j now m (x + o))) (iI p) S k k9 = if sCt (tY a j now m) x o d p = true then k9 () else k () := by
  intro d
  induction d with
  | zero =>
    intro n p hp hd
    obtain ⟨n, rfl⟩ : ∃ p, n = p + 1 := ⟨n - 1, by omega⟩
    rw [f_X7_bothContent_L21, sCt]
    simp (disch := omega) only [li_0, li_1, li_2, li_3, li_4, li_5, li_6, li_7, li_8, li_9, li_10, li_11, li_12, li_16, li_19, li_20, li_28, li_48, li_57, li_59, li_60, li_96, li_97, li_99, li_100, li_102, li_103, li_104, li_112, li_115, li_116, li_118, li_119, li_121, li_124, li_132, li_255, li_256, li_1000, li_2000, li_1000000000, iI_add, iI_sub, iI_mul, iI_neg, iI_lt, iI_le, iI_eq, iI_clamp, iI_s, iI_m1, iI_div, bs, tn, tn4, tn12, tn20, tn124, tn28, itT, itF, if_pos, if_neg]
  | succ d ih =>
    intro n p hp hd
    obtain ⟨n, rfl⟩ : ∃ p, n = p + 1 := ⟨n - 1, by omega⟩
    have i1 := ih n (p + 1) (by omega) (by omega)
    have e1 : f_X6_yearBy t (iI m) (iI ((p : Int) + (o : Int))) (iI now) S = some (iI (tY a j now m (p + o))) := cY h hw hn (by omega) (by omega)
    have e2 : f_X6_yearBy t (iI m) (iI ((x : Int) + (p : Int))) (iI now) S = some (iI (tY a j now m (x + p))) := cY h hw hn (by omega) (by omega)
    have y0 := tY_le a j now m (x + o)
    have y1 := tY_le a j now m (p + o)
    have y2 := tY_le a j now m (x + p)
    rw [f_X7_bothContent_L21, sCt]
    by_cases c1 : tY a j now m (x + o) < tY a j now m (p + o)
    · simp (disch := omega) only [li_0, li_1, li_2, li_3, li_4, li_5, li_6, li_7, li_8, li_9, li_10, li_11, li_12, li_16, li_19, li_20, li_28, li_48, li_57, li_59, li_60, li_96, li_97, li_99, li_100, li_102, li_103, li_104, li_112, li_115, li_116, li_118, li_119, li_121, li_124, li_132, li_255, li_256, li_1000, li_2000, li_1000000000, iI_add, iI_sub, iI_mul, iI_neg, iI_lt, iI_le, iI_eq, iI_clamp, iI_s, iI_m1, iI_div, bs, tn, tn4, tn12, tn20, tn124, tn28, itT, itF, if_pos, if_neg, p1, e1, Bool.false_eq_true]
    · by_cases c2 : tY a j now m (x + p) < tY a j now m (x + o)
      · simp (disch := omega) only [li_0, li_1, li_2, li_3, li_4, li_5, li_6, li_7, li_8, li_9, li_10, li_11, li_12, li_16, li_19, li_20, li_28, li_48, li_57, li_59, li_60, li_96, li_97, li_99, li_100, li_102, li_103, li_104, li_112, li_115, li_116, li_118, li_119, li_121, li_124, li_132, li_255, li_256, li_1000, li_2000, li_1000000000, iI_add, iI_sub, iI_mul, iI_neg, iI_lt, iI_le, iI_eq, iI_clamp, iI_s, iI_m1, iI_div, bs, tn, tn4, tn12, tn20, tn124, tn28, itT, itF, if_pos, if_neg, p1, e1, e2, Bool.false_eq_true]
      · simp (disch := omega) only [li_0, li_1, li_2, li_3, li_4, li_5, li_6, li_7, li_8, li_9, li_10, li_11, li_12, li_16, li_19, li_20, li_28, li_48, li_57, li_59, li_60, li_96, li_97, li_99, li_100, li_102, li_103, li_104, li_112, li_115, li_116, li_118, li_119, li_121, li_124, li_132, li_255, li_256, li_1000, li_2000, li_1000000000, iI_add, iI_sub, iI_mul, iI_neg, iI_lt, iI_le, iI_eq, iI_clamp, iI_s, iI_m1, iI_div, bs, tn, tn4, tn12, tn20, tn124, tn28, itT, itF, if_pos, if_neg, p1, e1, e2, i1]
theorem cBoth {S : St} {t : Nat} {a : Nat → Int} {j : Nat} (h : RT S t a j) (hw : WT a j) {now : Nat} (hn : now ≤ 11) (p1 : S.1 1 1 = iI now) {m : Int} (h1 : 0 ≤ m ∧ m ≤ 99) {x o : Nat} (hx : x < 5) (ho : o < 5) :
    f_X7_bothContent t (iI m) (iI x) (iI o) S = some (iI (if sCt (tY a j now m) x o 5 0 = true then 1 else 0)) := by
  have e1 : f_X6_yearBy t (iI m) (iI ((x : Int) + (o : Int))) (iI now) S = some (iI (tY a j now m (x + o))) := cY h hw hn (by omega) (by omega)
  have i : f_X7_bothContent_L21 2000 t (iI m) (iI x) (iI o) (iI (tY a j now m (x + o))) (iI 0) S (fun _ => some (iI 0)) (fun _ => some (iI 1)) = _ := cCt h hw hn p1 h1 hx ho 5 2000 0 (by omega) (by omega)
  rw [f_X7_bothContent]
  by_cases c : sCt (tY a j now m) x o 5 0 = true
  · rw [if_pos c] at i ⊢
    simp (disch := omega) only [li_0, li_1, li_2, li_3, li_4, li_5, li_6, li_7, li_8, li_9, li_10, li_11, li_12, li_16, li_19, li_20, li_28, li_48, li_57, li_59, li_60, li_96, li_97, li_99, li_100, li_102, li_103, li_104, li_112, li_115, li_116, li_118, li_119, li_121, li_124, li_132, li_255, li_256, li_1000, li_2000, li_1000000000, iI_add, iI_sub, iI_mul, iI_neg, iI_lt, iI_le, iI_eq, iI_clamp, iI_s, iI_m1, iI_div, bs, tn, tn4, tn12, tn20, tn124, tn28, itT, itF, if_pos, if_neg, p1, e1, i]
  · rw [if_neg c] at i ⊢
    simp (disch := omega) only [li_0, li_1, li_2, li_3, li_4, li_5, li_6, li_7, li_8, li_9, li_10, li_11, li_12, li_16, li_19, li_20, li_28, li_48, li_57, li_59, li_60, li_96, li_97, li_99, li_100, li_102, li_103, li_104, li_112, li_115, li_116, li_118, li_119, li_121, li_124, li_132, li_255, li_256, li_1000, li_2000, li_1000000000, iI_add, iI_sub, iI_mul, iI_neg, iI_lt, iI_le, iI_eq, iI_clamp, iI_s, iI_m1, iI_div, bs, tn, tn4, tn12, tn20, tn124, tn28, itT, itF, if_pos, if_neg, p1, e1, i]
theorem cTwI {S : St} {a : Nat → Int} {j now : Nat} (hc : RC S 1 a) (hw : WFa a) (hj : j < 8) (hs : (j : Int) < a 0) (hn : now ≤ 11) (p1 : S.1 1 1 = iI now) {m : Int} (h1 : 0 ≤ m ∧ m ≤ 99) {x : Nat} (hx : x < 5) {k : Int32 → Option (Int32 × St)} {k9 : Unit → Option (Int32 × St)} :
    ∀ d n o : Nat, o + d = 5 → d < n → f_X7_two_L47 n (iI j) (iI m) (iI x) (iI o) S k k9 = if sTw (tY a j now m) x d o < 0 then k9 () else k (iI (sTw (tY a j now m) x d o)) := by
  intro d
  induction d with
  | zero =>
    intro n o ho hd
    obtain ⟨n, rfl⟩ : ∃ p, n = p + 1 := ⟨n - 1, by omega⟩
    rw [f_X7_two_L47, sTw, sFst]
    simp (disch := omega) only [li_0, li_1, li_2, li_3, li_4, li_5, li_6, li_7, li_8, li_9, li_10, li_11, li_12, li_16, li_19, li_20, li_28, li_48, li_57, li_59, li_60, li_96, li_97, li_99, li_100, li_102, li_103, li_104, li_112, li_115, li_116, li_118, li_119, li_121, li_124, li_132, li_255, li_256, li_1000, li_2000, li_1000000000, iI_add, iI_sub, iI_mul, iI_neg, iI_lt, iI_le, iI_eq, iI_clamp, iI_s, iI_m1, iI_div, bs, tn, tn4, tn12, tn20, tn124, tn28, itT, itF, if_pos, if_neg]
  | succ d ih =>
    intro n o ho hd
    obtain ⟨n, rfl⟩ : ∃ p, n = p + 1 := ⟨n - 1, by omega⟩
    have i1 := ih n (o + 1) (by omega) (by omega)
    have e1 := cAt (S := S) (q := 1) hj
    have e2 := cBoth (hc.t hj hs) (hw.t hj) hn p1 h1 hx (o := o) (by omega)
    have e3 : sTw (tY a j now m) x (d + 1) o = if sCt (tY a j now m) x o 5 0 = true then (o : Int) else sTw (tY a j now m) x d (o + 1) := rfl
    rw [f_X7_two_L47, e3]
    by_cases c : sCt (tY a j now m) x o 5 0 = true
    · rw [if_pos c] at e2 ⊢
      simp (disch := omega) only [li_0, li_1, li_2, li_3, li_4, li_5, li_6, li_7, li_8, li_9, li_10, li_11, li_12, li_16, li_19, li_20, li_28, li_48, li_57, li_59, li_60, li_96, li_97, li_99, li_100, li_102, li_103, li_104, li_112, li_115, li_116, li_118, li_119, li_121, li_124, li_132, li_255, li_256, li_1000, li_2000, li_1000000000, iI_add, iI_sub, iI_mul, iI_neg, iI_lt, iI_le, iI_eq, iI_clamp, iI_s, iI_m1, iI_div, bs, tn, tn4, tn12, tn20, tn124, tn28, itT, itF, if_pos, if_neg, e1, e2]
    · rw [if_neg c] at e2 ⊢
      simp (disch := omega) only [li_0, li_1, li_2, li_3, li_4, li_5, li_6, li_7, li_8, li_9, li_10, li_11, li_12, li_16, li_19, li_20, li_28, li_48, li_57, li_59, li_60, li_96, li_97, li_99, li_100, li_102, li_103, li_104, li_112, li_115, li_116, li_118, li_119, li_121, li_124, li_132, li_255, li_256, li_1000, li_2000, li_1000000000, iI_add, iI_sub, iI_mul, iI_neg, iI_lt, iI_le, iI_eq, iI_clamp, iI_s, iI_m1, iI_div, bs, tn, tn4, tn12, tn20, tn124, tn28, itT, itF, if_pos, if_neg, e1, e2, i1]
theorem cTwL {S : St} {a : Nat → Int} {j now : Nat} (hc : RC S 1 a) (hw : WFa a) (hj : j < 8) (hs : (j : Int) < a 0) (hn : now ≤ 11) (p1 : S.1 1 1 = iI now) {m : Int} (h1 : 0 ≤ m ∧ m ≤ 99) {k : Int32 → Int32 → Option (Int32 × St)} {k9 : Unit → Option (Int32 × St)} {K : Int32 → Option (Int32 × St)} (hk : ∀ x y : Int, k (iI x) (iI y) = K (iI (10 * x + y))) (h9 : k9 () = K (iI (-9))) :
    ∀ d n x : Nat, x + d = 5 → d < n → f_X7_two_L38 n (iI j) (iI m) (iI x) S k k9 = K (iI (sT2 (tY a j now m) d x)) := by
  intro d
  induction d with
  | zero =>
    intro n x hx hd
    obtain ⟨n, rfl⟩ : ∃ p, n = p + 1 := ⟨n - 1, by omega⟩
    rw [f_X7_two_L38, sT2]
    simp (disch := omega) only [li_0, li_1, li_2, li_3, li_4, li_5, li_6, li_7, li_8, li_9, li_10, li_11, li_12, li_16, li_19, li_20, li_28, li_48, li_57, li_59, li_60, li_96, li_97, li_99, li_100, li_102, li_103, li_104, li_112, li_115, li_116, li_118, li_119, li_121, li_124, li_132, li_255, li_256, li_1000, li_2000, li_1000000000, iI_add, iI_sub, iI_mul, iI_neg, iI_lt, iI_le, iI_eq, iI_clamp, iI_s, iI_m1, iI_div, bs, tn, tn4, tn12, tn20, tn124, tn28, itT, itF, if_pos, if_neg]
    exact h9
  | succ d ih =>
    intro n x hx hd
    obtain ⟨n, rfl⟩ : ∃ p, n = p + 1 := ⟨n - 1, by omega⟩
    have i1 := ih n (x + 1) (by omega) (by omega)
    have e1 : f_X7_two_L47 2000 (iI j) (iI m) (iI x) (iI 0) S (fun y => k (iI x) y) (fun _ => f_X7_two_L38 n (iI j) (iI m) (iI ((x + 1 : Nat) : Int)) S k k9) = _ := cTwI hc hw hj hs hn p1 h1 (x := x) (by omega) 5 2000 0 (by omega) (by omega)
    rw [f_X7_two_L38, sT2]
    simp (disch := omega) only [li_0, li_1, li_2, li_3, li_4, li_5, li_6, li_7, li_8, li_9, li_10, li_11, li_12, li_16, li_19, li_20, li_28, li_48, li_57, li_59, li_60, li_96, li_97, li_99, li_100, li_102, li_103, li_104, li_112, li_115, li_116, li_118, li_119, li_121, li_124, li_132, li_255, li_256, li_1000, li_2000, li_1000000000, iI_add, iI_sub, iI_mul, iI_neg, iI_lt, iI_le, iI_eq, iI_clamp, iI_s, iI_m1, iI_div, bs, tn, tn4, tn12, tn20, tn124, tn28, itT, itF, if_pos, if_neg]
    rw [e1]
    by_cases c : sTw (tY a j now m) x 5 0 < 0
    · rw [if_pos c, if_pos c]; exact i1
    · rw [if_neg c, if_neg c]; exact hk _ _
theorem rCt {S : St} {a : Nat → Int} {j now : Nat} (hm : ∀ k, k < 132 → S.1 75 k = iI (a k)) (hj : j < 8) (hw : WT a j) (hn : now ≤ 11) (hn1 : a 1 = now) {m : Int} (h1 : 0 ≤ m ∧ m ≤ 99) {x o : Nat} (hx : x < 5) (ho : o < 5) {k : Int32 → Option (Int32 × St)} :
    ∀ d n p : Nat, p + d = 5 → d < n → (f_X8_two_L58 n (iI j) (iI m) (iI x) (iI o) (iI (tY a j now m (x + o))) (iI 0) (iI p) S k = k (iI 0)) ∧ (f_X8_two_L58 n (iI j) (iI m) (iI x) (iI o) (iI (tY a j now m (x + o))) (iI 1) (iI p) S k = k (iI (if sCt (tY a j now m) x o d p = true then 1 else 0))) := by
  have a00 : (iI 0 &&& iI 0 : Int32) = iI 0 := by decide
  have a01 : (iI 0 &&& iI 1 : Int32) = iI 0 := by decide
  have a10 : (iI 1 &&& iI 0 : Int32) = iI 0 := by decide
  have a11 : (iI 1 &&& iI 1 : Int32) = iI 1 := by decide
  intro d
  induction d with
  | zero =>
    intro n p hp hd
    obtain ⟨n, rfl⟩ : ∃ p, n = p + 1 := ⟨n - 1, by omega⟩
    rw [f_X8_two_L58, f_X8_two_L58, sCt]
    exact ⟨by simp (disch := omega) only [li_0, li_1, li_2, li_3, li_4, li_5, li_6, li_7, li_8, li_9, li_10, li_11, li_12, li_16, li_19, li_20, li_28, li_48, li_57, li_59, li_60, li_96, li_97, li_99, li_100, li_102, li_103, li_104, li_112, li_115, li_116, li_118, li_119, li_121, li_124, li_132, li_255, li_256, li_1000, li_2000, li_1000000000, iI_add, iI_sub, iI_mul, iI_neg, iI_lt, iI_le, iI_eq, iI_clamp, iI_s, iI_m1, iI_div, bs, tn, tn4, tn12, tn20, tn124, tn28, itT, itF, if_pos, if_neg], by simp (disch := omega) only [li_0, li_1, li_2, li_3, li_4, li_5, li_6, li_7, li_8, li_9, li_10, li_11, li_12, li_16, li_19, li_20, li_28, li_48, li_57, li_59, li_60, li_96, li_97, li_99, li_100, li_102, li_103, li_104, li_112, li_115, li_116, li_118, li_119, li_121, li_124, li_132, li_255, li_256, li_1000, li_2000, li_1000000000, iI_add, iI_sub, iI_mul, iI_neg, iI_lt, iI_le, iI_eq, iI_clamp, iI_s, iI_m1, iI_div, bs, tn, tn4, tn12, tn20, tn124, tn28, itT, itF, if_pos, if_neg]⟩
  | succ d ih =>
    intro n p hp hd
    obtain ⟨n, rfl⟩ : ∃ p, n = p + 1 := ⟨n - 1, by omega⟩
    obtain ⟨i0, i1⟩ := ih n (p + 1) (by omega) (by omega)
    have e1 : f_X8_yearOf 75 (iI j) (iI m) (iI ((p : Int) + (o : Int))) S = some (iI (tY a j now m (p + o))) := rY hm hj hw hn hn1 (by omega) (by omega)
    have e2 : f_X8_yearOf 75 (iI j) (iI m) (iI ((x : Int) + (p : Int))) S = some (iI (tY a j now m (x + p))) := rY hm hj hw hn hn1 (by omega) (by omega)
    have y0 := tY_le a j now m (x + o)
    have y1 := tY_le a j now m (p + o)
    have y2 := tY_le a j now m (x + p)
    rw [f_X8_two_L58, f_X8_two_L58, sCt]
    by_cases c1 : tY a j now m (x + o) < tY a j now m (p + o)
    · exact ⟨by simp (disch := omega) only [li_0, li_1, li_2, li_3, li_4, li_5, li_6, li_7, li_8, li_9, li_10, li_11, li_12, li_16, li_19, li_20, li_28, li_48, li_57, li_59, li_60, li_96, li_97, li_99, li_100, li_102, li_103, li_104, li_112, li_115, li_116, li_118, li_119, li_121, li_124, li_132, li_255, li_256, li_1000, li_2000, li_1000000000, iI_add, iI_sub, iI_mul, iI_neg, iI_lt, iI_le, iI_eq, iI_clamp, iI_s, iI_m1, iI_div, bs, tn, tn4, tn12, tn20, tn124, tn28, itT, itF, if_pos, if_neg, e1, a00, i0], by simp (disch := omega) only [li_0, li_1, li_2, li_3, li_4, li_5, li_6, li_7, li_8, li_9, li_10, li_11, li_12, li_16, li_19, li_20, li_28, li_48, li_57, li_59, li_60, li_96, li_97, li_99, li_100, li_102, li_103, li_104, li_112, li_115, li_116, li_118, li_119, li_121, li_124, li_132, li_255, li_256, li_1000, li_2000, li_1000000000, iI_add, iI_sub, iI_mul, iI_neg, iI_lt, iI_le, iI_eq, iI_clamp, iI_s, iI_m1, iI_div, bs, tn, tn4, tn12, tn20, tn124, tn28, itT, itF, if_pos, if_neg, e1, a10, i0, Bool.false_eq_true]⟩
    · by_cases c2 : tY a j now m (x + p) < tY a j now m (x + o)
      · exact ⟨by simp (disch := omega) only [li_0, li_1, li_2, li_3, li_4, li_5, li_6, li_7, li_8, li_9, li_10, li_11, li_12, li_16, li_19, li_20, li_28, li_48, li_57, li_59, li_60, li_96, li_97, li_99, li_100, li_102, li_103, li_104, li_112, li_115, li_116, li_118, li_119, li_121, li_124, li_132, li_255, li_256, li_1000, li_2000, li_1000000000, iI_add, iI_sub, iI_mul, iI_neg, iI_lt, iI_le, iI_eq, iI_clamp, iI_s, iI_m1, iI_div, bs, tn, tn4, tn12, tn20, tn124, tn28, itT, itF, if_pos, if_neg, e1, e2, a00, i0], by simp (disch := omega) only [li_0, li_1, li_2, li_3, li_4, li_5, li_6, li_7, li_8, li_9, li_10, li_11, li_12, li_16, li_19, li_20, li_28, li_48, li_57, li_59, li_60, li_96, li_97, li_99, li_100, li_102, li_103, li_104, li_112, li_115, li_116, li_118, li_119, li_121, li_124, li_132, li_255, li_256, li_1000, li_2000, li_1000000000, iI_add, iI_sub, iI_mul, iI_neg, iI_lt, iI_le, iI_eq, iI_clamp, iI_s, iI_m1, iI_div, bs, tn, tn4, tn12, tn20, tn124, tn28, itT, itF, if_pos, if_neg, e1, e2, a10, i0, Bool.false_eq_true]⟩
      · exact ⟨by simp (disch := omega) only [li_0, li_1, li_2, li_3, li_4, li_5, li_6, li_7, li_8, li_9, li_10, li_11, li_12, li_16, li_19, li_20, li_28, li_48, li_57, li_59, li_60, li_96, li_97, li_99, li_100, li_102, li_103, li_104, li_112, li_115, li_116, li_118, li_119, li_121, li_124, li_132, li_255, li_256, li_1000, li_2000, li_1000000000, iI_add, iI_sub, iI_mul, iI_neg, iI_lt, iI_le, iI_eq, iI_clamp, iI_s, iI_m1, iI_div, bs, tn, tn4, tn12, tn20, tn124, tn28, itT, itF, if_pos, if_neg, e1, e2, a01, i0], by simp (disch := omega) only [li_0, li_1, li_2, li_3, li_4, li_5, li_6, li_7, li_8, li_9, li_10, li_11, li_12, li_16, li_19, li_20, li_28, li_48, li_57, li_59, li_60, li_96, li_97, li_99, li_100, li_102, li_103, li_104, li_112, li_115, li_116, li_118, li_119, li_121, li_124, li_132, li_255, li_256, li_1000, li_2000, li_1000000000, iI_add, iI_sub, iI_mul, iI_neg, iI_lt, iI_le, iI_eq, iI_clamp, iI_s, iI_m1, iI_div, bs, tn, tn4, tn12, tn20, tn124, tn28, itT, itF, if_pos, if_neg, e1, e2, a11, i1]⟩
theorem rCt2 {S : St} {a : Nat → Int} {j now : Nat} (hm : ∀ k, k < 132 → S.1 75 k = iI (a k)) (hj : j < 8) (hw : WT a j) (hn : now ≤ 11) (hn1 : a 1 = now) {m : Int} (h1 : 0 ≤ m ∧ m ≤ 99) {x o : Nat} (hx : x < 5) (ho : o < 5) (k : Int32 → Option (Int32 × St)) :
    f_X8_two_L58 2000 (iI j) (iI m) (iI x) (iI o) (iI (tY a j now m (x + o))) (iI 1) (iI ((0 : Nat) : Int)) S k = k (iI (if sCt (tY a j now m) x o 5 0 = true then 1 else 0)) :=
  (rCt hm hj hw hn hn1 h1 hx ho (k := k) 5 2000 0 (by omega) (by omega)).2
theorem rTwI {S : St} {a : Nat → Int} {j now : Nat} (hm : ∀ k, k < 132 → S.1 75 k = iI (a k)) (hj : j < 8) (hw : WT a j) (hn : now ≤ 11) (hn1 : a 1 = now) {m : Int} (h1 : 0 ≤ m ∧ m ≤ 99) {x : Nat} (hx : x < 5) {k : Int32 → Option (Int32 × St)} {k9 : Unit → Option (Int32 × St)} :
    ∀ d n o : Nat, o + d = 5 → d < n → f_X8_two_L30 n (iI j) (iI m) (iI x) (iI o) S k k9 = if sTw (tY a j now m) x d o < 0 then k9 () else k (iI (sTw (tY a j now m) x d o)) := by
  intro d
  induction d with
  | zero =>
    intro n o ho hd
    obtain ⟨n, rfl⟩ : ∃ p, n = p + 1 := ⟨n - 1, by omega⟩
    rw [f_X8_two_L30, sTw, sFst]
    simp (disch := omega) only [li_0, li_1, li_2, li_3, li_4, li_5, li_6, li_7, li_8, li_9, li_10, li_11, li_12, li_16, li_19, li_20, li_28, li_48, li_57, li_59, li_60, li_96, li_97, li_99, li_100, li_102, li_103, li_104, li_112, li_115, li_116, li_118, li_119, li_121, li_124, li_132, li_255, li_256, li_1000, li_2000, li_1000000000, iI_add, iI_sub, iI_mul, iI_neg, iI_lt, iI_le, iI_eq, iI_clamp, iI_s, iI_m1, iI_div, bs, tn, tn4, tn12, tn20, tn124, tn28, itT, itF, if_pos, if_neg]
  | succ d ih =>
    intro n o ho hd
    obtain ⟨n, rfl⟩ : ∃ p, n = p + 1 := ⟨n - 1, by omega⟩
    have i1 := ih n (o + 1) (by omega) (by omega)
    have e1 : f_X8_yearOf 75 (iI j) (iI m) (iI x + iI o) S = some (iI (tY a j now m (x + o))) := by
      rw [iI_add]
      exact rY hm hj hw hn hn1 (by omega) (by omega)
    have e2 := rCt2 hm hj hw hn hn1 h1 hx (o := o) (by omega)
    have e3 : sTw (tY a j now m) x (d + 1) o = if sCt (tY a j now m) x o 5 0 = true then (o : Int) else sTw (tY a j now m) x d (o + 1) := rfl
    have e4 : ¬ (5 : Int32) ≤ iI o := by
      rw [li_5, iI_le (by omega) (by omega) (by omega) (by omega)]; omega
    have e5 : (iI (o : Int) + 1 : Int32) = iI ((o + 1 : Nat) : Int) := by rw [li_1, iI_add]; rfl
    rw [f_X8_two_L30, if_neg e4, e1, bs, e5, show (1 : Int32) = iI 1 from rfl, show (0 : Int32) = iI ((0 : Nat) : Int) from rfl, e2, e3]
    by_cases c : sCt (tY a j now m) x o 5 0 = true
    · rw [if_pos c, if_pos c, if_neg (by decide), if_neg (by omega)]
    · rw [if_neg c, if_neg c, if_pos (show iI 0 = iI ((0 : Nat) : Int) from rfl), i1]
theorem rTwL {S : St} {a : Nat → Int} {j now : Nat} (hm : ∀ k, k < 132 → S.1 75 k = iI (a k)) (hj : j < 8) (hw : WT a j) (hn : now ≤ 11) (hn1 : a 1 = now) {m : Int} (h1 : 0 ≤ m ∧ m ≤ 99) {k : Int32 → Int32 → Option (Int32 × St)} {k9 : Unit → Option (Int32 × St)} {K : Int32 → Option (Int32 × St)} (hk : ∀ x y : Int, k (iI x) (iI y) = K (iI (10 * x + y))) (h9 : k9 () = K (iI (-9))) :
    ∀ d n x : Nat, x + d = 5 → d < n → f_X8_two_L21 n (iI j) (iI m) (iI x) S k k9 = K (iI (sT2 (tY a j now m) d x)) := by
  intro d
  induction d with
  | zero =>
    intro n x hx hd
    obtain ⟨n, rfl⟩ : ∃ p, n = p + 1 := ⟨n - 1, by omega⟩
    rw [f_X8_two_L21, sT2]
    simp (disch := omega) only [li_0, li_1, li_2, li_3, li_4, li_5, li_6, li_7, li_8, li_9, li_10, li_11, li_12, li_16, li_19, li_20, li_28, li_48, li_57, li_59, li_60, li_96, li_97, li_99, li_100, li_102, li_103, li_104, li_112, li_115, li_116, li_118, li_119, li_121, li_124, li_132, li_255, li_256, li_1000, li_2000, li_1000000000, iI_add, iI_sub, iI_mul, iI_neg, iI_lt, iI_le, iI_eq, iI_clamp, iI_s, iI_m1, iI_div, bs, tn, tn4, tn12, tn20, tn124, tn28, itT, itF, if_pos, if_neg]
    exact h9
  | succ d ih =>
    intro n x hx hd
    obtain ⟨n, rfl⟩ : ∃ p, n = p + 1 := ⟨n - 1, by omega⟩
    have i1 := ih n (x + 1) (by omega) (by omega)
    have e1 : f_X8_two_L30 2000 (iI j) (iI m) (iI x) (iI 0) S (fun y => k (iI x) y) (fun _ => f_X8_two_L21 n (iI j) (iI m) (iI ((x + 1 : Nat) : Int)) S k k9) = _ := rTwI hm hj hw hn hn1 h1 (x := x) (by omega) 5 2000 0 (by omega) (by omega)
    rw [f_X8_two_L21, sT2]
    simp (disch := omega) only [li_0, li_1, li_2, li_3, li_4, li_5, li_6, li_7, li_8, li_9, li_10, li_11, li_12, li_16, li_19, li_20, li_28, li_48, li_57, li_59, li_60, li_96, li_97, li_99, li_100, li_102, li_103, li_104, li_112, li_115, li_116, li_118, li_119, li_121, li_124, li_132, li_255, li_256, li_1000, li_2000, li_1000000000, iI_add, iI_sub, iI_mul, iI_neg, iI_lt, iI_le, iI_eq, iI_clamp, iI_s, iI_m1, iI_div, bs, tn, tn4, tn12, tn20, tn124, tn28, itT, itF, if_pos, if_neg]
    rw [e1]
    by_cases c : sTw (tY a j now m) x 5 0 < 0
    · rw [if_pos c, if_pos c]; exact i1
    · rw [if_neg c, if_neg c]; exact hk _ _
theorem e_two {S : St} (hS : Inv S) (a1 : Int32) (a2 : Int32) : ∃ (z1 : Int32 × St) (z2 : Int32 × St), f_X7_two a1 a2 S = some z1 ∧ f_X8_two a1 a2 z1.2 = some z2 ∧ z1.1 = z2.1 ∧ Inv z2.2 := by
  obtain ⟨⟨a, hw, hc, hm0⟩, -⟩ := id hS
  have hm : ∀ k, k < 132 → S.1 75 k = iI (a k) := hm0
  have h8 := hw.1
  have w1 := hw.2.1
  have w2 := hw.2.2.1
  have w3 := hw.2.2.2.1
  obtain ⟨now, hnow⟩ : ∃ n : Nat, a 1 = n := ⟨(a 1).toNat, by omega⟩
  obtain ⟨N, hN⟩ : ∃ n : Nat, a 0 = n := ⟨(a 0).toNat, by omega⟩
  have hn : now ≤ 11 := by omega
  have hN8 : N ≤ 8 := by omega
  have p1 : S.1 1 1 = iI now := by rw [hc.1 1 (by omega), hnow]
  have p0 : S.1 1 0 = iI N := by rw [hc.1 0 (by omega), hN]
  have m0 : S.1 75 0 = iI N := by rw [hm 0 (by omega), hN]
  have m1 : S.1 75 1 = iI now := by rw [hm 1 (by omega), hnow]
  obtain ⟨x, x1, x2, rfl⟩ := iI_any a1
  obtain ⟨y, y1, y2, rfl⟩ := iI_any a2
  have e1 := cLacks hc hw x1 x2
  have e3 := cOut (z := y) (l := 0) (u := 99) y1 y2 (by omega) (by omega) (by omega) (by omega)
  by_cases c : 0 ≤ x ∧ x < a 0
  · obtain ⟨j, rfl⟩ : ∃ n : Nat, x = n := ⟨x.toNat, by omega⟩
    have ht := hc.t (j := j) (by omega) (by omega)
    have hwt := hw.t (j := j) (by omega)
    have e2 := cAt (S := S) (q := 1) (j := j) (by omega)
    by_cases c1 : y < 0
    · exact e_no hS (-4) 4 (by omega) (by omega) (by simp (disch := omega) only [li_0, li_1, li_2, li_3, li_4, li_5, li_6, li_7, li_8, li_9, li_10, li_11, li_12, li_16, li_19, li_20, li_28, li_48, li_57, li_59, li_60, li_96, li_97, li_99, li_100, li_102, li_103, li_104, li_112, li_115, li_116, li_118, li_119, li_121, li_124, li_132, li_255, li_256, li_1000, li_2000, li_1000000000, iI_add, iI_sub, iI_mul, iI_neg, iI_lt, iI_le, iI_eq, iI_clamp, iI_s, iI_m1, iI_div, bs, tn, tn4, tn12, tn20, tn124, tn28, itT, itF, if_pos, if_neg, f_X7_two, e1, e3, bse]) (fun S1 q1 q2 => by
        have g1 := rWrong (S := S1) (by rw [q1]; exact m0) hN8 (z := 0) x1 x2 y1 y2 (by omega) (by omega)
        simp (disch := omega) only [li_0, li_1, li_2, li_3, li_4, li_5, li_6, li_7, li_8, li_9, li_10, li_11, li_12, li_16, li_19, li_20, li_28, li_48, li_57, li_59, li_60, li_96, li_97, li_99, li_100, li_102, li_103, li_104, li_112, li_115, li_116, li_118, li_119, li_121, li_124, li_132, li_255, li_256, li_1000, li_2000, li_1000000000, iI_add, iI_sub, iI_mul, iI_neg, iI_lt, iI_le, iI_eq, iI_clamp, iI_s, iI_m1, iI_div, bs, tn, tn4, tn12, tn20, tn124, tn28, itT, itF, if_pos, if_neg, f_X8_two, g1, bse])
    · by_cases c2 : 99 < y
      · exact e_no hS (-6) 6 (by omega) (by omega) (by simp (disch := omega) only [li_0, li_1, li_2, li_3, li_4, li_5, li_6, li_7, li_8, li_9, li_10, li_11, li_12, li_16, li_19, li_20, li_28, li_48, li_57, li_59, li_60, li_96, li_97, li_99, li_100, li_102, li_103, li_104, li_112, li_115, li_116, li_118, li_119, li_121, li_124, li_132, li_255, li_256, li_1000, li_2000, li_1000000000, iI_add, iI_sub, iI_mul, iI_neg, iI_lt, iI_le, iI_eq, iI_clamp, iI_s, iI_m1, iI_div, bs, tn, tn4, tn12, tn20, tn124, tn28, itT, itF, if_pos, if_neg, f_X7_two, e1, e3, bse]) (fun S1 q1 q2 => by
          have g1 := rWrong (S := S1) (by rw [q1]; exact m0) hN8 (z := 0) x1 x2 y1 y2 (by omega) (by omega)
          simp (disch := omega) only [li_0, li_1, li_2, li_3, li_4, li_5, li_6, li_7, li_8, li_9, li_10, li_11, li_12, li_16, li_19, li_20, li_28, li_48, li_57, li_59, li_60, li_96, li_97, li_99, li_100, li_102, li_103, li_104, li_112, li_115, li_116, li_118, li_119, li_121, li_124, li_132, li_255, li_256, li_1000, li_2000, li_1000000000, iI_add, iI_sub, iI_mul, iI_neg, iI_lt, iI_le, iI_eq, iI_clamp, iI_s, iI_m1, iI_div, bs, tn, tn4, tn12, tn20, tn124, tn28, itT, itF, if_pos, if_neg, f_X8_two, g1, bse])
      · have g1 := rWrong m0 hN8 (z := 0) x1 x2 y1 y2 (by omega) (by omega)
        have e4 : f_X7_two_L38 2000 (iI j) (iI y) (iI 0) S (fun y11 y12 => some ((iI 10 * y11) + y12, S)) (fun _ => some (iI (-9), S)) = some (iI (sT2 (tY a j now y) 5 0), S) := cTwL hc hw (j := j) (by omega) (by omega) hn p1 (by omega) (K := fun v => some (v, S)) (fun x y => by simp (disch := omega) only [li_0, li_1, li_2, li_3, li_4, li_5, li_6, li_7, li_8, li_9, li_10, li_11, li_12, li_16, li_19, li_20, li_28, li_48, li_57, li_59, li_60, li_96, li_97, li_99, li_100, li_102, li_103, li_104, li_112, li_115, li_116, li_118, li_119, li_121, li_124, li_132, li_255, li_256, li_1000, li_2000, li_1000000000, iI_add, iI_sub, iI_mul, iI_neg, iI_lt, iI_le, iI_eq, iI_clamp, iI_s, iI_m1, iI_div, bs, tn, tn4, tn12, tn20, tn124, tn28, itT, itF, if_pos, if_neg]) rfl 5 2000 0 (by omega) (by omega)
        have g4 : f_X8_two_L21 2000 (iI j) (iI y) (iI 0) S (fun y14 y15 => some ((iI 10 * y14) + y15, S)) (fun _ => some (iI (-9), S)) = some (iI (sT2 (tY a j now y) 5 0), S) := rTwL hm (j := j) (by omega) hwt hn hnow (by omega) (K := fun v => some (v, S)) (fun x y => by simp (disch := omega) only [li_0, li_1, li_2, li_3, li_4, li_5, li_6, li_7, li_8, li_9, li_10, li_11, li_12, li_16, li_19, li_20, li_28, li_48, li_57, li_59, li_60, li_96, li_97, li_99, li_100, li_102, li_103, li_104, li_112, li_115, li_116, li_118, li_119, li_121, li_124, li_132, li_255, li_256, li_1000, li_2000, li_1000000000, iI_add, iI_sub, iI_mul, iI_neg, iI_lt, iI_le, iI_eq, iI_clamp, iI_s, iI_m1, iI_div, bs, tn, tn4, tn12, tn20, tn124, tn28, itT, itF, if_pos, if_neg]) rfl 5 2000 0 (by omega) (by omega)
        exact e_mk (v := iI (sT2 (tY a j now y) 5 0)) (S1 := S) (S2 := S) (by simp (disch := omega) only [li_0, li_1, li_2, li_3, li_4, li_5, li_6, li_7, li_8, li_9, li_10, li_11, li_12, li_16, li_19, li_20, li_28, li_48, li_57, li_59, li_60, li_96, li_97, li_99, li_100, li_102, li_103, li_104, li_112, li_115, li_116, li_118, li_119, li_121, li_124, li_132, li_255, li_256, li_1000, li_2000, li_1000000000, iI_add, iI_sub, iI_mul, iI_neg, iI_lt, iI_le, iI_eq, iI_clamp, iI_s, iI_m1, iI_div, bs, tn, tn4, tn12, tn20, tn124, tn28, itT, itF, if_pos, if_neg, f_X7_two, e1, e3, e4]) (by simp (disch := omega) only [li_0, li_1, li_2, li_3, li_4, li_5, li_6, li_7, li_8, li_9, li_10, li_11, li_12, li_16, li_19, li_20, li_28, li_48, li_57, li_59, li_60, li_96, li_97, li_99, li_100, li_102, li_103, li_104, li_112, li_115, li_116, li_118, li_119, li_121, li_124, li_132, li_255, li_256, li_1000, li_2000, li_1000000000, iI_add, iI_sub, iI_mul, iI_neg, iI_lt, iI_le, iI_eq, iI_clamp, iI_s, iI_m1, iI_div, bs, tn, tn4, tn12, tn20, tn124, tn28, itT, itF, if_pos, if_neg, f_X8_two, g1, g4]) hS
  · exact e_no hS (-1) 1 (by omega) (by omega) (by simp (disch := omega) only [li_0, li_1, li_2, li_3, li_4, li_5, li_6, li_7, li_8, li_9, li_10, li_11, li_12, li_16, li_19, li_20, li_28, li_48, li_57, li_59, li_60, li_96, li_97, li_99, li_100, li_102, li_103, li_104, li_112, li_115, li_116, li_118, li_119, li_121, li_124, li_132, li_255, li_256, li_1000, li_2000, li_1000000000, iI_add, iI_sub, iI_mul, iI_neg, iI_lt, iI_le, iI_eq, iI_clamp, iI_s, iI_m1, iI_div, bs, tn, tn4, tn12, tn20, tn124, tn28, itT, itF, if_pos, if_neg, f_X7_two, e1, bse]) (fun S1 q1 q2 => by
      have g1 := rWrong (S := S1) (by rw [q1]; exact m0) hN8 (z := 0) x1 x2 y1 y2 (by omega) (by omega)
      simp (disch := omega) only [li_0, li_1, li_2, li_3, li_4, li_5, li_6, li_7, li_8, li_9, li_10, li_11, li_12, li_16, li_19, li_20, li_28, li_48, li_57, li_59, li_60, li_96, li_97, li_99, li_100, li_102, li_103, li_104, li_112, li_115, li_116, li_118, li_119, li_121, li_124, li_132, li_255, li_256, li_1000, li_2000, li_1000000000, iI_add, iI_sub, iI_mul, iI_neg, iI_lt, iI_le, iI_eq, iI_clamp, iI_s, iI_m1, iI_div, bs, tn, tn4, tn12, tn20, tn124, tn28, itT, itF, if_pos, if_neg, f_X8_two, g1, bse])
-- ===== halves glued to one year =====
def sBt (a : Nat → Int) (i j now y : Nat) : Int := if sFw a i now y < 0 ∨ sFw a j now y < 0 then -9 else sFw a i now y + sFw a j now y
def sTg (f : Nat → Int) : Nat → Int × Int
  | 0 => (-9, -9)
  | x + 1 => if 0 ≤ f x ∧ ((sTg f x).1 = -9 ∨ f x < (sTg f x).1) then (f x, (x : Int)) else sTg f x
theorem sTg_b {f : Nat → Int} : ∀ x, (∀ y, y < x → f y ≤ 190) → (sTg f x = (-9, -9)) ∨ (0 ≤ (sTg f x).1 ∧ (sTg f x).1 ≤ 190 ∧ 0 ≤ (sTg f x).2 ∧ (sTg f x).2 < x) := by
  intro x
  induction x with
  | zero => intro _; exact Or.inl rfl
  | succ x ih =>
    intro h
    have h1 := ih (fun y hy => h y (by omega))
    have h2 := h x (by omega)
    rw [sTg]
    split
    · rename_i c
      right
      show 0 ≤ f x ∧ f x ≤ 190 ∧ 0 ≤ (x : Int) ∧ (x : Int) < ((x + 1 : Nat) : Int)
      omega
    · rcases h1 with h1 | h1
      · exact Or.inl h1
      · right; omega
theorem sBt_b (a : Nat → Int) (i j now y : Nat) : sBt a i j now y = -9 ∨ (0 ≤ sBt a i j now y ∧ sBt a i j now y ≤ 190) := by
  have h1 := sFw_b a i now y
  have h2 := sFw_b a j now y
  rw [sBt]
  split <;> omega
theorem cTgL {S : St} {a : Nat → Int} {i j now : Nat} (hc : RC S 1 a) (hw : WFa a) (hi : i < 8) (his : (i : Int) < a 0) (hj : j < 8) (hs : (j : Int) < a 0) (hn : now ≤ 11) (p1 : S.1 1 1 = iI now) {a3 : Int32} {k : Int32 → Int32 → Option (Int32 × St)} :
    ∀ d n x : Nat, x + d = 12 → d < n → f_X7_together_L78 n (iI i) (iI j) a3 (iI (sTg (sBt a i j now) x).1) (iI (sTg (sBt a i j now) x).2) (iI x) S k = k (iI (sTg (sBt a i j now) 12).1) (iI (sTg (sBt a i j now) 12).2) := by
  intro d
  induction d with
  | zero =>
    intro n x hx hd
    obtain ⟨n, rfl⟩ : ∃ p, n = p + 1 := ⟨n - 1, by omega⟩
    obtain rfl : x = 12 := by omega
    rw [f_X7_together_L78]
    simp (disch := omega) only [li_0, li_1, li_2, li_3, li_4, li_5, li_6, li_7, li_8, li_9, li_10, li_11, li_12, li_16, li_19, li_20, li_28, li_48, li_57, li_59, li_60, li_96, li_97, li_99, li_100, li_102, li_103, li_104, li_112, li_115, li_116, li_118, li_119, li_121, li_124, li_132, li_255, li_256, li_1000, li_2000, li_1000000000, iI_add, iI_sub, iI_mul, iI_neg, iI_lt, iI_le, iI_eq, iI_clamp, iI_s, iI_m1, iI_div, bs, tn, tn4, tn12, tn20, tn124, tn28, itT, itF, if_pos, if_neg]
  | succ d ih =>
    intro n x hx hd
    obtain ⟨n, rfl⟩ : ∃ p, n = p + 1 := ⟨n - 1, by omega⟩
    have i1 := ih n (x + 1) (by omega) (by omega)
    have e1 := cAt (S := S) (q := 1) hi
    have e2 := cAt (S := S) (q := 1) hj
    have e3 := cFew (hc.t hi his) (hw.t hi) hn (y := x) (by omega)
    have e4 := cFew (hc.t hj hs) (hw.t hj) hn (y := x) (by omega)
    have b1 := sFw_b a i now x
    have b2 := sFw_b a j now x
    have b3 := sBt_b a i j now x
    have b4 := sTg_b (f := sBt a i j now) x (fun y _ => by have := sBt_b a i j now y; omega)
    have e5 : f_X7_minutesOfBoth (1 + 1 + 2 + 2 * i) (1 + 1 + 2 + 2 * j) (iI x) S = some (iI (sBt a i j now x)) := by
      by_cases q1 : sFw a i now x = -9
      · simp (disch := omega) only [li_0, li_1, li_2, li_3, li_4, li_5, li_6, li_7, li_8, li_9, li_10, li_11, li_12, li_16, li_19, li_20, li_28, li_48, li_57, li_59, li_60, li_96, li_97, li_99, li_100, li_102, li_103, li_104, li_112, li_115, li_116, li_118, li_119, li_121, li_124, li_132, li_255, li_256, li_1000, li_2000, li_1000000000, iI_add, iI_sub, iI_mul, iI_neg, iI_lt, iI_le, iI_eq, iI_clamp, iI_s, iI_m1, iI_div, bs, tn, tn4, tn12, tn20, tn124, tn28, itT, itF, if_pos, if_neg, f_X7_minutesOfBoth, p1, e3, e4, sBt]
      · by_cases q2 : sFw a j now x = -9
        · simp (disch := omega) only [li_0, li_1, li_2, li_3, li_4, li_5, li_6, li_7, li_8, li_9, li_10, li_11, li_12, li_16, li_19, li_20, li_28, li_48, li_57, li_59, li_60, li_96, li_97, li_99, li_100, li_102, li_103, li_104, li_112, li_115, li_116, li_118, li_119, li_121, li_124, li_132, li_255, li_256, li_1000, li_2000, li_1000000000, iI_add, iI_sub, iI_mul, iI_neg, iI_lt, iI_le, iI_eq, iI_clamp, iI_s, iI_m1, iI_div, bs, tn, tn4, tn12, tn20, tn124, tn28, itT, itF, if_pos, if_neg, f_X7_minutesOfBoth, p1, e3, e4, sBt]
        · simp (disch := omega) only [li_0, li_1, li_2, li_3, li_4, li_5, li_6, li_7, li_8, li_9, li_10, li_11, li_12, li_16, li_19, li_20, li_28, li_48, li_57, li_59, li_60, li_96, li_97, li_99, li_100, li_102, li_103, li_104, li_112, li_115, li_116, li_118, li_119, li_121, li_124, li_132, li_255, li_256, li_1000, li_2000, li_1000000000, iI_add, iI_sub, iI_mul, iI_neg, iI_lt, iI_le, iI_eq, iI_clamp, iI_s, iI_m1, iI_div, bs, tn, tn4, tn12, tn20, tn124, tn28, itT, itF, if_pos, if_neg, f_X7_minutesOfBoth, p1, e3, e4, sBt]
    rw [sTg] at i1
    rw [f_X7_together_L78]
    have b5 : (sTg (sBt a i j now) x).1 = -9 ∨ (0 ≤ (sTg (sBt a i j now) x).1 ∧ (sTg (sBt a i j now) x).1 ≤ 190) := by
      rcases b4 with h | h
      · left; rw [h]
      · right; omega
    by_cases c1 : sBt a i j now x = -9
    · rw [if_neg (by omega)] at i1
      simp (disch := omega) only [li_0, li_1, li_2, li_3, li_4, li_5, li_6, li_7, li_8, li_9, li_10, li_11, li_12, li_16, li_19, li_20, li_28, li_48, li_57, li_59, li_60, li_96, li_97, li_99, li_100, li_102, li_103, li_104, li_112, li_115, li_116, li_118, li_119, li_121, li_124, li_132, li_255, li_256, li_1000, li_2000, li_1000000000, iI_add, iI_sub, iI_mul, iI_neg, iI_lt, iI_le, iI_eq, iI_clamp, iI_s, iI_m1, iI_div, bs, tn, tn4, tn12, tn20, tn124, tn28, itT, itF, if_pos, if_neg, e1, e2, e5, i1]
    · by_cases c2 : (sTg (sBt a i j now) x).1 = -9
      · rw [if_pos (by omega)] at i1
        simp (disch := omega) only [li_0, li_1, li_2, li_3, li_4, li_5, li_6, li_7, li_8, li_9, li_10, li_11, li_12, li_16, li_19, li_20, li_28, li_48, li_57, li_59, li_60, li_96, li_97, li_99, li_100, li_102, li_103, li_104, li_112, li_115, li_116, li_118, li_119, li_121, li_124, li_132, li_255, li_256, li_1000, li_2000, li_1000000000, iI_add, iI_sub, iI_mul, iI_neg, iI_lt, iI_le, iI_eq, iI_clamp, iI_s, iI_m1, iI_div, bs, tn, tn4, tn12, tn20, tn124, tn28, itT, itF, if_pos, if_neg, e1, e2, e5, i1]
      · by_cases c3 : sBt a i j now x < (sTg (sBt a i j now) x).1
        · rw [if_pos (by omega)] at i1
          simp (disch := omega) only [li_0, li_1, li_2, li_3, li_4, li_5, li_6, li_7, li_8, li_9, li_10, li_11, li_12, li_16, li_19, li_20, li_28, li_48, li_57, li_59, li_60, li_96, li_97, li_99, li_100, li_102, li_103, li_104, li_112, li_115, li_116, li_118, li_119, li_121, li_124, li_132, li_255, li_256, li_1000, li_2000, li_1000000000, iI_add, iI_sub, iI_mul, iI_neg, iI_lt, iI_le, iI_eq, iI_clamp, iI_s, iI_m1, iI_div, bs, tn, tn4, tn12, tn20, tn124, tn28, itT, itF, if_pos, if_neg, e1, e2, e5, i1]
        · rw [if_neg (by omega)] at i1
          simp (disch := omega) only [li_0, li_1, li_2, li_3, li_4, li_5, li_6, li_7, li_8, li_9, li_10, li_11, li_12, li_16, li_19, li_20, li_28, li_48, li_57, li_59, li_60, li_96, li_97, li_99, li_100, li_102, li_103, li_104, li_112, li_115, li_116, li_118, li_119, li_121, li_124, li_132, li_255, li_256, li_1000, li_2000, li_1000000000, iI_add, iI_sub, iI_mul, iI_neg, iI_lt, iI_le, iI_eq, iI_clamp, iI_s, iI_m1, iI_div, bs, tn, tn4, tn12, tn20, tn124, tn28, itT, itF, if_pos, if_neg, e1, e2, e5, i1]
theorem rTgL {S : St} {a : Nat → Int} {i j now : Nat} (hm : ∀ k, k < 132 → S.1 75 k = iI (a k)) (hw : WFa a) (hi : i < 8) (hj : j < 8) (hn : now ≤ 11) (hn1 : a 1 = now) {a3 : Int32} {k : Int32 → Int32 → Option (Int32 × St)} :
    ∀ d n x : Nat, x + d = 12 → d < n → f_X8_together_L73 n (iI i) (iI j) a3 (iI (sTg (sBt a i j now) x).2) (iI (if (sTg (sBt a i j now) x).1 = -9 then 1000000000 else (sTg (sBt a i j now) x).1)) (iI x) S k = k (iI (sTg (sBt a i j now) 12).2) (iI (if (sTg (sBt a i j now) 12).1 = -9 then 1000000000 else (sTg (sBt a i j now) 12).1)) := by
  intro d
  induction d with
  | zero =>
    intro n x hx hd
    obtain ⟨n, rfl⟩ : ∃ p, n = p + 1 := ⟨n - 1, by omega⟩
    obtain rfl : x = 12 := by omega
    rw [f_X8_together_L73]
    simp (disch := omega) only [li_0, li_1, li_2, li_3, li_4, li_5, li_6, li_7, li_8, li_9, li_10, li_11, li_12, li_16, li_19, li_20, li_28, li_48, li_57, li_59, li_60, li_96, li_97, li_99, li_100, li_102, li_103, li_104, li_112, li_115, li_116, li_118, li_119, li_121, li_124, li_132, li_255, li_256, li_1000, li_2000, li_1000000000, iI_add, iI_sub, iI_mul, iI_neg, iI_lt, iI_le, iI_eq, iI_clamp, iI_s, iI_m1, iI_div, bs, tn, tn4, tn12, tn20, tn124, tn28, itT, itF, if_pos, if_neg]
  | succ d ih =>
    intro n x hx hd
    obtain ⟨n, rfl⟩ : ∃ p, n = p + 1 := ⟨n - 1, by omega⟩
    have i1 := ih n (x + 1) (by omega) (by omega)
    have e3 := rFew hm hi (hw.t hi) hn hn1 (y := x) (by omega)
    have e4 := rFew hm hj (hw.t hj) hn hn1 (y := x) (by omega)
    have b1 := sFw_b a i now x
    have b2 := sFw_b a j now x
    have b3 := sBt_b a i j now x
    have b4 := sTg_b (f := sBt a i j now) x (fun y _ => by have := sBt_b a i j now y; omega)
    have b5 : (sTg (sBt a i j now) x).1 = -9 ∨ (0 ≤ (sTg (sBt a i j now) x).1 ∧ (sTg (sBt a i j now) x).1 ≤ 190) := by
      rcases b4 with h | h
      · left; rw [h]
      · right; omega
    rw [sTg] at i1
    rw [f_X8_together_L73]
    by_cases q1 : sFw a i now x < 0
    · have e : sBt a i j now x = -9 := if_pos (Or.inl q1)
      rw [if_neg (by omega)] at i1
      simp (disch := omega) only [li_0, li_1, li_2, li_3, li_4, li_5, li_6, li_7, li_8, li_9, li_10, li_11, li_12, li_16, li_19, li_20, li_28, li_48, li_57, li_59, li_60, li_96, li_97, li_99, li_100, li_102, li_103, li_104, li_112, li_115, li_116, li_118, li_119, li_121, li_124, li_132, li_255, li_256, li_1000, li_2000, li_1000000000, iI_add, iI_sub, iI_mul, iI_neg, iI_lt, iI_le, iI_eq, iI_clamp, iI_s, iI_m1, iI_div, bs, tn, tn4, tn12, tn20, tn124, tn28, itT, itF, if_pos, if_neg, e3, e4, i1]
    · by_cases q2 : sFw a j now x < 0
      · have e : sBt a i j now x = -9 := if_pos (Or.inr q2)
        rw [if_neg (by omega)] at i1
        simp (disch := omega) only [li_0, li_1, li_2, li_3, li_4, li_5, li_6, li_7, li_8, li_9, li_10, li_11, li_12, li_16, li_19, li_20, li_28, li_48, li_57, li_59, li_60, li_96, li_97, li_99, li_100, li_102, li_103, li_104, li_112, li_115, li_116, li_118, li_119, li_121, li_124, li_132, li_255, li_256, li_1000, li_2000, li_1000000000, iI_add, iI_sub, iI_mul, iI_neg, iI_lt, iI_le, iI_eq, iI_clamp, iI_s, iI_m1, iI_div, bs, tn, tn4, tn12, tn20, tn124, tn28, itT, itF, if_pos, if_neg, e3, e4, i1]
      · have e : sBt a i j now x = sFw a i now x + sFw a j now x := if_neg (by omega)
        by_cases c2 : (sTg (sBt a i j now) x).1 = -9
        · rw [if_pos (by omega)] at i1
          rw [if_pos c2]
          rw [e, if_neg (by show ¬ (sFw a i now x + sFw a j now x = -9); omega)] at i1
          simp (disch := omega) only [li_0, li_1, li_2, li_3, li_4, li_5, li_6, li_7, li_8, li_9, li_10, li_11, li_12, li_16, li_19, li_20, li_28, li_48, li_57, li_59, li_60, li_96, li_97, li_99, li_100, li_102, li_103, li_104, li_112, li_115, li_116, li_118, li_119, li_121, li_124, li_132, li_255, li_256, li_1000, li_2000, li_1000000000, iI_add, iI_sub, iI_mul, iI_neg, iI_lt, iI_le, iI_eq, iI_clamp, iI_s, iI_m1, iI_div, bs, tn, tn4, tn12, tn20, tn124, tn28, itT, itF, if_pos, if_neg, e3, e4, i1]
        · rw [if_neg c2]
          by_cases c3 : sBt a i j now x < (sTg (sBt a i j now) x).1
          · rw [if_pos (by omega)] at i1
            rw [e, if_neg (by show ¬ (sFw a i now x + sFw a j now x = -9); omega)] at i1
            simp (disch := omega) only [li_0, li_1, li_2, li_3, li_4, li_5, li_6, li_7, li_8, li_9, li_10, li_11, li_12, li_16, li_19, li_20, li_28, li_48, li_57, li_59, li_60, li_96, li_97, li_99, li_100, li_102, li_103, li_104, li_112, li_115, li_116, li_118, li_119, li_121, li_124, li_132, li_255, li_256, li_1000, li_2000, li_1000000000, iI_add, iI_sub, iI_mul, iI_neg, iI_lt, iI_le, iI_eq, iI_clamp, iI_s, iI_m1, iI_div, bs, tn, tn4, tn12, tn20, tn124, tn28, itT, itF, if_pos, if_neg, e3, e4, i1]
          · rw [if_neg (by omega), if_neg c2] at i1
            simp (disch := omega) only [li_0, li_1, li_2, li_3, li_4, li_5, li_6, li_7, li_8, li_9, li_10, li_11, li_12, li_16, li_19, li_20, li_28, li_48, li_57, li_59, li_60, li_96, li_97, li_99, li_100, li_102, li_103, li_104, li_112, li_115, li_116, li_118, li_119, li_121, li_124, li_132, li_255, li_256, li_1000, li_2000, li_1000000000, iI_add, iI_sub, iI_mul, iI_neg, iI_lt, iI_le, iI_eq, iI_clamp, iI_s, iI_m1, iI_div, bs, tn, tn4, tn12, tn20, tn124, tn28, itT, itF, if_pos, if_neg, e3, e4, i1]
theorem e_together {S : St} (hS : Inv S) (a1 : Int32) (a2 : Int32) (a3 : Int32) : ∃ (z1 : Int32 × St) (z2 : Int32 × St), f_X7_together a1 a2 a3 S = some z1 ∧ f_X8_together a1 a2 a3 z1.2 = some z2 ∧ z1.1 = z2.1 ∧ Inv z2.2 := by
  obtain ⟨⟨a, hw, hc, hm0⟩, -⟩ := id hS
  have hm : ∀ k, k < 132 → S.1 75 k = iI (a k) := hm0
  have h8 := hw.1
  have w1 := hw.2.1
  have w2 := hw.2.2.1
  have w3 := hw.2.2.2.1
  obtain ⟨now, hnow⟩ : ∃ n : Nat, a 1 = n := ⟨(a 1).toNat, by omega⟩
  obtain ⟨N, hN⟩ : ∃ n : Nat, a 0 = n := ⟨(a 0).toNat, by omega⟩
  have hn : now ≤ 11 := by omega
  have hN8 : N ≤ 8 := by omega
  have p1 : S.1 1 1 = iI now := by rw [hc.1 1 (by omega), hnow]
  have p0 : S.1 1 0 = iI N := by rw [hc.1 0 (by omega), hN]
  have m0 : S.1 75 0 = iI N := by rw [hm 0 (by omega), hN]
  have m1 : S.1 75 1 = iI now := by rw [hm 1 (by omega), hnow]
  obtain ⟨x, x1, x2, rfl⟩ := iI_any a1
  obtain ⟨y, y1, y2, rfl⟩ := iI_any a2
  obtain ⟨z, z1, z2, rfl⟩ := iI_any a3
  have e1 := cLacksTwo hc hw x1 x2 y1 y2
  have e3 := cTwo z1 z2
  have g3 := rIn (x := z) (l := 0) (u := 1) z1 z2 (by omega) (by omega) (by omega) (by omega)
  by_cases c : (0 ≤ x ∧ x < a 0) ∧ (0 ≤ y ∧ y < a 0) ∧ x ≠ y
  · obtain ⟨i, rfl⟩ : ∃ n : Nat, x = n := ⟨x.toNat, by omega⟩
    obtain ⟨j, rfl⟩ : ∃ n : Nat, y = n := ⟨y.toNat, by omega⟩
    by_cases c1 : 0 ≤ z ∧ z ≤ 1
    · have a1' := cAt (S := S) (q := 1) (j := i) (by omega)
      have a2' := cAt (S := S) (q := 1) (j := j) (by omega)
      have s1 := cSet (hc.t (j := i) (by omega) (by omega)) (hw.t (by omega))
      have s2 := cSet (hc.t (j := j) (by omega) (by omega)) (hw.t (by omega))
      have k1 := (hw.t (j := i) (by omega)).2.2.1
      have k2 := (hw.t (j := j) (by omega)).2.2.1
      by_cases c2 : a (20 + i) < 0
      · by_cases c3 : a (20 + j) < 0
        · have g1 : f_X8_areTwo (iI i) (iI j) S = some (iI 1) := by rw [rTwo m0 hN8 x1 x2 y1 y2, if_pos (by omega)]
          have g3' : f_X8_isIn (iI z) (iI 0) (iI 1) = some (iI 1) := by rw [g3, if_pos c1]
          have e4 : ∀ k, f_X7_together_L78 2000 (iI i) (iI j) (iI z) (iI (-9)) (iI (-9)) (iI 0) S k = _ := fun k => cTgL hc hw (i := i) (j := j) (by omega) (by omega) (by omega) (by omega) hn p1 (k := k) 12 2000 0 (by omega) (by omega)
          have g4 : ∀ k, f_X8_together_L73 2000 (iI i) (iI j) (iI z) (iI (-9)) (iI 1000000000) (iI 0) S k = _ := fun k => rTgL hm hw (i := i) (j := j) (by omega) (by omega) hn hnow (k := k) 12 2000 0 (by omega) (by omega)
          have b4 := sTg_b (f := sBt a i j now) 12 (fun y _ => by have := sBt_b a i j now y; omega)
          have m2 := hm (20 + i) (by omega)
          have m3 := hm (20 + j) (by omega)
          have f1 : f_X7_together (iI i) (iI j) (iI z) S = some (iI (if z = 0 then (sTg (sBt a i j now) 12).1 else (sTg (sBt a i j now) 12).2), S) := by
            by_cases cz : z = 0
            · simp (disch := omega) only [li_0, li_1, li_2, li_3, li_4, li_5, li_6, li_7, li_8, li_9, li_10, li_11, li_12, li_16, li_19, li_20, li_28, li_48, li_57, li_59, li_60, li_96, li_97, li_99, li_100, li_102, li_103, li_104, li_112, li_115, li_116, li_118, li_119, li_121, li_124, li_132, li_255, li_256, li_1000, li_2000, li_1000000000, iI_add, iI_sub, iI_mul, iI_neg, iI_lt, iI_le, iI_eq, iI_clamp, iI_s, iI_m1, iI_div, bs, tn, tn4, tn12, tn20, tn124, tn28, itT, itF, if_pos, if_neg, f_X7_together, e1, e3, a1', a2', s1, s2]
              rw [e4]
            · simp (disch := omega) only [li_0, li_1, li_2, li_3, li_4, li_5, li_6, li_7, li_8, li_9, li_10, li_11, li_12, li_16, li_19, li_20, li_28, li_48, li_57, li_59, li_60, li_96, li_97, li_99, li_100, li_102, li_103, li_104, li_112, li_115, li_116, li_118, li_119, li_121, li_124, li_132, li_255, li_256, li_1000, li_2000, li_1000000000, iI_add, iI_sub, iI_mul, iI_neg, iI_lt, iI_le, iI_eq, iI_clamp, iI_s, iI_m1, iI_div, bs, tn, tn4, tn12, tn20, tn124, tn28, itT, itF, if_pos, if_neg, f_X7_together, e1, e3, a1', a2', s1, s2]
              rw [e4]
          have f2 : f_X8_together (iI i) (iI j) (iI z) S = some (iI (if z = 0 then (sTg (sBt a i j now) 12).1 else (sTg (sBt a i j now) 12).2), S) := by
            rw [f_X8_together, g1, bs, if_neg (by decide), show (0 : Int32) = iI 0 from rfl, show (1 : Int32) = iI 1 from rfl, g3', bs, if_neg (by decide)]
            simp (disch := omega) only [li_0, li_1, li_2, li_3, li_4, li_5, li_6, li_7, li_8, li_9, li_10, li_11, li_12, li_16, li_19, li_20, li_28, li_48, li_57, li_59, li_60, li_96, li_97, li_99, li_100, li_102, li_103, li_104, li_112, li_115, li_116, li_118, li_119, li_121, li_124, li_132, li_255, li_256, li_1000, li_2000, li_1000000000, iI_add, iI_sub, iI_mul, iI_neg, iI_lt, iI_le, iI_eq, iI_clamp, iI_s, iI_m1, iI_div, bs, tn, tn4, tn12, tn20, tn124, tn28, itT, itF, if_pos, if_neg, m2, m3]
            rw [g4]
            rcases b4 with h | h
            · rw [h]
              by_cases cz : z = 0
              · rw [if_pos (by decide), if_pos cz]
              · rw [if_pos (by decide), if_neg cz]
            · rw [if_neg (by rw [iI_lt (by omega) (by omega) (by omega) (by omega)]; omega), if_neg (show ¬ (sTg (sBt a i j now) 12).1 = -9 by omega)]
              by_cases cz : z = 0
              · rw [if_neg (show ¬ z = 1 by omega), if_pos cz]
              · rw [if_pos (show z = 1 by omega), if_neg cz]
          exact e_mk f1 f2 hS
        · exact e_no hS (-3) 3 (by omega) (by omega) (by simp (disch := omega) only [li_0, li_1, li_2, li_3, li_4, li_5, li_6, li_7, li_8, li_9, li_10, li_11, li_12, li_16, li_19, li_20, li_28, li_48, li_57, li_59, li_60, li_96, li_97, li_99, li_100, li_102, li_103, li_104, li_112, li_115, li_116, li_118, li_119, li_121, li_124, li_132, li_255, li_256, li_1000, li_2000, li_1000000000, iI_add, iI_sub, iI_mul, iI_neg, iI_lt, iI_le, iI_eq, iI_clamp, iI_s, iI_m1, iI_div, bs, tn, tn4, tn12, tn20, tn124, tn28, itT, itF, if_pos, if_neg, f_X7_together, e1, e3, a1', a2', s1, s2, bse]) (fun S1 q1 q2 => by
            have hmm : ∀ k, k < 132 → S1.1 75 k = iI (a k) := fun k hk => by rw [q1]; exact hm k hk
            have m2 := hmm (20 + i) (by omega)
            have m3 := hmm (20 + j) (by omega)
            have g1 : f_X8_areTwo (iI i) (iI j) S1 = some (iI 1) := by rw [rTwo (S := S1) (by rw [q1]; exact m0) hN8 x1 x2 y1 y2, if_pos (by omega)]
            simp (disch := omega) only [li_0, li_1, li_2, li_3, li_4, li_5, li_6, li_7, li_8, li_9, li_10, li_11, li_12, li_16, li_19, li_20, li_28, li_48, li_57, li_59, li_60, li_96, li_97, li_99, li_100, li_102, li_103, li_104, li_112, li_115, li_116, li_118, li_119, li_121, li_124, li_132, li_255, li_256, li_1000, li_2000, li_1000000000, iI_add, iI_sub, iI_mul, iI_neg, iI_lt, iI_le, iI_eq, iI_clamp, iI_s, iI_m1, iI_div, bs, tn, tn4, tn12, tn20, tn124, tn28, itT, itF, if_pos, if_neg, f_X8_together, g1, g3, m2, m3, bse])
      · exact e_no hS (-3) 3 (by omega) (by omega) (by simp (disch := omega) only [li_0, li_1, li_2, li_3, li_4, li_5, li_6, li_7, li_8, li_9, li_10, li_11, li_12, li_16, li_19, li_20, li_28, li_48, li_57, li_59, li_60, li_96, li_97, li_99, li_100, li_102, li_103, li_104, li_112, li_115, li_116, li_118, li_119, li_121, li_124, li_132, li_255, li_256, li_1000, li_2000, li_1000000000, iI_add, iI_sub, iI_mul, iI_neg, iI_lt, iI_le, iI_eq, iI_clamp, iI_s, iI_m1, iI_div, bs, tn, tn4, tn12, tn20, tn124, tn28, itT, itF, if_pos, if_neg, f_X7_together, e1, e3, a1', a2', s1, s2, bse]) (fun S1 q1 q2 => by
          have hmm : ∀ k, k < 132 → S1.1 75 k = iI (a k) := fun k hk => by rw [q1]; exact hm k hk
          have m2 := hmm (20 + i) (by omega)
          have g1 : f_X8_areTwo (iI i) (iI j) S1 = some (iI 1) := by rw [rTwo (S := S1) (by rw [q1]; exact m0) hN8 x1 x2 y1 y2, if_pos (by omega)]
          simp (disch := omega) only [li_0, li_1, li_2, li_3, li_4, li_5, li_6, li_7, li_8, li_9, li_10, li_11, li_12, li_16, li_19, li_20, li_28, li_48, li_57, li_59, li_60, li_96, li_97, li_99, li_100, li_102, li_103, li_104, li_112, li_115, li_116, li_118, li_119, li_121, li_124, li_132, li_255, li_256, li_1000, li_2000, li_1000000000, iI_add, iI_sub, iI_mul, iI_neg, iI_lt, iI_le, iI_eq, iI_clamp, iI_s, iI_m1, iI_div, bs, tn, tn4, tn12, tn20, tn124, tn28, itT, itF, if_pos, if_neg, f_X8_together, g1, g3, m2, bse])
    · exact e_no hS (-2) 2 (by omega) (by omega) (by simp (disch := omega) only [li_0, li_1, li_2, li_3, li_4, li_5, li_6, li_7, li_8, li_9, li_10, li_11, li_12, li_16, li_19, li_20, li_28, li_48, li_57, li_59, li_60, li_96, li_97, li_99, li_100, li_102, li_103, li_104, li_112, li_115, li_116, li_118, li_119, li_121, li_124, li_132, li_255, li_256, li_1000, li_2000, li_1000000000, iI_add, iI_sub, iI_mul, iI_neg, iI_lt, iI_le, iI_eq, iI_clamp, iI_s, iI_m1, iI_div, bs, tn, tn4, tn12, tn20, tn124, tn28, itT, itF, if_pos, if_neg, f_X7_together, e1, e3, bse]) (fun S1 q1 q2 => by
        have g1 : f_X8_areTwo (iI i) (iI j) S1 = some (iI 1) := by rw [rTwo (S := S1) (by rw [q1]; exact m0) hN8 x1 x2 y1 y2, if_pos (by omega)]
        simp (disch := omega) only [li_0, li_1, li_2, li_3, li_4, li_5, li_6, li_7, li_8, li_9, li_10, li_11, li_12, li_16, li_19, li_20, li_28, li_48, li_57, li_59, li_60, li_96, li_97, li_99, li_100, li_102, li_103, li_104, li_112, li_115, li_116, li_118, li_119, li_121, li_124, li_132, li_255, li_256, li_1000, li_2000, li_1000000000, iI_add, iI_sub, iI_mul, iI_neg, iI_lt, iI_le, iI_eq, iI_clamp, iI_s, iI_m1, iI_div, bs, tn, tn4, tn12, tn20, tn124, tn28, itT, itF, if_pos, if_neg, f_X8_together, g1, g3, bse])
  · exact e_no hS (-1) 1 (by omega) (by omega) (by simp (disch := omega) only [li_0, li_1, li_2, li_3, li_4, li_5, li_6, li_7, li_8, li_9, li_10, li_11, li_12, li_16, li_19, li_20, li_28, li_48, li_57, li_59, li_60, li_96, li_97, li_99, li_100, li_102, li_103, li_104, li_112, li_115, li_116, li_118, li_119, li_121, li_124, li_132, li_255, li_256, li_1000, li_2000, li_1000000000, iI_add, iI_sub, iI_mul, iI_neg, iI_lt, iI_le, iI_eq, iI_clamp, iI_s, iI_m1, iI_div, bs, tn, tn4, tn12, tn20, tn124, tn28, itT, itF, if_pos, if_neg, f_X7_together, e1, bse]) (fun S1 q1 q2 => by
      have g1 := rTwo (S := S1) (by rw [q1]; exact m0) hN8 x1 x2 y1 y2
      simp (disch := omega) only [li_0, li_1, li_2, li_3, li_4, li_5, li_6, li_7, li_8, li_9, li_10, li_11, li_12, li_16, li_19, li_20, li_28, li_48, li_57, li_59, li_60, li_96, li_97, li_99, li_100, li_102, li_103, li_104, li_112, li_115, li_116, li_118, li_119, li_121, li_124, li_132, li_255, li_256, li_1000, li_2000, li_1000000000, iI_add, iI_sub, iI_mul, iI_neg, iI_lt, iI_le, iI_eq, iI_clamp, iI_s, iI_m1, iI_div, bs, tn, tn4, tn12, tn20, tn124, tn28, itT, itF, if_pos, if_neg, f_X8_together, g1, bse])
end
section
-- ===== the queue =====
def pick (fr : Nat → Int) : Nat → Nat
  | 0 => 0
  | x + 1 => if fr (pick fr x) ≤ fr x then pick fr x else x
def setF (fr : Nat → Int) (p : Nat) (v : Int) : Nat → Int := fun i => if i = p then v else fr i
def qM (a : Nat → Int) (j now : Nat) : Int := sFw a j now (sGY a j now)
def sQ (a : Nat → Int) (now h : Nat) : Nat → (Nat → Int) × Int
  | 0 => (fun _ => 0, 0)
  | x + 1 => if a (20 + x) < 0 ∧ 0 ≤ qM a x now then
      (setF (sQ a now h x).1 (pick (sQ a now h x).1 h) ((sQ a now h x).1 (pick (sQ a now h x).1 h) + qM a x now),
        if (sQ a now h x).2 < (sQ a now h x).1 (pick (sQ a now h x).1 h) + qM a x now then (sQ a now h x).1 (pick (sQ a now h x).1 h) + qM a x now else (sQ a now h x).2)
    else sQ a now h x
def sQb (a : Nat → Int) (now h x : Nat) : Int := if a (20 + x) < 0 ∧ 0 ≤ qM a x now then (sQ a now h x).1 (pick (sQ a now h x).1 h) else -9
theorem pick_lt (fr : Nat → Int) : ∀ h, 0 < h → pick fr h < h := by
  intro h
  induction h with
  | zero => intro z; omega
  | succ h ih =>
    intro _
    rw [pick]
    by_cases c : h = 0
    · subst c
      show (if fr 0 ≤ fr 0 then 0 else 0) < 1
      split <;> omega
    · have := ih (by omega)
      split <;> omega
theorem qM_b (a : Nat → Int) (j now : Nat) : qM a j now = -9 ∨ (0 ≤ qM a j now ∧ qM a j now ≤ 95) := sFw_b _ _ _ _
theorem sQ_b (a : Nat → Int) (now h : Nat) : ∀ x, (∀ p, 0 ≤ (sQ a now h x).1 p ∧ (sQ a now h x).1 p ≤ 95 * (x : Int)) ∧ 0 ≤ (sQ a now h x).2 ∧ (sQ a now h x).2 ≤ 95 * (x : Int) := by
  intro x
  induction x with
  | zero => exact ⟨fun p => ⟨Int.le_refl _, Int.le_refl _⟩, Int.le_refl _, Int.le_refl _⟩
  | succ x ih =>
    have m := qM_b a x now
    have e : 95 * ((x + 1 : Nat) : Int) = 95 * (x : Int) + 95 := by omega
    have hp := ih.1 (pick (sQ a now h x).1 h)
    rw [sQ, e]
    by_cases c : a (20 + x) < 0 ∧ 0 ≤ qM a x now
    · rw [if_pos c]
      refine ⟨fun p => ?_, ?_⟩
      · have := ih.1 p
        show 0 ≤ (if p = pick (sQ a now h x).1 h then (sQ a now h x).1 (pick (sQ a now h x).1 h) + qM a x now else (sQ a now h x).1 p) ∧ (if p = pick (sQ a now h x).1 h then (sQ a now h x).1 (pick (sQ a now h x).1 h) + qM a x now else (sQ a now h x).1 p) ≤ _
        split <;> omega
      · show 0 ≤ (if (sQ a now h x).2 < (sQ a now h x).1 (pick (sQ a now h x).1 h) + qM a x now then (sQ a now h x).1 (pick (sQ a now h x).1 h) + qM a x now else (sQ a now h x).2) ∧ (if (sQ a now h x).2 < (sQ a now h x).1 (pick (sQ a now h x).1 h) + qM a x now then (sQ a now h x).1 (pick (sQ a now h x).1 h) + qM a x now else (sQ a now h x).2) ≤ _
        split <;> omega
    · rw [if_neg c]
      refine ⟨fun p => ?_, ?_⟩
      · have := ih.1 p; omega
      · omega
theorem cPick {S : St} {fr : Nat → Int} {h : Nat} (hh : h ≤ 4) (hf : ∀ p, p < 4 → S.1 69 p = iI (fr p)) (hb : ∀ p, 0 ≤ fr p ∧ fr p ≤ 99999) {a1 : Int32} {k : Int32 → Option (Int32 × St)} :
    ∀ d n x : Nat, 0 < x → x + d = h → d < n → f_X0_begin_L5 n a1 (iI h) (iI (pick fr x)) (iI x) S k = k (iI (pick fr h)) := by
  intro d
  induction d with
  | zero =>
    intro n x h0 hx hd
    obtain ⟨n, rfl⟩ : ∃ p, n = p + 1 := ⟨n - 1, by omega⟩
    obtain rfl : x = h := by omega
    rw [f_X0_begin_L5]
    simp (disch := omega) only [li_0, li_1, li_2, li_3, li_4, li_5, li_6, li_7, li_8, li_9, li_10, li_11, li_12, li_16, li_19, li_20, li_28, li_48, li_57, li_59, li_60, li_96, li_97, li_99, li_100, li_102, li_103, li_104, li_112, li_115, li_116, li_118, li_119, li_121, li_124, li_132, li_255, li_256, li_1000, li_2000, li_1000000000, iI_add, iI_sub, iI_mul, iI_neg, iI_lt, iI_le, iI_eq, iI_clamp, iI_s, iI_m1, iI_div, bs, tn, tn4, tn12, tn20, tn124, tn28, itT, itF, if_pos, if_neg]
  | succ d ih =>
    intro n x h0 hx hd
    obtain ⟨n, rfl⟩ : ∃ p, n = p + 1 := ⟨n - 1, by omega⟩
    have i1 := ih n (x + 1) (by omega) (by omega) (by omega)
    have pl := pick_lt fr x h0
    have e1 := hf x (by omega)
    have e2 := hf (pick fr x) (by omega)
    have b1 := hb x
    have b2 := hb (pick fr x)
    rw [pick] at i1
    rw [f_X0_begin_L5]
    by_cases c : fr (pick fr x) ≤ fr x
    · rw [if_pos c] at i1
      simp (disch := omega) only [li_0, li_1, li_2, li_3, li_4, li_5, li_6, li_7, li_8, li_9, li_10, li_11, li_12, li_16, li_19, li_20, li_28, li_48, li_57, li_59, li_60, li_96, li_97, li_99, li_100, li_102, li_103, li_104, li_112, li_115, li_116, li_118, li_119, li_121, li_124, li_132, li_255, li_256, li_1000, li_2000, li_1000000000, iI_add, iI_sub, iI_mul, iI_neg, iI_lt, iI_le, iI_eq, iI_clamp, iI_s, iI_m1, iI_div, bs, tn, tn4, tn12, tn20, tn124, tn28, itT, itF, if_pos, if_neg, e1, e2, i1]
    · rw [if_neg c] at i1
      simp (disch := omega) only [li_0, li_1, li_2, li_3, li_4, li_5, li_6, li_7, li_8, li_9, li_10, li_11, li_12, li_16, li_19, li_20, li_28, li_48, li_57, li_59, li_60, li_96, li_97, li_99, li_100, li_102, li_103, li_104, li_112, li_115, li_116, li_118, li_119, li_121, li_124, li_132, li_255, li_256, li_1000, li_2000, li_1000000000, iI_add, iI_sub, iI_mul, iI_neg, iI_lt, iI_le, iI_eq, iI_clamp, iI_s, iI_m1, iI_div, bs, tn, tn4, tn12, tn20, tn124, tn28, itT, itF, if_pos, if_neg, e1, e2, i1]
theorem cBegin {S : St} {fr : Nat → Int} {h : Nat} (hh : h ≤ 4) (h0 : 0 < h) (hf : ∀ p, p < 4 → S.1 69 p = iI (fr p)) (hb : ∀ p, 0 ≤ fr p ∧ fr p ≤ 9999) {m en : Int} (hm : 0 ≤ m ∧ m ≤ 99) (he : S.1 67 2 = iI en) (hen : 0 ≤ en ∧ en ≤ 9999) :
    f_X0_begin (iI m) (iI h) S = some (iI (fr (pick fr h)), up (up S 69 (pick fr h) (iI (fr (pick fr h) + m))) 67 2 (iI (if en < fr (pick fr h) + m then fr (pick fr h) + m else en))) := by
  have e1 : ∀ k, f_X0_begin_L5 2000 (iI m) (iI h) (iI 0) (iI 1) S k = k (iI (pick fr h)) := fun k => by
    have hp1 : pick fr 1 = 0 := by show (if fr 0 ≤ fr 0 then 0 else 0) = 0; split <;> rfl
    have i := cPick (S := S) hh hf (fun p => by have := hb p; omega) (a1 := iI m) (k := k) (h - 1) 2000 1 (by omega) (by omega) (by omega)
    rw [hp1] at i
    exact i
  have pl := pick_lt fr h h0
  have e2 := hf (pick fr h) (by omega)
  have b2 := hb (pick fr h)
  by_cases c : en < fr (pick fr h) + m
  · simp (disch := omega) only [li_0, li_1, li_2, li_3, li_4, li_5, li_6, li_7, li_8, li_9, li_10, li_11, li_12, li_16, li_19, li_20, li_28, li_48, li_57, li_59, li_60, li_96, li_97, li_99, li_100, li_102, li_103, li_104, li_112, li_115, li_116, li_118, li_119, li_121, li_124, li_132, li_255, li_256, li_1000, li_2000, li_1000000000, iI_add, iI_sub, iI_mul, iI_neg, iI_lt, iI_le, iI_eq, iI_clamp, iI_s, iI_m1, iI_div, bs, tn, tn4, tn12, tn20, tn124, tn28, itT, itF, if_pos, if_neg, up_s, up_n, f_X0_begin, e1, e2, he]
  · simp (disch := omega) only [li_0, li_1, li_2, li_3, li_4, li_5, li_6, li_7, li_8, li_9, li_10, li_11, li_12, li_16, li_19, li_20, li_28, li_48, li_57, li_59, li_60, li_96, li_97, li_99, li_100, li_102, li_103, li_104, li_112, li_115, li_116, li_118, li_119, li_121, li_124, li_132, li_255, li_256, li_1000, li_2000, li_1000000000, iI_add, iI_sub, iI_mul, iI_neg, iI_lt, iI_le, iI_eq, iI_clamp, iI_s, iI_m1, iI_div, bs, tn, tn4, tn12, tn20, tn124, tn28, itT, itF, if_pos, if_neg, up_s, up_n, f_X0_begin, e1, e2, he]
def QI (a : Nat → Int) (now h : Nat) (S : St) (x : Nat) (S' : St) : Prop := (∀ i k, ¬ (i = 67 ∨ i = 68 ∨ i = 69) → S'.1 i k = S.1 i k) ∧ (∀ p, p < 4 → S'.1 69 p = iI ((sQ a now h x).1 p)) ∧ S'.1 67 2 = iI (sQ a now h x).2 ∧ ∀ y, y < x → S'.1 68 y = iI (sQb a now h y)
theorem RC.frq {S S' : St} {a : Nat → Int} (h : RC S 1 a) (hs : ∀ i k, 1 ≤ i → i ≤ 19 → S'.1 i k = S.1 i k) : RC S' 1 a := by
  refine ⟨fun k hk => ?_, fun j hj => ?_, fun j hj hl => ⟨?_, ?_, ?_, fun y hy => ?_⟩⟩
  · rw [hs _ _ (by omega) (by omega)]; exact h.1 k hk
  · rw [hs _ _ (by omega) (by omega)]; exact h.2.1 j hj
  · rw [hs _ _ (by omega) (by omega)]; exact (h.2.2 j hj hl).1
  · rw [hs _ _ (by omega) (by omega)]; exact (h.2.2 j hj hl).2.1
  · rw [hs _ _ (by omega) (by omega)]; exact (h.2.2 j hj hl).2.2.1
  · rw [hs _ _ (by omega) (by omega)]; exact (h.2.2 j hj hl).2.2.2 y hy
theorem cQL {S : St} {a : Nat → Int} {now h N : Nat} (hc : RC S 1 a) (hw : WFa a) (hN : a 0 = N) (hn : now ≤ 11) (hnow : a 1 = now) (hh : a 3 = h) {k : St → Option St} :
    ∀ d n x : Nat, ∀ S', x + d = N → d < n → QI a now h S x S' → ∃ S'', QI a now h S N S'' ∧ f_X0_arrange_L27 n 1 (iI x) S' k = k S'' := by
  have h8 := hw.1
  have w3 := hw.2.2.2.1
  intro d
  induction d with
  | zero =>
    intro n x S' hx hd q
    obtain ⟨n, rfl⟩ : ∃ p, n = p + 1 := ⟨n - 1, by omega⟩
    obtain rfl : x = N := by omega
    have e0 : S'.1 1 0 = iI x := by rw [q.1 _ _ (by omega), hc.1 0 (by omega), hN]
    refine ⟨S', q, ?_⟩
    rw [f_X0_arrange_L27]
    simp (disch := omega) only [li_0, li_1, li_2, li_3, li_4, li_5, li_6, li_7, li_8, li_9, li_10, li_11, li_12, li_16, li_19, li_20, li_28, li_48, li_57, li_59, li_60, li_96, li_97, li_99, li_100, li_102, li_103, li_104, li_112, li_115, li_116, li_118, li_119, li_121, li_124, li_132, li_255, li_256, li_1000, li_2000, li_1000000000, iI_add, iI_sub, iI_mul, iI_neg, iI_lt, iI_le, iI_eq, iI_clamp, iI_s, iI_m1, iI_div, bs, tn, tn4, tn12, tn20, tn124, tn28, itT, itF, if_pos, if_neg, e0]
  | succ d ih =>
    intro n x S' hx hd q
    obtain ⟨n, rfl⟩ : ∃ p, n = p + 1 := ⟨n - 1, by omega⟩
    have hc' : RC S' 1 a := hc.frq (fun i k h1 h2 => q.1 i k (by omega))
    have e0 : S'.1 1 0 = iI N := by rw [hc'.1 0 (by omega), hN]
    have ep : S'.1 1 1 = iI now := by rw [hc'.1 1 (by omega), hnow]
    have eh : S'.1 1 3 = iI h := by rw [hc'.1 3 (by omega), hh]
    have ht := hc'.t (j := x) (by omega) (by omega)
    have hwt := hw.t (j := x) (by omega)
    have e1 := cAt (S := S') (q := 1) (j := x) (by omega)
    have e2 := cSet ht hwt
    have e3 := cGY ht hwt hn
    have yb := sGY_le a x now
    have e4 : f_X6_fewestFor (1 + 1 + 2 + 2 * x) (iI (sGY a x now)) (iI now) S' = some (iI (qM a x now)) := cFew ht hwt hn (by omega)
    have mb := qM_b a x now
    have bQ := sQ_b a now h x
    by_cases c1 : a (20 + x) < 0
    · by_cases c2 : qM a x now = -9
      · have eS : sQ a now h (x + 1) = sQ a now h x := if_neg (by omega)
        have eB : sQb a now h x = -9 := if_neg (by omega)
        obtain ⟨S'', g1, g2⟩ := ih n (x + 1) (up S' 68 x (iI (-9))) (by omega) (by omega) ⟨fun i k hi => by rw [up_ne (by omega)]; exact q.1 i k hi, fun p hp => by rw [up_ne (by omega), eS]; exact q.2.1 p hp, by rw [up_ne (by omega), eS]; exact q.2.2.1, fun y hy => by
          by_cases e : y = x
          · rw [e, up_s, eB]
          · rw [up_n (by omega)]; exact q.2.2.2 y (by omega)⟩
        refine ⟨S'', g1, ?_⟩
        rw [f_X0_arrange_L27]
        simp (disch := omega) only [li_0, li_1, li_2, li_3, li_4, li_5, li_6, li_7, li_8, li_9, li_10, li_11, li_12, li_16, li_19, li_20, li_28, li_48, li_57, li_59, li_60, li_96, li_97, li_99, li_100, li_102, li_103, li_104, li_112, li_115, li_116, li_118, li_119, li_121, li_124, li_132, li_255, li_256, li_1000, li_2000, li_1000000000, iI_add, iI_sub, iI_mul, iI_neg, iI_lt, iI_le, iI_eq, iI_clamp, iI_s, iI_m1, iI_div, bs, tn, tn4, tn12, tn20, tn124, tn28, itT, itF, if_pos, if_neg, e0, e1, e2, ep, e3, e4, g2]
      · have e5 := cBegin (S := S') (fr := (sQ a now h x).1) (h := h) (m := qM a x now) (en := (sQ a now h x).2) (by omega) (by omega) q.2.1 (fun p => by have := bQ.1 p; omega) (by omega) q.2.2.1 (by omega)
        have eS : sQ a now h (x + 1) = (setF (sQ a now h x).1 (pick (sQ a now h x).1 h) ((sQ a now h x).1 (pick (sQ a now h x).1 h) + qM a x now),
          if (sQ a now h x).2 < (sQ a now h x).1 (pick (sQ a now h x).1 h) + qM a x now then (sQ a now h x).1 (pick (sQ a now h x).1 h) + qM a x now else (sQ a now h x).2) := if_pos (by omega)
        have eB : sQb a now h x = (sQ a now h x).1 (pick (sQ a now h x).1 h) := if_pos (by omega)
        obtain ⟨S'', g1, g2⟩ := ih n (x + 1) (up (up (up S' 69 (pick (sQ a now h x).1 h) (iI ((sQ a now h x).1 (pick (sQ a now h x).1 h) + qM a x now))) 67 2 (iI (if (sQ a now h x).2 < (sQ a now h x).1 (pick (sQ a now h x).1 h) + qM a x now then (sQ a now h x).1 (pick (sQ a now h x).1 h) + qM a x now else (sQ a now h x).2))) 68 x (iI ((sQ a now h x).1 (pick (sQ a now h x).1 h)))) (by omega) (by omega) ⟨fun i k hi => by rw [up_ne (by omega), up_ne (by omega), up_ne (by omega)]; exact q.1 i k hi, fun p hp => by
            rw [up_ne (by omega), up_ne (by omega), eS]
            show _ = iI (if p = pick (sQ a now h x).1 h then (sQ a now h x).1 (pick (sQ a now h x).1 h) + qM a x now else (sQ a now h x).1 p)
            by_cases e : p = pick (sQ a now h x).1 h
            · rw [if_pos e, e, up_s]
            · rw [if_neg e, up_n (Or.inr e)]; exact q.2.1 p hp, by rw [up_ne (by omega), up_s, eS], fun y hy => by
          by_cases e : y = x
          · rw [e, up_s, eB]
          · rw [up_n (by omega), up_ne (by omega), up_ne (by omega)]; exact q.2.2.2 y (by omega)⟩
        refine ⟨S'', g1, ?_⟩
        rw [f_X0_arrange_L27]
        simp (disch := omega) only [li_0, li_1, li_2, li_3, li_4, li_5, li_6, li_7, li_8, li_9, li_10, li_11, li_12, li_16, li_19, li_20, li_28, li_48, li_57, li_59, li_60, li_96, li_97, li_99, li_100, li_102, li_103, li_104, li_112, li_115, li_116, li_118, li_119, li_121, li_124, li_132, li_255, li_256, li_1000, li_2000, li_1000000000, iI_add, iI_sub, iI_mul, iI_neg, iI_lt, iI_le, iI_eq, iI_clamp, iI_s, iI_m1, iI_div, bs, tn, tn4, tn12, tn20, tn124, tn28, itT, itF, if_pos, if_neg, e0, e1, e2, ep, e3, e4, eh, e5, g2]
    · have eS : sQ a now h (x + 1) = sQ a now h x := if_neg (by omega)
      have eB : sQb a now h x = -9 := if_neg (by omega)
      obtain ⟨S'', g1, g2⟩ := ih n (x + 1) (up S' 68 x (iI (-9))) (by omega) (by omega) ⟨fun i k hi => by rw [up_ne (by omega)]; exact q.1 i k hi, fun p hp => by rw [up_ne (by omega), eS]; exact q.2.1 p hp, by rw [up_ne (by omega), eS]; exact q.2.2.1, fun y hy => by
        by_cases e : y = x
        · rw [e, up_s, eB]
        · rw [up_n (by omega)]; exact q.2.2.2 y (by omega)⟩
      refine ⟨S'', g1, ?_⟩
      rw [f_X0_arrange_L27]
      simp (disch := omega) only [li_0, li_1, li_2, li_3, li_4, li_5, li_6, li_7, li_8, li_9, li_10, li_11, li_12, li_16, li_19, li_20, li_28, li_48, li_57, li_59, li_60, li_96, li_97, li_99, li_100, li_102, li_103, li_104, li_112, li_115, li_116, li_118, li_119, li_121, li_124, li_132, li_255, li_256, li_1000, li_2000, li_1000000000, iI_add, iI_sub, iI_mul, iI_neg, iI_lt, iI_le, iI_eq, iI_clamp, iI_s, iI_m1, iI_div, bs, tn, tn4, tn12, tn20, tn124, tn28, itT, itF, if_pos, if_neg, e0, e1, e2, g2]
theorem cQ0 {S : St} {q1 : Nat} {k : St → Option St} : ∀ d n x : Nat, ∀ S' : St, x + d = 4 → d < n → (∀ i k, i ≠ 69 → S'.1 i k = S.1 i k) → (∀ p, p < x → S'.1 69 p = iI 0) → ∃ S'', (∀ i k, i ≠ 69 → S''.1 i k = S.1 i k) ∧ (∀ p, p < 4 → S''.1 69 p = iI 0) ∧ f_X0_arrange_L7 n q1 (iI x) S' k = k S'' := by
  intro d
  induction d with
  | zero =>
    intro n x S' hx hd h1 h2
    obtain ⟨n, rfl⟩ : ∃ p, n = p + 1 := ⟨n - 1, by omega⟩
    obtain rfl : x = 4 := by omega
    refine ⟨S', h1, h2, ?_⟩
    rw [f_X0_arrange_L7]
    simp (disch := omega) only [li_0, li_1, li_2, li_3, li_4, li_5, li_6, li_7, li_8, li_9, li_10, li_11, li_12, li_16, li_19, li_20, li_28, li_48, li_57, li_59, li_60, li_96, li_97, li_99, li_100, li_102, li_103, li_104, li_112, li_115, li_116, li_118, li_119, li_121, li_124, li_132, li_255, li_256, li_1000, li_2000, li_1000000000, iI_add, iI_sub, iI_mul, iI_neg, iI_lt, iI_le, iI_eq, iI_clamp, iI_s, iI_m1, iI_div, bs, tn, tn4, tn12, tn20, tn124, tn28, itT, itF, if_pos, if_neg]
  | succ d ih =>
    intro n x S' hx hd h1 h2
    obtain ⟨n, rfl⟩ : ∃ p, n = p + 1 := ⟨n - 1, by omega⟩
    obtain ⟨S'', g1, g2, g3⟩ := ih n (x + 1) (up S' 69 x (iI 0)) (by omega) (by omega) (fun i k hi => by rw [up_ne hi]; exact h1 i k hi) (fun p hp => by
      by_cases e : p = x
      · rw [e, up_s]
      · rw [up_n (Or.inr e)]; exact h2 p (by omega))
    refine ⟨S'', g1, g2, ?_⟩
    rw [f_X0_arrange_L7]
    simp (disch := omega) only [li_0, li_1, li_2, li_3, li_4, li_5, li_6, li_7, li_8, li_9, li_10, li_11, li_12, li_16, li_19, li_20, li_28, li_48, li_57, li_59, li_60, li_96, li_97, li_99, li_100, li_102, li_103, li_104, li_112, li_115, li_116, li_118, li_119, li_121, li_124, li_132, li_255, li_256, li_1000, li_2000, li_1000000000, iI_add, iI_sub, iI_mul, iI_neg, iI_lt, iI_le, iI_eq, iI_clamp, iI_s, iI_m1, iI_div, bs, tn, tn4, tn12, tn20, tn124, tn28, itT, itF, if_pos, if_neg, g3]
theorem cQ {S : St} {a : Nat → Int} {now h N : Nat} (hc : RC S 1 a) (hw : WFa a) (hN : a 0 = N) (hn : now ≤ 11) (hnow : a 1 = now) (hh : a 3 = h) : ∃ S', f_X0_arrange 1 S = some S' ∧ (∀ i k, ¬ (i = 67 ∨ i = 68 ∨ i = 69) → S'.1 i k = S.1 i k) ∧ S'.1 67 2 = iI (sQ a now h N).2 ∧ ∀ y, y < N → S'.1 68 y = iI (sQb a now h y) := by
  have h8 := hw.1
  obtain ⟨S1, r1, r2, r3⟩ := cQ0 (S := up S 67 2 (iI 0)) (q1 := 1) (k := fun s => f_X0_arrange_L27 2000 1 (iI 0) s (fun s => some s)) 4 2000 0 (up S 67 2 (iI 0)) (by omega) (by omega) (fun _ _ _ => rfl) (fun p hp => absurd hp (by omega))
  have fr1 : ∀ i k, ¬ (i = 67 ∨ i = 68 ∨ i = 69) → S1.1 i k = S.1 i k := fun i k hi => by rw [r1 _ _ (by omega), up_ne (by omega)]
  obtain ⟨S2, q, g⟩ := cQL (S := S) hc hw hN hn hnow hh (k := fun s => some s) N 2000 0 S1 (by omega) (by omega) ⟨fr1, fun p hp => r2 p hp, by rw [r1 _ _ (by omega), up_s]; rfl, fun y hy => absurd hy (by omega)⟩
  refine ⟨S2, ?_, q.1, q.2.2.1, q.2.2.2⟩
  rw [f_X0_arrange]
  exact r3.trans g
-- the reference
theorem rPick {S : St} {fr : Nat → Int} {h : Nat} (hh : h ≤ 4) (e3 : S.1 75 3 = iI h) (hf : ∀ p, p < 4 → S.1 83 p = iI (fr p)) (hb : ∀ p, 0 ≤ fr p ∧ fr p ≤ 99999) {y1 y3 y4 y5 y6 : Int32} {k : Int32 → Option (Int32 × St)} :
    ∀ d n x : Nat, 0 < x → x + d = h → d < n → f_X8_queue_L110 n y1 y3 y4 y5 y6 (iI (pick fr x)) (iI x) S k = k (iI (pick fr h)) := by
  intro d
  induction d with
  | zero =>
    intro n x h0 hx hd
    obtain ⟨n, rfl⟩ : ∃ p, n = p + 1 := ⟨n - 1, by omega⟩
    obtain rfl : x = h := by omega
    rw [f_X8_queue_L110]
    simp (disch := omega) only [li_0, li_1, li_2, li_3, li_4, li_5, li_6, li_7, li_8, li_9, li_10, li_11, li_12, li_16, li_19, li_20, li_28, li_48, li_57, li_59, li_60, li_96, li_97, li_99, li_100, li_102, li_103, li_104, li_112, li_115, li_116, li_118, li_119, li_121, li_124, li_132, li_255, li_256, li_1000, li_2000, li_1000000000, iI_add, iI_sub, iI_mul, iI_neg, iI_lt, iI_le, iI_eq, iI_clamp, iI_s, iI_m1, iI_div, bs, tn, tn4, tn12, tn20, tn124, tn28, itT, itF, if_pos, if_neg, e3]
  | succ d ih =>
    intro n x h0 hx hd
    obtain ⟨n, rfl⟩ : ∃ p, n = p + 1 := ⟨n - 1, by omega⟩
    have i1 := ih n (x + 1) (by omega) (by omega) (by omega)
    have pl := pick_lt fr x h0
    have e1 := hf x (by omega)
    have e2 := hf (pick fr x) (by omega)
    have b1 := hb x
    have b2 := hb (pick fr x)
    rw [pick] at i1
    rw [f_X8_queue_L110]
    by_cases c : fr (pick fr x) ≤ fr x
    · rw [if_pos c] at i1
      simp (disch := omega) only [li_0, li_1, li_2, li_3, li_4, li_5, li_6, li_7, li_8, li_9, li_10, li_11, li_12, li_16, li_19, li_20, li_28, li_48, li_57, li_59, li_60, li_96, li_97, li_99, li_100, li_102, li_103, li_104, li_112, li_115, li_116, li_118, li_119, li_121, li_124, li_132, li_255, li_256, li_1000, li_2000, li_1000000000, iI_add, iI_sub, iI_mul, iI_neg, iI_lt, iI_le, iI_eq, iI_clamp, iI_s, iI_m1, iI_div, bs, tn, tn4, tn12, tn20, tn124, tn28, itT, itF, if_pos, if_neg, e3, e1, e2, i1]
    · rw [if_neg c] at i1
      simp (disch := omega) only [li_0, li_1, li_2, li_3, li_4, li_5, li_6, li_7, li_8, li_9, li_10, li_11, li_12, li_16, li_19, li_20, li_28, li_48, li_57, li_59, li_60, li_96, li_97, li_99, li_100, li_102, li_103, li_104, li_112, li_115, li_116, li_118, li_119, li_121, li_124, li_132, li_255, li_256, li_1000, li_2000, li_1000000000, iI_add, iI_sub, iI_mul, iI_neg, iI_lt, iI_le, iI_eq, iI_clamp, iI_s, iI_m1, iI_div, bs, tn, tn4, tn12, tn20, tn124, tn28, itT, itF, if_pos, if_neg, e3, e1, e2, i1]
/-- what the reference has heard of thing y when it is at x -/
def sQa (a : Nat → Int) (now h : Nat) (y : Int) (x : Nat) : Int := if 0 ≤ y ∧ y < x then sQb a now h y.toNat else -9
theorem rQL {S : St} {a : Nat → Int} {now h N : Nat} (hm : ∀ k, k < 132 → S.1 75 k = iI (a k)) (hw : WFa a) (hN : a 0 = N) (hn : now ≤ 11) (hnow : a 1 = now) (hh : a 3 = h) {y : Int} (hy : -2147483648 ≤ y ∧ y < 2147483648) {k : Int32 → Int32 → St → Option (Int32 × St)} :
    ∀ d n x : Nat, ∀ S' : St, x + d = N → d < n → (∀ i k, i ≠ 83 → S'.1 i k = S.1 i k) → (∀ p, p < 4 → S'.1 83 p = iI ((sQ a now h x).1 p)) → ∃ S'', (∀ i k, i ≠ 83 → S''.1 i k = S.1 i k) ∧ f_X8_queue_L50 n (iI y) (iI (sQ a now h x).2) (iI (sQa a now h y x)) (iI x) S' k = k (iI (sQ a now h N).2) (iI (sQa a now h y N)) S'' := by
  have h8 := hw.1
  have w3 := hw.2.2.2.1
  intro d
  induction d with
  | zero =>
    intro n x S' hx hd q1 q2
    obtain ⟨n, rfl⟩ : ∃ p, n = p + 1 := ⟨n - 1, by omega⟩
    obtain rfl : x = N := by omega
    have e0 : S'.1 75 0 = iI x := by rw [q1 _ _ (by omega), hm 0 (by omega), hN]
    refine ⟨S', q1, ?_⟩
    rw [f_X8_queue_L50]
    simp (disch := omega) only [li_0, li_1, li_2, li_3, li_4, li_5, li_6, li_7, li_8, li_9, li_10, li_11, li_12, li_16, li_19, li_20, li_28, li_48, li_57, li_59, li_60, li_96, li_97, li_99, li_100, li_102, li_103, li_104, li_112, li_115, li_116, li_118, li_119, li_121, li_124, li_132, li_255, li_256, li_1000, li_2000, li_1000000000, iI_add, iI_sub, iI_mul, iI_neg, iI_lt, iI_le, iI_eq, iI_clamp, iI_s, iI_m1, iI_div, bs, tn, tn4, tn12, tn20, tn124, tn28, itT, itF, if_pos, if_neg, e0]
  | succ d ih =>
    intro n x S' hx hd q1 q2
    obtain ⟨n, rfl⟩ : ∃ p, n = p + 1 := ⟨n - 1, by omega⟩
    have hm' : ∀ k, k < 132 → S'.1 75 k = iI (a k) := fun k hk => by rw [q1 _ _ (by omega)]; exact hm k hk
    have e0 : S'.1 75 0 = iI N := by rw [hm' 0 (by omega), hN]
    have eh : S'.1 75 3 = iI h := by rw [hm' 3 (by omega), hh]
    have hwt := hw.t (j := x) (by omega)
    have k1 := hwt.2.2.1
    have e2 := hm' (20 + x) (by omega)
    have e3 := rGY hm' (j := x) (by omega) hwt hn hnow
    have yb := sGY_le a x now
    have e4 : f_X8_fewestOf 75 (iI x) (iI (sGY a x now)) S' = some (iI (qM a x now)) := rFew hm' (by omega) hwt hn hnow (by omega)
    have mb := qM_b a x now
    have bQ := sQ_b a now h x
    by_cases c : a (20 + x) < 0 ∧ 0 ≤ qM a x now
    · have hp1 : pick (sQ a now h x).1 1 = 0 := by show (if (sQ a now h x).1 0 ≤ (sQ a now h x).1 0 then 0 else 0) = 0; split <;> rfl
      have e5 : ∀ y1 y3 y4 y5 y6 k, f_X8_queue_L110 2000 y1 y3 y4 y5 y6 (iI 0) (iI 1) S' k = k (iI (pick (sQ a now h x).1 h)) := fun y1 y3 y4 y5 y6 k => by
        have i := rPick (S := S') (h := h) (by omega) eh q2 (fun p => by have := bQ.1 p; omega) (y1 := y1) (y3 := y3) (y4 := y4) (y5 := y5) (y6 := y6) (k := k) (h - 1) 2000 1 (by omega) (by omega) (by omega)
        rw [hp1] at i
        exact i
      have pl := pick_lt (sQ a now h x).1 h (by omega)
      have e6 := q2 (pick (sQ a now h x).1 h) (by omega)
      have b2 := bQ.1 (pick (sQ a now h x).1 h)
      have eS : sQ a now h (x + 1) = (setF (sQ a now h x).1 (pick (sQ a now h x).1 h) ((sQ a now h x).1 (pick (sQ a now h x).1 h) + qM a x now),
          if (sQ a now h x).2 < (sQ a now h x).1 (pick (sQ a now h x).1 h) + qM a x now then (sQ a now h x).1 (pick (sQ a now h x).1 h) + qM a x now else (sQ a now h x).2) := if_pos c
      have eB : sQb a now h x = (sQ a now h x).1 (pick (sQ a now h x).1 h) := if_pos c
      obtain ⟨S'', g1, g2⟩ := ih n (x + 1) (up S' 83 (pick (sQ a now h x).1 h) (iI ((sQ a now h x).1 (pick (sQ a now h x).1 h) + qM a x now))) (by omega) (by omega) (fun i k hi => by rw [up_ne hi]; exact q1 i k hi) (fun p hp => by
        rw [eS]
        show _ = iI (if p = pick (sQ a now h x).1 h then (sQ a now h x).1 (pick (sQ a now h x).1 h) + qM a x now else (sQ a now h x).1 p)
        by_cases e : p = pick (sQ a now h x).1 h
        · rw [if_pos e, e, up_s]
        · rw [if_neg e, up_n (Or.inr e)]; exact q2 p hp)
      refine ⟨S'', g1, ?_⟩
      rw [eS] at g2
      rw [f_X8_queue_L50, ← g2]
      have e7 := rMost (x := (sQ a now h x).2) (y := (sQ a now h x).1 (pick (sQ a now h x).1 h) + qM a x now) (by omega) (by omega) (by omega) (by omega)
      have e8 : (if (sQ a now h x).2 ≤ (sQ a now h x).1 (pick (sQ a now h x).1 h) + qM a x now then (sQ a now h x).1 (pick (sQ a now h x).1 h) + qM a x now else (sQ a now h x).2) = (if (sQ a now h x).2 < (sQ a now h x).1 (pick (sQ a now h x).1 h) + qM a x now then (sQ a now h x).1 (pick (sQ a now h x).1 h) + qM a x now else (sQ a now h x).2) := by
        split <;> split <;> omega
      rw [e8] at e7
      by_cases cy : (x : Int) = y
      · have eA : sQa a now h y (x + 1) = (sQ a now h x).1 (pick (sQ a now h x).1 h) := by
          rw [sQa, if_pos (by omega), ← cy]; exact eB
        rw [eA]
        simp (disch := omega) only [li_0, li_1, li_2, li_3, li_4, li_5, li_6, li_7, li_8, li_9, li_10, li_11, li_12, li_16, li_19, li_20, li_28, li_48, li_57, li_59, li_60, li_96, li_97, li_99, li_100, li_102, li_103, li_104, li_112, li_115, li_116, li_118, li_119, li_121, li_124, li_132, li_255, li_256, li_1000, li_2000, li_1000000000, iI_add, iI_sub, iI_mul, iI_neg, iI_lt, iI_le, iI_eq, iI_clamp, iI_s, iI_m1, iI_div, bs, tn, tn4, tn12, tn20, tn124, tn28, itT, itF, if_pos, if_neg, up_s, up_n, e0, e2, e3, e4, e5, e6, e7]
      · have eA : sQa a now h y (x + 1) = sQa a now h y x := by
          unfold sQa
          by_cases c9 : 0 ≤ y ∧ y < (x : Int)
          · rw [if_pos c9, if_pos (by omega)]
          · rw [if_neg c9, if_neg (by omega)]
        rw [eA]
        simp (disch := omega) only [li_0, li_1, li_2, li_3, li_4, li_5, li_6, li_7, li_8, li_9, li_10, li_11, li_12, li_16, li_19, li_20, li_28, li_48, li_57, li_59, li_60, li_96, li_97, li_99, li_100, li_102, li_103, li_104, li_112, li_115, li_116, li_118, li_119, li_121, li_124, li_132, li_255, li_256, li_1000, li_2000, li_1000000000, iI_add, iI_sub, iI_mul, iI_neg, iI_lt, iI_le, iI_eq, iI_clamp, iI_s, iI_m1, iI_div, bs, tn, tn4, tn12, tn20, tn124, tn28, itT, itF, if_pos, if_neg, up_s, up_n, e0, e2, e3, e4, e5, e6, e7]
    · have eS : sQ a now h (x + 1) = sQ a now h x := if_neg c
      have eB : sQb a now h x = -9 := if_neg c
      have eA : sQa a now h y (x + 1) = sQa a now h y x := by
        unfold sQa
        by_cases c9 : 0 ≤ y ∧ y < (x : Int)
        · rw [if_pos c9, if_pos (by omega)]
        · rw [if_neg c9]
          by_cases c10 : y = (x : Int)
          · rw [if_pos (by omega), c10]; exact eB
          · rw [if_neg (by omega)]
      obtain ⟨S'', g1, g2⟩ := ih n (x + 1) S' (by omega) (by omega) q1 (fun p hp => by rw [eS]; exact q2 p hp)
      refine ⟨S'', g1, ?_⟩
      rw [eS, eA] at g2
      rw [f_X8_queue_L50, ← g2]
      by_cases c1 : a (20 + x) < 0
      · simp (disch := omega) only [li_0, li_1, li_2, li_3, li_4, li_5, li_6, li_7, li_8, li_9, li_10, li_11, li_12, li_16, li_19, li_20, li_28, li_48, li_57, li_59, li_60, li_96, li_97, li_99, li_100, li_102, li_103, li_104, li_112, li_115, li_116, li_118, li_119, li_121, li_124, li_132, li_255, li_256, li_1000, li_2000, li_1000000000, iI_add, iI_sub, iI_mul, iI_neg, iI_lt, iI_le, iI_eq, iI_clamp, iI_s, iI_m1, iI_div, bs, tn, tn4, tn12, tn20, tn124, tn28, itT, itF, if_pos, if_neg, e0, e2, e3, e4]
      · simp (disch := omega) only [li_0, li_1, li_2, li_3, li_4, li_5, li_6, li_7, li_8, li_9, li_10, li_11, li_12, li_16, li_19, li_20, li_28, li_48, li_57, li_59, li_60, li_96, li_97, li_99, li_100, li_102, li_103, li_104, li_112, li_115, li_116, li_118, li_119, li_121, li_124, li_132, li_255, li_256, li_1000, li_2000, li_1000000000, iI_add, iI_sub, iI_mul, iI_neg, iI_lt, iI_le, iI_eq, iI_clamp, iI_s, iI_m1, iI_div, bs, tn, tn4, tn12, tn20, tn124, tn28, itT, itF, if_pos, if_neg, e0, e2]
theorem rQ0 {S : St} {y : Int32} {k : St → Option (Int32 × St)} : ∀ d n x : Nat, ∀ S' : St, x + d = 4 → d < n → (∀ i k, i ≠ 83 → S'.1 i k = S.1 i k) → (∀ p, p < x → S'.1 83 p = iI 0) → ∃ S'', (∀ i k, i ≠ 83 → S''.1 i k = S.1 i k) ∧ (∀ p, p < 4 → S''.1 83 p = iI 0) ∧ f_X8_queue_L26 n y (iI x) S' k = k S'' := by
  intro d
  induction d with
  | zero =>
    intro n x S' hx hd h1 h2
    obtain ⟨n, rfl⟩ : ∃ p, n = p + 1 := ⟨n - 1, by omega⟩
    obtain rfl : x = 4 := by omega
    refine ⟨S', h1, h2, ?_⟩
    rw [f_X8_queue_L26]
    simp (disch := omega) only [li_0, li_1, li_2, li_3, li_4, li_5, li_6, li_7, li_8, li_9, li_10, li_11, li_12, li_16, li_19, li_20, li_28, li_48, li_57, li_59, li_60, li_96, li_97, li_99, li_100, li_102, li_103, li_104, li_112, li_115, li_116, li_118, li_119, li_121, li_124, li_132, li_255, li_256, li_1000, li_2000, li_1000000000, iI_add, iI_sub, iI_mul, iI_neg, iI_lt, iI_le, iI_eq, iI_clamp, iI_s, iI_m1, iI_div, bs, tn, tn4, tn12, tn20, tn124, tn28, itT, itF, if_pos, if_neg]
  | succ d ih =>
    intro n x S' hx hd h1 h2
    obtain ⟨n, rfl⟩ : ∃ p, n = p + 1 := ⟨n - 1, by omega⟩
    obtain ⟨S'', g1, g2, g3⟩ := ih n (x + 1) (up S' 83 x (iI 0)) (by omega) (by omega) (fun i k hi => by rw [up_ne hi]; exact h1 i k hi) (fun p hp => by
      by_cases e : p = x
      · rw [e, up_s]
      · rw [up_n (Or.inr e)]; exact h2 p (by omega))
    refine ⟨S'', g1, g2, ?_⟩
    rw [f_X8_queue_L26]
    simp (disch := omega) only [li_0, li_1, li_2, li_3, li_4, li_5, li_6, li_7, li_8, li_9, li_10, li_11, li_12, li_16, li_19, li_20, li_28, li_48, li_57, li_59, li_60, li_96, li_97, li_99, li_100, li_102, li_103, li_104, li_112, li_115, li_116, li_118, li_119, li_121, li_124, li_132, li_255, li_256, li_1000, li_2000, li_1000000000, iI_add, iI_sub, iI_mul, iI_neg, iI_lt, iI_le, iI_eq, iI_clamp, iI_s, iI_m1, iI_div, bs, tn, tn4, tn12, tn20, tn124, tn28, itT, itF, if_pos, if_neg, g3]
theorem e_queue {S : St} (hS : Inv S) (a1 : Int32) : ∃ (z1 : Int32 × St) (z2 : Int32 × St), f_X7_queue a1 S = some z1 ∧ f_X8_queue a1 z1.2 = some z2 ∧ z1.1 = z2.1 ∧ Inv z2.2 := by
  obtain ⟨⟨a, hw, hc, hm0⟩, -⟩ := id hS
  have hm : ∀ k, k < 132 → S.1 75 k = iI (a k) := hm0
  have h8 := hw.1
  have w1 := hw.2.1
  have w2 := hw.2.2.1
  have w3 := hw.2.2.2.1
  obtain ⟨now, hnow⟩ : ∃ n : Nat, a 1 = n := ⟨(a 1).toNat, by omega⟩
  obtain ⟨N, hN⟩ : ∃ n : Nat, a 0 = n := ⟨(a 0).toNat, by omega⟩
  have hn : now ≤ 11 := by omega
  have hN8 : N ≤ 8 := by omega
  have p1 : S.1 1 1 = iI now := by rw [hc.1 1 (by omega), hnow]
  have p0 : S.1 1 0 = iI N := by rw [hc.1 0 (by omega), hN]
  have m0 : S.1 75 0 = iI N := by rw [hm 0 (by omega), hN]
  have m1 : S.1 75 1 = iI now := by rw [hm 1 (by omega), hnow]
  obtain ⟨x, x1, x2, rfl⟩ := iI_any a1
  have e1 := cLacks hc hw x1 x2
  by_cases c : x = -1 ∨ (0 ≤ x ∧ x < a 0)
  · obtain ⟨h, hh⟩ : ∃ h : Nat, a 3 = h := ⟨(a 3).toNat, by omega⟩
    obtain ⟨S1, c1, c2, c3, c4⟩ := cQ hc hw hN hn hnow hh
    have hm1 : ∀ k, k < 132 → S1.1 75 k = iI (a k) := fun k hk => by rw [c2 _ _ (by omega)]; exact hm k hk
    have m0' : S1.1 75 0 = iI N := by rw [hm1 0 (by omega), hN]
    obtain ⟨S2, r1, r2, r3⟩ := rQ0 (S := S1) (y := iI x) (k := fun s => f_X8_queue_L50 2000 (iI x) (iI 0) (iI (-9)) (iI 0) s (fun y27 y28 S29 => if iI 0 ≤ iI x then some (y28, S29) else some (y27, S29))) 4 2000 0 S1 (by omega) (by omega) (fun _ _ _ => rfl) (fun p hp => absurd hp (by omega))
    have hm2 : ∀ k, k < 132 → S2.1 75 k = iI (a k) := fun k hk => by rw [r1 _ _ (by omega)]; exact hm1 k hk
    obtain ⟨S3, q1, q2⟩ := rQL (S := S2) hm2 hw hN hn hnow hh (y := x) (by omega) (k := fun y27 y28 S29 => if iI 0 ≤ iI x then some (y28, S29) else some (y27, S29)) N 2000 0 S2 (by omega) (by omega) (fun _ _ _ => rfl) (fun p hp => r2 p hp)
    have q3 : f_X8_queue_L50 2000 (iI x) (iI 0) (iI (-9)) (iI 0) S2 (fun y27 y28 S29 => if iI 0 ≤ iI x then some (y28, S29) else some (y27, S29)) = if iI 0 ≤ iI x then some (iI (sQa a now h x N), S3) else some (iI (sQ a now h N).2, S3) := by
      have e0 : sQa a now h x 0 = -9 := if_neg (by omega)
      rw [e0] at q2
      exact q2
    have g1 := r3.trans q3
    have i9 : Inv S3 := hS.sm (fun i k hs => by
      unfold scr at hs
      rw [q1 _ _ (by omega), r1 _ _ (by omega), c2 _ _ (by omega)])
    by_cases cx : x = -1
    · subst cx
      rw [if_neg (by decide)] at g1
      refine e_mk (v := iI (sQ a now h N).2) (S1 := S1) (S2 := S3) (by simp (disch := omega) only [li_0, li_1, li_2, li_3, li_4, li_5, li_6, li_7, li_8, li_9, li_10, li_11, li_12, li_16, li_19, li_20, li_28, li_48, li_57, li_59, li_60, li_96, li_97, li_99, li_100, li_102, li_103, li_104, li_112, li_115, li_116, li_118, li_119, li_121, li_124, li_132, li_255, li_256, li_1000, li_2000, li_1000000000, iI_add, iI_sub, iI_mul, iI_neg, iI_lt, iI_le, iI_eq, iI_clamp, iI_s, iI_m1, iI_div, bs, tn, tn4, tn12, tn20, tn124, tn28, itT, itF, if_pos, if_neg, f_X7_queue, c1, c3]) ?_ i9
      rw [f_X8_queue, if_pos (show iI (-1) = -1 from rfl)]
      refine Eq.trans ?_ g1
      rfl
    · obtain ⟨j, rfl⟩ : ∃ n : Nat, x = n := ⟨x.toNat, by omega⟩
      rw [if_pos (by rw [iI_le (by omega) (by omega) (by omega) (by omega)]; omega)] at g1
      have eA : sQa a now h (j : Int) N = sQb a now h j := if_pos (by omega)
      rw [eA] at g1
      have g2 : f_X8_isThing (iI j) S1 = some (iI 1) := by rw [rThing m0' hN8 x1 x2, if_pos (by omega)]
      have c5 := c4 j (by omega)
      refine e_mk (v := iI (sQb a now h j)) (S1 := S1) (S2 := S3) (by simp (disch := omega) only [li_0, li_1, li_2, li_3, li_4, li_5, li_6, li_7, li_8, li_9, li_10, li_11, li_12, li_16, li_19, li_20, li_28, li_48, li_57, li_59, li_60, li_96, li_97, li_99, li_100, li_102, li_103, li_104, li_112, li_115, li_116, li_118, li_119, li_121, li_124, li_132, li_255, li_256, li_1000, li_2000, li_1000000000, iI_add, iI_sub, iI_mul, iI_neg, iI_lt, iI_le, iI_eq, iI_clamp, iI_s, iI_m1, iI_div, bs, tn, tn4, tn12, tn20, tn124, tn28, itT, itF, if_pos, if_neg, f_X7_queue, f_X0_beginOf, e1, c1, c5]) ?_ i9
      rw [f_X8_queue, if_neg (by rw [show (-1 : Int32) = iI (-1) from rfl, iI_eq (by omega) (by omega) (by omega) (by omega)]; omega), g2, bs, if_neg (by decide)]
      refine Eq.trans ?_ g1
      rfl
  · exact e_no hS (-1) 1 (by omega) (by omega) (by simp (disch := omega) only [li_0, li_1, li_2, li_3, li_4, li_5, li_6, li_7, li_8, li_9, li_10, li_11, li_12, li_16, li_19, li_20, li_28, li_48, li_57, li_59, li_60, li_96, li_97, li_99, li_100, li_102, li_103, li_104, li_112, li_115, li_116, li_118, li_119, li_121, li_124, li_132, li_255, li_256, li_1000, li_2000, li_1000000000, iI_add, iI_sub, iI_mul, iI_neg, iI_lt, iI_le, iI_eq, iI_clamp, iI_s, iI_m1, iI_div, bs, tn, tn4, tn12, tn20, tn124, tn28, itT, itF, if_pos, if_neg, f_X7_queue, e1, bse]) (fun S1 q1 q2 => by
      have g1 := rThing (S := S1) (by rw [q1]; exact m0) hN8 x1 x2
      simp (disch := omega) only [li_0, li_1, li_2, li_3, li_4, li_5, li_6, li_7, li_8, li_9, li_10, li_11, li_12, li_16, li_19, li_20, li_28, li_48, li_57, li_59, li_60, li_96, li_97, li_99, li_100, li_102, li_103, li_104, li_112, li_115, li_116, li_118, li_119, li_121, li_124, li_132, li_255, li_256, li_1000, li_2000, li_1000000000, iI_add, iI_sub, iI_mul, iI_neg, iI_lt, iI_le, iI_eq, iI_clamp, iI_s, iI_m1, iI_div, bs, tn, tn4, tn12, tn20, tn124, tn28, itT, itF, if_pos, if_neg, f_X8_queue, g1, bse])
end
section
-- ===== mended =====
def mdP (a : Nat → Int) (j now y : Nat) (m : Int) (v : Nat) : Bool := decide (sY (st a (28 + 12 * j + y) (v : Int)) j now m 0 = y)
theorem cMdL {S : St} {a : Nat → Int} {j now y : Nat} (hw : WFa a) (hj : j < 8) (hn : now ≤ 11) (hy : y < 12) {m : Int} (h1 : 0 ≤ m ∧ m ≤ 99) (p1 : S.1 1 1 = iI now) {k : Int32 → St → Option (Int32 × St)} {k9 : St → Option (Int32 × St)} :
    ∀ d n v : Nat, ∀ S' : St, v + d = 100 → d < n → (∀ i k, i ≠ 59 → S'.1 i k = S.1 i k) → (S'.1 58 0 = iI (a (4 + j)) ∧ S'.1 58 1 = iI (a (12 + j)) ∧ S'.1 58 2 = iI (a (20 + j)) ∧ ∀ u, u < 12 → u ≠ y → S'.1 59 u = iI (a (28 + 12 * j + u))) →
    ∃ S'', (∀ i k, i ≠ 59 → S''.1 i k = S.1 i k) ∧ f_X7_mended_L63 n (iI y) (iI m) (iI v) S' k k9 = if sFst (mdP a j now y m) d v < 0 then k9 S'' else k (iI (sFst (mdP a j now y m) d v)) S'' := by
  intro d
  induction d with
  | zero =>
    intro n v S' hx hd q1 q2
    obtain ⟨n, rfl⟩ : ∃ p, n = p + 1 := ⟨n - 1, by omega⟩
    refine ⟨S', q1, ?_⟩
    rw [f_X7_mended_L63, sFst]
    simp (disch := omega) only [li_0, li_1, li_2, li_3, li_4, li_5, li_6, li_7, li_8, li_9, li_10, li_11, li_12, li_16, li_19, li_20, li_28, li_48, li_57, li_59, li_60, li_96, li_97, li_99, li_100, li_102, li_103, li_104, li_112, li_115, li_116, li_118, li_119, li_121, li_124, li_132, li_255, li_256, li_1000, li_2000, li_1000000000, iI_add, iI_sub, iI_mul, iI_neg, iI_lt, iI_le, iI_eq, iI_clamp, iI_s, iI_m1, iI_div, bs, tn, tn4, tn12, tn20, tn124, tn28, itT, itF, if_pos, if_neg]
  | succ d ih =>
    intro n v S' hx hd q1 q2
    obtain ⟨n, rfl⟩ : ∃ p, n = p + 1 := ⟨n - 1, by omega⟩
    have hw2 : WFa (st a (28 + 12 * j + y) (v : Int)) := hw.stg hj hy (by omega)
    have ht : RT (up S' 59 y (iI v)) 58 (st a (28 + 12 * j + y) (v : Int)) j := by
      refine ⟨?_, ?_, ?_, fun u hu => ?_⟩
      · rw [up_ne (by omega), st_n (by omega)]; exact q2.1
      · rw [up_ne (by omega), st_n (by omega)]; exact q2.2.1
      · rw [up_ne (by omega), st_n (by omega)]; exact q2.2.2.1
      · by_cases e : u = y
        · rw [e, up_s, st_s]
        · rw [up_n (Or.inr e), st_n (by omega)]; exact q2.2.2.2 u hu e
    have e1 := cY ht (hw2.t hj) hn (m := m) (f := 0) (by omega) (by omega)
    have yb := sY_le (st a (28 + 12 * j + y) (v : Int)) j now m 0
    have e2 : (up S' 59 y (iI v)).1 1 1 = iI now := by rw [up_ne (by omega), q1 _ _ (by omega)]; exact p1
    have e3 : f_X6_makeGlad 58 (iI y) (iI v) S' = some (up S' 59 y (iI v)) := by simp (disch := omega) only [li_0, li_1, li_2, li_3, li_4, li_5, li_6, li_7, li_8, li_9, li_10, li_11, li_12, li_16, li_19, li_20, li_28, li_48, li_57, li_59, li_60, li_96, li_97, li_99, li_100, li_102, li_103, li_104, li_112, li_115, li_116, li_118, li_119, li_121, li_124, li_132, li_255, li_256, li_1000, li_2000, li_1000000000, iI_add, iI_sub, iI_mul, iI_neg, iI_lt, iI_le, iI_eq, iI_clamp, iI_s, iI_m1, iI_div, bs, tn, tn4, tn12, tn20, tn124, tn28, itT, itF, if_pos, if_neg, f_X6_makeGlad]
    obtain ⟨S'', g1, g2⟩ := ih n (v + 1) (up S' 59 y (iI v)) (by omega) (by omega) (fun i k hi => by rw [up_ne hi]; exact q1 i k hi) (by
      refine ⟨?_, ?_, ?_, fun u hu e => ?_⟩
      · rw [up_ne (by omega)]; exact q2.1
      · rw [up_ne (by omega)]; exact q2.2.1
      · rw [up_ne (by omega)]; exact q2.2.2.1
      · rw [up_n (Or.inr e)]; exact q2.2.2.2 u hu e)
    have e5 : sFst (mdP a j now y m) (d + 1) v = if decide (sY (st a (28 + 12 * j + y) (v : Int)) j now m 0 = y) = true then (v : Int) else sFst (mdP a j now y m) d (v + 1) := rfl
    by_cases c : sY (st a (28 + 12 * j + y) (v : Int)) j now m 0 = y
    · refine ⟨up S' 59 y (iI v), fun i k hi => by rw [up_ne hi]; exact q1 i k hi, ?_⟩
      rw [f_X7_mended_L63, e5]
      simp (disch := omega) only [li_0, li_1, li_2, li_3, li_4, li_5, li_6, li_7, li_8, li_9, li_10, li_11, li_12, li_16, li_19, li_20, li_28, li_48, li_57, li_59, li_60, li_96, li_97, li_99, li_100, li_102, li_103, li_104, li_112, li_115, li_116, li_118, li_119, li_121, li_124, li_132, li_255, li_256, li_1000, li_2000, li_1000000000, iI_add, iI_sub, iI_mul, iI_neg, iI_lt, iI_le, iI_eq, iI_clamp, iI_s, iI_m1, iI_div, bs, tn, tn4, tn12, tn20, tn124, tn28, itT, itF, if_pos, if_neg, e3, e2, e1, decide_eq_true_eq]
    · refine ⟨S'', g1, ?_⟩
      rw [f_X7_mended_L63, e5]
      simp (disch := omega) only [li_0, li_1, li_2, li_3, li_4, li_5, li_6, li_7, li_8, li_9, li_10, li_11, li_12, li_16, li_19, li_20, li_28, li_48, li_57, li_59, li_60, li_96, li_97, li_99, li_100, li_102, li_103, li_104, li_112, li_115, li_116, li_118, li_119, li_121, li_124, li_132, li_255, li_256, li_1000, li_2000, li_1000000000, iI_add, iI_sub, iI_mul, iI_neg, iI_lt, iI_le, iI_eq, iI_clamp, iI_s, iI_m1, iI_div, bs, tn, tn4, tn12, tn20, tn124, tn28, itT, itF, if_pos, if_neg, e3, e2, e1, g2, decide_eq_true_eq]
theorem rMdL {S : St} {a : Nat → Int} {j now y : Nat} (hw : WFa a) (hj : j < 8) (hn : now ≤ 11) (hn1 : a 1 = now) (hy : y < 12) {m : Int} (h1 : 0 ≤ m ∧ m ≤ 99) {k : Int32 → St → Option (Int32 × St)} {k9 : St → Option (Int32 × St)} :
    ∀ d n v : Nat, ∀ S' : St, v + d = 100 → d < n → (∀ i k, i ≠ 76 → S'.1 i k = S.1 i k) → (∀ k, k < 132 → k ≠ 28 + 12 * j + y → S'.1 76 k = iI (a k)) →
    ∃ S'', (∀ i k, i ≠ 76 → S''.1 i k = S.1 i k) ∧ f_X8_mended_L59 n (iI j) (iI y) (iI m) (iI v) S' k k9 = if sFst (mdP a j now y m) d v < 0 then k9 S'' else k (iI (sFst (mdP a j now y m) d v)) S'' := by
  intro d
  induction d with
  | zero =>
    intro n v S' hx hd q1 q2
    obtain ⟨n, rfl⟩ : ∃ p, n = p + 1 := ⟨n - 1, by omega⟩
    refine ⟨S', q1, ?_⟩
    rw [f_X8_mended_L59, sFst]
    simp (disch := omega) only [li_0, li_1, li_2, li_3, li_4, li_5, li_6, li_7, li_8, li_9, li_10, li_11, li_12, li_16, li_19, li_20, li_28, li_48, li_57, li_59, li_60, li_96, li_97, li_99, li_100, li_102, li_103, li_104, li_112, li_115, li_116, li_118, li_119, li_121, li_124, li_132, li_255, li_256, li_1000, li_2000, li_1000000000, iI_add, iI_sub, iI_mul, iI_neg, iI_lt, iI_le, iI_eq, iI_clamp, iI_s, iI_m1, iI_div, bs, tn, tn4, tn12, tn20, tn124, tn28, itT, itF, if_pos, if_neg]
  | succ d ih =>
    intro n v S' hx hd q1 q2
    obtain ⟨n, rfl⟩ : ∃ p, n = p + 1 := ⟨n - 1, by omega⟩
    have hw2 : WFa (st a (28 + 12 * j + y) (v : Int)) := hw.stg hj hy (by omega)
    have hm2 : ∀ k, k < 132 → (up S' 76 (28 + 12 * j + y) (iI v)).1 76 k = iI (st a (28 + 12 * j + y) (v : Int) k) := fun k hk => by
      by_cases e : k = 28 + 12 * j + y
      · rw [e, up_s, st_s]
      · rw [up_n (Or.inr e), st_n e]; exact q2 k hk e
    have e1 := rY hm2 hj (hw2.t hj) hn (by rw [st_n (by omega)]; exact hn1) (m := m) (f := 0) (by omega) (by omega)
    have yb := sY_le (st a (28 + 12 * j + y) (v : Int)) j now m 0
    obtain ⟨S'', g1, g2⟩ := ih n (v + 1) (up S' 76 (28 + 12 * j + y) (iI v)) (by omega) (by omega) (fun i k hi => by rw [up_ne hi]; exact q1 i k hi) (fun k hk e => by rw [up_n (Or.inr e)]; exact q2 k hk e)
    have e5 : sFst (mdP a j now y m) (d + 1) v = if decide (sY (st a (28 + 12 * j + y) (v : Int)) j now m 0 = y) = true then (v : Int) else sFst (mdP a j now y m) d (v + 1) := rfl
    by_cases c : sY (st a (28 + 12 * j + y) (v : Int)) j now m 0 = y
    · refine ⟨up S' 76 (28 + 12 * j + y) (iI v), fun i k hi => by rw [up_ne hi]; exact q1 i k hi, ?_⟩
      rw [f_X8_mended_L59, e5]
      simp (disch := omega) only [li_0, li_1, li_2, li_3, li_4, li_5, li_6, li_7, li_8, li_9, li_10, li_11, li_12, li_16, li_19, li_20, li_28, li_48, li_57, li_59, li_60, li_96, li_97, li_99, li_100, li_102, li_103, li_104, li_112, li_115, li_116, li_118, li_119, li_121, li_124, li_132, li_255, li_256, li_1000, li_2000, li_1000000000, iI_add, iI_sub, iI_mul, iI_neg, iI_lt, iI_le, iI_eq, iI_clamp, iI_s, iI_m1, iI_div, bs, tn, tn4, tn12, tn20, tn124, tn28, itT, itF, if_pos, if_neg, rAt, e1, decide_eq_true_eq]
    · refine ⟨S'', g1, ?_⟩
      rw [f_X8_mended_L59, e5]
      simp (disch := omega) only [li_0, li_1, li_2, li_3, li_4, li_5, li_6, li_7, li_8, li_9, li_10, li_11, li_12, li_16, li_19, li_20, li_28, li_48, li_57, li_59, li_60, li_96, li_97, li_99, li_100, li_102, li_103, li_104, li_112, li_115, li_116, li_118, li_119, li_121, li_124, li_132, li_255, li_256, li_1000, li_2000, li_1000000000, iI_add, iI_sub, iI_mul, iI_neg, iI_lt, iI_le, iI_eq, iI_clamp, iI_s, iI_m1, iI_div, bs, tn, tn4, tn12, tn20, tn124, tn28, itT, itF, if_pos, if_neg, rAt, e1, g2, decide_eq_true_eq]
theorem e_mended {S : St} (hS : Inv S) (a1 : Int32) (a2 : Int32) (a3 : Int32) : ∃ (z1 : Int32 × St) (z2 : Int32 × St), f_X7_mended a1 a2 a3 S = some z1 ∧ f_X8_mended a1 a2 a3 z1.2 = some z2 ∧ z1.1 = z2.1 ∧ Inv z2.2 := by
  obtain ⟨⟨a, hw, hc, hm0⟩, -⟩ := id hS
  have hm : ∀ k, k < 132 → S.1 75 k = iI (a k) := hm0
  have h8 := hw.1
  have w1 := hw.2.1
  have w2 := hw.2.2.1
  have w3 := hw.2.2.2.1
  obtain ⟨now, hnow⟩ : ∃ n : Nat, a 1 = n := ⟨(a 1).toNat, by omega⟩
  obtain ⟨N, hN⟩ : ∃ n : Nat, a 0 = n := ⟨(a 0).toNat, by omega⟩
  have hn : now ≤ 11 := by omega
  have hN8 : N ≤ 8 := by omega
  have p1 : S.1 1 1 = iI now := by rw [hc.1 1 (by omega), hnow]
  have p0 : S.1 1 0 = iI N := by rw [hc.1 0 (by omega), hN]
  have m0 : S.1 75 0 = iI N := by rw [hm 0 (by omega), hN]
  have m1 : S.1 75 1 = iI now := by rw [hm 1 (by omega), hnow]
  obtain ⟨x, x1, x2, rfl⟩ := iI_any a1
  obtain ⟨y, y1, y2, rfl⟩ := iI_any a2
  obtain ⟨z, z1, z2, rfl⟩ := iI_any a3
  have e1 := cLacks hc hw x1 x2
  have e3 := cOut (z := z) (l := 0) (u := 99) z1 z2 (by omega) (by omega) (by omega) (by omega)
  have e4 := cNo y1 y2
  have g4 := rYear y1 y2
  by_cases c : 0 ≤ x ∧ x < a 0
  · obtain ⟨j, rfl⟩ : ∃ n : Nat, x = n := ⟨x.toNat, by omega⟩
    have ht := hc.t (j := j) (by omega) (by omega)
    have hwt := hw.t (j := j) (by omega)
    have e2 := cAt (S := S) (q := 1) (j := j) (by omega)
    by_cases c1 : 0 ≤ y ∧ y < 12
    · by_cases c2 : z < 0
      · exact e_no hS (-4) 4 (by omega) (by omega) (by simp (disch := omega) only [li_0, li_1, li_2, li_3, li_4, li_5, li_6, li_7, li_8, li_9, li_10, li_11, li_12, li_16, li_19, li_20, li_28, li_48, li_57, li_59, li_60, li_96, li_97, li_99, li_100, li_102, li_103, li_104, li_112, li_115, li_116, li_118, li_119, li_121, li_124, li_132, li_255, li_256, li_1000, li_2000, li_1000000000, iI_add, iI_sub, iI_mul, iI_neg, iI_lt, iI_le, iI_eq, iI_clamp, iI_s, iI_m1, iI_div, bs, tn, tn4, tn12, tn20, tn124, tn28, itT, itF, if_pos, if_neg, f_X7_mended, e1, e3, e4, bse]) (fun S1 q1 q2 => by
          have g1 := rThing (S := S1) (by rw [q1]; exact m0) hN8 x1 x2
          simp (disch := omega) only [li_0, li_1, li_2, li_3, li_4, li_5, li_6, li_7, li_8, li_9, li_10, li_11, li_12, li_16, li_19, li_20, li_28, li_48, li_57, li_59, li_60, li_96, li_97, li_99, li_100, li_102, li_103, li_104, li_112, li_115, li_116, li_118, li_119, li_121, li_124, li_132, li_255, li_256, li_1000, li_2000, li_1000000000, iI_add, iI_sub, iI_mul, iI_neg, iI_lt, iI_le, iI_eq, iI_clamp, iI_s, iI_m1, iI_div, bs, tn, tn4, tn12, tn20, tn124, tn28, itT, itF, if_pos, if_neg, f_X8_mended, g1, g4, bse])
      · by_cases c3 : 99 < z
        · exact e_no hS (-6) 6 (by omega) (by omega) (by simp (disch := omega) only [li_0, li_1, li_2, li_3, li_4, li_5, li_6, li_7, li_8, li_9, li_10, li_11, li_12, li_16, li_19, li_20, li_28, li_48, li_57, li_59, li_60, li_96, li_97, li_99, li_100, li_102, li_103, li_104, li_112, li_115, li_116, li_118, li_119, li_121, li_124, li_132, li_255, li_256, li_1000, li_2000, li_1000000000, iI_add, iI_sub, iI_mul, iI_neg, iI_lt, iI_le, iI_eq, iI_clamp, iI_s, iI_m1, iI_div, bs, tn, tn4, tn12, tn20, tn124, tn28, itT, itF, if_pos, if_neg, f_X7_mended, e1, e3, e4, bse]) (fun S1 q1 q2 => by
            have g1 := rThing (S := S1) (by rw [q1]; exact m0) hN8 x1 x2
            simp (disch := omega) only [li_0, li_1, li_2, li_3, li_4, li_5, li_6, li_7, li_8, li_9, li_10, li_11, li_12, li_16, li_19, li_20, li_28, li_48, li_57, li_59, li_60, li_96, li_97, li_99, li_100, li_102, li_103, li_104, li_112, li_115, li_116, li_118, li_119, li_121, li_124, li_132, li_255, li_256, li_1000, li_2000, li_1000000000, iI_add, iI_sub, iI_mul, iI_neg, iI_lt, iI_le, iI_eq, iI_clamp, iI_s, iI_m1, iI_div, bs, tn, tn4, tn12, tn20, tn124, tn28, itT, itF, if_pos, if_neg, f_X8_mended, g1, g4, bse])
        · obtain ⟨u, rfl⟩ : ∃ n : Nat, y = n := ⟨y.toNat, by omega⟩
          obtain ⟨S1, c4, c5, c6, c7⟩ := cCopyT (q0 := 58) (q1 := 1 + 1 + 2 + 2 * j) (by omega) (by omega) (by omega) S
          obtain ⟨S2, d1, d2⟩ := cMdL (S := S1) (a := a) (j := j) (now := now) (y := u) hw (by omega) hn (by omega) (m := z) (by omega) (by rw [c5 _ _ (by omega) (by omega)]; exact p1) (k := fun y14 S15 => some (y14, S15)) (k9 := fun S16 => some (iI (-9), S16)) 100 2000 0 S1 (by omega) (by omega) (fun _ _ _ => rfl) ⟨by rw [c6 0 (by omega)]; exact ht.1, by rw [c6 1 (by omega)]; exact ht.2.1, by rw [c6 2 (by omega)]; exact ht.2.2.1, fun v hv _ => by rw [c7 v hv]; exact ht.2.2.2 v hv⟩
          have hm2 : ∀ k, k < 132 → S2.1 75 k = iI (a k) := fun k hk => by rw [d1 _ _ (by omega), c5 _ _ (by omega) (by omega)]; exact hm k hk
          have g1 := rThing (S := S2) (by rw [hm2 0 (by omega), hN]) hN8 x1 x2
          obtain ⟨S3, l1, l2, l3⟩ := rLays (q0 := 75) (q1 := 76) (by omega) S2
          obtain ⟨S4, f1, f2⟩ := rMdL (S := S3) (a := a) (j := j) (now := now) (y := u) hw (by omega) hn hnow (by omega) (m := z) (by omega) (k := fun y14 S15 => some (y14, S15)) (k9 := fun S16 => some (iI (-9), S16)) 100 2000 0 S3 (by omega) (by omega) (fun _ _ _ => rfl) (fun k hk _ => by rw [l3 k hk]; exact hm2 k hk)
          have i9 : Inv S4 := hS.sm (fun i k hs => by
            unfold scr at hs
            rw [f1 _ _ (by omega), l2 _ _ (by omega), d1 _ _ (by omega), c5 _ _ (by omega) (by omega)])
          have d3 : f_X7_mended_L63 2000 (iI u) (iI z) (iI 0) S1 (fun y14 S15 => some (y14, S15)) (fun S16 => some (iI (-9), S16)) = if sFst (mdP a j now u z) 100 0 < 0 then some (iI (-9), S2) else some (iI (sFst (mdP a j now u z) 100 0), S2) := d2
          have f3 : f_X8_mended_L59 2000 (iI j) (iI u) (iI z) (iI 0) S3 (fun y14 S15 => some (y14, S15)) (fun S16 => some (iI (-9), S16)) = if sFst (mdP a j now u z) 100 0 < 0 then some (iI (-9), S4) else some (iI (sFst (mdP a j now u z) 100 0), S4) := f2
          by_cases cc : sFst (mdP a j now u z) 100 0 < 0
          · rw [if_pos cc] at d3 f3
            exact e_mk (by simp (disch := omega) only [li_0, li_1, li_2, li_3, li_4, li_5, li_6, li_7, li_8, li_9, li_10, li_11, li_12, li_16, li_19, li_20, li_28, li_48, li_57, li_59, li_60, li_96, li_97, li_99, li_100, li_102, li_103, li_104, li_112, li_115, li_116, li_118, li_119, li_121, li_124, li_132, li_255, li_256, li_1000, li_2000, li_1000000000, iI_add, iI_sub, iI_mul, iI_neg, iI_lt, iI_le, iI_eq, iI_clamp, iI_s, iI_m1, iI_div, bs, tn, tn4, tn12, tn20, tn124, tn28, itT, itF, if_pos, if_neg, f_X7_mended, e1, e2, e3, e4, c4, d3]; rfl) (by simp (disch := omega) only [li_0, li_1, li_2, li_3, li_4, li_5, li_6, li_7, li_8, li_9, li_10, li_11, li_12, li_16, li_19, li_20, li_28, li_48, li_57, li_59, li_60, li_96, li_97, li_99, li_100, li_102, li_103, li_104, li_112, li_115, li_116, li_118, li_119, li_121, li_124, li_132, li_255, li_256, li_1000, li_2000, li_1000000000, iI_add, iI_sub, iI_mul, iI_neg, iI_lt, iI_le, iI_eq, iI_clamp, iI_s, iI_m1, iI_div, bs, tn, tn4, tn12, tn20, tn124, tn28, itT, itF, if_pos, if_neg, f_X8_mended, g1, g4, l1, f3]) i9
          · rw [if_neg cc] at d3 f3
            exact e_mk (by simp (disch := omega) only [li_0, li_1, li_2, li_3, li_4, li_5, li_6, li_7, li_8, li_9, li_10, li_11, li_12, li_16, li_19, li_20, li_28, li_48, li_57, li_59, li_60, li_96, li_97, li_99, li_100, li_102, li_103, li_104, li_112, li_115, li_116, li_118, li_119, li_121, li_124, li_132, li_255, li_256, li_1000, li_2000, li_1000000000, iI_add, iI_sub, iI_mul, iI_neg, iI_lt, iI_le, iI_eq, iI_clamp, iI_s, iI_m1, iI_div, bs, tn, tn4, tn12, tn20, tn124, tn28, itT, itF, if_pos, if_neg, f_X7_mended, e1, e2, e3, e4, c4, d3]; rfl) (by simp (disch := omega) only [li_0, li_1, li_2, li_3, li_4, li_5, li_6, li_7, li_8, li_9, li_10, li_11, li_12, li_16, li_19, li_20, li_28, li_48, li_57, li_59, li_60, li_96, li_97, li_99, li_100, li_102, li_103, li_104, li_112, li_115, li_116, li_118, li_119, li_121, li_124, li_132, li_255, li_256, li_1000, li_2000, li_1000000000, iI_add, iI_sub, iI_mul, iI_neg, iI_lt, iI_le, iI_eq, iI_clamp, iI_s, iI_m1, iI_div, bs, tn, tn4, tn12, tn20, tn124, tn28, itT, itF, if_pos, if_neg, f_X8_mended, g1, g4, l1, f3]) i9
    · exact e_no hS (-1) 1 (by omega) (by omega) (by simp (disch := omega) only [li_0, li_1, li_2, li_3, li_4, li_5, li_6, li_7, li_8, li_9, li_10, li_11, li_12, li_16, li_19, li_20, li_28, li_48, li_57, li_59, li_60, li_96, li_97, li_99, li_100, li_102, li_103, li_104, li_112, li_115, li_116, li_118, li_119, li_121, li_124, li_132, li_255, li_256, li_1000, li_2000, li_1000000000, iI_add, iI_sub, iI_mul, iI_neg, iI_lt, iI_le, iI_eq, iI_clamp, iI_s, iI_m1, iI_div, bs, tn, tn4, tn12, tn20, tn124, tn28, itT, itF, if_pos, if_neg, f_X7_mended, e1, e4, bse]) (fun S1 q1 q2 => by
        have g1 := rThing (S := S1) (by rw [q1]; exact m0) hN8 x1 x2
        simp (disch := omega) only [li_0, li_1, li_2, li_3, li_4, li_5, li_6, li_7, li_8, li_9, li_10, li_11, li_12, li_16, li_19, li_20, li_28, li_48, li_57, li_59, li_60, li_96, li_97, li_99, li_100, li_102, li_103, li_104, li_112, li_115, li_116, li_118, li_119, li_121, li_124, li_132, li_255, li_256, li_1000, li_2000, li_1000000000, iI_add, iI_sub, iI_mul, iI_neg, iI_lt, iI_le, iI_eq, iI_clamp, iI_s, iI_m1, iI_div, bs, tn, tn4, tn12, tn20, tn124, tn28, itT, itF, if_pos, if_neg, f_X8_mended, g1, g4, bse])
  · exact e_no hS (-1) 1 (by omega) (by omega) (by simp (disch := omega) only [li_0, li_1, li_2, li_3, li_4, li_5, li_6, li_7, li_8, li_9, li_10, li_11, li_12, li_16, li_19, li_20, li_28, li_48, li_57, li_59, li_60, li_96, li_97, li_99, li_100, li_102, li_103, li_104, li_112, li_115, li_116, li_118, li_119, li_121, li_124, li_132, li_255, li_256, li_1000, li_2000, li_1000000000, iI_add, iI_sub, iI_mul, iI_neg, iI_lt, iI_le, iI_eq, iI_clamp, iI_s, iI_m1, iI_div, bs, tn, tn4, tn12, tn20, tn124, tn28, itT, itF, if_pos, if_neg, f_X7_mended, e1, bse]) (fun S1 q1 q2 => by
      have g1 := rThing (S := S1) (by rw [q1]; exact m0) hN8 x1 x2
      simp (disch := omega) only [li_0, li_1, li_2, li_3, li_4, li_5, li_6, li_7, li_8, li_9, li_10, li_11, li_12, li_16, li_19, li_20, li_28, li_48, li_57, li_59, li_60, li_96, li_97, li_99, li_100, li_102, li_103, li_104, li_112, li_115, li_116, li_118, li_119, li_121, li_124, li_132, li_255, li_256, li_1000, li_2000, li_1000000000, iI_add, iI_sub, iI_mul, iI_neg, iI_lt, iI_le, iI_eq, iI_clamp, iI_s, iI_m1, iI_div, bs, tn, tn4, tn12, tn20, tn124, tn28, itT, itF, if_pos, if_neg, f_X8_mended, g1, bse])
-- ===== what kind a thing was =====
def sAT (g : Nat → Int32) (f : Nat → Nat) : Nat → Nat → Bool
  | 0, _ => true
  | d + 1, x => if g x = iI (f x) then sAT g f d (x + 1) else false
def sWW (p : Nat → Bool) : Nat → Int32
  | 0 => iI 0
  | v + 1 => if p v = true then sWW p v ||| (iI 1 <<< (iI (v : Int) &&& 31)) else sWW p v
theorem cTells {S : St} {t : Nat} {a : Nat → Int} {j : Nat} (h : RT S t a j) (hw : WT a j) {now : Nat} (hn : now ≤ 11) {N : Nat} (hN : N ≤ 16) (hl : S.1 62 1 = iI N) {g : Nat → Int32} (hg : ∀ x, x < N → S.1 63 x = g x) {k k9 : Unit → Option Int32} :
    ∀ d n x : Nat, x + d = N → d < n → f_X2_tellsYearsOf_L2 n t (iI now) (iI x) S k k9 = if sAT g (fun x => sY a j now (5 * (x : Int)) 0) d x = true then k9 () else k () := by
  intro d
  induction d with
  | zero =>
    intro n x hx hd
    obtain ⟨n, rfl⟩ : ∃ p, n = p + 1 := ⟨n - 1, by omega⟩
    rw [f_X2_tellsYearsOf_L2, sAT]
    simp (disch := omega) only [li_0, li_1, li_2, li_3, li_4, li_5, li_6, li_7, li_8, li_9, li_10, li_11, li_12, li_16, li_19, li_20, li_28, li_48, li_57, li_59, li_60, li_96, li_97, li_99, li_100, li_102, li_103, li_104, li_112, li_115, li_116, li_118, li_119, li_121, li_124, li_132, li_255, li_256, li_1000, li_2000, li_1000000000, iI_add, iI_sub, iI_mul, iI_neg, iI_lt, iI_le, iI_eq, iI_clamp, iI_s, iI_m1, iI_div, bs, tn, tn4, tn12, tn20, tn124, tn28, itT, itF, if_pos, if_neg, hl]
  | succ d ih =>
    intro n x hx hd
    obtain ⟨n, rfl⟩ : ∃ p, n = p + 1 := ⟨n - 1, by omega⟩
    have i1 := ih n (x + 1) (by omega) (by omega)
    have e1 := cY h hw hn (m := 5 * (x : Int)) (f := 0) (by omega) (by omega)
    have ec : (x : Int) * 5 = 5 * (x : Int) := Int.mul_comm _ _
    have e2 := hg x (by omega)
    rw [f_X2_tellsYearsOf_L2, sAT]
    by_cases c : g x = iI (sY a j now (5 * (x : Int)) 0)
    · simp (disch := omega) only [li_0, li_1, li_2, li_3, li_4, li_5, li_6, li_7, li_8, li_9, li_10, li_11, li_12, li_16, li_19, li_20, li_28, li_48, li_57, li_59, li_60, li_96, li_97, li_99, li_100, li_102, li_103, li_104, li_112, li_115, li_116, li_118, li_119, li_121, li_124, li_132, li_255, li_256, li_1000, li_2000, li_1000000000, iI_add, iI_sub, iI_mul, iI_neg, iI_lt, iI_le, iI_eq, iI_clamp, iI_s, iI_m1, iI_div, bs, tn, tn4, tn12, tn20, tn124, tn28, itT, itF, if_pos, if_neg, hl, ec, e1, e2, c, i1]
    · simp (disch := omega) only [li_0, li_1, li_2, li_3, li_4, li_5, li_6, li_7, li_8, li_9, li_10, li_11, li_12, li_16, li_19, li_20, li_28, li_48, li_57, li_59, li_60, li_96, li_97, li_99, li_100, li_102, li_103, li_104, li_112, li_115, li_116, li_118, li_119, li_121, li_124, li_132, li_255, li_256, li_1000, li_2000, li_1000000000, iI_add, iI_sub, iI_mul, iI_neg, iI_lt, iI_le, iI_eq, iI_clamp, iI_s, iI_m1, iI_div, bs, tn, tn4, tn12, tn20, tn124, tn28, itT, itF, if_pos, if_neg, hl, ec, e1, e2, c, Bool.false_eq_true]
theorem cTell {S : St} {t : Nat} {a : Nat → Int} {j : Nat} (h : RT S t a j) (hw : WT a j) {now : Nat} (hn : now ≤ 11) {N : Nat} (hN : N ≤ 16) (hl : S.1 62 1 = iI N) {g : Nat → Int32} (hg : ∀ x, x < N → S.1 63 x = g x) :
    f_X2_tellsYearsOf t (iI now) S = some (iI (if sAT g (fun x => sY a j now (5 * (x : Int)) 0) N 0 = true then 1 else 0)) := by
  have i : f_X2_tellsYearsOf_L2 2000 t (iI now) (iI 0) S (fun _ => some (iI 0)) (fun _ => some (iI 1)) = _ := cTells h hw hn hN hl hg N 2000 0 (by omega) (by omega)
  rw [f_X2_tellsYearsOf]
  by_cases c : sAT g (fun x => sY a j now (5 * (x : Int)) 0) N 0 = true
  · rw [if_pos c] at i ⊢
    exact i
  · rw [if_neg c] at i ⊢
    exact i
/-- thing j with another kind (w = 0) or another figure (w = 1) -/
def wwA (a : Nat → Int) (j : Nat) (w : Nat) (v : Nat) : Nat → Int := st a (4 + 8 * w + j) (v : Int)
def wwP (a : Nat → Int) (j now : Nat) (g : Nat → Int32) (N : Nat) (w v : Nat) : Bool := sAT g (fun x => sY (wwA a j w v) j now (5 * (x : Int)) 0) N 0
theorem cWW {S : St} {a : Nat → Int} {j now N M : Nat} (hw : WFa a) (hj : j < 8) (hn : now ≤ 11) (p1 : S.1 1 1 = iI now) (hN : N ≤ 16) (hl : S.1 62 1 = iI N) {g : Nat → Int32} (hg : ∀ x, x < N → S.1 63 x = g x) {w : Nat} (hM : (w = 0 ∧ M = 5) ∨ (w = 1 ∧ M = 9)) {k : Int32 → St → Option (Int32 × St)} :
    ∀ d n v : Nat, ∀ S' : St, v + d = M + 1 → d < n → (∀ i k, i ≠ 58 → S'.1 i k = S.1 i k) → (∀ c, c < 3 → c ≠ w → S'.1 58 c = iI (a (4 + 8 * c + j))) → (∀ u, u < 12 → S'.1 59 u = iI (a (28 + 12 * j + u))) →
    ∃ S'', (∀ i k, i ≠ 58 → S''.1 i k = S.1 i k) ∧ f_X7_whatWas_L63 n (iI w) (iI M) (sWW (wwP a j now g N w) v) (iI v) S' k = k (sWW (wwP a j now g N w) (M + 1)) S'' := by
  intro d
  induction d with
  | zero =>
    intro n v S' hx hd q1 q2 q3
    obtain ⟨n, rfl⟩ : ∃ p, n = p + 1 := ⟨n - 1, by omega⟩
    obtain rfl : v = M + 1 := by omega
    refine ⟨S', q1, ?_⟩
    rw [f_X7_whatWas_L63]
    simp (disch := omega) only [li_0, li_1, li_2, li_3, li_4, li_5, li_6, li_7, li_8, li_9, li_10, li_11, li_12, li_16, li_19, li_20, li_28, li_48, li_57, li_59, li_60, li_96, li_97, li_99, li_100, li_102, li_103, li_104, li_112, li_115, li_116, li_118, li_119, li_121, li_124, li_132, li_255, li_256, li_1000, li_2000, li_1000000000, iI_add, iI_sub, iI_mul, iI_neg, iI_lt, iI_le, iI_eq, iI_clamp, iI_s, iI_m1, iI_div, bs, tn, tn4, tn12, tn20, tn124, tn28, itT, itF, if_pos, if_neg]
  | succ d ih =>
    intro n v S' hx hd q1 q2 q3
    obtain ⟨n, rfl⟩ : ∃ p, n = p + 1 := ⟨n - 1, by omega⟩
    have hw2 : WFa (wwA a j w v) := hw.stt hj (by omega)
    have ht : RT (up S' 58 w (iI v)) 58 (wwA a j w v) j := by
      refine ⟨?_, ?_, ?_, fun u hu => ?_⟩
      · by_cases e : w = 0
        · subst e
          rw [up_s]
          show _ = iI (st a (4 + 8 * 0 + j) (v : Int) (4 + j))
          rw [show 4 + 8 * 0 + j = 4 + j by omega, st_s]
        · rw [up_n (by omega)]
          show _ = iI (st a (4 + 8 * w + j) (v : Int) (4 + j))
          rw [st_n (by omega)]
          have := q2 0 (by omega) (by omega)
          rw [show 4 + 8 * 0 + j = 4 + j by omega] at this
          exact this
      · by_cases e : w = 1
        · subst e
          rw [up_s]
          show _ = iI (st a (4 + 8 * 1 + j) (v : Int) (12 + j))
          rw [show 4 + 8 * 1 + j = 12 + j by omega, st_s]
        · rw [up_n (by omega)]
          show _ = iI (st a (4 + 8 * w + j) (v : Int) (12 + j))
          rw [st_n (by omega)]
          have := q2 1 (by omega) (by omega)
          rw [show 4 + 8 * 1 + j = 12 + j by omega] at this
          exact this
      · rw [up_n (by omega)]
        show _ = iI (st a (4 + 8 * w + j) (v : Int) (20 + j))
        rw [st_n (by omega)]
        have := q2 2 (by omega) (by omega)
        rw [show 4 + 8 * 2 + j = 20 + j by omega] at this
        exact this
      · rw [up_ne (by omega)]
        show _ = iI (st a (4 + 8 * w + j) (v : Int) (28 + 12 * j + u))
        rw [st_n (by omega)]
        exact q3 u hu
    have e2 : (up S' 58 w (iI v)).1 1 1 = iI now := by rw [up_ne (by omega), q1 _ _ (by omega)]; exact p1
    have e1 := cTell ht (hw2.t hj) hn hN (by rw [up_ne (by omega), q1 _ _ (by omega)]; exact hl) (g := g) (fun x hx => by rw [up_ne (by omega), q1 _ _ (by omega)]; exact hg x hx)
    have eP : sAT g (fun x => sY (wwA a j w v) j now (5 * (x : Int)) 0) N 0 = wwP a j now g N w v := rfl
    rw [eP] at e1
    obtain ⟨S'', g1, g2⟩ := ih n (v + 1) (up S' 58 w (iI v)) (by omega) (by omega) (fun i k hi => by rw [up_ne hi]; exact q1 i k hi) (fun c hc e => by rw [up_n (Or.inr e)]; exact q2 c hc e) (fun u hu => by rw [up_ne (by omega)]; exact q3 u hu)
    refine ⟨S'', g1, ?_⟩
    rw [sWW] at g2
    rw [f_X7_whatWas_L63]
    by_cases c : wwP a j now g N w v = true
    · rw [if_pos c] at g2 e1
      rcases hM with ⟨rfl, rfl⟩ | ⟨rfl, rfl⟩
      · have e3 : ((0 : Nat) : Int) = 0 := rfl
        rw [e3] at g2 ⊢
        simp (disch := omega) only [li_0, li_1, li_2, li_3, li_4, li_5, li_6, li_7, li_8, li_9, li_10, li_11, li_12, li_16, li_19, li_20, li_28, li_48, li_57, li_59, li_60, li_96, li_97, li_99, li_100, li_102, li_103, li_104, li_112, li_115, li_116, li_118, li_119, li_121, li_124, li_132, li_255, li_256, li_1000, li_2000, li_1000000000, iI_add, iI_sub, iI_mul, iI_neg, iI_lt, iI_le, iI_eq, iI_clamp, iI_s, iI_m1, iI_div, bs, tn, tn4, tn12, tn20, tn124, tn28, itT, itF, if_pos, if_neg, e2, e1, g2]
      · have e3 : ((1 : Nat) : Int) = 1 := rfl
        rw [e3] at g2 ⊢
        simp (disch := omega) only [li_0, li_1, li_2, li_3, li_4, li_5, li_6, li_7, li_8, li_9, li_10, li_11, li_12, li_16, li_19, li_20, li_28, li_48, li_57, li_59, li_60, li_96, li_97, li_99, li_100, li_102, li_103, li_104, li_112, li_115, li_116, li_118, li_119, li_121, li_124, li_132, li_255, li_256, li_1000, li_2000, li_1000000000, iI_add, iI_sub, iI_mul, iI_neg, iI_lt, iI_le, iI_eq, iI_clamp, iI_s, iI_m1, iI_div, bs, tn, tn4, tn12, tn20, tn124, tn28, itT, itF, if_pos, if_neg, e2, e1, g2]
    · rw [if_neg c] at g2 e1
      rcases hM with ⟨rfl, rfl⟩ | ⟨rfl, rfl⟩
      · have e3 : ((0 : Nat) : Int) = 0 := rfl
        rw [e3] at g2 ⊢
        simp (disch := omega) only [li_0, li_1, li_2, li_3, li_4, li_5, li_6, li_7, li_8, li_9, li_10, li_11, li_12, li_16, li_19, li_20, li_28, li_48, li_57, li_59, li_60, li_96, li_97, li_99, li_100, li_102, li_103, li_104, li_112, li_115, li_116, li_118, li_119, li_121, li_124, li_132, li_255, li_256, li_1000, li_2000, li_1000000000, iI_add, iI_sub, iI_mul, iI_neg, iI_lt, iI_le, iI_eq, iI_clamp, iI_s, iI_m1, iI_div, bs, tn, tn4, tn12, tn20, tn124, tn28, itT, itF, if_pos, if_neg, e2, e1, g2]
      · have e3 : ((1 : Nat) : Int) = 1 := rfl
        rw [e3] at g2 ⊢
        simp (disch := omega) only [li_0, li_1, li_2, li_3, li_4, li_5, li_6, li_7, li_8, li_9, li_10, li_11, li_12, li_16, li_19, li_20, li_28, li_48, li_57, li_59, li_60, li_96, li_97, li_99, li_100, li_102, li_103, li_104, li_112, li_115, li_116, li_118, li_119, li_121, li_124, li_132, li_255, li_256, li_1000, li_2000, li_1000000000, iI_add, iI_sub, iI_mul, iI_neg, iI_lt, iI_le, iI_eq, iI_clamp, iI_s, iI_m1, iI_div, bs, tn, tn4, tn12, tn20, tn124, tn28, itT, itF, if_pos, if_neg, e2, e1, g2]
theorem rTells {S : St} {a : Nat → Int} {j : Nat} (hm : ∀ k, k < 132 → S.1 76 k = iI (a k)) (hj : j < 8) (hw : WT a j) {now : Nat} (hn : now ≤ 11) (hn1 : a 1 = now) {N : Nat} (hN : N ≤ 16) (hl : S.1 74 9 = iI N) {g : Nat → Int32} (hg : ∀ x, x < N → S.1 80 x = g x) {y2 y3 y4 : Int32} {k : Int32 → Option (Int32 × St)} :
    ∀ d n x : Nat, x + d = N → d < n → (f_X8_whatWas_L87 n (iI j) y2 y3 y4 (iI 0) (iI x) S k = k (iI 0)) ∧ (f_X8_whatWas_L87 n (iI j) y2 y3 y4 (iI 1) (iI x) S k = k (iI (if sAT g (fun x => sY a j now (5 * (x : Int)) 0) d x = true then 1 else 0))) := by
  have a00 : (iI 0 &&& iI 0 : Int32) = iI 0 := by decide
  have a01 : (iI 0 &&& iI 1 : Int32) = iI 0 := by decide
  have a10 : (iI 1 &&& iI 0 : Int32) = iI 0 := by decide
  have a11 : (iI 1 &&& iI 1 : Int32) = iI 1 := by decide
  intro d
  induction d with
  | zero =>
    intro n x hx hd
    obtain ⟨n, rfl⟩ : ∃ p, n = p + 1 := ⟨n - 1, by omega⟩
    rw [f_X8_whatWas_L87, f_X8_whatWas_L87, sAT]
    exact ⟨by simp (disch := omega) only [li_0, li_1, li_2, li_3, li_4, li_5, li_6, li_7, li_8, li_9, li_10, li_11, li_12, li_16, li_19, li_20, li_28, li_48, li_57, li_59, li_60, li_96, li_97, li_99, li_100, li_102, li_103, li_104, li_112, li_115, li_116, li_118, li_119, li_121, li_124, li_132, li_255, li_256, li_1000, li_2000, li_1000000000, iI_add, iI_sub, iI_mul, iI_neg, iI_lt, iI_le, iI_eq, iI_clamp, iI_s, iI_m1, iI_div, bs, tn, tn4, tn12, tn20, tn124, tn28, itT, itF, if_pos, if_neg, hl], by simp (disch := omega) only [li_0, li_1, li_2, li_3, li_4, li_5, li_6, li_7, li_8, li_9, li_10, li_11, li_12, li_16, li_19, li_20, li_28, li_48, li_57, li_59, li_60, li_96, li_97, li_99, li_100, li_102, li_103, li_104, li_112, li_115, li_116, li_118, li_119, li_121, li_124, li_132, li_255, li_256, li_1000, li_2000, li_1000000000, iI_add, iI_sub, iI_mul, iI_neg, iI_lt, iI_le, iI_eq, iI_clamp, iI_s, iI_m1, iI_div, bs, tn, tn4, tn12, tn20, tn124, tn28, itT, itF, if_pos, if_neg, hl]⟩
  | succ d ih =>
    intro n x hx hd
    obtain ⟨n, rfl⟩ : ∃ p, n = p + 1 := ⟨n - 1, by omega⟩
    obtain ⟨i0, i1⟩ := ih n (x + 1) (by omega) (by omega)
    have e1 := rY hm hj hw hn hn1 (m := 5 * (x : Int)) (f := 0) (by omega) (by omega)
    have e2 := hg x (by omega)
    rw [f_X8_whatWas_L87, f_X8_whatWas_L87, sAT]
    by_cases c : g x = iI (sY a j now (5 * (x : Int)) 0)
    · exact ⟨by simp (disch := omega) only [li_0, li_1, li_2, li_3, li_4, li_5, li_6, li_7, li_8, li_9, li_10, li_11, li_12, li_16, li_19, li_20, li_28, li_48, li_57, li_59, li_60, li_96, li_97, li_99, li_100, li_102, li_103, li_104, li_112, li_115, li_116, li_118, li_119, li_121, li_124, li_132, li_255, li_256, li_1000, li_2000, li_1000000000, iI_add, iI_sub, iI_mul, iI_neg, iI_lt, iI_le, iI_eq, iI_clamp, iI_s, iI_m1, iI_div, bs, tn, tn4, tn12, tn20, tn124, tn28, itT, itF, if_pos, if_neg, hl, e1, e2, c, a01, i0], by simp (disch := omega) only [li_0, li_1, li_2, li_3, li_4, li_5, li_6, li_7, li_8, li_9, li_10, li_11, li_12, li_16, li_19, li_20, li_28, li_48, li_57, li_59, li_60, li_96, li_97, li_99, li_100, li_102, li_103, li_104, li_112, li_115, li_116, li_118, li_119, li_121, li_124, li_132, li_255, li_256, li_1000, li_2000, li_1000000000, iI_add, iI_sub, iI_mul, iI_neg, iI_lt, iI_le, iI_eq, iI_clamp, iI_s, iI_m1, iI_div, bs, tn, tn4, tn12, tn20, tn124, tn28, itT, itF, if_pos, if_neg, hl, e1, e2, c, a11, i1]⟩
    · have c' : ¬ iI (sY a j now (5 * (x : Int)) 0) = g x := fun z => c z.symm
      exact ⟨by simp (disch := omega) only [li_0, li_1, li_2, li_3, li_4, li_5, li_6, li_7, li_8, li_9, li_10, li_11, li_12, li_16, li_19, li_20, li_28, li_48, li_57, li_59, li_60, li_96, li_97, li_99, li_100, li_102, li_103, li_104, li_112, li_115, li_116, li_118, li_119, li_121, li_124, li_132, li_255, li_256, li_1000, li_2000, li_1000000000, iI_add, iI_sub, iI_mul, iI_neg, iI_lt, iI_le, iI_eq, iI_clamp, iI_s, iI_m1, iI_div, bs, tn, tn4, tn12, tn20, tn124, tn28, itT, itF, if_pos, if_neg, hl, e1, e2, c', a00, i0], by simp (disch := omega) only [li_0, li_1, li_2, li_3, li_4, li_5, li_6, li_7, li_8, li_9, li_10, li_11, li_12, li_16, li_19, li_20, li_28, li_48, li_57, li_59, li_60, li_96, li_97, li_99, li_100, li_102, li_103, li_104, li_112, li_115, li_116, li_118, li_119, li_121, li_124, li_132, li_255, li_256, li_1000, li_2000, li_1000000000, iI_add, iI_sub, iI_mul, iI_neg, iI_lt, iI_le, iI_eq, iI_clamp, iI_s, iI_m1, iI_div, bs, tn, tn4, tn12, tn20, tn124, tn28, itT, itF, if_pos, if_neg, hl, e1, e2, c, c', a10, i0, Bool.false_eq_true]⟩
theorem rWW {S : St} {a : Nat → Int} {j now N M : Nat} (hm : ∀ k, k < 132 → S.1 75 k = iI (a k)) (hw : WFa a) (hj : j < 8) (hn : now ≤ 11) (hn1 : a 1 = now) (hN : N ≤ 16) (hl : S.1 74 9 = iI N) {g : Nat → Int32} (hg : ∀ x, x < N → S.1 80 x = g x) {w : Nat} (hM : (w = 0 ∧ M = 5) ∨ (w = 1 ∧ M = 9)) {k : Int32 → St → Option (Int32 × St)} :
    ∀ d n v : Nat, ∀ S' : St, v + d = M + 1 → d < n → (∀ i k, i ≠ 76 → S'.1 i k = S.1 i k) →
    ∃ S'', (∀ i k, i ≠ 76 → S''.1 i k = S.1 i k) ∧ f_X8_whatWas_L35 n (iI j) (iI w) (sWW (wwP a j now g N w) v) (iI v) S' k = k (sWW (wwP a j now g N w) (M + 1)) S'' := by
  intro d
  induction d with
  | zero =>
    intro n v S' hx hd q1
    obtain ⟨n, rfl⟩ : ∃ p, n = p + 1 := ⟨n - 1, by omega⟩
    obtain rfl : v = M + 1 := by omega
    refine ⟨S', q1, ?_⟩
    rw [f_X8_whatWas_L35]
    rcases hM with ⟨rfl, rfl⟩ | ⟨rfl, rfl⟩
    · simp (disch := omega) only [li_0, li_1, li_2, li_3, li_4, li_5, li_6, li_7, li_8, li_9, li_10, li_11, li_12, li_16, li_19, li_20, li_28, li_48, li_57, li_59, li_60, li_96, li_97, li_99, li_100, li_102, li_103, li_104, li_112, li_115, li_116, li_118, li_119, li_121, li_124, li_132, li_255, li_256, li_1000, li_2000, li_1000000000, iI_add, iI_sub, iI_mul, iI_neg, iI_lt, iI_le, iI_eq, iI_clamp, iI_s, iI_m1, iI_div, bs, tn, tn4, tn12, tn20, tn124, tn28, itT, itF, if_pos, if_neg]
    · simp (disch := omega) only [li_0, li_1, li_2, li_3, li_4, li_5, li_6, li_7, li_8, li_9, li_10, li_11, li_12, li_16, li_19, li_20, li_28, li_48, li_57, li_59, li_60, li_96, li_97, li_99, li_100, li_102, li_103, li_104, li_112, li_115, li_116, li_118, li_119, li_121, li_124, li_132, li_255, li_256, li_1000, li_2000, li_1000000000, iI_add, iI_sub, iI_mul, iI_neg, iI_lt, iI_le, iI_eq, iI_clamp, iI_s, iI_m1, iI_div, bs, tn, tn4, tn12, tn20, tn124, tn28, itT, itF, if_pos, if_neg]
  | succ d ih =>
    intro n v S' hx hd q1
    obtain ⟨n, rfl⟩ : ∃ p, n = p + 1 := ⟨n - 1, by omega⟩
    obtain ⟨S1, l1, l2, l3⟩ := rLays (q0 := 75) (q1 := 76) (by omega) S'
    have hw2 : WFa (wwA a j w v) := hw.stt hj (by omega)
    have hm2 : ∀ k, k < 132 → (up S1 76 (4 + 8 * w + j) (iI v)).1 76 k = iI (wwA a j w v k) := by
      refine RM.st (S := S1) (q := 76) (a := a) (fun k hk => ?_) _ _
      rw [l3 k hk, q1 _ _ (by omega)]; exact hm k hk
    have hw1 : wwA a j w v 1 = now := by
      show st a (4 + 8 * w + j) (v : Int) 1 = now
      rw [st_n (by omega)]; exact hn1
    have fr1 : ∀ i k, i ≠ 76 → (up S1 76 (4 + 8 * w + j) (iI v)).1 i k = S.1 i k := fun i k hi => by rw [up_ne hi, l2 _ _ hi]; exact q1 i k hi
    have e1 : ∀ y2 y3 y4 k, f_X8_whatWas_L87 2000 (iI j) y2 y3 y4 (iI 1) (iI ((0 : Nat) : Int)) (up S1 76 (4 + 8 * w + j) (iI v)) k = k (iI (if wwP a j now g N w v = true then 1 else 0)) := fun y2 y3 y4 k => (rTells hm2 hj (hw2.t hj) hn hw1 hN (by rw [fr1 _ _ (by omega)]; exact hl) (g := g) (fun x hx => by rw [fr1 _ _ (by omega)]; exact hg x hx) (y2 := y2) (y3 := y3) (y4 := y4) (k := k) N 2000 0 (by omega) (by omega)).2
    obtain ⟨S'', g1, g2⟩ := ih n (v + 1) (up S1 76 (4 + 8 * w + j) (iI v)) (by omega) (by omega) fr1
    refine ⟨S'', g1, ?_⟩
    rw [sWW] at g2
    rw [f_X8_whatWas_L35]
    rcases hM with ⟨rfl, rfl⟩ | ⟨rfl, rfl⟩
    · have e3 : ((0 : Nat) : Int) = 0 := rfl
      have e4 : 4 + 8 * 0 + j = 4 + j := by omega
      rw [e4] at e1 g2
      rw [e3] at g2 e1 ⊢
      by_cases c : wwP a j now g N 0 v = true
      · rw [if_pos c] at g2 e1
        simp (disch := omega) only [li_0, li_1, li_2, li_3, li_4, li_5, li_6, li_7, li_8, li_9, li_10, li_11, li_12, li_16, li_19, li_20, li_28, li_48, li_57, li_59, li_60, li_96, li_97, li_99, li_100, li_102, li_103, li_104, li_112, li_115, li_116, li_118, li_119, li_121, li_124, li_132, li_255, li_256, li_1000, li_2000, li_1000000000, iI_add, iI_sub, iI_mul, iI_neg, iI_lt, iI_le, iI_eq, iI_clamp, iI_s, iI_m1, iI_div, bs, tn, tn4, tn12, tn20, tn124, tn28, itT, itF, if_pos, if_neg, l1, e1, g2, iI_or0]
      · rw [if_neg c] at g2 e1
        simp (disch := omega) only [li_0, li_1, li_2, li_3, li_4, li_5, li_6, li_7, li_8, li_9, li_10, li_11, li_12, li_16, li_19, li_20, li_28, li_48, li_57, li_59, li_60, li_96, li_97, li_99, li_100, li_102, li_103, li_104, li_112, li_115, li_116, li_118, li_119, li_121, li_124, li_132, li_255, li_256, li_1000, li_2000, li_1000000000, iI_add, iI_sub, iI_mul, iI_neg, iI_lt, iI_le, iI_eq, iI_clamp, iI_s, iI_m1, iI_div, bs, tn, tn4, tn12, tn20, tn124, tn28, itT, itF, if_pos, if_neg, l1, e1, g2, iI_or0]
    · have e3 : ((1 : Nat) : Int) = 1 := rfl
      have e5 : ((0 : Nat) : Int) = 0 := rfl
      have e4 : 4 + 8 * 1 + j = 12 + j := by omega
      rw [e4] at e1 g2
      rw [e3] at g2 ⊢
      rw [e5] at e1
      by_cases c : wwP a j now g N 1 v = true
      · rw [if_pos c] at g2 e1
        simp (disch := omega) only [li_0, li_1, li_2, li_3, li_4, li_5, li_6, li_7, li_8, li_9, li_10, li_11, li_12, li_16, li_19, li_20, li_28, li_48, li_57, li_59, li_60, li_96, li_97, li_99, li_100, li_102, li_103, li_104, li_112, li_115, li_116, li_118, li_119, li_121, li_124, li_132, li_255, li_256, li_1000, li_2000, li_1000000000, iI_add, iI_sub, iI_mul, iI_neg, iI_lt, iI_le, iI_eq, iI_clamp, iI_s, iI_m1, iI_div, bs, tn, tn4, tn12, tn20, tn124, tn28, itT, itF, if_pos, if_neg, l1, e1, g2, iI_or0]
      · rw [if_neg c] at g2 e1
        simp (disch := omega) only [li_0, li_1, li_2, li_3, li_4, li_5, li_6, li_7, li_8, li_9, li_10, li_11, li_12, li_16, li_19, li_20, li_28, li_48, li_57, li_59, li_60, li_96, li_97, li_99, li_100, li_102, li_103, li_104, li_112, li_115, li_116, li_118, li_119, li_121, li_124, li_132, li_255, li_256, li_1000, li_2000, li_1000000000, iI_add, iI_sub, iI_mul, iI_neg, iI_lt, iI_le, iI_eq, iI_clamp, iI_s, iI_m1, iI_div, bs, tn, tn4, tn12, tn20, tn124, tn28, itT, itF, if_pos, if_neg, l1, e1, g2, iI_or0]
theorem e_whatWas {S : St} (hS : Inv S) (a1 : Int32) (a2 : Int32) : ∃ (z1 : Int32 × St) (z2 : Int32 × St), f_X7_whatWas a1 a2 S = some z1 ∧ f_X8_whatWas a1 a2 z1.2 = some z2 ∧ z1.1 = z2.1 ∧ Inv z2.2 := by
  obtain ⟨⟨a, hw, hc, hm0⟩, -⟩ := id hS
  have hm : ∀ k, k < 132 → S.1 75 k = iI (a k) := hm0
  have h8 := hw.1
  have w1 := hw.2.1
  have w2 := hw.2.2.1
  have w3 := hw.2.2.2.1
  obtain ⟨now, hnow⟩ : ∃ n : Nat, a 1 = n := ⟨(a 1).toNat, by omega⟩
  obtain ⟨N, hN⟩ : ∃ n : Nat, a 0 = n := ⟨(a 0).toNat, by omega⟩
  have hn : now ≤ 11 := by omega
  have hN8 : N ≤ 8 := by omega
  have p1 : S.1 1 1 = iI now := by rw [hc.1 1 (by omega), hnow]
  have p0 : S.1 1 0 = iI N := by rw [hc.1 0 (by omega), hN]
  have m0 : S.1 75 0 = iI N := by rw [hm 0 (by omega), hN]
  have m1 : S.1 75 1 = iI now := by rw [hm 1 (by omega), hnow]
  obtain ⟨x, x1, x2, rfl⟩ := iI_any a1
  obtain ⟨y, y1, y2, rfl⟩ := iI_any a2
  obtain ⟨_, _, ⟨n, t1, t2, t3, t4⟩, _⟩ := id hS
  have e1 := cLacks hc hw x1 x2
  have e3 := cTwo y1 y2
  have g3 := rIn (x := y) (l := 0) (u := 1) y1 y2 (by omega) (by omega) (by omega) (by omega)
  by_cases c : 0 ≤ x ∧ x < a 0
  · obtain ⟨j, rfl⟩ : ∃ n : Nat, x = n := ⟨x.toNat, by omega⟩
    have ht := hc.t (j := j) (by omega) (by omega)
    have hwt := hw.t (j := j) (by omega)
    have e2 := cAt (S := S) (q := 1) (j := j) (by omega)
    by_cases c1 : 0 ≤ y ∧ y ≤ 1
    · obtain ⟨w, rfl⟩ : ∃ n : Nat, y = n := ⟨y.toNat, by omega⟩
      obtain ⟨M, hM⟩ : ∃ M : Nat, (w = 0 ∧ M = 5) ∨ (w = 1 ∧ M = 9) := ⟨if w = 0 then 5 else 9, by split <;> omega⟩
      obtain ⟨S1, c4, c5, c6, c7⟩ := cCopyT (q0 := 58) (q1 := 1 + 1 + 2 + 2 * j) (by omega) (by omega) (by omega) S
      obtain ⟨S2, d1, d2⟩ := cWW (S := S1) (a := a) (j := j) (now := now) (N := n) (M := M) hw (by omega) hn (by rw [c5 _ _ (by omega) (by omega)]; exact p1) t1 (by rw [c5 _ _ (by omega) (by omega)]; exact t2) (g := S.1 63) (fun x hx => by rw [c5 _ _ (by omega) (by omega)]) (w := w) hM (k := fun y16 S17 => some (y16, S17)) (M + 1) 2000 0 S1 (by omega) (by omega) (fun _ _ _ => rfl) (fun c hc _ => by
          rw [c6 c hc]
          obtain rfl | rfl | rfl : c = 0 ∨ c = 1 ∨ c = 2 := by omega
          · rw [show 4 + 8 * 0 + j = 4 + j by omega]; exact ht.1
          · rw [show 4 + 8 * 1 + j = 12 + j by omega]; exact ht.2.1
          · rw [show 4 + 8 * 2 + j = 20 + j by omega]; exact ht.2.2.1) (fun u hu => by rw [c7 u hu]; exact ht.2.2.2 u hu)
      have fr2 : ∀ i k, i ≠ 58 → i ≠ 59 → S2.1 i k = S.1 i k := fun i k h1 h2 => by rw [d1 _ _ h1, c5 _ _ h1 h2]
      have hm2 : ∀ k, k < 132 → S2.1 75 k = iI (a k) := fun k hk => by rw [fr2 _ _ (by omega) (by omega)]; exact hm k hk
      have g1 : f_X8_isThing (iI j) S2 = some (iI 1) := by rw [rThing (S := S2) (by rw [hm2 0 (by omega), hN]) hN8 x1 x2, if_pos (by omega)]
      obtain ⟨S3, f1, f2⟩ := rWW (S := S2) (a := a) (j := j) (now := now) (N := n) (M := M) hm2 hw (by omega) hn hnow t1 (by rw [fr2 _ _ (by omega) (by omega)]; exact t3) (g := S.1 63) (fun x hx => by rw [fr2 _ _ (by omega) (by omega)]; exact t4 x hx) (w := w) hM (k := fun y28 S29 => some (y28, S29)) (M + 1) 2000 0 S2 (by omega) (by omega) (fun _ _ _ => rfl)
      have i9 : Inv S3 := hS.sm (fun i k hs => by
        unfold scr at hs
        rw [f1 _ _ (by omega), fr2 _ _ (by omega) (by omega)])
      have d3 : f_X7_whatWas_L63 2000 (iI w) (iI M) (iI 0) (iI 0) S1 (fun y16 S17 => some (y16, S17)) = some (sWW (wwP a j now (S.1 63) n w) (M + 1), S2) := d2
      have f3 : f_X8_whatWas_L35 2000 (iI j) (iI w) (iI 0) (iI 0) S2 (fun y28 S29 => some (y28, S29)) = some (sWW (wwP a j now (S.1 63) n w) (M + 1), S3) := f2
      refine e_mk (v := sWW (wwP a j now (S.1 63) n w) (M + 1)) (S1 := S2) (S2 := S3) ?_ (by simp (disch := omega) only [li_0, li_1, li_2, li_3, li_4, li_5, li_6, li_7, li_8, li_9, li_10, li_11, li_12, li_16, li_19, li_20, li_28, li_48, li_57, li_59, li_60, li_96, li_97, li_99, li_100, li_102, li_103, li_104, li_112, li_115, li_116, li_118, li_119, li_121, li_124, li_132, li_255, li_256, li_1000, li_2000, li_1000000000, iI_add, iI_sub, iI_mul, iI_neg, iI_lt, iI_le, iI_eq, iI_clamp, iI_s, iI_m1, iI_div, bs, tn, tn4, tn12, tn20, tn124, tn28, itT, itF, if_pos, if_neg, f_X8_whatWas, g1, g3, f3]) i9
      rcases hM with ⟨rfl, rfl⟩ | ⟨rfl, rfl⟩
      · rw [show ((5 : Nat) : Int) = 5 from rfl] at d3
        simp (disch := omega) only [li_0, li_1, li_2, li_3, li_4, li_5, li_6, li_7, li_8, li_9, li_10, li_11, li_12, li_16, li_19, li_20, li_28, li_48, li_57, li_59, li_60, li_96, li_97, li_99, li_100, li_102, li_103, li_104, li_112, li_115, li_116, li_118, li_119, li_121, li_124, li_132, li_255, li_256, li_1000, li_2000, li_1000000000, iI_add, iI_sub, iI_mul, iI_neg, iI_lt, iI_le, iI_eq, iI_clamp, iI_s, iI_m1, iI_div, bs, tn, tn4, tn12, tn20, tn124, tn28, itT, itF, if_pos, if_neg, f_X7_whatWas, e1, e2, e3, c4, d3]
      · rw [show ((9 : Nat) : Int) = 9 from rfl] at d3
        simp (disch := omega) only [li_0, li_1, li_2, li_3, li_4, li_5, li_6, li_7, li_8, li_9, li_10, li_11, li_12, li_16, li_19, li_20, li_28, li_48, li_57, li_59, li_60, li_96, li_97, li_99, li_100, li_102, li_103, li_104, li_112, li_115, li_116, li_118, li_119, li_121, li_124, li_132, li_255, li_256, li_1000, li_2000, li_1000000000, iI_add, iI_sub, iI_mul, iI_neg, iI_lt, iI_le, iI_eq, iI_clamp, iI_s, iI_m1, iI_div, bs, tn, tn4, tn12, tn20, tn124, tn28, itT, itF, if_pos, if_neg, f_X7_whatWas, e1, e2, e3, c4, d3]
    · exact e_no hS (-2) 2 (by omega) (by omega) (by simp (disch := omega) only [li_0, li_1, li_2, li_3, li_4, li_5, li_6, li_7, li_8, li_9, li_10, li_11, li_12, li_16, li_19, li_20, li_28, li_48, li_57, li_59, li_60, li_96, li_97, li_99, li_100, li_102, li_103, li_104, li_112, li_115, li_116, li_118, li_119, li_121, li_124, li_132, li_255, li_256, li_1000, li_2000, li_1000000000, iI_add, iI_sub, iI_mul, iI_neg, iI_lt, iI_le, iI_eq, iI_clamp, iI_s, iI_m1, iI_div, bs, tn, tn4, tn12, tn20, tn124, tn28, itT, itF, if_pos, if_neg, f_X7_whatWas, e1, e3, bse]) (fun S1 q1 q2 => by
        have g1 := rThing (S := S1) (by rw [q1]; exact m0) hN8 x1 x2
        simp (disch := omega) only [li_0, li_1, li_2, li_3, li_4, li_5, li_6, li_7, li_8, li_9, li_10, li_11, li_12, li_16, li_19, li_20, li_28, li_48, li_57, li_59, li_60, li_96, li_97, li_99, li_100, li_102, li_103, li_104, li_112, li_115, li_116, li_118, li_119, li_121, li_124, li_132, li_255, li_256, li_1000, li_2000, li_1000000000, iI_add, iI_sub, iI_mul, iI_neg, iI_lt, iI_le, iI_eq, iI_clamp, iI_s, iI_m1, iI_div, bs, tn, tn4, tn12, tn20, tn124, tn28, itT, itF, if_pos, if_neg, f_X8_whatWas, g1, g3, bse])
  · exact e_no hS (-1) 1 (by omega) (by omega) (by simp (disch := omega) only [li_0, li_1, li_2, li_3, li_4, li_5, li_6, li_7, li_8, li_9, li_10, li_11, li_12, li_16, li_19, li_20, li_28, li_48, li_57, li_59, li_60, li_96, li_97, li_99, li_100, li_102, li_103, li_104, li_112, li_115, li_116, li_118, li_119, li_121, li_124, li_132, li_255, li_256, li_1000, li_2000, li_1000000000, iI_add, iI_sub, iI_mul, iI_neg, iI_lt, iI_le, iI_eq, iI_clamp, iI_s, iI_m1, iI_div, bs, tn, tn4, tn12, tn20, tn124, tn28, itT, itF, if_pos, if_neg, f_X7_whatWas, e1, bse]) (fun S1 q1 q2 => by
      have g1 := rThing (S := S1) (by rw [q1]; exact m0) hN8 x1 x2
      simp (disch := omega) only [li_0, li_1, li_2, li_3, li_4, li_5, li_6, li_7, li_8, li_9, li_10, li_11, li_12, li_16, li_19, li_20, li_28, li_48, li_57, li_59, li_60, li_96, li_97, li_99, li_100, li_102, li_103, li_104, li_112, li_115, li_116, li_118, li_119, li_121, li_124, li_132, li_255, li_256, li_1000, li_2000, li_1000000000, iI_add, iI_sub, iI_mul, iI_neg, iI_lt, iI_le, iI_eq, iI_clamp, iI_s, iI_m1, iI_div, bs, tn, tn4, tn12, tn20, tn124, tn28, itT, itF, if_pos, if_neg, f_X8_whatWas, g1, bse])
end
section
-- ===== lots =====
def nx (s : Int32) : Int32 := s * 1664525 + 1013904223
def dz (s : Int32) (m : Int) : Int := ((s.toBitVec.toNat % 2147483648 : Nat) : Int) / 256 - ((s.toBitVec.toNat % 2147483648 : Nat) : Int) / 256 / m * m
theorem and31 (x : Int32) : x &&& 2147483647 = iI ((x.toBitVec.toNat % 2147483648 : Nat) : Int) := by
  rw [pk_and x 31 (by decide +kernel), iI_nI]
theorem cDraw {S : St} {m : Int} (hm : m = 60 ∨ m = 4) : f_X7_draw (iI m) S = some (iI (dz (nx (S.1 0 12)) m), up S 0 12 (nx (S.1 0 12))) := by
  have b : (nx (S.1 0 12)).toBitVec.toNat % 2147483648 < 2147483648 := Nat.mod_lt _ (by omega)
  have e : S.1 0 12 * 1664525 + 1013904223 = nx (S.1 0 12) := rfl
  have ha := and31 (nx (S.1 0 12))
  rcases hm with rfl | rfl
  · simp (disch := omega) only [li_0, li_1, li_2, li_3, li_4, li_5, li_6, li_7, li_8, li_9, li_10, li_11, li_12, li_16, li_19, li_20, li_28, li_48, li_57, li_59, li_60, li_96, li_97, li_99, li_100, li_102, li_103, li_104, li_112, li_115, li_116, li_118, li_119, li_121, li_124, li_132, li_255, li_256, li_1000, li_2000, li_1000000000, iI_add, iI_sub, iI_mul, iI_neg, iI_lt, iI_le, iI_eq, iI_clamp, iI_s, iI_m1, iI_div, bs, tn, tn4, tn12, tn20, tn124, tn28, itT, itF, if_pos, if_neg, up_s, up_n, f_X7_draw, e, ha, dz]
  · simp (disch := omega) only [li_0, li_1, li_2, li_3, li_4, li_5, li_6, li_7, li_8, li_9, li_10, li_11, li_12, li_16, li_19, li_20, li_28, li_48, li_57, li_59, li_60, li_96, li_97, li_99, li_100, li_102, li_103, li_104, li_112, li_115, li_116, li_118, li_119, li_121, li_124, li_132, li_255, li_256, li_1000, li_2000, li_1000000000, iI_add, iI_sub, iI_mul, iI_neg, iI_lt, iI_le, iI_eq, iI_clamp, iI_s, iI_m1, iI_div, bs, tn, tn4, tn12, tn20, tn124, tn28, itT, itF, if_pos, if_neg, up_s, up_n, f_X7_draw, e, ha, dz]
theorem rDraw {S : St} {m : Int} (hm : m = 60 ∨ m = 4) : f_X8_drawn (iI m) S = some (iI (dz (nx (S.1 74 15)) m), up S 74 15 (nx (S.1 74 15))) := by
  have b : (nx (S.1 74 15)).toBitVec.toNat % 2147483648 < 2147483648 := Nat.mod_lt _ (by omega)
  have e : S.1 74 15 * 1664525 + 1013904223 = nx (S.1 74 15) := rfl
  have ha := and31 (nx (S.1 74 15))
  rcases hm with rfl | rfl
  · simp (disch := omega) only [li_0, li_1, li_2, li_3, li_4, li_5, li_6, li_7, li_8, li_9, li_10, li_11, li_12, li_16, li_19, li_20, li_28, li_48, li_57, li_59, li_60, li_96, li_97, li_99, li_100, li_102, li_103, li_104, li_112, li_115, li_116, li_118, li_119, li_121, li_124, li_132, li_255, li_256, li_1000, li_2000, li_1000000000, iI_add, iI_sub, iI_mul, iI_neg, iI_lt, iI_le, iI_eq, iI_clamp, iI_s, iI_m1, iI_div, bs, tn, tn4, tn12, tn20, tn124, tn28, itT, itF, if_pos, if_neg, up_s, up_n, f_X8_drawn, e, ha, dz]
  · simp (disch := omega) only [li_0, li_1, li_2, li_3, li_4, li_5, li_6, li_7, li_8, li_9, li_10, li_11, li_12, li_16, li_19, li_20, li_28, li_48, li_57, li_59, li_60, li_96, li_97, li_99, li_100, li_102, li_103, li_104, li_112, li_115, li_116, li_118, li_119, li_121, li_124, li_132, li_255, li_256, li_1000, li_2000, li_1000000000, iI_add, iI_sub, iI_mul, iI_neg, iI_lt, iI_le, iI_eq, iI_clamp, iI_s, iI_m1, iI_div, bs, tn, tn4, tn12, tn20, tn124, tn28, itT, itF, if_pos, if_neg, up_s, up_n, f_X8_drawn, e, ha, dz]
theorem dz_b (s : Int32) {m : Int} (hm : m = 60 ∨ m = 4) : 0 ≤ dz s m ∧ dz s m < m := by
  unfold dz
  rcases hm with rfl | rfl <;> omega
end
section
-- ===== lots: the walk =====
def lY (b : Nat → Int) (now x : Nat) (s : Int32) : Int := (sY b x now (dz (nx s) 60) (dz (nx (nx s)) 4) : Int)
def sLot (a : Nat → Int) (s : Int32) (now : Nat) : Nat → (Nat → Int) × Int32
  | 0 => (a, s)
  | x + 1 => if (sLot a s now x).1 (20 + x) < 0 then (st (sLot a s now x).1 (20 + x) (lY (sLot a s now x).1 now x (sLot a s now x).2), nx (nx (sLot a s now x).2)) else sLot a s now x
theorem sLot_wf {a : Nat → Int} (hw : WFa a) (s : Int32) {now : Nat} (hn : now ≤ 11) : ∀ x, x ≤ 8 → WFa (sLot a s now x).1 ∧ (sLot a s now x).1 0 = a 0 ∧ (sLot a s now x).1 1 = a 1 := by
  intro x
  induction x with
  | zero => intro _; exact ⟨hw, rfl, rfl⟩
  | succ x ih =>
    intro h
    obtain ⟨h1, h2, h3⟩ := ih (by omega)
    rw [sLot]
    by_cases c : (sLot a s now x).1 (20 + x) < 0
    · rw [if_pos c]
      have yb := sY_le (sLot a s now x).1 x now (dz (nx (sLot a s now x).2) 60) (dz (nx (nx (sLot a s now x).2)) 4)
      exact ⟨h1.sts (by omega) (by unfold lY; omega), (st_n (by omega)).trans h2, (st_n (by omega)).trans h3⟩
    · rw [if_neg c]; exact ⟨h1, h2, h3⟩
theorem RC.frt {S S' : St} {q : Nat} {a : Nat → Int} (h : RC S q a) (hs : ∀ i k, q ≤ i → i ≤ q + 18 → S'.1 i k = S.1 i k) : RC S' q a := by
  refine ⟨fun k hk => ?_, fun j hj => ?_, fun j hj hl => ⟨?_, ?_, ?_, fun y hy => ?_⟩⟩
  · rw [hs _ _ (by omega) (by omega)]; exact h.1 k hk
  · rw [hs _ _ (by omega) (by omega)]; exact h.2.1 j hj
  · rw [hs _ _ (by omega) (by omega)]; exact (h.2.2 j hj hl).1
  · rw [hs _ _ (by omega) (by omega)]; exact (h.2.2 j hj hl).2.1
  · rw [hs _ _ (by omega) (by omega)]; exact (h.2.2 j hj hl).2.2.1
  · rw [hs _ _ (by omega) (by omega)]; exact (h.2.2 j hj hl).2.2.2 y hy
def cFr (S S' : St) : Prop := ∀ i k, ¬ ((39 ≤ i ∧ i ≤ 57) ∨ (i = 0 ∧ k = 12)) → S'.1 i k = S.1 i k
def rFr (S S' : St) : Prop := ∀ i k, ¬ (i = 76 ∨ (i = 74 ∧ k = 15)) → S'.1 i k = S.1 i k
end
section
-- ===== lots 56b =====
theorem cLotL {S : St} {a : Nat → Int} {now N : Nat} (hw : WFa a) (hN : a 0 = N) (hn : now ≤ 11) (hn1 : a 1 = now) (s : Int32) {k : St → Option St} :
    ∀ d n x : Nat, ∀ S' : St, x + d = N → d < n → cFr S S' → RC S' 39 (sLot a s now x).1 → S'.1 0 12 = (sLot a s now x).2 → ∃ S'', cFr S S'' ∧ RC S'' 39 (sLot a s now N).1 ∧ S''.1 0 12 = (sLot a s now N).2 ∧ f_X7_glueByLot_L13 n (iI x) S' k = k S'' := by
  have h8 := hw.1
  intro d
  induction d with
  | zero =>
    intro n x S' hx hd q1 q2 q3
    obtain ⟨n, rfl⟩ : ∃ p, n = p + 1 := ⟨n - 1, by omega⟩
    obtain rfl : x = N := by omega
    obtain ⟨w1, w2, w3⟩ := sLot_wf hw s hn x (by omega)
    have e0 : S'.1 39 0 = iI x := by rw [q2.1 0 (by omega), w2, hN]
    refine ⟨S', q1, q2, q3, ?_⟩
    rw [f_X7_glueByLot_L13]
    simp (disch := omega) only [li_0, li_1, li_2, li_3, li_4, li_5, li_6, li_7, li_8, li_9, li_10, li_11, li_12, li_16, li_19, li_20, li_28, li_48, li_57, li_59, li_60, li_96, li_97, li_99, li_100, li_102, li_103, li_104, li_112, li_115, li_116, li_118, li_119, li_121, li_124, li_132, li_255, li_256, li_1000, li_2000, li_1000000000, iI_add, iI_sub, iI_mul, iI_neg, iI_lt, iI_le, iI_eq, iI_clamp, iI_s, iI_m1, iI_div, bs, tn, tn4, tn12, tn20, tn124, tn28, itT, itF, if_pos, if_neg, e0]
  | succ d ih =>
    intro n x S' hx hd q1 q2 q3
    obtain ⟨n, rfl⟩ : ∃ p, n = p + 1 := ⟨n - 1, by omega⟩
    obtain ⟨w1, w2, w3⟩ := sLot_wf hw s hn x (by omega)
    have e0 : S'.1 39 0 = iI N := by rw [q2.1 0 (by omega), w2, hN]
    have en : S'.1 39 1 = iI now := by rw [q2.1 1 (by omega), w3, hn1]
    have ht := q2.t (j := x) (by omega) (by omega)
    have hwt := w1.t (j := x) (by omega)
    have e1 := cAt (S := S') (q := 39) (j := x) (by omega)
    have e2 := cSet ht hwt
    by_cases c : (sLot a s now x).1 (20 + x) < 0
    · obtain ⟨s1, hs1⟩ : ∃ s1, s1 = nx (sLot a s now x).2 := ⟨_, rfl⟩
      obtain ⟨s2, hs2⟩ : ∃ s2, s2 = nx s1 := ⟨_, rfl⟩
      obtain ⟨L, hL⟩ : ∃ L, L = (sLot a s now x).1 := ⟨_, rfl⟩
      have eS : sLot a s now (x + 1) = (st L (20 + x) (sY L x now (dz s1 60) (dz s2 4) : Int), s2) := by
        rw [hs2, hs1, hL]
        exact if_pos c
      have b1 := dz_b s1 (m := 60) (Or.inl rfl)
      have b2 := dz_b s2 (m := 4) (Or.inr rfl)
      have e3 : f_X7_draw (iI 60) S' = some (iI (dz s1 60), up S' 0 12 s1) := by
        rw [hs1, ← q3]
        exact cDraw (Or.inl rfl)
      have e4 : f_X7_draw (iI 4) (up S' 0 12 s1) = some (iI (dz s2 4), up (up S' 0 12 s1) 0 12 s2) := by
        have h := cDraw (S := up S' 0 12 s1) (m := 4) (Or.inr rfl)
        have h2 : (up S' 0 12 s1).1 0 12 = s1 := up_s
        rw [h2, ← hs2] at h
        exact h
      rw [← hL] at q2 w1 w2 w3 ht hwt c e2
      obtain ⟨S4, hS4⟩ : ∃ S4, S4 = up (up S' 0 12 s1) 0 12 s2 := ⟨_, rfl⟩
      rw [← hS4] at e4
      have hc4 : RC S4 39 L := by rw [hS4]; exact (q2.ne (by omega)).ne (by omega)
      have en4 : S4.1 39 1 = iI now := by rw [hc4.1 1 (by omega), w3, hn1]
      have e5 : f_X6_yearBy (39 + 1 + 2 + 2 * x) (iI (dz s1 60)) (iI (dz s2 4)) (iI now) S4 = some (iI (sY L x now (dz s1 60) (dz s2 4))) := cY (hc4.t (j := x) (by omega) (by omega)) hwt hn (by omega) (by omega)
      have f4 : cFr S (up S4 (39 + 1 + 2 + 2 * x) 2 (iI (sY L x now (dz s1 60) (dz s2 4)))) := fun i k hi => by
        rw [up_ne (show i ≠ 39 + 1 + 2 + 2 * x by omega), hS4, up_n (show i ≠ 0 ∨ k ≠ 12 by omega), up_n (show i ≠ 0 ∨ k ≠ 12 by omega)]
        exact q1 i k hi
      have f5 : RC (up S4 (39 + 1 + 2 + 2 * x) 2 (iI (sY L x now (dz s1 60) (dz s2 4)))) 39 (sLot a s now (x + 1)).1 := by
        rw [eS]
        exact hc4.sts (by omega) _
      have f6 : (up S4 (39 + 1 + 2 + 2 * x) 2 (iI (sY L x now (dz s1 60) (dz s2 4)))).1 0 12 = (sLot a s now (x + 1)).2 := by
        rw [eS, up_ne (show 0 ≠ 39 + 1 + 2 + 2 * x by omega), hS4]
        exact up_s
      obtain ⟨S'', g1, g2, g3, g4⟩ := ih n (x + 1) _ (by omega) (by omega) f4 f5 f6
      refine ⟨S'', g1, g2, g3, ?_⟩
      rw [f_X7_glueByLot_L13]
      simp (disch := omega) only [li_0, li_1, li_2, li_3, li_4, li_5, li_6, li_7, li_8, li_9, li_10, li_11, li_12, li_16, li_19, li_20, li_28, li_48, li_57, li_59, li_60, li_96, li_97, li_99, li_100, li_102, li_103, li_104, li_112, li_115, li_116, li_118, li_119, li_121, li_124, li_132, li_255, li_256, li_1000, li_2000, li_1000000000, iI_add, iI_sub, iI_mul, iI_neg, iI_lt, iI_le, iI_eq, iI_clamp, iI_s, iI_m1, iI_div, bs, tn, tn4, tn12, tn20, tn124, tn28, itT, itF, if_pos, if_neg, e0, e1, e2, e3, e4, en4, e5, g4]
    · have eS : sLot a s now (x + 1) = sLot a s now x := if_neg c
      obtain ⟨S'', g1, g2, g3, g4⟩ := ih n (x + 1) S' (by omega) (by omega) q1 (by rw [eS]; exact q2) (by rw [eS]; exact q3)
      refine ⟨S'', g1, g2, g3, ?_⟩
      rw [f_X7_glueByLot_L13]
      simp (disch := omega) only [li_0, li_1, li_2, li_3, li_4, li_5, li_6, li_7, li_8, li_9, li_10, li_11, li_12, li_16, li_19, li_20, li_28, li_48, li_57, li_59, li_60, li_96, li_97, li_99, li_100, li_102, li_103, li_104, li_112, li_115, li_116, li_118, li_119, li_121, li_124, li_132, li_255, li_256, li_1000, li_2000, li_1000000000, iI_add, iI_sub, iI_mul, iI_neg, iI_lt, iI_le, iI_eq, iI_clamp, iI_s, iI_m1, iI_div, bs, tn, tn4, tn12, tn20, tn124, tn28, itT, itF, if_pos, if_neg, e0, e1, e2, g4]
end
section
-- ===== lots 56c =====
theorem rLotL {S : St} {a : Nat → Int} {now N : Nat} (hw : WFa a) (hN : a 0 = N) (hn : now ≤ 11) (hn1 : a 1 = now) (s : Int32) {y1 y3 y4 y5 : Int32} {k : St → Option (Int32 × St)} :
    ∀ d n x : Nat, ∀ S' : St, x + d = N → d < n → rFr S S' → RM S' 76 (sLot a s now x).1 → S'.1 74 15 = (sLot a s now x).2 → ∃ S'', rFr S S'' ∧ RM S'' 76 (sLot a s now N).1 ∧ S''.1 74 15 = (sLot a s now N).2 ∧ f_X8_lots_L72 n y1 y3 y4 y5 (iI x) S' k = k S'' := by
  have h8 := hw.1
  intro d
  induction d with
  | zero =>
    intro n x S' hx hd q1 q2 q3
    obtain ⟨n, rfl⟩ : ∃ p, n = p + 1 := ⟨n - 1, by omega⟩
    obtain rfl : x = N := by omega
    obtain ⟨w1, w2, w3⟩ := sLot_wf hw s hn x (by omega)
    have e0 : S'.1 76 0 = iI x := by rw [q2 0 (by omega), w2, hN]
    refine ⟨S', q1, q2, q3, ?_⟩
    rw [f_X8_lots_L72]
    simp (disch := omega) only [li_0, li_1, li_2, li_3, li_4, li_5, li_6, li_7, li_8, li_9, li_10, li_11, li_12, li_16, li_19, li_20, li_28, li_48, li_57, li_59, li_60, li_96, li_97, li_99, li_100, li_102, li_103, li_104, li_112, li_115, li_116, li_118, li_119, li_121, li_124, li_132, li_255, li_256, li_1000, li_2000, li_1000000000, iI_add, iI_sub, iI_mul, iI_neg, iI_lt, iI_le, iI_eq, iI_clamp, iI_s, iI_m1, iI_div, bs, tn, tn4, tn12, tn20, tn124, tn28, itT, itF, if_pos, if_neg, e0]
  | succ d ih =>
    intro n x S' hx hd q1 q2 q3
    obtain ⟨n, rfl⟩ : ∃ p, n = p + 1 := ⟨n - 1, by omega⟩
    obtain ⟨w1, w2, w3⟩ := sLot_wf hw s hn x (by omega)
    have e0 : S'.1 76 0 = iI N := by rw [q2 0 (by omega), w2, hN]
    have hwt := w1.t (j := x) (by omega)
    have k1 := hwt.2.2.1
    have e2 := q2 (20 + x) (by omega)
    by_cases c : (sLot a s now x).1 (20 + x) < 0
    · obtain ⟨s1, hs1⟩ : ∃ s1, s1 = nx (sLot a s now x).2 := ⟨_, rfl⟩
      obtain ⟨s2, hs2⟩ : ∃ s2, s2 = nx s1 := ⟨_, rfl⟩
      obtain ⟨L, hL⟩ : ∃ L, L = (sLot a s now x).1 := ⟨_, rfl⟩
      have eS : sLot a s now (x + 1) = (st L (20 + x) (sY L x now (dz s1 60) (dz s2 4) : Int), s2) := by
        rw [hs2, hs1, hL]
        exact if_pos c
      have b1 := dz_b s1 (m := 60) (Or.inl rfl)
      have b2 := dz_b s2 (m := 4) (Or.inr rfl)
      have e3 : f_X8_drawn (iI 60) S' = some (iI (dz s1 60), up S' 74 15 s1) := by
        rw [hs1, ← q3]
        exact rDraw (Or.inl rfl)
      have e4 : f_X8_drawn (iI 4) (up S' 74 15 s1) = some (iI (dz s2 4), up (up S' 74 15 s1) 74 15 s2) := by
        have h := rDraw (S := up S' 74 15 s1) (m := 4) (Or.inr rfl)
        have h2 : (up S' 74 15 s1).1 74 15 = s1 := up_s
        rw [h2, ← hs2] at h
        exact h
      rw [← hL] at q2 w1 w2 w3 hwt c e2 k1
      obtain ⟨S4, hS4⟩ : ∃ S4, S4 = up (up S' 74 15 s1) 74 15 s2 := ⟨_, rfl⟩
      rw [← hS4] at e4
      have hm4 : RM S4 76 L := by rw [hS4]; exact (q2.ne (by omega)).ne (by omega)
      have e5 : f_X8_yearOf 76 (iI x) (iI (dz s1 60)) (iI (dz s2 4)) S4 = some (iI (sY L x now (dz s1 60) (dz s2 4))) := rY hm4 (by omega) hwt hn (by rw [w3]; exact hn1) (by omega) (by omega)
      have f4 : rFr S (up S4 76 (20 + x) (iI (sY L x now (dz s1 60) (dz s2 4)))) := fun i k hi => by
        rw [up_ne (show i ≠ 76 by omega), hS4, up_n (show i ≠ 74 ∨ k ≠ 15 by omega), up_n (show i ≠ 74 ∨ k ≠ 15 by omega)]
        exact q1 i k hi
      have f5 : RM (up S4 76 (20 + x) (iI (sY L x now (dz s1 60) (dz s2 4)))) 76 (sLot a s now (x + 1)).1 := by
        rw [eS]
        exact hm4.st _ _
      have f6 : (up S4 76 (20 + x) (iI (sY L x now (dz s1 60) (dz s2 4)))).1 74 15 = (sLot a s now (x + 1)).2 := by
        rw [eS, up_ne (show 74 ≠ 76 by omega), hS4]
        exact up_s
      obtain ⟨S'', g1, g2, g3, g4⟩ := ih n (x + 1) _ (by omega) (by omega) f4 f5 f6
      refine ⟨S'', g1, g2, g3, ?_⟩
      have j1 : (20 + iI (x : Int) : Int32) = iI ((20 + x : Nat) : Int) := by rw [li_20, iI_add]; rfl
      have j2 : (iI ((20 + x : Nat) : Int)).toNatClampNeg = 20 + x := by rw [iI_clamp (by omega) (by omega)]; rfl
      have j3 : ¬ (iI ((20 + x : Nat) : Int) < 0 ∨ 132 ≤ 20 + x) := by rw [li_0, iI_lt (by omega) (by omega) (by omega) (by omega)]; omega
      have j4 : (iI (x : Int) + 1 : Int32) = iI ((x + 1 : Nat) : Int) := by rw [li_1, iI_add]; rfl
      rw [f_X8_lots_L72, e0, if_neg (by rw [iI_le (by omega) (by omega) (by omega) (by omega)]; omega), j1, j2, if_neg j3, e2, if_pos (by rw [li_0, iI_lt (by omega) (by omega) (by omega) (by omega)]; exact c), li_60, e3, bs, li_4, e4, bs, e5, bs, if_neg j3, j4]
      exact g4
    · have eS : sLot a s now (x + 1) = sLot a s now x := if_neg c
      obtain ⟨S'', g1, g2, g3, g4⟩ := ih n (x + 1) S' (by omega) (by omega) q1 (by rw [eS]; exact q2) (by rw [eS]; exact q3)
      refine ⟨S'', g1, g2, g3, ?_⟩
      rw [f_X8_lots_L72]
      simp (disch := omega) only [li_0, li_1, li_2, li_3, li_4, li_5, li_6, li_7, li_8, li_9, li_10, li_11, li_12, li_16, li_19, li_20, li_28, li_48, li_57, li_59, li_60, li_96, li_97, li_99, li_100, li_102, li_103, li_104, li_112, li_115, li_116, li_118, li_119, li_121, li_124, li_132, li_255, li_256, li_1000, li_2000, li_1000000000, iI_add, iI_sub, iI_mul, iI_neg, iI_lt, iI_le, iI_eq, iI_clamp, iI_s, iI_m1, iI_div, bs, tn, tn4, tn12, tn20, tn124, tn28, itT, itF, if_pos, if_neg, e0, e2, g4]
end
section
-- ===== lots 56d =====
def lV (b : Nat → Int) (N now : Nat) (z : Int) : Int := if z = 0 then sAll b N now else out2 (fAgr b) N N
def sLots (a : Nat → Int) (s : Int32) (N now : Nat) (z : Int) : Nat → Int × Int32
  | 0 => (0, s)
  | x + 1 => ((sLots a s N now z x).1 + lV (sLot a (sLots a s N now z x).2 now N).1 N now z, (sLot a (sLots a s N now z x).2 now N).2)
theorem cLotsL {S : St} {a : Nat → Int} {now N : Nat} (hc : RC S 1 a) (hw : WFa a) (hN : a 0 = N) (hn : now ≤ 11) (hn1 : a 1 = now) (s : Int32) {M : Nat} (hM : M ≤ 20) {z : Int} (hz : z = 0 ∨ z = 1) {k : Int32 → St → Option (Int32 × St)} :
    ∀ d n x : Nat, ∀ S' : St, x + d = M → d < n → cFr S S' → S'.1 0 12 = (sLots a s N now z x).2 → ∃ S'', cFr S S'' ∧ f_X7_lots_L46 n (iI M) (iI z) (iI (sLots a s N now z x).1) (iI x) S' k = k (iI (sLots a s N now z M).1) S'' := by
  have h8 := hw.1
  intro d
  induction d with
  | zero =>
    intro n x S' hx hd q1 q3
    obtain ⟨n, rfl⟩ : ∃ p, n = p + 1 := ⟨n - 1, by omega⟩
    obtain rfl : x = M := by omega
    refine ⟨S', q1, ?_⟩
    rw [f_X7_lots_L46]
    simp (disch := omega) only [li_0, li_1, li_2, li_3, li_4, li_5, li_6, li_7, li_8, li_9, li_10, li_11, li_12, li_16, li_19, li_20, li_28, li_48, li_57, li_59, li_60, li_96, li_97, li_99, li_100, li_102, li_103, li_104, li_112, li_115, li_116, li_118, li_119, li_121, li_124, li_132, li_255, li_256, li_1000, li_2000, li_1000000000, iI_add, iI_sub, iI_mul, iI_neg, iI_lt, iI_le, iI_eq, iI_clamp, iI_s, iI_m1, iI_div, bs, tn, tn4, tn12, tn20, tn124, tn28, itT, itF, if_pos, if_neg]
  | succ d ih =>
    intro n x S' hx hd q1 q3
    obtain ⟨n, rfl⟩ : ∃ p, n = p + 1 := ⟨n - 1, by omega⟩
    have hc1 : RC S' 1 a := hc.frt (fun i k h1 h2 => q1 i k (by omega))
    obtain ⟨S1, c1, c2, c3⟩ := cCopy (q0 := 39) (q1 := 1) (by omega) S'
    obtain ⟨S2, g1, g2, g3, g4⟩ := cLotL (S := S1) hw hN hn hn1 (sLots a s N now z x).2 (k := fun s => some s) N 2000 0 S1 (by omega) (by omega) (fun _ _ _ => rfl) (c3 a hc1) (by rw [c2 _ _ (by omega)]; exact q3)
    have e1 : f_X7_glueByLot S' = some S2 := by
      rw [f_X7_glueByLot, c1, bs]; exact g4
    obtain ⟨w1, w2, w3⟩ := sLot_wf hw (sLots a s N now z x).2 hn N (by omega)
    rw [hN] at w2
    rw [hn1] at w3
    have e2 := cAll g2 w1 w2 hn
    have e3 := cAgr g2 w1 w2
    have en : S2.1 39 1 = iI now := by rw [g2.1 1 (by omega), w3]
    obtain ⟨S'', h1, h2⟩ := ih n (x + 1) S2 (by omega) (by omega) (fun i k hi => by rw [g1 i k hi, c2 _ _ (by omega)]; exact q1 i k hi) g3
    refine ⟨S'', h1, ?_⟩
    rw [sLots] at h2
    rw [f_X7_lots_L46]
    rcases hz with rfl | rfl
    · rw [show lV (sLot a (sLots a s N now 0 x).2 now N).1 N now 0 = sAll (sLot a (sLots a s N now 0 x).2 now N).1 N now from if_pos rfl] at h2
      simp (disch := omega) only [li_0, li_1, li_2, li_3, li_4, li_5, li_6, li_7, li_8, li_9, li_10, li_11, li_12, li_16, li_19, li_20, li_28, li_48, li_57, li_59, li_60, li_96, li_97, li_99, li_100, li_102, li_103, li_104, li_112, li_115, li_116, li_118, li_119, li_121, li_124, li_132, li_255, li_256, li_1000, li_2000, li_1000000000, iI_add, iI_sub, iI_mul, iI_neg, iI_lt, iI_le, iI_eq, iI_clamp, iI_s, iI_m1, iI_div, bs, tn, tn4, tn12, tn20, tn124, tn28, itT, itF, if_pos, if_neg, e1, en, e2, h2]
    · rw [show lV (sLot a (sLots a s N now 1 x).2 now N).1 N now 1 = out2 (fAgr (sLot a (sLots a s N now 1 x).2 now N).1) N N from if_neg (by omega)] at h2
      simp (disch := omega) only [li_0, li_1, li_2, li_3, li_4, li_5, li_6, li_7, li_8, li_9, li_10, li_11, li_12, li_16, li_19, li_20, li_28, li_48, li_57, li_59, li_60, li_96, li_97, li_99, li_100, li_102, li_103, li_104, li_112, li_115, li_116, li_118, li_119, li_121, li_124, li_132, li_255, li_256, li_1000, li_2000, li_1000000000, iI_add, iI_sub, iI_mul, iI_neg, iI_lt, iI_le, iI_eq, iI_clamp, iI_s, iI_m1, iI_div, bs, tn, tn4, tn12, tn20, tn124, tn28, itT, itF, if_pos, if_neg, e1, e3, h2]
end
section
-- ===== lots 56e =====
theorem rLotsL {S : St} {a : Nat → Int} {now N : Nat} (hm : RM S 75 a) (hw : WFa a) (hN : a 0 = N) (hn : now ≤ 11) (hn1 : a 1 = now) (s : Int32) {M : Nat} (hM : M ≤ 20) {z : Int} (hz : z = 0 ∨ z = 1) {k : Int32 → St → Option (Int32 × St)} :
    ∀ d n x : Nat, ∀ S' : St, x + d = M → d < n → rFr S S' → S'.1 74 15 = (sLots a s N now z x).2 → ∃ S'', rFr S S'' ∧ f_X8_lots_L52 n (iI M) (iI z) (iI (sLots a s N now z x).1) (iI x) S' k = k (iI (sLots a s N now z M).1) S'' := by
  have h8 := hw.1
  intro d
  induction d with
  | zero =>
    intro n x S' hx hd q1 q3
    obtain ⟨n, rfl⟩ : ∃ p, n = p + 1 := ⟨n - 1, by omega⟩
    obtain rfl : x = M := by omega
    refine ⟨S', q1, ?_⟩
    rw [f_X8_lots_L52]
    simp (disch := omega) only [li_0, li_1, li_2, li_3, li_4, li_5, li_6, li_7, li_8, li_9, li_10, li_11, li_12, li_16, li_19, li_20, li_28, li_48, li_57, li_59, li_60, li_96, li_97, li_99, li_100, li_102, li_103, li_104, li_112, li_115, li_116, li_118, li_119, li_121, li_124, li_132, li_255, li_256, li_1000, li_2000, li_1000000000, iI_add, iI_sub, iI_mul, iI_neg, iI_lt, iI_le, iI_eq, iI_clamp, iI_s, iI_m1, iI_div, bs, tn, tn4, tn12, tn20, tn124, tn28, itT, itF, if_pos, if_neg]
  | succ d ih =>
    intro n x S' hx hd q1 q3
    obtain ⟨n, rfl⟩ : ∃ p, n = p + 1 := ⟨n - 1, by omega⟩
    obtain ⟨S1, c1, c2, c3⟩ := rLays (q0 := 75) (q1 := 76) (by omega) S'
    have g : ∀ k, ∃ S2, rFr S1 S2 ∧ RM S2 76 (sLot a (sLots a s N now z x).2 now N).1 ∧ S2.1 74 15 = (sLot a (sLots a s N now z x).2 now N).2 ∧ f_X8_lots_L72 2000 (iI M) (iI z) (iI (sLots a s N now z x).1) (iI x) (iI ((0 : Nat) : Int)) S1 k = k S2 := fun k =>
      rLotL (S := S1) hw hN hn hn1 (sLots a s N now z x).2 (k := k) N 2000 0 S1 (by omega) (by omega) (fun _ _ _ => rfl) (fun k hk => by rw [c3 k hk, q1 _ _ (by omega)]; exact hm k hk) (by rw [c2 _ _ (by omega)]; exact q3)
    obtain ⟨w1, w2, w3⟩ := sLot_wf hw (sLots a s N now z x).2 hn N (by omega)
    rw [hN] at w2
    rw [hn1] at w3
    rw [f_X8_lots_L52]
    simp (disch := omega) only [li_0, li_1, li_2, li_3, li_4, li_5, li_6, li_7, li_8, li_9, li_10, li_11, li_12, li_16, li_19, li_20, li_28, li_48, li_57, li_59, li_60, li_96, li_97, li_99, li_100, li_102, li_103, li_104, li_112, li_115, li_116, li_118, li_119, li_121, li_124, li_132, li_255, li_256, li_1000, li_2000, li_1000000000, iI_add, iI_sub, iI_mul, iI_neg, iI_lt, iI_le, iI_eq, iI_clamp, iI_s, iI_m1, iI_div, bs, tn, tn4, tn12, tn20, tn124, tn28, itT, itF, if_pos, if_neg, c1]
    obtain ⟨S2, g1, g2, g3, g4⟩ := g (fun S14 => if z = 0 then (f_X8_gladAll 76 S14).bind fun v17 => f_X8_lots_L52 n (iI M) (iI z) (iI (sLots a s N now z x).1 + v17) (iI ((x + 1 : Nat) : Int)) S14 k else (f_X8_agreeMany 76 S14).bind fun v16 => f_X8_lots_L52 n (iI M) (iI z) (iI (sLots a s N now z x).1 + v16) (iI ((x + 1 : Nat) : Int)) S14 k)
    have e2 := rAll g2 (fun j hj => w1.t (by omega)) w2 (by omega) hn w3
    have e3 := rAgr g2 w1 w2
    obtain ⟨S'', h1, h2⟩ := ih n (x + 1) S2 (by omega) (by omega) (fun i k hi => by rw [g1 i k hi, c2 _ _ (by omega)]; exact q1 i k hi) g3
    refine ⟨S'', h1, ?_⟩
    rw [sLots] at h2
    refine Eq.trans g4 ?_
    rcases hz with rfl | rfl
    · rw [show lV (sLot a (sLots a s N now 0 x).2 now N).1 N now 0 = sAll (sLot a (sLots a s N now 0 x).2 now N).1 N now from if_pos rfl] at h2
      simp (disch := omega) only [li_0, li_1, li_2, li_3, li_4, li_5, li_6, li_7, li_8, li_9, li_10, li_11, li_12, li_16, li_19, li_20, li_28, li_48, li_57, li_59, li_60, li_96, li_97, li_99, li_100, li_102, li_103, li_104, li_112, li_115, li_116, li_118, li_119, li_121, li_124, li_132, li_255, li_256, li_1000, li_2000, li_1000000000, iI_add, iI_sub, iI_mul, iI_neg, iI_lt, iI_le, iI_eq, iI_clamp, iI_s, iI_m1, iI_div, bs, tn, tn4, tn12, tn20, tn124, tn28, itT, itF, if_pos, if_neg, e2, h2]
    · rw [show lV (sLot a (sLots a s N now 1 x).2 now N).1 N now 1 = out2 (fAgr (sLot a (sLots a s N now 1 x).2 now N).1) N N from if_neg (by omega)] at h2
      simp (disch := omega) only [li_0, li_1, li_2, li_3, li_4, li_5, li_6, li_7, li_8, li_9, li_10, li_11, li_12, li_16, li_19, li_20, li_28, li_48, li_57, li_59, li_60, li_96, li_97, li_99, li_100, li_102, li_103, li_104, li_112, li_115, li_116, li_118, li_119, li_121, li_124, li_132, li_255, li_256, li_1000, li_2000, li_1000000000, iI_add, iI_sub, iI_mul, iI_neg, iI_lt, iI_le, iI_eq, iI_clamp, iI_s, iI_m1, iI_div, bs, tn, tn4, tn12, tn20, tn124, tn28, itT, itF, if_pos, if_neg, e3, h2]
end
section
-- ===== lots 56f =====
theorem e_lots {S : St} (hS : Inv S) (a1 : Int32) (a2 : Int32) (a3 : Int32) : ∃ (z1 : Int32 × St) (z2 : Int32 × St), f_X7_lots a1 a2 a3 S = some z1 ∧ f_X8_lots a1 a2 a3 z1.2 = some z2 ∧ z1.1 = z2.1 ∧ Inv z2.2 := by
  obtain ⟨⟨a, hw, hc, hm0⟩, -⟩ := id hS
  have hm : ∀ k, k < 132 → S.1 75 k = iI (a k) := hm0
  have h8 := hw.1
  have w1 := hw.2.1
  have w2 := hw.2.2.1
  have w3 := hw.2.2.2.1
  obtain ⟨now, hnow⟩ : ∃ n : Nat, a 1 = n := ⟨(a 1).toNat, by omega⟩
  obtain ⟨N, hN⟩ : ∃ n : Nat, a 0 = n := ⟨(a 0).toNat, by omega⟩
  have hn : now ≤ 11 := by omega
  have hN8 : N ≤ 8 := by omega
  have p1 : S.1 1 1 = iI now := by rw [hc.1 1 (by omega), hnow]
  have p0 : S.1 1 0 = iI N := by rw [hc.1 0 (by omega), hN]
  have m0 : S.1 75 0 = iI N := by rw [hm 0 (by omega), hN]
  have m1 : S.1 75 1 = iI now := by rw [hm 1 (by omega), hnow]
  obtain ⟨x, x1, x2, rfl⟩ := iI_any a1
  obtain ⟨z, z1, z2, rfl⟩ := iI_any a3
  have e1 := cOut (z := x) (l := 1) (u := 20) x1 x2 (by omega) (by omega) (by omega) (by omega)
  have e3 := cTwo z1 z2
  have g3 := rIn (x := z) (l := 0) (u := 1) z1 z2 (by omega) (by omega) (by omega) (by omega)
  by_cases c1 : x < 1
  · exact e_no hS (-4) 4 (by omega) (by omega) (by simp (disch := omega) only [li_0, li_1, li_2, li_3, li_4, li_5, li_6, li_7, li_8, li_9, li_10, li_11, li_12, li_16, li_19, li_20, li_28, li_48, li_57, li_59, li_60, li_96, li_97, li_99, li_100, li_102, li_103, li_104, li_112, li_115, li_116, li_118, li_119, li_121, li_124, li_132, li_255, li_256, li_1000, li_2000, li_1000000000, iI_add, iI_sub, iI_mul, iI_neg, iI_lt, iI_le, iI_eq, iI_clamp, iI_s, iI_m1, iI_div, bs, tn, tn4, tn12, tn20, tn124, tn28, itT, itF, if_pos, if_neg, f_X7_lots, e1, bse]) (fun S1 q1 q2 => by simp (disch := omega) only [li_0, li_1, li_2, li_3, li_4, li_5, li_6, li_7, li_8, li_9, li_10, li_11, li_12, li_16, li_19, li_20, li_28, li_48, li_57, li_59, li_60, li_96, li_97, li_99, li_100, li_102, li_103, li_104, li_112, li_115, li_116, li_118, li_119, li_121, li_124, li_132, li_255, li_256, li_1000, li_2000, li_1000000000, iI_add, iI_sub, iI_mul, iI_neg, iI_lt, iI_le, iI_eq, iI_clamp, iI_s, iI_m1, iI_div, bs, tn, tn4, tn12, tn20, tn124, tn28, itT, itF, if_pos, if_neg, f_X8_lots, bse])
  · by_cases c2 : 20 < x
    · exact e_no hS (-6) 6 (by omega) (by omega) (by simp (disch := omega) only [li_0, li_1, li_2, li_3, li_4, li_5, li_6, li_7, li_8, li_9, li_10, li_11, li_12, li_16, li_19, li_20, li_28, li_48, li_57, li_59, li_60, li_96, li_97, li_99, li_100, li_102, li_103, li_104, li_112, li_115, li_116, li_118, li_119, li_121, li_124, li_132, li_255, li_256, li_1000, li_2000, li_1000000000, iI_add, iI_sub, iI_mul, iI_neg, iI_lt, iI_le, iI_eq, iI_clamp, iI_s, iI_m1, iI_div, bs, tn, tn4, tn12, tn20, tn124, tn28, itT, itF, if_pos, if_neg, f_X7_lots, e1, bse]) (fun S1 q1 q2 => by simp (disch := omega) only [li_0, li_1, li_2, li_3, li_4, li_5, li_6, li_7, li_8, li_9, li_10, li_11, li_12, li_16, li_19, li_20, li_28, li_48, li_57, li_59, li_60, li_96, li_97, li_99, li_100, li_102, li_103, li_104, li_112, li_115, li_116, li_118, li_119, li_121, li_124, li_132, li_255, li_256, li_1000, li_2000, li_1000000000, iI_add, iI_sub, iI_mul, iI_neg, iI_lt, iI_le, iI_eq, iI_clamp, iI_s, iI_m1, iI_div, bs, tn, tn4, tn12, tn20, tn124, tn28, itT, itF, if_pos, if_neg, f_X8_lots, bse])
    · by_cases c3 : 0 ≤ z ∧ z ≤ 1
      · obtain ⟨M, rfl⟩ : ∃ n : Nat, x = n := ⟨x.toNat, by omega⟩
        have hc1 : RC (up S 0 12 a2) 1 a := hc.ne (by omega)
        obtain ⟨S1, c4, c5⟩ := cLotsL (S := up S 0 12 a2) hc1 hw hN hn hnow a2 (M := M) (by omega) (z := z) (by omega) (k := fun y10 S11 => some (y10, S11)) M 2000 0 (up S 0 12 a2) (by omega) (by omega) (fun _ _ _ => rfl) up_s
        have d5 : f_X7_lots_L46 2000 (iI M) (iI z) (iI 0) (iI 0) (up S 0 12 a2) (fun y10 S11 => some (y10, S11)) = some (iI (sLots a a2 N now z M).1, S1) := c5
        have hm1 : RM (up S1 74 15 a2) 75 a := by
          refine RM.ne (fun k hk => ?_) (by omega)
          rw [c4 _ _ (by omega), up_ne (by omega)]; exact hm k hk
        obtain ⟨S2, f4, f5⟩ := rLotsL (S := up S1 74 15 a2) hm1 hw hN hn hnow a2 (M := M) (by omega) (z := z) (by omega) (k := fun y18 S19 => some (y18, S19)) M 2000 0 (up S1 74 15 a2) (by omega) (by omega) (fun _ _ _ => rfl) up_s
        have g5 : f_X8_lots_L52 2000 (iI M) (iI z) (iI 0) (iI 0) (up S1 74 15 a2) (fun y18 S19 => some (y18, S19)) = some (iI (sLots a a2 N now z M).1, S2) := f5
        have i9 : Inv S2 := hS.sm (fun i k hs => by
          unfold scr at hs
          rw [f4 _ _ (by omega), up_n (by omega), c4 _ _ (by omega), up_n (by omega)])
        exact e_mk (v := iI (sLots a a2 N now z M).1) (S1 := S1) (S2 := S2) (by simp (disch := omega) only [li_0, li_1, li_2, li_3, li_4, li_5, li_6, li_7, li_8, li_9, li_10, li_11, li_12, li_16, li_19, li_20, li_28, li_48, li_57, li_59, li_60, li_96, li_97, li_99, li_100, li_102, li_103, li_104, li_112, li_115, li_116, li_118, li_119, li_121, li_124, li_132, li_255, li_256, li_1000, li_2000, li_1000000000, iI_add, iI_sub, iI_mul, iI_neg, iI_lt, iI_le, iI_eq, iI_clamp, iI_s, iI_m1, iI_div, bs, tn, tn4, tn12, tn20, tn124, tn28, itT, itF, if_pos, if_neg, f_X7_lots, e1, e3, d5]) (by simp (disch := omega) only [li_0, li_1, li_2, li_3, li_4, li_5, li_6, li_7, li_8, li_9, li_10, li_11, li_12, li_16, li_19, li_20, li_28, li_48, li_57, li_59, li_60, li_96, li_97, li_99, li_100, li_102, li_103, li_104, li_112, li_115, li_116, li_118, li_119, li_121, li_124, li_132, li_255, li_256, li_1000, li_2000, li_1000000000, iI_add, iI_sub, iI_mul, iI_neg, iI_lt, iI_le, iI_eq, iI_clamp, iI_s, iI_m1, iI_div, bs, tn, tn4, tn12, tn20, tn124, tn28, itT, itF, if_pos, if_neg, f_X8_lots, g3, g5]) i9
      · exact e_no hS (-2) 2 (by omega) (by omega) (by simp (disch := omega) only [li_0, li_1, li_2, li_3, li_4, li_5, li_6, li_7, li_8, li_9, li_10, li_11, li_12, li_16, li_19, li_20, li_28, li_48, li_57, li_59, li_60, li_96, li_97, li_99, li_100, li_102, li_103, li_104, li_112, li_115, li_116, li_118, li_119, li_121, li_124, li_132, li_255, li_256, li_1000, li_2000, li_1000000000, iI_add, iI_sub, iI_mul, iI_neg, iI_lt, iI_le, iI_eq, iI_clamp, iI_s, iI_m1, iI_div, bs, tn, tn4, tn12, tn20, tn124, tn28, itT, itF, if_pos, if_neg, f_X7_lots, e1, e3, bse]) (fun S1 q1 q2 => by simp (disch := omega) only [li_0, li_1, li_2, li_3, li_4, li_5, li_6, li_7, li_8, li_9, li_10, li_11, li_12, li_16, li_19, li_20, li_28, li_48, li_57, li_59, li_60, li_96, li_97, li_99, li_100, li_102, li_103, li_104, li_112, li_115, li_116, li_118, li_119, li_121, li_124, li_132, li_255, li_256, li_1000, li_2000, li_1000000000, iI_add, iI_sub, iI_mul, iI_neg, iI_lt, iI_le, iI_eq, iI_clamp, iI_s, iI_m1, iI_div, bs, tn, tn4, tn12, tn20, tn124, tn28, itT, itF, if_pos, if_neg, f_X8_lots, g3, bse])
end
section
-- ===== masks as whole numbers =====
theorem nI_or (a b : Nat) : nI a ||| nI b = nI (a ||| b) := by
  apply Int32.toBitVec_inj.1
  show BitVec.ofNat 32 a ||| BitVec.ofNat 32 b = BitVec.ofNat 32 (a ||| b)
  apply BitVec.eq_of_getLsbD_eq
  intro i hi
  simp [hi]
theorem nI_and (a b : Nat) : nI a &&& nI b = nI (a &&& b) := by
  apply Int32.toBitVec_inj.1
  show BitVec.ofNat 32 a &&& BitVec.ofNat 32 b = BitVec.ofNat 32 (a &&& b)
  apply BitVec.eq_of_getLsbD_eq
  intro i hi
  simp [hi]
theorem iI_shl {n : Nat} (hn : n < 31) : (iI 1 <<< (iI (n : Int) &&& 31)) = iI ((2 ^ n : Nat) : Int) := by
  have e1 : (iI 1 : Int32) = nI 1 := iI_nI 1
  rw [e1, iI_nI, iI_nI, w_shl n hn]
theorem iI_or (a b : Nat) : iI (a : Int) ||| iI (b : Int) = iI ((a ||| b : Nat) : Int) := by rw [iI_nI, iI_nI, iI_nI, nI_or]
theorem iI_and (a b : Nat) : iI (a : Int) &&& iI (b : Int) = iI ((a &&& b : Nat) : Int) := by rw [iI_nI, iI_nI, iI_nI, nI_and]
def nSet (a : Nat → Int) : Nat → Nat
  | 0 => 0
  | j + 1 => if a (20 + j) < 0 then nSet a j else nSet a j ||| 2 ^ j
theorem sSet_n (a : Nat → Int) : ∀ x, x ≤ 8 → sSet a x = iI (nSet a x : Nat) ∧ nSet a x < 2 ^ 8 ∧ ∀ j, (nSet a x).testBit j = true ↔ j < x ∧ ¬ a (20 + j) < 0 := by
  intro x
  induction x with
  | zero => exact fun _ => ⟨rfl, Nat.two_pow_pos 8, fun j => ⟨fun h => by simp [nSet] at h, fun h => absurd h.1 (by omega)⟩⟩
  | succ x ih =>
    intro hx
    obtain ⟨h1, h2, h3⟩ := ih (by omega)
    rw [sSet, nSet]
    by_cases c : a (20 + x) < 0
    · rw [if_pos c, if_pos c]
      refine ⟨h1, h2, fun j => (h3 j).trans ⟨fun h => ⟨by omega, h.2⟩, fun h => ⟨?_, h.2⟩⟩⟩
      rcases Nat.lt_or_ge j x with hj | hj
      · exact hj
      · have : j = x := by omega
        subst this
        exact absurd c h.2
    · rw [if_neg c, if_neg c, h1, iI_shl (by omega), iI_or]
      refine ⟨rfl, Nat.or_lt_two_pow h2 (Nat.pow_lt_pow_right (by omega) (by omega)), fun j => ?_⟩
      rw [Nat.testBit_or, Nat.testBit_two_pow, Bool.or_eq_true, h3 j, decide_eq_true_eq]
      constructor
      · rintro (h | h)
        · exact ⟨by omega, h.2⟩
        · subst h
          exact ⟨by omega, c⟩
      · intro h
        rcases Nat.lt_or_ge j x with hj | hj
        · exact Or.inl ⟨hj, h.2⟩
        · right; omega
def mFr (a : Nat → Int) (m : Nat) : Nat → Bool
  | 0 => true
  | x + 1 => if m / 2 ^ x % 2 = 1 ∧ ¬ a (20 + x) < 0 then false else mFr a m x
theorem mFr_iff (a : Nat → Int) (m : Nat) : ∀ x, mFr a m x = true ↔ ∀ j, j < x → m / 2 ^ j % 2 = 1 → a (20 + j) < 0 := by
  intro x
  induction x with
  | zero => exact ⟨fun _ j hj => absurd hj (by omega), fun _ => rfl⟩
  | succ x ih =>
    rw [mFr]
    by_cases c : m / 2 ^ x % 2 = 1 ∧ ¬ a (20 + x) < 0
    · rw [if_pos c]
      exact ⟨fun h => absurd h (by decide), fun h => absurd (h x (by omega) c.1) c.2⟩
    · rw [if_neg c, ih]
      constructor
      · intro h j hj hb
        rcases Nat.lt_or_ge j x with hj' | hj'
        · exact h j hj' hb
        · have : j = x := by omega
          subst this
          by_cases h9 : a (20 + j) < 0
          · exact h9
          · exact absurd ⟨hb, h9⟩ c
      · exact fun h j hj hb => h j (by omega) hb
theorem mFr_and {a : Nat → Int} {m N : Nat} (hN : N ≤ 8) (hm : m < 2 ^ N) : (iI (m : Int) &&& sSet a N = iI 0) ↔ mFr a m N = true := by
  obtain ⟨h1, h2, h3⟩ := sSet_n a N hN
  have hm8 : m < 2 ^ 8 := Nat.lt_of_lt_of_le hm (Nat.pow_le_pow_right (by omega) hN)
  have hlt : m &&& nSet a N ≤ m := Nat.and_le_left
  have p8 : (2 : Nat) ^ 8 = 256 := rfl
  have e : (iI (m : Int) &&& sSet a N = iI 0) ↔ (m &&& nSet a N) = 0 := by
    rw [h1, iI_and, iI_eq (by omega) (by omega) (by omega) (by omega)]
    omega
  rw [e, mFr_iff]
  constructor
  · intro h j hj hb
    by_cases h9 : a (20 + j) < 0
    · exact h9
    · have t1 : (nSet a N).testBit j = true := (h3 j).mpr ⟨hj, h9⟩
      have t2 : m.testBit j = true := by rw [Nat.testBit_eq_decide_div_mod_eq, decide_eq_true_eq]; exact hb
      have t3 : (m &&& nSet a N).testBit j = true := by rw [Nat.testBit_and, t1, t2]; rfl
      rw [h, Nat.zero_testBit] at t3
      exact absurd t3 (by decide)
  · intro h
    apply Nat.eq_of_testBit_eq
    intro j
    rw [Nat.testBit_and, Nat.zero_testBit]
    by_cases t1 : (nSet a N).testBit j = true
    · have g := (h3 j).mp t1
      by_cases t2 : m.testBit j = true
      · rw [Nat.testBit_eq_decide_div_mod_eq, decide_eq_true_eq] at t2
        exact absurd (h j g.1 t2) g.2
      · rw [Bool.not_eq_true] at t2
        rw [t2]; rfl
    · rw [Bool.not_eq_true] at t1
      rw [t1, Bool.and_false]
theorem bit_hi {m N j : Nat} (hm : m < 2 ^ N) (hj : N ≤ j) : m / 2 ^ j % 2 = 0 := by
  have := Nat.pow_le_pow_right (n := 2) (by omega) hj
  rw [Nat.div_eq_of_lt (by omega)]
-- ===== sums over a mask =====
def mSum (f : Nat → Int) (m x : Nat) : Int := sSum (fun j => if m / 2 ^ j % 2 = 1 then f j else 0) x
theorem mSum_s (f : Nat → Int) (m x : Nat) : mSum f m (x + 1) = mSum f m x + (if m / 2 ^ x % 2 = 1 then f x else 0) := rfl
theorem mSum_hi {f : Nat → Int} {m N : Nat} (hm : m < 2 ^ N) : ∀ d, mSum f m (N + d) = mSum f m N := fun d =>
  sSum_tail d (fun x hx => by show (if m / 2 ^ x % 2 = 1 then f x else 0) = 0; rw [if_neg (by have := bit_hi hm hx; omega)])
theorem mSum_b {f : Nat → Int} {m : Nat} {B : Int} (hB : 0 ≤ B) : ∀ x, (∀ j, j < x → -B ≤ f j ∧ f j ≤ B) → -(B * x) ≤ mSum f m x ∧ mSum f m x ≤ B * x := by
  intro x
  induction x with
  | zero => intro _; exact ⟨by show -(B * ((0 : Nat) : Int)) ≤ 0; simp, by show (0 : Int) ≤ B * ((0 : Nat) : Int); simp⟩
  | succ x ih =>
    intro h
    have h1 := ih (fun j hj => h j (by omega))
    have h2 := h x (by omega)
    have e : B * ((x + 1 : Nat) : Int) = B * x + B := by rw [Int.natCast_add, Int.mul_add]; simp
    rw [mSum_s, e]
    split <;> omega
theorem mSum_0 (f : Nat → Int) : ∀ x, mSum f 0 x = 0 := by
  intro x
  induction x with
  | zero => rfl
  | succ x ih => rw [mSum_s, ih, Nat.zero_div]; rfl
section CW
variable {S : St} {a : Nat → Int} {N : Nat}
theorem cSumL {q m : Nat} {f : Nat → Int} (hN : N ≤ 8) (hm : m < 2 ^ N) (hq : ∀ j, j < N → S.1 q j = iI (f j)) {k : Int32 → Option Int32} :
    ∀ d n x : Nat, x + d = 8 → d < n → f_X1_sumOver_L4 n (iI m) q (iI (mSum f m x)) (iI x) S k = k (iI (mSum f m 8)) := by
  have hm8 : m < 2 ^ 8 := Nat.lt_of_lt_of_le hm (Nat.pow_le_pow_right (by omega) hN)
  have p8 : (2 : Nat) ^ 8 = 256 := rfl
  intro d
  induction d with
  | zero =>
    intro n x hx hd
    obtain ⟨n, rfl⟩ : ∃ p, n = p + 1 := ⟨n - 1, by omega⟩
    obtain rfl : x = 8 := by omega
    rw [f_X1_sumOver_L4]
    simp (disch := omega) only [li_0, li_1, li_2, li_3, li_4, li_5, li_6, li_7, li_8, li_9, li_10, li_11, li_12, li_16, li_19, li_20, li_28, li_48, li_57, li_59, li_60, li_96, li_97, li_99, li_100, li_102, li_103, li_104, li_112, li_115, li_116, li_118, li_119, li_121, li_124, li_132, li_255, li_256, li_1000, li_2000, li_1000000000, iI_add, iI_sub, iI_mul, iI_neg, iI_lt, iI_le, iI_eq, iI_clamp, iI_s, iI_m1, iI_div, bs, tn, tn4, tn12, tn20, tn124, tn28, itT, itF, if_pos, if_neg]
  | succ d ih =>
    intro n x hx hd
    obtain ⟨n, rfl⟩ : ∃ p, n = p + 1 := ⟨n - 1, by omega⟩
    have i1 := ih n (x + 1) (by omega) (by omega)
    have e1 := iI_bit (A := (m : Int)) (j := x) (by omega) (by omega) (by omega)
    rw [Int.toNat_natCast] at e1
    rw [mSum_s] at i1
    rw [f_X1_sumOver_L4]
    by_cases c : m / 2 ^ x % 2 = 1
    · have hx8 : x < N := by
        rcases Nat.lt_or_ge x N with h | h
        · exact h
        · have := bit_hi hm h; omega
      have e2 := hq x hx8
      rw [if_pos c] at i1
      rw [c] at e1
      simp (disch := omega) only [li_0, li_1, li_2, li_3, li_4, li_5, li_6, li_7, li_8, li_9, li_10, li_11, li_12, li_16, li_19, li_20, li_28, li_48, li_57, li_59, li_60, li_96, li_97, li_99, li_100, li_102, li_103, li_104, li_112, li_115, li_116, li_118, li_119, li_121, li_124, li_132, li_255, li_256, li_1000, li_2000, li_1000000000, iI_add, iI_sub, iI_mul, iI_neg, iI_lt, iI_le, iI_eq, iI_clamp, iI_s, iI_m1, iI_div, bs, tn, tn4, tn12, tn20, tn124, tn28, itT, itF, if_pos, if_neg, e1, e2, i1]
    · have c' : m / 2 ^ x % 2 = 0 := by omega
      rw [if_neg c] at i1
      rw [c'] at e1
      simp (disch := omega) only [li_0, li_1, li_2, li_3, li_4, li_5, li_6, li_7, li_8, li_9, li_10, li_11, li_12, li_16, li_19, li_20, li_28, li_48, li_57, li_59, li_60, li_96, li_97, li_99, li_100, li_102, li_103, li_104, li_112, li_115, li_116, li_118, li_119, li_121, li_124, li_132, li_255, li_256, li_1000, li_2000, li_1000000000, iI_add, iI_sub, iI_mul, iI_neg, iI_lt, iI_le, iI_eq, iI_clamp, iI_s, iI_m1, iI_div, bs, tn, tn4, tn12, tn20, tn124, tn28, itT, itF, if_pos, if_neg, e1, i1]
theorem cSum {q m : Nat} {f : Nat → Int} (hN : N ≤ 8) (hm : m < 2 ^ N) (hq : ∀ j, j < N → S.1 q j = iI (f j)) : f_X1_sumOver (iI m) q S = some (iI (mSum f m N)) := by
  have i := cSumL hN hm hq (k := fun y => some y) 8 2000 0 (by omega) (by omega)
  have e : 8 = N + (8 - N) := by omega
  rw [e, mSum_hi hm] at i
  rw [f_X1_sumOver]
  exact i
end CW
end
section
-- ===== the pot: what is best =====
def pBest (fr : Nat → Bool) (co ga : Nat → Int) (drops : Int) : Nat → Nat × Int
  | 0 => (0, 0)
  | m + 1 => if fr m = true ∧ (pBest fr co ga drops m).2 < ga m ∧ co m ≤ drops then (m, ga m) else pBest fr co ga drops m
theorem pBest_p {fr : Nat → Bool} {co ga : Nat → Int} {drops : Int} (h0 : fr 0 = true) (hc0 : co 0 = 0) (hg0 : ga 0 = 0) (hd : 0 ≤ drops) : ∀ x, 0 < x →
    (pBest fr co ga drops x).1 < x ∧ fr (pBest fr co ga drops x).1 = true ∧ co (pBest fr co ga drops x).1 ≤ drops ∧ ga (pBest fr co ga drops x).1 = (pBest fr co ga drops x).2 ∧ ∀ m, m < x → fr m = true → co m ≤ drops → ga m ≤ (pBest fr co ga drops x).2 := by
  intro x
  induction x with
  | zero => intro h; omega
  | succ x ih =>
    intro _
    by_cases hx : x = 0
    · subst hx
      have e : pBest fr co ga drops (0 + 1) = (0, 0) := by
        show (if fr 0 = true ∧ (0 : Int) < ga 0 ∧ co 0 ≤ drops then (0, ga 0) else (0, (0 : Int))) = (0, 0)
        rw [if_neg (by omega)]
      rw [e]
      refine ⟨by decide, h0, by show co 0 ≤ drops; omega, hg0, fun m hm _ _ => ?_⟩
      have : m = 0 := by omega
      subst this
      show ga 0 ≤ 0
      omega
    · obtain ⟨i1, i2, i3, i4, i5⟩ := ih (by omega)
      rw [pBest]
      by_cases c : fr x = true ∧ (pBest fr co ga drops x).2 < ga x ∧ co x ≤ drops
      · rw [if_pos c]
        refine ⟨by show x < x + 1; omega, c.1, c.2.2, rfl, fun m hm h1 h2 => ?_⟩
        show ga m ≤ ga x
        by_cases e : m = x
        · rw [e]; exact Int.le_refl _
        · have := i5 m (by omega) h1 h2
          omega
      · rw [if_neg c]
        refine ⟨by omega, i2, i3, i4, fun m hm h1 h2 => ?_⟩
        by_cases e : m = x
        · subst e
          by_cases c2 : ga m ≤ (pBest fr co ga drops m).2
          · exact c2
          · exact absurd ⟨h1, by omega, h2⟩ c
        · exact i5 m (by omega) h1 h2
def pFew (fr : Nat → Bool) (co ga : Nat → Int) (g : Int) : Nat → Int
  | 0 => 99
  | m + 1 => if fr m = true ∧ ga m = g ∧ co m < pFew fr co ga g m then co m else pFew fr co ga g m
theorem pFew_p {fr : Nat → Bool} {co ga : Nat → Int} {g : Int} : ∀ x, pFew fr co ga g x ≤ 99 ∧ (∀ m, m < x → fr m = true → ga m = g → pFew fr co ga g x ≤ co m) ∧ (pFew fr co ga g x = 99 ∨ ∃ m, m < x ∧ fr m = true ∧ ga m = g ∧ co m = pFew fr co ga g x) := by
  intro x
  induction x with
  | zero => exact ⟨Int.le_refl _, fun m hm => absurd hm (by omega), Or.inl rfl⟩
  | succ x ih =>
    obtain ⟨i1, i2, i3⟩ := ih
    rw [pFew]
    by_cases c : fr x = true ∧ ga x = g ∧ co x < pFew fr co ga g x
    · rw [if_pos c]
      refine ⟨by omega, fun m hm h1 h2 => ?_, Or.inr ⟨x, by omega, c.1, c.2.1, rfl⟩⟩
      by_cases e : m = x
      · rw [e]; exact Int.le_refl _
      · have := i2 m (by omega) h1 h2
        omega
    · rw [if_neg c]
      refine ⟨i1, fun m hm h1 h2 => ?_, ?_⟩
      · by_cases e : m = x
        · subst e
          by_cases c2 : co m < pFew fr co ga g m
          · exact absurd ⟨h1, h2, c2⟩ c
          · omega
        · exact i2 m (by omega) h1 h2
      · rcases i3 with h | ⟨m, hm, h⟩
        · exact Or.inl h
        · exact Or.inr ⟨m, by omega, h⟩
def qBest (fr : Nat → Bool) (co to : Nat → Int) (drops : Int) : Nat → Nat × Int
  | 0 => (0, -1)
  | m + 1 => if fr m = true ∧ 0 ≤ drops - co m ∧ (qBest fr co to drops m).2 < to m then (m, to m) else qBest fr co to drops m
theorem qBest_p {fr : Nat → Bool} {co ga to : Nat → Int} {drops b : Int} (h0 : fr 0 = true) (hc0 : co 0 = 0) (hg0 : ga 0 = 0) (hd : 0 ≤ drops) (hb : 0 ≤ b) {M : Nat} (ht : ∀ m, m < M → fr m = true → to m = b + ga m) : ∀ x, 0 < x → x ≤ M →
    qBest fr co to drops x = ((pBest fr co ga drops x).1, b + (pBest fr co ga drops x).2) := by
  intro x
  induction x with
  | zero => intro h; omega
  | succ x ih =>
    intro _ hM
    by_cases hx : x = 0
    · subst hx
      have e : pBest fr co ga drops (0 + 1) = (0, 0) := by
        show (if fr 0 = true ∧ (0 : Int) < ga 0 ∧ co 0 ≤ drops then (0, ga 0) else (0, (0 : Int))) = (0, 0)
        rw [if_neg (by omega)]
      rw [e]
      have t0 := ht 0 (by omega) h0
      show (if fr 0 = true ∧ 0 ≤ drops - co 0 ∧ (-1 : Int) < to 0 then (0, to 0) else (0, (-1 : Int))) = (0, b + 0)
      rw [if_pos ⟨h0, by omega, by omega⟩, t0, hg0]
    · have i1 := ih (by omega) (by omega)
      rw [qBest, pBest, i1]
      show (if fr x = true ∧ 0 ≤ drops - co x ∧ b + (pBest fr co ga drops x).2 < to x then (x, to x) else _) = _
      by_cases cf : fr x = true
      · have t0 := ht x (by omega) cf
        rw [t0]
        by_cases c : (pBest fr co ga drops x).2 < ga x ∧ co x ≤ drops
        · rw [if_pos ⟨cf, by omega, by omega⟩, if_pos ⟨cf, c⟩]
        · rw [if_neg (fun z => c ⟨by omega, by omega⟩), if_neg (fun z => c z.2)]
      · rw [if_neg (fun z => cf z.1), if_neg (fun z => cf z.1)]
-- ===== the class' pot =====
def pGa (a : Nat → Int) (now : Nat) (j : Nat) : Int := sBy a j now - sG a j now
def pFr (a : Nat → Int) (N m : Nat) : Bool := mFr a m N
def pCo (a : Nat → Int) (N m : Nat) : Int := mSum (sCost a) m N
def pGn (a : Nat → Int) (N now m : Nat) : Int := mSum (pGa a now) m N
def wFr (S S' : St) : Prop := ∀ i k, ¬ (i = 64 ∨ i = 65 ∨ i = 66) → S'.1 i k = S.1 i k
theorem pCo_b {a : Nat → Int} (hw : WFa a) {N : Nat} (hN8 : N ≤ 8) (m : Nat) : -80 ≤ pCo a N m ∧ pCo a N m ≤ 80 := by
  have h := mSum_b (f := sCost a) (m := m) (B := 10) (by omega) N (fun j hj => by have := sCost_b (hw.t (j := j) (by omega)); omega)
  unfold pCo
  omega
theorem pGn_b {a : Nat → Int} (hw : WFa a) {N now : Nat} (hN8 : N ≤ 8) (hn : now ≤ 11) (m : Nat) : -792 ≤ pGn a N now m ∧ pGn a N now m ≤ 792 := by
  have h := mSum_b (f := pGa a now) (m := m) (B := 99) (by omega) N (fun j hj => by
    have h1 := sBy_b (hw.t (j := j) (by omega)) hn
    have h2 := sG_b (hw.t (j := j) (by omega)) (y := now) (by omega)
    unfold pGa
    omega)
  unfold pGn
  omega
/-- what weigh leaves -/
def pW (S : St) (a : Nat → Int) (N now : Nat) : Prop := S.1 64 2 = sSet a N ∧ S.1 64 3 = iI ((2 ^ N : Nat) : Int) ∧ S.1 64 4 = iI (sAll a N now) ∧ (∀ j, j < N → S.1 65 j = iI (pGa a now j)) ∧ ∀ j, j < N → S.1 66 j = iI (sCost a j)
theorem cWeighL {S : St} {a : Nat → Int} {now N : Nat} (hc : RC S 1 a) (hw : WFa a) (hN : a 0 = N) (hn : now ≤ 11) {k : St → Option St} :
    ∀ d n x : Nat, ∀ S' : St, x + d = N → d < n → wFr S S' → (∀ j, j < x → S'.1 65 j = iI (pGa a now j)) → (∀ j, j < x → S'.1 66 j = iI (sCost a j)) → ∃ S'', wFr S S'' ∧ S''.1 64 = S'.1 64 ∧ (∀ j, j < N → S''.1 65 j = iI (pGa a now j)) ∧ (∀ j, j < N → S''.1 66 j = iI (sCost a j)) ∧ f_X1_weigh_L29 n 1 (iI now) (iI x) S' k = k S'' := by
  have h8 := hw.1
  intro d
  induction d with
  | zero =>
    intro n x S' hx hd q1 q2 q3
    obtain ⟨n, rfl⟩ : ∃ p, n = p + 1 := ⟨n - 1, by omega⟩
    obtain rfl : x = N := by omega
    have e0 : S'.1 1 0 = iI x := by rw [q1 _ _ (by omega), hc.1 0 (by omega), hN]
    refine ⟨S', q1, rfl, q2, q3, ?_⟩
    rw [f_X1_weigh_L29]
    simp (disch := omega) only [li_0, li_1, li_2, li_3, li_4, li_5, li_6, li_7, li_8, li_9, li_10, li_11, li_12, li_16, li_19, li_20, li_28, li_48, li_57, li_59, li_60, li_96, li_97, li_99, li_100, li_102, li_103, li_104, li_112, li_115, li_116, li_118, li_119, li_121, li_124, li_132, li_255, li_256, li_1000, li_2000, li_1000000000, iI_add, iI_sub, iI_mul, iI_neg, iI_lt, iI_le, iI_eq, iI_clamp, iI_s, iI_m1, iI_div, bs, tn, tn4, tn12, tn20, tn124, tn28, itT, itF, if_pos, if_neg, e0]
  | succ d ih =>
    intro n x S' hx hd q1 q2 q3
    obtain ⟨n, rfl⟩ : ∃ p, n = p + 1 := ⟨n - 1, by omega⟩
    have hc' : RC S' 1 a := hc.frt (fun i k h1 h2 => q1 i k (by omega))
    have e0 : S'.1 1 0 = iI N := by rw [hc'.1 0 (by omega), hN]
    have ht := hc'.t (j := x) (by omega) (by omega)
    have hwt := hw.t (j := x) (by omega)
    have e1 := cAt (S := S') (q := 1) (j := x) (by omega)
    have e2 := cBy ht hwt hn
    have e3 := cG ht (y := now) (by omega)
    have e4 : sBy a x now - sG a x now = pGa a now x := rfl
    have e5 := cCost (ht.ne (i := 65) (k := x) (x := iI (pGa a now x)) (by omega) (by omega)) hwt
    obtain ⟨S'', g1, g2, g3, g4, g5⟩ := ih n (x + 1) (up (up S' 65 x (iI (pGa a now x))) 66 x (iI (sCost a x))) (by omega) (by omega) (fun i k hi => by
        rw [up_ne (by omega), up_ne (by omega)]; exact q1 i k hi) (fun j hj => by
        rw [up_ne (by omega)]
        by_cases e : j = x
        · rw [e, up_s]
        · rw [up_n (Or.inr e)]; exact q2 j (by omega)) (fun j hj => by
        by_cases e : j = x
        · rw [e, up_s]
        · rw [up_n (Or.inr e), up_ne (by omega)]; exact q3 j (by omega))
    refine ⟨S'', g1, by rw [g2, up_ne (by omega), up_ne (by omega)], g3, g4, ?_⟩
    rw [f_X1_weigh_L29]
    simp (disch := omega) only [li_0, li_1, li_2, li_3, li_4, li_5, li_6, li_7, li_8, li_9, li_10, li_11, li_12, li_16, li_19, li_20, li_28, li_48, li_57, li_59, li_60, li_96, li_97, li_99, li_100, li_102, li_103, li_104, li_112, li_115, li_116, li_118, li_119, li_121, li_124, li_132, li_255, li_256, li_1000, li_2000, li_1000000000, iI_add, iI_sub, iI_mul, iI_neg, iI_lt, iI_le, iI_eq, iI_clamp, iI_s, iI_m1, iI_div, bs, tn, tn4, tn12, tn20, tn124, tn28, itT, itF, if_pos, if_neg, e0, e1, e2, e3, e4, e5, g5]
theorem cWeigh {S : St} {a : Nat → Int} {now N : Nat} (hc : RC S 1 a) (hw : WFa a) (hN : a 0 = N) (hn : now ≤ 11) : ∃ S', f_X1_weigh 1 (iI now) S = some S' ∧ wFr S S' ∧ pW S' a N now := by
  have h8 := hw.1
  have p0 : (up S 64 2 (sSet a N)).1 1 0 = iI N := by rw [up_ne (by omega), hc.1 0 (by omega), hN]
  obtain ⟨T, hT⟩ : ∃ T, T = up (up S 64 2 (sSet a N)) 64 3 (iI ((2 ^ N : Nat) : Int)) := ⟨_, rfl⟩
  have hcT : RC T 1 a := by rw [hT]; exact (hc.ne (by omega)).ne (by omega)
  have e2 := cAll hcT hw hN hn
  obtain ⟨S', g1, g2, g3, g4, g5⟩ := cWeighL (S := S) hc hw hN hn (k := fun s => some s) N 2000 0 (up T 64 4 (iI (sAll a N now))) (by omega) (by omega) (fun i k hi => by rw [up_ne (by omega), hT, up_ne (by omega), up_ne (by omega)]) (fun j hj => absurd hj (by omega)) (fun j hj => absurd hj (by omega))
  refine ⟨S', ?_, g1, ?_, ?_, ?_, g3, g4⟩
  · rw [f_X1_weigh, cSetBits hc hw hN, bs, p0, show (1 : Int32) = iI 1 from rfl, iI_shl (by omega), ← hT, e2, bs]
    exact g5
  · rw [g2, up_n (by omega), hT, up_n (by omega), up_s]
  · rw [g2, up_n (by omega), hT, up_s]
  · rw [g2, up_s]
theorem cBestL {S : St} {a : Nat → Int} {now N : Nat} (hw : WFa a) (hN8 : N ≤ 8) (hn : now ≤ 11) (hp : pW S a N now) {drops : Int} (hd : 0 ≤ drops ∧ drops ≤ 99) {k : Int32 → Option Int32} :
    ∀ d n m : Nat, m + d = 2 ^ N → d < n → f_X1_bestBits_L7 n (iI drops) (iI (pBest (pFr a N) (pCo a N) (pGn a N now) drops m).1) (iI (pBest (pFr a N) (pCo a N) (pGn a N now) drops m).2) (iI m) S k = k (iI (pBest (pFr a N) (pCo a N) (pGn a N now) drops (2 ^ N)).1) := by
  obtain ⟨q1, q2, q3, q4, q5⟩ := hp
  have p8 : 2 ^ N ≤ 2 ^ 8 := Nat.pow_le_pow_right (by omega) hN8
  have p9 : (2 : Nat) ^ 8 = 256 := rfl
  have p1 : 0 < 2 ^ N := Nat.two_pow_pos N
  have bP : ∀ x, -792 ≤ (pBest (pFr a N) (pCo a N) (pGn a N now) drops x).2 ∧ (pBest (pFr a N) (pCo a N) (pGn a N now) drops x).2 ≤ 792 := by
    intro x
    induction x with
    | zero => exact ⟨by show (-792 : Int) ≤ 0; omega, by show (0 : Int) ≤ 792; omega⟩
    | succ x ih =>
      rw [pBest]
      split
      · exact pGn_b hw hN8 hn x
      · exact ih
  intro d
  induction d with
  | zero =>
    intro n m hx hdn
    obtain ⟨n, rfl⟩ : ∃ p, n = p + 1 := ⟨n - 1, by omega⟩
    obtain rfl : m = 2 ^ N := by omega
    rw [f_X1_bestBits_L7, q2, if_pos (by rw [iI_le (by omega) (by omega) (by omega) (by omega)]; omega)]
  | succ d ih =>
    intro n m hx hdn
    obtain ⟨n, rfl⟩ : ∃ p, n = p + 1 := ⟨n - 1, by omega⟩
    have i1 := ih n (m + 1) (by omega) (by omega)
    have hmN : m < 2 ^ N := by omega
    have e1 : f_X1_sumOver (iI m) 65 S = some (iI (pGn a N now m)) := cSum hN8 hmN q4
    have e2 : f_X1_sumOver (iI m) 66 S = some (iI (pCo a N m)) := cSum hN8 hmN q5
    have e3 : f_X1_gainOf (iI m) S = some (iI (pGn a N now m)) := by rw [f_X1_gainOf, e1]; rfl
    have e4 := mFr_and (a := a) hN8 hmN
    have b1 := pGn_b hw hN8 hn m
    have b2 := pCo_b hw hN8 m
    have b3 := bP m
    have hlt : ¬ iI ((2 ^ N : Nat) : Int) ≤ iI (m : Int) := by rw [iI_le (by omega) (by omega) (by omega) (by omega)]; omega
    have j1 : (iI (m : Int) + 1 : Int32) = iI ((m + 1 : Nat) : Int) := by rw [li_1, iI_add]; rfl
    have z0 : (0 : Int32) = iI 0 := rfl
    rw [pBest] at i1
    rw [f_X1_bestBits_L7, q2, if_neg hlt, q1, j1, z0]
    by_cases c : mFr a m N = true
    · rw [if_pos (e4.mpr c), e3, bs]
      by_cases c1 : (pBest (pFr a N) (pCo a N) (pGn a N now) drops m).2 < pGn a N now m
      · rw [if_neg (by rw [iI_le (by omega) (by omega) (by omega) (by omega)]; omega), e2, bs]
        by_cases c2 : pCo a N m ≤ drops
        · rw [if_neg (by rw [iI_lt (by omega) (by omega) (by omega) (by omega)]; omega), bs]
          rw [if_pos ⟨c, c1, c2⟩] at i1
          exact i1
        · rw [if_pos (by rw [iI_lt (by omega) (by omega) (by omega) (by omega)]; omega)]
          rw [if_neg (fun z => c2 z.2.2)] at i1
          exact i1
      · rw [if_pos (by rw [iI_le (by omega) (by omega) (by omega) (by omega)]; omega)]
        rw [if_neg (fun z => c1 z.2.1)] at i1
        exact i1
    · rw [if_neg (fun z => c (e4.mp z))]
      rw [if_neg (fun z => c z.1)] at i1
      exact i1
theorem cBest {S : St} {a : Nat → Int} {now N : Nat} (hw : WFa a) (hN8 : N ≤ 8) (hn : now ≤ 11) (hp : pW S a N now) {drops : Int} (hd : 0 ≤ drops ∧ drops ≤ 99) : f_X1_bestBits (iI drops) S = some (iI (pBest (pFr a N) (pCo a N) (pGn a N now) drops (2 ^ N)).1) := by
  have p8 : 2 ^ N ≤ 2 ^ 8 := Nat.pow_le_pow_right (by omega) hN8
  have p9 : (2 : Nat) ^ 8 = 256 := rfl
  have i := cBestL hw hN8 hn hp hd (k := fun y => some y) (2 ^ N) 2000 0 (by omega) (by omega)
  rw [f_X1_bestBits]
  exact i
theorem p00 (a : Nat → Int) (N now : Nat) : pFr a N 0 = true ∧ pCo a N 0 = 0 ∧ pGn a N now 0 = 0 :=
  ⟨(mFr_iff a 0 N).mpr (fun j _ hb => by rw [Nat.zero_div] at hb; omega), mSum_0 _ _, mSum_0 _ _⟩
theorem cGainB {S : St} {a : Nat → Int} {now N : Nat} (hN8 : N ≤ 8) (hp : pW S a N now) {drops : Int} (hd : 0 ≤ drops ∧ drops ≤ 99) : f_X1_gainOf (iI (pBest (pFr a N) (pCo a N) (pGn a N now) drops (2 ^ N)).1) S = some (iI (pBest (pFr a N) (pCo a N) (pGn a N now) drops (2 ^ N)).2) := by
  obtain ⟨q1, q2, q3, q4, q5⟩ := hp
  obtain ⟨z1, z2, z3⟩ := p00 a N now
  obtain ⟨h1, h2, h3, h4, h5⟩ := pBest_p z1 z2 z3 hd.1 (2 ^ N) (Nat.two_pow_pos N)
  have e1 : f_X1_sumOver (iI (pBest (pFr a N) (pCo a N) (pGn a N now) drops (2 ^ N)).1) 65 S = some (iI (pGn a N now (pBest (pFr a N) (pCo a N) (pGn a N now) drops (2 ^ N)).1)) := cSum hN8 h1 q4
  rw [f_X1_gainOf, e1, h4]
  rfl
theorem cFewP {S : St} {a : Nat → Int} {now N : Nat} (hw : WFa a) (hN8 : N ≤ 8) (hn : now ≤ 11) (hp : pW S a N now) {g : Int} (hg : -792 ≤ g ∧ g ≤ 792) {k : Int32 → Option Int32} :
    ∀ d n m : Nat, m + d = 2 ^ N → d < n → f_X1_fewestFor_L5 n (iI g) (iI (pFew (pFr a N) (pCo a N) (pGn a N now) g m)) (iI m) S k = k (iI (pFew (pFr a N) (pCo a N) (pGn a N now) g (2 ^ N))) := by
  obtain ⟨q1, q2, q3, q4, q5⟩ := hp
  have p8 : 2 ^ N ≤ 2 ^ 8 := Nat.pow_le_pow_right (by omega) hN8
  have p9 : (2 : Nat) ^ 8 = 256 := rfl
  have p1 : 0 < 2 ^ N := Nat.two_pow_pos N
  have bP : ∀ x, -80 ≤ pFew (pFr a N) (pCo a N) (pGn a N now) g x ∧ pFew (pFr a N) (pCo a N) (pGn a N now) g x ≤ 99 := by
    intro x
    induction x with
    | zero => exact ⟨by show (-80 : Int) ≤ 99; omega, by show (99 : Int) ≤ 99; omega⟩
    | succ x ih =>
      have := pCo_b hw hN8 x
      rw [pFew]
      split <;> omega
  intro d
  induction d with
  | zero =>
    intro n m hx hdn
    obtain ⟨n, rfl⟩ : ∃ p, n = p + 1 := ⟨n - 1, by omega⟩
    obtain rfl : m = 2 ^ N := by omega
    rw [f_X1_fewestFor_L5, q2, if_pos (by rw [iI_le (by omega) (by omega) (by omega) (by omega)]; omega)]
  | succ d ih =>
    intro n m hx hdn
    obtain ⟨n, rfl⟩ : ∃ p, n = p + 1 := ⟨n - 1, by omega⟩
    have i1 := ih n (m + 1) (by omega) (by omega)
    have hmN : m < 2 ^ N := by omega
    have e1 : f_X1_sumOver (iI m) 65 S = some (iI (pGn a N now m)) := cSum hN8 hmN q4
    have e2 : f_X1_sumOver (iI m) 66 S = some (iI (pCo a N m)) := cSum hN8 hmN q5
    have e3 : f_X1_gainOf (iI m) S = some (iI (pGn a N now m)) := by rw [f_X1_gainOf, e1]; rfl
    have e4 := mFr_and (a := a) hN8 hmN
    have b1 := pGn_b hw hN8 hn m
    have b2 := pCo_b hw hN8 m
    have b3 := bP m
    have hlt : ¬ iI ((2 ^ N : Nat) : Int) ≤ iI (m : Int) := by rw [iI_le (by omega) (by omega) (by omega) (by omega)]; omega
    have j1 : (iI (m : Int) + 1 : Int32) = iI ((m + 1 : Nat) : Int) := by rw [li_1, iI_add]; rfl
    have z0 : (0 : Int32) = iI 0 := rfl
    rw [pFew] at i1
    rw [f_X1_fewestFor_L5, q2, if_neg hlt, q1, j1, z0]
    by_cases c : mFr a m N = true
    · rw [if_pos (e4.mpr c), e3, bs]
      by_cases c1 : pGn a N now m = g
      · rw [if_pos (by rw [c1]), e2, bs]
        by_cases c2 : pCo a N m < pFew (pFr a N) (pCo a N) (pGn a N now) g m
        · rw [if_pos (by rw [iI_lt (by omega) (by omega) (by omega) (by omega)]; omega)]
          rw [if_pos ⟨c, c1, c2⟩] at i1
          exact i1
        · rw [if_neg (by rw [iI_lt (by omega) (by omega) (by omega) (by omega)]; omega)]
          rw [if_neg (fun z => c2 z.2.2)] at i1
          exact i1
      · rw [if_neg (by rw [iI_eq (by omega) (by omega) (by omega) (by omega)]; omega)]
        rw [if_neg (fun z => c1 z.2.1)] at i1
        exact i1
    · rw [if_neg (fun z => c (e4.mp z))]
      rw [if_neg (fun z => c z.1)] at i1
      exact i1
theorem cFewPot {S : St} {a : Nat → Int} {now N : Nat} (hw : WFa a) (hN8 : N ≤ 8) (hn : now ≤ 11) (hp : pW S a N now) {g : Int} (hg : -792 ≤ g ∧ g ≤ 792) : f_X1_fewestFor (iI g) S = some (iI (pFew (pFr a N) (pCo a N) (pGn a N now) g (2 ^ N))) := by
  have p8 : 2 ^ N ≤ 2 ^ 8 := Nat.pow_le_pow_right (by omega) hN8
  have p9 : (2 : Nat) ^ 8 = 256 := rfl
  have i := cFewP hw hN8 hn hp hg (k := fun y => some y) (2 ^ N) 2000 0 (by omega) (by omega)
  rw [f_X1_fewestFor]
  exact i
end
section
-- ===== the reference's best =====
def nCan (f : Nat → Nat) : Nat → Nat
  | 0 => 0
  | u + 1 => nCan f u ||| 2 ^ f u
theorem sCan_n {a : Nat → Int} {j now : Nat} (hn : now ≤ 11) : ∀ x, sCan a j now x = iI (nCan (fun u => sY a j now (5 * (u : Int)) 0) x : Nat) ∧ nCan (fun u => sY a j now (5 * (u : Int)) 0) x < 2 ^ 12 ∧ ∀ y, (nCan (fun u => sY a j now (5 * (u : Int)) 0) x).testBit y = true ↔ ∃ u, u < x ∧ sY a j now (5 * (u : Int)) 0 = y := by
  intro x
  induction x with
  | zero => exact ⟨rfl, Nat.two_pow_pos 12, fun y => ⟨fun h => by simp [nCan] at h, fun h => absurd h.choose_spec.1 (by omega)⟩⟩
  | succ x ih =>
    obtain ⟨h1, h2, h3⟩ := ih
    have yb := sY_le a j now (5 * (x : Int)) 0
    rw [sCan, nCan, h1, iI_shl (by omega), iI_or]
    refine ⟨rfl, Nat.or_lt_two_pow h2 (Nat.pow_lt_pow_right (by omega) (by omega)), fun y => ?_⟩
    rw [Nat.testBit_or, Nat.testBit_two_pow, Bool.or_eq_true, h3 y, decide_eq_true_eq]
    constructor
    · rintro (⟨u, hu, e⟩ | h)
      · exact ⟨u, by omega, e⟩
      · exact ⟨x, by omega, h⟩
    · rintro ⟨u, hu, e⟩
      by_cases c : u = x
      · right; rw [← c]; exact e
      · exact Or.inl ⟨u, by omega, e⟩
def sMy (p : Nat → Bool) (g : Nat → Int) : Nat → Int
  | 0 => 0
  | y + 1 => if p y = true then (if sMy p g y ≤ g y then g y else sMy p g y) else sMy p g y
theorem sMy_p {p : Nat → Bool} {g : Nat → Int} : ∀ x, 0 ≤ sMy p g x ∧ (∀ y, y < x → p y = true → g y ≤ sMy p g x) ∧ (sMy p g x = 0 ∨ ∃ y, y < x ∧ p y = true ∧ g y = sMy p g x) := by
  intro x
  induction x with
  | zero => exact ⟨Int.le_refl _, fun y hy => absurd hy (by omega), Or.inl rfl⟩
  | succ x ih =>
    obtain ⟨i1, i2, i3⟩ := ih
    rw [sMy]
    by_cases c : p x = true
    · rw [if_pos c]
      by_cases c2 : sMy p g x ≤ g x
      · rw [if_pos c2]
        refine ⟨by omega, fun y hy hp => ?_, Or.inr ⟨x, by omega, c, rfl⟩⟩
        by_cases e : y = x
        · rw [e]; exact Int.le_refl _
        · have := i2 y (by omega) hp
          omega
      · rw [if_neg c2]
        refine ⟨i1, fun y hy hp => ?_, ?_⟩
        · by_cases e : y = x
          · rw [e]; omega
          · exact i2 y (by omega) hp
        · rcases i3 with h | ⟨y, hy, h⟩
          · exact Or.inl h
          · exact Or.inr ⟨y, by omega, h⟩
    · rw [if_neg c]
      refine ⟨i1, fun y hy hp => ?_, ?_⟩
      · by_cases e : y = x
        · rw [e] at hp; exact absurd hp c
        · exact i2 y (by omega) hp
      · rcases i3 with h | ⟨y, hy, h⟩
        · exact Or.inl h
        · exact Or.inr ⟨y, by omega, h⟩
theorem sMx_p {f : Nat → Int} : ∀ x, 0 ≤ sMx f x ∧ (∀ u, u < x → f u ≤ sMx f x) ∧ (sMx f x = 0 ∨ ∃ u, u < x ∧ f u = sMx f x) := by
  intro x
  induction x with
  | zero => exact ⟨Int.le_refl _, fun y hy => absurd hy (by omega), Or.inl rfl⟩
  | succ x ih =>
    obtain ⟨i1, i2, i3⟩ := ih
    rw [sMx]
    by_cases c2 : sMx f x < f x
    · rw [if_pos c2]
      refine ⟨by omega, fun y hy => ?_, Or.inr ⟨x, by omega, rfl⟩⟩
      by_cases e : y = x
      · rw [e]; exact Int.le_refl _
      · have := i2 y (by omega)
        omega
    · rw [if_neg c2]
      refine ⟨i1, fun y hy => ?_, ?_⟩
      · by_cases e : y = x
        · rw [e]; omega
        · exact i2 y (by omega)
      · rcases i3 with h | ⟨y, hy, h⟩
        · exact Or.inl h
        · exact Or.inr ⟨y, by omega, h⟩
def canB (a : Nat → Int) (j now y : Nat) : Bool := (nCan (fun u => sY a j now (5 * (u : Int)) 0) 20).testBit y
theorem sMy_by {a : Nat → Int} {j now : Nat} (hn : now ≤ 11) : sMy (canB a j now) (sG a j) 12 = sBy a j now := by
  obtain ⟨_, _, h3⟩ := sCan_n (a := a) (j := j) hn 20
  obtain ⟨a1, a2, a3⟩ := sMy_p (p := canB a j now) (g := sG a j) 12
  obtain ⟨b1, b2, b3⟩ := sMx_p (f := fun u => sG a j (sY a j now (5 * (u : Int)) 0)) 20
  have le1 : sMy (canB a j now) (sG a j) 12 ≤ sBy a j now := by
    rcases a3 with h | ⟨y, hy, hp, h⟩
    · rw [h]; exact b1
    · obtain ⟨u, hu, e⟩ := (h3 y).mp hp
      have := b2 u hu
      rw [← h, ← e]
      exact this
  have le2 : sBy a j now ≤ sMy (canB a j now) (sG a j) 12 := by
    rcases b3 with h | ⟨u, hu, h⟩
    · unfold sBy
      rw [h]; exact a1
    · have yb := sY_le a j now (5 * (u : Int)) 0
      have := a2 (sY a j now (5 * (u : Int)) 0) (by omega) ((h3 _).mpr ⟨u, hu, rfl⟩)
      unfold sBy
      rw [← h]
      exact this
  omega
section RB
variable {S : St} {r : Nat} {a : Nat → Int} {j : Nat}
theorem rByL (hm : ∀ k, k < 132 → S.1 r k = iI (a k)) (hj : j < 8) (hw : WT a j) {now : Nat} (hn : now ≤ 11) {y2 y3 y4 y5 y6 y7 : Int32} {k : Int32 → Option (Int32 × St)} :
    ∀ d n x : Nat, x + d = 12 → d < n → f_X8_mostBy_L104 n r y2 y3 y4 y5 y6 y7 (iI j) (sCan a j now 20) (iI (sMy (canB a j now) (sG a j) x)) (iI x) S k = k (iI (sBy a j now)) := by
  obtain ⟨h1, h2, h3⟩ := sCan_n (a := a) (j := j) hn 20
  have p12 : (2 : Nat) ^ 12 = 4096 := rfl
  intro d
  induction d with
  | zero =>
    intro n x hx hd
    obtain ⟨n, rfl⟩ : ∃ p, n = p + 1 := ⟨n - 1, by omega⟩
    obtain rfl : x = 12 := by omega
    rw [f_X8_mostBy_L104, sMy_by hn]
    simp (disch := omega) only [li_0, li_1, li_2, li_3, li_4, li_5, li_6, li_7, li_8, li_9, li_10, li_11, li_12, li_16, li_19, li_20, li_28, li_48, li_57, li_59, li_60, li_96, li_97, li_99, li_100, li_102, li_103, li_104, li_112, li_115, li_116, li_118, li_119, li_121, li_124, li_132, li_255, li_256, li_1000, li_2000, li_1000000000, iI_add, iI_sub, iI_mul, iI_neg, iI_lt, iI_le, iI_eq, iI_clamp, iI_s, iI_m1, iI_div, bs, tn, tn4, tn12, tn20, tn124, tn28, itT, itF, if_pos, if_neg]
  | succ d ih =>
    intro n x hx hd
    obtain ⟨n, rfl⟩ : ∃ p, n = p + 1 := ⟨n - 1, by omega⟩
    have i1 := ih n (x + 1) (by omega) (by omega)
    have e1 : (sCan a j now 20 >>> (iI (x : Int) &&& 31)) &&& iI 1 = iI (if canB a j now x = true then 1 else 0) := by
      rw [h1, iI_bit (by omega) (by omega) (by omega), Int.toNat_natCast]
      by_cases c : canB a j now x = true
      · rw [if_pos c]
        unfold canB at c
        rw [Nat.testBit_eq_decide_div_mod_eq, decide_eq_true_eq] at c
        rw [c]; rfl
      · rw [if_neg c]
        unfold canB at c
        rw [Nat.testBit_eq_decide_div_mod_eq, decide_eq_true_eq] at c
        rw [show nCan (fun u => sY a j now (5 * (u : Int)) 0) 20 / 2 ^ x % 2 = 0 by omega]; rfl
    have g2 : S.1 r (28 + 12 * j + x) = iI (sG a j x) := hm _ (by omega)
    have b1 := sG_b hw (y := x) (by omega)
    have b2 : 0 ≤ sMy (canB a j now) (sG a j) x ∧ sMy (canB a j now) (sG a j) x ≤ 99 := by
      obtain ⟨a1, _, a3⟩ := sMy_p (p := canB a j now) (g := sG a j) x
      rcases a3 with h | ⟨y, hy, _, h⟩
      · omega
      · have := sG_b hw (y := y) (by omega)
        omega
    have e7 := rMost (x := sMy (canB a j now) (sG a j) x) (y := sG a j x) (by omega) (by omega) (by omega) (by omega)
    rw [sMy] at i1
    rw [f_X8_mostBy_L104]
    by_cases c : canB a j now x = true
    · rw [if_pos c] at i1 e1
      simp (disch := omega) only [li_0, li_1, li_2, li_3, li_4, li_5, li_6, li_7, li_8, li_9, li_10, li_11, li_12, li_16, li_19, li_20, li_28, li_48, li_57, li_59, li_60, li_96, li_97, li_99, li_100, li_102, li_103, li_104, li_112, li_115, li_116, li_118, li_119, li_121, li_124, li_132, li_255, li_256, li_1000, li_2000, li_1000000000, iI_add, iI_sub, iI_mul, iI_neg, iI_lt, iI_le, iI_eq, iI_clamp, iI_s, iI_m1, iI_div, bs, tn, tn4, tn12, tn20, tn124, tn28, itT, itF, if_pos, if_neg, e1, rAt, g2, e7, i1]
    · rw [if_neg c] at i1 e1
      simp (disch := omega) only [li_0, li_1, li_2, li_3, li_4, li_5, li_6, li_7, li_8, li_9, li_10, li_11, li_12, li_16, li_19, li_20, li_28, li_48, li_57, li_59, li_60, li_96, li_97, li_99, li_100, li_102, li_103, li_104, li_112, li_115, li_116, li_118, li_119, li_121, li_124, li_132, li_255, li_256, li_1000, li_2000, li_1000000000, iI_add, iI_sub, iI_mul, iI_neg, iI_lt, iI_le, iI_eq, iI_clamp, iI_s, iI_m1, iI_div, bs, tn, tn4, tn12, tn20, tn124, tn28, itT, itF, if_pos, if_neg, e1, i1]
end RB
def pTo (a : Nat → Int) (now m x : Nat) : Int := sSum (fun j => if m / 2 ^ j % 2 = 1 then sBy a j now else sHow a j now) x
theorem pTo_s (a : Nat → Int) (now m x : Nat) : pTo a now m (x + 1) = pTo a now m x + (if m / 2 ^ x % 2 = 1 then sBy a x now else sHow a x now) := rfl
theorem pTo_e {a : Nat → Int} {now m : Nat} : ∀ x, mFr a m x = true → pTo a now m x = sAll a x now + mSum (pGa a now) m x := by
  intro x
  induction x with
  | zero => intro _; rfl
  | succ x ih =>
    intro h
    rw [mFr] at h
    by_cases c : m / 2 ^ x % 2 = 1 ∧ ¬ a (20 + x) < 0
    · rw [if_pos c] at h; exact absurd h (by decide)
    · rw [if_neg c] at h
      have i1 := ih h
      rw [pTo_s, mSum_s, i1, show sAll a (x + 1) now = sAll a x now + sHow a x now from rfl]
      by_cases c1 : m / 2 ^ x % 2 = 1
      · rw [if_pos c1, if_pos c1]
        have c2 : a (20 + x) < 0 := by
          by_cases h9 : a (20 + x) < 0
          · exact h9
          · exact absurd ⟨c1, h9⟩ c
        have e : sHow a x now = sG a x now := if_pos c2
        unfold pGa
        omega
      · rw [if_neg c1, if_neg c1]
        omega
theorem pTo_b {a : Nat → Int} (hw : WFa a) {now : Nat} (hn : now ≤ 11) (m : Nat) {x : Nat} (hx : x ≤ 8) : 0 ≤ pTo a now m x ∧ pTo a now m x ≤ 792 := by
  have h := sSum_b (f := fun j => if m / 2 ^ j % 2 = 1 then sBy a j now else sHow a j now) (B := 99) (n := 0) (by omega) x (fun j hj => by
    have h1 := sBy_b (hw.t (j := j) (by omega)) hn
    have h2 := sHow_b (hw.t (j := j) (by omega)) hn
    show 0 ≤ (if m / 2 ^ j % 2 = 1 then sBy a j now else sHow a j now) ∧ (if m / 2 ^ j % 2 = 1 then sBy a j now else sHow a j now) ≤ 99
    split <;> omega)
  unfold pTo
  omega
theorem rMaskL {S : St} {r : Nat} {a : Nat → Int} {N now : Nat} (hm : ∀ k, k < 132 → S.1 r k = iI (a k)) (hw : WFa a) (hN : a 0 = N) (hn : now ≤ 11) (hn1 : a 1 = now) {m : Nat} (hmN : m < 2 ^ N) {y3 : Int32} (drops : Int) {k : Int32 → Int32 → Int32 → Option (Int32 × St)} :
    ∀ d n x : Nat, x + d = N → d < n → f_X8_mostBy_L27 n r (iI drops) y3 (iI m) (iI (drops - mSum (sCost a) m x)) (iI (pTo a now m x)) (iI (if mFr a m x = true then 1 else 0)) (iI x) S k = k (iI (drops - mSum (sCost a) m N)) (iI (pTo a now m N)) (iI (if mFr a m N = true then 1 else 0)) := by
  have h8 := hw.1
  have p8 : 2 ^ N ≤ 2 ^ 8 := Nat.pow_le_pow_right (by omega) (by omega)
  have p9 : (2 : Nat) ^ 8 = 256 := rfl
  have e0 : S.1 r 0 = iI N := by rw [hm 0 (by omega), hN]
  have a00 : (iI 0 &&& iI 0 : Int32) = iI 0 := by decide
  have a01 : (iI 0 &&& iI 1 : Int32) = iI 0 := by decide
  have a10 : (iI 1 &&& iI 0 : Int32) = iI 0 := by decide
  have a11 : (iI 1 &&& iI 1 : Int32) = iI 1 := by decide
  intro d
  induction d with
  | zero =>
    intro n x hx hd
    obtain ⟨n, rfl⟩ : ∃ p, n = p + 1 := ⟨n - 1, by omega⟩
    obtain rfl : x = N := by omega
    rw [f_X8_mostBy_L27, e0, if_pos (by rw [iI_le (by omega) (by omega) (by omega) (by omega)]; omega)]
  | succ d ih =>
    intro n x hx hd
    obtain ⟨n, rfl⟩ : ∃ p, n = p + 1 := ⟨n - 1, by omega⟩
    have i1 := ih n (x + 1) (by omega) (by omega)
    have hwt := hw.t (j := x) (by omega)
    have k1 := hwt.2.2.1
    have e1 := iI_bit (A := (m : Int)) (j := x) (by omega) (by omega) (by omega)
    rw [Int.toNat_natCast] at e1
    have e2 := rHow hm (j := x) (by omega) hwt hn hn1
    have e3 := rCost hm (j := x) (by omega) hwt
    have e4 := rCan hm (j := x) (by omega) hwt hn hn1
    have e5 : ∀ y2 y3 y4 y5 y6 y7 k, f_X8_mostBy_L104 2000 r y2 y3 y4 y5 y6 y7 (iI x) (sCan a x now 20) (iI 0) (iI 0) S k = k (iI (sBy a x now)) := fun y2 y3 y4 y5 y6 y7 k => rByL hm (j := x) (by omega) hwt hn 12 2000 0 (by omega) (by omega)
    have e6 := hm (20 + x) (by omega)
    have hlt : ¬ iI (N : Int) ≤ iI (x : Int) := by rw [iI_le (by omega) (by omega) (by omega) (by omega)]; omega
    have j1 : (20 + iI (x : Int) : Int32) = iI ((20 + x : Nat) : Int) := by rw [li_20, iI_add]; rfl
    have j2 : (iI ((20 + x : Nat) : Int)).toNatClampNeg = 20 + x := by rw [iI_clamp (by omega) (by omega)]; rfl
    have j3 : ¬ (iI ((20 + x : Nat) : Int) < iI 0 ∨ 132 ≤ 20 + x) := by rw [iI_lt (by omega) (by omega) (by omega) (by omega)]; omega
    have j4 : (iI (x : Int) + iI 1 : Int32) = iI ((x + 1 : Nat) : Int) := by rw [iI_add]; rfl
    have z0 : (0 : Int32) = iI 0 := rfl
    have z1 : (1 : Int32) = iI 1 := rfl
    rw [pTo_s, mSum_s] at i1
    rw [f_X8_mostBy_L27, e0, if_neg hlt, z1, e1, z0]
    by_cases c : m / 2 ^ x % 2 = 1
    · rw [if_pos c, if_pos c, ← Int.sub_sub] at i1
      rw [c, if_neg (show ¬ iI ((1 : Nat) : Int) = iI 0 by decide), j1, j2, if_neg j3, e6]
      by_cases c2 : a (20 + x) < 0
      · have eF : mFr a m (x + 1) = mFr a m x := by
          rw [mFr]
          exact if_neg (fun z => z.2 c2)
        rw [eF] at i1
        rw [if_neg (show ¬ iI 0 ≤ iI (a (20 + x)) by rw [iI_le (by omega) (by omega) (by omega) (by omega)]; omega), e3, bs, e4, bs, e5, iI_sub, iI_add, j4]
        by_cases c3 : mFr a m x = true
        · rw [if_pos c3] at i1 ⊢
          rw [a11]; exact i1
        · rw [if_neg c3] at i1 ⊢
          rw [a01]; exact i1
      · have eF : mFr a m (x + 1) = false := by
          rw [mFr]
          exact if_pos ⟨c, c2⟩
        rw [eF, if_neg (show ¬ (false = true) by decide)] at i1
        rw [if_pos (show iI 0 ≤ iI (a (20 + x)) by rw [iI_le (by omega) (by omega) (by omega) (by omega)]; omega), e3, bs, e4, bs, e5, iI_sub, iI_add, j4]
        by_cases c3 : mFr a m x = true
        · rw [if_pos c3, a10]; exact i1
        · rw [if_neg c3, a00]; exact i1
    · have eF : mFr a m (x + 1) = mFr a m x := by
        rw [mFr]
        exact if_neg (fun z => c z.1)
      rw [if_neg c, if_neg c, Int.add_zero, eF] at i1
      rw [show m / 2 ^ x % 2 = 0 by omega, if_pos (show iI ((0 : Nat) : Int) = iI 0 from rfl), e2, bs, iI_add, j4]
      exact i1
def rFm (S S' : St) : Prop := ∀ i k, ¬ (i = 74 ∧ k = 12) → S'.1 i k = S.1 i k
theorem rMostL {S : St} {r : Nat} (hr : r = 75 ∨ r = 76) {a : Nat → Int} {N now : Nat} (hm : RM S r a) (hw : WFa a) (hN : a 0 = N) (hn : now ≤ 11) (hn1 : a 1 = now) {drops : Int} (hd : 0 ≤ drops ∧ drops ≤ 99) {k : Int32 → St → Option (Int32 × St)} :
    ∀ d n m : Nat, ∀ S' : St, m + d = 2 ^ N → d < n → rFm S S' → (m = 0 ∨ S'.1 74 12 = iI (qBest (pFr a N) (pCo a N) (fun m => pTo a now m N) drops m).1) →
    ∃ S'', rFm S S'' ∧ S''.1 74 12 = iI (qBest (pFr a N) (pCo a N) (fun m => pTo a now m N) drops (2 ^ N)).1 ∧ f_X8_mostBy_L5 n r (iI drops) (iI (qBest (pFr a N) (pCo a N) (fun m => pTo a now m N) drops m).2) (iI m) S' k = k (iI (qBest (pFr a N) (pCo a N) (fun m => pTo a now m N) drops (2 ^ N)).2) S'' := by
  have h8 := hw.1
  have p8 : 2 ^ N ≤ 2 ^ 8 := Nat.pow_le_pow_right (by omega) (by omega)
  have p9 : (2 : Nat) ^ 8 = 256 := rfl
  have p1 : 0 < 2 ^ N := Nat.two_pow_pos N
  obtain ⟨z1, z2, z3⟩ := p00 a N now
  have bQ : ∀ x, -1 ≤ (qBest (pFr a N) (pCo a N) (fun m => pTo a now m N) drops x).2 ∧ (qBest (pFr a N) (pCo a N) (fun m => pTo a now m N) drops x).2 ≤ 792 := by
    intro x
    induction x with
    | zero => exact ⟨Int.le_refl _, by show (-1 : Int) ≤ 792; omega⟩
    | succ x ih =>
      rw [qBest]
      split
      · have := pTo_b hw hn x (x := N) (by omega)
        show -1 ≤ pTo a now x N ∧ pTo a now x N ≤ 792
        omega
      · exact ih
  intro d
  induction d with
  | zero =>
    intro n m S' hx hdn q1 q2
    obtain ⟨n, rfl⟩ : ∃ p, n = p + 1 := ⟨n - 1, by omega⟩
    obtain rfl : m = 2 ^ N := by omega
    have e0 : S'.1 r 0 = iI N := by rw [q1 _ _ (by omega), hm 0 (by omega), hN]
    refine ⟨S', q1, q2.resolve_left (by omega), ?_⟩
    rw [f_X8_mostBy_L5, e0, show (1 : Int32) = iI 1 from rfl, iI_shl (by omega), if_pos (by rw [iI_le (by omega) (by omega) (by omega) (by omega)]; omega)]
  | succ d ih =>
    intro n m S' hx hdn q1 q2
    obtain ⟨n, rfl⟩ : ∃ p, n = p + 1 := ⟨n - 1, by omega⟩
    have hmN : m < 2 ^ N := by omega
    have hm' : ∀ k, k < 132 → S'.1 r k = iI (a k) := fun k hk => by rw [q1 _ _ (by omega)]; exact hm k hk
    have e0 : S'.1 r 0 = iI N := by rw [hm' 0 (by omega), hN]
    have hlt : ¬ iI ((2 ^ N : Nat) : Int) ≤ iI (m : Int) := by rw [iI_le (by omega) (by omega) (by omega) (by omega)]; omega
    have e1 : ∀ k, f_X8_mostBy_L27 2000 r (iI drops) (iI (qBest (pFr a N) (pCo a N) (fun m => pTo a now m N) drops m).2) (iI m) (iI drops) (iI 0) (iI 1) (iI 0) S' k = k (iI (drops - pCo a N m)) (iI (pTo a now m N)) (iI (if mFr a m N = true then 1 else 0)) := fun k => by
      have h := rMaskL hm' hw hN hn hn1 hmN (y3 := iI (qBest (pFr a N) (pCo a N) (fun m => pTo a now m N) drops m).2) drops (k := k) N 2000 0 (by omega) (by omega)
      have h1 : drops - mSum (sCost a) m 0 = drops := Int.sub_zero _
      rw [h1] at h
      exact h
    have b1 := pTo_b hw hn m (x := N) (by omega)
    have b2 := pCo_b hw (N := N) (by omega) m
    have b3 := bQ m
    have j1 : (iI (m : Int) + iI 1 : Int32) = iI ((m + 1 : Nat) : Int) := by rw [iI_add]; rfl
    have z0 : (0 : Int32) = iI 0 := rfl
    have z1' : (1 : Int32) = iI 1 := rfl
    by_cases c : pFr a N m = true ∧ 0 ≤ drops - pCo a N m ∧ (qBest (pFr a N) (pCo a N) (fun m => pTo a now m N) drops m).2 < pTo a now m N
    · have eQ : qBest (pFr a N) (pCo a N) (fun m => pTo a now m N) drops (m + 1) = (m, pTo a now m N) := if_pos c
      obtain ⟨S'', g1, g2, g3⟩ := ih n (m + 1) (up S' 74 12 (iI m)) (by omega) (by omega) (fun i k hi => by rw [up_n (by omega)]; exact q1 i k hi) (Or.inr (by rw [eQ]; exact up_s))
      refine ⟨S'', g1, g2, ?_⟩
      rw [eQ] at g3
      have c1 : mFr a m N = true := c.1
      rw [if_pos c1] at e1
      rw [f_X8_mostBy_L5, e0, z1', iI_shl (by omega), if_neg hlt, z0, e1, if_neg (by decide), if_neg (by rw [iI_lt (by omega) (by omega) (by omega) (by omega)]; omega), if_pos (by rw [iI_lt (by omega) (by omega) (by omega) (by omega)]; exact c.2.2), j1]
      exact g3
    · have eQ : qBest (pFr a N) (pCo a N) (fun m => pTo a now m N) drops (m + 1) = qBest (pFr a N) (pCo a N) (fun m => pTo a now m N) drops m := if_neg c
      have m0 : m ≠ 0 := by
        intro h
        subst h
        apply c
        refine ⟨z1, by rw [z2]; omega, ?_⟩
        show (-1 : Int) < pTo a now 0 N
        omega
      obtain ⟨S'', g1, g2, g3⟩ := ih n (m + 1) S' (by omega) (by omega) q1 (Or.inr (by rw [eQ]; exact q2.resolve_left m0))
      refine ⟨S'', g1, g2, ?_⟩
      rw [eQ] at g3
      rw [f_X8_mostBy_L5, e0, z1', iI_shl (by omega), if_neg hlt, z0, e1]
      by_cases c1 : mFr a m N = true
      · rw [if_pos c1, if_neg (by decide)]
        by_cases c2 : 0 ≤ drops - pCo a N m
        · rw [if_neg (by rw [iI_lt (by omega) (by omega) (by omega) (by omega)]; omega), if_neg (by rw [iI_lt (by omega) (by omega) (by omega) (by omega)]; exact fun z => c ⟨c1, c2, z⟩), j1]
          exact g3
        · rw [if_pos (by rw [iI_lt (by omega) (by omega) (by omega) (by omega)]; omega), j1]
          exact g3
      · rw [if_neg c1, if_pos (by decide), j1]
        exact g3
theorem rMostBy {S : St} {r : Nat} (hr : r = 75 ∨ r = 76) {a : Nat → Int} {N now : Nat} (hm : RM S r a) (hw : WFa a) (hN : a 0 = N) (hn : now ≤ 11) (hn1 : a 1 = now) {drops : Int} (hd : 0 ≤ drops ∧ drops ≤ 99) :
    ∃ S', rFm S S' ∧ S'.1 74 12 = iI (pBest (pFr a N) (pCo a N) (pGn a N now) drops (2 ^ N)).1 ∧ f_X8_mostBy r (iI drops) S = some (iI (sAll a N now + (pBest (pFr a N) (pCo a N) (pGn a N now) drops (2 ^ N)).2), S') := by
  have h8 := hw.1
  have p8 : 2 ^ N ≤ 2 ^ 8 := Nat.pow_le_pow_right (by omega) (by omega)
  have p9 : (2 : Nat) ^ 8 = 256 := rfl
  obtain ⟨z1, z2, z3⟩ := p00 a N now
  have b := sAll_b (a := a) (N := N) (now := now) (fun j hj => hw.t (by omega)) (by omega) hn
  have eq := qBest_p (fr := pFr a N) (co := pCo a N) (ga := pGn a N now) (to := fun m => pTo a now m N) (drops := drops) (b := sAll a N now) z1 z2 z3 hd.1 b.1 (M := 2 ^ N) (fun m _ hf => pTo_e N hf) (2 ^ N) (Nat.two_pow_pos N) (Nat.le_refl _)
  obtain ⟨S', g1, g2, g3⟩ := rMostL hr hm hw hN hn hn1 hd (k := fun y s => some (y, s)) (2 ^ N) 2000 0 S (by omega) (by omega) (fun _ _ _ => rfl) (Or.inl rfl)
  rw [eq] at g2 g3
  refine ⟨S', g1, g2, ?_⟩
  rw [f_X8_mostBy]
  exact g3
end
section
-- ===== the most by so many drops =====
theorem e_most {S : St} (hS : Inv S) (a1 : Int32) : ∃ (z1 : Int32 × St) (z2 : Int32 × St), f_X7_most a1 S = some z1 ∧ f_X8_most_ a1 z1.2 = some z2 ∧ z1.1 = z2.1 ∧ Inv z2.2 := by
  obtain ⟨⟨a, hw, hc, hm0⟩, -⟩ := id hS
  have hm : ∀ k, k < 132 → S.1 75 k = iI (a k) := hm0
  have h8 := hw.1
  have w1 := hw.2.1
  have w2 := hw.2.2.1
  have w3 := hw.2.2.2.1
  obtain ⟨now, hnow⟩ : ∃ n : Nat, a 1 = n := ⟨(a 1).toNat, by omega⟩
  obtain ⟨N, hN⟩ : ∃ n : Nat, a 0 = n := ⟨(a 0).toNat, by omega⟩
  have hn : now ≤ 11 := by omega
  have hN8 : N ≤ 8 := by omega
  have p1 : S.1 1 1 = iI now := by rw [hc.1 1 (by omega), hnow]
  have p0 : S.1 1 0 = iI N := by rw [hc.1 0 (by omega), hN]
  have m0 : S.1 75 0 = iI N := by rw [hm 0 (by omega), hN]
  have m1 : S.1 75 1 = iI now := by rw [hm 1 (by omega), hnow]
  obtain ⟨x, x1, x2, rfl⟩ := iI_any a1
  have e1 := cTwo x1 x2
  have g1 := rIn (x := x) (l := 0) (u := 1) x1 x2 (by omega) (by omega) (by omega) (by omega)
  by_cases c : 0 ≤ x ∧ x ≤ 1
  · obtain ⟨S1, c1, c2, c3⟩ := cWeigh hc hw hN hn
    have p2 : S1.1 1 2 = iI (a 2) := by rw [c2 _ _ (by omega)]; exact hc.1 2 (by omega)
    have e2 := cBest hw hN8 hn c3 (drops := a 2) w2
    have e3 := cGainB hN8 c3 (drops := a 2) w2
    have e4 := c3.2.2.1
    have hm1 : RM S1 75 a := fun k hk => by rw [c2 _ _ (by omega)]; exact hm k hk
    obtain ⟨S2, d1, d2, d3⟩ := rMostBy (S := S1) (Or.inl rfl) hm1 hw hN hn hnow (drops := a 2) w2
    have m2 := hm1 2 (by omega)
    have i9 : Inv S2 := hS.sm (fun i k hs => by
      unfold scr at hs
      rw [d1 _ _ (by omega), c2 _ _ (by omega)])
    by_cases c9 : x = 0
    · exact e_mk (v := iI (sAll a N now + (pBest (pFr a N) (pCo a N) (pGn a N now) (a 2) (2 ^ N)).2)) (S1 := S1) (S2 := S2) (by simp (disch := omega) only [li_0, li_1, li_2, li_3, li_4, li_5, li_6, li_7, li_8, li_9, li_10, li_11, li_12, li_16, li_19, li_20, li_28, li_48, li_57, li_59, li_60, li_96, li_97, li_99, li_100, li_102, li_103, li_104, li_112, li_115, li_116, li_118, li_119, li_121, li_124, li_132, li_255, li_256, li_1000, li_2000, li_1000000000, iI_add, iI_sub, iI_mul, iI_neg, iI_lt, iI_le, iI_eq, iI_clamp, iI_s, iI_m1, iI_div, bs, tn, tn4, tn12, tn20, tn124, tn28, itT, itF, if_pos, if_neg, f_X7_most, e1, p1, c1, p2, e2, e3, e4]) (by simp (disch := omega) only [li_0, li_1, li_2, li_3, li_4, li_5, li_6, li_7, li_8, li_9, li_10, li_11, li_12, li_16, li_19, li_20, li_28, li_48, li_57, li_59, li_60, li_96, li_97, li_99, li_100, li_102, li_103, li_104, li_112, li_115, li_116, li_118, li_119, li_121, li_124, li_132, li_255, li_256, li_1000, li_2000, li_1000000000, iI_add, iI_sub, iI_mul, iI_neg, iI_lt, iI_le, iI_eq, iI_clamp, iI_s, iI_m1, iI_div, bs, tn, tn4, tn12, tn20, tn124, tn28, itT, itF, if_pos, if_neg, f_X8_most_, g1, m2, d3]) i9
    · exact e_mk (v := iI (pBest (pFr a N) (pCo a N) (pGn a N now) (a 2) (2 ^ N)).1) (S1 := S1) (S2 := S2) (by simp (disch := omega) only [li_0, li_1, li_2, li_3, li_4, li_5, li_6, li_7, li_8, li_9, li_10, li_11, li_12, li_16, li_19, li_20, li_28, li_48, li_57, li_59, li_60, li_96, li_97, li_99, li_100, li_102, li_103, li_104, li_112, li_115, li_116, li_118, li_119, li_121, li_124, li_132, li_255, li_256, li_1000, li_2000, li_1000000000, iI_add, iI_sub, iI_mul, iI_neg, iI_lt, iI_le, iI_eq, iI_clamp, iI_s, iI_m1, iI_div, bs, tn, tn4, tn12, tn20, tn124, tn28, itT, itF, if_pos, if_neg, f_X7_most, e1, p1, c1, p2, e2]) (by simp (disch := omega) only [li_0, li_1, li_2, li_3, li_4, li_5, li_6, li_7, li_8, li_9, li_10, li_11, li_12, li_16, li_19, li_20, li_28, li_48, li_57, li_59, li_60, li_96, li_97, li_99, li_100, li_102, li_103, li_104, li_112, li_115, li_116, li_118, li_119, li_121, li_124, li_132, li_255, li_256, li_1000, li_2000, li_1000000000, iI_add, iI_sub, iI_mul, iI_neg, iI_lt, iI_le, iI_eq, iI_clamp, iI_s, iI_m1, iI_div, bs, tn, tn4, tn12, tn20, tn124, tn28, itT, itF, if_pos, if_neg, f_X8_most_, g1, m2, d3, d2]) i9
  · exact e_no hS (-2) 2 (by omega) (by omega) (by simp (disch := omega) only [li_0, li_1, li_2, li_3, li_4, li_5, li_6, li_7, li_8, li_9, li_10, li_11, li_12, li_16, li_19, li_20, li_28, li_48, li_57, li_59, li_60, li_96, li_97, li_99, li_100, li_102, li_103, li_104, li_112, li_115, li_116, li_118, li_119, li_121, li_124, li_132, li_255, li_256, li_1000, li_2000, li_1000000000, iI_add, iI_sub, iI_mul, iI_neg, iI_lt, iI_le, iI_eq, iI_clamp, iI_s, iI_m1, iI_div, bs, tn, tn4, tn12, tn20, tn124, tn28, itT, itF, if_pos, if_neg, f_X7_most, e1, bse]) (fun S1 q1 q2 => by simp (disch := omega) only [li_0, li_1, li_2, li_3, li_4, li_5, li_6, li_7, li_8, li_9, li_10, li_11, li_12, li_16, li_19, li_20, li_28, li_48, li_57, li_59, li_60, li_96, li_97, li_99, li_100, li_102, li_103, li_104, li_112, li_115, li_116, li_118, li_119, li_121, li_124, li_132, li_255, li_256, li_1000, li_2000, li_1000000000, iI_add, iI_sub, iI_mul, iI_neg, iI_lt, iI_le, iI_eq, iI_clamp, iI_s, iI_m1, iI_div, bs, tn, tn4, tn12, tn20, tn124, tn28, itT, itF, if_pos, if_neg, f_X8_most_, g1, bse])
-- ===== the fewest drops for it =====
theorem few_eq {a : Nat → Int} (hw : WFa a) {N now : Nat} (hN8 : N ≤ 8) {g : Int} (hg : g = (pBest (pFr a N) (pCo a N) (pGn a N now) 99 (2 ^ N)).2) :
    0 ≤ pFew (pFr a N) (pCo a N) (pGn a N now) g (2 ^ N) ∧ pFew (pFr a N) (pCo a N) (pGn a N now) g (2 ^ N) ≤ 80 ∧ ∀ d, 0 ≤ d → d ≤ 99 → ((pBest (pFr a N) (pCo a N) (pGn a N now) d (2 ^ N)).2 = g ↔ pFew (pFr a N) (pCo a N) (pGn a N now) g (2 ^ N) ≤ d) := by
  obtain ⟨z1, z2, z3⟩ := p00 a N now
  have P := fun d (h : 0 ≤ d) => pBest_p (fr := pFr a N) (co := pCo a N) (ga := pGn a N now) (drops := d) z1 z2 z3 h (2 ^ N) (Nat.two_pow_pos N)
  obtain ⟨h1, h2, h3, h4, h5⟩ := P 99 (by omega)
  obtain ⟨f1, f2, f3⟩ := pFew_p (fr := pFr a N) (co := pCo a N) (ga := pGn a N now) (g := g) (2 ^ N)
  have b := fun m => pCo_b hw hN8 m
  have bp : ∀ m, 0 ≤ pCo a N m := fun m => by
    have h := sSum_b (f := fun j => if m / 2 ^ j % 2 = 1 then sCost a j else 0) (B := 10) (n := 0) (by omega) N (fun j hj => by
      have := sCost_b (hw.t (j := j) (by omega))
      show 0 ≤ (if m / 2 ^ j % 2 = 1 then sCost a j else 0) ∧ (if m / 2 ^ j % 2 = 1 then sCost a j else 0) ≤ 10
      split <;> omega)
    exact h.1
  have le80 : pFew (pFr a N) (pCo a N) (pGn a N now) g (2 ^ N) ≤ 80 := by
    have := f2 _ h1 h2 (by rw [h4, hg])
    have := b (pBest (pFr a N) (pCo a N) (pGn a N now) 99 (2 ^ N)).1
    omega
  have ex : ∃ m, m < 2 ^ N ∧ pFr a N m = true ∧ pGn a N now m = g ∧ pCo a N m = pFew (pFr a N) (pCo a N) (pGn a N now) g (2 ^ N) := by
    rcases f3 with h | h
    · omega
    · exact h
  obtain ⟨m, m1, m2, m3, m4⟩ := ex
  refine ⟨by have := bp m; omega, le80, fun d h0 h99 => ?_⟩
  obtain ⟨k1, k2, k3, k4, k5⟩ := P d h0
  constructor
  · intro h
    have := f2 _ k1 k2 (by rw [k4, h])
    omega
  · intro h
    have u1 := k5 m m1 m2 (by omega)
    have u2 := h5 _ k1 k2 (by have := b (pBest (pFr a N) (pCo a N) (pGn a N now) d (2 ^ N)).1; omega)
    rw [k4] at u2
    omega
theorem rFDL {S : St} {a : Nat → Int} {N now : Nat} (hm : RM S 75 a) (hw : WFa a) (hN : a 0 = N) (hn : now ≤ 11) (hn1 : a 1 = now) {g : Int} (hg : -792 ≤ g ∧ g ≤ 792) {F : Int} (hF : 0 ≤ F ∧ F ≤ 80) (hd : ∀ d, 0 ≤ d → d ≤ 99 → ((pBest (pFr a N) (pCo a N) (pGn a N now) d (2 ^ N)).2 = g ↔ F ≤ d)) (hb : ∀ d, -792 ≤ (pBest (pFr a N) (pCo a N) (pGn a N now) d (2 ^ N)).2 ∧ (pBest (pFr a N) (pCo a N) (pGn a N now) d (2 ^ N)).2 ≤ 792) {k : Int32 → St → Option (Int32 × St)} {k9 : St → Option (Int32 × St)} :
    ∀ d n x : Nat, ∀ S' : St, (x : Int) + d = F → d < n → rFm S S' → ∃ S'', rFm S S'' ∧ f_X8_fewDrops_L13 n (iI (sAll a N now + g)) (iI x) S' k k9 = k (iI F) S'' := by
  have h8 := hw.1
  have bA := sAll_b (a := a) (N := N) (now := now) (fun j hj => hw.t (by omega)) (by omega) hn
  intro d
  induction d with
  | zero =>
    intro n x S' hx hdn q
    obtain ⟨n, rfl⟩ : ∃ p, n = p + 1 := ⟨n - 1, by omega⟩
    have hm1 : RM S' 75 a := fun k hk => by rw [q _ _ (by omega)]; exact hm k hk
    obtain ⟨S2, d1, d2, d3⟩ := rMostBy (S := S') (Or.inl rfl) hm1 hw hN hn hn1 (drops := (x : Int)) (by omega)
    have e := (hd x (by omega) (by omega)).mpr (by omega)
    refine ⟨S2, fun i k hi => by rw [d1 i k hi]; exact q i k hi, ?_⟩
    rw [e] at d3
    rw [f_X8_fewDrops_L13, if_neg (by rw [show (99 : Int32) = iI 99 from rfl, iI_lt (by omega) (by omega) (by omega) (by omega)]; omega), d3, bs, if_pos rfl, show F = (x : Int) by omega]
  | succ d ih =>
    intro n x S' hx hdn q
    obtain ⟨n, rfl⟩ : ∃ p, n = p + 1 := ⟨n - 1, by omega⟩
    have hm1 : RM S' 75 a := fun k hk => by rw [q _ _ (by omega)]; exact hm k hk
    obtain ⟨S2, d1, d2, d3⟩ := rMostBy (S := S') (Or.inl rfl) hm1 hw hN hn hn1 (drops := (x : Int)) (by omega)
    have e : ¬ (pBest (pFr a N) (pCo a N) (pGn a N now) (x : Int) (2 ^ N)).2 = g := fun z => by
      have := (hd x (by omega) (by omega)).mp z
      omega
    have b := hb (x : Int)
    obtain ⟨S'', g1, g2⟩ := ih n (x + 1) S2 (by omega) (by omega) (fun i k hi => by rw [d1 i k hi]; exact q i k hi)
    refine ⟨S'', g1, ?_⟩
    have j4 : (iI (x : Int) + 1 : Int32) = iI ((x + 1 : Nat) : Int) := by rw [show (1 : Int32) = iI 1 from rfl, iI_add]; rfl
    rw [f_X8_fewDrops_L13, if_neg (by rw [show (99 : Int32) = iI 99 from rfl, iI_lt (by omega) (by omega) (by omega) (by omega)]; omega), d3, bs, if_neg (by rw [iI_eq (by omega) (by omega) (by omega) (by omega)]; omega), j4]
    exact g2
theorem pBest_b {a : Nat → Int} (hw : WFa a) {N now : Nat} (hN8 : N ≤ 8) (hn : now ≤ 11) (d : Int) : ∀ x, -792 ≤ (pBest (pFr a N) (pCo a N) (pGn a N now) d x).2 ∧ (pBest (pFr a N) (pCo a N) (pGn a N now) d x).2 ≤ 792 := by
  intro x
  induction x with
  | zero => exact ⟨by show (-792 : Int) ≤ 0; omega, by show (0 : Int) ≤ 792; omega⟩
  | succ x ih =>
    rw [pBest]
    split
    · exact pGn_b hw hN8 hn x
    · exact ih
theorem e_fewDrops {S : St} (hS : Inv S)  : ∃ (z1 : Int32 × St) (z2 : Int32 × St), f_X7_fewDrops S = some z1 ∧ f_X8_fewDrops z1.2 = some z2 ∧ z1.1 = z2.1 ∧ Inv z2.2 := by
  obtain ⟨⟨a, hw, hc, hm0⟩, -⟩ := id hS
  have hm : ∀ k, k < 132 → S.1 75 k = iI (a k) := hm0
  have h8 := hw.1
  have w1 := hw.2.1
  have w2 := hw.2.2.1
  have w3 := hw.2.2.2.1
  obtain ⟨now, hnow⟩ : ∃ n : Nat, a 1 = n := ⟨(a 1).toNat, by omega⟩
  obtain ⟨N, hN⟩ : ∃ n : Nat, a 0 = n := ⟨(a 0).toNat, by omega⟩
  have hn : now ≤ 11 := by omega
  have hN8 : N ≤ 8 := by omega
  have p1 : S.1 1 1 = iI now := by rw [hc.1 1 (by omega), hnow]
  have p0 : S.1 1 0 = iI N := by rw [hc.1 0 (by omega), hN]
  have m0 : S.1 75 0 = iI N := by rw [hm 0 (by omega), hN]
  have m1 : S.1 75 1 = iI now := by rw [hm 1 (by omega), hnow]
  obtain ⟨S1, c1, c2, c3⟩ := cWeigh hc hw hN hn
  have e2 := cBest hw hN8 hn c3 (drops := 99) (by omega)
  have e3 := cGainB hN8 c3 (drops := 99) (by omega)
  obtain ⟨g, hg⟩ : ∃ g, g = (pBest (pFr a N) (pCo a N) (pGn a N now) 99 (2 ^ N)).2 := ⟨_, rfl⟩
  have bg : -792 ≤ g ∧ g ≤ 792 := by rw [hg]; exact pBest_b hw hN8 hn 99 _
  have e4 := cFewPot hw hN8 hn c3 (g := g) bg
  obtain ⟨f1, f2, f3⟩ := few_eq hw (N := N) (now := now) hN8 hg
  have hm1 : RM S1 75 a := fun k hk => by rw [c2 _ _ (by omega)]; exact hm k hk
  obtain ⟨S2, d1, d2, d3⟩ := rMostBy (S := S1) (Or.inl rfl) hm1 hw hN hn hnow (drops := 99) (by omega)
  have hm2 : RM S2 75 a := fun k hk => by rw [d1 _ _ (by omega)]; exact hm1 k hk
  rw [← hg] at e3 d3
  obtain ⟨F, hF⟩ : ∃ F : Nat, (F : Int) = pFew (pFr a N) (pCo a N) (pGn a N now) g (2 ^ N) := ⟨(pFew (pFr a N) (pCo a N) (pGn a N now) g (2 ^ N)).toNat, by omega⟩
  obtain ⟨S3, h1, h2⟩ := rFDL (S := S2) hm2 hw hN hn hnow bg ⟨f1, f2⟩ f3 (fun d => pBest_b hw hN8 hn d _) (k := fun y5 S6 => some (y5, S6)) (k9 := fun S7 => some ((-9), S7)) F 2000 0 S2 (by omega) (by omega) (fun _ _ _ => rfl)
  have i9 : Inv S3 := hS.sm (fun i k hs => by
    unfold scr at hs
    rw [h1 _ _ (by omega), d1 _ _ (by omega), c2 _ _ (by omega)])
  refine e_mk (v := iI (pFew (pFr a N) (pCo a N) (pGn a N now) g (2 ^ N))) (S1 := S1) (S2 := S3) ?_ ?_ i9
  · rw [f_X7_fewDrops, p1, c1, bs, show (99 : Int32) = iI 99 from rfl, e2, bs, e3, bs, e4]
    rfl
  · rw [f_X8_fewDrops, show (99 : Int32) = iI 99 from rfl, d3, bs]
    exact h2
-- ===== the best year to glue =====
section ST1
variable (a : Nat → Int) (v : Int)
theorem sC_st1 (j now : Nat) : sC (st a 1 v) j now = sC a j now := by
  funext y
  unfold sC
  rw [sG_st1, st_n (by omega), st_n (by omega)]
theorem sR_st1 (j : Nat) (m f : Int) : sR (st a 1 v) j m f = sR a j m f := by
  unfold sR
  rw [st_n (by omega), st_n (by omega)]
theorem sY_st1 (j now : Nat) (m f : Int) : sY (st a 1 v) j now m f = sY a j now m f := by
  unfold sY sL
  rw [sC_st1, sR_st1, st_n (by omega)]
theorem sBy_st1 (j now : Nat) : sBy (st a 1 v) j now = sBy a j now := by
  have e : (fun u : Nat => sG (st a 1 v) j (sY (st a 1 v) j now (5 * (u : Int)) 0)) = fun u : Nat => sG a j (sY a j now (5 * (u : Int)) 0) := by
    funext u
    rw [sY_st1, sG_st1]
  unfold sBy
  rw [e]
theorem pGn_st1 (N now : Nat) : pGn (st a 1 v) N now = pGn a N now := by
  have e : pGa (st a 1 v) now = pGa a now := by
    funext j
    unfold pGa
    rw [sBy_st1, sG_st1]
  funext m
  unfold pGn
  rw [e]
theorem pCo_st1 (N : Nat) : pCo (st a 1 v) N = pCo a N := by
  have e : sCost (st a 1 v) = sCost a := by
    funext j
    exact sCost_st (by omega) (by omega)
  funext m
  unfold pCo
  rw [e]
theorem mFr_st1 (m : Nat) : ∀ x, mFr (st a 1 v) m x = mFr a m x := by
  intro x
  induction x with
  | zero => rfl
  | succ x ih => rw [mFr, mFr, ih, st_n (by omega)]
theorem pFr_st1 (N : Nat) : pFr (st a 1 v) N = pFr a N := by
  funext m
  exact mFr_st1 a v m N
end ST1
def yTo (a : Nat → Int) (N y : Nat) : Int := sAll a N y + (pBest (pFr a N) (pCo a N) (pGn a N y) (a 2) (2 ^ N)).2
def sBYr (f : Nat → Int) : Nat → Int × Int
  | 0 => (0, -1)
  | y + 1 => if (sBYr f y).2 < f y then ((y : Int), f y) else sBYr f y
theorem sBYr_b {f : Nat → Int} {B : Int} (hf : ∀ y, y < 12 → -B ≤ f y ∧ f y ≤ B) (hB : 1 ≤ B) : ∀ x, x ≤ 12 → -B ≤ (sBYr f x).2 ∧ (sBYr f x).2 ≤ B := by
  intro x
  induction x with
  | zero => intro _; exact ⟨by show -B ≤ -1; omega, by show -1 ≤ B; omega⟩
  | succ x ih =>
    intro h
    have h1 := ih (by omega)
    have h2 := hf x (by omega)
    rw [sBYr]
    split
    · exact h2
    · exact h1
theorem yTo_b {a : Nat → Int} (hw : WFa a) {N : Nat} (hN8 : N ≤ 8) {y : Nat} (hy : y < 12) : -1600 ≤ yTo a N y ∧ yTo a N y ≤ 1600 := by
  have h1 := pBest_b hw (N := N) (now := y) hN8 (by omega) (a 2) (2 ^ N)
  have h2 := sAll_b (a := a) (N := N) (now := y) (fun j hj => hw.t (by omega)) hN8 (by omega)
  unfold yTo
  omega
theorem cBYL {S : St} {a : Nat → Int} {N : Nat} (hc : RC S 1 a) (hw : WFa a) (hN : a 0 = N) {k : Int32 → St → Option (Int32 × St)} :
    ∀ d n y : Nat, ∀ S' : St, y + d = 12 → d < n → wFr S S' → ∃ S'', wFr S S'' ∧ f_X7_bestYear_L6 n (iI (sBYr (yTo a N) y).1) (iI (sBYr (yTo a N) y).2) (iI y) S' k = k (iI (sBYr (yTo a N) 12).1) S'' := by
  have h8 := hw.1
  have w2 := hw.2.2.1
  intro d
  induction d with
  | zero =>
    intro n y S' hx hd q
    obtain ⟨n, rfl⟩ : ∃ p, n = p + 1 := ⟨n - 1, by omega⟩
    obtain rfl : y = 12 := by omega
    refine ⟨S', q, ?_⟩
    rw [f_X7_bestYear_L6]
    simp (disch := omega) only [li_0, li_1, li_2, li_3, li_4, li_5, li_6, li_7, li_8, li_9, li_10, li_11, li_12, li_16, li_19, li_20, li_28, li_48, li_57, li_59, li_60, li_96, li_97, li_99, li_100, li_102, li_103, li_104, li_112, li_115, li_116, li_118, li_119, li_121, li_124, li_132, li_255, li_256, li_1000, li_2000, li_1000000000, iI_add, iI_sub, iI_mul, iI_neg, iI_lt, iI_le, iI_eq, iI_clamp, iI_s, iI_m1, iI_div, bs, tn, tn4, tn12, tn20, tn124, tn28, itT, itF, if_pos, if_neg]
  | succ d ih =>
    intro n y S' hx hd q
    obtain ⟨n, rfl⟩ : ∃ p, n = p + 1 := ⟨n - 1, by omega⟩
    have hc' : RC S' 1 a := hc.frt (fun i k h1 h2 => q i k (by omega))
    obtain ⟨S1, c1, c2, c3⟩ := cWeigh hc' hw hN (now := y) (by omega)
    have p2 : S1.1 1 2 = iI (a 2) := by rw [c2 _ _ (by omega)]; exact hc'.1 2 (by omega)
    have e2 := cBest hw (by omega) (by omega) c3 (drops := a 2) w2
    have e3 := cGainB (by omega) c3 (drops := a 2) w2
    have e4 := c3.2.2.1
    obtain ⟨S'', g1, g2⟩ := ih n (y + 1) S1 (by omega) (by omega) (fun i k hi => by rw [c2 i k hi]; exact q i k hi)
    have b1 := yTo_b hw (N := N) (by omega) (y := y) (by omega)
    have b2 := sBYr_b (f := yTo a N) (B := 1600) (fun y hy => yTo_b hw (by omega) hy) (by omega) y (by omega)
    have eT : sAll a N y + (pBest (pFr a N) (pCo a N) (pGn a N y) (a 2) (2 ^ N)).2 = yTo a N y := rfl
    refine ⟨S'', g1, ?_⟩
    rw [sBYr] at g2
    rw [f_X7_bestYear_L6]
    by_cases c : (sBYr (yTo a N) y).2 < yTo a N y
    · rw [if_pos c] at g2
      simp (disch := omega) only [li_0, li_1, li_2, li_3, li_4, li_5, li_6, li_7, li_8, li_9, li_10, li_11, li_12, li_16, li_19, li_20, li_28, li_48, li_57, li_59, li_60, li_96, li_97, li_99, li_100, li_102, li_103, li_104, li_112, li_115, li_116, li_118, li_119, li_121, li_124, li_132, li_255, li_256, li_1000, li_2000, li_1000000000, iI_add, iI_sub, iI_mul, iI_neg, iI_lt, iI_le, iI_eq, iI_clamp, iI_s, iI_m1, iI_div, bs, tn, tn4, tn12, tn20, tn124, tn28, itT, itF, if_pos, if_neg, c1, p2, e2, e3, e4, eT, g2]
    · rw [if_neg c] at g2
      simp (disch := omega) only [li_0, li_1, li_2, li_3, li_4, li_5, li_6, li_7, li_8, li_9, li_10, li_11, li_12, li_16, li_19, li_20, li_28, li_48, li_57, li_59, li_60, li_96, li_97, li_99, li_100, li_102, li_103, li_104, li_112, li_115, li_116, li_118, li_119, li_121, li_124, li_132, li_255, li_256, li_1000, li_2000, li_1000000000, iI_add, iI_sub, iI_mul, iI_neg, iI_lt, iI_le, iI_eq, iI_clamp, iI_s, iI_m1, iI_div, bs, tn, tn4, tn12, tn20, tn124, tn28, itT, itF, if_pos, if_neg, c1, p2, e2, e3, e4, eT, g2]
def yFr (S S' : St) : Prop := ∀ i k, ¬ (i = 76 ∨ (i = 74 ∧ k = 12)) → S'.1 i k = S.1 i k
theorem rBYL {S : St} {a : Nat → Int} {N : Nat} (hm : RM S 75 a) (hw : WFa a) (hN : a 0 = N) {k : Int32 → St → Option (Int32 × St)} :
    ∀ d n y : Nat, ∀ S' : St, y + d = 12 → d < n → yFr S S' → ∃ S'', yFr S S'' ∧ f_X8_bestYear_L6 n (iI (sBYr (yTo a N) y).1) (iI (sBYr (yTo a N) y).2) (iI y) S' k = k (iI (sBYr (yTo a N) 12).1) S'' := by
  have h8 := hw.1
  have w2 := hw.2.2.1
  intro d
  induction d with
  | zero =>
    intro n y S' hx hd q
    obtain ⟨n, rfl⟩ : ∃ p, n = p + 1 := ⟨n - 1, by omega⟩
    obtain rfl : y = 12 := by omega
    refine ⟨S', q, ?_⟩
    rw [f_X8_bestYear_L6]
    simp (disch := omega) only [li_0, li_1, li_2, li_3, li_4, li_5, li_6, li_7, li_8, li_9, li_10, li_11, li_12, li_16, li_19, li_20, li_28, li_48, li_57, li_59, li_60, li_96, li_97, li_99, li_100, li_102, li_103, li_104, li_112, li_115, li_116, li_118, li_119, li_121, li_124, li_132, li_255, li_256, li_1000, li_2000, li_1000000000, iI_add, iI_sub, iI_mul, iI_neg, iI_lt, iI_le, iI_eq, iI_clamp, iI_s, iI_m1, iI_div, bs, tn, tn4, tn12, tn20, tn124, tn28, itT, itF, if_pos, if_neg]
  | succ d ih =>
    intro n y S' hx hd q
    obtain ⟨n, rfl⟩ : ∃ p, n = p + 1 := ⟨n - 1, by omega⟩
    obtain ⟨S1, l1, l2, l3⟩ := rLays (q0 := 75) (q1 := 76) (by omega) S'
    have hm6 : RM S1 76 a := fun k hk => by rw [l3 k hk, q _ _ (by omega)]; exact hm k hk
    have hm7 : RM (up S1 76 1 (iI y)) 76 (st a 1 y) := hm6.st 1 y
    have hw7 : WFa (st a 1 (y : Int)) := hw.st0 (by omega)
    have m2 : (up S1 76 1 (iI y)).1 76 2 = iI (a 2) := by rw [up_n (by omega)]; exact hm6 2 (by omega)
    obtain ⟨S2, d1, d2, d3⟩ := rMostBy (S := up S1 76 1 (iI y)) (Or.inr rfl) hm7 hw7 (N := N) (now := y) (by rw [st_n (by omega)]; exact hN) (by omega) (st_s _ _ _) (drops := a 2) w2
    rw [pFr_st1, pCo_st1, pGn_st1, sAll_st1] at d3
    have eT : sAll a N y + (pBest (pFr a N) (pCo a N) (pGn a N y) (a 2) (2 ^ N)).2 = yTo a N y := rfl
    rw [eT] at d3
    obtain ⟨S'', g1, g2⟩ := ih n (y + 1) S2 (by omega) (by omega) (fun i k hi => by rw [d1 i k (by omega), up_n (by omega), l2 _ _ (by omega)]; exact q i k hi)
    have b1 := yTo_b hw (N := N) (by omega) (y := y) (by omega)
    have b2 := sBYr_b (f := yTo a N) (B := 1600) (fun y hy => yTo_b hw (by omega) hy) (by omega) y (by omega)
    refine ⟨S'', g1, ?_⟩
    rw [sBYr] at g2
    rw [f_X8_bestYear_L6]
    by_cases c : (sBYr (yTo a N) y).2 < yTo a N y
    · rw [if_pos c] at g2
      simp (disch := omega) only [li_0, li_1, li_2, li_3, li_4, li_5, li_6, li_7, li_8, li_9, li_10, li_11, li_12, li_16, li_19, li_20, li_28, li_48, li_57, li_59, li_60, li_96, li_97, li_99, li_100, li_102, li_103, li_104, li_112, li_115, li_116, li_118, li_119, li_121, li_124, li_132, li_255, li_256, li_1000, li_2000, li_1000000000, iI_add, iI_sub, iI_mul, iI_neg, iI_lt, iI_le, iI_eq, iI_clamp, iI_s, iI_m1, iI_div, bs, tn, tn4, tn12, tn20, tn124, tn28, itT, itF, if_pos, if_neg, l1, m2, d3, g2]
    · rw [if_neg c] at g2
      simp (disch := omega) only [li_0, li_1, li_2, li_3, li_4, li_5, li_6, li_7, li_8, li_9, li_10, li_11, li_12, li_16, li_19, li_20, li_28, li_48, li_57, li_59, li_60, li_96, li_97, li_99, li_100, li_102, li_103, li_104, li_112, li_115, li_116, li_118, li_119, li_121, li_124, li_132, li_255, li_256, li_1000, li_2000, li_1000000000, iI_add, iI_sub, iI_mul, iI_neg, iI_lt, iI_le, iI_eq, iI_clamp, iI_s, iI_m1, iI_div, bs, tn, tn4, tn12, tn20, tn124, tn28, itT, itF, if_pos, if_neg, l1, m2, d3, g2]
theorem e_bestYear {S : St} (hS : Inv S)  : ∃ (z1 : Int32 × St) (z2 : Int32 × St), f_X7_bestYear S = some z1 ∧ f_X8_bestYear z1.2 = some z2 ∧ z1.1 = z2.1 ∧ Inv z2.2 := by
  obtain ⟨⟨a, hw, hc, hm0⟩, -⟩ := id hS
  have hm : ∀ k, k < 132 → S.1 75 k = iI (a k) := hm0
  have h8 := hw.1
  have w1 := hw.2.1
  have w2 := hw.2.2.1
  have w3 := hw.2.2.2.1
  obtain ⟨now, hnow⟩ : ∃ n : Nat, a 1 = n := ⟨(a 1).toNat, by omega⟩
  obtain ⟨N, hN⟩ : ∃ n : Nat, a 0 = n := ⟨(a 0).toNat, by omega⟩
  have hn : now ≤ 11 := by omega
  have hN8 : N ≤ 8 := by omega
  have p1 : S.1 1 1 = iI now := by rw [hc.1 1 (by omega), hnow]
  have p0 : S.1 1 0 = iI N := by rw [hc.1 0 (by omega), hN]
  have m0 : S.1 75 0 = iI N := by rw [hm 0 (by omega), hN]
  have m1 : S.1 75 1 = iI now := by rw [hm 1 (by omega), hnow]
  obtain ⟨S1, c1, c2⟩ := cBYL hc hw hN (k := fun y6 S7 => some (y6, S7)) 12 2000 0 S (by omega) (by omega) (fun _ _ _ => rfl)
  have hm1 : RM S1 75 a := fun k hk => by rw [c1 _ _ (by omega)]; exact hm k hk
  obtain ⟨S2, d1, d2⟩ := rBYL (S := S1) hm1 hw hN (k := fun y5 S6 => some (y5, S6)) 12 2000 0 S1 (by omega) (by omega) (fun _ _ _ => rfl)
  have i9 : Inv S2 := hS.sm (fun i k hs => by
    unfold scr at hs
    rw [d1 _ _ (by omega), c1 _ _ (by omega)])
  have c3 : f_X7_bestYear_L6 2000 (iI 0) (iI (-1)) (iI 0) S (fun y6 S7 => some (y6, S7)) = some (iI (sBYr (yTo a N) 12).1, S1) := c2
  have d3 : f_X8_bestYear_L6 2000 (iI 0) (iI (-1)) (iI 0) S1 (fun y5 S6 => some (y5, S6)) = some (iI (sBYr (yTo a N) 12).1, S2) := d2
  exact e_mk (v := iI (sBYr (yTo a N) 12).1) (S1 := S1) (S2 := S2) (by simp (disch := omega) only [li_0, li_1, li_2, li_3, li_4, li_5, li_6, li_7, li_8, li_9, li_10, li_11, li_12, li_16, li_19, li_20, li_28, li_48, li_57, li_59, li_60, li_96, li_97, li_99, li_100, li_102, li_103, li_104, li_112, li_115, li_116, li_118, li_119, li_121, li_124, li_132, li_255, li_256, li_1000, li_2000, li_1000000000, iI_add, iI_sub, iI_mul, iI_neg, iI_lt, iI_le, iI_eq, iI_clamp, iI_s, iI_m1, iI_div, bs, tn, tn4, tn12, tn20, tn124, tn28, itT, itF, if_pos, if_neg, f_X7_bestYear, c3]) (by simp (disch := omega) only [li_0, li_1, li_2, li_3, li_4, li_5, li_6, li_7, li_8, li_9, li_10, li_11, li_12, li_16, li_19, li_20, li_28, li_48, li_57, li_59, li_60, li_96, li_97, li_99, li_100, li_102, li_103, li_104, li_112, li_115, li_116, li_118, li_119, li_121, li_124, li_132, li_255, li_256, li_1000, li_2000, li_1000000000, iI_add, iI_sub, iI_mul, iI_neg, iI_lt, iI_le, iI_eq, iI_clamp, iI_s, iI_m1, iI_div, bs, tn, tn4, tn12, tn20, tn124, tn28, itT, itF, if_pos, if_neg, f_X8_bestYear, d3]) i9
end
section
-- ===== the most by so many minutes =====
def bM (R g : Nat → Int) (h : Int) (u : Nat) : Nat → Int
  | 0 => R u + h
  | s + 1 => if bM R g h u s < R (u - s) + g s then R (u - s) + g s else bM R g h u s
theorem bM_p {R g : Nat → Int} {h : Int} {u : Nat} : ∀ n, R u + h ≤ bM R g h u n ∧ (∀ s, s < n → R (u - s) + g s ≤ bM R g h u n) ∧ (bM R g h u n = R u + h ∨ ∃ s, s < n ∧ R (u - s) + g s = bM R g h u n) := by
  intro n
  induction n with
  | zero => exact ⟨Int.le_refl _, fun s hs => absurd hs (by omega), Or.inl rfl⟩
  | succ n ih =>
    obtain ⟨i1, i2, i3⟩ := ih
    rw [bM]
    by_cases c : bM R g h u n < R (u - n) + g n
    · rw [if_pos c]
      refine ⟨by omega, fun s hs => ?_, Or.inr ⟨n, by omega, rfl⟩⟩
      by_cases e : s = n
      · rw [e]; exact Int.le_refl _
      · have := i2 s (by omega)
        omega
    · rw [if_neg c]
      refine ⟨i1, fun s hs => ?_, ?_⟩
      · by_cases e : s = n
        · rw [e]; omega
        · exact i2 s (by omega)
      · rcases i3 with h | ⟨s, hs, h⟩
        · exact Or.inl h
        · exact Or.inr ⟨s, by omega, h⟩
def bW (R g : Nat → Int) (h : Int) (k : Nat) : Nat → Int
  | 0 => R (k / 5) + h
  | t + 1 => if bW R g h k t ≤ R ((k - t) / 5) + g (t / 5) then R ((k - t) / 5) + g (t / 5) else bW R g h k t
theorem bW_p {R g : Nat → Int} {h : Int} {k : Nat} : ∀ n, R (k / 5) + h ≤ bW R g h k n ∧ (∀ t, t < n → R ((k - t) / 5) + g (t / 5) ≤ bW R g h k n) ∧ (bW R g h k n = R (k / 5) + h ∨ ∃ t, t < n ∧ R ((k - t) / 5) + g (t / 5) = bW R g h k n) := by
  intro n
  induction n with
  | zero => exact ⟨Int.le_refl _, fun s hs => absurd hs (by omega), Or.inl rfl⟩
  | succ n ih =>
    obtain ⟨i1, i2, i3⟩ := ih
    rw [bW]
    by_cases c : bW R g h k n ≤ R ((k - n) / 5) + g (n / 5)
    · rw [if_pos c]
      refine ⟨by omega, fun s hs => ?_, Or.inr ⟨n, by omega, rfl⟩⟩
      by_cases e : s = n
      · rw [e]; exact Int.le_refl _
      · have := i2 s (by omega)
        omega
    · rw [if_neg c]
      refine ⟨i1, fun s hs => ?_, ?_⟩
      · by_cases e : s = n
        · rw [e]; omega
        · exact i2 s (by omega)
      · rcases i3 with h | ⟨s, hs, h⟩
        · exact Or.inl h
        · exact Or.inr ⟨s, by omega, h⟩
theorem bW_bM {R g : Nat → Int} {h : Int} (hR : ∀ i j, i ≤ j → R i ≤ R j) (k : Nat) : bW R g h k (k + 1) = bM R g h (k / 5) (k / 5 + 1) := by
  obtain ⟨a1, a2, a3⟩ := bW_p (R := R) (g := g) (h := h) (k := k) (k + 1)
  obtain ⟨b1, b2, b3⟩ := bM_p (R := R) (g := g) (h := h) (u := k / 5) (k / 5 + 1)
  have le1 : bW R g h k (k + 1) ≤ bM R g h (k / 5) (k / 5 + 1) := by
    rcases a3 with e | ⟨t, ht, e⟩
    · rw [e]; exact b1
    · have h1 := b2 (t / 5) (by omega)
      have h2 := hR ((k - t) / 5) (k / 5 - t / 5) (by omega)
      omega
  have le2 : bM R g h (k / 5) (k / 5 + 1) ≤ bW R g h k (k + 1) := by
    rcases b3 with e | ⟨s, hs, e⟩
    · rw [e]; exact a1
    · have h1 := a2 (5 * s) (by omega)
      rw [show (k - 5 * s) / 5 = k / 5 - s by omega, show 5 * s / 5 = s by omega] at h1
      omega
  omega
def gY (a : Nat → Int) (x now s : Nat) : Int := sG a x (sY a x now (5 * (s : Int)) 0)
def bN (a : Nat → Int) (now x : Nat) (R : Nat → Int) (u : Nat) : Int := if a (20 + x) < 0 then bM R (gY a x now) (sHow a x now) u (u + 1) else R u + sHow a x now
def bR (a : Nat → Int) (now : Nat) : Nat → Nat → Int
  | 0 => fun _ => 0
  | x + 1 => bN a now x (bR a now x)
theorem bN_mono {a : Nat → Int} {now x : Nat} {R : Nat → Int} (hR : ∀ i j, i ≤ j → R i ≤ R j) : ∀ i j, i ≤ j → bN a now x R i ≤ bN a now x R j := by
  intro i j hij
  have h0 := hR i j hij
  unfold bN
  by_cases c : a (20 + x) < 0
  · rw [if_pos c, if_pos c]
    obtain ⟨a1, a2, a3⟩ := bM_p (R := R) (g := gY a x now) (h := sHow a x now) (u := i) (i + 1)
    obtain ⟨b1, b2, b3⟩ := bM_p (R := R) (g := gY a x now) (h := sHow a x now) (u := j) (j + 1)
    rcases a3 with e | ⟨s, hs, e⟩
    · omega
    · have h1 := b2 s (by omega)
      have h2 := hR (i - s) (j - s) (by omega)
      omega
  · rw [if_neg c, if_neg c]
    omega
theorem bR_mono (a : Nat → Int) (now : Nat) : ∀ x i j, i ≤ j → bR a now x i ≤ bR a now x j := by
  intro x
  induction x with
  | zero => intro i j _; exact Int.le_refl _
  | succ x ih => exact bN_mono ih
theorem gY_b {a : Nat → Int} {x now : Nat} (hw : WT a x) (hn : now ≤ 11) (s : Nat) : 0 ≤ gY a x now s ∧ gY a x now s ≤ 99 := by
  have := sY_le a x now (5 * (s : Int)) 0
  exact sG_b hw (by omega)
theorem bM_b {R g : Nat → Int} {h B : Int} {u : Nat} (hR : ∀ u, 0 ≤ R u ∧ R u ≤ B) (hg : ∀ s, 0 ≤ g s ∧ g s ≤ 99) (hh : 0 ≤ h ∧ h ≤ 99) (n : Nat) : 0 ≤ bM R g h u n ∧ bM R g h u n ≤ B + 99 := by
  obtain ⟨a1, a2, a3⟩ := bM_p (R := R) (g := g) (h := h) (u := u) n
  have h0 := hR u
  rcases a3 with e | ⟨s, hs, e⟩
  · omega
  · have h1 := hR (u - s)
    have h2 := hg s
    omega
theorem bW_b {R g : Nat → Int} {h B : Int} {k : Nat} (hR : ∀ u, 0 ≤ R u ∧ R u ≤ B) (hg : ∀ s, 0 ≤ g s ∧ g s ≤ 99) (hh : 0 ≤ h ∧ h ≤ 99) (n : Nat) : 0 ≤ bW R g h k n ∧ bW R g h k n ≤ B + 99 := by
  obtain ⟨a1, a2, a3⟩ := bW_p (R := R) (g := g) (h := h) (k := k) n
  have h0 := hR (k / 5)
  rcases a3 with e | ⟨t, ht, e⟩
  · omega
  · have h1 := hR ((k - t) / 5)
    have h2 := hg (t / 5)
    omega
theorem bR_b {a : Nat → Int} (hw : WFa a) {now : Nat} (hn : now ≤ 11) : ∀ x, x ≤ 8 → ∀ u, 0 ≤ bR a now x u ∧ bR a now x u ≤ 99 * (x : Int) := by
  intro x
  induction x with
  | zero => intro _ u; exact ⟨Int.le_refl _, Int.le_refl _⟩
  | succ x ih =>
    intro hx u
    have i1 := ih (by omega)
    have hh := sHow_b (hw.t (j := x) (by omega)) hn
    have e : 99 * ((x + 1 : Nat) : Int) = 99 * (x : Int) + 99 := by omega
    rw [e]
    show 0 ≤ bN a now x (bR a now x) u ∧ bN a now x (bR a now x) u ≤ _
    unfold bN
    by_cases c : a (20 + x) < 0
    · rw [if_pos c]
      exact bM_b i1 (fun s => gY_b (hw.t (by omega)) hn s) hh _
    · rw [if_neg c]
      have := i1 u
      omega
-- the class
theorem cSpI {S : St} {t : Nat} {a : Nat → Int} {j : Nat} (ht : RT S t a j) (hw : WT a j) {now : Nat} (hn : now ≤ 11) (p1 : S.1 1 1 = iI now) (hs : a (20 + j) < 0) {R : Nat → Int} (hR : ∀ u, 0 ≤ R u ∧ R u ≤ 9999) {u : Nat} (hu : u < 20) (h72 : ∀ s, s ≤ u → S.1 72 s = iI (R s)) {k : Int32 → Option St} :
    ∀ d n s : Nat, s + d = u + 1 → d < n → f_X7_spendSteps_L29 n t (iI u) (iI (bM R (gY a j now) (sHow a j now) u s)) (iI s) S k = k (iI (bM R (gY a j now) (sHow a j now) u (u + 1))) := by
  have hh := sHow_b hw hn
  intro d
  induction d with
  | zero =>
    intro n s hx hd
    obtain ⟨n, rfl⟩ : ∃ p, n = p + 1 := ⟨n - 1, by omega⟩
    obtain rfl : s = u + 1 := by omega
    rw [f_X7_spendSteps_L29]
    simp (disch := omega) only [li_0, li_1, li_2, li_3, li_4, li_5, li_6, li_7, li_8, li_9, li_10, li_11, li_12, li_16, li_19, li_20, li_28, li_48, li_57, li_59, li_60, li_96, li_97, li_99, li_100, li_102, li_103, li_104, li_112, li_115, li_116, li_118, li_119, li_121, li_124, li_132, li_255, li_256, li_1000, li_2000, li_1000000000, iI_add, iI_sub, iI_mul, iI_neg, iI_lt, iI_le, iI_eq, iI_clamp, iI_s, iI_m1, iI_div, bs, tn, tn4, tn12, tn20, tn124, tn28, itT, itF, if_pos, if_neg]
  | succ d ih =>
    intro n s hx hd
    obtain ⟨n, rfl⟩ : ∃ p, n = p + 1 := ⟨n - 1, by omega⟩
    have i1 := ih n (s + 1) (by omega) (by omega)
    have e1 := cSet ht hw
    rw [if_pos hs] at e1
    have ec : (s : Int) * 5 = 5 * (s : Int) := Int.mul_comm _ _
    have e2 := cY ht hw hn (m := 5 * (s : Int)) (f := 0) (by omega) (by omega)
    have yb := sY_le a j now (5 * (s : Int)) 0
    have e3 : f_X6_gladIn t (iI (sY a j now (5 * (s : Int)) 0)) S = some (iI (gY a j now s)) := cG ht (by omega)
    have eu : ((u : Int) - (s : Int)).toNat = u - s := by omega
    have e4 := h72 (u - s) (by omega)
    have b1 := hR (u - s)
    have b2 := gY_b hw hn s
    have b3 := bM_b (R := R) (g := gY a j now) (h := sHow a j now) (u := u) hR (gY_b hw hn) hh s
    rw [bM] at i1
    rw [f_X7_spendSteps_L29]
    by_cases c : bM R (gY a j now) (sHow a j now) u s < R (u - s) + gY a j now s
    · rw [if_pos c] at i1
      simp (disch := omega) only [li_0, li_1, li_2, li_3, li_4, li_5, li_6, li_7, li_8, li_9, li_10, li_11, li_12, li_16, li_19, li_20, li_28, li_48, li_57, li_59, li_60, li_96, li_97, li_99, li_100, li_102, li_103, li_104, li_112, li_115, li_116, li_118, li_119, li_121, li_124, li_132, li_255, li_256, li_1000, li_2000, li_1000000000, iI_add, iI_sub, iI_mul, iI_neg, iI_lt, iI_le, iI_eq, iI_clamp, iI_s, iI_m1, iI_div, bs, tn, tn4, tn12, tn20, tn124, tn28, itT, itF, if_pos, if_neg, e1, ec, e2, p1, e3, eu, e4, i1]
    · rw [if_neg c] at i1
      simp (disch := omega) only [li_0, li_1, li_2, li_3, li_4, li_5, li_6, li_7, li_8, li_9, li_10, li_11, li_12, li_16, li_19, li_20, li_28, li_48, li_57, li_59, li_60, li_96, li_97, li_99, li_100, li_102, li_103, li_104, li_112, li_115, li_116, li_118, li_119, li_121, li_124, li_132, li_255, li_256, li_1000, li_2000, li_1000000000, iI_add, iI_sub, iI_mul, iI_neg, iI_lt, iI_le, iI_eq, iI_clamp, iI_s, iI_m1, iI_div, bs, tn, tn4, tn12, tn20, tn124, tn28, itT, itF, if_pos, if_neg, e1, ec, e2, p1, e3, eu, e4, i1]
theorem cSpL {S : St} {t : Nat} {a : Nat → Int} {j : Nat} (ht : RT S t a j) (htt : t ≠ 72 ∧ t + 1 ≠ 72) (hw : WT a j) {now : Nat} (hn : now ≤ 11) (p1 : S.1 1 1 = iI now) {R : Nat → Int} (hR : ∀ u, 0 ≤ R u ∧ R u ≤ 9999) {k : St → Option St} :
    ∀ m n : Nat, ∀ S' : St, m ≤ 20 → m < n → (∀ i q, i ≠ 72 → S'.1 i q = S.1 i q) → (∀ u, u < m → S'.1 72 u = iI (R u)) → (∀ u, m ≤ u → u < 20 → S'.1 72 u = iI (bN a now j R u)) →
    ∃ S'', (∀ i q, i ≠ 72 → S''.1 i q = S.1 i q) ∧ (∀ u, u < 20 → S''.1 72 u = iI (bN a now j R u)) ∧ f_X7_spendSteps_L3 n t (iI ((m : Int) - 1)) S' k = k S'' := by
  have hh := sHow_b hw hn
  intro m
  induction m with
  | zero =>
    intro n S' _ hd q1 q2 q3
    obtain ⟨n, rfl⟩ : ∃ p, n = p + 1 := ⟨n - 1, by omega⟩
    refine ⟨S', q1, fun u hu => q3 u (by omega) hu, ?_⟩
    rw [f_X7_spendSteps_L3]
    simp (disch := omega) only [li_0, li_1, li_2, li_3, li_4, li_5, li_6, li_7, li_8, li_9, li_10, li_11, li_12, li_16, li_19, li_20, li_28, li_48, li_57, li_59, li_60, li_96, li_97, li_99, li_100, li_102, li_103, li_104, li_112, li_115, li_116, li_118, li_119, li_121, li_124, li_132, li_255, li_256, li_1000, li_2000, li_1000000000, iI_add, iI_sub, iI_mul, iI_neg, iI_lt, iI_le, iI_eq, iI_clamp, iI_s, iI_m1, iI_div, bs, tn, tn4, tn12, tn20, tn124, tn28, itT, itF, if_pos, if_neg]
  | succ m ih =>
    intro n S' hm hd q1 q2 q3
    obtain ⟨n, rfl⟩ : ∃ p, n = p + 1 := ⟨n - 1, by omega⟩
    have ht' : RT S' t a j := ⟨by rw [q1 _ _ htt.1]; exact ht.1, by rw [q1 _ _ htt.1]; exact ht.2.1, by rw [q1 _ _ htt.1]; exact ht.2.2.1, fun y hy => by rw [q1 _ _ htt.2]; exact ht.2.2.2 y hy⟩
    have p1' : S'.1 1 1 = iI now := by rw [q1 _ _ (by omega)]; exact p1
    have e : ((m + 1 : Nat) : Int) - 1 = (m : Int) := by omega
    have e1 := cHow ht' hw hn
    have e2 := q2 m (by omega)
    obtain ⟨S'', g1, g2, g3⟩ := ih n (up S' 72 m (iI (bN a now j R m))) (by omega) (by omega) (fun i q hi => by rw [up_ne hi]; exact q1 i q hi) (fun u hu => by rw [up_n (by omega)]; exact q2 u (by omega)) (fun u h1 h2 => by
      by_cases c : u = m
      · rw [c, up_s]
      · rw [up_n (Or.inr c)]; exact q3 u (by omega) h2)
    refine ⟨S'', g1, g2, ?_⟩
    rw [f_X7_spendSteps_L3, e]
    by_cases c : a (20 + j) < 0
    · have e3 : ∀ k, f_X7_spendSteps_L29 2000 t (iI m) (iI (R m + sHow a j now)) (iI 0) S' k = k (iI (bN a now j R m)) := fun k => by
        have h := cSpI ht' hw hn p1' c hR (u := m) (by omega) (fun s hs => q2 s (by omega)) (k := k) (m + 1) 2000 0 (by omega) (by omega)
        unfold bN
        rw [if_pos c]
        exact h
      simp (disch := omega) only [li_0, li_1, li_2, li_3, li_4, li_5, li_6, li_7, li_8, li_9, li_10, li_11, li_12, li_16, li_19, li_20, li_28, li_48, li_57, li_59, li_60, li_96, li_97, li_99, li_100, li_102, li_103, li_104, li_112, li_115, li_116, li_118, li_119, li_121, li_124, li_132, li_255, li_256, li_1000, li_2000, li_1000000000, iI_add, iI_sub, iI_mul, iI_neg, iI_lt, iI_le, iI_eq, iI_clamp, iI_s, iI_m1, iI_div, bs, tn, tn4, tn12, tn20, tn124, tn28, itT, itF, if_pos, if_neg, p1', e1, e2, e3, g3]
    · have e4 := cSet ht' hw
      rw [if_neg c] at e4
      have e3 : ∀ k, f_X7_spendSteps_L29 2000 t (iI m) (iI (R m + sHow a j now)) (iI 0) S' k = k (iI (bN a now j R m)) := fun k => by
        unfold bN
        rw [if_neg c, show 2000 = 1999 + 1 from rfl, f_X7_spendSteps_L29]
        simp (disch := omega) only [li_0, li_1, li_2, li_3, li_4, li_5, li_6, li_7, li_8, li_9, li_10, li_11, li_12, li_16, li_19, li_20, li_28, li_48, li_57, li_59, li_60, li_96, li_97, li_99, li_100, li_102, li_103, li_104, li_112, li_115, li_116, li_118, li_119, li_121, li_124, li_132, li_255, li_256, li_1000, li_2000, li_1000000000, iI_add, iI_sub, iI_mul, iI_neg, iI_lt, iI_le, iI_eq, iI_clamp, iI_s, iI_m1, iI_div, bs, tn, tn4, tn12, tn20, tn124, tn28, itT, itF, if_pos, if_neg, e4]
      simp (disch := omega) only [li_0, li_1, li_2, li_3, li_4, li_5, li_6, li_7, li_8, li_9, li_10, li_11, li_12, li_16, li_19, li_20, li_28, li_48, li_57, li_59, li_60, li_96, li_97, li_99, li_100, li_102, li_103, li_104, li_112, li_115, li_116, li_118, li_119, li_121, li_124, li_132, li_255, li_256, li_1000, li_2000, li_1000000000, iI_add, iI_sub, iI_mul, iI_neg, iI_lt, iI_le, iI_eq, iI_clamp, iI_s, iI_m1, iI_div, bs, tn, tn4, tn12, tn20, tn124, tn28, itT, itF, if_pos, if_neg, p1', e1, e2, e3, g3]
theorem cSp {S : St} {t : Nat} {a : Nat → Int} {j : Nat} (ht : RT S t a j) (htt : t ≠ 72 ∧ t + 1 ≠ 72) (hw : WT a j) {now : Nat} (hn : now ≤ 11) (p1 : S.1 1 1 = iI now) {R : Nat → Int} (hR : ∀ u, 0 ≤ R u ∧ R u ≤ 9999) (h72 : ∀ u, u < 20 → S.1 72 u = iI (R u)) :
    ∃ S'', (∀ i q, i ≠ 72 → S''.1 i q = S.1 i q) ∧ (∀ u, u < 20 → S''.1 72 u = iI (bN a now j R u)) ∧ f_X7_spendSteps t S = some S'' := by
  obtain ⟨S'', g1, g2, g3⟩ := cSpL ht htt hw hn p1 hR (k := fun s => some s) 20 2000 S (by omega) (by omega) (fun _ _ _ => rfl) h72 (fun u h1 h2 => absurd h1 (by omega))
  refine ⟨S'', g1, g2, ?_⟩
  rw [f_X7_spendSteps]
  exact g3
theorem cBMinL {S : St} {a : Nat → Int} {N now : Nat} (hc : RC S 1 a) (hw : WFa a) (hN : a 0 = N) (hn : now ≤ 11) (hn1 : a 1 = now) {y1 : Int32} {k : St → Option (Int32 × St)} :
    ∀ d n x : Nat, ∀ S' : St, x + d = N → d < n → (∀ i q, i ≠ 72 → S'.1 i q = S.1 i q) → (∀ u, u < 20 → S'.1 72 u = iI (bR a now x u)) →
    ∃ S'', (∀ i q, i ≠ 72 → S''.1 i q = S.1 i q) ∧ (∀ u, u < 20 → S''.1 72 u = iI (bR a now N u)) ∧ f_X7_byMinutes_L41 n y1 (iI x) S' k = k S'' := by
  have h8 := hw.1
  intro d
  induction d with
  | zero =>
    intro n x S' hx hd q1 q2
    obtain ⟨n, rfl⟩ : ∃ p, n = p + 1 := ⟨n - 1, by omega⟩
    obtain rfl : x = N := by omega
    have e0 : S'.1 1 0 = iI x := by rw [q1 _ _ (by omega), hc.1 0 (by omega), hN]
    refine ⟨S', q1, q2, ?_⟩
    rw [f_X7_byMinutes_L41]
    simp (disch := omega) only [li_0, li_1, li_2, li_3, li_4, li_5, li_6, li_7, li_8, li_9, li_10, li_11, li_12, li_16, li_19, li_20, li_28, li_48, li_57, li_59, li_60, li_96, li_97, li_99, li_100, li_102, li_103, li_104, li_112, li_115, li_116, li_118, li_119, li_121, li_124, li_132, li_255, li_256, li_1000, li_2000, li_1000000000, iI_add, iI_sub, iI_mul, iI_neg, iI_lt, iI_le, iI_eq, iI_clamp, iI_s, iI_m1, iI_div, bs, tn, tn4, tn12, tn20, tn124, tn28, itT, itF, if_pos, if_neg, e0]
  | succ d ih =>
    intro n x S' hx hd q1 q2
    obtain ⟨n, rfl⟩ : ∃ p, n = p + 1 := ⟨n - 1, by omega⟩
    have hc' : RC S' 1 a := hc.frt (fun i k h1 h2 => q1 i k (by omega))
    have e0 : S'.1 1 0 = iI N := by rw [hc'.1 0 (by omega), hN]
    have p1 : S'.1 1 1 = iI now := by rw [hc'.1 1 (by omega), hn1]
    have e1 := cAt (S := S') (q := 1) (j := x) (by omega)
    have bb := bR_b hw hn x (by omega)
    obtain ⟨S1, s1, s2, s3⟩ := cSp (hc'.t (j := x) (by omega) (by omega)) (by omega) (hw.t (by omega)) hn p1 (R := bR a now x) (fun u => by have := bb u; omega) q2
    obtain ⟨S'', g1, g2, g3⟩ := ih n (x + 1) S1 (by omega) (by omega) (fun i q hi => by rw [s1 i q hi]; exact q1 i q hi) s2
    refine ⟨S'', g1, g2, ?_⟩
    rw [f_X7_byMinutes_L41]
    simp (disch := omega) only [li_0, li_1, li_2, li_3, li_4, li_5, li_6, li_7, li_8, li_9, li_10, li_11, li_12, li_16, li_19, li_20, li_28, li_48, li_57, li_59, li_60, li_96, li_97, li_99, li_100, li_102, li_103, li_104, li_112, li_115, li_116, li_118, li_119, li_121, li_124, li_132, li_255, li_256, li_1000, li_2000, li_1000000000, iI_add, iI_sub, iI_mul, iI_neg, iI_lt, iI_le, iI_eq, iI_clamp, iI_s, iI_m1, iI_div, bs, tn, tn4, tn12, tn20, tn124, tn28, itT, itF, if_pos, if_neg, e0, e1, s3, g3]
theorem cBM0 {S : St} {y1 : Int32} {k : St → Option (Int32 × St)} : ∀ d n x : Nat, ∀ S' : St, x + d = 20 → d < n → (∀ i q, i ≠ 72 → S'.1 i q = S.1 i q) → (∀ u, u < x → S'.1 72 u = iI 0) →
    ∃ S'', (∀ i q, i ≠ 72 → S''.1 i q = S.1 i q) ∧ (∀ u, u < 20 → S''.1 72 u = iI 0) ∧ f_X7_byMinutes_L20 n y1 (iI x) S' k = k S'' := by
  intro d
  induction d with
  | zero =>
    intro n x S' hx hd h1 h2
    obtain ⟨n, rfl⟩ : ∃ p, n = p + 1 := ⟨n - 1, by omega⟩
    obtain rfl : x = 20 := by omega
    refine ⟨S', h1, h2, ?_⟩
    rw [f_X7_byMinutes_L20]
    simp (disch := omega) only [li_0, li_1, li_2, li_3, li_4, li_5, li_6, li_7, li_8, li_9, li_10, li_11, li_12, li_16, li_19, li_20, li_28, li_48, li_57, li_59, li_60, li_96, li_97, li_99, li_100, li_102, li_103, li_104, li_112, li_115, li_116, li_118, li_119, li_121, li_124, li_132, li_255, li_256, li_1000, li_2000, li_1000000000, iI_add, iI_sub, iI_mul, iI_neg, iI_lt, iI_le, iI_eq, iI_clamp, iI_s, iI_m1, iI_div, bs, tn, tn4, tn12, tn20, tn124, tn28, itT, itF, if_pos, if_neg]
  | succ d ih =>
    intro n x S' hx hd h1 h2
    obtain ⟨n, rfl⟩ : ∃ p, n = p + 1 := ⟨n - 1, by omega⟩
    obtain ⟨S'', g1, g2, g3⟩ := ih n (x + 1) (up S' 72 x (iI 0)) (by omega) (by omega) (fun i k hi => by rw [up_ne hi]; exact h1 i k hi) (fun p hp => by
      by_cases e : p = x
      · rw [e, up_s]
      · rw [up_n (Or.inr e)]; exact h2 p (by omega))
    refine ⟨S'', g1, g2, ?_⟩
    rw [f_X7_byMinutes_L20]
    simp (disch := omega) only [li_0, li_1, li_2, li_3, li_4, li_5, li_6, li_7, li_8, li_9, li_10, li_11, li_12, li_16, li_19, li_20, li_28, li_48, li_57, li_59, li_60, li_96, li_97, li_99, li_100, li_102, li_103, li_104, li_112, li_115, li_116, li_118, li_119, li_121, li_124, li_132, li_255, li_256, li_1000, li_2000, li_1000000000, iI_add, iI_sub, iI_mul, iI_neg, iI_lt, iI_le, iI_eq, iI_clamp, iI_s, iI_m1, iI_div, bs, tn, tn4, tn12, tn20, tn124, tn28, itT, itF, if_pos, if_neg, g3]
-- the reference
theorem rMI {S : St} {a : Nat → Int} {j now : Nat} (hm : RM S 75 a) (hj : j < 8) (hw : WT a j) (hn : now ≤ 11) (hn1 : a 1 = now) (hs : a (20 + j) < 0) {R : Nat → Int} (hR : ∀ u, 0 ≤ R u ∧ R u ≤ 9999) {y1 : Int32} {q : Nat} (hq : q < 100) (h83 : ∀ t, t ≤ q → S.1 83 t = iI (R (t / 5))) {k : St → Option (Int32 × St)} :
    ∀ d n t : Nat, ∀ S' : St, t + d = q + 1 → d < n → (∀ i p, ¬ (i = 84 ∧ p = q) → S'.1 i p = S.1 i p) → S'.1 84 q = iI (bW R (gY a j now) (sHow a j now) q t) →
    ∃ S'', (∀ i p, ¬ (i = 84 ∧ p = q) → S''.1 i p = S.1 i p) ∧ S''.1 84 q = iI (bW R (gY a j now) (sHow a j now) q (q + 1)) ∧ f_X8_byMinutes_L87 n y1 (iI j) (iI q) (iI t) S' k = k S'' := by
  have hh := sHow_b hw hn
  have k1 := hw.2.2.1
  intro d
  induction d with
  | zero =>
    intro n t S' hx hd q1 q2
    obtain ⟨n, rfl⟩ : ∃ p, n = p + 1 := ⟨n - 1, by omega⟩
    obtain rfl : t = q + 1 := by omega
    refine ⟨S', q1, q2, ?_⟩
    rw [f_X8_byMinutes_L87]
    simp (disch := omega) only [li_0, li_1, li_2, li_3, li_4, li_5, li_6, li_7, li_8, li_9, li_10, li_11, li_12, li_16, li_19, li_20, li_28, li_48, li_57, li_59, li_60, li_96, li_97, li_99, li_100, li_102, li_103, li_104, li_112, li_115, li_116, li_118, li_119, li_121, li_124, li_132, li_255, li_256, li_1000, li_2000, li_1000000000, iI_add, iI_sub, iI_mul, iI_neg, iI_lt, iI_le, iI_eq, iI_clamp, iI_s, iI_m1, iI_div, bs, tn, tn4, tn12, tn20, tn124, tn28, itT, itF, if_pos, if_neg]
  | succ d ih =>
    intro n t S' hx hd q1 q2
    obtain ⟨n, rfl⟩ : ∃ p, n = p + 1 := ⟨n - 1, by omega⟩
    have hm' : ∀ k, k < 132 → S'.1 75 k = iI (a k) := fun k hk => by rw [q1 _ _ (by omega)]; exact hm k hk
    have e0 := hm' (20 + j) (by omega)
    have e1 := rY hm' hj hw hn hn1 (m := (t : Int)) (f := 0) (by omega) (by omega)
    rw [sY5 a j now (m := (t : Int)) (u := t / 5) (by omega)] at e1
    obtain ⟨Y, hY⟩ : ∃ Y, Y = sY a j now (5 * ((t / 5 : Nat) : Int)) 0 := ⟨_, rfl⟩
    rw [← hY] at e1
    have yb : Y ≤ now := by rw [hY]; exact sY_le a j now _ 0
    have e3 : S'.1 75 (28 + 12 * j + Y) = iI (gY a j now (t / 5)) := by rw [hm' _ (by omega), hY]; rfl
    have e4 : S'.1 83 (q - t) = iI (R ((q - t) / 5)) := by rw [q1 _ _ (by omega)]; exact h83 (q - t) (by omega)
    have b1 := hR ((q - t) / 5)
    have b2 := gY_b hw hn (t / 5)
    have b3 := bW_b (R := R) (g := gY a j now) (h := sHow a j now) (k := q) hR (gY_b hw hn) hh t
    have e5 := rMost (x := bW R (gY a j now) (sHow a j now) q t) (y := R ((q - t) / 5) + gY a j now (t / 5)) (by omega) (by omega) (by omega) (by omega)
    have eW : bW R (gY a j now) (sHow a j now) q (t + 1) = if bW R (gY a j now) (sHow a j now) q t ≤ R ((q - t) / 5) + gY a j now (t / 5) then R ((q - t) / 5) + gY a j now (t / 5) else bW R (gY a j now) (sHow a j now) q t := rfl
    rw [← eW] at e5
    obtain ⟨S'', g1, g2, g3⟩ := ih n (t + 1) (up S' 84 q (iI (bW R (gY a j now) (sHow a j now) q (t + 1)))) (by omega) (by omega) (fun i p hi => by rw [up_n (by omega)]; exact q1 i p hi) up_s
    refine ⟨S'', g1, g2, ?_⟩
    have j1 : (20 + iI (j : Int) : Int32) = iI ((20 + j : Nat) : Int) := by rw [show (20 : Int32) = iI 20 from rfl, iI_add]; rfl
    have j2 : (iI ((20 + j : Nat) : Int)).toNatClampNeg = 20 + j := by rw [iI_clamp (by omega) (by omega)]; rfl
    have j3 : ¬ (iI ((20 + j : Nat) : Int) < 0 ∨ 132 ≤ 20 + j) := by rw [show (0 : Int32) = iI 0 from rfl, iI_lt (by omega) (by omega) (by omega) (by omega)]; omega
    have j4 : (iI (t : Int) + 1 : Int32) = iI ((t + 1 : Nat) : Int) := by rw [show (1 : Int32) = iI 1 from rfl, iI_add]; rfl
    have j5 : (iI (q : Int)).toNatClampNeg = q := by rw [iI_clamp (by omega) (by omega)]; rfl
    have j6 : ¬ (iI (q : Int) < 0 ∨ 100 ≤ q) := by rw [show (0 : Int32) = iI 0 from rfl, iI_lt (by omega) (by omega) (by omega) (by omega)]; omega
    have j7 : (iI (q : Int) - iI (t : Int)).toNatClampNeg = q - t := by rw [iI_sub, iI_clamp (by omega) (by omega)]; omega
    have j8 : ¬ ((iI (q : Int) - iI (t : Int)) < 0 ∨ 100 ≤ q - t) := by rw [iI_sub, show (0 : Int32) = iI 0 from rfl, iI_lt (by omega) (by omega) (by omega) (by omega)]; omega
    have j9 : (iI (28 + 12 * (j : Int) + (Y : Int))).toNatClampNeg = 28 + 12 * j + Y := by rw [iI_clamp (by omega) (by omega)]; omega
    have j10 : ¬ (iI (28 + 12 * (j : Int) + (Y : Int)) < 0 ∨ 132 ≤ 28 + 12 * j + Y) := by rw [show (0 : Int32) = iI 0 from rfl, iI_lt (by omega) (by omega) (by omega) (by omega)]; omega
    rw [f_X8_byMinutes_L87, if_neg (by rw [iI_lt (by omega) (by omega) (by omega) (by omega)]; omega), j1, j2, if_neg j3, e0, if_neg (by rw [show (0 : Int32) = iI 0 from rfl, iI_le (by omega) (by omega) (by omega) (by omega)]; omega), j5, if_neg j6, j7, if_neg j8]
    rw [show (0 : Int32) = iI 0 from rfl] at j10 j6 ⊢
    rw [e1, bs, rAt, bs, j9, if_neg j10, q2, e4, e3, iI_add, e5, bs, if_neg j6, j4]
    exact g3
theorem rMK {S : St} {a : Nat → Int} {j now : Nat} (hm : RM S 75 a) (hj : j < 8) (hw : WT a j) (hn : now ≤ 11) (hn1 : a 1 = now) {R : Nat → Int} (hR : ∀ u, 0 ≤ R u ∧ R u ≤ 9999) (hRm : ∀ i j, i ≤ j → R i ≤ R j) {M : Nat} (hM : M < 100) (h83 : ∀ t, t ≤ M → S.1 83 t = iI (R (t / 5))) {k : St → Option (Int32 × St)} :
    ∀ d n q : Nat, ∀ S' : St, q + d = M + 1 → d < n → (∀ i p, i ≠ 84 → S'.1 i p = S.1 i p) → (∀ t, t < q → S'.1 84 t = iI (bN a now j R (t / 5))) →
    ∃ S'', (∀ i p, i ≠ 84 → S''.1 i p = S.1 i p) ∧ (∀ t, t < M + 1 → S''.1 84 t = iI (bN a now j R (t / 5))) ∧ f_X8_byMinutes_L58 n (iI M) (iI j) (iI q) S' k = k S'' := by
  have hh := sHow_b hw hn
  have k1 := hw.2.2.1
  intro d
  induction d with
  | zero =>
    intro n q S' hx hd q1 q2
    obtain ⟨n, rfl⟩ : ∃ p, n = p + 1 := ⟨n - 1, by omega⟩
    obtain rfl : q = M + 1 := by omega
    refine ⟨S', q1, q2, ?_⟩
    rw [f_X8_byMinutes_L58]
    simp (disch := omega) only [li_0, li_1, li_2, li_3, li_4, li_5, li_6, li_7, li_8, li_9, li_10, li_11, li_12, li_16, li_19, li_20, li_28, li_48, li_57, li_59, li_60, li_96, li_97, li_99, li_100, li_102, li_103, li_104, li_112, li_115, li_116, li_118, li_119, li_121, li_124, li_132, li_255, li_256, li_1000, li_2000, li_1000000000, iI_add, iI_sub, iI_mul, iI_neg, iI_lt, iI_le, iI_eq, iI_clamp, iI_s, iI_m1, iI_div, bs, tn, tn4, tn12, tn20, tn124, tn28, itT, itF, if_pos, if_neg]
  | succ d ih =>
    intro n q S' hx hd q1 q2
    obtain ⟨n, rfl⟩ : ∃ p, n = p + 1 := ⟨n - 1, by omega⟩
    have hm' : ∀ k, k < 132 → S'.1 75 k = iI (a k) := fun k hk => by rw [q1 _ _ (by omega)]; exact hm k hk
    have e1 := rHow hm' hj hw hn hn1
    have e2 : S'.1 83 q = iI (R (q / 5)) := by rw [q1 _ _ (by omega)]; exact h83 q (by omega)
    have b0 := hR (q / 5)
    have main : ∀ k : St → Option (Int32 × St), ∃ S1, (∀ i p, ¬ (i = 84 ∧ p = q) → S1.1 i p = S'.1 i p) ∧ S1.1 84 q = iI (bN a now j R (q / 5)) ∧ f_X8_byMinutes_L87 2000 (iI M) (iI j) (iI q) (iI ((0 : Nat) : Int)) (up S' 84 q (iI (R (q / 5) + sHow a j now))) k = k S1 := by
      intro k
      by_cases c : a (20 + j) < 0
      · have hmu : RM (up S' 84 q (iI (R (q / 5) + sHow a j now))) 75 a := RM.ne (fun k hk => hm' k hk) (by omega)
        obtain ⟨S1, g1, g2, g3⟩ := rMI (S := up S' 84 q (iI (R (q / 5) + sHow a j now))) hmu hj hw hn hn1 c hR (y1 := iI M) (q := q) (by omega) (fun t ht => by rw [up_ne (by omega), q1 _ _ (by omega)]; exact h83 t (by omega)) (k := k) (q + 1) 2000 0 _ (by omega) (by omega) (fun _ _ _ => rfl) up_s
        refine ⟨S1, fun i p hi => by rw [g1 i p hi, up_n (by omega)], ?_, g3⟩
        rw [g2, bW_bM hRm]
        unfold bN
        rw [if_pos c]
      · refine ⟨up S' 84 q (iI (R (q / 5) + sHow a j now)), fun i p hi => up_n (by omega), ?_, ?_⟩
        · rw [up_s]
          unfold bN
          rw [if_neg c]
        · have e0 := hm' (20 + j) (by omega)
          rw [show 2000 = 1999 + 1 from rfl, f_X8_byMinutes_L87]
          simp (disch := omega) only [li_0, li_1, li_2, li_3, li_4, li_5, li_6, li_7, li_8, li_9, li_10, li_11, li_12, li_16, li_19, li_20, li_28, li_48, li_57, li_59, li_60, li_96, li_97, li_99, li_100, li_102, li_103, li_104, li_112, li_115, li_116, li_118, li_119, li_121, li_124, li_132, li_255, li_256, li_1000, li_2000, li_1000000000, iI_add, iI_sub, iI_mul, iI_neg, iI_lt, iI_le, iI_eq, iI_clamp, iI_s, iI_m1, iI_div, bs, tn, tn4, tn12, tn20, tn124, tn28, itT, itF, if_pos, if_neg, up_s, up_n, e0]
    rw [f_X8_byMinutes_L58]
    simp (disch := omega) only [li_0, li_1, li_2, li_3, li_4, li_5, li_6, li_7, li_8, li_9, li_10, li_11, li_12, li_16, li_19, li_20, li_28, li_48, li_57, li_59, li_60, li_96, li_97, li_99, li_100, li_102, li_103, li_104, li_112, li_115, li_116, li_118, li_119, li_121, li_124, li_132, li_255, li_256, li_1000, li_2000, li_1000000000, iI_add, iI_sub, iI_mul, iI_neg, iI_lt, iI_le, iI_eq, iI_clamp, iI_s, iI_m1, iI_div, bs, tn, tn4, tn12, tn20, tn124, tn28, itT, itF, if_pos, if_neg, e2, e1]
    obtain ⟨S1, g1, g2, g3⟩ := main (fun S21 => f_X8_byMinutes_L58 n (iI M) (iI j) (iI ((q + 1 : Nat) : Int)) S21 k)
    obtain ⟨S'', h1, h2, h3⟩ := ih n (q + 1) S1 (by omega) (by omega) (fun i p hi => by rw [g1 i p (by omega)]; exact q1 i p hi) (fun t ht => by
      by_cases c : t = q
      · rw [c]; exact g2
      · rw [g1 _ _ (by omega)]; exact q2 t (by omega))
    exact ⟨S'', h1, h2, g3.trans h3⟩
theorem rMC {S : St} {y2 : Int32} {M : Nat} (hM : M < 100) {k : St → Option (Int32 × St)} : ∀ d n q : Nat, ∀ S' : St, q + d = M + 1 → d < n → (∀ i p, i ≠ 83 → S'.1 i p = S.1 i p) → (∀ t, t < q → S'.1 83 t = S.1 84 t) →
    ∃ S'', (∀ i p, i ≠ 83 → S''.1 i p = S.1 i p) ∧ (∀ t, t < M + 1 → S''.1 83 t = S.1 84 t) ∧ f_X8_byMinutes_L164 n (iI M) y2 (iI q) S' k = k S'' := by
  intro d
  induction d with
  | zero =>
    intro n q S' hx hd q1 q2
    obtain ⟨n, rfl⟩ : ∃ p, n = p + 1 := ⟨n - 1, by omega⟩
    obtain rfl : q = M + 1 := by omega
    refine ⟨S', q1, q2, ?_⟩
    rw [f_X8_byMinutes_L164]
    simp (disch := omega) only [li_0, li_1, li_2, li_3, li_4, li_5, li_6, li_7, li_8, li_9, li_10, li_11, li_12, li_16, li_19, li_20, li_28, li_48, li_57, li_59, li_60, li_96, li_97, li_99, li_100, li_102, li_103, li_104, li_112, li_115, li_116, li_118, li_119, li_121, li_124, li_132, li_255, li_256, li_1000, li_2000, li_1000000000, iI_add, iI_sub, iI_mul, iI_neg, iI_lt, iI_le, iI_eq, iI_clamp, iI_s, iI_m1, iI_div, bs, tn, tn4, tn12, tn20, tn124, tn28, itT, itF, if_pos, if_neg]
  | succ d ih =>
    intro n q S' hx hd q1 q2
    obtain ⟨n, rfl⟩ : ∃ p, n = p + 1 := ⟨n - 1, by omega⟩
    obtain ⟨S'', h1, h2, h3⟩ := ih n (q + 1) (up S' 83 q (S'.1 84 q)) (by omega) (by omega) (fun i p hi => by rw [up_ne hi]; exact q1 i p hi) (fun t ht => by
      by_cases c : t = q
      · rw [c, up_s]; exact q1 _ _ (by omega)
      · rw [up_n (Or.inr c)]; exact q2 t (by omega))
    refine ⟨S'', h1, h2, ?_⟩
    rw [f_X8_byMinutes_L164]
    simp (disch := omega) only [li_0, li_1, li_2, li_3, li_4, li_5, li_6, li_7, li_8, li_9, li_10, li_11, li_12, li_16, li_19, li_20, li_28, li_48, li_57, li_59, li_60, li_96, li_97, li_99, li_100, li_102, li_103, li_104, li_112, li_115, li_116, li_118, li_119, li_121, li_124, li_132, li_255, li_256, li_1000, li_2000, li_1000000000, iI_add, iI_sub, iI_mul, iI_neg, iI_lt, iI_le, iI_eq, iI_clamp, iI_s, iI_m1, iI_div, bs, tn, tn4, tn12, tn20, tn124, tn28, itT, itF, if_pos, if_neg, h3]
theorem rM0 {S : St} {M : Nat} (hM : M < 100) {k : St → Option (Int32 × St)} : ∀ d n q : Nat, ∀ S' : St, q + d = M + 1 → d < n → (∀ i p, i ≠ 83 → S'.1 i p = S.1 i p) → (∀ t, t < q → S'.1 83 t = iI 0) →
    ∃ S'', (∀ i p, i ≠ 83 → S''.1 i p = S.1 i p) ∧ (∀ t, t < M + 1 → S''.1 83 t = iI 0) ∧ f_X8_byMinutes_L26 n (iI M) (iI q) S' k = k S'' := by
  intro d
  induction d with
  | zero =>
    intro n q S' hx hd q1 q2
    obtain ⟨n, rfl⟩ : ∃ p, n = p + 1 := ⟨n - 1, by omega⟩
    obtain rfl : q = M + 1 := by omega
    refine ⟨S', q1, q2, ?_⟩
    rw [f_X8_byMinutes_L26]
    simp (disch := omega) only [li_0, li_1, li_2, li_3, li_4, li_5, li_6, li_7, li_8, li_9, li_10, li_11, li_12, li_16, li_19, li_20, li_28, li_48, li_57, li_59, li_60, li_96, li_97, li_99, li_100, li_102, li_103, li_104, li_112, li_115, li_116, li_118, li_119, li_121, li_124, li_132, li_255, li_256, li_1000, li_2000, li_1000000000, iI_add, iI_sub, iI_mul, iI_neg, iI_lt, iI_le, iI_eq, iI_clamp, iI_s, iI_m1, iI_div, bs, tn, tn4, tn12, tn20, tn124, tn28, itT, itF, if_pos, if_neg]
  | succ d ih =>
    intro n q S' hx hd q1 q2
    obtain ⟨n, rfl⟩ : ∃ p, n = p + 1 := ⟨n - 1, by omega⟩
    obtain ⟨S'', h1, h2, h3⟩ := ih n (q + 1) (up S' 83 q (iI 0)) (by omega) (by omega) (fun i p hi => by rw [up_ne hi]; exact q1 i p hi) (fun t ht => by
      by_cases c : t = q
      · rw [c, up_s]
      · rw [up_n (Or.inr c)]; exact q2 t (by omega))
    refine ⟨S'', h1, h2, ?_⟩
    rw [f_X8_byMinutes_L26]
    simp (disch := omega) only [li_0, li_1, li_2, li_3, li_4, li_5, li_6, li_7, li_8, li_9, li_10, li_11, li_12, li_16, li_19, li_20, li_28, li_48, li_57, li_59, li_60, li_96, li_97, li_99, li_100, li_102, li_103, li_104, li_112, li_115, li_116, li_118, li_119, li_121, li_124, li_132, li_255, li_256, li_1000, li_2000, li_1000000000, iI_add, iI_sub, iI_mul, iI_neg, iI_lt, iI_le, iI_eq, iI_clamp, iI_s, iI_m1, iI_div, bs, tn, tn4, tn12, tn20, tn124, tn28, itT, itF, if_pos, if_neg, h3]
theorem rML {S : St} {a : Nat → Int} {N now : Nat} (hm : RM S 75 a) (hw : WFa a) (hN : a 0 = N) (hn : now ≤ 11) (hn1 : a 1 = now) {M : Nat} (hM : M < 100) {k : St → Option (Int32 × St)} :
    ∀ d n x : Nat, ∀ S' : St, x + d = N → d < n → (∀ i p, i ≠ 83 → i ≠ 84 → S'.1 i p = S.1 i p) → (∀ t, t ≤ M → S'.1 83 t = iI (bR a now x (t / 5))) →
    ∃ S'', (∀ i p, i ≠ 83 → i ≠ 84 → S''.1 i p = S.1 i p) ∧ (∀ t, t ≤ M → S''.1 83 t = iI (bR a now N (t / 5))) ∧ f_X8_byMinutes_L46 n (iI M) (iI x) S' k = k S'' := by
  have h8 := hw.1
  intro d
  induction d with
  | zero =>
    intro n x S' hx hd q1 q2
    obtain ⟨n, rfl⟩ : ∃ p, n = p + 1 := ⟨n - 1, by omega⟩
    obtain rfl : x = N := by omega
    have e0 : S'.1 75 0 = iI x := by rw [q1 _ _ (by omega) (by omega), hm 0 (by omega), hN]
    refine ⟨S', q1, q2, ?_⟩
    rw [f_X8_byMinutes_L46]
    simp (disch := omega) only [li_0, li_1, li_2, li_3, li_4, li_5, li_6, li_7, li_8, li_9, li_10, li_11, li_12, li_16, li_19, li_20, li_28, li_48, li_57, li_59, li_60, li_96, li_97, li_99, li_100, li_102, li_103, li_104, li_112, li_115, li_116, li_118, li_119, li_121, li_124, li_132, li_255, li_256, li_1000, li_2000, li_1000000000, iI_add, iI_sub, iI_mul, iI_neg, iI_lt, iI_le, iI_eq, iI_clamp, iI_s, iI_m1, iI_div, bs, tn, tn4, tn12, tn20, tn124, tn28, itT, itF, if_pos, if_neg, e0]
  | succ d ih =>
    intro n x S' hx hd q1 q2
    obtain ⟨n, rfl⟩ : ∃ p, n = p + 1 := ⟨n - 1, by omega⟩
    have hm' : RM S' 75 a := fun k hk => by rw [q1 _ _ (by omega) (by omega)]; exact hm k hk
    have e0 : S'.1 75 0 = iI N := by rw [hm' 0 (by omega), hN]
    have bb := bR_b hw hn x (by omega)
    obtain ⟨S1, s1, s2, s3⟩ := rMK (S := S') hm' (by omega) (hw.t (j := x) (by omega)) hn hn1 (R := bR a now x) (fun u => by have := bb u; omega) (bR_mono a now x) hM q2 (k := fun S22 => f_X8_byMinutes_L164 2000 (iI M) (iI x) (iI 0) S22 (fun S26 => f_X8_byMinutes_L46 n (iI M) (iI ((x + 1 : Nat) : Int)) S26 k)) (M + 1) 2000 0 S' (by omega) (by omega) (fun _ _ _ => rfl) (fun t ht => absurd ht (by omega))
    obtain ⟨S2, t1, t2, t3⟩ := rMC (S := S1) (y2 := iI x) hM (k := fun S26 => f_X8_byMinutes_L46 n (iI M) (iI ((x + 1 : Nat) : Int)) S26 k) (M + 1) 2000 0 S1 (by omega) (by omega) (fun _ _ _ => rfl) (fun t ht => absurd ht (by omega))
    obtain ⟨S'', g1, g2, g3⟩ := ih n (x + 1) S2 (by omega) (by omega) (fun i p h1 h2 => by rw [t1 i p h1, s1 i p h2]; exact q1 i p h1 h2) (fun t ht => by rw [t2 t (by omega), s2 t (by omega)]; rfl)
    refine ⟨S'', g1, g2, ?_⟩
    rw [f_X8_byMinutes_L46]
    simp (disch := omega) only [li_0, li_1, li_2, li_3, li_4, li_5, li_6, li_7, li_8, li_9, li_10, li_11, li_12, li_16, li_19, li_20, li_28, li_48, li_57, li_59, li_60, li_96, li_97, li_99, li_100, li_102, li_103, li_104, li_112, li_115, li_116, li_118, li_119, li_121, li_124, li_132, li_255, li_256, li_1000, li_2000, li_1000000000, iI_add, iI_sub, iI_mul, iI_neg, iI_lt, iI_le, iI_eq, iI_clamp, iI_s, iI_m1, iI_div, bs, tn, tn4, tn12, tn20, tn124, tn28, itT, itF, if_pos, if_neg, e0]
    exact s3.trans (t3.trans g3)
theorem e_byMinutes {S : St} (hS : Inv S) (a1 : Int32) : ∃ (z1 : Int32 × St) (z2 : Int32 × St), f_X7_byMinutes a1 S = some z1 ∧ f_X8_byMinutes a1 z1.2 = some z2 ∧ z1.1 = z2.1 ∧ Inv z2.2 := by
  obtain ⟨⟨a, hw, hc, hm0⟩, -⟩ := id hS
  have hm : ∀ k, k < 132 → S.1 75 k = iI (a k) := hm0
  have h8 := hw.1
  have w1 := hw.2.1
  have w2 := hw.2.2.1
  have w3 := hw.2.2.2.1
  obtain ⟨now, hnow⟩ : ∃ n : Nat, a 1 = n := ⟨(a 1).toNat, by omega⟩
  obtain ⟨N, hN⟩ : ∃ n : Nat, a 0 = n := ⟨(a 0).toNat, by omega⟩
  have hn : now ≤ 11 := by omega
  have hN8 : N ≤ 8 := by omega
  have p1 : S.1 1 1 = iI now := by rw [hc.1 1 (by omega), hnow]
  have p0 : S.1 1 0 = iI N := by rw [hc.1 0 (by omega), hN]
  have m0 : S.1 75 0 = iI N := by rw [hm 0 (by omega), hN]
  have m1 : S.1 75 1 = iI now := by rw [hm 1 (by omega), hnow]
  obtain ⟨x, x1, x2, rfl⟩ := iI_any a1
  have e1 := cOut (z := x) (l := 0) (u := 99) x1 x2 (by omega) (by omega) (by omega) (by omega)
  by_cases c1 : x < 0
  · exact e_no hS (-4) 4 (by omega) (by omega) (by simp (disch := omega) only [li_0, li_1, li_2, li_3, li_4, li_5, li_6, li_7, li_8, li_9, li_10, li_11, li_12, li_16, li_19, li_20, li_28, li_48, li_57, li_59, li_60, li_96, li_97, li_99, li_100, li_102, li_103, li_104, li_112, li_115, li_116, li_118, li_119, li_121, li_124, li_132, li_255, li_256, li_1000, li_2000, li_1000000000, iI_add, iI_sub, iI_mul, iI_neg, iI_lt, iI_le, iI_eq, iI_clamp, iI_s, iI_m1, iI_div, bs, tn, tn4, tn12, tn20, tn124, tn28, itT, itF, if_pos, if_neg, f_X7_byMinutes, e1, bse]) (fun S1 q1 q2 => by simp (disch := omega) only [li_0, li_1, li_2, li_3, li_4, li_5, li_6, li_7, li_8, li_9, li_10, li_11, li_12, li_16, li_19, li_20, li_28, li_48, li_57, li_59, li_60, li_96, li_97, li_99, li_100, li_102, li_103, li_104, li_112, li_115, li_116, li_118, li_119, li_121, li_124, li_132, li_255, li_256, li_1000, li_2000, li_1000000000, iI_add, iI_sub, iI_mul, iI_neg, iI_lt, iI_le, iI_eq, iI_clamp, iI_s, iI_m1, iI_div, bs, tn, tn4, tn12, tn20, tn124, tn28, itT, itF, if_pos, if_neg, f_X8_byMinutes, bse])
  · by_cases c2 : 99 < x
    · exact e_no hS (-6) 6 (by omega) (by omega) (by simp (disch := omega) only [li_0, li_1, li_2, li_3, li_4, li_5, li_6, li_7, li_8, li_9, li_10, li_11, li_12, li_16, li_19, li_20, li_28, li_48, li_57, li_59, li_60, li_96, li_97, li_99, li_100, li_102, li_103, li_104, li_112, li_115, li_116, li_118, li_119, li_121, li_124, li_132, li_255, li_256, li_1000, li_2000, li_1000000000, iI_add, iI_sub, iI_mul, iI_neg, iI_lt, iI_le, iI_eq, iI_clamp, iI_s, iI_m1, iI_div, bs, tn, tn4, tn12, tn20, tn124, tn28, itT, itF, if_pos, if_neg, f_X7_byMinutes, e1, bse]) (fun S1 q1 q2 => by simp (disch := omega) only [li_0, li_1, li_2, li_3, li_4, li_5, li_6, li_7, li_8, li_9, li_10, li_11, li_12, li_16, li_19, li_20, li_28, li_48, li_57, li_59, li_60, li_96, li_97, li_99, li_100, li_102, li_103, li_104, li_112, li_115, li_116, li_118, li_119, li_121, li_124, li_132, li_255, li_256, li_1000, li_2000, li_1000000000, iI_add, iI_sub, iI_mul, iI_neg, iI_lt, iI_le, iI_eq, iI_clamp, iI_s, iI_m1, iI_div, bs, tn, tn4, tn12, tn20, tn124, tn28, itT, itF, if_pos, if_neg, f_X8_byMinutes, bse])
    · obtain ⟨M, rfl⟩ : ∃ n : Nat, x = n := ⟨x.toNat, by omega⟩
      obtain ⟨S1, a1', a2', a3'⟩ := cBM0 (S := S) (y1 := iI M) (k := fun S5 => f_X7_byMinutes_L41 2000 (iI M) (iI 0) S5 (fun S9 => some (S9.1 72 (M / 5), S9))) 20 2000 0 S (by omega) (by omega) (fun _ _ _ => rfl) (fun u hu => absurd hu (by omega))
      have hc1 : RC S1 1 a := hc.frt (fun i k h1 h2 => a1' i k (by omega))
      obtain ⟨S2, b1, b2, b3⟩ := cBMinL (S := S1) hc1 hw hN hn hnow (y1 := iI M) (k := fun S9 => some (S9.1 72 (M / 5), S9)) N 2000 0 S1 (by omega) (by omega) (fun _ _ _ => rfl) (fun u hu => a2' u hu)
      have a4' := a3'.trans b3
      rw [b2 (M / 5) (by omega)] at a4'
      have hm2 : RM S2 75 a := fun k hk => by rw [b1 _ _ (by omega), a1' _ _ (by omega)]; exact hm k hk
      obtain ⟨S3, d1, d2, d3⟩ := rM0 (S := S2) (M := M) (by omega) (k := fun S5 => f_X8_byMinutes_L46 2000 (iI M) (iI 0) S5 (fun S27 => some (S27.1 83 M, S27))) (M + 1) 2000 0 S2 (by omega) (by omega) (fun _ _ _ => rfl) (fun u hu => absurd hu (by omega))
      have hm3 : RM S3 75 a := fun k hk => by rw [d1 _ _ (by omega)]; exact hm2 k hk
      obtain ⟨S4, f1, f2, f3⟩ := rML (S := S3) hm3 hw hN hn hnow (M := M) (by omega) (k := fun S27 => some (S27.1 83 M, S27)) N 2000 0 S3 (by omega) (by omega) (fun _ _ _ _ => rfl) (fun t ht => d2 t (by omega))
      have d4 := d3.trans f3
      rw [f2 M (by omega)] at d4
      have i9 : Inv S4 := hS.sm (fun i k hs => by
        unfold scr at hs
        rw [f1 _ _ (by omega) (by omega), d1 _ _ (by omega), b1 _ _ (by omega), a1' _ _ (by omega)])
      have q5 : ((M : Int) / 5).toNat = M / 5 := by omega
      have a5 : f_X7_byMinutes_L20 2000 (iI M) (iI 0) S (fun S5 => f_X7_byMinutes_L41 2000 (iI M) (iI 0) S5 (fun S9 => some (S9.1 72 (M / 5), S9))) = some (iI (bR a now N (M / 5)), S2) := a4'
      have d5 : f_X8_byMinutes_L26 2000 (iI M) (iI 0) S2 (fun S5 => f_X8_byMinutes_L46 2000 (iI M) (iI 0) S5 (fun S27 => some (S27.1 83 M, S27))) = some (iI (bR a now N (M / 5)), S4) := d4
      exact e_mk (v := iI (bR a now N (M / 5))) (S1 := S2) (S2 := S4) (by simp (disch := omega) only [li_0, li_1, li_2, li_3, li_4, li_5, li_6, li_7, li_8, li_9, li_10, li_11, li_12, li_16, li_19, li_20, li_28, li_48, li_57, li_59, li_60, li_96, li_97, li_99, li_100, li_102, li_103, li_104, li_112, li_115, li_116, li_118, li_119, li_121, li_124, li_132, li_255, li_256, li_1000, li_2000, li_1000000000, iI_add, iI_sub, iI_mul, iI_neg, iI_lt, iI_le, iI_eq, iI_clamp, iI_s, iI_m1, iI_div, bs, tn, tn4, tn12, tn20, tn124, tn28, itT, itF, if_pos, if_neg, f_X7_byMinutes, e1, q5, a5]) (by simp (disch := omega) only [li_0, li_1, li_2, li_3, li_4, li_5, li_6, li_7, li_8, li_9, li_10, li_11, li_12, li_16, li_19, li_20, li_28, li_48, li_57, li_59, li_60, li_96, li_97, li_99, li_100, li_102, li_103, li_104, li_112, li_115, li_116, li_118, li_119, li_121, li_124, li_132, li_255, li_256, li_1000, li_2000, li_1000000000, iI_add, iI_sub, iI_mul, iI_neg, iI_lt, iI_le, iI_eq, iI_clamp, iI_s, iI_m1, iI_div, bs, tn, tn4, tn12, tn20, tn124, tn28, itT, itF, if_pos, if_neg, f_X8_byMinutes, d5]) i9
end
section
-- ===== wide whole numbers =====
def lI (z : Int) : Int64 := Int64.ofInt z
theorem lI_add (a b : Int) : lI a + lI b = lI (a + b) := (Int64.ofInt_add a b).symm
theorem lI_sub (a b : Int) : lI a - lI b = lI (a - b) := (Int64.ofInt_sub a b).symm
theorem lI_mul (a b : Int) : lI a * lI b = lI (a * b) := (Int64.ofInt_mul a b).symm
theorem lI_toInt {z : Int} (h1 : -9223372036854775808 ≤ z) (h2 : z < 9223372036854775808) : (lI z).toInt = z := Int64.toInt_ofInt_of_le (by omega) (by omega)
theorem lI_eq {a b : Int} (h1 : -9223372036854775808 ≤ a) (h2 : a < 9223372036854775808) (h3 : -9223372036854775808 ≤ b) (h4 : b < 9223372036854775808) : lI a = lI b ↔ a = b := by
  rw [← Int64.toInt_inj, lI_toInt h1 h2, lI_toInt h3 h4]
theorem lI_le {a b : Int} (h1 : -9223372036854775808 ≤ a) (h2 : a < 9223372036854775808) (h3 : -9223372036854775808 ≤ b) (h4 : b < 9223372036854775808) : lI a ≤ lI b ↔ a ≤ b := by
  rw [Int64.le_iff_toInt_le, lI_toInt h1 h2, lI_toInt h3 h4]
theorem lI_div {a b : Int} (h1 : 0 ≤ a) (h2 : a < 9223372036854775808) (h3 : 0 < b) (h4 : b < 9223372036854775808) : lI a / lI b = lI (a / b) := by
  have e1 : 0 ≤ a / b := Int.ediv_nonneg h1 (by omega)
  have e2 : a / b ≤ a := Int.ediv_le_self _ h1
  rw [← Int64.toInt_inj, Int64.toInt_div, lI_toInt (by omega) h2, lI_toInt (by omega) h4, lI_toInt (by omega) (by omega), Int.tdiv_eq_ediv_of_nonneg h1]
  exact Int.bmod_eq_of_le (by omega) (by omega)
theorem iI_l {z : Int} (h1 : -2147483648 ≤ z) (h2 : z < 2147483648) : (iI z).toInt64 = lI z := Int32.toInt64_ofInt (by rw [Int32.toInt_minValue]; omega) (by rw [Int32.toInt_maxValue]; omega)
-- ===== odds =====
def wW (k : Int) : Nat → Nat → Int
  | 0, 0 => 1
  | 0, _ + 1 => 0
  | n + 1, 0 => wW k n 0
  | n + 1, c + 1 => wW k n (c + 1) + wW k n c * k
theorem wW_hi (k : Int) : ∀ n c, n < c → wW k n c = 0 := by
  intro n
  induction n with
  | zero =>
    intro c hc
    obtain ⟨c, rfl⟩ : ∃ p, c = p + 1 := ⟨c - 1, by omega⟩
    rfl
  | succ n ih =>
    intro c hc
    obtain ⟨c, rfl⟩ : ∃ p, c = p + 1 := ⟨c - 1, by omega⟩
    rw [wW, ih (c + 1) (by omega), ih c (by omega)]
    simp
theorem wW_nn {k : Int} (hk : 0 ≤ k) : ∀ n c, 0 ≤ wW k n c := by
  intro n
  induction n with
  | zero =>
    intro c
    cases c with
    | zero => show (0 : Int) ≤ 1; omega
    | succ c => exact Int.le_refl _
  | succ n ih =>
    intro c
    cases c with
    | zero => exact ih 0
    | succ c =>
      have h1 := ih (c + 1)
      have h2 := Int.mul_nonneg (ih c) hk
      rw [wW]
      omega
def sW (k : Int) (n : Nat) (G : Nat → Int) : Int := sSum (fun c => wW k n c * G c) 9
theorem sW_s (k : Int) {n : Nat} (hn : n < 8) (G : Nat → Int) : sW k (n + 1) G = sW k n (fun c => k * G (c + 1)) + sW k n G := by
  have h8 := wW_hi k n 8 (by omega)
  simp only [sW, sSum, wW, Int.add_mul, Int.mul_assoc, h8, Int.zero_mul, Nat.reduceAdd]
  omega
theorem sW_mul (k : Int) (n : Nat) (q : Int) (G : Nat → Int) : sW k n (fun c => q * G c) = q * sW k n G := by
  have h : ∀ x, sSum (fun c => wW k n c * (q * G c)) x = q * sSum (fun c => wW k n c * G c) x := by
    intro x
    induction x with
    | zero => exact (Int.mul_zero q).symm
    | succ x ih =>
      rw [sSum, sSum, ih, Int.mul_add, Int.mul_left_comm]
  exact h 9
theorem sW_pow (k : Int) : ∀ n, n ≤ 8 → sW k n (fun _ => 1) = (k + 1) ^ n := by
  intro n
  induction n with
  | zero => intro _; rw [Int.pow_zero]; rfl
  | succ n ih =>
    intro h
    have e : (fun _ : Nat => k * 1) = fun c : Nat => k * (fun _ : Nat => (1 : Int)) c := rfl
    rw [sW_s k (by omega), e, sW_mul, ih (by omega), Int.pow_succ, Int.mul_add, Int.mul_one, Int.mul_comm]
theorem sSum_mono {f g : Nat → Int} : ∀ n, (∀ x, x < n → f x ≤ g x) → sSum f n ≤ sSum g n := by
  intro n
  induction n with
  | zero => intro _; exact Int.le_refl _
  | succ n ih =>
    intro h
    have h1 := ih (fun x hx => h x (by omega))
    have h2 := h n (by omega)
    rw [sSum, sSum]
    omega
theorem sW_nn {k : Int} (hk : 0 ≤ k) (n : Nat) {G : Nat → Int} (hG : ∀ c, c < 9 → 0 ≤ G c) : 0 ≤ sW k n G := by
  have h := sSum_mono (f := fun _ => 0) (g := fun c => wW k n c * G c) 9 (fun c hc => Int.mul_nonneg (wW_nn hk n c) (hG c hc))
  exact h
theorem sW_99 {k : Int} (hk : 0 ≤ k) (n : Nat) {G : Nat → Int} (hG : ∀ c, c < 9 → G c ≤ 99) : sW k n G ≤ 99 * sW k n (fun _ => 1) := by
  rw [← sW_mul]
  exact sSum_mono 9 (fun c hc => Int.mul_le_mul_of_nonneg_left (by have := hG c hc; show G c ≤ 99 * 1; omega) (wW_nn hk n c))
theorem pow_b {t : Int} (h1 : 1 ≤ t) (h2 : t ≤ 20) : ∀ n, n ≤ 8 → 1 ≤ t ^ n ∧ t ^ n ≤ 25600000000 := by
  have h : ∀ n : Nat, 1 ≤ t ^ n ∧ t ^ n ≤ ((20 ^ n : Nat) : Int) := by
    intro n
    induction n with
    | zero => rw [Int.pow_zero]; exact ⟨Int.le_refl _, Int.le_refl _⟩
    | succ n ih =>
      rw [Int.pow_succ]
      have a1 : 1 * 1 ≤ t ^ n * t := Int.mul_le_mul ih.1 h1 (by omega) (by omega)
      have a2 : t ^ n * t ≤ ((20 ^ n : Nat) : Int) * 20 := Int.mul_le_mul ih.2 h2 (by omega) (by omega)
      have a3 : ((20 ^ (n + 1) : Nat) : Int) = ((20 ^ n : Nat) : Int) * 20 := by rw [Nat.pow_succ]; rfl
      omega
  intro n hn
  have h3 : (20 : Nat) ^ n ≤ 20 ^ 8 := Nat.pow_le_pow_right (by omega) hn
  have h4 : (20 : Nat) ^ 8 = 25600000000 := rfl
  have h5 := h n
  refine ⟨h5.1, Int.le_trans h5.2 ?_⟩
  have : ((20 ^ n : Nat) : Int) ≤ ((20 ^ 8 : Nat) : Int) := Int.ofNat_le.mpr h3
  rw [h4] at this
  exact this
def popN (m : Nat) : Nat → Nat
  | 0 => 0
  | b + 1 => popN m b + m / 2 ^ b % 2
theorem popN_le (m : Nat) : ∀ x, popN m x ≤ x := by
  intro x
  induction x with
  | zero => exact Nat.le_refl _
  | succ x ih => rw [popN]; omega
theorem popN_hi {m n : Nat} (hm : m < 2 ^ n) : ∀ d, popN m (n + d) = popN m n := by
  intro d
  induction d with
  | zero => rfl
  | succ d ih =>
    show popN m (n + d) + m / 2 ^ (n + d) % 2 = _
    rw [ih, bit_hi hm (by omega)]
    rfl
theorem popN_low (m n : Nat) : ∀ x, x ≤ n → popN (2 ^ n + m) x = popN m x := by
  intro x
  induction x with
  | zero => intro _; rfl
  | succ x ih =>
    intro h
    have e := Nat.testBit_two_pow_add_gt (i := n) (j := x) (by omega) m
    rw [Nat.testBit_eq_decide_div_mod_eq, Nat.testBit_eq_decide_div_mod_eq, decide_eq_decide] at e
    rw [popN, popN, ih (by omega)]
    omega
theorem popN_top {m n : Nat} (hm : m < 2 ^ n) : popN (2 ^ n + m) (n + 1) = popN m n + 1 := by
  rw [popN, popN_low m n n (Nat.le_refl _), Nat.add_div_left _ (Nat.two_pow_pos n), Nat.div_eq_of_lt hm]
theorem sSum_split (f : Nat → Int) (A : Nat) : ∀ B, sSum f (A + B) = sSum f A + sSum (fun i => f (A + i)) B := by
  intro B
  induction B with
  | zero => exact (Int.add_zero _).symm
  | succ B ih =>
    show sSum f (A + B) + f (A + B) = sSum f A + (sSum (fun i => f (A + i)) B + f (A + B))
    rw [ih]
    omega
def mW (n : Nat) (H : Nat → Int) : Int := sSum (fun m => H (n - popN m n)) (2 ^ n)
theorem mW_sW (k : Int) : ∀ n, n ≤ 8 → ∀ G, mW n (fun c => k ^ c * G c) = sW k n G := by
  intro n
  induction n with
  | zero =>
    intro _ G
    show (0 : Int) + k ^ 0 * G 0 = ((((((((0 + 1 * G 0) + 0 * G 1) + 0 * G 2) + 0 * G 3) + 0 * G 4) + 0 * G 5) + 0 * G 6) + 0 * G 7) + 0 * G 8
    rw [Int.pow_zero]
    omega
  | succ n ih =>
    intro hn G
    have e0 : 2 ^ (n + 1) = 2 ^ n + 2 ^ n := by rw [Nat.pow_succ]; omega
    have e1 : sSum (fun m => k ^ (n + 1 - popN m (n + 1)) * G (n + 1 - popN m (n + 1))) (2 ^ n) = mW n (fun c => k ^ c * (k * G (c + 1))) := sSum_congr _ (fun m hm => by
      have a1 : popN m (n + 1) = popN m n := popN_hi hm 1
      have a2 := popN_le m n
      show k ^ (n + 1 - popN m (n + 1)) * G (n + 1 - popN m (n + 1)) = k ^ (n - popN m n) * (k * G (n - popN m n + 1))
      rw [a1, show n + 1 - popN m n = (n - popN m n) + 1 by omega, Int.pow_succ, Int.mul_assoc])
    have e2 : sSum (fun i => k ^ (n + 1 - popN (2 ^ n + i) (n + 1)) * G (n + 1 - popN (2 ^ n + i) (n + 1))) (2 ^ n) = mW n (fun c => k ^ c * G c) := sSum_congr _ (fun m hm => by
      show k ^ (n + 1 - popN (2 ^ n + m) (n + 1)) * G (n + 1 - popN (2 ^ n + m) (n + 1)) = k ^ (n - popN m n) * G (n - popN m n)
      rw [popN_top hm, show n + 1 - (popN m n + 1) = n - popN m n by omega])
    have e3 : mW (n + 1) (fun c => k ^ c * G c) = sSum (fun m => k ^ (n + 1 - popN m (n + 1)) * G (n + 1 - popN m (n + 1))) (2 ^ n) + sSum (fun i => k ^ (n + 1 - popN (2 ^ n + i) (n + 1)) * G (n + 1 - popN (2 ^ n + i) (n + 1))) (2 ^ n) := by
      unfold mW
      rw [e0]
      exact sSum_split _ _ _
    rw [e3, e1, e2, ih (by omega), ih (by omega), sW_s k (by omega)]
theorem popN_sum (m : Nat) : ∀ x, sSum (fun b => ((m / 2 ^ b % 2 : Nat) : Int)) x = (popN m x : Int) := by
  intro x
  induction x with
  | zero => rfl
  | succ x ih => rw [sSum, ih, popN]; rfl
end
section
-- ===== the class' ways =====
theorem upL_1 (S : St) (k : Nat) (x : Int64) : (upL S k x).1 = S.1 := rfl
theorem upL_s {S : St} {k : Nat} {x : Int64} : (upL S k x).2 k = x := if_pos rfl
theorem upL_n {S : St} {k j : Nat} {x : Int64} (h : j ≠ k) : (upL S k x).2 j = S.2 j := if_neg h
theorem cW0 {F : Nat → Nat → Int32} {a1 a2 : Int32} {k : St → Option St} : ∀ d n x : Nat, ∀ S' : St, x + d = 9 → 1 ≤ x → d < n → S'.1 = F → (∀ c, 1 ≤ c → c < x → S'.2 c = lI 0) → ∃ S'', S''.1 = F ∧ (∀ c, 1 ≤ c → c < 9 → S''.2 c = lI 0) ∧ f_X4_weigh_L2 n a1 a2 (iI x) S' k = k S'' := by
  intro d
  induction d with
  | zero =>
    intro n x S' hx _ hd h1 h2
    obtain ⟨n, rfl⟩ : ∃ p, n = p + 1 := ⟨n - 1, by omega⟩
    obtain rfl : x = 9 := by omega
    refine ⟨S', h1, h2, ?_⟩
    rw [f_X4_weigh_L2]
    simp (disch := omega) only [li_0, li_1, li_2, li_3, li_4, li_5, li_6, li_7, li_8, li_9, li_10, li_11, li_12, li_16, li_19, li_20, li_28, li_48, li_57, li_59, li_60, li_96, li_97, li_99, li_100, li_102, li_103, li_104, li_112, li_115, li_116, li_118, li_119, li_121, li_124, li_132, li_255, li_256, li_1000, li_2000, li_1000000000, iI_add, iI_sub, iI_mul, iI_neg, iI_lt, iI_le, iI_eq, iI_clamp, iI_s, iI_m1, iI_div, bs, tn, tn4, tn12, tn20, tn124, tn28, itT, itF, if_pos, if_neg]
  | succ d ih =>
    intro n x S' hx hx1 hd h1 h2
    obtain ⟨n, rfl⟩ : ∃ p, n = p + 1 := ⟨n - 1, by omega⟩
    obtain ⟨S'', g1, g2, g3⟩ := ih n (x + 1) (upL S' x 0) (by omega) (by omega) (by omega) h1 (fun c h3 h4 => by
      by_cases e : c = x
      · rw [e, upL_s]; rfl
      · rw [upL_n e]; exact h2 c h3 (by omega))
    refine ⟨S'', g1, g2, ?_⟩
    rw [f_X4_weigh_L2]
    simp (disch := omega) only [li_0, li_1, li_2, li_3, li_4, li_5, li_6, li_7, li_8, li_9, li_10, li_11, li_12, li_16, li_19, li_20, li_28, li_48, li_57, li_59, li_60, li_96, li_97, li_99, li_100, li_102, li_103, li_104, li_112, li_115, li_116, li_118, li_119, li_121, li_124, li_132, li_255, li_256, li_1000, li_2000, li_1000000000, iI_add, iI_sub, iI_mul, iI_neg, iI_lt, iI_le, iI_eq, iI_clamp, iI_s, iI_m1, iI_div, bs, tn, tn4, tn12, tn20, tn124, tn28, itT, itF, if_pos, if_neg, g3]
theorem cW1 {F : Nat → Nat → Int32} {n0 r : Nat} {t : Int} (ht : 2 ≤ t ∧ t ≤ 20) {x1 x3 : Int32} {k : St → Option St} : ∀ m n : Nat, ∀ S' : St, m ≤ 8 → m < n → S'.1 = F → (∀ c, c ≤ m → S'.2 c = lI (wW (t - 1) r c)) → (∀ c, m < c → c < 9 → S'.2 c = lI (wW (t - 1) (r + 1) c)) → ∃ S'', S''.1 = F ∧ (∀ c, c < 9 → S''.2 c = lI (wW (t - 1) (r + 1) c)) ∧ f_X4_weigh_L39 n x1 (iI t) x3 (iI m) S' k = k S'' := by
  intro m
  induction m with
  | zero =>
    intro n S' hm hd h1 h2 h3
    obtain ⟨n, rfl⟩ : ∃ p, n = p + 1 := ⟨n - 1, by omega⟩
    refine ⟨S', h1, fun c hc => ?_, ?_⟩
    · by_cases e : c = 0
      · rw [e]; exact h2 0 (by omega)
      · exact h3 c (by omega) hc
    · rw [f_X4_weigh_L39]
      simp (disch := omega) only [li_0, li_1, li_2, li_3, li_4, li_5, li_6, li_7, li_8, li_9, li_10, li_11, li_12, li_16, li_19, li_20, li_28, li_48, li_57, li_59, li_60, li_96, li_97, li_99, li_100, li_102, li_103, li_104, li_112, li_115, li_116, li_118, li_119, li_121, li_124, li_132, li_255, li_256, li_1000, li_2000, li_1000000000, iI_add, iI_sub, iI_mul, iI_neg, iI_lt, iI_le, iI_eq, iI_clamp, iI_s, iI_m1, iI_div, bs, tn, tn4, tn12, tn20, tn124, tn28, itT, itF, if_pos, if_neg]
  | succ m ih =>
    intro n S' hm hd h1 h2 h3
    obtain ⟨n, rfl⟩ : ∃ p, n = p + 1 := ⟨n - 1, by omega⟩
    have e : ((m + 1 : Nat) : Int) - 1 = (m : Int) := by omega
    have l1 := iI_l (z := t - 1) (by omega) (by omega)
    have e1 := h2 m (by omega)
    have e2 := h2 (m + 1) (by omega)
    have eW : lI (wW (t - 1) r (m + 1)) + lI (wW (t - 1) r m) * lI (t - 1) = lI (wW (t - 1) (r + 1) (m + 1)) := by rw [lI_mul, lI_add]; rfl
    obtain ⟨S'', g1, g2, g3⟩ := ih n (upL S' (m + 1) (lI (wW (t - 1) (r + 1) (m + 1)))) (by omega) (by omega) h1 (fun c hc => by rw [upL_n (by omega)]; exact h2 c (by omega)) (fun c h4 h5 => by
      by_cases e : c = m + 1
      · rw [e, upL_s]
      · rw [upL_n e]; exact h3 c (by omega) h5)
    refine ⟨S'', g1, g2, ?_⟩
    rw [f_X4_weigh_L39]
    simp (disch := omega) only [li_0, li_1, li_2, li_3, li_4, li_5, li_6, li_7, li_8, li_9, li_10, li_11, li_12, li_16, li_19, li_20, li_28, li_48, li_57, li_59, li_60, li_96, li_97, li_99, li_100, li_102, li_103, li_104, li_112, li_115, li_116, li_118, li_119, li_121, li_124, li_132, li_255, li_256, li_1000, li_2000, li_1000000000, iI_add, iI_sub, iI_mul, iI_neg, iI_lt, iI_le, iI_eq, iI_clamp, iI_s, iI_m1, iI_div, bs, tn, tn4, tn12, tn20, tn124, tn28, itT, itF, if_pos, if_neg, e, l1, e1, e2, eW, g3]
theorem cW2 {F : Nat → Nat → Int32} {N : Nat} (hN : N ≤ 8) {t : Int} (ht : 2 ≤ t ∧ t ≤ 20) {k : St → Option St} : ∀ d n r : Nat, ∀ S' : St, r + d = N → d < n → S'.1 = F → (∀ c, c < 9 → S'.2 c = lI (wW (t - 1) r c)) → ∃ S'', S''.1 = F ∧ (∀ c, c < 9 → S''.2 c = lI (wW (t - 1) N c)) ∧ f_X4_weigh_L30 n (iI N) (iI t) (iI r) S' k = k S'' := by
  intro d
  induction d with
  | zero =>
    intro n r S' hx hd h1 h2
    obtain ⟨n, rfl⟩ : ∃ p, n = p + 1 := ⟨n - 1, by omega⟩
    obtain rfl : r = N := by omega
    refine ⟨S', h1, h2, ?_⟩
    rw [f_X4_weigh_L30]
    simp (disch := omega) only [li_0, li_1, li_2, li_3, li_4, li_5, li_6, li_7, li_8, li_9, li_10, li_11, li_12, li_16, li_19, li_20, li_28, li_48, li_57, li_59, li_60, li_96, li_97, li_99, li_100, li_102, li_103, li_104, li_112, li_115, li_116, li_118, li_119, li_121, li_124, li_132, li_255, li_256, li_1000, li_2000, li_1000000000, iI_add, iI_sub, iI_mul, iI_neg, iI_lt, iI_le, iI_eq, iI_clamp, iI_s, iI_m1, iI_div, bs, tn, tn4, tn12, tn20, tn124, tn28, itT, itF, if_pos, if_neg]
  | succ d ih =>
    intro n r S' hx hd h1 h2
    obtain ⟨n, rfl⟩ : ∃ p, n = p + 1 := ⟨n - 1, by omega⟩
    obtain ⟨S1, c1, c2, c3⟩ := cW1 (F := F) (n0 := 0) (r := r) ht (x1 := iI N) (x3 := iI r) (k := fun S9 => f_X4_weigh_L30 n (iI N) (iI t) (iI ((r + 1 : Nat) : Int)) S9 k) 8 2000 S' (by omega) (by omega) h1 (fun c hc => h2 c (by omega)) (fun c h3 h4 => absurd h3 (by omega))
    obtain ⟨S'', g1, g2, g3⟩ := ih n (r + 1) S1 (by omega) (by omega) c1 c2
    refine ⟨S'', g1, g2, ?_⟩
    rw [f_X4_weigh_L30]
    simp (disch := omega) only [li_0, li_1, li_2, li_3, li_4, li_5, li_6, li_7, li_8, li_9, li_10, li_11, li_12, li_16, li_19, li_20, li_28, li_48, li_57, li_59, li_60, li_96, li_97, li_99, li_100, li_102, li_103, li_104, li_112, li_115, li_116, li_118, li_119, li_121, li_124, li_132, li_255, li_256, li_1000, li_2000, li_1000000000, iI_add, iI_sub, iI_mul, iI_neg, iI_lt, iI_le, iI_eq, iI_clamp, iI_s, iI_m1, iI_div, bs, tn, tn4, tn12, tn20, tn124, tn28, itT, itF, if_pos, if_neg]
    exact c3.trans g3
theorem cWays (S : St) {N : Nat} (hN : N ≤ 8) {t : Int} (ht : 2 ≤ t ∧ t ≤ 20) : ∃ S', f_X4_weigh (iI N) (iI t) S = some S' ∧ S'.1 = S.1 ∧ ∀ c, c < 9 → S'.2 c = lI (wW (t - 1) N c) := by
  obtain ⟨S1, c1, c2, c3⟩ := cW0 (F := S.1) (a1 := iI N) (a2 := iI t) (k := fun S3 => f_X4_weigh_L30 2000 (iI N) (iI t) (iI 0) (upL S3 0 1) (fun s => some s)) 8 2000 1 S (by omega) (by omega) (by omega) rfl (fun c h1 h2 => absurd h1 (by omega))
  obtain ⟨S2, d1, d2, d3⟩ := cW2 (F := S.1) hN ht (k := fun s => some s) N 2000 0 (upL S1 0 1) (by omega) (by omega) c1 (fun c hc => by
    by_cases e : c = 0
    · rw [e, upL_s]; rfl
    · rw [upL_n e, c2 c (by omega) hc]
      obtain ⟨c, rfl⟩ : ∃ p, c = p + 1 := ⟨c - 1, by omega⟩
      rfl)
  refine ⟨S2, ?_, d1, d2⟩
  rw [f_X4_weigh]
  exact c3.trans d3
section WS
variable {S : St} {W : Nat → Int}
theorem cAW (hW : ∀ c, c < 9 → S.2 c = lI (W c)) {k : Int64 → Option Int64} : ∀ d n x : Nat, x + d = 9 → d < n → f_X4_allWays_L4 n (lI (sSum (fun c => W c * 1) x)) (iI x) S k = k (lI (sSum (fun c => W c * 1) 9)) := by
  intro d
  induction d with
  | zero =>
    intro n x hx hd
    obtain ⟨n, rfl⟩ : ∃ p, n = p + 1 := ⟨n - 1, by omega⟩
    obtain rfl : x = 9 := by omega
    rw [f_X4_allWays_L4]
    simp (disch := omega) only [li_0, li_1, li_2, li_3, li_4, li_5, li_6, li_7, li_8, li_9, li_10, li_11, li_12, li_16, li_19, li_20, li_28, li_48, li_57, li_59, li_60, li_96, li_97, li_99, li_100, li_102, li_103, li_104, li_112, li_115, li_116, li_118, li_119, li_121, li_124, li_132, li_255, li_256, li_1000, li_2000, li_1000000000, iI_add, iI_sub, iI_mul, iI_neg, iI_lt, iI_le, iI_eq, iI_clamp, iI_s, iI_m1, iI_div, bs, tn, tn4, tn12, tn20, tn124, tn28, itT, itF, if_pos, if_neg]
  | succ d ih =>
    intro n x hx hd
    obtain ⟨n, rfl⟩ : ∃ p, n = p + 1 := ⟨n - 1, by omega⟩
    have i1 := ih n (x + 1) (by omega) (by omega)
    have e1 := hW x (by omega)
    rw [sSum, Int.mul_one] at i1
    rw [f_X4_allWays_L4]
    simp (disch := omega) only [li_0, li_1, li_2, li_3, li_4, li_5, li_6, li_7, li_8, li_9, li_10, li_11, li_12, li_16, li_19, li_20, li_28, li_48, li_57, li_59, li_60, li_96, li_97, li_99, li_100, li_102, li_103, li_104, li_112, li_115, li_116, li_118, li_119, li_121, li_124, li_132, li_255, li_256, li_1000, li_2000, li_1000000000, iI_add, iI_sub, iI_mul, iI_neg, iI_lt, iI_le, iI_eq, iI_clamp, iI_s, iI_m1, iI_div, bs, tn, tn4, tn12, tn20, tn124, tn28, itT, itF, if_pos, if_neg, e1, lI_add, i1]
theorem cAWs (hW : ∀ c, c < 9 → S.2 c = lI (W c)) : f_X4_allWays S = some (lI (sSum (fun c => W c * 1) 9)) := by
  have i := cAW hW (k := fun y => some y) 9 2000 0 (by omega) (by omega)
  rw [f_X4_allWays]
  exact i
variable {t : Nat} {a : Nat → Int} {j now : Nat}
theorem cWI (ht : RT S t a j) (hw : WT a j) (hn : now ≤ 11) (hW : ∀ c, c < 9 → S.2 c = lI (W c)) {y : Nat} (hy : y ≤ 11) {k : Int64 → Option Int64} : ∀ d n x : Nat, x + d = 9 → d < n → f_X4_waysInto_L6 n t (iI y) (iI now) (lI (sSum (fun c => W c * (if sY a j now (5 * (c : Int)) 0 = y then 1 else 0)) x)) (iI x) S k = k (lI (sSum (fun c => W c * (if sY a j now (5 * (c : Int)) 0 = y then 1 else 0)) 9)) := by
  intro d
  induction d with
  | zero =>
    intro n x hx hd
    obtain ⟨n, rfl⟩ : ∃ p, n = p + 1 := ⟨n - 1, by omega⟩
    obtain rfl : x = 9 := by omega
    rw [f_X4_waysInto_L6]
    simp (disch := omega) only [li_0, li_1, li_2, li_3, li_4, li_5, li_6, li_7, li_8, li_9, li_10, li_11, li_12, li_16, li_19, li_20, li_28, li_48, li_57, li_59, li_60, li_96, li_97, li_99, li_100, li_102, li_103, li_104, li_112, li_115, li_116, li_118, li_119, li_121, li_124, li_132, li_255, li_256, li_1000, li_2000, li_1000000000, iI_add, iI_sub, iI_mul, iI_neg, iI_lt, iI_le, iI_eq, iI_clamp, iI_s, iI_m1, iI_div, bs, tn, tn4, tn12, tn20, tn124, tn28, itT, itF, if_pos, if_neg]
  | succ d ih =>
    intro n x hx hd
    obtain ⟨n, rfl⟩ : ∃ p, n = p + 1 := ⟨n - 1, by omega⟩
    have i1 := ih n (x + 1) (by omega) (by omega)
    have e1 := hW x (by omega)
    have ec : (x : Int) * 5 = 5 * (x : Int) := Int.mul_comm _ _
    have e2 := cY ht hw hn (m := 5 * (x : Int)) (f := 0) (by omega) (by omega)
    have yb := sY_le a j now (5 * (x : Int)) 0
    have z0 : (0 : Int64) = lI 0 := rfl
    rw [sSum] at i1
    rw [f_X4_waysInto_L6, z0]
    by_cases c : sY a j now (5 * (x : Int)) 0 = y
    · rw [if_pos c, Int.mul_one] at i1
      simp (disch := omega) only [li_0, li_1, li_2, li_3, li_4, li_5, li_6, li_7, li_8, li_9, li_10, li_11, li_12, li_16, li_19, li_20, li_28, li_48, li_57, li_59, li_60, li_96, li_97, li_99, li_100, li_102, li_103, li_104, li_112, li_115, li_116, li_118, li_119, li_121, li_124, li_132, li_255, li_256, li_1000, li_2000, li_1000000000, iI_add, iI_sub, iI_mul, iI_neg, iI_lt, iI_le, iI_eq, iI_clamp, iI_s, iI_m1, iI_div, bs, tn, tn4, tn12, tn20, tn124, tn28, itT, itF, if_pos, if_neg, ec, e2, e1, lI_add, i1]
    · rw [if_neg c, Int.mul_zero] at i1
      simp (disch := omega) only [li_0, li_1, li_2, li_3, li_4, li_5, li_6, li_7, li_8, li_9, li_10, li_11, li_12, li_16, li_19, li_20, li_28, li_48, li_57, li_59, li_60, li_96, li_97, li_99, li_100, li_102, li_103, li_104, li_112, li_115, li_116, li_118, li_119, li_121, li_124, li_132, li_255, li_256, li_1000, li_2000, li_1000000000, iI_add, iI_sub, iI_mul, iI_neg, iI_lt, iI_le, iI_eq, iI_clamp, iI_s, iI_m1, iI_div, bs, tn, tn4, tn12, tn20, tn124, tn28, itT, itF, if_pos, if_neg, ec, e2, e1, lI_add, i1]
theorem cWIs (ht : RT S t a j) (hw : WT a j) (hn : now ≤ 11) (hW : ∀ c, c < 9 → S.2 c = lI (W c)) {y : Nat} (hy : y ≤ 11) : f_X4_waysInto t (iI y) (iI now) S = some (lI (sSum (fun c => W c * (if sY a j now (5 * (c : Int)) 0 = y then 1 else 0)) 9)) := by
  have i := cWI ht hw hn hW hy (k := fun y => some y) 9 2000 0 (by omega) (by omega)
  rw [f_X4_waysInto]
  exact i
theorem cGA (ht : RT S t a j) (hw : WT a j) (hn : now ≤ 11) (hW : ∀ c, c < 9 → S.2 c = lI (W c)) {k : Int64 → Option Int64} : ∀ d n x : Nat, x + d = 9 → d < n → f_X4_gladOfAll_L5 n t (iI now) (lI (sSum (fun c => W c * gY a j now c) x)) (iI x) S k = k (lI (sSum (fun c => W c * gY a j now c) 9)) := by
  intro d
  induction d with
  | zero =>
    intro n x hx hd
    obtain ⟨n, rfl⟩ : ∃ p, n = p + 1 := ⟨n - 1, by omega⟩
    obtain rfl : x = 9 := by omega
    rw [f_X4_gladOfAll_L5]
    simp (disch := omega) only [li_0, li_1, li_2, li_3, li_4, li_5, li_6, li_7, li_8, li_9, li_10, li_11, li_12, li_16, li_19, li_20, li_28, li_48, li_57, li_59, li_60, li_96, li_97, li_99, li_100, li_102, li_103, li_104, li_112, li_115, li_116, li_118, li_119, li_121, li_124, li_132, li_255, li_256, li_1000, li_2000, li_1000000000, iI_add, iI_sub, iI_mul, iI_neg, iI_lt, iI_le, iI_eq, iI_clamp, iI_s, iI_m1, iI_div, bs, tn, tn4, tn12, tn20, tn124, tn28, itT, itF, if_pos, if_neg]
  | succ d ih =>
    intro n x hx hd
    obtain ⟨n, rfl⟩ : ∃ p, n = p + 1 := ⟨n - 1, by omega⟩
    have i1 := ih n (x + 1) (by omega) (by omega)
    have e1 := hW x (by omega)
    have ec : (x : Int) * 5 = 5 * (x : Int) := Int.mul_comm _ _
    have e2 := cY ht hw hn (m := 5 * (x : Int)) (f := 0) (by omega) (by omega)
    have yb := sY_le a j now (5 * (x : Int)) 0
    have e3 : f_X6_gladIn t (iI (sY a j now (5 * (x : Int)) 0)) S = some (iI (gY a j now x)) := cG ht (by omega)
    have gb := gY_b hw hn x
    have e4 := iI_l (z := gY a j now x) (by omega) (by omega)
    rw [sSum] at i1
    rw [f_X4_gladOfAll_L5]
    simp (disch := omega) only [li_0, li_1, li_2, li_3, li_4, li_5, li_6, li_7, li_8, li_9, li_10, li_11, li_12, li_16, li_19, li_20, li_28, li_48, li_57, li_59, li_60, li_96, li_97, li_99, li_100, li_102, li_103, li_104, li_112, li_115, li_116, li_118, li_119, li_121, li_124, li_132, li_255, li_256, li_1000, li_2000, li_1000000000, iI_add, iI_sub, iI_mul, iI_neg, iI_lt, iI_le, iI_eq, iI_clamp, iI_s, iI_m1, iI_div, bs, tn, tn4, tn12, tn20, tn124, tn28, itT, itF, if_pos, if_neg, ec, e2, e1, e3, e4, lI_mul, lI_add, i1]
theorem cGAs (ht : RT S t a j) (hw : WT a j) (hn : now ≤ 11) (hW : ∀ c, c < 9 → S.2 c = lI (W c)) : f_X4_gladOfAll t (iI now) S = some (lI (sSum (fun c => W c * gY a j now c) 9)) := by
  have i := cGA ht hw hn hW (k := fun y => some y) 9 2000 0 (by omega) (by omega)
  rw [f_X4_gladOfAll]
  exact i
end WS
-- ===== the reference's slips =====
section RSL
variable {S : St} {a : Nat → Int} {j now : Nat}
theorem rPw {t : Int} {N b : Nat} (ht : 2 ≤ t ∧ t ≤ 20) (hN : N ≤ 8) {x1 x4 x7 : Int32} {x5 : Int64} {k : Int64 → Option Int64} : ∀ d n x : Nat, x + d = N → b ≤ x → d < n → f_X8_slips_L24 n x1 (iI N) (iI t) x4 x5 x7 (lI ((t - 1) ^ (x - b))) (iI x) S k = k (lI ((t - 1) ^ (N - b))) := by
  intro d
  induction d with
  | zero =>
    intro n x hx hb hd
    obtain ⟨n, rfl⟩ : ∃ p, n = p + 1 := ⟨n - 1, by omega⟩
    obtain rfl : x = N := by omega
    rw [f_X8_slips_L24]
    simp (disch := omega) only [li_0, li_1, li_2, li_3, li_4, li_5, li_6, li_7, li_8, li_9, li_10, li_11, li_12, li_16, li_19, li_20, li_28, li_48, li_57, li_59, li_60, li_96, li_97, li_99, li_100, li_102, li_103, li_104, li_112, li_115, li_116, li_118, li_119, li_121, li_124, li_132, li_255, li_256, li_1000, li_2000, li_1000000000, iI_add, iI_sub, iI_mul, iI_neg, iI_lt, iI_le, iI_eq, iI_clamp, iI_s, iI_m1, iI_div, bs, tn, tn4, tn12, tn20, tn124, tn28, itT, itF, if_pos, if_neg]
  | succ d ih =>
    intro n x hx hb hd
    obtain ⟨n, rfl⟩ : ∃ p, n = p + 1 := ⟨n - 1, by omega⟩
    have i1 := ih n (x + 1) (by omega) (by omega) (by omega)
    have e1 := iI_l (z := t - 1) (by omega) (by omega)
    rw [show x + 1 - b = (x - b) + 1 by omega, Int.pow_succ] at i1
    rw [f_X8_slips_L24]
    simp (disch := omega) only [li_0, li_1, li_2, li_3, li_4, li_5, li_6, li_7, li_8, li_9, li_10, li_11, li_12, li_16, li_19, li_20, li_28, li_48, li_57, li_59, li_60, li_96, li_97, li_99, li_100, li_102, li_103, li_104, li_112, li_115, li_116, li_118, li_119, li_121, li_124, li_132, li_255, li_256, li_1000, li_2000, li_1000000000, iI_add, iI_sub, iI_mul, iI_neg, iI_lt, iI_le, iI_eq, iI_clamp, iI_s, iI_m1, iI_div, bs, tn, tn4, tn12, tn20, tn124, tn28, itT, itF, if_pos, if_neg, e1, lI_mul, i1]
def sH (a : Nat → Int) (j now : Nat) (y : Int) (c : Nat) : Int := if 0 ≤ y then (if (sY a j now (5 * (c : Int)) 0 : Int) = y then 1 else 0) else gY a j now c
theorem rSlL (hm : ∀ k, k < 132 → S.1 75 k = iI (a k)) (hj : j < 8) (hw : WT a j) (hn : now ≤ 11) (hn1 : a 1 = now) {t : Int} {N : Nat} (ht : 2 ≤ t ∧ t ≤ 20) (hN : N ≤ 8) {y : Int} (hy : y = -1 ∨ (0 ≤ y ∧ y ≤ 11)) {k : Int64 → Option Int64} :
    ∀ d n x : Nat, x + d = 2 ^ N → d < n → f_X8_slips_L6 n (iI j) (iI N) (iI t) (iI y) (lI (sSum (fun m => (t - 1) ^ (N - popN m N) * sH a j now y (N - popN m N)) x)) (iI x) S k = k (lI (mW N (fun c => (t - 1) ^ c * sH a j now y c))) := by
  have p8 : 2 ^ N ≤ 2 ^ 8 := Nat.pow_le_pow_right (by omega) hN
  have p9 : (2 : Nat) ^ 8 = 256 := rfl
  have p1 : 0 < 2 ^ N := Nat.two_pow_pos N
  intro d
  induction d with
  | zero =>
    intro n x hx hd
    obtain ⟨n, rfl⟩ : ∃ p, n = p + 1 := ⟨n - 1, by omega⟩
    obtain rfl : x = 2 ^ N := by omega
    rw [f_X8_slips_L6, show (1 : Int32) = iI 1 from rfl, iI_shl (by omega), if_pos (by rw [iI_le (by omega) (by omega) (by omega) (by omega)]; omega)]
    rfl
  | succ d ih =>
    intro n x hx hd
    obtain ⟨n, rfl⟩ : ∃ p, n = p + 1 := ⟨n - 1, by omega⟩
    have i1 := ih n (x + 1) (by omega) (by omega)
    have hxN : x < 2 ^ N := by omega
    have e1 : f_X8_bits (iI x) = some (iI (popN x N)) := by
      have h := rBits (A := (x : Int)) (by omega) (by omega)
      rw [Int.toNat_natCast, popN_sum, show 12 = N + (12 - N) by omega, popN_hi hxN] at h
      exact h
    have pl := popN_le x N
    have e2 : ∀ x5 k, f_X8_slips_L24 2000 (iI j) (iI N) (iI t) (iI y) x5 (iI x) (lI 1) (iI (popN x N)) S k = k (lI ((t - 1) ^ (N - popN x N))) := fun x5 k => by
      have h := rPw (S := S) (t := t) (N := N) (b := popN x N) ht hN (x1 := iI j) (x4 := iI y) (x7 := iI x) (x5 := x5) (k := k) (N - popN x N) 2000 (popN x N) (by omega) (Nat.le_refl _) (by omega)
      rw [Nat.sub_self, Int.pow_zero] at h
      exact h
    obtain ⟨c, hc⟩ : ∃ c, c = N - popN x N := ⟨_, rfl⟩
    have ec : 5 * ((N : Int) - (popN x N : Int)) = 5 * (c : Int) := by omega
    have e3 : f_X8_yearOf 75 (iI j) (iI (5 * (c : Int))) (iI 0) S = some (iI (sY a j now (5 * (c : Int)) 0)) := rY hm hj hw hn hn1 (by omega) (by omega)
    obtain ⟨Y, hY⟩ : ∃ Y, Y = sY a j now (5 * (c : Int)) 0 := ⟨_, rfl⟩
    have yb : Y ≤ now := by rw [hY]; exact sY_le a j now _ 0
    have e4 : S.1 75 (28 + 12 * j + Y) = iI (gY a j now c) := by rw [hm _ (by omega), hY]; rfl
    have gb := gY_b hw hn c
    have e5 := iI_l (z := gY a j now c) (by omega) (by omega)
    have z1 : (1 : Int64) = lI 1 := rfl
    have z0 : (0 : Int64) = lI 0 := rfl
    have y1 : (1 : Int32) = iI 1 := rfl
    have y0 : (0 : Int32) = iI 0 := rfl
    have y5 : (5 : Int32) = iI 5 := rfl
    have hlt : ¬ iI ((2 ^ N : Nat) : Int) ≤ iI (x : Int) := by rw [iI_le (by omega) (by omega) (by omega) (by omega)]; omega
    have j4 : (iI (x : Int) + iI 1 : Int32) = iI ((x + 1 : Nat) : Int) := by rw [iI_add]; rfl
    have j9 : (iI (28 + 12 * (j : Int) + (Y : Int))).toNatClampNeg = 28 + 12 * j + Y := by rw [iI_clamp (by omega) (by omega)]; omega
    have j10 : ¬ (iI (28 + 12 * (j : Int) + (Y : Int)) < iI 0 ∨ 132 ≤ 28 + 12 * j + Y) := by rw [iI_lt (by omega) (by omega) (by omega) (by omega)]; omega
    rw [← hY] at e3
    rw [← hc] at e2
    rw [sSum] at i1
    rw [← hc] at i1
    rw [f_X8_slips_L6, y1, iI_shl (by omega), if_neg hlt, e1, bs, z1, e2, bs, y0, y5, iI_sub, iI_mul, ec, e3, bs, j4, z0]
    by_cases c1 : 0 ≤ y
    · rw [if_pos (by rw [iI_le (by omega) (by omega) (by omega) (by omega)]; omega)]
      by_cases c2 : (Y : Int) = y
      · have eH : sH a j now y c = 1 := by
          unfold sH
          rw [if_pos c1, ← hY, if_pos c2]
        rw [eH, Int.mul_one] at i1
        rw [if_pos (by rw [c2]), lI_add]
        exact i1
      · have eH : sH a j now y c = 0 := by
          unfold sH
          rw [if_pos c1, ← hY, if_neg c2]
        rw [eH, Int.mul_zero] at i1
        rw [if_neg (by rw [iI_eq (by omega) (by omega) (by omega) (by omega)]; exact c2), lI_add]
        exact i1
    · have eH : sH a j now y c = gY a j now c := if_neg c1
      rw [eH] at i1
      rw [if_neg (by rw [iI_le (by omega) (by omega) (by omega) (by omega)]; omega), rAt, bs, j9, if_neg j10, e4, e5, lI_mul, lI_add]
      exact i1
theorem rSl (hm : ∀ k, k < 132 → S.1 75 k = iI (a k)) (hj : j < 8) (hw : WT a j) (hn : now ≤ 11) (hn1 : a 1 = now) {t : Int} {N : Nat} (ht : 2 ≤ t ∧ t ≤ 20) (hN : N ≤ 8) {y : Int} (hy : y = -1 ∨ (0 ≤ y ∧ y ≤ 11)) :
    f_X8_slips (iI j) (iI N) (iI t) (iI y) S = some (lI (sW (t - 1) N (sH a j now y))) := by
  have p8 : 2 ^ N ≤ 2 ^ 8 := Nat.pow_le_pow_right (by omega) hN
  have p9 : (2 : Nat) ^ 8 = 256 := rfl
  have i := rSlL hm hj hw hn hn1 ht hN hy (k := fun y => some y) (2 ^ N) 2000 0 (by omega) (by omega)
  rw [mW_sW (t - 1) N hN] at i
  rw [f_X8_slips]
  exact i
end RSL
theorem rPowL {t : Int} (ht : 2 ≤ t ∧ t ≤ 20) {N : Nat} (hN : N ≤ 8) {k : Int64 → Option Int64} : ∀ d n x : Nat, x + d = N → d < n → f_X8_power_L5 n (iI t) (iI N) (lI (t ^ x)) (iI x) k = k (lI (t ^ N)) := by
  intro d
  induction d with
  | zero =>
    intro n x hx hd
    obtain ⟨n, rfl⟩ : ∃ p, n = p + 1 := ⟨n - 1, by omega⟩
    obtain rfl : x = N := by omega
    rw [f_X8_power_L5]
    simp (disch := omega) only [li_0, li_1, li_2, li_3, li_4, li_5, li_6, li_7, li_8, li_9, li_10, li_11, li_12, li_16, li_19, li_20, li_28, li_48, li_57, li_59, li_60, li_96, li_97, li_99, li_100, li_102, li_103, li_104, li_112, li_115, li_116, li_118, li_119, li_121, li_124, li_132, li_255, li_256, li_1000, li_2000, li_1000000000, iI_add, iI_sub, iI_mul, iI_neg, iI_lt, iI_le, iI_eq, iI_clamp, iI_s, iI_m1, iI_div, bs, tn, tn4, tn12, tn20, tn124, tn28, itT, itF, if_pos, if_neg]
  | succ d ih =>
    intro n x hx hd
    obtain ⟨n, rfl⟩ : ∃ p, n = p + 1 := ⟨n - 1, by omega⟩
    have i1 := ih n (x + 1) (by omega) (by omega)
    have e1 := iI_l (z := t) (by omega) (by omega)
    rw [Int.pow_succ] at i1
    rw [f_X8_power_L5]
    simp (disch := omega) only [li_0, li_1, li_2, li_3, li_4, li_5, li_6, li_7, li_8, li_9, li_10, li_11, li_12, li_16, li_19, li_20, li_28, li_48, li_57, li_59, li_60, li_96, li_97, li_99, li_100, li_102, li_103, li_104, li_112, li_115, li_116, li_118, li_119, li_121, li_124, li_132, li_255, li_256, li_1000, li_2000, li_1000000000, iI_add, iI_sub, iI_mul, iI_neg, iI_lt, iI_le, iI_eq, iI_clamp, iI_s, iI_m1, iI_div, bs, tn, tn4, tn12, tn20, tn124, tn28, itT, itF, if_pos, if_neg, e1, lI_mul, i1]
theorem rPow {t : Int} (ht : 2 ≤ t ∧ t ≤ 20) {N : Nat} (hN : N ≤ 8) : f_X8_power (iI t) (iI N) = some (lI (t ^ N)) := by
  have i := rPowL ht hN (k := fun y => some y) N 2000 0 (by omega) (by omega)
  rw [Int.pow_zero] at i
  rw [f_X8_power]
  exact i
-- ===== the part of a fraction =====
theorem gcdL {k k' : Int64 → Option Int64} : ∀ e x y n n' c : Nat, y < 2 ^ e → e ≤ 62 → x < 2 ^ 62 → (1 ≤ x ∨ 1 ≤ y) → 2 * e + 2 ≤ n → 2 * e + 2 ≤ n' → c + 2 * e + 2 ≤ 999 →
    ∃ g : Nat, 1 ≤ g ∧ g < 2 ^ 62 ∧ f_X7_commonDivisor_L9 n (lI x) (lI y) (iI c) k = k (lI g) ∧ f_X8_gcd_L6 n' (lI x) (lI y) k' = k' (lI g) := by
  have p62 : (2 : Nat) ^ 62 = 4611686018427387904 := rfl
  have stop : ∀ x n n' c : Nat, x < 2 ^ 62 → 1 ≤ n → 1 ≤ n' → c ≤ 999 → f_X7_commonDivisor_L9 n (lI x) (lI ((0 : Nat) : Int)) (iI c) k = k (lI x) ∧ f_X8_gcd_L6 n' (lI x) (lI ((0 : Nat) : Int)) k' = k' (lI x) := by
    intro x n n' c hx h1 h2 h3
    obtain ⟨n, rfl⟩ : ∃ p, n = p + 1 := ⟨n - 1, by omega⟩
    obtain ⟨n', rfl⟩ : ∃ p, n' = p + 1 := ⟨n' - 1, by omega⟩
    have e0 : lg_cmp (lI ((0 : Nat) : Int)) 0 = 0 := (lg_cmp_eq _ _).mpr rfl
    rw [f_X7_commonDivisor_L9, f_X8_gcd_L6, if_neg (by rw [show (1000 : Int32) = iI 1000 from rfl, iI_le (by omega) (by omega) (by omega) (by omega)]; omega), if_pos e0, if_pos e0]
    exact ⟨rfl, rfl⟩
  have step : ∀ x y n n' c : Nat, x < 2 ^ 62 → y < 2 ^ 62 → 1 ≤ y → c ≤ 999 → f_X7_commonDivisor_L9 (n + 1) (lI x) (lI y) (iI c) k = f_X7_commonDivisor_L9 n (lI y) (lI ((x % y : Nat) : Int)) (iI ((c + 1 : Nat) : Int)) k ∧ f_X8_gcd_L6 (n' + 1) (lI x) (lI y) k' = f_X8_gcd_L6 n' (lI y) (lI ((x % y : Nat) : Int)) k' := by
    intro x y n n' c hx hy h1 h3
    have ey : ¬ lI (y : Int) = 0 := by
      rw [show (0 : Int64) = lI 0 from rfl, lI_eq (by omega) (by omega) (by omega) (by omega)]; omega
    have e0 : ¬ lg_cmp (lI (y : Int)) 0 = 0 := fun z => ey ((lg_cmp_eq _ _).mp z)
    have ed : lI (x : Int) - lI (x : Int) / lI (y : Int) * lI (y : Int) = lI ((x % y : Nat) : Int) := by
      rw [lI_div (by omega) (by omega) (by omega) (by omega), lI_mul, lI_sub]
      congr 1
      have h := Int.emod_add_mul_ediv (x : Int) (y : Int)
      rw [Int.natCast_emod]
      rw [Int.mul_comm] at h
      omega
    have j4 : (iI (c : Int) + 1 : Int32) = iI ((c + 1 : Nat) : Int) := by rw [show (1 : Int32) = iI 1 from rfl, iI_add]; rfl
    rw [f_X7_commonDivisor_L9, f_X8_gcd_L6, if_neg (by rw [show (1000 : Int32) = iI 1000 from rfl, iI_le (by omega) (by omega) (by omega) (by omega)]; omega), if_neg e0, if_neg e0, if_neg ey, if_neg ey, ed, j4]
    exact ⟨rfl, rfl⟩
  intro e
  induction e with
  | zero =>
    intro x y n n' c hy _ hx h0 h1 h2 h3
    have hy0 : y = 0 := by
      rw [Nat.pow_zero] at hy; omega
    subst hy0
    obtain ⟨s1, s2⟩ := stop x n n' c hx (by omega) (by omega) (by omega)
    exact ⟨x, by omega, hx, s1, s2⟩
  | succ e ih =>
    intro x y n n' c hy he hx h0 h1 h2 h3
    have hy62 : y < 2 ^ 62 := Nat.lt_of_lt_of_le hy (Nat.pow_le_pow_right (by omega) he)
    by_cases c0 : y = 0
    · subst c0
      obtain ⟨s1, s2⟩ := stop x n n' c hx (by omega) (by omega) (by omega)
      exact ⟨x, by omega, hx, s1, s2⟩
    · obtain ⟨n, rfl⟩ : ∃ p, n = p + 1 := ⟨n - 1, by omega⟩
      obtain ⟨n', rfl⟩ : ∃ p, n' = p + 1 := ⟨n' - 1, by omega⟩
      obtain ⟨a1, a2⟩ := step x y n n' c hx hy62 (by omega) (by omega)
      have hr : x % y < y := Nat.mod_lt _ (by omega)
      rw [a1, a2]
      by_cases c1 : x % y = 0
      · rw [c1]
        obtain ⟨s1, s2⟩ := stop y n n' (c + 1) hy62 (by omega) (by omega) (by omega)
        exact ⟨y, by omega, hy62, s1, s2⟩
      · obtain ⟨n, rfl⟩ : ∃ p, n = p + 1 := ⟨n - 1, by omega⟩
        obtain ⟨n', rfl⟩ : ∃ p, n' = p + 1 := ⟨n' - 1, by omega⟩
        obtain ⟨b1, b2⟩ := step y (x % y) n n' (c + 1) hy62 (by omega) (by omega) (by omega)
        rw [b1, b2]
        have h5 : y % (x % y) < x % y := Nat.mod_lt _ (by omega)
        have h6 : y % (x % y) ≤ y - x % y := by
          rw [Nat.mod_eq_sub_mod (by omega)]
          exact Nat.mod_le _ _
        have h7 : 2 ^ (e + 1) = 2 ^ e + 2 ^ e := by rw [Nat.pow_succ]; omega
        exact ih (x % y) (y % (x % y)) n n' (c + 1 + 1) (by omega) (by omega) (by omega) (by omega) (by omega) (by omega) (by omega)
theorem part_eq {x y : Nat} (hx : x < 2 ^ 62) (hy : y < 2 ^ 62) (h1 : 1 ≤ y) {p : Int} (hp : p = 0 ∨ p = 1) : ∃ v : Int64, f_X7_partOf (lI x) (lI y) (iI p) = some v ∧ f_X8_partOf (lI x) (lI y) (iI p) = some v := by
  have p62 : (2 : Nat) ^ 62 = 4611686018427387904 := rfl
  obtain ⟨g, g1, g2, g3, g4⟩ := gcdL (k := fun y4 => some y4) (k' := fun y3 => some y3) 62 x y 2000 2000 0 hy (Nat.le_refl _) hx (Or.inr h1) (by omega) (by omega) (by omega)
  have e1 : f_X7_commonDivisor (lI x) (lI y) = some (lI g) := g3
  have e2 : f_X8_gcd (lI x) (lI y) = some (lI g) := g4
  have eg : ¬ lI (g : Int) = 0 := by
    rw [show (0 : Int64) = lI 0 from rfl, lI_eq (by omega) (by omega) (by omega) (by omega)]; omega
  have eg1 : 0 ≤ lg_cmp (lI (g : Int)) 1 := (lg_cmp_ge _ _).mpr (by rw [show (1 : Int64) = lI 1 from rfl, lI_le (by omega) (by omega) (by omega) (by omega)]; omega)
  have q1 : ¬ iI 1 = 0 := by decide
  have q0 : iI 0 = 0 := rfl
  by_cases c : x = 0
  · subst c
    -- nothing over y: the divisor is y
    obtain ⟨g', u1, u2, u3, u4⟩ := gcdL (k := fun y4 => some y4) (k' := fun y3 => some y3) 0 y 0 1999 1999 1 (by decide) (by omega) hy (Or.inl h1) (by omega) (by omega) (by omega)
    have s1 : f_X7_commonDivisor_L9 2000 (lI ((0 : Nat) : Int)) (lI y) (iI ((0 : Nat) : Int)) (fun y4 => some y4) = some (lI y) := by
      have ey : ¬ lI (y : Int) = 0 := by
        rw [show (0 : Int64) = lI 0 from rfl, lI_eq (by omega) (by omega) (by omega) (by omega)]; omega
      have e0 : ¬ lg_cmp (lI (y : Int)) 0 = 0 := fun z => ey ((lg_cmp_eq _ _).mp z)
      have ed : lI ((0 : Nat) : Int) - lI ((0 : Nat) : Int) / lI (y : Int) * lI (y : Int) = lI 0 := by
        rw [lI_div (by omega) (by omega) (by omega) (by omega), lI_mul, lI_sub]
        congr 1
        rw [show ((0 : Nat) : Int) = 0 from rfl, Int.zero_ediv, Int.zero_mul]
        rfl
      rw [show 2000 = 1998 + 1 + 1 from rfl, f_X7_commonDivisor_L9, if_neg (by decide), if_neg e0, if_neg ey, ed, f_X7_commonDivisor_L9, if_neg (by decide), if_pos (by decide)]
    have e3 : f_X7_commonDivisor (lI ((0 : Nat) : Int)) (lI y) = some (lI y) := s1
    rw [e3] at e1
    have e4 : lI (y : Int) = lI (g : Int) := Option.some.inj e1
    have e5 : lI ((0 : Nat) : Int) / lI (g : Int) = lI 0 := by
      rw [lI_div (by omega) (by omega) (by omega) (by omega)]
      rw [show ((0 : Nat) : Int) = 0 from rfl, Int.zero_ediv]
    have e6 : lI (y : Int) / lI (g : Int) = lI 1 := by
      rw [e4, lI_div (by omega) (by omega) (by omega) (by omega), Int.ediv_self (by omega)]
    have ec : lg_cmp (lI ((0 : Nat) : Int)) 0 = 0 := (lg_cmp_eq _ _).mpr rfl
    refine ⟨lI p, ?_, ?_⟩
    · rw [f_X7_partOf, e3, e4, bs, if_pos eg1]
      rcases hp with rfl | rfl
      · rw [if_pos q0, if_neg eg, e5]
      · rw [if_neg q1, if_neg eg, ← e4, e4] 
        rw [e4] at e6
        rw [e6]
    · rw [f_X8_partOf, if_pos ec, iI_l (by omega) (by omega)]
  · have ex : ¬ lI (x : Int) = 0 := by
      rw [show (0 : Int64) = lI 0 from rfl, lI_eq (by omega) (by omega) (by omega) (by omega)]; omega
    have e0 : ¬ lg_cmp (lI (x : Int)) 0 = 0 := fun z => ex ((lg_cmp_eq _ _).mp z)
    rcases hp with rfl | rfl
    · refine ⟨lI x / lI g, ?_, ?_⟩
      · rw [f_X7_partOf, e1, bs, if_pos eg1, if_pos q0, if_neg eg]
      · rw [f_X8_partOf, if_neg e0, if_pos q0, e2, bs, if_neg eg]
    · refine ⟨lI y / lI g, ?_, ?_⟩
      · rw [f_X7_partOf, e1, bs, if_pos eg1, if_neg q1, if_neg eg]
      · rw [f_X8_partOf, if_neg e0, if_neg q1, e2, bs, if_neg eg]
end
section
-- ===== a slip of the thumb =====
theorem e_noL {S : St} (hS : Inv S) {x1 : Option (Int64 × St)} {g : St → Option (Int64 × St)} (v : Int) (c : Nat) (hc : 1 ≤ c ∧ c ≤ 6) (hv : v = -(c : Int)) (h1 : x1 = (f_X7_refuse (iI v) S).bind fun z => some (4000000000000000000 - z.1.toInt64, z.2)) (h2 : ∀ S1 : St, S1.1 75 = S.1 75 → g S1 = f_X8_noWide (iI v) S1) : ∃ z1 z2, x1 = some z1 ∧ g z1.2 = some z2 ∧ z1.1 = z2.1 ∧ Inv z2.2 := by
  rw [cRef hc hv] at h1
  have h3 := h2 (up S 73 c (S.1 73 c + iI 1)) (up_ne (by omega))
  rw [f_X8_noWide, rNo hc hv] at h3
  exact e_mk h1 h3 (hS.no hc)
theorem cSlipR {n t p : Int} (n1 : -2147483648 ≤ n) (n2 : n < 2147483648) (t1 : -2147483648 ≤ t) (t2 : t < 2147483648) (p1 : -2147483648 ≤ p) (p2 : p < 2147483648) : f_X7_slipRefusal (iI n) (iI t) (iI p) = some (iI (if n < 0 ∨ t < 2 then -4 else if 8 < n ∨ 20 < t then -6 else if 0 ≤ p ∧ p ≤ 1 then 0 else -2)) := by
  have e := cTwo p1 p2
  by_cases c1 : n < 0
  · simp (disch := omega) only [li_0, li_1, li_2, li_3, li_4, li_5, li_6, li_7, li_8, li_9, li_10, li_11, li_12, li_16, li_19, li_20, li_28, li_48, li_57, li_59, li_60, li_96, li_97, li_99, li_100, li_102, li_103, li_104, li_112, li_115, li_116, li_118, li_119, li_121, li_124, li_132, li_255, li_256, li_1000, li_2000, li_1000000000, iI_add, iI_sub, iI_mul, iI_neg, iI_lt, iI_le, iI_eq, iI_clamp, iI_s, iI_m1, iI_div, bs, tn, tn4, tn12, tn20, tn124, tn28, itT, itF, if_pos, if_neg, f_X7_slipRefusal]
  · by_cases c2 : t < 2
    · simp (disch := omega) only [li_0, li_1, li_2, li_3, li_4, li_5, li_6, li_7, li_8, li_9, li_10, li_11, li_12, li_16, li_19, li_20, li_28, li_48, li_57, li_59, li_60, li_96, li_97, li_99, li_100, li_102, li_103, li_104, li_112, li_115, li_116, li_118, li_119, li_121, li_124, li_132, li_255, li_256, li_1000, li_2000, li_1000000000, iI_add, iI_sub, iI_mul, iI_neg, iI_lt, iI_le, iI_eq, iI_clamp, iI_s, iI_m1, iI_div, bs, tn, tn4, tn12, tn20, tn124, tn28, itT, itF, if_pos, if_neg, f_X7_slipRefusal]
    · by_cases c3 : 8 < n
      · simp (disch := omega) only [li_0, li_1, li_2, li_3, li_4, li_5, li_6, li_7, li_8, li_9, li_10, li_11, li_12, li_16, li_19, li_20, li_28, li_48, li_57, li_59, li_60, li_96, li_97, li_99, li_100, li_102, li_103, li_104, li_112, li_115, li_116, li_118, li_119, li_121, li_124, li_132, li_255, li_256, li_1000, li_2000, li_1000000000, iI_add, iI_sub, iI_mul, iI_neg, iI_lt, iI_le, iI_eq, iI_clamp, iI_s, iI_m1, iI_div, bs, tn, tn4, tn12, tn20, tn124, tn28, itT, itF, if_pos, if_neg, f_X7_slipRefusal]
      · by_cases c4 : 20 < t
        · simp (disch := omega) only [li_0, li_1, li_2, li_3, li_4, li_5, li_6, li_7, li_8, li_9, li_10, li_11, li_12, li_16, li_19, li_20, li_28, li_48, li_57, li_59, li_60, li_96, li_97, li_99, li_100, li_102, li_103, li_104, li_112, li_115, li_116, li_118, li_119, li_121, li_124, li_132, li_255, li_256, li_1000, li_2000, li_1000000000, iI_add, iI_sub, iI_mul, iI_neg, iI_lt, iI_le, iI_eq, iI_clamp, iI_s, iI_m1, iI_div, bs, tn, tn4, tn12, tn20, tn124, tn28, itT, itF, if_pos, if_neg, f_X7_slipRefusal]
        · by_cases c5 : 0 ≤ p ∧ p ≤ 1
          · simp (disch := omega) only [li_0, li_1, li_2, li_3, li_4, li_5, li_6, li_7, li_8, li_9, li_10, li_11, li_12, li_16, li_19, li_20, li_28, li_48, li_57, li_59, li_60, li_96, li_97, li_99, li_100, li_102, li_103, li_104, li_112, li_115, li_116, li_118, li_119, li_121, li_124, li_132, li_255, li_256, li_1000, li_2000, li_1000000000, iI_add, iI_sub, iI_mul, iI_neg, iI_lt, iI_le, iI_eq, iI_clamp, iI_s, iI_m1, iI_div, bs, tn, tn4, tn12, tn20, tn124, tn28, itT, itF, if_pos, if_neg, f_X7_slipRefusal, e]
          · simp (disch := omega) only [li_0, li_1, li_2, li_3, li_4, li_5, li_6, li_7, li_8, li_9, li_10, li_11, li_12, li_16, li_19, li_20, li_28, li_48, li_57, li_59, li_60, li_96, li_97, li_99, li_100, li_102, li_103, li_104, li_112, li_115, li_116, li_118, li_119, li_121, li_124, li_132, li_255, li_256, li_1000, li_2000, li_1000000000, iI_add, iI_sub, iI_mul, iI_neg, iI_lt, iI_le, iI_eq, iI_clamp, iI_s, iI_m1, iI_div, bs, tn, tn4, tn12, tn20, tn124, tn28, itT, itF, if_pos, if_neg, f_X7_slipRefusal, e]
theorem slip_b {k : Int} (hk : 1 ≤ k ∧ k ≤ 19) {n : Nat} (hn : n ≤ 8) {G : Nat → Int} (hG : ∀ c, c < 9 → 0 ≤ G c ∧ G c ≤ 99) : (0 ≤ sW k n G ∧ sW k n G < 4611686018427387904) ∧ (1 ≤ (k + 1) ^ n ∧ (k + 1) ^ n < 4611686018427387904) := by
  have h1 := sW_nn (k := k) (by omega) n (fun c hc => (hG c hc).1)
  have h2 := sW_99 (k := k) (by omega) n (fun c hc => (hG c hc).2)
  have h3 := pow_b (t := k + 1) (by omega) (by omega) n hn
  rw [sW_pow k n hn] at h2
  omega
theorem sH_u (a : Nat → Int) (j now u c : Nat) : sH a j now (u : Int) c = if sY a j now (5 * (c : Int)) 0 = u then 1 else 0 := by
  unfold sH
  rw [if_pos (Int.natCast_nonneg u)]
  by_cases cc : sY a j now (5 * (c : Int)) 0 = u
  · rw [if_pos cc, if_pos (by rw [cc])]
  · rw [if_neg cc, if_neg (fun z => cc (Int.ofNat_inj.mp z))]
theorem slip_main {S S8 : St} {a : Nat → Int} {now N : Nat} (hc : RC S 1 a) (hm : ∀ k, k < 132 → S.1 75 k = iI (a k)) (hw : WFa a) (hN : a 0 = N) (hn : now ≤ 11) (hn1 : a 1 = now) {j n : Nat} (hj : j < N) (hn8 : n ≤ 8) {t : Int} (ht : 2 ≤ t ∧ t ≤ 20) {p : Int} (hp : p = 0 ∨ p = 1) (h1 : S8.1 = S.1) (h2 : ∀ c, c < 9 → S8.2 c = lI (wW (t - 1) n c)) {y : Int} (hy : y = -1 ∨ (0 ≤ y ∧ y ≤ 11)) :
    ∃ v : Int64, f_X7_partOf (lI (sW (t - 1) n (sH a j now y))) (lI (sW (t - 1) n (fun _ => 1))) (iI p) = some v ∧ f_X8_slips (iI j) (iI n) (iI t) (iI y) S8 = some (lI (sW (t - 1) n (sH a j now y))) ∧ f_X8_power (iI t) (iI n) = some (lI (sW (t - 1) n (fun _ => 1))) ∧ f_X8_partOf (lI (sW (t - 1) n (sH a j now y))) (lI (sW (t - 1) n (fun _ => 1))) (iI p) = some v := by
  have h8 := hw.1
  have p62 : (2 : Nat) ^ 62 = 4611686018427387904 := rfl
  have hwt := hw.t (j := j) (by omega)
  have hm8 : ∀ k, k < 132 → S8.1 75 k = iI (a k) := fun k hk => by rw [h1]; exact hm k hk
  have b := slip_b (k := t - 1) (by omega) hn8 (G := sH a j now y) (fun c _ => by
    have := gY_b hwt hn c
    unfold sH
    by_cases c1 : 0 ≤ y
    · rw [if_pos c1]
      split <;> omega
    · rw [if_neg c1]; exact this)
  have ep : sW (t - 1) n (fun _ => 1) = t ^ n := by rw [sW_pow (t - 1) n hn8, Int.sub_add_cancel]
  rw [Int.sub_add_cancel, ← ep] at b
  obtain ⟨X, hX⟩ : ∃ X : Nat, (X : Int) = sW (t - 1) n (sH a j now y) := ⟨(sW (t - 1) n (sH a j now y)).toNat, by omega⟩
  obtain ⟨Y, hY⟩ : ∃ Y : Nat, (Y : Int) = sW (t - 1) n (fun _ => 1) := ⟨(sW (t - 1) n (fun _ => 1)).toNat, by omega⟩
  obtain ⟨v, v1, v2⟩ := part_eq (x := X) (y := Y) (by omega) (by omega) (by omega) hp
  rw [hX, hY] at v1 v2
  refine ⟨v, v1, rSl hm8 (by omega) hwt hn hn1 ht hn8 hy, ?_, v2⟩
  rw [rPow ht hn8, ep]
theorem e_slip {S : St} (hS : Inv S) (a1 : Int32) (a2 : Int32) (a3 : Int32) (a4 : Int32) (a5 : Int32) : ∃ (z1 : Int64 × St) (z2 : Int64 × St), f_X7_slip a1 a2 a3 a4 a5 S = some z1 ∧ f_X8_slip a1 a2 a3 a4 a5 z1.2 = some z2 ∧ z1.1 = z2.1 ∧ Inv z2.2 := by
  obtain ⟨⟨a, hw, hc, hm0⟩, -⟩ := id hS
  have hm : ∀ k, k < 132 → S.1 75 k = iI (a k) := hm0
  have h8 := hw.1
  have w1 := hw.2.1
  have w2 := hw.2.2.1
  have w3 := hw.2.2.2.1
  obtain ⟨now, hnow⟩ : ∃ n : Nat, a 1 = n := ⟨(a 1).toNat, by omega⟩
  obtain ⟨N, hN⟩ : ∃ n : Nat, a 0 = n := ⟨(a 0).toNat, by omega⟩
  have hn : now ≤ 11 := by omega
  have hN8 : N ≤ 8 := by omega
  have p1 : S.1 1 1 = iI now := by rw [hc.1 1 (by omega), hnow]
  have p0 : S.1 1 0 = iI N := by rw [hc.1 0 (by omega), hN]
  have m0 : S.1 75 0 = iI N := by rw [hm 0 (by omega), hN]
  have m1 : S.1 75 1 = iI now := by rw [hm 1 (by omega), hnow]
  obtain ⟨x, x1, x2, rfl⟩ := iI_any a1
  obtain ⟨m, m1, m2, rfl⟩ := iI_any a2
  obtain ⟨t, t1, t2, rfl⟩ := iI_any a3
  obtain ⟨y, y1, y2, rfl⟩ := iI_any a4
  obtain ⟨p, p1, p2, rfl⟩ := iI_any a5
  rename_i pold1 pold0
  have e1 := cLacks hc hw x1 x2
  have e3 := cNo y1 y2
  have g3 := rYear y1 y2
  have e4 := cSlipR m1 m2 t1 t2 p1 p2
  have g5 := rIn (x := p) (l := 0) (u := 1) p1 p2 (by omega) (by omega) (by omega) (by omega)
  have M0 : S.1 75 0 = iI N := by rw [hm 0 (by omega), hN]
  have P1 : S.1 1 1 = iI now := by rw [hc.1 1 (by omega), hnow]
  have G : ∀ S1 : St, S1.1 75 = S.1 75 → f_X8_isThing (iI x) S1 = some (iI (if 0 ≤ x ∧ x < N then 1 else 0)) := fun S1 q1 => rThing (S := S1) (by rw [q1]; exact M0) hN8 x1 x2
  by_cases c : 0 ≤ x ∧ x < a 0
  · by_cases c1 : 0 ≤ y ∧ y < 12
    · by_cases c2 : m < 0 ∨ t < 2
      · refine e_noL hS (-4) 4 (by omega) (by omega) (by simp (disch := omega) only [li_0, li_1, li_2, li_3, li_4, li_5, li_6, li_7, li_8, li_9, li_10, li_11, li_12, li_16, li_19, li_20, li_28, li_48, li_57, li_59, li_60, li_96, li_97, li_99, li_100, li_102, li_103, li_104, li_112, li_115, li_116, li_118, li_119, li_121, li_124, li_132, li_255, li_256, li_1000, li_2000, li_1000000000, iI_add, iI_sub, iI_mul, iI_neg, iI_lt, iI_le, iI_eq, iI_clamp, iI_s, iI_m1, iI_div, bs, tn, tn4, tn12, tn20, tn124, tn28, itT, itF, if_pos, if_neg, f_X7_slip, e1, e3, e4]) (fun S1 q1 => ?_)
        have g1 := G S1 q1
        by_cases c3 : m < 0
        · simp (disch := omega) only [li_0, li_1, li_2, li_3, li_4, li_5, li_6, li_7, li_8, li_9, li_10, li_11, li_12, li_16, li_19, li_20, li_28, li_48, li_57, li_59, li_60, li_96, li_97, li_99, li_100, li_102, li_103, li_104, li_112, li_115, li_116, li_118, li_119, li_121, li_124, li_132, li_255, li_256, li_1000, li_2000, li_1000000000, iI_add, iI_sub, iI_mul, iI_neg, iI_lt, iI_le, iI_eq, iI_clamp, iI_s, iI_m1, iI_div, bs, tn, tn4, tn12, tn20, tn124, tn28, itT, itF, if_pos, if_neg, f_X8_slip, g1, g3, bse]
        · simp (disch := omega) only [li_0, li_1, li_2, li_3, li_4, li_5, li_6, li_7, li_8, li_9, li_10, li_11, li_12, li_16, li_19, li_20, li_28, li_48, li_57, li_59, li_60, li_96, li_97, li_99, li_100, li_102, li_103, li_104, li_112, li_115, li_116, li_118, li_119, li_121, li_124, li_132, li_255, li_256, li_1000, li_2000, li_1000000000, iI_add, iI_sub, iI_mul, iI_neg, iI_lt, iI_le, iI_eq, iI_clamp, iI_s, iI_m1, iI_div, bs, tn, tn4, tn12, tn20, tn124, tn28, itT, itF, if_pos, if_neg, f_X8_slip, g1, g3, bse]
      · by_cases c3 : 8 < m ∨ 20 < t
        · refine e_noL hS (-6) 6 (by omega) (by omega) (by simp (disch := omega) only [li_0, li_1, li_2, li_3, li_4, li_5, li_6, li_7, li_8, li_9, li_10, li_11, li_12, li_16, li_19, li_20, li_28, li_48, li_57, li_59, li_60, li_96, li_97, li_99, li_100, li_102, li_103, li_104, li_112, li_115, li_116, li_118, li_119, li_121, li_124, li_132, li_255, li_256, li_1000, li_2000, li_1000000000, iI_add, iI_sub, iI_mul, iI_neg, iI_lt, iI_le, iI_eq, iI_clamp, iI_s, iI_m1, iI_div, bs, tn, tn4, tn12, tn20, tn124, tn28, itT, itF, if_pos, if_neg, f_X7_slip, e1, e3, e4]) (fun S1 q1 => ?_)
          have g1 := G S1 q1
          by_cases c4 : 8 < m
          · simp (disch := omega) only [li_0, li_1, li_2, li_3, li_4, li_5, li_6, li_7, li_8, li_9, li_10, li_11, li_12, li_16, li_19, li_20, li_28, li_48, li_57, li_59, li_60, li_96, li_97, li_99, li_100, li_102, li_103, li_104, li_112, li_115, li_116, li_118, li_119, li_121, li_124, li_132, li_255, li_256, li_1000, li_2000, li_1000000000, iI_add, iI_sub, iI_mul, iI_neg, iI_lt, iI_le, iI_eq, iI_clamp, iI_s, iI_m1, iI_div, bs, tn, tn4, tn12, tn20, tn124, tn28, itT, itF, if_pos, if_neg, f_X8_slip, g1, g3, bse]
          · simp (disch := omega) only [li_0, li_1, li_2, li_3, li_4, li_5, li_6, li_7, li_8, li_9, li_10, li_11, li_12, li_16, li_19, li_20, li_28, li_48, li_57, li_59, li_60, li_96, li_97, li_99, li_100, li_102, li_103, li_104, li_112, li_115, li_116, li_118, li_119, li_121, li_124, li_132, li_255, li_256, li_1000, li_2000, li_1000000000, iI_add, iI_sub, iI_mul, iI_neg, iI_lt, iI_le, iI_eq, iI_clamp, iI_s, iI_m1, iI_div, bs, tn, tn4, tn12, tn20, tn124, tn28, itT, itF, if_pos, if_neg, f_X8_slip, g1, g3, bse]
        · by_cases c4 : 0 ≤ p ∧ p ≤ 1
          · obtain ⟨j, rfl⟩ : ∃ n : Nat, x = n := ⟨x.toNat, by omega⟩
            obtain ⟨n, rfl⟩ : ∃ n : Nat, m = n := ⟨m.toNat, by omega⟩
            obtain ⟨u, rfl⟩ : ∃ n : Nat, y = n := ⟨y.toNat, by omega⟩
            obtain ⟨S8, w1', w2', w3'⟩ := cWays S (N := n) (by omega) (t := t) (by omega)
            have hc8 : RC S8 1 a := hc.frt (fun i k _ _ => by rw [w2'])
            have P8 : S8.1 1 1 = iI now := by rw [w2']; exact P1
            have e2 := cAt (S := S8) (q := 1) (j := j) (by omega)
            have e5 := cWIs (hc8.t (j := j) (by omega) (by omega)) (hw.t (by omega)) hn w3' (y := u) (by omega)
            have e6 := cAWs w3'
            have eH : (fun c : Nat => wW (t - 1) n c * (if sY a j now (5 * (c : Int)) 0 = u then 1 else 0)) = fun c : Nat => wW (t - 1) n c * sH a j now (u : Int) c := by
              funext c
              rw [sH_u]
            rw [eH] at e5
            obtain ⟨v, v1, v2, v3, v4⟩ := slip_main (S8 := S8) hc hm hw hN hn hnow (j := j) (n := n) (by omega) (by omega) (t := t) (by omega) (p := p) (by omega) w2' w3' (y := (u : Int)) (by omega)
            have g1 : f_X8_isThing (iI j) S8 = some (iI 1) := by rw [G S8 (by rw [w2']), if_pos (by omega)]
            have g3' : f_X8_isYear (iI u) = some (iI 1) := by rw [g3, if_pos (by omega)]
            have g5' : f_X8_isIn (iI p) (iI 0) (iI 1) = some (iI 1) := by rw [g5, if_pos (by omega)]
            refine e_mk (v := v) (S1 := S8) (S2 := S8) (by simp (disch := omega) only [li_0, li_1, li_2, li_3, li_4, li_5, li_6, li_7, li_8, li_9, li_10, li_11, li_12, li_16, li_19, li_20, li_28, li_48, li_57, li_59, li_60, li_96, li_97, li_99, li_100, li_102, li_103, li_104, li_112, li_115, li_116, li_118, li_119, li_121, li_124, li_132, li_255, li_256, li_1000, li_2000, li_1000000000, iI_add, iI_sub, iI_mul, iI_neg, iI_lt, iI_le, iI_eq, iI_clamp, iI_s, iI_m1, iI_div, bs, tn, tn4, tn12, tn20, tn124, tn28, itT, itF, if_pos, if_neg, f_X7_slip, e1, e3, e4, w1', e2, P8, e5, e6]; exact congrArg (fun o => o.bind fun v12 => some (v12, S8)) v1) ?_ (hS.sm (fun i k _ => by rw [w2']))
            simp (disch := omega) only [li_0, li_1, li_2, li_3, li_4, li_5, li_6, li_7, li_8, li_9, li_10, li_11, li_12, li_16, li_19, li_20, li_28, li_48, li_57, li_59, li_60, li_96, li_97, li_99, li_100, li_102, li_103, li_104, li_112, li_115, li_116, li_118, li_119, li_121, li_124, li_132, li_255, li_256, li_1000, li_2000, li_1000000000, iI_add, iI_sub, iI_mul, iI_neg, iI_lt, iI_le, iI_eq, iI_clamp, iI_s, iI_m1, iI_div, bs, tn, tn4, tn12, tn20, tn124, tn28, itT, itF, if_pos, if_neg, f_X8_slip, g1, g3', g5', v2, v3, v4]
          · exact e_noL hS (-2) 2 (by omega) (by omega) (by simp (disch := omega) only [li_0, li_1, li_2, li_3, li_4, li_5, li_6, li_7, li_8, li_9, li_10, li_11, li_12, li_16, li_19, li_20, li_28, li_48, li_57, li_59, li_60, li_96, li_97, li_99, li_100, li_102, li_103, li_104, li_112, li_115, li_116, li_118, li_119, li_121, li_124, li_132, li_255, li_256, li_1000, li_2000, li_1000000000, iI_add, iI_sub, iI_mul, iI_neg, iI_lt, iI_le, iI_eq, iI_clamp, iI_s, iI_m1, iI_div, bs, tn, tn4, tn12, tn20, tn124, tn28, itT, itF, if_pos, if_neg, f_X7_slip, e1, e3, e4]) (fun S1 q1 => by
              have g1 := G S1 q1
              simp (disch := omega) only [li_0, li_1, li_2, li_3, li_4, li_5, li_6, li_7, li_8, li_9, li_10, li_11, li_12, li_16, li_19, li_20, li_28, li_48, li_57, li_59, li_60, li_96, li_97, li_99, li_100, li_102, li_103, li_104, li_112, li_115, li_116, li_118, li_119, li_121, li_124, li_132, li_255, li_256, li_1000, li_2000, li_1000000000, iI_add, iI_sub, iI_mul, iI_neg, iI_lt, iI_le, iI_eq, iI_clamp, iI_s, iI_m1, iI_div, bs, tn, tn4, tn12, tn20, tn124, tn28, itT, itF, if_pos, if_neg, f_X8_slip, g1, g3, g5, bse])
    · exact e_noL hS (-1) 1 (by omega) (by omega) (by simp (disch := omega) only [li_0, li_1, li_2, li_3, li_4, li_5, li_6, li_7, li_8, li_9, li_10, li_11, li_12, li_16, li_19, li_20, li_28, li_48, li_57, li_59, li_60, li_96, li_97, li_99, li_100, li_102, li_103, li_104, li_112, li_115, li_116, li_118, li_119, li_121, li_124, li_132, li_255, li_256, li_1000, li_2000, li_1000000000, iI_add, iI_sub, iI_mul, iI_neg, iI_lt, iI_le, iI_eq, iI_clamp, iI_s, iI_m1, iI_div, bs, tn, tn4, tn12, tn20, tn124, tn28, itT, itF, if_pos, if_neg, f_X7_slip, e1, e3]) (fun S1 q1 => by
        have g1 := G S1 q1
        simp (disch := omega) only [li_0, li_1, li_2, li_3, li_4, li_5, li_6, li_7, li_8, li_9, li_10, li_11, li_12, li_16, li_19, li_20, li_28, li_48, li_57, li_59, li_60, li_96, li_97, li_99, li_100, li_102, li_103, li_104, li_112, li_115, li_116, li_118, li_119, li_121, li_124, li_132, li_255, li_256, li_1000, li_2000, li_1000000000, iI_add, iI_sub, iI_mul, iI_neg, iI_lt, iI_le, iI_eq, iI_clamp, iI_s, iI_m1, iI_div, bs, tn, tn4, tn12, tn20, tn124, tn28, itT, itF, if_pos, if_neg, f_X8_slip, g1, g3, bse])
  · exact e_noL hS (-1) 1 (by omega) (by omega) (by simp (disch := omega) only [li_0, li_1, li_2, li_3, li_4, li_5, li_6, li_7, li_8, li_9, li_10, li_11, li_12, li_16, li_19, li_20, li_28, li_48, li_57, li_59, li_60, li_96, li_97, li_99, li_100, li_102, li_103, li_104, li_112, li_115, li_116, li_118, li_119, li_121, li_124, li_132, li_255, li_256, li_1000, li_2000, li_1000000000, iI_add, iI_sub, iI_mul, iI_neg, iI_lt, iI_le, iI_eq, iI_clamp, iI_s, iI_m1, iI_div, bs, tn, tn4, tn12, tn20, tn124, tn28, itT, itF, if_pos, if_neg, f_X7_slip, e1]) (fun S1 q1 => by
      have g1 := G S1 q1
      simp (disch := omega) only [li_0, li_1, li_2, li_3, li_4, li_5, li_6, li_7, li_8, li_9, li_10, li_11, li_12, li_16, li_19, li_20, li_28, li_48, li_57, li_59, li_60, li_96, li_97, li_99, li_100, li_102, li_103, li_104, li_112, li_115, li_116, li_118, li_119, li_121, li_124, li_132, li_255, li_256, li_1000, li_2000, li_1000000000, iI_add, iI_sub, iI_mul, iI_neg, iI_lt, iI_le, iI_eq, iI_clamp, iI_s, iI_m1, iI_div, bs, tn, tn4, tn12, tn20, tn124, tn28, itT, itF, if_pos, if_neg, f_X8_slip, g1, bse])
theorem e_mean {S : St} (hS : Inv S) (a1 : Int32) (a2 : Int32) (a3 : Int32) (a4 : Int32) : ∃ (z1 : Int64 × St) (z2 : Int64 × St), f_X7_mean a1 a2 a3 a4 S = some z1 ∧ f_X8_mean a1 a2 a3 a4 z1.2 = some z2 ∧ z1.1 = z2.1 ∧ Inv z2.2 := by
  obtain ⟨⟨a, hw, hc, hm0⟩, -⟩ := id hS
  have hm : ∀ k, k < 132 → S.1 75 k = iI (a k) := hm0
  have h8 := hw.1
  have w1 := hw.2.1
  have w2 := hw.2.2.1
  have w3 := hw.2.2.2.1
  obtain ⟨now, hnow⟩ : ∃ n : Nat, a 1 = n := ⟨(a 1).toNat, by omega⟩
  obtain ⟨N, hN⟩ : ∃ n : Nat, a 0 = n := ⟨(a 0).toNat, by omega⟩
  have hn : now ≤ 11 := by omega
  have hN8 : N ≤ 8 := by omega
  have p1 : S.1 1 1 = iI now := by rw [hc.1 1 (by omega), hnow]
  have p0 : S.1 1 0 = iI N := by rw [hc.1 0 (by omega), hN]
  have m0 : S.1 75 0 = iI N := by rw [hm 0 (by omega), hN]
  have m1 : S.1 75 1 = iI now := by rw [hm 1 (by omega), hnow]
  obtain ⟨x, x1, x2, rfl⟩ := iI_any a1
  obtain ⟨m, m1, m2, rfl⟩ := iI_any a2
  obtain ⟨t, t1, t2, rfl⟩ := iI_any a3
  obtain ⟨p, p1, p2, rfl⟩ := iI_any a4
  have e1 := cLacks hc hw x1 x2
  have e4 := cSlipR m1 m2 t1 t2 p1 p2
  have g5 := rIn (x := p) (l := 0) (u := 1) p1 p2 (by omega) (by omega) (by omega) (by omega)
  have M0 : S.1 75 0 = iI N := by rw [hm 0 (by omega), hN]
  have P1 : S.1 1 1 = iI now := by rw [hc.1 1 (by omega), hnow]
  have G : ∀ S1 : St, S1.1 75 = S.1 75 → f_X8_isThing (iI x) S1 = some (iI (if 0 ≤ x ∧ x < N then 1 else 0)) := fun S1 q1 => rThing (S := S1) (by rw [q1]; exact M0) hN8 x1 x2
  by_cases c : 0 ≤ x ∧ x < a 0
  · by_cases c2 : m < 0 ∨ t < 2
    · refine e_noL hS (-4) 4 (by omega) (by omega) (by simp (disch := omega) only [li_0, li_1, li_2, li_3, li_4, li_5, li_6, li_7, li_8, li_9, li_10, li_11, li_12, li_16, li_19, li_20, li_28, li_48, li_57, li_59, li_60, li_96, li_97, li_99, li_100, li_102, li_103, li_104, li_112, li_115, li_116, li_118, li_119, li_121, li_124, li_132, li_255, li_256, li_1000, li_2000, li_1000000000, iI_add, iI_sub, iI_mul, iI_neg, iI_lt, iI_le, iI_eq, iI_clamp, iI_s, iI_m1, iI_div, bs, tn, tn4, tn12, tn20, tn124, tn28, itT, itF, if_pos, if_neg, f_X7_mean, e1, e4]) (fun S1 q1 => ?_)
      have g1 := G S1 q1
      by_cases c3 : m < 0
      · simp (disch := omega) only [li_0, li_1, li_2, li_3, li_4, li_5, li_6, li_7, li_8, li_9, li_10, li_11, li_12, li_16, li_19, li_20, li_28, li_48, li_57, li_59, li_60, li_96, li_97, li_99, li_100, li_102, li_103, li_104, li_112, li_115, li_116, li_118, li_119, li_121, li_124, li_132, li_255, li_256, li_1000, li_2000, li_1000000000, iI_add, iI_sub, iI_mul, iI_neg, iI_lt, iI_le, iI_eq, iI_clamp, iI_s, iI_m1, iI_div, bs, tn, tn4, tn12, tn20, tn124, tn28, itT, itF, if_pos, if_neg, f_X8_mean, g1, bse]
      · simp (disch := omega) only [li_0, li_1, li_2, li_3, li_4, li_5, li_6, li_7, li_8, li_9, li_10, li_11, li_12, li_16, li_19, li_20, li_28, li_48, li_57, li_59, li_60, li_96, li_97, li_99, li_100, li_102, li_103, li_104, li_112, li_115, li_116, li_118, li_119, li_121, li_124, li_132, li_255, li_256, li_1000, li_2000, li_1000000000, iI_add, iI_sub, iI_mul, iI_neg, iI_lt, iI_le, iI_eq, iI_clamp, iI_s, iI_m1, iI_div, bs, tn, tn4, tn12, tn20, tn124, tn28, itT, itF, if_pos, if_neg, f_X8_mean, g1, bse]
    · by_cases c3 : 8 < m ∨ 20 < t
      · refine e_noL hS (-6) 6 (by omega) (by omega) (by simp (disch := omega) only [li_0, li_1, li_2, li_3, li_4, li_5, li_6, li_7, li_8, li_9, li_10, li_11, li_12, li_16, li_19, li_20, li_28, li_48, li_57, li_59, li_60, li_96, li_97, li_99, li_100, li_102, li_103, li_104, li_112, li_115, li_116, li_118, li_119, li_121, li_124, li_132, li_255, li_256, li_1000, li_2000, li_1000000000, iI_add, iI_sub, iI_mul, iI_neg, iI_lt, iI_le, iI_eq, iI_clamp, iI_s, iI_m1, iI_div, bs, tn, tn4, tn12, tn20, tn124, tn28, itT, itF, if_pos, if_neg, f_X7_mean, e1, e4]) (fun S1 q1 => ?_)
        have g1 := G S1 q1
        by_cases c4 : 8 < m
        · simp (disch := omega) only [li_0, li_1, li_2, li_3, li_4, li_5, li_6, li_7, li_8, li_9, li_10, li_11, li_12, li_16, li_19, li_20, li_28, li_48, li_57, li_59, li_60, li_96, li_97, li_99, li_100, li_102, li_103, li_104, li_112, li_115, li_116, li_118, li_119, li_121, li_124, li_132, li_255, li_256, li_1000, li_2000, li_1000000000, iI_add, iI_sub, iI_mul, iI_neg, iI_lt, iI_le, iI_eq, iI_clamp, iI_s, iI_m1, iI_div, bs, tn, tn4, tn12, tn20, tn124, tn28, itT, itF, if_pos, if_neg, f_X8_mean, g1, bse]
        · simp (disch := omega) only [li_0, li_1, li_2, li_3, li_4, li_5, li_6, li_7, li_8, li_9, li_10, li_11, li_12, li_16, li_19, li_20, li_28, li_48, li_57, li_59, li_60, li_96, li_97, li_99, li_100, li_102, li_103, li_104, li_112, li_115, li_116, li_118, li_119, li_121, li_124, li_132, li_255, li_256, li_1000, li_2000, li_1000000000, iI_add, iI_sub, iI_mul, iI_neg, iI_lt, iI_le, iI_eq, iI_clamp, iI_s, iI_m1, iI_div, bs, tn, tn4, tn12, tn20, tn124, tn28, itT, itF, if_pos, if_neg, f_X8_mean, g1, bse]
      · by_cases c4 : 0 ≤ p ∧ p ≤ 1
        · obtain ⟨j, rfl⟩ : ∃ n : Nat, x = n := ⟨x.toNat, by omega⟩
          obtain ⟨n, rfl⟩ : ∃ n : Nat, m = n := ⟨m.toNat, by omega⟩
          obtain ⟨S8, w1', w2', w3'⟩ := cWays S (N := n) (by omega) (t := t) (by omega)
          have hc8 : RC S8 1 a := hc.frt (fun i k _ _ => by rw [w2'])
          have P8 : S8.1 1 1 = iI now := by rw [w2']; exact P1
          have e2 := cAt (S := S8) (q := 1) (j := j) (by omega)
          have e5 := cGAs (hc8.t (j := j) (by omega) (by omega)) (hw.t (by omega)) hn w3'
          have e6 := cAWs w3'
          obtain ⟨v, v1, v2, v3, v4⟩ := slip_main (S8 := S8) hc hm hw hN hn hnow (j := j) (n := n) (by omega) (by omega) (t := t) (by omega) (p := p) (by omega) w2' w3' (y := -1) (by omega)
          have g1 : f_X8_isThing (iI j) S8 = some (iI 1) := by rw [G S8 (by rw [w2']), if_pos (by omega)]
          have g5' : f_X8_isIn (iI p) (iI 0) (iI 1) = some (iI 1) := by rw [g5, if_pos (by omega)]
          refine e_mk (v := v) (S1 := S8) (S2 := S8) (by simp (disch := omega) only [li_0, li_1, li_2, li_3, li_4, li_5, li_6, li_7, li_8, li_9, li_10, li_11, li_12, li_16, li_19, li_20, li_28, li_48, li_57, li_59, li_60, li_96, li_97, li_99, li_100, li_102, li_103, li_104, li_112, li_115, li_116, li_118, li_119, li_121, li_124, li_132, li_255, li_256, li_1000, li_2000, li_1000000000, iI_add, iI_sub, iI_mul, iI_neg, iI_lt, iI_le, iI_eq, iI_clamp, iI_s, iI_m1, iI_div, bs, tn, tn4, tn12, tn20, tn124, tn28, itT, itF, if_pos, if_neg, f_X7_mean, e1, e4, w1', e2, P8, e5, e6]; exact congrArg (fun o => o.bind fun v12 => some (v12, S8)) v1) ?_ (hS.sm (fun i k _ => by rw [w2']))
          simp (disch := omega) only [li_0, li_1, li_2, li_3, li_4, li_5, li_6, li_7, li_8, li_9, li_10, li_11, li_12, li_16, li_19, li_20, li_28, li_48, li_57, li_59, li_60, li_96, li_97, li_99, li_100, li_102, li_103, li_104, li_112, li_115, li_116, li_118, li_119, li_121, li_124, li_132, li_255, li_256, li_1000, li_2000, li_1000000000, iI_add, iI_sub, iI_mul, iI_neg, iI_lt, iI_le, iI_eq, iI_clamp, iI_s, iI_m1, iI_div, bs, tn, tn4, tn12, tn20, tn124, tn28, itT, itF, if_pos, if_neg, f_X8_mean, g1, g5', v2, v3, v4]
        · exact e_noL hS (-2) 2 (by omega) (by omega) (by simp (disch := omega) only [li_0, li_1, li_2, li_3, li_4, li_5, li_6, li_7, li_8, li_9, li_10, li_11, li_12, li_16, li_19, li_20, li_28, li_48, li_57, li_59, li_60, li_96, li_97, li_99, li_100, li_102, li_103, li_104, li_112, li_115, li_116, li_118, li_119, li_121, li_124, li_132, li_255, li_256, li_1000, li_2000, li_1000000000, iI_add, iI_sub, iI_mul, iI_neg, iI_lt, iI_le, iI_eq, iI_clamp, iI_s, iI_m1, iI_div, bs, tn, tn4, tn12, tn20, tn124, tn28, itT, itF, if_pos, if_neg, f_X7_mean, e1, e4]) (fun S1 q1 => by
            have g1 := G S1 q1
            simp (disch := omega) only [li_0, li_1, li_2, li_3, li_4, li_5, li_6, li_7, li_8, li_9, li_10, li_11, li_12, li_16, li_19, li_20, li_28, li_48, li_57, li_59, li_60, li_96, li_97, li_99, li_100, li_102, li_103, li_104, li_112, li_115, li_116, li_118, li_119, li_121, li_124, li_132, li_255, li_256, li_1000, li_2000, li_1000000000, iI_add, iI_sub, iI_mul, iI_neg, iI_lt, iI_le, iI_eq, iI_clamp, iI_s, iI_m1, iI_div, bs, tn, tn4, tn12, tn20, tn124, tn28, itT, itF, if_pos, if_neg, f_X8_mean, g1, g5, bse])
  · exact e_noL hS (-1) 1 (by omega) (by omega) (by simp (disch := omega) only [li_0, li_1, li_2, li_3, li_4, li_5, li_6, li_7, li_8, li_9, li_10, li_11, li_12, li_16, li_19, li_20, li_28, li_48, li_57, li_59, li_60, li_96, li_97, li_99, li_100, li_102, li_103, li_104, li_112, li_115, li_116, li_118, li_119, li_121, li_124, li_132, li_255, li_256, li_1000, li_2000, li_1000000000, iI_add, iI_sub, iI_mul, iI_neg, iI_lt, iI_le, iI_eq, iI_clamp, iI_s, iI_m1, iI_div, bs, tn, tn4, tn12, tn20, tn124, tn28, itT, itF, if_pos, if_neg, f_X7_mean, e1]) (fun S1 q1 => by
      have g1 := G S1 q1
      simp (disch := omega) only [li_0, li_1, li_2, li_3, li_4, li_5, li_6, li_7, li_8, li_9, li_10, li_11, li_12, li_16, li_19, li_20, li_28, li_48, li_57, li_59, li_60, li_96, li_97, li_99, li_100, li_102, li_103, li_104, li_112, li_115, li_116, li_118, li_119, li_121, li_124, li_132, li_255, li_256, li_1000, li_2000, li_1000000000, iI_add, iI_sub, iI_mul, iI_neg, iI_lt, iI_le, iI_eq, iI_clamp, iI_s, iI_m1, iI_div, bs, tn, tn4, tn12, tn20, tn124, tn28, itT, itF, if_pos, if_neg, f_X8_mean, g1, bse])
end
section
-- ===== the text =====
/-- the letter at p; -1 behind the end -/
def ltr (L : Nat → Int) (n p : Nat) : Int := if p < n then L p else -1
def IT (S : St) (L : Nat → Int) (n : Nat) : Prop := n ≤ 96 ∧ (∀ p, p < n → 0 ≤ L p ∧ L p ≤ 255) ∧ S.1 60 1 = iI n ∧ ∀ p, p < n → S.1 61 p = iI (L p)
def IR (S : St) (L : Nat → Int) (n : Nat) : Prop := n ≤ 96 ∧ (∀ p, p < n → 0 ≤ L p ∧ L p ≤ 255) ∧ S.1 74 8 = iI n ∧ ∀ p, p < n → S.1 79 p = iI (L p)
def dig (L : Nat → Int) (n p : Nat) : Prop := 48 ≤ ltr L n p ∧ ltr L n p ≤ 57
def scan (l : Nat → Int) : Nat → Nat → Int
  | 0, x => if l x = 59 then -9 else (x : Int)
  | d + 1, x => if 48 ≤ l x ∧ l x ≤ 57 then scan l d (x + 1) else (x : Int)
def parts (c : Int) : Nat := if c = 100 then 2 else if c = 103 then 5 else if c = 104 then 2 else if c = 115 then 4 else if c = 116 then 2 else if c = 118 then 7 else if c = 121 then 2 else 0
def kdOf (c : Int) : Int := if c = 116 then 0 else if c = 99 then 1 else if c = 100 then 2 else if c = 112 then 3 else if c = 102 then 4 else if c = 119 then 5 else -1
def mis (l : Nat → Int) (p : Nat) : Int := if parts (l p) = 0 then (p : Int) else if l p = 116 then (if 0 ≤ kdOf (l (p + 1)) then scan l 1 (p + 2) else ((p + 1 : Nat) : Int)) else scan l (parts (l p)) (p + 1)
theorem ltr_b {L : Nat → Int} {n : Nat} (h : ∀ p, p < n → 0 ≤ L p ∧ L p ≤ 255) (p : Nat) : -1 ≤ ltr L n p ∧ ltr L n p ≤ 255 := by
  unfold ltr
  by_cases c : p < n
  · rw [if_pos c]; have := h p c; omega
  · rw [if_neg c]; omega
theorem scan_b (l : Nat → Int) : ∀ d x, scan l d x = -9 ∨ ((x : Int) ≤ scan l d x ∧ scan l d x ≤ (x : Int) + d) := by
  intro d
  induction d with
  | zero =>
    intro x
    rw [scan]
    by_cases c : l x = 59
    · rw [if_pos c]; exact Or.inl rfl
    · rw [if_neg c]; right; omega
  | succ d ih =>
    intro x
    rw [scan]
    by_cases c : 48 ≤ l x ∧ l x ≤ 57
    · rw [if_pos c]
      rcases ih (x + 1) with h | h
      · exact Or.inl h
      · right; omega
    · rw [if_neg c]; right; omega
theorem scan_s {l : Nat → Int} {d x : Nat} (h : scan l (d + 1) x = -9) : (48 ≤ l x ∧ l x ≤ 57) ∧ scan l d (x + 1) = -9 := by
  rw [scan] at h
  by_cases c : 48 ≤ l x ∧ l x ≤ 57
  · rw [if_pos c] at h; exact ⟨c, h⟩
  · rw [if_neg c] at h; omega
theorem parts_b (c : Int) : parts c ≤ 7 ∧ (parts c = 0 ∨ 2 ≤ parts c) := by
  unfold parts
  repeat (first | omega | split)
section TX
variable {S : St} {L : Nat → Int} {n : Nat}
theorem cLtr (h : IT S L n) {p : Int} (h0 : 0 ≤ p) (h1 : p ≤ 999) : f_X5_letterAt (iI p) S = some (iI (ltr L n p.toNat)) := by
  obtain ⟨k1, k2, k3, k4⟩ := h
  by_cases c : p.toNat < n
  · have e1 := k4 p.toNat c
    have e2 : ltr L n p.toNat = L p.toNat := if_pos c
    rw [e2]
    simp (disch := omega) only [li_0, li_1, li_2, li_3, li_4, li_5, li_6, li_7, li_8, li_9, li_10, li_11, li_12, li_16, li_19, li_20, li_28, li_48, li_57, li_59, li_60, li_96, li_97, li_99, li_100, li_102, li_103, li_104, li_112, li_115, li_116, li_118, li_119, li_121, li_124, li_132, li_255, li_256, li_1000, li_2000, li_1000000000, iI_add, iI_sub, iI_mul, iI_neg, iI_lt, iI_le, iI_eq, iI_clamp, iI_s, iI_m1, iI_div, bs, tn, tn4, tn12, tn20, tn124, tn28, itT, itF, if_pos, if_neg, f_X5_letterAt, k3, e1]
  · have e2 : ltr L n p.toNat = -1 := if_neg c
    rw [e2]
    simp (disch := omega) only [li_0, li_1, li_2, li_3, li_4, li_5, li_6, li_7, li_8, li_9, li_10, li_11, li_12, li_16, li_19, li_20, li_28, li_48, li_57, li_59, li_60, li_96, li_97, li_99, li_100, li_102, li_103, li_104, li_112, li_115, li_116, li_118, li_119, li_121, li_124, li_132, li_255, li_256, li_1000, li_2000, li_1000000000, iI_add, iI_sub, iI_mul, iI_neg, iI_lt, iI_le, iI_eq, iI_clamp, iI_s, iI_m1, iI_div, bs, tn, tn4, tn12, tn20, tn124, tn28, itT, itF, if_pos, if_neg, f_X5_letterAt, k3]
theorem rHere (h : IR S L n) {p : Nat} (h1 : p ≤ 999) (hp : S.1 74 10 = iI p) : f_X8_here S = some (iI (ltr L n p)) := by
  obtain ⟨k1, k2, k3, k4⟩ := h
  by_cases c : p < n
  · have e1 := k4 p c
    have e2 : ltr L n p = L p := if_pos c
    rw [e2]
    simp (disch := omega) only [li_0, li_1, li_2, li_3, li_4, li_5, li_6, li_7, li_8, li_9, li_10, li_11, li_12, li_16, li_19, li_20, li_28, li_48, li_57, li_59, li_60, li_96, li_97, li_99, li_100, li_102, li_103, li_104, li_112, li_115, li_116, li_118, li_119, li_121, li_124, li_132, li_255, li_256, li_1000, li_2000, li_1000000000, iI_add, iI_sub, iI_mul, iI_neg, iI_lt, iI_le, iI_eq, iI_clamp, iI_s, iI_m1, iI_div, bs, tn, tn4, tn12, tn20, tn124, tn28, itT, itF, if_pos, if_neg, f_X8_here, hp, k3, e1]
  · have e2 : ltr L n p = -1 := if_neg c
    rw [e2]
    simp (disch := omega) only [li_0, li_1, li_2, li_3, li_4, li_5, li_6, li_7, li_8, li_9, li_10, li_11, li_12, li_16, li_19, li_20, li_28, li_48, li_57, li_59, li_60, li_96, li_97, li_99, li_100, li_102, li_103, li_104, li_112, li_115, li_116, li_118, li_119, li_121, li_124, li_132, li_255, li_256, li_1000, li_2000, li_1000000000, iI_add, iI_sub, iI_mul, iI_neg, iI_lt, iI_le, iI_eq, iI_clamp, iI_s, iI_m1, iI_div, bs, tn, tn4, tn12, tn20, tn124, tn28, itT, itF, if_pos, if_neg, f_X8_here, hp, k3]
theorem cDig (h : IT S L n) {p : Int} (h0 : 0 ≤ p) (h1 : p ≤ 999) : f_X5_isDigit (iI p) S = some (iI (if 48 ≤ ltr L n p.toNat ∧ ltr L n p.toNat ≤ 57 then 1 else 0)) := by
  have e1 := cLtr h h0 h1
  have b := ltr_b h.2.1 p.toNat
  by_cases c1 : ltr L n p.toNat < 48
  · simp (disch := omega) only [li_0, li_1, li_2, li_3, li_4, li_5, li_6, li_7, li_8, li_9, li_10, li_11, li_12, li_16, li_19, li_20, li_28, li_48, li_57, li_59, li_60, li_96, li_97, li_99, li_100, li_102, li_103, li_104, li_112, li_115, li_116, li_118, li_119, li_121, li_124, li_132, li_255, li_256, li_1000, li_2000, li_1000000000, iI_add, iI_sub, iI_mul, iI_neg, iI_lt, iI_le, iI_eq, iI_clamp, iI_s, iI_m1, iI_div, bs, tn, tn4, tn12, tn20, tn124, tn28, itT, itF, if_pos, if_neg, f_X5_isDigit, e1]
  · by_cases c2 : 57 < ltr L n p.toNat
    · simp (disch := omega) only [li_0, li_1, li_2, li_3, li_4, li_5, li_6, li_7, li_8, li_9, li_10, li_11, li_12, li_16, li_19, li_20, li_28, li_48, li_57, li_59, li_60, li_96, li_97, li_99, li_100, li_102, li_103, li_104, li_112, li_115, li_116, li_118, li_119, li_121, li_124, li_132, li_255, li_256, li_1000, li_2000, li_1000000000, iI_add, iI_sub, iI_mul, iI_neg, iI_lt, iI_le, iI_eq, iI_clamp, iI_s, iI_m1, iI_div, bs, tn, tn4, tn12, tn20, tn124, tn28, itT, itF, if_pos, if_neg, f_X5_isDigit, e1]
    · simp (disch := omega) only [li_0, li_1, li_2, li_3, li_4, li_5, li_6, li_7, li_8, li_9, li_10, li_11, li_12, li_16, li_19, li_20, li_28, li_48, li_57, li_59, li_60, li_96, li_97, li_99, li_100, li_102, li_103, li_104, li_112, li_115, li_116, li_118, li_119, li_121, li_124, li_132, li_255, li_256, li_1000, li_2000, li_1000000000, iI_add, iI_sub, iI_mul, iI_neg, iI_lt, iI_le, iI_eq, iI_clamp, iI_s, iI_m1, iI_div, bs, tn, tn4, tn12, tn20, tn124, tn28, itT, itF, if_pos, if_neg, f_X5_isDigit, e1]
theorem cParts (h : IT S L n) {p : Int} (h0 : 0 ≤ p) (h1 : p ≤ 999) : f_X5_partsOf (iI p) S = some (iI (parts (ltr L n p.toNat))) := by
  have e1 := cLtr h h0 h1
  have b := ltr_b h.2.1 p.toNat
  have w2 : iI 2 = iI ((2 : Nat) : Int) := rfl
  rw [f_X5_partsOf, e1, bs]
  unfold parts
  by_cases c1 : ltr L n p.toNat = 100
  · simp (disch := omega) only [li_0, li_1, li_2, li_3, li_4, li_5, li_6, li_7, li_8, li_9, li_10, li_11, li_12, li_16, li_19, li_20, li_28, li_48, li_57, li_59, li_60, li_96, li_97, li_99, li_100, li_102, li_103, li_104, li_112, li_115, li_116, li_118, li_119, li_121, li_124, li_132, li_255, li_256, li_1000, li_2000, li_1000000000, iI_add, iI_sub, iI_mul, iI_neg, iI_lt, iI_le, iI_eq, iI_clamp, iI_s, iI_m1, iI_div, bs, tn, tn4, tn12, tn20, tn124, tn28, itT, itF, if_pos, if_neg, c1]; rfl
  · by_cases c2 : ltr L n p.toNat = 103
    · simp (disch := omega) only [li_0, li_1, li_2, li_3, li_4, li_5, li_6, li_7, li_8, li_9, li_10, li_11, li_12, li_16, li_19, li_20, li_28, li_48, li_57, li_59, li_60, li_96, li_97, li_99, li_100, li_102, li_103, li_104, li_112, li_115, li_116, li_118, li_119, li_121, li_124, li_132, li_255, li_256, li_1000, li_2000, li_1000000000, iI_add, iI_sub, iI_mul, iI_neg, iI_lt, iI_le, iI_eq, iI_clamp, iI_s, iI_m1, iI_div, bs, tn, tn4, tn12, tn20, tn124, tn28, itT, itF, if_pos, if_neg, c2]; rfl
    · by_cases c3 : ltr L n p.toNat = 104
      · simp (disch := omega) only [li_0, li_1, li_2, li_3, li_4, li_5, li_6, li_7, li_8, li_9, li_10, li_11, li_12, li_16, li_19, li_20, li_28, li_48, li_57, li_59, li_60, li_96, li_97, li_99, li_100, li_102, li_103, li_104, li_112, li_115, li_116, li_118, li_119, li_121, li_124, li_132, li_255, li_256, li_1000, li_2000, li_1000000000, iI_add, iI_sub, iI_mul, iI_neg, iI_lt, iI_le, iI_eq, iI_clamp, iI_s, iI_m1, iI_div, bs, tn, tn4, tn12, tn20, tn124, tn28, itT, itF, if_pos, if_neg, c3]; rfl
      · by_cases c4 : ltr L n p.toNat = 115
        · simp (disch := omega) only [li_0, li_1, li_2, li_3, li_4, li_5, li_6, li_7, li_8, li_9, li_10, li_11, li_12, li_16, li_19, li_20, li_28, li_48, li_57, li_59, li_60, li_96, li_97, li_99, li_100, li_102, li_103, li_104, li_112, li_115, li_116, li_118, li_119, li_121, li_124, li_132, li_255, li_256, li_1000, li_2000, li_1000000000, iI_add, iI_sub, iI_mul, iI_neg, iI_lt, iI_le, iI_eq, iI_clamp, iI_s, iI_m1, iI_div, bs, tn, tn4, tn12, tn20, tn124, tn28, itT, itF, if_pos, if_neg, c4]; rfl
        · by_cases c5 : ltr L n p.toNat = 116
          · simp (disch := omega) only [li_0, li_1, li_2, li_3, li_4, li_5, li_6, li_7, li_8, li_9, li_10, li_11, li_12, li_16, li_19, li_20, li_28, li_48, li_57, li_59, li_60, li_96, li_97, li_99, li_100, li_102, li_103, li_104, li_112, li_115, li_116, li_118, li_119, li_121, li_124, li_132, li_255, li_256, li_1000, li_2000, li_1000000000, iI_add, iI_sub, iI_mul, iI_neg, iI_lt, iI_le, iI_eq, iI_clamp, iI_s, iI_m1, iI_div, bs, tn, tn4, tn12, tn20, tn124, tn28, itT, itF, if_pos, if_neg, c5]; rfl
          · by_cases c6 : ltr L n p.toNat = 118
            · simp (disch := omega) only [li_0, li_1, li_2, li_3, li_4, li_5, li_6, li_7, li_8, li_9, li_10, li_11, li_12, li_16, li_19, li_20, li_28, li_48, li_57, li_59, li_60, li_96, li_97, li_99, li_100, li_102, li_103, li_104, li_112, li_115, li_116, li_118, li_119, li_121, li_124, li_132, li_255, li_256, li_1000, li_2000, li_1000000000, iI_add, iI_sub, iI_mul, iI_neg, iI_lt, iI_le, iI_eq, iI_clamp, iI_s, iI_m1, iI_div, bs, tn, tn4, tn12, tn20, tn124, tn28, itT, itF, if_pos, if_neg, c6]; rfl
            · by_cases c7 : ltr L n p.toNat = 121
              · simp (disch := omega) only [li_0, li_1, li_2, li_3, li_4, li_5, li_6, li_7, li_8, li_9, li_10, li_11, li_12, li_16, li_19, li_20, li_28, li_48, li_57, li_59, li_60, li_96, li_97, li_99, li_100, li_102, li_103, li_104, li_112, li_115, li_116, li_118, li_119, li_121, li_124, li_132, li_255, li_256, li_1000, li_2000, li_1000000000, iI_add, iI_sub, iI_mul, iI_neg, iI_lt, iI_le, iI_eq, iI_clamp, iI_s, iI_m1, iI_div, bs, tn, tn4, tn12, tn20, tn124, tn28, itT, itF, if_pos, if_neg, c7]; rfl
              · simp (disch := omega) only [li_0, li_1, li_2, li_3, li_4, li_5, li_6, li_7, li_8, li_9, li_10, li_11, li_12, li_16, li_19, li_20, li_28, li_48, li_57, li_59, li_60, li_96, li_97, li_99, li_100, li_102, li_103, li_104, li_112, li_115, li_116, li_118, li_119, li_121, li_124, li_132, li_255, li_256, li_1000, li_2000, li_1000000000, iI_add, iI_sub, iI_mul, iI_neg, iI_lt, iI_le, iI_eq, iI_clamp, iI_s, iI_m1, iI_div, bs, tn, tn4, tn12, tn20, tn124, tn28, itT, itF, if_pos, if_neg]
                rfl
theorem kd_zix {c : Int} (h : -1 ≤ c ∧ c ≤ 255) : zix ((iI c).toUInt32 % 65536).toInt32 = iI (kdOf c) := by
  by_cases c0 : c = -1
  · subst c0
    decide
  · obtain ⟨m, rfl⟩ : ∃ m : Nat, c = m := ⟨c.toNat, by omega⟩
    have h2 : ∀ m, m < 256 → zix ((iI ((m : Nat) : Int)).toUInt32 % 65536).toInt32 = iI (kdOf ((m : Nat) : Int)) := by decide +kernel
    exact h2 m (by omega)
theorem cKind (h : IT S L n) {p : Int} (h0 : 0 ≤ p) (h1 : p ≤ 999) : f_X5_kindAt (iI p) S = some (iI (kdOf (ltr L n p.toNat))) := by
  have e1 := cLtr h h0 h1
  have b := ltr_b h.2.1 p.toNat
  rw [f_X5_kindAt, e1, bs, kd_zix b]
theorem kdOf_b (c : Int) : -1 ≤ kdOf c ∧ kdOf c ≤ 5 := by
  unfold kdOf
  repeat (first | omega | split)
theorem cScan (h : IT S L n) {p q : Nat} (hp : p ≤ 200) (hq : q ≤ 8) {k62 : Int32 → Option Int32} (hk : ∀ y : Nat, y ≤ 300 → k62 (iI y) = some (iI (if ltr L n y = 59 then -9 else (y : Int)))) :
    ∀ d m x : Nat, x + d = p + q + 1 → d < m → f_X5_misfitOfStatement_L39 m (iI p) (iI q) (iI x) S (fun y => some y) k62 = some (iI (scan (ltr L n) d x)) := by
  intro d
  induction d with
  | zero =>
    intro m x hx hd
    obtain ⟨m, rfl⟩ : ∃ p, m = p + 1 := ⟨m - 1, by omega⟩
    have e := hk x (by omega)
    rw [f_X5_misfitOfStatement_L39, scan]
    simp (disch := omega) only [li_0, li_1, li_2, li_3, li_4, li_5, li_6, li_7, li_8, li_9, li_10, li_11, li_12, li_16, li_19, li_20, li_28, li_48, li_57, li_59, li_60, li_96, li_97, li_99, li_100, li_102, li_103, li_104, li_112, li_115, li_116, li_118, li_119, li_121, li_124, li_132, li_255, li_256, li_1000, li_2000, li_1000000000, iI_add, iI_sub, iI_mul, iI_neg, iI_lt, iI_le, iI_eq, iI_clamp, iI_s, iI_m1, iI_div, bs, tn, tn4, tn12, tn20, tn124, tn28, itT, itF, if_pos, if_neg, e]
  | succ d ih =>
    intro m x hx hd
    obtain ⟨m, rfl⟩ : ∃ p, m = p + 1 := ⟨m - 1, by omega⟩
    have i1 := ih m (x + 1) (by omega) (by omega)
    have e1 := cDig h (p := (x : Int)) (by omega) (by omega)
    rw [Int.toNat_natCast] at e1
    rw [f_X5_misfitOfStatement_L39, scan]
    by_cases c : 48 ≤ ltr L n x ∧ ltr L n x ≤ 57
    · rw [if_pos c] at e1 ⊢
      simp (disch := omega) only [li_0, li_1, li_2, li_3, li_4, li_5, li_6, li_7, li_8, li_9, li_10, li_11, li_12, li_16, li_19, li_20, li_28, li_48, li_57, li_59, li_60, li_96, li_97, li_99, li_100, li_102, li_103, li_104, li_112, li_115, li_116, li_118, li_119, li_121, li_124, li_132, li_255, li_256, li_1000, li_2000, li_1000000000, iI_add, iI_sub, iI_mul, iI_neg, iI_lt, iI_le, iI_eq, iI_clamp, iI_s, iI_m1, iI_div, bs, tn, tn4, tn12, tn20, tn124, tn28, itT, itF, if_pos, if_neg, e1, i1]
    · rw [if_neg c] at e1 ⊢
      simp (disch := omega) only [li_0, li_1, li_2, li_3, li_4, li_5, li_6, li_7, li_8, li_9, li_10, li_11, li_12, li_16, li_19, li_20, li_28, li_48, li_57, li_59, li_60, li_96, li_97, li_99, li_100, li_102, li_103, li_104, li_112, li_115, li_116, li_118, li_119, li_121, li_124, li_132, li_255, li_256, li_1000, li_2000, li_1000000000, iI_add, iI_sub, iI_mul, iI_neg, iI_lt, iI_le, iI_eq, iI_clamp, iI_s, iI_m1, iI_div, bs, tn, tn4, tn12, tn20, tn124, tn28, itT, itF, if_pos, if_neg, e1]
theorem cMis (h : IT S L n) {p : Nat} (hp : p ≤ 200) : f_X5_misfitOfStatement (iI p) S = some (iI (mis (ltr L n) p)) := by
  have b := ltr_b h.2.1 p
  have pb := parts_b (ltr L n p)
  have e1 := cParts h (p := (p : Int)) (by omega) (by omega)
  have e2 := cLtr h (p := (p : Int)) (by omega) (by omega)
  have e3 := cKind h (p := ((p + 1 : Nat) : Int)) (by omega) (by omega)
  rw [Int.toNat_natCast] at e1 e2 e3
  have kb := kdOf_b (ltr L n (p + 1))
  have hk : ∀ y : Nat, y ≤ 300 → ((f_X5_letterAt (iI y) S).bind fun v => if v = iI 59 then some (iI (-9)) else some (iI y)) = some (iI (if ltr L n y = 59 then -9 else (y : Int))) := fun y hy => by
    have e4 := cLtr h (p := (y : Int)) (by omega) (by omega)
    rw [Int.toNat_natCast] at e4
    have b4 := ltr_b h.2.1 y
    by_cases c : ltr L n y = 59
    · simp (disch := omega) only [li_0, li_1, li_2, li_3, li_4, li_5, li_6, li_7, li_8, li_9, li_10, li_11, li_12, li_16, li_19, li_20, li_28, li_48, li_57, li_59, li_60, li_96, li_97, li_99, li_100, li_102, li_103, li_104, li_112, li_115, li_116, li_118, li_119, li_121, li_124, li_132, li_255, li_256, li_1000, li_2000, li_1000000000, iI_add, iI_sub, iI_mul, iI_neg, iI_lt, iI_le, iI_eq, iI_clamp, iI_s, iI_m1, iI_div, bs, tn, tn4, tn12, tn20, tn124, tn28, itT, itF, if_pos, if_neg, e4]
    · simp (disch := omega) only [li_0, li_1, li_2, li_3, li_4, li_5, li_6, li_7, li_8, li_9, li_10, li_11, li_12, li_16, li_19, li_20, li_28, li_48, li_57, li_59, li_60, li_96, li_97, li_99, li_100, li_102, li_103, li_104, li_112, li_115, li_116, li_118, li_119, li_121, li_124, li_132, li_255, li_256, li_1000, li_2000, li_1000000000, iI_add, iI_sub, iI_mul, iI_neg, iI_lt, iI_le, iI_eq, iI_clamp, iI_s, iI_m1, iI_div, bs, tn, tn4, tn12, tn20, tn124, tn28, itT, itF, if_pos, if_neg, e4]
  have e5 : f_X5_misfitOfStatement_L39 2000 (iI p) (iI (parts (ltr L n p))) (iI ((p + 1 : Nat) : Int)) S (fun y => some y) (fun y => (f_X5_letterAt y S).bind fun v => if v = iI 59 then some (iI (-9)) else some y) = some (iI (scan (ltr L n) (parts (ltr L n p)) (p + 1))) :=
    cScan h hp (by omega) hk (parts (ltr L n p)) 2000 (p + 1) (by omega) (by omega)
  unfold mis
  by_cases c0 : parts (ltr L n p) = 0
  · rw [if_pos c0]
    rw [c0] at e1
    rw [f_X5_misfitOfStatement, e1, bs]
    simp (disch := omega) only [li_0, li_1, li_2, li_3, li_4, li_5, li_6, li_7, li_8, li_9, li_10, li_11, li_12, li_16, li_19, li_20, li_28, li_48, li_57, li_59, li_60, li_96, li_97, li_99, li_100, li_102, li_103, li_104, li_112, li_115, li_116, li_118, li_119, li_121, li_124, li_132, li_255, li_256, li_1000, li_2000, li_1000000000, iI_add, iI_sub, iI_mul, iI_neg, iI_lt, iI_le, iI_eq, iI_clamp, iI_s, iI_m1, iI_div, bs, tn, tn4, tn12, tn20, tn124, tn28, itT, itF, if_pos, if_neg]
  · rw [if_neg c0]
    by_cases c1 : ltr L n p = 116
    · rw [if_pos c1]
      have c2 : parts (ltr L n p) = 2 := by rw [c1]; rfl
      have e6 : f_X5_misfitOfStatement_L39 2000 (iI p) (iI (parts (ltr L n p))) (iI ((p + 1 + 1 : Nat) : Int)) S (fun y => some y) (fun y => (f_X5_letterAt y S).bind fun v => if v = iI 59 then some (iI (-9)) else some y) = some (iI (scan (ltr L n) 1 (p + 1 + 1))) :=
        cScan h hp (by omega) hk 1 2000 (p + 1 + 1) (by omega) (by omega)
      have e7 : iI ((p : Int) + 1 + 1) = iI ((p + 1 + 1 : Nat) : Int) := rfl
      by_cases c3 : 0 ≤ kdOf (ltr L n (p + 1))
      · rw [if_pos c3]
        simp (disch := omega) only [li_0, li_1, li_2, li_3, li_4, li_5, li_6, li_7, li_8, li_9, li_10, li_11, li_12, li_16, li_19, li_20, li_28, li_48, li_57, li_59, li_60, li_96, li_97, li_99, li_100, li_102, li_103, li_104, li_112, li_115, li_116, li_118, li_119, li_121, li_124, li_132, li_255, li_256, li_1000, li_2000, li_1000000000, iI_add, iI_sub, iI_mul, iI_neg, iI_lt, iI_le, iI_eq, iI_clamp, iI_s, iI_m1, iI_div, bs, tn, tn4, tn12, tn20, tn124, tn28, itT, itF, if_pos, if_neg, f_X5_misfitOfStatement, e1, e2, e3, e7, e6]
      · rw [if_neg c3]
        simp (disch := omega) only [li_0, li_1, li_2, li_3, li_4, li_5, li_6, li_7, li_8, li_9, li_10, li_11, li_12, li_16, li_19, li_20, li_28, li_48, li_57, li_59, li_60, li_96, li_97, li_99, li_100, li_102, li_103, li_104, li_112, li_115, li_116, li_118, li_119, li_121, li_124, li_132, li_255, li_256, li_1000, li_2000, li_1000000000, iI_add, iI_sub, iI_mul, iI_neg, iI_lt, iI_le, iI_eq, iI_clamp, iI_s, iI_m1, iI_div, bs, tn, tn4, tn12, tn20, tn124, tn28, itT, itF, if_pos, if_neg, f_X5_misfitOfStatement, e1, e2, e3]
    · rw [if_neg c1]
      simp (disch := omega) only [li_0, li_1, li_2, li_3, li_4, li_5, li_6, li_7, li_8, li_9, li_10, li_11, li_12, li_16, li_19, li_20, li_28, li_48, li_57, li_59, li_60, li_96, li_97, li_99, li_100, li_102, li_103, li_104, li_112, li_115, li_116, li_118, li_119, li_121, li_124, li_132, li_255, li_256, li_1000, li_2000, li_1000000000, iI_add, iI_sub, iI_mul, iI_neg, iI_lt, iI_le, iI_eq, iI_clamp, iI_s, iI_m1, iI_div, bs, tn, tn4, tn12, tn20, tn124, tn28, itT, itF, if_pos, if_neg, f_X5_misfitOfStatement, e1, e2, e5]
theorem cBehind (h : IT S L n) {p : Nat} (hp : p ≤ 200) : f_X5_behindStatement (iI p) S = some (iI ((p + parts (ltr L n p) + 2 : Nat) : Int)) := by
  have e1 := cParts h (p := (p : Int)) (by omega) (by omega)
  rw [Int.toNat_natCast] at e1
  rw [f_X5_behindStatement, e1, bs, show (2 : Int32) = iI 2 from rfl, iI_add, iI_add]
  rfl
theorem numS (h : IT S L n) {p i : Nat} (hp : p + i ≤ 900) {len acc : Int} (hl : (i : Int) < len ∧ len ≤ 9) {k : Int32 → Option Int32} (m : Nat) : f_X5_number_L5 (m + 1) (iI p) (iI len) (iI acc) (iI i) S k = f_X5_number_L5 m (iI p) (iI len) (iI (10 * acc + ltr L n (p + i) - 48)) (iI ((i + 1 : Nat) : Int)) S k := by
  have e1 := cLtr h (p := ((p + i : Nat) : Int)) (by omega) (by omega)
  rw [Int.toNat_natCast] at e1
  have e2 : iI (p : Int) + iI (i : Int) = iI ((p + i : Nat) : Int) := by rw [iI_add]; rfl
  have e3 : iI (i : Int) + 1 = iI ((i + 1 : Nat) : Int) := by rw [show (1 : Int32) = iI 1 from rfl, iI_add]; rfl
  have e4 : ¬ iI len ≤ iI (i : Int) := by rw [iI_le (by omega) (by omega) (by omega) (by omega)]; omega
  rw [f_X5_number_L5, if_neg e4, e2, e1, bs, e3, show (10 : Int32) = iI 10 from rfl, show (48 : Int32) = iI 48 from rfl, iI_mul, iI_add, iI_sub]
theorem numE {p i : Nat} {acc : Int} (hi : i ≤ 9) {k : Int32 → Option Int32} (m : Nat) : f_X5_number_L5 (m + 1) (iI p) (iI i) (iI acc) (iI i) S k = k (iI acc) := by
  rw [f_X5_number_L5, if_pos (by rw [iI_le (by omega) (by omega) (by omega) (by omega)]; omega)]
theorem cNum1 (h : IT S L n) {p : Nat} (hp : p ≤ 300) : f_X5_number (iI p) (iI 1) S = some (iI (ltr L n p - 48)) := by
  have s1 := numS h (p := p) (i := 0) (by omega) (len := ((1 : Nat) : Int)) (acc := 0) (by omega) (k := fun y => some y) 1999
  have s2 := numE (S := S) (p := p) (i := 1) (acc := 10 * 0 + ltr L n (p + 0) - 48) (by omega) (k := fun y => some y) 1998
  have s3 := s1.trans s2
  rw [show 10 * 0 + ltr L n (p + 0) - 48 = ltr L n p - 48 by rw [Nat.add_zero]; omega] at s3
  rw [f_X5_number]
  exact s3
theorem cNum2 (h : IT S L n) {p : Nat} (hp : p ≤ 300) : f_X5_number (iI p) (iI 2) S = some (iI (10 * (ltr L n p - 48) + ltr L n (p + 1) - 48)) := by
  have s1 := numS h (p := p) (i := 0) (by omega) (len := ((2 : Nat) : Int)) (acc := 0) (by omega) (k := fun y => some y) 1999
  have s2 := numS h (p := p) (i := 1) (by omega) (len := ((2 : Nat) : Int)) (acc := 10 * 0 + ltr L n (p + 0) - 48) (by omega) (k := fun y => some y) 1998
  have s3 := numE (S := S) (p := p) (i := 2) (acc := 10 * (10 * 0 + ltr L n (p + 0) - 48) + ltr L n (p + 1) - 48) (by omega) (k := fun y => some y) 1997
  have s4 := s1.trans (s2.trans s3)
  rw [show 10 * 0 + ltr L n (p + 0) - 48 = ltr L n p - 48 by rw [Nat.add_zero]; omega] at s4
  rw [f_X5_number]
  exact s4
end TX
end
section
-- ===== the reference reads =====
def f82 (S S' : St) : Prop := ∀ i k, ¬ (i = 82 ∨ (i = 74 ∧ k = 10)) → S'.1 i k = S.1 i k
def nFr (f : Nat) (S S' : St) : Prop := ∀ i k, ¬ ((i = 82 ∧ k = f) ∨ (i = 74 ∧ k = 10)) → S'.1 i k = S.1 i k
theorem nFr.f {f : Nat} {S S' : St} (h : nFr f S S') : f82 S S' := fun i k hi => h i k (by omega)
theorem f82.tr {S S' S'' : St} (h : f82 S S') (h' : f82 S' S'') : f82 S S'' := fun i k hi => (h' i k hi).trans (h i k hi)
theorem IR.f {S S' : St} {L : Nat → Int} {n : Nat} (h : IR S L n) (hf : f82 S S') : IR S' L n :=
  ⟨h.1, h.2.1, by rw [hf _ _ (by omega)]; exact h.2.2.1, fun p hp => by rw [hf _ _ (by omega)]; exact h.2.2.2 p hp⟩
def nv (l : Nat → Int) (e p : Nat) : Int := if e = 1 then l p - 48 else 10 * (l p - 48) + l (p + 1) - 48
theorem h10 : ¬ (iI 1 : Int32) = 0 := by decide
theorem h00 : (iI 0 : Int32) = 0 := rfl
section RN
variable {S : St} {L : Nat → Int} {n : Nat}
theorem rDig (h : IR S L n) {p : Nat} (hp : p ≤ 900) (h1 : S.1 74 10 = iI p) : f_X8_here S = some (iI (ltr L n p)) ∧ f_X8_isIn (iI (ltr L n p)) (iI 48) (iI 57) = some (iI (if 48 ≤ ltr L n p ∧ ltr L n p ≤ 57 then 1 else 0)) := by
  have b := ltr_b h.2.1 p
  exact ⟨rHere h (by omega) h1, rIn (by omega) (by omega) (by omega) (by omega) (by omega) (by omega)⟩
theorem rNumS (h : IR S L n) {p f i : Nat} (hp : p ≤ 900) (hf : f < 4) (h1 : S.1 74 10 = iI p) {acc len : Int} (h2 : S.1 82 f = iI acc) (hl : (i : Int) < len ∧ len ≤ 9) {k28 k69 : St → Option (Int32 × St)} (m : Nat) (hd : 48 ≤ ltr L n p ∧ ltr L n p ≤ 57) :
    f_X8_readsNumber_L9 (m + 1) (iI f) (iI len) (iI i) S k28 k69 = f_X8_readsNumber_L9 m (iI f) (iI len) (iI ((i + 1 : Nat) : Int)) (up (up S 82 f (iI (10 * acc + ltr L n p - 48))) 74 10 (iI ((p + 1 : Nat) : Int))) k28 k69 := by
  obtain ⟨e1, e2⟩ := rDig h hp h1
  rw [if_pos hd] at e2
  have j1 : (iI (f : Int)).toNatClampNeg = f := by rw [iI_clamp (by omega) (by omega)]; rfl
  have j2 : ¬ (iI (f : Int) < 0 ∨ 4 ≤ f) := by rw [show (0 : Int32) = iI 0 from rfl, iI_lt (by omega) (by omega) (by omega) (by omega)]; omega
  have e3 : iI (i : Int) + 1 = iI ((i + 1 : Nat) : Int) := by rw [show (1 : Int32) = iI 1 from rfl, iI_add]; rfl
  have e4 : ¬ iI len ≤ iI (i : Int) := by rw [iI_le (by omega) (by omega) (by omega) (by omega)]; omega
  have e5 : (up S 82 f (iI (10 * acc + ltr L n p - 48))).1 74 10 = iI p := by rw [up_ne (by omega)]; exact h1
  have e6 : iI (p : Int) + 1 = iI ((p + 1 : Nat) : Int) := by rw [show (1 : Int32) = iI 1 from rfl, iI_add]; rfl
  rw [f_X8_readsNumber_L9, if_neg e4, e1, bs, show (48 : Int32) = iI 48 from rfl, show (57 : Int32) = iI 57 from rfl, e2, bs, if_neg h10, j1, if_neg j2, bs, if_neg j2, h2, show (10 : Int32) = iI 10 from rfl, iI_mul, iI_add, iI_sub, e5, e6, e3]
theorem rNumF (h : IR S L n) {p f i : Nat} (hp : p ≤ 900) (h1 : S.1 74 10 = iI p) {len : Int} (hl : (i : Int) < len ∧ len ≤ 9) {k28 k69 : St → Option (Int32 × St)} (m : Nat) (hd : ¬ (48 ≤ ltr L n p ∧ ltr L n p ≤ 57)) :
    f_X8_readsNumber_L9 (m + 1) (iI f) (iI len) (iI i) S k28 k69 = k28 S := by
  obtain ⟨e1, e2⟩ := rDig h hp h1
  rw [if_neg hd] at e2
  have e4 : ¬ iI len ≤ iI (i : Int) := by rw [iI_le (by omega) (by omega) (by omega) (by omega)]; omega
  rw [f_X8_readsNumber_L9, if_neg e4, e1, bs, show (48 : Int32) = iI 48 from rfl, show (57 : Int32) = iI 57 from rfl, e2, bs, if_pos h00]
theorem rNumE {f i : Nat} (hi : i ≤ 9) {k28 k69 : St → Option (Int32 × St)} (m : Nat) : f_X8_readsNumber_L9 (m + 1) (iI f) (iI i) (iI i) S k28 k69 = k69 S := by
  rw [f_X8_readsNumber_L9, if_pos (by rw [iI_le (by omega) (by omega) (by omega) (by omega)]; omega)]
theorem rNum0 {f : Nat} (hf : f < 4) {len : Int32} : f_X8_readsNumber (iI f) len S = f_X8_readsNumber_L9 2000 (iI f) len 0 (up S 82 f (iI 0)) (fun S9 => some (0, S9)) (fun S10 => some (1, S10)) := by
  have j1 : (iI (f : Int)).toNatClampNeg = f := by rw [iI_clamp (by omega) (by omega)]; rfl
  have j2 : ¬ (iI (f : Int) < 0 ∨ 4 ≤ f) := by rw [show (0 : Int32) = iI 0 from rfl, iI_lt (by omega) (by omega) (by omega) (by omega)]; omega
  rw [f_X8_readsNumber, j1, if_neg j2]
  rfl
theorem rNum {f p e : Nat} (h : IR S L n) (hf : f < 4) (hp : p ≤ 800) (h1 : S.1 74 10 = iI p) (he : e = 1 ∨ e = 2) :
    ∃ (r : Int) (S' : St), f_X8_readsNumber (iI f) (iI e) S = some (iI r, S') ∧ nFr f S S' ∧ ((r = 1 ∧ S'.1 74 10 = iI ((p + e : Nat) : Int) ∧ S'.1 82 f = iI (nv (ltr L n) e p) ∧ (0 ≤ nv (ltr L n) e p ∧ nv (ltr L n) e p ≤ 99 ∧ (e = 1 → nv (ltr L n) e p ≤ 9)) ∧ ∀ d, scan (ltr L n) (d + e) p = scan (ltr L n) d (p + e)) ∨ (r = 0 ∧ ∃ q : Nat, S'.1 74 10 = iI q ∧ ∀ d, scan (ltr L n) (d + e) p = (q : Int))) := by
  obtain ⟨S0, hS0⟩ : ∃ S0, S0 = up S 82 f (iI 0) := ⟨_, rfl⟩
  have fr0 : nFr f S S0 := fun i k hi => by rw [hS0, up_n (by omega)]
  have hI0 := h.f fr0.f
  have p0 : S0.1 74 10 = iI p := by rw [hS0, up_ne (by omega)]; exact h1
  have v0 : S0.1 82 f = iI 0 := by rw [hS0, up_s]
  by_cases c : 48 ≤ ltr L n p ∧ ltr L n p ≤ 57
  · obtain ⟨S1, hS1⟩ : ∃ S1, S1 = up (up S0 82 f (iI (10 * 0 + ltr L n p - 48))) 74 10 (iI ((p + 1 : Nat) : Int)) := ⟨_, rfl⟩
    have fr1 : nFr f S S1 := fun i k hi => by rw [hS1, up_n (by omega), up_n (by omega)]; exact fr0 i k hi
    have hI1 := h.f fr1.f
    have p1 : S1.1 74 10 = iI ((p + 1 : Nat) : Int) := by rw [hS1, up_s]
    have v1 : S1.1 82 f = iI (10 * 0 + ltr L n p - 48) := by rw [hS1, up_ne (by omega), up_s]
    have sc1 : ∀ d, scan (ltr L n) (d + 1) p = scan (ltr L n) d (p + 1) := fun d => by rw [scan, if_pos c]
    rcases he with rfl | rfl
    · have s1 := rNumS hI0 (p := p) (f := f) (i := 0) (by omega) hf p0 (acc := 0) (len := ((1 : Nat) : Int)) v0 (by omega) (k28 := fun S9 => some (0, S9)) (k69 := fun S10 => some (1, S10)) 1999 c
      rw [← hS1] at s1
      have s2 := rNumE (S := S1) (f := f) (i := 1) (by omega) (k28 := fun S9 => some (0, S9)) (k69 := fun S10 => some (1, S10)) 1998
      refine ⟨1, S1, ?_, fr1, Or.inl ⟨rfl, p1, ?_, ?_, sc1⟩⟩
      · rw [rNum0 hf, ← hS0]
        exact s1.trans s2
      · rw [v1]
        congr 1
        show 10 * 0 + ltr L n p - 48 = ltr L n p - 48
        omega
      · show 0 ≤ ltr L n p - 48 ∧ ltr L n p - 48 ≤ 99 ∧ (1 = 1 → ltr L n p - 48 ≤ 9)
        omega
    · have s1 := rNumS hI0 (p := p) (f := f) (i := 0) (by omega) hf p0 (acc := 0) (len := ((2 : Nat) : Int)) v0 (by omega) (k28 := fun S9 => some (0, S9)) (k69 := fun S10 => some (1, S10)) 1999 c
      rw [← hS1] at s1
      by_cases c2 : 48 ≤ ltr L n (p + 1) ∧ ltr L n (p + 1) ≤ 57
      · have s2 := rNumS hI1 (p := p + 1) (f := f) (i := 1) (by omega) hf p1 (len := ((2 : Nat) : Int)) v1 (by omega) (k28 := fun S9 => some (0, S9)) (k69 := fun S10 => some (1, S10)) 1998 c2
        obtain ⟨S2, hS2⟩ : ∃ S2, S2 = up (up S1 82 f (iI (10 * (10 * 0 + ltr L n p - 48) + ltr L n (p + 1) - 48))) 74 10 (iI ((p + 1 + 1 : Nat) : Int)) := ⟨_, rfl⟩
        rw [← hS2] at s2
        have s3 := rNumE (S := S2) (f := f) (i := 2) (by omega) (k28 := fun S9 => some (0, S9)) (k69 := fun S10 => some (1, S10)) 1997
        refine ⟨1, S2, ?_, fun i k hi => by rw [hS2, up_n (by omega), up_n (by omega)]; exact fr1 i k hi, Or.inl ⟨rfl, by rw [hS2, up_s], ?_, ?_, fun d => ?_⟩⟩
        · rw [rNum0 hf, ← hS0]
          exact s1.trans (s2.trans s3)
        · rw [hS2, up_ne (by omega), up_s]
          congr 1
          show 10 * (10 * 0 + ltr L n p - 48) + ltr L n (p + 1) - 48 = 10 * (ltr L n p - 48) + ltr L n (p + 1) - 48
          omega
        · show 0 ≤ 10 * (ltr L n p - 48) + ltr L n (p + 1) - 48 ∧ 10 * (ltr L n p - 48) + ltr L n (p + 1) - 48 ≤ 99 ∧ (2 = 1 → _)
          exact ⟨by omega, by omega, fun z => absurd z (by omega)⟩
        · show scan (ltr L n) (d + 1 + 1) p = _
          rw [sc1 (d + 1), scan, if_pos c2]
      · have s2 := rNumF hI1 (p := p + 1) (f := f) (i := 1) (by omega) p1 (len := ((2 : Nat) : Int)) (by omega) (k28 := fun S9 => some (0, S9)) (k69 := fun S10 => some (1, S10)) 1998 c2
        refine ⟨0, S1, ?_, fr1, Or.inr ⟨rfl, p + 1, p1, fun d => ?_⟩⟩
        · rw [rNum0 hf, ← hS0]
          exact s1.trans s2
        · show scan (ltr L n) (d + 1 + 1) p = _
          rw [sc1 (d + 1), scan, if_neg c2]
  · have s1 : ∀ len : Int, 0 < len ∧ len ≤ 9 → f_X8_readsNumber_L9 2000 (iI f) (iI len) (iI ((0 : Nat) : Int)) S0 (fun S9 => some (0, S9)) (fun S10 => some (1, S10)) = some (0, S0) := fun len hl => rNumF hI0 (p := p) (f := f) (i := 0) (by omega) p0 (len := len) (by omega) (k28 := fun S9 => some (0, S9)) (k69 := fun S10 => some (1, S10)) 1999 c
    refine ⟨0, S0, ?_, fr0, Or.inr ⟨rfl, p, p0, fun d => ?_⟩⟩
    · rw [rNum0 hf, ← hS0]
      rcases he with rfl | rfl
      · exact s1 1 (by omega)
      · exact s1 2 (by omega)
    · rcases he with rfl | rfl
      · rw [scan, if_neg c]
      · show scan (ltr L n) (d + 1 + 1) p = _
        rw [scan, if_neg c]
/-- what a reading comes to: 1, the place behind; or 0 and the place of the misfit -/
def RD (T : Option (Int32 × St)) (S0 : St) (l : Nat → Int) (d x : Nat) (P : St → Prop) : Prop := ∃ (r : Int) (S' : St), T = some (iI r, S') ∧ f82 S0 S' ∧ ((r = 1 ∧ scan l d x = -9 ∧ S'.1 74 10 = iI ((x + d + 1 : Nat) : Int) ∧ P S') ∨ (r = 0 ∧ ∃ q : Nat, S'.1 74 10 = iI q ∧ scan l d x = (q : Int)))
theorem rd_num {S0 : St} {f x e d : Nat} {P : St → Prop} {C : Int32 × St → Option (Int32 × St)} (h : IR S L n) (hf : f < 4) (hx : x ≤ 800) (h1 : S.1 74 10 = iI x) (he : e = 1 ∨ e = 2) (h0 : f82 S0 S)
    (hF : ∀ S1, ∃ S1', C (iI 0, S1) = some (iI 0, S1') ∧ f82 S1 S1' ∧ S1'.1 74 10 = S1.1 74 10)
    (hK : ∀ S1, nFr f S S1 → IR S1 L n → S1.1 74 10 = iI ((x + e : Nat) : Int) → f82 S0 S1 → S1.1 82 f = iI (nv (ltr L n) e x) → 0 ≤ nv (ltr L n) e x ∧ nv (ltr L n) e x ≤ 99 ∧ (e = 1 → nv (ltr L n) e x ≤ 9) → RD (C (iI 1, S1)) S0 (ltr L n) d (x + e) P) :
    RD ((f_X8_readsNumber (iI f) (iI e) S).bind C) S0 (ltr L n) (d + e) x P := by
  obtain ⟨r, S1, a1, a2, a3⟩ := rNum h hf hx h1 he
  rw [a1]
  rcases a3 with ⟨rfl, b1, b2, b3, b4⟩ | ⟨rfl, q, b1, b2⟩
  · obtain ⟨r, S', c1, c2, c3⟩ := hK S1 a2 (h.f a2.f) b1 (h0.tr a2.f) b2 b3
    refine ⟨r, S', c1, c2, ?_⟩
    rw [b4 d]
    rcases c3 with ⟨c3, c4, c5, c6⟩ | c3
    · left
      exact ⟨c3, c4, by rw [c5, show x + e + d + 1 = x + (d + e) + 1 by omega], c6⟩
    · exact Or.inr c3
  · obtain ⟨S1', c1, c2, c3⟩ := hF S1
    exact ⟨0, S1', c1, (h0.tr a2.f).tr c2, Or.inr ⟨rfl, q, by rw [c3]; exact b1, b2 d⟩⟩
theorem rd_end {S0 : St} {x : Nat} {P : St → Prop} (h : IR S L n) (hx : x ≤ 800) (h1 : S.1 74 10 = iI x) (h0 : f82 S0 S) (hP : P (up S 74 10 (iI ((x + 1 : Nat) : Int)))) :
    RD ((f_X8_here S).bind fun v => if v = 59 then some (1, up S 74 10 (S.1 74 10 + 1)) else some (0, S)) S0 (ltr L n) 0 x P := by
  have e1 := rHere h (p := x) (by omega) h1
  have b := ltr_b h.2.1 x
  have e2 : S.1 74 10 + 1 = iI ((x + 1 : Nat) : Int) := by rw [h1, show (1 : Int32) = iI 1 from rfl, iI_add]; rfl
  rw [e1, bs, e2]
  by_cases c : ltr L n x = 59
  · rw [if_pos (by rw [c]; rfl)]
    refine ⟨1, _, rfl, h0.tr (fun i k hi => up_n (by omega)), Or.inl ⟨rfl, ?_, up_s, hP⟩⟩
    rw [scan, if_pos c]
  · rw [if_neg (by rw [show (59 : Int32) = iI 59 from rfl, iI_eq (by omega) (by omega) (by omega) (by omega)]; exact c)]
    refine ⟨0, S, rfl, h0, Or.inr ⟨rfl, x, h1, ?_⟩⟩
    rw [scan, if_neg c]
theorem fr00 {S0 S1 : St} : ∃ S1', (some (0, S1) : Option (Int32 × St)) = some (iI 0, S1') ∧ f82 S1 S1' ∧ S1'.1 74 10 = S1.1 74 10 := ⟨S1, rfl, fun _ _ _ => rfl, rfl⟩
/-- the numbers of a statement -/
def NB (l : Nat → Int) (p : Nat) (S' : St) : Prop :=
  (l p = 100 → S'.1 82 0 = iI (nv l 2 (p + 1)) ∧ 0 ≤ nv l 2 (p + 1) ∧ nv l 2 (p + 1) ≤ 99) ∧
  (l p = 103 → (S'.1 82 0 = iI (nv l 1 (p + 1)) ∧ S'.1 82 1 = iI (nv l 2 (p + 2)) ∧ S'.1 82 2 = iI (nv l 2 (p + 2)) ∧ S'.1 82 3 = iI (nv l 2 (p + 4))) ∧ (0 ≤ nv l 1 (p + 1) ∧ nv l 1 (p + 1) ≤ 9) ∧ (0 ≤ nv l 2 (p + 2) ∧ nv l 2 (p + 2) ≤ 99) ∧ (0 ≤ nv l 2 (p + 4) ∧ nv l 2 (p + 4) ≤ 99)) ∧
  (l p = 104 → (S'.1 82 0 = iI (nv l 1 (p + 1)) ∧ S'.1 82 1 = iI (nv l 1 (p + 2))) ∧ (0 ≤ nv l 1 (p + 1) ∧ nv l 1 (p + 1) ≤ 9) ∧ (0 ≤ nv l 1 (p + 2) ∧ nv l 1 (p + 2) ≤ 9)) ∧
  (l p = 115 → (S'.1 82 0 = iI (nv l 1 (p + 1)) ∧ S'.1 82 1 = iI (nv l 2 (p + 2)) ∧ S'.1 82 2 = iI (nv l 1 (p + 4))) ∧ (0 ≤ nv l 1 (p + 1) ∧ nv l 1 (p + 1) ≤ 9) ∧ (0 ≤ nv l 2 (p + 2) ∧ nv l 2 (p + 2) ≤ 99) ∧ (0 ≤ nv l 1 (p + 4) ∧ nv l 1 (p + 4) ≤ 9)) ∧
  (l p = 116 → (S'.1 82 0 = iI (kdOf (l (p + 1))) ∧ S'.1 82 1 = iI (nv l 1 (p + 2))) ∧ (0 ≤ kdOf (l (p + 1))) ∧ (0 ≤ nv l 1 (p + 2) ∧ nv l 1 (p + 2) ≤ 9)) ∧
  (l p = 118 → (S'.1 82 0 = iI (nv l 1 (p + 1)) ∧ S'.1 82 1 = iI (nv l 2 (p + 2)) ∧ S'.1 82 2 = iI (nv l 2 (p + 4)) ∧ S'.1 82 3 = iI (nv l 2 (p + 6))) ∧ (0 ≤ nv l 1 (p + 1) ∧ nv l 1 (p + 1) ≤ 9) ∧ (0 ≤ nv l 2 (p + 2) ∧ nv l 2 (p + 2) ≤ 99) ∧ (0 ≤ nv l 2 (p + 4) ∧ nv l 2 (p + 4) ≤ 99) ∧ (0 ≤ nv l 2 (p + 6) ∧ nv l 2 (p + 6) ≤ 99)) ∧
  (l p = 121 → S'.1 82 0 = iI (nv l 2 (p + 1)) ∧ 0 ≤ nv l 2 (p + 1) ∧ nv l 2 (p + 1) ≤ 99)
/-- what the reference's reading of a statement comes to -/
def RS (S : St) (l : Nat → Int) (p : Nat) : Prop := ∃ (r : Int) (S' : St), f_X8_readsStatement S = some (iI r, S') ∧ f82 S S' ∧ ((r = 1 ∧ mis l p = -9 ∧ S'.1 74 10 = iI ((p + parts (l p) + 2 : Nat) : Int) ∧ NB l p S') ∨ (r = 0 ∧ ∃ q : Nat, S'.1 74 10 = iI q ∧ mis l p = (q : Int)))
theorem RS.of {l : Nat → Int} {p d : Nat} {P : St → Prop} (hd : d = parts (l p)) (hd0 : d ≠ 0) (h6 : l p ≠ 116) (h : RD (f_X8_readsStatement S) S l d (p + 1) P) (hP : ∀ S', P S' → NB l p S') : RS S l p := by
  obtain ⟨r, S', a1, a2, a3⟩ := h
  have e : mis l p = scan l d (p + 1) := by
    unfold mis
    rw [if_neg (by omega), if_neg h6, hd]
  refine ⟨r, S', a1, a2, ?_⟩
  rw [e]
  rcases a3 with ⟨b1, b2, b3, b4⟩ | b
  · left
    exact ⟨b1, b2, by rw [b3, ← hd, show p + 1 + d + 1 = p + d + 2 by omega], hP S' b4⟩
  · exact Or.inr b
end RN
end
