section
-- ===== PART A: goes FIRST, ahead of the names: the tables' words, and 'selects' of the private methods out of them =====
/-- a private method of a class that the tables say can be made, by its rows of tables_1 -/
def lw_okq (q : MethodName × Nat) : Prop := (q.1.cls ≠ "java/lang/invoke/MethodHandle" ∧ q.1.cls ≠ "java/lang/invoke/VarHandle") ∧ Cond.instantiable q.1.cls q.2 ∈ tables_1 ∧ Cond.privateMethod q.1 ∈ tables_1 ∧ Cond.instanceMethod q.1 ∈ tables_1
theorem lw_p0 : lw_okq (⟨"GluedInLifetime", "refuse", "(I)I"⟩, 13) := ⟨⟨by decide +kernel, by decide +kernel⟩, List.mem_of_getElem? (i := 18) (by decide +kernel), List.mem_of_getElem? (i := 209) (by decide +kernel), List.mem_of_getElem? (i := 210) (by decide +kernel)⟩
theorem lw_p1 : lw_okq (⟨"GluedInLifetime$Text", "isFull", "()Z"⟩, 2) := ⟨⟨by decide +kernel, by decide +kernel⟩, List.mem_of_getElem? (i := 86) (by decide +kernel), List.mem_of_getElem? (i := 213) (by decide +kernel), List.mem_of_getElem? (i := 214) (by decide +kernel)⟩
theorem lw_p2 : lw_okq (⟨"GluedInLifetime$Text", "put", "(I)V"⟩, 2) := ⟨⟨by decide +kernel, by decide +kernel⟩, List.mem_of_getElem? (i := 86) (by decide +kernel), List.mem_of_getElem? (i := 217) (by decide +kernel), List.mem_of_getElem? (i := 218) (by decide +kernel)⟩
theorem lw_p3 : lw_okq (⟨"GluedInLifetime$Text", "firstMisfit", "()I"⟩, 2) := ⟨⟨by decide +kernel, by decide +kernel⟩, List.mem_of_getElem? (i := 86) (by decide +kernel), List.mem_of_getElem? (i := 226) (by decide +kernel), List.mem_of_getElem? (i := 227) (by decide +kernel)⟩
theorem lw_p4 : lw_okq (⟨"GluedInLifetime$Text", "misfitOfStatement", "(I)I"⟩, 2) := ⟨⟨by decide +kernel, by decide +kernel⟩, List.mem_of_getElem? (i := 86) (by decide +kernel), List.mem_of_getElem? (i := 230) (by decide +kernel), List.mem_of_getElem? (i := 231) (by decide +kernel)⟩
theorem lw_p5 : lw_okq (⟨"GluedInLifetime$Text", "partsOf", "(I)I"⟩, 2) := ⟨⟨by decide +kernel, by decide +kernel⟩, List.mem_of_getElem? (i := 86) (by decide +kernel), List.mem_of_getElem? (i := 234) (by decide +kernel), List.mem_of_getElem? (i := 235) (by decide +kernel)⟩
theorem lw_p6 : lw_okq (⟨"GluedInLifetime$Text", "letterAt", "(I)I"⟩, 2) := ⟨⟨by decide +kernel, by decide +kernel⟩, List.mem_of_getElem? (i := 86) (by decide +kernel), List.mem_of_getElem? (i := 238) (by decide +kernel), List.mem_of_getElem? (i := 239) (by decide +kernel)⟩
theorem lw_p7 : lw_okq (⟨"GluedInLifetime$Text", "kindAt", "(I)I"⟩, 2) := ⟨⟨by decide +kernel, by decide +kernel⟩, List.mem_of_getElem? (i := 86) (by decide +kernel), List.mem_of_getElem? (i := 242) (by decide +kernel), List.mem_of_getElem? (i := 243) (by decide +kernel)⟩
theorem lw_p8 : lw_okq (⟨"GluedInLifetime$Text", "isDigit", "(I)Z"⟩, 2) := ⟨⟨by decide +kernel, by decide +kernel⟩, List.mem_of_getElem? (i := 86) (by decide +kernel), List.mem_of_getElem? (i := 333) (by decide +kernel), List.mem_of_getElem? (i := 334) (by decide +kernel)⟩
theorem lw_p9 : lw_okq (⟨"GluedInLifetime$Text", "behindStatement", "(I)I"⟩, 2) := ⟨⟨by decide +kernel, by decide +kernel⟩, List.mem_of_getElem? (i := 86) (by decide +kernel), List.mem_of_getElem? (i := 337) (by decide +kernel), List.mem_of_getElem? (i := 338) (by decide +kernel)⟩
theorem lw_p10 : lw_okq (⟨"GluedInLifetime", "tellTrial", "()I"⟩, 13) := ⟨⟨by decide +kernel, by decide +kernel⟩, List.mem_of_getElem? (i := 18) (by decide +kernel), List.mem_of_getElem? (i := 341) (by decide +kernel), List.mem_of_getElem? (i := 342) (by decide +kernel)⟩
theorem lw_p11 : lw_okq (⟨"GluedInLifetime$Shop", "copyFrom", "(LGluedInLifetime$Shop;)V"⟩, 6) := ⟨⟨by decide +kernel, by decide +kernel⟩, List.mem_of_getElem? (i := 26) (by decide +kernel), List.mem_of_getElem? (i := 345) (by decide +kernel), List.mem_of_getElem? (i := 346) (by decide +kernel)⟩
theorem lw_p12 : lw_okq (⟨"GluedInLifetime$Thing", "copyFrom", "(LGluedInLifetime$Thing;)V"⟩, 4) := ⟨⟨by decide +kernel, by decide +kernel⟩, List.mem_of_getElem? (i := 33) (by decide +kernel), List.mem_of_getElem? (i := 349) (by decide +kernel), List.mem_of_getElem? (i := 350) (by decide +kernel)⟩
theorem lw_p13 : lw_okq (⟨"GluedInLifetime", "tellStatement", "(I)Z"⟩, 13) := ⟨⟨by decide +kernel, by decide +kernel⟩, List.mem_of_getElem? (i := 18) (by decide +kernel), List.mem_of_getElem? (i := 356) (by decide +kernel), List.mem_of_getElem? (i := 357) (by decide +kernel)⟩
theorem lw_p14 : lw_okq (⟨"GluedInLifetime$Text", "number", "(II)I"⟩, 2) := ⟨⟨by decide +kernel, by decide +kernel⟩, List.mem_of_getElem? (i := 86) (by decide +kernel), List.mem_of_getElem? (i := 360) (by decide +kernel), List.mem_of_getElem? (i := 361) (by decide +kernel)⟩
theorem lw_p15 : lw_okq (⟨"GluedInLifetime$Shop", "add", "(II)Z"⟩, 6) := ⟨⟨by decide +kernel, by decide +kernel⟩, List.mem_of_getElem? (i := 26) (by decide +kernel), List.mem_of_getElem? (i := 366) (by decide +kernel), List.mem_of_getElem? (i := 367) (by decide +kernel)⟩
def lw_privs_1 : List (MethodName × Nat) := [(⟨"GluedInLifetime", "refuse", "(I)I"⟩, 13), (⟨"GluedInLifetime$Text", "isFull", "()Z"⟩, 2), (⟨"GluedInLifetime$Text", "put", "(I)V"⟩, 2), (⟨"GluedInLifetime$Text", "firstMisfit", "()I"⟩, 2), (⟨"GluedInLifetime$Text", "misfitOfStatement", "(I)I"⟩, 2), (⟨"GluedInLifetime$Text", "partsOf", "(I)I"⟩, 2), (⟨"GluedInLifetime$Text", "letterAt", "(I)I"⟩, 2), (⟨"GluedInLifetime$Text", "kindAt", "(I)I"⟩, 2), (⟨"GluedInLifetime$Text", "isDigit", "(I)Z"⟩, 2), (⟨"GluedInLifetime$Text", "behindStatement", "(I)I"⟩, 2), (⟨"GluedInLifetime", "tellTrial", "()I"⟩, 13), (⟨"GluedInLifetime$Shop", "copyFrom", "(LGluedInLifetime$Shop;)V"⟩, 6), (⟨"GluedInLifetime$Thing", "copyFrom", "(LGluedInLifetime$Thing;)V"⟩, 4), (⟨"GluedInLifetime", "tellStatement", "(I)Z"⟩, 13), (⟨"GluedInLifetime$Text", "number", "(II)I"⟩, 2), (⟨"GluedInLifetime$Shop", "add", "(II)Z"⟩, 6)]
theorem lw_r1 : ∀ q ∈ lw_privs_1, lw_okq q := List.forall_mem_cons.mpr ⟨lw_p0, List.forall_mem_cons.mpr ⟨lw_p1, List.forall_mem_cons.mpr ⟨lw_p2, List.forall_mem_cons.mpr ⟨lw_p3, List.forall_mem_cons.mpr ⟨lw_p4, List.forall_mem_cons.mpr ⟨lw_p5, List.forall_mem_cons.mpr ⟨lw_p6, List.forall_mem_cons.mpr ⟨lw_p7, List.forall_mem_cons.mpr ⟨lw_p8, List.forall_mem_cons.mpr ⟨lw_p9, List.forall_mem_cons.mpr ⟨lw_p10, List.forall_mem_cons.mpr ⟨lw_p11, List.forall_mem_cons.mpr ⟨lw_p12, List.forall_mem_cons.mpr ⟨lw_p13, List.forall_mem_cons.mpr ⟨lw_p14, List.forall_mem_cons.mpr ⟨lw_p15, fun _ h => absurd h List.not_mem_nil⟩⟩⟩⟩⟩⟩⟩⟩⟩⟩⟩⟩⟩⟩⟩⟩
theorem lw_p16 : lw_okq (⟨"GluedInLifetime$Shop", "at", "(I)LGluedInLifetime$Thing;"⟩, 6) := ⟨⟨by decide +kernel, by decide +kernel⟩, List.mem_of_getElem? (i := 26) (by decide +kernel), List.mem_of_getElem? (i := 370) (by decide +kernel), List.mem_of_getElem? (i := 371) (by decide +kernel)⟩
theorem lw_p17 : lw_okq (⟨"GluedInLifetime$Thing", "begin", "(II)V"⟩, 4) := ⟨⟨by decide +kernel, by decide +kernel⟩, List.mem_of_getElem? (i := 33) (by decide +kernel), List.mem_of_getElem? (i := 374) (by decide +kernel), List.mem_of_getElem? (i := 375) (by decide +kernel)⟩
theorem lw_p18 : lw_okq (⟨"GluedInLifetime$Shop", "makeGlad", "(IIII)Z"⟩, 6) := ⟨⟨by decide +kernel, by decide +kernel⟩, List.mem_of_getElem? (i := 26) (by decide +kernel), List.mem_of_getElem? (i := 378) (by decide +kernel), List.mem_of_getElem? (i := 379) (by decide +kernel)⟩
theorem lw_p19 : lw_okq (⟨"GluedInLifetime$Shop", "lacks", "(I)Z"⟩, 6) := ⟨⟨by decide +kernel, by decide +kernel⟩, List.mem_of_getElem? (i := 26) (by decide +kernel), List.mem_of_getElem? (i := 382) (by decide +kernel), List.mem_of_getElem? (i := 383) (by decide +kernel)⟩
theorem lw_p20 : lw_okq (⟨"GluedInLifetime$Thing", "makeGlad", "(II)V"⟩, 4) := ⟨⟨by decide +kernel, by decide +kernel⟩, List.mem_of_getElem? (i := 33) (by decide +kernel), List.mem_of_getElem? (i := 389) (by decide +kernel), List.mem_of_getElem? (i := 390) (by decide +kernel)⟩
theorem lw_p21 : lw_okq (⟨"GluedInLifetime$Shop", "moveTo", "(I)Z"⟩, 6) := ⟨⟨by decide +kernel, by decide +kernel⟩, List.mem_of_getElem? (i := 26) (by decide +kernel), List.mem_of_getElem? (i := 393) (by decide +kernel), List.mem_of_getElem? (i := 394) (by decide +kernel)⟩
theorem lw_p22 : lw_okq (⟨"GluedInLifetime$Shop", "turnHalves", "(II)Z"⟩, 6) := ⟨⟨by decide +kernel, by decide +kernel⟩, List.mem_of_getElem? (i := 26) (by decide +kernel), List.mem_of_getElem? (i := 397) (by decide +kernel), List.mem_of_getElem? (i := 398) (by decide +kernel)⟩
theorem lw_p23 : lw_okq (⟨"GluedInLifetime$Shop", "lacksTwo", "(II)Z"⟩, 6) := ⟨⟨by decide +kernel, by decide +kernel⟩, List.mem_of_getElem? (i := 26) (by decide +kernel), List.mem_of_getElem? (i := 401) (by decide +kernel), List.mem_of_getElem? (i := 402) (by decide +kernel)⟩
theorem lw_p24 : lw_okq (⟨"GluedInLifetime$Shop", "glue", "(III)Z"⟩, 6) := ⟨⟨by decide +kernel, by decide +kernel⟩, List.mem_of_getElem? (i := 26) (by decide +kernel), List.mem_of_getElem? (i := 405) (by decide +kernel), List.mem_of_getElem? (i := 406) (by decide +kernel)⟩
theorem lw_p25 : lw_okq (⟨"GluedInLifetime$Thing", "isSet", "()Z"⟩, 4) := ⟨⟨by decide +kernel, by decide +kernel⟩, List.mem_of_getElem? (i := 33) (by decide +kernel), List.mem_of_getElem? (i := 409) (by decide +kernel), List.mem_of_getElem? (i := 410) (by decide +kernel)⟩
theorem lw_p26 : lw_okq (⟨"GluedInLifetime$Thing", "cost", "()I"⟩, 4) := ⟨⟨by decide +kernel, by decide +kernel⟩, List.mem_of_getElem? (i := 33) (by decide +kernel), List.mem_of_getElem? (i := 413) (by decide +kernel), List.mem_of_getElem? (i := 414) (by decide +kernel)⟩
theorem lw_p27 : lw_okq (⟨"GluedInLifetime$Thing", "yearBy", "(III)I"⟩, 4) := ⟨⟨by decide +kernel, by decide +kernel⟩, List.mem_of_getElem? (i := 33) (by decide +kernel), List.mem_of_getElem? (i := 417) (by decide +kernel), List.mem_of_getElem? (i := 418) (by decide +kernel)⟩
theorem lw_p28 : lw_okq (⟨"GluedInLifetime$Thing", "reach", "(II)I"⟩, 4) := ⟨⟨by decide +kernel, by decide +kernel⟩, List.mem_of_getElem? (i := 33) (by decide +kernel), List.mem_of_getElem? (i := 421) (by decide +kernel), List.mem_of_getElem? (i := 422) (by decide +kernel)⟩
theorem lw_p29 : lw_okq (⟨"GluedInLifetime$Thing", "counts", "(II)I"⟩, 4) := ⟨⟨by decide +kernel, by decide +kernel⟩, List.mem_of_getElem? (i := 33) (by decide +kernel), List.mem_of_getElem? (i := 426) (by decide +kernel), List.mem_of_getElem? (i := 427) (by decide +kernel)⟩
theorem lw_p30 : lw_okq (⟨"GluedInLifetime$Thing", "gladIn", "(I)I"⟩, 4) := ⟨⟨by decide +kernel, by decide +kernel⟩, List.mem_of_getElem? (i := 33) (by decide +kernel), List.mem_of_getElem? (i := 430) (by decide +kernel), List.mem_of_getElem? (i := 431) (by decide +kernel)⟩
theorem lw_p31 : lw_okq (⟨"GluedInLifetime$Thing", "howGlad", "(I)I"⟩, 4) := ⟨⟨by decide +kernel, by decide +kernel⟩, List.mem_of_getElem? (i := 33) (by decide +kernel), List.mem_of_getElem? (i := 442) (by decide +kernel), List.mem_of_getElem? (i := 443) (by decide +kernel)⟩
def lw_privs_2 : List (MethodName × Nat) := [(⟨"GluedInLifetime$Shop", "at", "(I)LGluedInLifetime$Thing;"⟩, 6), (⟨"GluedInLifetime$Thing", "begin", "(II)V"⟩, 4), (⟨"GluedInLifetime$Shop", "makeGlad", "(IIII)Z"⟩, 6), (⟨"GluedInLifetime$Shop", "lacks", "(I)Z"⟩, 6), (⟨"GluedInLifetime$Thing", "makeGlad", "(II)V"⟩, 4), (⟨"GluedInLifetime$Shop", "moveTo", "(I)Z"⟩, 6), (⟨"GluedInLifetime$Shop", "turnHalves", "(II)Z"⟩, 6), (⟨"GluedInLifetime$Shop", "lacksTwo", "(II)Z"⟩, 6), (⟨"GluedInLifetime$Shop", "glue", "(III)Z"⟩, 6), (⟨"GluedInLifetime$Thing", "isSet", "()Z"⟩, 4), (⟨"GluedInLifetime$Thing", "cost", "()I"⟩, 4), (⟨"GluedInLifetime$Thing", "yearBy", "(III)I"⟩, 4), (⟨"GluedInLifetime$Thing", "reach", "(II)I"⟩, 4), (⟨"GluedInLifetime$Thing", "counts", "(II)I"⟩, 4), (⟨"GluedInLifetime$Thing", "gladIn", "(I)I"⟩, 4), (⟨"GluedInLifetime$Thing", "howGlad", "(I)I"⟩, 4)]
theorem lw_r2 : ∀ q ∈ lw_privs_2, lw_okq q := List.forall_mem_cons.mpr ⟨lw_p16, List.forall_mem_cons.mpr ⟨lw_p17, List.forall_mem_cons.mpr ⟨lw_p18, List.forall_mem_cons.mpr ⟨lw_p19, List.forall_mem_cons.mpr ⟨lw_p20, List.forall_mem_cons.mpr ⟨lw_p21, List.forall_mem_cons.mpr ⟨lw_p22, List.forall_mem_cons.mpr ⟨lw_p23, List.forall_mem_cons.mpr ⟨lw_p24, List.forall_mem_cons.mpr ⟨lw_p25, List.forall_mem_cons.mpr ⟨lw_p26, List.forall_mem_cons.mpr ⟨lw_p27, List.forall_mem_cons.mpr ⟨lw_p28, List.forall_mem_cons.mpr ⟨lw_p29, List.forall_mem_cons.mpr ⟨lw_p30, List.forall_mem_cons.mpr ⟨lw_p31, fun _ h => absurd h List.not_mem_nil⟩⟩⟩⟩⟩⟩⟩⟩⟩⟩⟩⟩⟩⟩⟩⟩
theorem lw_p32 : lw_okq (⟨"GluedInLifetime$Shop", "areHalves", "(II)Z"⟩, 6) := ⟨⟨by decide +kernel, by decide +kernel⟩, List.mem_of_getElem? (i := 26) (by decide +kernel), List.mem_of_getElem? (i := 459) (by decide +kernel), List.mem_of_getElem? (i := 460) (by decide +kernel)⟩
theorem lw_p33 : lw_okq (⟨"GluedInLifetime", "heldRefusal", "(III)I"⟩, 13) := ⟨⟨by decide +kernel, by decide +kernel⟩, List.mem_of_getElem? (i := 18) (by decide +kernel), List.mem_of_getElem? (i := 495) (by decide +kernel), List.mem_of_getElem? (i := 496) (by decide +kernel)⟩
theorem lw_p34 : lw_okq (⟨"GluedInLifetime$Thing", "fewestFor", "(II)I"⟩, 4) := ⟨⟨by decide +kernel, by decide +kernel⟩, List.mem_of_getElem? (i := 33) (by decide +kernel), List.mem_of_getElem? (i := 518) (by decide +kernel), List.mem_of_getElem? (i := 519) (by decide +kernel)⟩
theorem lw_p35 : lw_okq (⟨"GluedInLifetime$Shop", "gladTogether", "(I)I"⟩, 6) := ⟨⟨by decide +kernel, by decide +kernel⟩, List.mem_of_getElem? (i := 26) (by decide +kernel), List.mem_of_getElem? (i := 527) (by decide +kernel), List.mem_of_getElem? (i := 528) (by decide +kernel)⟩
theorem lw_p36 : lw_okq (⟨"GluedInLifetime$Shop", "countAgreeing", "()I"⟩, 6) := ⟨⟨by decide +kernel, by decide +kernel⟩, List.mem_of_getElem? (i := 26) (by decide +kernel), List.mem_of_getElem? (i := 539) (by decide +kernel), List.mem_of_getElem? (i := 540) (by decide +kernel)⟩
theorem lw_p37 : lw_okq (⟨"GluedInLifetime$Shop", "setInOneYear", "(II)Z"⟩, 6) := ⟨⟨by decide +kernel, by decide +kernel⟩, List.mem_of_getElem? (i := 26) (by decide +kernel), List.mem_of_getElem? (i := 544) (by decide +kernel), List.mem_of_getElem? (i := 545) (by decide +kernel)⟩
theorem lw_p38 : lw_okq (⟨"GluedInLifetime$Shop", "firstApart", "()I"⟩, 6) := ⟨⟨by decide +kernel, by decide +kernel⟩, List.mem_of_getElem? (i := 26) (by decide +kernel), List.mem_of_getElem? (i := 548) (by decide +kernel), List.mem_of_getElem? (i := 549) (by decide +kernel)⟩
theorem lw_p39 : lw_okq (⟨"GluedInLifetime$Pot", "weigh", "(LGluedInLifetime$Shop;I)V"⟩, 5) := ⟨⟨by decide +kernel, by decide +kernel⟩, List.mem_of_getElem? (i := 114) (by decide +kernel), List.mem_of_getElem? (i := 556) (by decide +kernel), List.mem_of_getElem? (i := 557) (by decide +kernel)⟩
theorem lw_p40 : lw_okq (⟨"GluedInLifetime$Shop", "setBits", "()I"⟩, 6) := ⟨⟨by decide +kernel, by decide +kernel⟩, List.mem_of_getElem? (i := 26) (by decide +kernel), List.mem_of_getElem? (i := 560) (by decide +kernel), List.mem_of_getElem? (i := 561) (by decide +kernel)⟩
theorem lw_p41 : lw_okq (⟨"GluedInLifetime$Thing", "gladdestBy", "(I)I"⟩, 4) := ⟨⟨by decide +kernel, by decide +kernel⟩, List.mem_of_getElem? (i := 33) (by decide +kernel), List.mem_of_getElem? (i := 566) (by decide +kernel), List.mem_of_getElem? (i := 567) (by decide +kernel)⟩
theorem lw_p42 : lw_okq (⟨"GluedInLifetime$Pot", "bestBits", "(I)I"⟩, 5) := ⟨⟨by decide +kernel, by decide +kernel⟩, List.mem_of_getElem? (i := 114) (by decide +kernel), List.mem_of_getElem? (i := 572) (by decide +kernel), List.mem_of_getElem? (i := 573) (by decide +kernel)⟩
theorem lw_p43 : lw_okq (⟨"GluedInLifetime$Pot", "gainOf", "(I)I"⟩, 5) := ⟨⟨by decide +kernel, by decide +kernel⟩, List.mem_of_getElem? (i := 114) (by decide +kernel), List.mem_of_getElem? (i := 576) (by decide +kernel), List.mem_of_getElem? (i := 577) (by decide +kernel)⟩
theorem lw_p44 : lw_okq (⟨"GluedInLifetime", "spendSteps", "(LGluedInLifetime$Thing;)V"⟩, 13) := ⟨⟨by decide +kernel, by decide +kernel⟩, List.mem_of_getElem? (i := 18) (by decide +kernel), List.mem_of_getElem? (i := 588) (by decide +kernel), List.mem_of_getElem? (i := 589) (by decide +kernel)⟩
theorem lw_p45 : lw_okq (⟨"GluedInLifetime$Pot", "fewestFor", "(I)I"⟩, 5) := ⟨⟨by decide +kernel, by decide +kernel⟩, List.mem_of_getElem? (i := 114) (by decide +kernel), List.mem_of_getElem? (i := 597) (by decide +kernel), List.mem_of_getElem? (i := 598) (by decide +kernel)⟩
theorem lw_p46 : lw_okq (⟨"GluedInLifetime", "minutesOfBoth", "(LGluedInLifetime$Thing;LGluedInLifetime$Thing;I)I"⟩, 13) := ⟨⟨by decide +kernel, by decide +kernel⟩, List.mem_of_getElem? (i := 18) (by decide +kernel), List.mem_of_getElem? (i := 606) (by decide +kernel), List.mem_of_getElem? (i := 607) (by decide +kernel)⟩
theorem lw_p47 : lw_okq (⟨"GluedInLifetime$Line", "arrange", "(LGluedInLifetime$Shop;)V"⟩, 3) := ⟨⟨by decide +kernel, by decide +kernel⟩, List.mem_of_getElem? (i := 137) (by decide +kernel), List.mem_of_getElem? (i := 614) (by decide +kernel), List.mem_of_getElem? (i := 615) (by decide +kernel)⟩
def lw_privs_3 : List (MethodName × Nat) := [(⟨"GluedInLifetime$Shop", "areHalves", "(II)Z"⟩, 6), (⟨"GluedInLifetime", "heldRefusal", "(III)I"⟩, 13), (⟨"GluedInLifetime$Thing", "fewestFor", "(II)I"⟩, 4), (⟨"GluedInLifetime$Shop", "gladTogether", "(I)I"⟩, 6), (⟨"GluedInLifetime$Shop", "countAgreeing", "()I"⟩, 6), (⟨"GluedInLifetime$Shop", "setInOneYear", "(II)Z"⟩, 6), (⟨"GluedInLifetime$Shop", "firstApart", "()I"⟩, 6), (⟨"GluedInLifetime$Pot", "weigh", "(LGluedInLifetime$Shop;I)V"⟩, 5), (⟨"GluedInLifetime$Shop", "setBits", "()I"⟩, 6), (⟨"GluedInLifetime$Thing", "gladdestBy", "(I)I"⟩, 4), (⟨"GluedInLifetime$Pot", "bestBits", "(I)I"⟩, 5), (⟨"GluedInLifetime$Pot", "gainOf", "(I)I"⟩, 5), (⟨"GluedInLifetime", "spendSteps", "(LGluedInLifetime$Thing;)V"⟩, 13), (⟨"GluedInLifetime$Pot", "fewestFor", "(I)I"⟩, 5), (⟨"GluedInLifetime", "minutesOfBoth", "(LGluedInLifetime$Thing;LGluedInLifetime$Thing;I)I"⟩, 13), (⟨"GluedInLifetime$Line", "arrange", "(LGluedInLifetime$Shop;)V"⟩, 3)]
theorem lw_r3 : ∀ q ∈ lw_privs_3, lw_okq q := List.forall_mem_cons.mpr ⟨lw_p32, List.forall_mem_cons.mpr ⟨lw_p33, List.forall_mem_cons.mpr ⟨lw_p34, List.forall_mem_cons.mpr ⟨lw_p35, List.forall_mem_cons.mpr ⟨lw_p36, List.forall_mem_cons.mpr ⟨lw_p37, List.forall_mem_cons.mpr ⟨lw_p38, List.forall_mem_cons.mpr ⟨lw_p39, List.forall_mem_cons.mpr ⟨lw_p40, List.forall_mem_cons.mpr ⟨lw_p41, List.forall_mem_cons.mpr ⟨lw_p42, List.forall_mem_cons.mpr ⟨lw_p43, List.forall_mem_cons.mpr ⟨lw_p44, List.forall_mem_cons.mpr ⟨lw_p45, List.forall_mem_cons.mpr ⟨lw_p46, List.forall_mem_cons.mpr ⟨lw_p47, fun _ h => absurd h List.not_mem_nil⟩⟩⟩⟩⟩⟩⟩⟩⟩⟩⟩⟩⟩⟩⟩⟩
theorem lw_p48 : lw_okq (⟨"GluedInLifetime$Thing", "gladdestYear", "(I)I"⟩, 4) := ⟨⟨by decide +kernel, by decide +kernel⟩, List.mem_of_getElem? (i := 33) (by decide +kernel), List.mem_of_getElem? (i := 620) (by decide +kernel), List.mem_of_getElem? (i := 621) (by decide +kernel)⟩
theorem lw_p49 : lw_okq (⟨"GluedInLifetime$Line", "begin", "(II)I"⟩, 3) := ⟨⟨by decide +kernel, by decide +kernel⟩, List.mem_of_getElem? (i := 137) (by decide +kernel), List.mem_of_getElem? (i := 625) (by decide +kernel), List.mem_of_getElem? (i := 626) (by decide +kernel)⟩
theorem lw_p50 : lw_okq (⟨"GluedInLifetime$Line", "beginOf", "(I)I"⟩, 3) := ⟨⟨by decide +kernel, by decide +kernel⟩, List.mem_of_getElem? (i := 137) (by decide +kernel), List.mem_of_getElem? (i := 630) (by decide +kernel), List.mem_of_getElem? (i := 631) (by decide +kernel)⟩
theorem lw_p51 : lw_okq (⟨"GluedInLifetime$Thing", "moreIfWashed", "(I)I"⟩, 4) := ⟨⟨by decide +kernel, by decide +kernel⟩, List.mem_of_getElem? (i := 33) (by decide +kernel), List.mem_of_getElem? (i := 648) (by decide +kernel), List.mem_of_getElem? (i := 649) (by decide +kernel)⟩
theorem lw_p52 : lw_okq (⟨"GluedInLifetime", "bothContent", "(LGluedInLifetime$Thing;III)Z"⟩, 13) := ⟨⟨by decide +kernel, by decide +kernel⟩, List.mem_of_getElem? (i := 18) (by decide +kernel), List.mem_of_getElem? (i := 670) (by decide +kernel), List.mem_of_getElem? (i := 671) (by decide +kernel)⟩
theorem lw_p53 : lw_okq (⟨"GluedInLifetime$Slips", "weigh", "(II)V"⟩, 1) := ⟨⟨by decide +kernel, by decide +kernel⟩, List.mem_of_getElem? (i := 154) (by decide +kernel), List.mem_of_getElem? (i := 682) (by decide +kernel), List.mem_of_getElem? (i := 683) (by decide +kernel)⟩
theorem lw_p54 : lw_okq (⟨"GluedInLifetime$Slips", "waysInto", "(LGluedInLifetime$Thing;II)J"⟩, 1) := ⟨⟨by decide +kernel, by decide +kernel⟩, List.mem_of_getElem? (i := 154) (by decide +kernel), List.mem_of_getElem? (i := 686) (by decide +kernel), List.mem_of_getElem? (i := 687) (by decide +kernel)⟩
theorem lw_p55 : lw_okq (⟨"GluedInLifetime$Slips", "allWays", "()J"⟩, 1) := ⟨⟨by decide +kernel, by decide +kernel⟩, List.mem_of_getElem? (i := 154) (by decide +kernel), List.mem_of_getElem? (i := 691) (by decide +kernel), List.mem_of_getElem? (i := 692) (by decide +kernel)⟩
theorem lw_p56 : lw_okq (⟨"GluedInLifetime$Slips", "gladOfAll", "(LGluedInLifetime$Thing;I)J"⟩, 1) := ⟨⟨by decide +kernel, by decide +kernel⟩, List.mem_of_getElem? (i := 154) (by decide +kernel), List.mem_of_getElem? (i := 705) (by decide +kernel), List.mem_of_getElem? (i := 706) (by decide +kernel)⟩
theorem lw_p57 : lw_okq (⟨"GluedInLifetime$Row", "tellsYearsOf", "(LGluedInLifetime$Thing;I)Z"⟩, 2) := ⟨⟨by decide +kernel, by decide +kernel⟩, List.mem_of_getElem? (i := 100) (by decide +kernel), List.mem_of_getElem? (i := 715) (by decide +kernel), List.mem_of_getElem? (i := 716) (by decide +kernel)⟩
theorem lw_p58 : lw_okq (⟨"GluedInLifetime$Row", "isFull", "()Z"⟩, 2) := ⟨⟨by decide +kernel, by decide +kernel⟩, List.mem_of_getElem? (i := 100) (by decide +kernel), List.mem_of_getElem? (i := 728) (by decide +kernel), List.mem_of_getElem? (i := 729) (by decide +kernel)⟩
theorem lw_p59 : lw_okq (⟨"GluedInLifetime$Row", "put", "(I)V"⟩, 2) := ⟨⟨by decide +kernel, by decide +kernel⟩, List.mem_of_getElem? (i := 100) (by decide +kernel), List.mem_of_getElem? (i := 732) (by decide +kernel), List.mem_of_getElem? (i := 733) (by decide +kernel)⟩
theorem lw_p60 : lw_okq (⟨"GluedInLifetime$Row", "firstNotGladOf", "(LGluedInLifetime$Thing;)I"⟩, 2) := ⟨⟨by decide +kernel, by decide +kernel⟩, List.mem_of_getElem? (i := 100) (by decide +kernel), List.mem_of_getElem? (i := 741) (by decide +kernel), List.mem_of_getElem? (i := 742) (by decide +kernel)⟩
theorem lw_p61 : lw_okq (⟨"GluedInLifetime", "glueByLot", "()V"⟩, 13) := ⟨⟨by decide +kernel, by decide +kernel⟩, List.mem_of_getElem? (i := 18) (by decide +kernel), List.mem_of_getElem? (i := 755) (by decide +kernel), List.mem_of_getElem? (i := 756) (by decide +kernel)⟩
theorem lw_p62 : lw_okq (⟨"GluedInLifetime", "draw", "(I)I"⟩, 13) := ⟨⟨by decide +kernel, by decide +kernel⟩, List.mem_of_getElem? (i := 18) (by decide +kernel), List.mem_of_getElem? (i := 759) (by decide +kernel), List.mem_of_getElem? (i := 760) (by decide +kernel)⟩
theorem lw_p63 : lw_okq (⟨"GluedInLifetime$Shop", "countHalves", "()I"⟩, 6) := ⟨⟨by decide +kernel, by decide +kernel⟩, List.mem_of_getElem? (i := 26) (by decide +kernel), List.mem_of_getElem? (i := 779) (by decide +kernel), List.mem_of_getElem? (i := 780) (by decide +kernel)⟩
def lw_privs_4 : List (MethodName × Nat) := [(⟨"GluedInLifetime$Thing", "gladdestYear", "(I)I"⟩, 4), (⟨"GluedInLifetime$Line", "begin", "(II)I"⟩, 3), (⟨"GluedInLifetime$Line", "beginOf", "(I)I"⟩, 3), (⟨"GluedInLifetime$Thing", "moreIfWashed", "(I)I"⟩, 4), (⟨"GluedInLifetime", "bothContent", "(LGluedInLifetime$Thing;III)Z"⟩, 13), (⟨"GluedInLifetime$Slips", "weigh", "(II)V"⟩, 1), (⟨"GluedInLifetime$Slips", "waysInto", "(LGluedInLifetime$Thing;II)J"⟩, 1), (⟨"GluedInLifetime$Slips", "allWays", "()J"⟩, 1), (⟨"GluedInLifetime$Slips", "gladOfAll", "(LGluedInLifetime$Thing;I)J"⟩, 1), (⟨"GluedInLifetime$Row", "tellsYearsOf", "(LGluedInLifetime$Thing;I)Z"⟩, 2), (⟨"GluedInLifetime$Row", "isFull", "()Z"⟩, 2), (⟨"GluedInLifetime$Row", "put", "(I)V"⟩, 2), (⟨"GluedInLifetime$Row", "firstNotGladOf", "(LGluedInLifetime$Thing;)I"⟩, 2), (⟨"GluedInLifetime", "glueByLot", "()V"⟩, 13), (⟨"GluedInLifetime", "draw", "(I)I"⟩, 13), (⟨"GluedInLifetime$Shop", "countHalves", "()I"⟩, 6)]
theorem lw_r4 : ∀ q ∈ lw_privs_4, lw_okq q := List.forall_mem_cons.mpr ⟨lw_p48, List.forall_mem_cons.mpr ⟨lw_p49, List.forall_mem_cons.mpr ⟨lw_p50, List.forall_mem_cons.mpr ⟨lw_p51, List.forall_mem_cons.mpr ⟨lw_p52, List.forall_mem_cons.mpr ⟨lw_p53, List.forall_mem_cons.mpr ⟨lw_p54, List.forall_mem_cons.mpr ⟨lw_p55, List.forall_mem_cons.mpr ⟨lw_p56, List.forall_mem_cons.mpr ⟨lw_p57, List.forall_mem_cons.mpr ⟨lw_p58, List.forall_mem_cons.mpr ⟨lw_p59, List.forall_mem_cons.mpr ⟨lw_p60, List.forall_mem_cons.mpr ⟨lw_p61, List.forall_mem_cons.mpr ⟨lw_p62, List.forall_mem_cons.mpr ⟨lw_p63, fun _ h => absurd h List.not_mem_nil⟩⟩⟩⟩⟩⟩⟩⟩⟩⟩⟩⟩⟩⟩⟩⟩
theorem lw_p64 : lw_okq (⟨"GluedInLifetimeModel", "no", "(I)I"⟩, 16) := ⟨⟨by decide +kernel, by decide +kernel⟩, List.mem_of_getElem? (i := 783) (by decide +kernel), List.mem_of_getElem? (i := 842) (by decide +kernel), List.mem_of_getElem? (i := 843) (by decide +kernel)⟩
theorem lw_p65 : lw_okq (⟨"GluedInLifetimeModel", "readsStatement", "()Z"⟩, 16) := ⟨⟨by decide +kernel, by decide +kernel⟩, List.mem_of_getElem? (i := 783) (by decide +kernel), List.mem_of_getElem? (i := 850) (by decide +kernel), List.mem_of_getElem? (i := 851) (by decide +kernel)⟩
theorem lw_p66 : lw_okq (⟨"GluedInLifetimeModel", "here", "()I"⟩, 16) := ⟨⟨by decide +kernel, by decide +kernel⟩, List.mem_of_getElem? (i := 783) (by decide +kernel), List.mem_of_getElem? (i := 854) (by decide +kernel), List.mem_of_getElem? (i := 855) (by decide +kernel)⟩
theorem lw_p67 : lw_okq (⟨"GluedInLifetimeModel", "readsKind", "()Z"⟩, 16) := ⟨⟨by decide +kernel, by decide +kernel⟩, List.mem_of_getElem? (i := 783) (by decide +kernel), List.mem_of_getElem? (i := 858) (by decide +kernel), List.mem_of_getElem? (i := 859) (by decide +kernel)⟩
theorem lw_p68 : lw_okq (⟨"GluedInLifetimeModel", "readsNumber", "(II)Z"⟩, 16) := ⟨⟨by decide +kernel, by decide +kernel⟩, List.mem_of_getElem? (i := 783) (by decide +kernel), List.mem_of_getElem? (i := 865) (by decide +kernel), List.mem_of_getElem? (i := 866) (by decide +kernel)⟩
theorem lw_p69 : lw_okq (⟨"GluedInLifetimeModel", "isDone", "(I)Z"⟩, 16) := ⟨⟨by decide +kernel, by decide +kernel⟩, List.mem_of_getElem? (i := 783) (by decide +kernel), List.mem_of_getElem? (i := 875) (by decide +kernel), List.mem_of_getElem? (i := 876) (by decide +kernel)⟩
theorem lw_p70 : lw_okq (⟨"GluedInLifetimeModel", "isThing", "(I)Z"⟩, 16) := ⟨⟨by decide +kernel, by decide +kernel⟩, List.mem_of_getElem? (i := 783) (by decide +kernel), List.mem_of_getElem? (i := 882) (by decide +kernel), List.mem_of_getElem? (i := 883) (by decide +kernel)⟩
theorem lw_p71 : lw_okq (⟨"GluedInLifetimeModel", "turnsHalves", "(II)V"⟩, 16) := ⟨⟨by decide +kernel, by decide +kernel⟩, List.mem_of_getElem? (i := 783) (by decide +kernel), List.mem_of_getElem? (i := 889) (by decide +kernel), List.mem_of_getElem? (i := 890) (by decide +kernel)⟩
theorem lw_p72 : lw_okq (⟨"GluedInLifetimeModel", "canGlue", "(I)Z"⟩, 16) := ⟨⟨by decide +kernel, by decide +kernel⟩, List.mem_of_getElem? (i := 783) (by decide +kernel), List.mem_of_getElem? (i := 893) (by decide +kernel), List.mem_of_getElem? (i := 894) (by decide +kernel)⟩
theorem lw_p73 : lw_okq (⟨"GluedInLifetimeModel", "gluesTo", "(III)I"⟩, 16) := ⟨⟨by decide +kernel, by decide +kernel⟩, List.mem_of_getElem? (i := 783) (by decide +kernel), List.mem_of_getElem? (i := 900) (by decide +kernel), List.mem_of_getElem? (i := 901) (by decide +kernel)⟩
theorem lw_p74 : lw_okq (⟨"GluedInLifetimeModel", "areTwo", "(II)Z"⟩, 16) := ⟨⟨by decide +kernel, by decide +kernel⟩, List.mem_of_getElem? (i := 783) (by decide +kernel), List.mem_of_getElem? (i := 934) (by decide +kernel), List.mem_of_getElem? (i := 935) (by decide +kernel)⟩
theorem lw_p75 : lw_okq (⟨"GluedInLifetimeModel", "wrongGlue", "(III)I"⟩, 16) := ⟨⟨by decide +kernel, by decide +kernel⟩, List.mem_of_getElem? (i := 783) (by decide +kernel), List.mem_of_getElem? (i := 966) (by decide +kernel), List.mem_of_getElem? (i := 967) (by decide +kernel)⟩
theorem lw_p76 : lw_okq (⟨"GluedInLifetimeModel", "agreeMany", "([I)I"⟩, 16) := ⟨⟨by decide +kernel, by decide +kernel⟩, List.mem_of_getElem? (i := 783) (by decide +kernel), List.mem_of_getElem? (i := 1003) (by decide +kernel), List.mem_of_getElem? (i := 1004) (by decide +kernel)⟩
theorem lw_p77 : lw_okq (⟨"GluedInLifetimeModel", "doAgree", "([III)Z"⟩, 16) := ⟨⟨by decide +kernel, by decide +kernel⟩, List.mem_of_getElem? (i := 783) (by decide +kernel), List.mem_of_getElem? (i := 1007) (by decide +kernel), List.mem_of_getElem? (i := 1008) (by decide +kernel)⟩
theorem lw_p78 : lw_okq (⟨"GluedInLifetimeModel", "mostBy", "([II)I"⟩, 16) := ⟨⟨by decide +kernel, by decide +kernel⟩, List.mem_of_getElem? (i := 783) (by decide +kernel), List.mem_of_getElem? (i := 1015) (by decide +kernel), List.mem_of_getElem? (i := 1016) (by decide +kernel)⟩
theorem lw_p79 : lw_okq (⟨"GluedInLifetimeModel", "gladdest", "(I)I"⟩, 16) := ⟨⟨by decide +kernel, by decide +kernel⟩, List.mem_of_getElem? (i := 783) (by decide +kernel), List.mem_of_getElem? (i := 1036) (by decide +kernel), List.mem_of_getElem? (i := 1037) (by decide +kernel)⟩
def lw_privs_5 : List (MethodName × Nat) := [(⟨"GluedInLifetimeModel", "no", "(I)I"⟩, 16), (⟨"GluedInLifetimeModel", "readsStatement", "()Z"⟩, 16), (⟨"GluedInLifetimeModel", "here", "()I"⟩, 16), (⟨"GluedInLifetimeModel", "readsKind", "()Z"⟩, 16), (⟨"GluedInLifetimeModel", "readsNumber", "(II)Z"⟩, 16), (⟨"GluedInLifetimeModel", "isDone", "(I)Z"⟩, 16), (⟨"GluedInLifetimeModel", "isThing", "(I)Z"⟩, 16), (⟨"GluedInLifetimeModel", "turnsHalves", "(II)V"⟩, 16), (⟨"GluedInLifetimeModel", "canGlue", "(I)Z"⟩, 16), (⟨"GluedInLifetimeModel", "gluesTo", "(III)I"⟩, 16), (⟨"GluedInLifetimeModel", "areTwo", "(II)Z"⟩, 16), (⟨"GluedInLifetimeModel", "wrongGlue", "(III)I"⟩, 16), (⟨"GluedInLifetimeModel", "agreeMany", "([I)I"⟩, 16), (⟨"GluedInLifetimeModel", "doAgree", "([III)Z"⟩, 16), (⟨"GluedInLifetimeModel", "mostBy", "([II)I"⟩, 16), (⟨"GluedInLifetimeModel", "gladdest", "(I)I"⟩, 16)]
theorem lw_r5 : ∀ q ∈ lw_privs_5, lw_okq q := List.forall_mem_cons.mpr ⟨lw_p64, List.forall_mem_cons.mpr ⟨lw_p65, List.forall_mem_cons.mpr ⟨lw_p66, List.forall_mem_cons.mpr ⟨lw_p67, List.forall_mem_cons.mpr ⟨lw_p68, List.forall_mem_cons.mpr ⟨lw_p69, List.forall_mem_cons.mpr ⟨lw_p70, List.forall_mem_cons.mpr ⟨lw_p71, List.forall_mem_cons.mpr ⟨lw_p72, List.forall_mem_cons.mpr ⟨lw_p73, List.forall_mem_cons.mpr ⟨lw_p74, List.forall_mem_cons.mpr ⟨lw_p75, List.forall_mem_cons.mpr ⟨lw_p76, List.forall_mem_cons.mpr ⟨lw_p77, List.forall_mem_cons.mpr ⟨lw_p78, List.forall_mem_cons.mpr ⟨lw_p79, fun _ h => absurd h List.not_mem_nil⟩⟩⟩⟩⟩⟩⟩⟩⟩⟩⟩⟩⟩⟩⟩⟩
theorem lw_p80 : lw_okq (⟨"GluedInLifetimeModel", "noFar", "(I)I"⟩, 16) := ⟨⟨by decide +kernel, by decide +kernel⟩, List.mem_of_getElem? (i := 783) (by decide +kernel), List.mem_of_getElem? (i := 1055) (by decide +kernel), List.mem_of_getElem? (i := 1056) (by decide +kernel)⟩
theorem lw_p81 : lw_okq (⟨"GluedInLifetimeModel", "waterOf", "(I)I"⟩, 16) := ⟨⟨by decide +kernel, by decide +kernel⟩, List.mem_of_getElem? (i := 783) (by decide +kernel), List.mem_of_getElem? (i := 1059) (by decide +kernel), List.mem_of_getElem? (i := 1060) (by decide +kernel)⟩
theorem lw_p82 : lw_okq (⟨"GluedInLifetimeModel", "noWide", "(I)J"⟩, 16) := ⟨⟨by decide +kernel, by decide +kernel⟩, List.mem_of_getElem? (i := 783) (by decide +kernel), List.mem_of_getElem? (i := 1083) (by decide +kernel), List.mem_of_getElem? (i := 1084) (by decide +kernel)⟩
theorem lw_p83 : lw_okq (⟨"GluedInLifetimeModel", "slips", "(IIII)J"⟩, 16) := ⟨⟨by decide +kernel, by decide +kernel⟩, List.mem_of_getElem? (i := 783) (by decide +kernel), List.mem_of_getElem? (i := 1088) (by decide +kernel), List.mem_of_getElem? (i := 1089) (by decide +kernel)⟩
theorem lw_p84 : lw_okq (⟨"GluedInLifetimeModel", "drawn", "(I)I"⟩, 16) := ⟨⟨by decide +kernel, by decide +kernel⟩, List.mem_of_getElem? (i := 783) (by decide +kernel), List.mem_of_getElem? (i := 1132) (by decide +kernel), List.mem_of_getElem? (i := 1133) (by decide +kernel)⟩
def lw_privs_6 : List (MethodName × Nat) := [(⟨"GluedInLifetimeModel", "noFar", "(I)I"⟩, 16), (⟨"GluedInLifetimeModel", "waterOf", "(I)I"⟩, 16), (⟨"GluedInLifetimeModel", "noWide", "(I)J"⟩, 16), (⟨"GluedInLifetimeModel", "slips", "(IIII)J"⟩, 16), (⟨"GluedInLifetimeModel", "drawn", "(I)I"⟩, 16)]
theorem lw_r6 : ∀ q ∈ lw_privs_6, lw_okq q := List.forall_mem_cons.mpr ⟨lw_p80, List.forall_mem_cons.mpr ⟨lw_p81, List.forall_mem_cons.mpr ⟨lw_p82, List.forall_mem_cons.mpr ⟨lw_p83, List.forall_mem_cons.mpr ⟨lw_p84, fun _ h => absurd h List.not_mem_nil⟩⟩⟩⟩⟩
def lw_privs : List (MethodName × Nat) := lw_privs_1 ++ (lw_privs_2 ++ (lw_privs_3 ++ (lw_privs_4 ++ (lw_privs_5 ++ (lw_privs_6)))))
def lw_tbl : List Cond := k2_sels lw_privs ++ tables_1
theorem lw_privs_ok : ∀ q ∈ lw_privs, lw_okq q := by
  show ∀ q ∈ lw_privs_1 ++ (lw_privs_2 ++ (lw_privs_3 ++ (lw_privs_4 ++ (lw_privs_5 ++ (lw_privs_6))))), lw_okq q
  exact List.forall_mem_append.mpr ⟨lw_r1, List.forall_mem_append.mpr ⟨lw_r2, List.forall_mem_append.mpr ⟨lw_r3, List.forall_mem_append.mpr ⟨lw_r4, List.forall_mem_append.mpr ⟨lw_r5, lw_r6⟩⟩⟩⟩⟩
end
section
def RX0 : String := "GluedInLifetime$Line"
def TX0 : u_T := fun k => match k with
  | 0 => ("GluedInLifetime$Line", "begins", "[I", true)
  | 1 => ("GluedInLifetime$Line", "free", "[I", true)
  | _ => ("GluedInLifetime$Line", "done", "I", false)
def tyX0 : Nat → FieldType := fun k => match k with
  | 0 => .array .int
  | 1 => .array .int
  | _ => .int
abbrev wsX00 : List Cond := u_ws RX0 TX0 3
theorem nmX0 : ∀ a, a < 3 → ∀ b, b < 3 → a ≠ b → (TX0 a).2.1 ≠ (TX0 b).2.1 := by decide +kernel
theorem tyX0_ok : ∀ k, k < 3 → parseFieldDescriptor (TX0 k).2.2.1 = some (tyX0 k) := by decide +kernel
abbrev cX0_init : ByteArray := prog_2_method_1_code
def yX0_init : MethodName := ⟨RX0, "<init>", "()V"⟩
abbrev cX0_arrange : ByteArray := prog_2_method_2_code
def yX0_arrange : MethodName := ⟨RX0, "arrange", "(LGluedInLifetime$Shop;)V"⟩
abbrev cX0_begin : ByteArray := prog_2_method_3_code
def yX0_begin : MethodName := ⟨RX0, "begin", "(II)I"⟩
abbrev cX0_beginOf : ByteArray := prog_2_method_4_code
def yX0_beginOf : MethodName := ⟨RX0, "beginOf", "(I)I"⟩
def RX1 : String := "GluedInLifetime$Pot"
def TX1 : u_T := fun k => match k with
  | 0 => ("GluedInLifetime$Pot", "gains", "[I", true)
  | 1 => ("GluedInLifetime$Pot", "costs", "[I", true)
  | 2 => ("GluedInLifetime$Pot", "barred", "I", false)
  | 3 => ("GluedInLifetime$Pot", "ends", "I", false)
  | _ => ("GluedInLifetime$Pot", "left", "I", false)
def tyX1 : Nat → FieldType := fun k => match k with
  | 0 => .array .int
  | 1 => .array .int
  | 2 => .int
  | 3 => .int
  | _ => .int
abbrev wsX10 : List Cond := u_ws RX1 TX1 5
theorem nmX1 : ∀ a, a < 5 → ∀ b, b < 5 → a ≠ b → (TX1 a).2.1 ≠ (TX1 b).2.1 := by decide +kernel
theorem tyX1_ok : ∀ k, k < 5 → parseFieldDescriptor (TX1 k).2.2.1 = some (tyX1 k) := by decide +kernel
abbrev cX1_init : ByteArray := prog_3_method_1_code
def yX1_init : MethodName := ⟨RX1, "<init>", "()V"⟩
abbrev cX1_weigh : ByteArray := prog_3_method_2_code
def yX1_weigh : MethodName := ⟨RX1, "weigh", "(LGluedInLifetime$Shop;I)V"⟩
abbrev cX1_gainOf : ByteArray := prog_3_method_3_code
def yX1_gainOf : MethodName := ⟨RX1, "gainOf", "(I)I"⟩
abbrev cX1_bestBits : ByteArray := prog_3_method_4_code
def yX1_bestBits : MethodName := ⟨RX1, "bestBits", "(I)I"⟩
abbrev cX1_fewestFor : ByteArray := prog_3_method_5_code
def yX1_fewestFor : MethodName := ⟨RX1, "fewestFor", "(I)I"⟩
abbrev cX1_sumOver : ByteArray := prog_3_method_6_code
def yX1_sumOver : MethodName := ⟨RX1, "sumOver", "(I[I)I"⟩
def RX2 : String := "GluedInLifetime$Row"
def TX2 : u_T := fun k => match k with
  | 0 => ("GluedInLifetime$Row", "numbers", "[I", true)
  | _ => ("GluedInLifetime$Row", "length", "I", false)
def tyX2 : Nat → FieldType := fun k => match k with
  | 0 => .array .int
  | _ => .int
abbrev wsX20 : List Cond := u_ws RX2 TX2 2
theorem nmX2 : ∀ a, a < 2 → ∀ b, b < 2 → a ≠ b → (TX2 a).2.1 ≠ (TX2 b).2.1 := by decide +kernel
theorem tyX2_ok : ∀ k, k < 2 → parseFieldDescriptor (TX2 k).2.2.1 = some (tyX2 k) := by decide +kernel
abbrev cX2_init : ByteArray := prog_4_method_1_code
def yX2_init : MethodName := ⟨RX2, "<init>", "()V"⟩
abbrev cX2_isFull : ByteArray := prog_4_method_2_code
def yX2_isFull : MethodName := ⟨RX2, "isFull", "()Z"⟩
abbrev cX2_put : ByteArray := prog_4_method_3_code
def yX2_put : MethodName := ⟨RX2, "put", "(I)V"⟩
abbrev cX2_tellsYearsOf : ByteArray := prog_4_method_4_code
def yX2_tellsYearsOf : MethodName := ⟨RX2, "tellsYearsOf", "(LGluedInLifetime$Thing;I)Z"⟩
abbrev cX2_firstNotGladOf : ByteArray := prog_4_method_5_code
def yX2_firstNotGladOf : MethodName := ⟨RX2, "firstNotGladOf", "(LGluedInLifetime$Thing;)I"⟩
def RX3 : String := "GluedInLifetime$Shop"
def TX3 : u_T := fun k => match k with
  | 0 => ("GluedInLifetime$Shop", "size", "I", false)
  | 1 => ("GluedInLifetime$Shop", "now", "I", false)
  | 2 => ("GluedInLifetime$Shop", "drops", "I", false)
  | 3 => ("GluedInLifetime$Shop", "hands", "I", false)
  | 4 => ("GluedInLifetime$Shop", "things", "[LGluedInLifetime$Thing;", true)
  | _ => ("GluedInLifetime$Shop", "others", "[I", true)
def tyX3 : Nat → FieldType := fun k => match k with
  | 0 => .int
  | 1 => .int
  | 2 => .int
  | 3 => .int
  | 4 => .array (.object "GluedInLifetime$Thing")
  | _ => .array .int
abbrev wsX30 : List Cond := u_ws RX3 TX3 6
theorem nmX3 : ∀ a, a < 6 → ∀ b, b < 6 → a ≠ b → (TX3 a).2.1 ≠ (TX3 b).2.1 := by decide +kernel
theorem tyX3_ok : ∀ k, k < 6 → parseFieldDescriptor (TX3 k).2.2.1 = some (tyX3 k) := by decide +kernel
abbrev cX3_init : ByteArray := prog_5_method_1_code
def yX3_init : MethodName := ⟨RX3, "<init>", "()V"⟩
abbrev cX3_copyFrom : ByteArray := prog_5_method_2_code
def yX3_copyFrom : MethodName := ⟨RX3, "copyFrom", "(LGluedInLifetime$Shop;)V"⟩
abbrev cX3_lacks : ByteArray := prog_5_method_3_code
def yX3_lacks : MethodName := ⟨RX3, "lacks", "(I)Z"⟩
abbrev cX3_lacksTwo : ByteArray := prog_5_method_4_code
def yX3_lacksTwo : MethodName := ⟨RX3, "lacksTwo", "(II)Z"⟩
abbrev cX3_at : ByteArray := prog_5_method_5_code
def yX3_at : MethodName := ⟨RX3, "at", "(I)LGluedInLifetime$Thing;"⟩
abbrev cX3_add : ByteArray := prog_5_method_6_code
def yX3_add : MethodName := ⟨RX3, "add", "(II)Z"⟩
abbrev cX3_makeGlad : ByteArray := prog_5_method_7_code
def yX3_makeGlad : MethodName := ⟨RX3, "makeGlad", "(IIII)Z"⟩
abbrev cX3_moveTo : ByteArray := prog_5_method_8_code
def yX3_moveTo : MethodName := ⟨RX3, "moveTo", "(I)Z"⟩
abbrev cX3_areHalves : ByteArray := prog_5_method_9_code
def yX3_areHalves : MethodName := ⟨RX3, "areHalves", "(II)Z"⟩
abbrev cX3_turnHalves : ByteArray := prog_5_method_10_code
def yX3_turnHalves : MethodName := ⟨RX3, "turnHalves", "(II)Z"⟩
abbrev cX3_glue : ByteArray := prog_5_method_11_code
def yX3_glue : MethodName := ⟨RX3, "glue", "(III)Z"⟩
abbrev cX3_gladTogether : ByteArray := prog_5_method_12_code
def yX3_gladTogether : MethodName := ⟨RX3, "gladTogether", "(I)I"⟩
abbrev cX3_setBits : ByteArray := prog_5_method_13_code
def yX3_setBits : MethodName := ⟨RX3, "setBits", "()I"⟩
abbrev cX3_countHalves : ByteArray := prog_5_method_14_code
def yX3_countHalves : MethodName := ⟨RX3, "countHalves", "()I"⟩
abbrev cX3_countAgreeing : ByteArray := prog_5_method_15_code
def yX3_countAgreeing : MethodName := ⟨RX3, "countAgreeing", "()I"⟩
abbrev cX3_firstApart : ByteArray := prog_5_method_16_code
def yX3_firstApart : MethodName := ⟨RX3, "firstApart", "()I"⟩
abbrev cX3_setInOneYear : ByteArray := prog_5_method_17_code
def yX3_setInOneYear : MethodName := ⟨RX3, "setInOneYear", "(II)Z"⟩
def RX4 : String := "GluedInLifetime$Slips"
def TX4 : u_T := fun k => match k with
  | _ => ("GluedInLifetime$Slips", "ways", "[J", true)
def tyX4 : Nat → FieldType := fun k => match k with
  | _ => .array .long
abbrev wsX40 : List Cond := u_ws RX4 TX4 1
theorem nmX4 : ∀ a, a < 1 → ∀ b, b < 1 → a ≠ b → (TX4 a).2.1 ≠ (TX4 b).2.1 := by decide +kernel
theorem tyX4_ok : ∀ k, k < 1 → parseFieldDescriptor (TX4 k).2.2.1 = some (tyX4 k) := by decide +kernel
abbrev cX4_init : ByteArray := prog_6_method_1_code
def yX4_init : MethodName := ⟨RX4, "<init>", "()V"⟩
abbrev cX4_weigh : ByteArray := prog_6_method_2_code
def yX4_weigh : MethodName := ⟨RX4, "weigh", "(II)V"⟩
abbrev cX4_allWays : ByteArray := prog_6_method_3_code
def yX4_allWays : MethodName := ⟨RX4, "allWays", "()J"⟩
abbrev cX4_waysInto : ByteArray := prog_6_method_4_code
def yX4_waysInto : MethodName := ⟨RX4, "waysInto", "(LGluedInLifetime$Thing;II)J"⟩
abbrev cX4_gladOfAll : ByteArray := prog_6_method_5_code
def yX4_gladOfAll : MethodName := ⟨RX4, "gladOfAll", "(LGluedInLifetime$Thing;I)J"⟩
def RX5 : String := "GluedInLifetime$Text"
def TX5 : u_T := fun k => match k with
  | 0 => ("GluedInLifetime$Text", "letters", "[I", true)
  | _ => ("GluedInLifetime$Text", "length", "I", false)
def tyX5 : Nat → FieldType := fun k => match k with
  | 0 => .array .int
  | _ => .int
abbrev wsX50 : List Cond := u_ws RX5 TX5 2
theorem nmX5 : ∀ a, a < 2 → ∀ b, b < 2 → a ≠ b → (TX5 a).2.1 ≠ (TX5 b).2.1 := by decide +kernel
theorem tyX5_ok : ∀ k, k < 2 → parseFieldDescriptor (TX5 k).2.2.1 = some (tyX5 k) := by decide +kernel
abbrev cX5_init : ByteArray := prog_7_method_1_code
def yX5_init : MethodName := ⟨RX5, "<init>", "()V"⟩
abbrev cX5_isFull : ByteArray := prog_7_method_2_code
def yX5_isFull : MethodName := ⟨RX5, "isFull", "()Z"⟩
abbrev cX5_put : ByteArray := prog_7_method_3_code
def yX5_put : MethodName := ⟨RX5, "put", "(I)V"⟩
abbrev cX5_letterAt : ByteArray := prog_7_method_4_code
def yX5_letterAt : MethodName := ⟨RX5, "letterAt", "(I)I"⟩
abbrev cX5_isDigit : ByteArray := prog_7_method_5_code
def yX5_isDigit : MethodName := ⟨RX5, "isDigit", "(I)Z"⟩
abbrev cX5_kindAt : ByteArray := prog_7_method_6_code
def yX5_kindAt : MethodName := ⟨RX5, "kindAt", "(I)I"⟩
abbrev cX5_number : ByteArray := prog_7_method_7_code
def yX5_number : MethodName := ⟨RX5, "number", "(II)I"⟩
abbrev cX5_partsOf : ByteArray := prog_7_method_8_code
def yX5_partsOf : MethodName := ⟨RX5, "partsOf", "(I)I"⟩
abbrev cX5_behindStatement : ByteArray := prog_7_method_9_code
def yX5_behindStatement : MethodName := ⟨RX5, "behindStatement", "(I)I"⟩
abbrev cX5_firstMisfit : ByteArray := prog_7_method_10_code
def yX5_firstMisfit : MethodName := ⟨RX5, "firstMisfit", "()I"⟩
abbrev cX5_misfitOfStatement : ByteArray := prog_7_method_11_code
def yX5_misfitOfStatement : MethodName := ⟨RX5, "misfitOfStatement", "(I)I"⟩
def RX6 : String := "GluedInLifetime$Thing"
def TX6 : u_T := fun k => match k with
  | 0 => ("GluedInLifetime$Thing", "kind", "I", false)
  | 1 => ("GluedInLifetime$Thing", "figure", "I", false)
  | 2 => ("GluedInLifetime$Thing", "set", "I", false)
  | _ => ("GluedInLifetime$Thing", "glad", "[I", true)
def tyX6 : Nat → FieldType := fun k => match k with
  | 0 => .int
  | 1 => .int
  | 2 => .int
  | _ => .array .int
abbrev wsX60 : List Cond := u_ws RX6 TX6 4
theorem nmX6 : ∀ a, a < 4 → ∀ b, b < 4 → a ≠ b → (TX6 a).2.1 ≠ (TX6 b).2.1 := by decide +kernel
theorem tyX6_ok : ∀ k, k < 4 → parseFieldDescriptor (TX6 k).2.2.1 = some (tyX6 k) := by decide +kernel
abbrev cX6_init : ByteArray := prog_8_method_1_code
def yX6_init : MethodName := ⟨RX6, "<init>", "()V"⟩
abbrev cX6_copyFrom : ByteArray := prog_8_method_2_code
def yX6_copyFrom : MethodName := ⟨RX6, "copyFrom", "(LGluedInLifetime$Thing;)V"⟩
abbrev cX6_begin : ByteArray := prog_8_method_3_code
def yX6_begin : MethodName := ⟨RX6, "begin", "(II)V"⟩
abbrev cX6_isSet : ByteArray := prog_8_method_4_code
def yX6_isSet : MethodName := ⟨RX6, "isSet", "()Z"⟩
abbrev cX6_gladIn : ByteArray := prog_8_method_5_code
def yX6_gladIn : MethodName := ⟨RX6, "gladIn", "(I)I"⟩
abbrev cX6_makeGlad : ByteArray := prog_8_method_6_code
def yX6_makeGlad : MethodName := ⟨RX6, "makeGlad", "(II)V"⟩
abbrev cX6_howGlad : ByteArray := prog_8_method_7_code
def yX6_howGlad : MethodName := ⟨RX6, "howGlad", "(I)I"⟩
abbrev cX6_moreIfWashed : ByteArray := prog_8_method_8_code
def yX6_moreIfWashed : MethodName := ⟨RX6, "moreIfWashed", "(I)I"⟩
abbrev cX6_cost : ByteArray := prog_8_method_9_code
def yX6_cost : MethodName := ⟨RX6, "cost", "()I"⟩
abbrev cX6_reach : ByteArray := prog_8_method_10_code
def yX6_reach : MethodName := ⟨RX6, "reach", "(II)I"⟩
abbrev cX6_counts : ByteArray := prog_8_method_11_code
def yX6_counts : MethodName := ⟨RX6, "counts", "(II)I"⟩
abbrev cX6_yearBy : ByteArray := prog_8_method_12_code
def yX6_yearBy : MethodName := ⟨RX6, "yearBy", "(III)I"⟩
abbrev cX6_fewestFor : ByteArray := prog_8_method_13_code
def yX6_fewestFor : MethodName := ⟨RX6, "fewestFor", "(II)I"⟩
abbrev cX6_gladdestBy : ByteArray := prog_8_method_14_code
def yX6_gladdestBy : MethodName := ⟨RX6, "gladdestBy", "(I)I"⟩
abbrev cX6_gladdestYear : ByteArray := prog_8_method_15_code
def yX6_gladdestYear : MethodName := ⟨RX6, "gladdestYear", "(I)I"⟩
def RX7 : String := "GluedInLifetime"
def TX7 : u_T := fun k => match k with
  | 0 => ("GluedInLifetime", "here", "LGluedInLifetime$Shop;", true)
  | 1 => ("GluedInLifetime", "then", "LGluedInLifetime$Shop;", true)
  | 2 => ("GluedInLifetime", "trial", "LGluedInLifetime$Shop;", true)
  | 3 => ("GluedInLifetime", "probe", "LGluedInLifetime$Thing;", true)
  | 4 => ("GluedInLifetime", "text", "LGluedInLifetime$Text;", true)
  | 5 => ("GluedInLifetime", "told", "LGluedInLifetime$Row;", true)
  | 6 => ("GluedInLifetime", "pot", "LGluedInLifetime$Pot;", true)
  | 7 => ("GluedInLifetime", "line", "LGluedInLifetime$Line;", true)
  | 8 => ("GluedInLifetime", "slips", "LGluedInLifetime$Slips;", true)
  | 9 => ("GluedInLifetime", "mostBySteps", "[I", true)
  | 10 => ("GluedInLifetime", "refusals", "[I", true)
  | 11 => ("GluedInLifetime", "hasImage", "Z", false)
  | _ => ("GluedInLifetime", "seed", "I", false)
def tyX7 : Nat → FieldType := fun k => match k with
  | 0 => .object "GluedInLifetime$Shop"
  | 1 => .object "GluedInLifetime$Shop"
  | 2 => .object "GluedInLifetime$Shop"
  | 3 => .object "GluedInLifetime$Thing"
  | 4 => .object "GluedInLifetime$Text"
  | 5 => .object "GluedInLifetime$Row"
  | 6 => .object "GluedInLifetime$Pot"
  | 7 => .object "GluedInLifetime$Line"
  | 8 => .object "GluedInLifetime$Slips"
  | 9 => .array .int
  | 10 => .array .int
  | 11 => .boolean
  | _ => .int
abbrev wsX70 : List Cond := u_ws RX7 TX7 13
theorem nmX7 : ∀ a, a < 13 → ∀ b, b < 13 → a ≠ b → (TX7 a).2.1 ≠ (TX7 b).2.1 := by decide +kernel
theorem tyX7_ok : ∀ k, k < 13 → parseFieldDescriptor (TX7 k).2.2.1 = some (tyX7 k) := by decide +kernel
abbrev cX7_init : ByteArray := prog_1_method_1_code
def yX7_init : MethodName := ⟨RX7, "<init>", "()V"⟩
abbrev cX7_letter : ByteArray := prog_1_method_2_code
def yX7_letter : MethodName := ⟨RX7, "letter", "(I)I"⟩
abbrev cX7_shop : ByteArray := prog_1_method_3_code
def yX7_shop : MethodName := ⟨RX7, "shop", "()I"⟩
abbrev cX7_thing : ByteArray := prog_1_method_4_code
def yX7_thing : MethodName := ⟨RX7, "thing", "(II)I"⟩
abbrev cX7_glad : ByteArray := prog_1_method_5_code
def yX7_glad : MethodName := ⟨RX7, "glad", "(II)I"⟩
abbrev cX7_halves : ByteArray := prog_1_method_6_code
def yX7_halves : MethodName := ⟨RX7, "halves", "(II)I"⟩
abbrev cX7_turn : ByteArray := prog_1_method_7_code
def yX7_turn : MethodName := ⟨RX7, "turn", "(III)I"⟩
abbrev cX7_makes : ByteArray := prog_1_method_8_code
def yX7_makes : MethodName := ⟨RX7, "makes", "(III)I"⟩
abbrev cX7_pairs : ByteArray := prog_1_method_9_code
def yX7_pairs : MethodName := ⟨RX7, "pairs", "(II)I"⟩
abbrev cX7_now : ByteArray := prog_1_method_10_code
def yX7_now : MethodName := ⟨RX7, "now", "(I)I"⟩
abbrev cX7_hands : ByteArray := prog_1_method_11_code
def yX7_hands : MethodName := ⟨RX7, "hands", "(I)I"⟩
abbrev cX7_pours : ByteArray := prog_1_method_12_code
def yX7_pours : MethodName := ⟨RX7, "pours", "(I)I"⟩
abbrev cX7_glues : ByteArray := prog_1_method_13_code
def yX7_glues : MethodName := ⟨RX7, "glues", "(III)I"⟩
abbrev cX7_washes : ByteArray := prog_1_method_14_code
def yX7_washes : MethodName := ⟨RX7, "washes", "(I)I"⟩
abbrev cX7_would : ByteArray := prog_1_method_15_code
def yX7_would : MethodName := ⟨RX7, "would", "(IIII)I"⟩
abbrev cX7_can : ByteArray := prog_1_method_16_code
def yX7_can : MethodName := ⟨RX7, "can", "(I)I"⟩
abbrev cX7_fewest : ByteArray := prog_1_method_17_code
def yX7_fewest : MethodName := ⟨RX7, "fewest", "(II)I"⟩
abbrev cX7_gladness : ByteArray := prog_1_method_18_code
def yX7_gladness : MethodName := ⟨RX7, "gladness", "()I"⟩
abbrev cX7_agree : ByteArray := prog_1_method_19_code
def yX7_agree : MethodName := ⟨RX7, "agree", "(I)I"⟩
abbrev cX7_most : ByteArray := prog_1_method_20_code
def yX7_most : MethodName := ⟨RX7, "most", "(I)I"⟩
abbrev cX7_byMinutes : ByteArray := prog_1_method_21_code
def yX7_byMinutes : MethodName := ⟨RX7, "byMinutes", "(I)I"⟩
abbrev cX7_fewDrops : ByteArray := prog_1_method_22_code
def yX7_fewDrops : MethodName := ⟨RX7, "fewDrops", "()I"⟩
abbrev cX7_together : ByteArray := prog_1_method_23_code
def yX7_together : MethodName := ⟨RX7, "together", "(III)I"⟩
abbrev cX7_queue : ByteArray := prog_1_method_24_code
def yX7_queue : MethodName := ⟨RX7, "queue", "(I)I"⟩
abbrev cX7_oneMore : ByteArray := prog_1_method_25_code
def yX7_oneMore : MethodName := ⟨RX7, "oneMore", "()I"⟩
abbrev cX7_bestYear : ByteArray := prog_1_method_26_code
def yX7_bestYear : MethodName := ⟨RX7, "bestYear", "()I"⟩
abbrev cX7_water : ByteArray := prog_1_method_27_code
def yX7_water : MethodName := ⟨RX7, "water", "(I)I"⟩
abbrev cX7_bestWash : ByteArray := prog_1_method_28_code
def yX7_bestWash : MethodName := ⟨RX7, "bestWash", "()I"⟩
abbrev cX7_sour : ByteArray := prog_1_method_29_code
def yX7_sour : MethodName := ⟨RX7, "sour", "()I"⟩
abbrev cX7_regret : ByteArray := prog_1_method_30_code
def yX7_regret : MethodName := ⟨RX7, "regret", "(I)I"⟩
abbrev cX7_two : ByteArray := prog_1_method_31_code
def yX7_two : MethodName := ⟨RX7, "two", "(II)I"⟩
abbrev cX7_slip : ByteArray := prog_1_method_32_code
def yX7_slip : MethodName := ⟨RX7, "slip", "(IIIII)J"⟩
abbrev cX7_mean : ByteArray := prog_1_method_33_code
def yX7_mean : MethodName := ⟨RX7, "mean", "(IIII)J"⟩
abbrev cX7_whatWas : ByteArray := prog_1_method_34_code
def yX7_whatWas : MethodName := ⟨RX7, "whatWas", "(II)I"⟩
abbrev cX7_mended : ByteArray := prog_1_method_35_code
def yX7_mended : MethodName := ⟨RX7, "mended", "(III)I"⟩
abbrev cX7_row : ByteArray := prog_1_method_36_code
def yX7_row : MethodName := ⟨RX7, "row", "(I)I"⟩
abbrev cX7_judge : ByteArray := prog_1_method_37_code
def yX7_judge : MethodName := ⟨RX7, "judge", "(I)I"⟩
abbrev cX7_clear : ByteArray := prog_1_method_38_code
def yX7_clear : MethodName := ⟨RX7, "clear", "()I"⟩
abbrev cX7_lots : ByteArray := prog_1_method_39_code
def yX7_lots : MethodName := ⟨RX7, "lots", "(III)I"⟩
abbrev cX7_image : ByteArray := prog_1_method_40_code
def yX7_image : MethodName := ⟨RX7, "image", "()I"⟩
abbrev cX7_on : ByteArray := prog_1_method_41_code
def yX7_on : MethodName := ⟨RX7, "on", "()I"⟩
abbrev cX7_count : ByteArray := prog_1_method_42_code
def yX7_count : MethodName := ⟨RX7, "count", "(I)I"⟩
abbrev cX7_refuse : ByteArray := prog_1_method_43_code
def yX7_refuse : MethodName := ⟨RX7, "refuse", "(I)I"⟩
abbrev cX7_noYear : ByteArray := prog_1_method_44_code
def yX7_noYear : MethodName := ⟨RX7, "noYear", "(I)Z"⟩
abbrev cX7_notOneOfTwo : ByteArray := prog_1_method_45_code
def yX7_notOneOfTwo : MethodName := ⟨RX7, "notOneOfTwo", "(I)Z"⟩
abbrev cX7_outside : ByteArray := prog_1_method_46_code
def yX7_outside : MethodName := ⟨RX7, "outside", "(III)I"⟩
abbrev cX7_heldRefusal : ByteArray := prog_1_method_47_code
def yX7_heldRefusal : MethodName := ⟨RX7, "heldRefusal", "(III)I"⟩
abbrev cX7_slipRefusal : ByteArray := prog_1_method_48_code
def yX7_slipRefusal : MethodName := ⟨RX7, "slipRefusal", "(III)I"⟩
abbrev cX7_tellTrial : ByteArray := prog_1_method_49_code
def yX7_tellTrial : MethodName := ⟨RX7, "tellTrial", "()I"⟩
abbrev cX7_tellStatement : ByteArray := prog_1_method_50_code
def yX7_tellStatement : MethodName := ⟨RX7, "tellStatement", "(I)Z"⟩
abbrev cX7_spendSteps : ByteArray := prog_1_method_51_code
def yX7_spendSteps : MethodName := ⟨RX7, "spendSteps", "(LGluedInLifetime$Thing;)V"⟩
abbrev cX7_minutesOfBoth : ByteArray := prog_1_method_52_code
def yX7_minutesOfBoth : MethodName := ⟨RX7, "minutesOfBoth", "(LGluedInLifetime$Thing;LGluedInLifetime$Thing;I)I"⟩
abbrev cX7_bothContent : ByteArray := prog_1_method_53_code
def yX7_bothContent : MethodName := ⟨RX7, "bothContent", "(LGluedInLifetime$Thing;III)Z"⟩
abbrev cX7_glueByLot : ByteArray := prog_1_method_54_code
def yX7_glueByLot : MethodName := ⟨RX7, "glueByLot", "()V"⟩
abbrev cX7_draw : ByteArray := prog_1_method_55_code
def yX7_draw : MethodName := ⟨RX7, "draw", "(I)I"⟩
abbrev cX7_partOf : ByteArray := prog_1_method_56_code
def yX7_partOf : MethodName := ⟨RX7, "partOf", "(JJI)J"⟩
abbrev cX7_commonDivisor : ByteArray := prog_1_method_57_code
def yX7_commonDivisor : MethodName := ⟨RX7, "commonDivisor", "(JJ)J"⟩
def RX8 : String := "GluedInLifetimeModel"
def TX8 : u_T := fun k => match k with
  | 0 => ("GluedInLifetimeModel", "s", "[I", true)
  | 1 => ("GluedInLifetimeModel", "m", "[I", true)
  | 2 => ("GluedInLifetimeModel", "image", "[I", true)
  | 3 => ("GluedInLifetimeModel", "was", "[I", true)
  | 4 => ("GluedInLifetimeModel", "hasImage", "Z", false)
  | 5 => ("GluedInLifetimeModel", "letters", "[I", true)
  | 6 => ("GluedInLifetimeModel", "row", "[I", true)
  | 7 => ("GluedInLifetimeModel", "refused", "[I", true)
  | 8 => ("GluedInLifetimeModel", "letterMany", "I", false)
  | 9 => ("GluedInLifetimeModel", "rowMany", "I", false)
  | 10 => ("GluedInLifetimeModel", "place", "I", false)
  | 11 => ("GluedInLifetimeModel", "numbers", "[I", true)
  | 12 => ("GluedInLifetimeModel", "mostGlued", "I", false)
  | 13 => ("GluedInLifetimeModel", "by", "[I", true)
  | 14 => ("GluedInLifetimeModel", "then", "[I", true)
  | _ => ("GluedInLifetimeModel", "seed", "I", false)
def tyX8 : Nat → FieldType := fun k => match k with
  | 0 => .array .int
  | 1 => .array .int
  | 2 => .array .int
  | 3 => .array .int
  | 4 => .boolean
  | 5 => .array .int
  | 6 => .array .int
  | 7 => .array .int
  | 8 => .int
  | 9 => .int
  | 10 => .int
  | 11 => .array .int
  | 12 => .int
  | 13 => .array .int
  | 14 => .array .int
  | _ => .int
abbrev wsX80 : List Cond := u_ws RX8 TX8 16
theorem nmX8 : ∀ a, a < 16 → ∀ b, b < 16 → a ≠ b → (TX8 a).2.1 ≠ (TX8 b).2.1 := by decide +kernel
theorem tyX8_ok : ∀ k, k < 16 → parseFieldDescriptor (TX8 k).2.2.1 = some (tyX8 k) := by decide +kernel
abbrev cX8_init : ByteArray := prog_10_method_1_code
def yX8_init : MethodName := ⟨RX8, "<init>", "()V"⟩
abbrev cX8_isIn : ByteArray := prog_10_method_2_code
def yX8_isIn : MethodName := ⟨RX8, "isIn", "(III)Z"⟩
abbrev cX8_least : ByteArray := prog_10_method_3_code
def yX8_least : MethodName := ⟨RX8, "least", "(II)I"⟩
abbrev cX8_most : ByteArray := prog_10_method_4_code
def yX8_most : MethodName := ⟨RX8, "most", "(II)I"⟩
abbrev cX8_lays : ByteArray := prog_10_method_5_code
def yX8_lays : MethodName := ⟨RX8, "lays", "([I[I)V"⟩
abbrev cX8_no : ByteArray := prog_10_method_6_code
def yX8_no : MethodName := ⟨RX8, "no", "(I)I"⟩
abbrev cX8_noFar : ByteArray := prog_10_method_7_code
def yX8_noFar : MethodName := ⟨RX8, "noFar", "(I)I"⟩
abbrev cX8_noWide : ByteArray := prog_10_method_8_code
def yX8_noWide : MethodName := ⟨RX8, "noWide", "(I)J"⟩
abbrev cX8_isThing : ByteArray := prog_10_method_9_code
def yX8_isThing : MethodName := ⟨RX8, "isThing", "(I)Z"⟩
abbrev cX8_isYear : ByteArray := prog_10_method_10_code
def yX8_isYear : MethodName := ⟨RX8, "isYear", "(I)Z"⟩
abbrev cX8_at : ByteArray := prog_10_method_11_code
def yX8_at : MethodName := ⟨RX8, "at", "(II)I"⟩
abbrev cX8_bits : ByteArray := prog_10_method_12_code
def yX8_bits : MethodName := ⟨RX8, "bits", "(I)I"⟩
abbrev cX8_cost : ByteArray := prog_10_method_13_code
def yX8_cost : MethodName := ⟨RX8, "cost", "([II)I"⟩
abbrev cX8_reach : ByteArray := prog_10_method_14_code
def yX8_reach : MethodName := ⟨RX8, "reach", "([IIII)I"⟩
abbrev cX8_counts : ByteArray := prog_10_method_15_code
def yX8_counts : MethodName := ⟨RX8, "counts", "([III)I"⟩
abbrev cX8_yearBy : ByteArray := prog_10_method_16_code
def yX8_yearBy : MethodName := ⟨RX8, "yearBy", "([III)I"⟩
abbrev cX8_yearOf : ByteArray := prog_10_method_17_code
def yX8_yearOf : MethodName := ⟨RX8, "yearOf", "([IIII)I"⟩
abbrev cX8_gladOf : ByteArray := prog_10_method_18_code
def yX8_gladOf : MethodName := ⟨RX8, "gladOf", "([II)I"⟩
abbrev cX8_gladAll : ByteArray := prog_10_method_19_code
def yX8_gladAll : MethodName := ⟨RX8, "gladAll", "([I)I"⟩
abbrev cX8_fewestOf : ByteArray := prog_10_method_20_code
def yX8_fewestOf : MethodName := ⟨RX8, "fewestOf", "([III)I"⟩
abbrev cX8_letter : ByteArray := prog_10_method_21_code
def yX8_letter : MethodName := ⟨RX8, "letter", "(I)I"⟩
abbrev cX8_here : ByteArray := prog_10_method_22_code
def yX8_here : MethodName := ⟨RX8, "here", "()I"⟩
abbrev cX8_readsNumber : ByteArray := prog_10_method_23_code
def yX8_readsNumber : MethodName := ⟨RX8, "readsNumber", "(II)Z"⟩
abbrev cX8_kindBy : ByteArray := prog_10_method_24_code
def yX8_kindBy : MethodName := ⟨RX8, "kindBy", "(I)I"⟩
abbrev cX8_readsKind : ByteArray := prog_10_method_25_code
def yX8_readsKind : MethodName := ⟨RX8, "readsKind", "()Z"⟩
abbrev cX8_readsStatement : ByteArray := prog_10_method_26_code
def yX8_readsStatement : MethodName := ⟨RX8, "readsStatement", "()Z"⟩
abbrev cX8_turnsHalves : ByteArray := prog_10_method_27_code
def yX8_turnsHalves : MethodName := ⟨RX8, "turnsHalves", "(II)V"⟩
abbrev cX8_canGlue : ByteArray := prog_10_method_28_code
def yX8_canGlue : MethodName := ⟨RX8, "canGlue", "(I)Z"⟩
abbrev cX8_gluesTo : ByteArray := prog_10_method_29_code
def yX8_gluesTo : MethodName := ⟨RX8, "gluesTo", "(III)I"⟩
abbrev cX8_isDone : ByteArray := prog_10_method_30_code
def yX8_isDone : MethodName := ⟨RX8, "isDone", "(I)Z"⟩
abbrev cX8_shop : ByteArray := prog_10_method_31_code
def yX8_shop : MethodName := ⟨RX8, "shop", "()I"⟩
abbrev cX8_thing : ByteArray := prog_10_method_32_code
def yX8_thing : MethodName := ⟨RX8, "thing", "(II)I"⟩
abbrev cX8_glad : ByteArray := prog_10_method_33_code
def yX8_glad : MethodName := ⟨RX8, "glad", "(II)I"⟩
abbrev cX8_areTwo : ByteArray := prog_10_method_34_code
def yX8_areTwo : MethodName := ⟨RX8, "areTwo", "(II)Z"⟩
abbrev cX8_halves : ByteArray := prog_10_method_35_code
def yX8_halves : MethodName := ⟨RX8, "halves", "(II)I"⟩
abbrev cX8_turn : ByteArray := prog_10_method_36_code
def yX8_turn : MethodName := ⟨RX8, "turn", "(III)I"⟩
abbrev cX8_makes : ByteArray := prog_10_method_37_code
def yX8_makes : MethodName := ⟨RX8, "makes", "(III)I"⟩
abbrev cX8_pairs : ByteArray := prog_10_method_38_code
def yX8_pairs : MethodName := ⟨RX8, "pairs", "(II)I"⟩
abbrev cX8_now : ByteArray := prog_10_method_39_code
def yX8_now : MethodName := ⟨RX8, "now", "(I)I"⟩
abbrev cX8_hands : ByteArray := prog_10_method_40_code
def yX8_hands : MethodName := ⟨RX8, "hands", "(I)I"⟩
abbrev cX8_pours : ByteArray := prog_10_method_41_code
def yX8_pours : MethodName := ⟨RX8, "pours", "(I)I"⟩
abbrev cX8_wrongGlue : ByteArray := prog_10_method_42_code
def yX8_wrongGlue : MethodName := ⟨RX8, "wrongGlue", "(III)I"⟩
abbrev cX8_glues : ByteArray := prog_10_method_43_code
def yX8_glues : MethodName := ⟨RX8, "glues", "(III)I"⟩
abbrev cX8_washes : ByteArray := prog_10_method_44_code
def yX8_washes : MethodName := ⟨RX8, "washes", "(I)I"⟩
abbrev cX8_would : ByteArray := prog_10_method_45_code
def yX8_would : MethodName := ⟨RX8, "would", "(IIII)I"⟩
abbrev cX8_canOf : ByteArray := prog_10_method_46_code
def yX8_canOf : MethodName := ⟨RX8, "canOf", "([II)I"⟩
abbrev cX8_can : ByteArray := prog_10_method_47_code
def yX8_can : MethodName := ⟨RX8, "can", "(I)I"⟩
abbrev cX8_fewest : ByteArray := prog_10_method_48_code
def yX8_fewest : MethodName := ⟨RX8, "fewest", "(II)I"⟩
abbrev cX8_gladness : ByteArray := prog_10_method_49_code
def yX8_gladness : MethodName := ⟨RX8, "gladness", "()I"⟩
abbrev cX8_doAgree : ByteArray := prog_10_method_50_code
def yX8_doAgree : MethodName := ⟨RX8, "doAgree", "([III)Z"⟩
abbrev cX8_agreeMany : ByteArray := prog_10_method_51_code
def yX8_agreeMany : MethodName := ⟨RX8, "agreeMany", "([I)I"⟩
abbrev cX8_agree : ByteArray := prog_10_method_52_code
def yX8_agree : MethodName := ⟨RX8, "agree", "(I)I"⟩
abbrev cX8_mostBy : ByteArray := prog_10_method_53_code
def yX8_mostBy : MethodName := ⟨RX8, "mostBy", "([II)I"⟩
abbrev cX8_most_ : ByteArray := prog_10_method_54_code
def yX8_most_ : MethodName := ⟨RX8, "most", "(I)I"⟩
abbrev cX8_byMinutes : ByteArray := prog_10_method_55_code
def yX8_byMinutes : MethodName := ⟨RX8, "byMinutes", "(I)I"⟩
abbrev cX8_fewDrops : ByteArray := prog_10_method_56_code
def yX8_fewDrops : MethodName := ⟨RX8, "fewDrops", "()I"⟩
abbrev cX8_together : ByteArray := prog_10_method_57_code
def yX8_together : MethodName := ⟨RX8, "together", "(III)I"⟩
abbrev cX8_gladdest : ByteArray := prog_10_method_58_code
def yX8_gladdest : MethodName := ⟨RX8, "gladdest", "(I)I"⟩
abbrev cX8_queue : ByteArray := prog_10_method_59_code
def yX8_queue : MethodName := ⟨RX8, "queue", "(I)I"⟩
abbrev cX8_oneMore : ByteArray := prog_10_method_60_code
def yX8_oneMore : MethodName := ⟨RX8, "oneMore", "()I"⟩
abbrev cX8_bestYear : ByteArray := prog_10_method_61_code
def yX8_bestYear : MethodName := ⟨RX8, "bestYear", "()I"⟩
abbrev cX8_waterOf : ByteArray := prog_10_method_62_code
def yX8_waterOf : MethodName := ⟨RX8, "waterOf", "(I)I"⟩
abbrev cX8_water : ByteArray := prog_10_method_63_code
def yX8_water : MethodName := ⟨RX8, "water", "(I)I"⟩
abbrev cX8_bestWash : ByteArray := prog_10_method_64_code
def yX8_bestWash : MethodName := ⟨RX8, "bestWash", "()I"⟩
abbrev cX8_sour : ByteArray := prog_10_method_65_code
def yX8_sour : MethodName := ⟨RX8, "sour", "()I"⟩
abbrev cX8_regret : ByteArray := prog_10_method_66_code
def yX8_regret : MethodName := ⟨RX8, "regret", "(I)I"⟩
abbrev cX8_two : ByteArray := prog_10_method_67_code
def yX8_two : MethodName := ⟨RX8, "two", "(II)I"⟩
abbrev cX8_gcd : ByteArray := prog_10_method_68_code
def yX8_gcd : MethodName := ⟨RX8, "gcd", "(JJ)J"⟩
abbrev cX8_partOf : ByteArray := prog_10_method_69_code
def yX8_partOf : MethodName := ⟨RX8, "partOf", "(JJI)J"⟩
abbrev cX8_slips : ByteArray := prog_10_method_70_code
def yX8_slips : MethodName := ⟨RX8, "slips", "(IIII)J"⟩
abbrev cX8_power : ByteArray := prog_10_method_71_code
def yX8_power : MethodName := ⟨RX8, "power", "(II)J"⟩
abbrev cX8_slip : ByteArray := prog_10_method_72_code
def yX8_slip : MethodName := ⟨RX8, "slip", "(IIIII)J"⟩
abbrev cX8_mean : ByteArray := prog_10_method_73_code
def yX8_mean : MethodName := ⟨RX8, "mean", "(IIII)J"⟩
abbrev cX8_whatWas : ByteArray := prog_10_method_74_code
def yX8_whatWas : MethodName := ⟨RX8, "whatWas", "(II)I"⟩
abbrev cX8_mended : ByteArray := prog_10_method_75_code
def yX8_mended : MethodName := ⟨RX8, "mended", "(III)I"⟩
abbrev cX8_row : ByteArray := prog_10_method_76_code
def yX8_row : MethodName := ⟨RX8, "row", "(I)I"⟩
abbrev cX8_judge : ByteArray := prog_10_method_77_code
def yX8_judge : MethodName := ⟨RX8, "judge", "(I)I"⟩
abbrev cX8_clear : ByteArray := prog_10_method_78_code
def yX8_clear : MethodName := ⟨RX8, "clear", "()I"⟩
abbrev cX8_drawn : ByteArray := prog_10_method_79_code
def yX8_drawn : MethodName := ⟨RX8, "drawn", "(I)I"⟩
abbrev cX8_lots : ByteArray := prog_10_method_80_code
def yX8_lots : MethodName := ⟨RX8, "lots", "(III)I"⟩
abbrev cX8_image : ByteArray := prog_10_method_81_code
def yX8_image : MethodName := ⟨RX8, "image", "()I"⟩
abbrev cX8_on : ByteArray := prog_10_method_82_code
def yX8_on : MethodName := ⟨RX8, "on", "()I"⟩
abbrev cX8_count : ByteArray := prog_10_method_83_code
def yX8_count : MethodName := ⟨RX8, "count", "(I)I"⟩
def RJ0 : String := "java/lang/String"
def TJ0 : u_T := fun k => match k with
  | _ => ("", "", "", false)
def tyJ0 : Nat → FieldType := fun k => match k with
  | _ => .int
abbrev wsJ00 : List Cond := u_ws RJ0 TJ0 0
theorem nmJ0 : ∀ a, a < 0 → ∀ b, b < 0 → a ≠ b → (TJ0 a).2.1 ≠ (TJ0 b).2.1 := by decide +kernel
theorem tyJ0_ok : ∀ k, k < 0 → parseFieldDescriptor (TJ0 k).2.2.1 = some (tyJ0 k) := by decide +kernel
abbrev cJ0_length_8abf5 : ByteArray := prog_13_method_54_code
def yJ0_length_8abf5 : MethodName := ⟨RJ0, "length", "()I"⟩
abbrev cJ0_indexOf_0f7a4 : ByteArray := prog_13_method_79_code
def yJ0_indexOf_0f7a4 : MethodName := ⟨RJ0, "indexOf", "(I)I"⟩
abbrev cJ0_indexOf_7cf53 : ByteArray := prog_13_method_80_code
def yJ0_indexOf_7cf53 : MethodName := ⟨RJ0, "indexOf", "(II)I"⟩
abbrev cJ0_coder_7d493 : ByteArray := prog_13_method_152_code
def yJ0_coder_7d493 : MethodName := ⟨RJ0, "coder", "()B"⟩
abbrev cJ0_isLatin1_aae02 : ByteArray := prog_13_method_154_code
def yJ0_isLatin1_aae02 : MethodName := ⟨RJ0, "isLatin1", "()Z"⟩
abbrev cJ0_checkBoundsBeginEnd_23922 : ByteArray := prog_13_method_158_code
def yJ0_checkBoundsBeginEnd_23922 : MethodName := ⟨RJ0, "checkBoundsBeginEnd", "(III)V"⟩
def RJ1 : String := "java/lang/StringLatin1"
def TJ1 : u_T := fun k => match k with
  | _ => ("", "", "", false)
def tyJ1 : Nat → FieldType := fun k => match k with
  | _ => .int
abbrev wsJ10 : List Cond := u_ws RJ1 TJ1 0
theorem nmJ1 : ∀ a, a < 0 → ∀ b, b < 0 → a ≠ b → (TJ1 a).2.1 ≠ (TJ1 b).2.1 := by decide +kernel
theorem tyJ1_ok : ∀ k, k < 0 → parseFieldDescriptor (TJ1 k).2.2.1 = some (tyJ1 k) := by decide +kernel
abbrev cJ1_canEncode_9a6ad : ByteArray := prog_14_method_4_code
def yJ1_canEncode_9a6ad : MethodName := ⟨RJ1, "canEncode", "(I)Z"⟩
abbrev cJ1_indexOf_4cfef : ByteArray := prog_14_method_22_code
def yJ1_indexOf_4cfef : MethodName := ⟨RJ1, "indexOf", "([BIII)I"⟩
abbrev cJ1_indexOfChar_4cfef : ByteArray := prog_14_method_23_code
def yJ1_indexOfChar_4cfef : MethodName := ⟨RJ1, "indexOfChar", "([BIII)I"⟩
def RJ2 : String := "java/lang/StringUTF16"
def TJ2 : u_T := fun k => match k with
  | _ => ("", "", "", false)
def tyJ2 : Nat → FieldType := fun k => match k with
  | _ => .int
abbrev wsJ20 : List Cond := u_ws RJ2 TJ2 0
theorem nmJ2 : ∀ a, a < 0 → ∀ b, b < 0 → a ≠ b → (TJ2 a).2.1 ≠ (TJ2 b).2.1 := by decide +kernel
theorem tyJ2_ok : ∀ k, k < 0 → parseFieldDescriptor (TJ2 k).2.2.1 = some (tyJ2 k) := by decide +kernel
abbrev cJ2_getChar_3b067 : ByteArray := prog_15_method_5_code
def yJ2_getChar_3b067 : MethodName := ⟨RJ2, "getChar", "([BI)C"⟩
abbrev cJ2_length_9d52b : ByteArray := prog_15_method_6_code
def yJ2_length_9d52b : MethodName := ⟨RJ2, "length", "([B)I"⟩
abbrev cJ2_indexOf_4cfef : ByteArray := prog_15_method_40_code
def yJ2_indexOf_4cfef : MethodName := ⟨RJ2, "indexOf", "([BIII)I"⟩
abbrev cJ2_indexOfChar_4cfef : ByteArray := prog_15_method_47_code
def yJ2_indexOfChar_4cfef : MethodName := ⟨RJ2, "indexOfChar", "([BIII)I"⟩
abbrev cJ2_indexOfCharUnsafe_4cfef : ByteArray := prog_15_method_48_code
def yJ2_indexOfCharUnsafe_4cfef : MethodName := ⟨RJ2, "indexOfCharUnsafe", "([BIII)I"⟩
abbrev cJ2_indexOfSupplementary_4cfef : ByteArray := prog_15_method_49_code
def yJ2_indexOfSupplementary_4cfef : MethodName := ⟨RJ2, "indexOfSupplementary", "([BIII)I"⟩
abbrev cJ2_checkBoundsBeginEnd_d044e : ByteArray := prog_15_method_93_code
def yJ2_checkBoundsBeginEnd_d044e : MethodName := ⟨RJ2, "checkBoundsBeginEnd", "(II[B)V"⟩
end
section
-- ===== the words that every method shares =====
def zNest : Cond → Bool
  | .fieldLinkNest .. => true
  | .methodLinkNest .. => true
  | _ => false
def WS : List Cond := lw_tbl.filter goodWord
def NWS : List Cond := lw_tbl.filter zNest
theorem ws_at {w : Cond} (i : Nat) (h : lw_tbl[i]? = some w) (g : goodWord w = true) : w ∈ WS := List.mem_filter.mpr ⟨List.mem_of_getElem? h, g⟩
theorem nws_at {w : Cond} (i : Nat) (h : lw_tbl[i]? = some w) (g : zNest w = true) : w ∈ NWS := List.mem_filter.mpr ⟨List.mem_of_getElem? h, g⟩
theorem ws_good {w : Cond} (h : w ∈ WS) : goodWord w = true := (List.mem_filter.mp h).2
theorem ws_tbl {w : Cond} (h : w ∈ WS) : w ∈ lw_tbl := (List.mem_filter.mp h).1
theorem zgi {c0 : Cond} {x : List Cond} (h : ∀ w ∈ x, w ∈ WS) : GoodIn (c0 :: WS) x := fun w hw => ⟨List.mem_cons_of_mem _ (h w hw), good_of_word (ws_good (h w hw))⟩
-- ===== the classes, the cells, the store =====
abbrev CL : List vw_C := [(RX0, TX0, 3), (RX1, TX1, 5), (RX2, TX2, 2), (RX3, TX3, 6), (RX4, TX4, 1), (RX5, TX5, 2), (RX6, TX6, 4), (RX7, TX7, 13), (RX8, TX8, 16)]
/-- what a number is: the store of ints (a cell's number, a place in it), the one row of longs -/
abbrev St : Type := (Nat → Nat → Int32) × (Nat → Int64)
def zshop : List Nat := [3, 20, 10, 6, 11, 6, 11, 6, 11, 6, 11, 6, 11, 6, 11, 6, 11, 6, 11]
def zkinds : List Nat := 7 :: (zshop ++ zshop ++ zshop ++ [6, 11, 5, 12, 2, 13, 1, 10, 10, 0, 10, 14, 4, 21, 15, 16, 8, 17, 17, 17, 17, 12, 13, 16, 14, 18, 18])
/-- the kind of a cell: below 9 its class, 10 .. 18 a row of ints, 20 a row of things, 21 the row of longs -/
def kd (i : Nat) : Nat := zkinds.getD i 99
abbrev NC : Nat := 85
theorem kd_th {q : Nat} (h : kd q = 6) : kd (q + 1) = 11 := by
  have hq : q < 85 := by
    rcases Nat.lt_or_ge q 85 with g | g
    · exact g
    · have : kd q = 99 := by simp [kd, List.getD_eq_getElem?_getD, List.getElem?_eq_none (l := zkinds) (i := q) g]
      omega
  have key : ∀ i, i < 85 → kd i = 6 → kd (i + 1) = 11 := by decide +kernel
  exact key q hq h
theorem kd_lt {q k : Nat} (h : kd q = k) (hk : k < 99) : q < NC := by
  rcases Nat.lt_or_ge q 85 with g | g
  · exact g
  · have : kd q = 99 := by simp [kd, List.getD_eq_getElem?_getD, List.getElem?_eq_none (l := zkinds) (i := q) g]
    omega
theorem kd_sh1 {q : Nat} (h : kd q = 3) : kd (q + 1) = 20 := by
  have key : ∀ i, i < 85 → kd i = 3 → kd (i + 1) = 20 := by decide +kernel
  exact key q (kd_lt h (by decide)) h
theorem kd_sh2 {q : Nat} (h : kd q = 3) : kd (q + 2) = 10 := by
  have key : ∀ i, i < 85 → kd i = 3 → kd (i + 2) = 10 := by decide +kernel
  exact key q (kd_lt h (by decide)) h
theorem kd_sht {q j : Nat} (h : kd q = 3) (hj : j < 8) : kd (q + 1 + 2 + 2 * j) = 6 := by
  have key : ∀ i, i < 85 → ∀ j, j < 8 → kd i = 3 → kd (i + 1 + 2 + 2 * j) = 6 := by decide +kernel
  exact key q (kd_lt h (by decide)) j hj h
/-- the fields of an object, by its class, its number, its ints -/
def zf : Nat → Nat → (Nat → Int32) → List Value
  | 0, q, r => [.ref (q + 1), .ref (q + 2), .int (r 2)]
  | 1, q, r => [.ref (q + 1), .ref (q + 2), .int (r 2), .int (r 3), .int (r 4)]
  | 2, q, r => [.ref (q + 1), .int (r 1)]
  | 3, q, r => [.int (r 0), .int (r 1), .int (r 2), .int (r 3), .ref (q + 1), .ref (q + 2)]
  | 4, q, _ => [.ref (q + 1)]
  | 5, q, r => [.ref (q + 1), .int (r 1)]
  | 6, q, r => [.int (r 0), .int (r 1), .int (r 2), .ref (q + 1)]
  | 7, _, r => [.ref 1, .ref 20, .ref 39, .ref 58, .ref 60, .ref 62, .ref 64, .ref 67, .ref 70, .ref 72, .ref 73, .int (r 11), .int (r 12)]
  | _, _, r => [.ref 75, .ref 76, .ref 77, .ref 78, .int (r 4), .ref 79, .ref 80, .ref 81, .int (r 8), .int (r 9), .int (r 10), .ref 82, .int (r 12), .ref 83, .ref 84, .int (r 15)]
def il (k : Nat) : Nat := ([8, 12, 96, 16, 4, 20, 7, 132, 100] : List Nat).getD (k - 10) 0
/-- where the cells lie, and what the machine calls their classes -/
abbrev zR : Type := va_G × (Nat → Nat) × (ClassId × ClassId × ClassId) × (Nat × Nat)
def rv (ad : Nat → Nat) : Value → Value
  | .ref a => .ref (ad a)
  | v => v
theorem rv_cat (ad : Nat → Nat) (v : Value) : (rv ad v).category = v.category := by cases v <;> rfl
def zk (k : Nat) (ρ : zR) (i : Nat) (r : Nat → Int32) (L : Nat → Int64) : va_E :=
  if k < 9 then .inr (k, (zf k i r).map (rv ρ.2.1))
  else if k < 20 then .inl (ρ.2.2.1.1, (il k, .inl r))
  else if k = 20 then .inl (ρ.2.2.1.2.2, (8, .inr (.inr (.inr (.inr (fun j => some (ρ.2.1 (i + 2 + 2 * j))))))))
  else .inl (ρ.2.2.1.2.1, (9, .inr (.inl L)))
def zc (ρ : zR) (S : St) (i : Nat) : va_E := zk (kd i) ρ i (S.1 i) S.2
def world (ρ : zR) (S : St) : va_W := (List.range NC).map (fun i => (ρ.2.1 i, zc ρ S i))
def ztys (ρ : zR) : List (ClassId × FieldType) := [(ρ.2.2.1.1, .int), (ρ.2.2.1.2.1, .long), (ρ.2.2.1.2.2, .object RX6)]
theorem world_at (ρ : zR) (S : St) {i : Nat} (h : i < NC) : (world ρ S)[i]? = some (ρ.2.1 i, zc ρ S i) := by
  simp [world, h]
theorem world_len (ρ : zR) (S : St) : (world ρ S).length = NC := by simp [world]
theorem world_of {ρ : zR} {S : St} {k : Nat} {q : Nat × va_E} (h : (world ρ S)[k]? = some q) : k < NC ∧ q = (ρ.2.1 k, zc ρ S k) := by
  have hk : k < NC := by
    have := (List.getElem?_eq_some_iff.mp h).1
    rwa [world_len] at this
  rw [world_at ρ S hk] at h
  exact ⟨hk, (Option.some.inj h).symm⟩
theorem world_set {ρ : zR} {S S' : St} {q : Nat} {e : va_E} (h1 : zc ρ S' q = e) (h2 : ∀ i, i < NC → i ≠ q → zc ρ S' i = zc ρ S i) : (world ρ S).set q (ρ.2.1 q, e) = world ρ S' := by
  apply List.ext_getElem?
  intro i
  by_cases hi : i < NC
  · rw [world_at ρ S' hi]
    by_cases hq : i = q
    · subst hq
      rw [List.getElem?_set_self (by rw [world_len]; exact hi), h1]
    · rw [List.getElem?_set_ne (fun z => hq z.symm), world_at ρ S hi, h2 i hi hq]
  · rw [List.getElem?_eq_none (by simp [world_len]; omega), List.getElem?_eq_none (by simp [world_len]; omega)]
/-- writes -/
def up (S : St) (q k : Nat) (x : Int32) : St := (fun i j => if i = q ∧ j = k then x else S.1 i j, S.2)
def upL (S : St) (k : Nat) (x : Int64) : St := (S.1, vp_updL S.2 k x)
def upc (S : St) (q0 q sp dp n : Nat) : St := (fun i => if i = q then va_cpy (S.1 q0) (S.1 q) sp dp n else S.1 i, S.2)
theorem up_row (S : St) (q k : Nat) (x : Int32) : (up S q k x).1 q = upd (S.1 q) k x := by
  funext j
  simp [up, upd]
theorem up_ne {S : St} {q k : Nat} {x : Int32} {i : Nat} (h : i ≠ q) : (up S q k x).1 i = S.1 i := by
  funext j
  simp [up, h]
theorem upc_row (S : St) (q0 q sp dp n : Nat) : (upc S q0 q sp dp n).1 q = va_cpy (S.1 q0) (S.1 q) sp dp n := by simp [upc]
theorem upc_ne {S : St} {q0 q sp dp n i : Nat} (h : i ≠ q) : (upc S q0 q sp dp n).1 i = S.1 i := by simp [upc, h]
-- ===== the world's faces =====
def zI (ad : Nat → Nat) : Prop := ∀ i j, i < NC → j < NC → ad i = ad j → i = j
def zA (ad : Nat → Nat) (sz : Nat) : Nat → Prop := fun q => (∃ i, i < NC ∧ q = ad i) ∨ sz ≤ q
theorem zA_in {ad : Nat → Nat} {sz i : Nat} (h : i < NC) : zA ad sz (ad i) := Or.inl ⟨i, h, rfl⟩
theorem zA_up {ad : Nat → Nat} {a b q : Nat} (h : a ≤ b) (hq : zA ad b q) : zA ad a q := hq.elim Or.inl (fun x => Or.inr (Nat.le_trans h x))
theorem z_D {ρ : zR} {S : St} {sz : Nat} (h : zI ρ.2.1) : va_D (zA ρ.2.1 sz) (world ρ S) := by
  refine ⟨fun i j p q hi hj e => ?_, fun k q hk => ?_⟩
  · obtain ⟨h1, rfl⟩ := world_of hi
    obtain ⟨h2, rfl⟩ := world_of hj
    exact h i j h1 h2 e
  · obtain ⟨h1, rfl⟩ := world_of hk
    exact zA_in h1
/-- what stays: the tables, the nest mates' words, the one text -/
def zE (ρ : zR) (A : Nat → Prop) (U : State) (H : Heap) : Prop :=
  va_K ρ.1 CL (ztys ρ) U ∧ (∀ w ∈ NWS, va_Nw w U) ∧ vk_R RX5 27 "tcdpfw" ρ.2.2.2.1 U ∧
  vk_S 1 [6] [[116, 99, 100, 112, 102, 119]] (fun _ => ρ.2.2.2.1) (fun _ => ρ.2.2.2.2) A U H ∧ va_Z "java/lang/String" "COMPACT_STRINGS" "Z" (.int 1) A U H
theorem nws_kind {w : Cond} (h : w ∈ NWS) : w.onTables = true ∧ ((∃ a i b n d o, w = .fieldLinkNest a i b n d o) ∨ ∃ a i x o, w = .methodLinkNest a i x o) := by
  have h2 := (List.mem_filter.mp h).2
  cases w <;> first | (simp [zNest] at h2; done) | exact ⟨rfl, Or.inl ⟨_, _, _, _, _, _, rfl⟩⟩ | exact ⟨rfl, Or.inr ⟨_, _, _, _, rfl⟩⟩
theorem zE.same {ρ : zR} {A : Nat → Prop} {u U : State} {H : Heap} (hv : U.vm = u.vm) (h : zE ρ A u H) : zE ρ A U H := by
  have hal : u.vm.Alike U.vm := by rw [hv]; exact Vm.Alike.refl _
  exact ⟨va_K.moved hal h.1, fun w hw => va_Nw.same (nws_kind hw).1 hv.symm (h.2.1 w hw), vk_R.same hv h.2.2.1, vk_S.moved hal h.2.2.2.1, va_Z.moved hal h.2.2.2.2⟩
theorem zE.warm {ρ : zR} {A : Nat → Prop} {s U : State} {H : Heap} (hW : s.WarmedH U.vm) (h : zE ρ A s H) : zE ρ A U H := by
  refine ⟨va_K.moved hW.alike h.1, fun w hw => ?_, vk_R.warm hW h.2.2.1, vk_S.moved hW.alike h.2.2.2.1, va_Z.moved hW.alike h.2.2.2.2⟩
  rcases (nws_kind hw).2 with ⟨a, i, b, n, d, o, rfl⟩ | ⟨a, i, x, o, rfl⟩
  · exact va_Nw.warmF hW (h.2.1 _ hw)
  · exact va_Nw.warmM hW (h.2.1 _ hw)
theorem zE.kept {ρ : zR} {A : Nat → Prop} {U : State} {H H1 : Heap} (h : zE ρ A U H) (hq : ∀ a : Nat, a < H.size → ¬ A a → H1[a]? = H[a]?) : zE ρ A U H1 :=
  ⟨h.1, h.2.1, h.2.2.1, h.2.2.2.1.kept hq, h.2.2.2.2.kept hq⟩
theorem zE.narrow {ρ : zR} {A B : Nat → Prop} {U : State} {H : Heap} (h : zE ρ A U H) (hAB : ∀ q, B q → A q) : zE ρ B U H :=
  ⟨h.1, h.2.1, h.2.2.1, h.2.2.2.1.narrow hAB, h.2.2.2.2.narrow hAB⟩
/-- a method: its class, its code, its locals, what it answers, its room -/
abbrev zM : Type := String × ByteArray × Nat × Option FieldType × Nat × Nat
abbrev zrm (M : zM) : Room := { frames := M.2.2.2.2.1, cells := 0, slots := 0, locals := M.2.2.2.2.2 }
def zQ (ρ : zR) (w : Option Value) (S' : St) (A : Nat → Prop) : Array Value → State → Outcome → State → Prop := fun _ st oc t =>
  (oc = .returned (w.map (rv ρ.2.1)) ∧ va_P ρ.1 CL (world ρ S') t.heap) ∧ va_F A st t
def zB (ρ : zR) (sz : Nat) (S : St) (U : State) : Prop := U.heap.size = sz ∧ zI ρ.2.1 ∧ va_P ρ.1 CL (world ρ S) U.heap ∧ zE ρ (zA ρ.2.1 sz) U U.heap
/-- the contract: from the store S, with these arguments, the method answers w, and the store is S' -/
def CT (l : Launch) (y : MethodName) (M : zM) (as : List Value) (S : St) (w : Option Value) (S' : St) : Prop :=
  ∀ (ρ : zR) (sz : Nat), Met l y (.code y M.2.1 M.2.2.1 M.2.2.2.1 :: WS) (zrm M) (va_Pc (as.map (rv ρ.2.1)) (zB ρ sz S)) (zQ ρ w S' (zA ρ.2.1 sz)) 0 0 (zA ρ.2.1 sz)
def zX (y : MethodName) (M : zM) (ρ : zR) (sz : Nat) (p : Program) (s : State) (m : MethodId) (args : Array Value) (meth : Method) (c : Code) : Prop :=
  p.tables.exec = Jvm.exec ∧ c.code = M.2.1 ∧ meth.sig.returnType = M.2.2.2.1 ∧ c.maxLocals = M.2.2.1 ∧ meth.locks = false ∧ s.vm.findClass y.cls = some m.cls ∧
  (∀ w ∈ (Cond.code y M.2.1 M.2.2.1 M.2.2.2.1 :: WS), w.before args s = true) ∧ s.heap.size = sz ∧ zI ρ.2.1 ∧ zE ρ (zA ρ.2.1 sz) s s.heap
def zl (ad : Nat → Nat) (q : Nat × Value) : Nat × Value := (q.1, rv ad q.2)
/-- the machine in the method, at pc, with these locals, this stack, this store, comes to its end with w, S' -/
def Z (l : Launch) (y : MethodName) (M : zM) (pc : Nat) (lv : List (Nat × Value)) (st : List Value) (S : St) (w : Option Value) (S' : St) : Prop :=
  ∀ (ρ : zR) (sz : Nat) (p : Program) (e : Env) (s : State) (m : MethodId) (args : Array Value) (below : List Frame) (meth : Method) (c : Code), zX y M ρ sz p s m args meth c →
    ∀ (H : Heap) (locs : List Loc) (ls : Array Slot), va_P ρ.1 CL (world ρ S) H → va_S (zA ρ.2.1 sz) s.heap H locs → lv_has ls M.2.2.1 (lv.map (zl ρ.2.1)) →
      W p l e (zrm M) s m args below meth c H locs 0 0 (MQ below (zQ ρ w S' (zA ρ.2.1 sz)) args s 0 0 (zA ρ.2.1 sz)) (F0 m pc ls (st.map (rv ρ.2.1)))
theorem zargs (ad : Nat → Nat) : ∀ (i : Nat) (as : List Value), lv_args i (as.map (rv ad)) = (lv_args i as).map (zl ad)
  | _, [] => rfl
  | i, v :: vs => by
    show (i, rv ad v) :: lv_args (if (rv ad v).category = 2 then i + 2 else i + 1) (vs.map (rv ad)) = (i, rv ad v) :: (lv_args (if v.category = 2 then i + 2 else i + 1) vs).map (zl ad)
    rw [rv_cat, zargs ad _ vs]
theorem zlen (ad : Nat → Nat) : ∀ as : List Value, (lg_sl (as.map (rv ad))).length = (as.map Value.category).sum
  | [] => rfl
  | v :: vs => by
    have h2 : (lg_sl ((v :: vs).map (rv ad))).length = (if (rv ad v).category = 2 then 2 else 1) + (lg_sl (vs.map (rv ad))).length := by
      simp only [lg_sl, List.map_cons, List.flatMap_cons, List.length_append]
      split <;> rfl
    rw [h2, zlen ad vs, rv_cat, List.map_cons, List.sum_cons]
    cases v <;> rfl
/-- from the walk to the contract -/
theorem ct_of {l : Launch} {y : MethodName} {M : zM} {as : List Value} {S : St} {w : Option Value} {S' : St} {lv : List (Nat × Value)} (hy : plainName y.cls = true) (hlv : lv_args 0 as = lv) (hn : (as.map Value.category).sum ≤ M.2.2.1) (k : Z l y M 0 lv [] S w S') : CT l y M as S w S' := by
  intro ρ sz
  refine Met.ofW (cc := M.2.1) (maxL := M.2.2.1) (ret := M.2.2.2.1) hy rfl ?_
  intro p e s m args below meth c s₁ B hml hv
  obtain ⟨rfl, hsz, hI, hP, hE⟩ := hv
  have hts := atoms_spec (ws := Cond.code y M.2.1 M.2.2.1 M.2.2.2.1 :: WS) B.pre
  have hown : s.vm.findClass y.cls = some m.cls := findClass_of_methodNamed B.named
  have hlen : (lg_sl (as.map (rv ρ.2.1))).length ≤ M.2.2.1 := Nat.le_trans (Nat.le_of_eq (zlen ρ.2.1 as)) hn
  have hl := lv_entry (as.map (rv ρ.2.1)) (n := M.2.2.1) hlen
  rw [lg_entry_eq]
  rw [zargs, hlv] at hl
  exact k ρ sz p e s m _ below meth c ⟨B.exec, B.bytes, B.returns, hml, B.notSynchronized, hown, hts, hsz, hI, hE⟩ s.heap [] _ hP va_S.rf hl
section ZZ
variable {l : Launch} {y : MethodName} {M : zM} {pc : Nat} {lv : List (Nat × Value)} {st : List Value} {S : St} {w : Option Value} {S' : St}
theorem z_iconst {n : Int} {v : Int32} (d : decode M.2.1 pc = .ok (.iconst n, 1)) (hv : Int32.ofInt n = v) (k : Z l y M (pc + 1) lv (.int v :: st) S w S') : Z l y M pc lv (st) S w S' := fun ρ sz p e s m args below meth c X H locs ls hP hS hl =>
  lv_iconst X.1 X.2.1 d hv (k ρ sz p e s m args below meth c X H locs ls hP hS hl)
theorem z_bipush {n : Int} {v : Int32} (d : decode M.2.1 pc = .ok (.bipush n, 2)) (hv : (Int8.ofInt n).toInt32 = v) (k : Z l y M (pc + 2) lv (.int v :: st) S w S') : Z l y M pc lv (st) S w S' := fun ρ sz p e s m args below meth c X H locs ls hP hS hl =>
  lv_bipush X.1 X.2.1 d hv (k ρ sz p e s m args below meth c X H locs ls hP hS hl)
theorem z_sipush {n : Int} {v : Int32} (d : decode M.2.1 pc = .ok (.sipush n, 3)) (hv : (Int16.ofInt n).toInt32 = v) (k : Z l y M (pc + 3) lv (.int v :: st) S w S') : Z l y M pc lv (st) S w S' := fun ρ sz p e s m args below meth c X H locs ls hP hS hl =>
  lv_sipush X.1 X.2.1 d hv (k ρ sz p e s m args below meth c X H locs ls hP hS hl)
theorem z_lconst {n : Fin 2} {v : Int64} (d : decode M.2.1 pc = .ok (.lconst n, 1)) (hv : Int64.ofNat (n : Nat) = v) (k : Z l y M (pc + 1) lv (.long v :: st) S w S') : Z l y M pc lv (st) S w S' := fun ρ sz p e s m args below meth c X H locs ls hP hS hl =>
  lv_lconst X.1 X.2.1 d hv (k ρ sz p e s m args below meth c X H locs ls hP hS hl)
theorem z_iadd {a b : Int32} (d : decode M.2.1 pc = .ok (.iadd, 1)) (k : Z l y M (pc + 1) lv (.int (a + b) :: st) S w S') : Z l y M pc lv (.int b :: .int a :: st) S w S' := fun ρ sz p e s m args below meth c X H locs ls hP hS hl =>
  lv_iadd X.1 X.2.1 d (k ρ sz p e s m args below meth c X H locs ls hP hS hl)
theorem z_isub {a b : Int32} (d : decode M.2.1 pc = .ok (.isub, 1)) (k : Z l y M (pc + 1) lv (.int (a - b) :: st) S w S') : Z l y M pc lv (.int b :: .int a :: st) S w S' := fun ρ sz p e s m args below meth c X H locs ls hP hS hl =>
  lv_isub X.1 X.2.1 d (k ρ sz p e s m args below meth c X H locs ls hP hS hl)
theorem z_imul {a b : Int32} (d : decode M.2.1 pc = .ok (.imul, 1)) (k : Z l y M (pc + 1) lv (.int (a * b) :: st) S w S') : Z l y M pc lv (.int b :: .int a :: st) S w S' := fun ρ sz p e s m args below meth c X H locs ls hP hS hl =>
  lv_imul X.1 X.2.1 d (k ρ sz p e s m args below meth c X H locs ls hP hS hl)
theorem z_ishl {a b : Int32} (d : decode M.2.1 pc = .ok (.ishl, 1)) (k : Z l y M (pc + 1) lv (.int (a <<< (b &&& 31)) :: st) S w S') : Z l y M pc lv (.int b :: .int a :: st) S w S' := fun ρ sz p e s m args below meth c X H locs ls hP hS hl =>
  lv_ishl X.1 X.2.1 d (k ρ sz p e s m args below meth c X H locs ls hP hS hl)
theorem z_ishr {a b : Int32} (d : decode M.2.1 pc = .ok (.ishr, 1)) (k : Z l y M (pc + 1) lv (.int (a >>> (b &&& 31)) :: st) S w S') : Z l y M pc lv (.int b :: .int a :: st) S w S' := fun ρ sz p e s m args below meth c X H locs ls hP hS hl =>
  lv_ishr X.1 X.2.1 d (k ρ sz p e s m args below meth c X H locs ls hP hS hl)
theorem z_iand {a b : Int32} (d : decode M.2.1 pc = .ok (.iand, 1)) (k : Z l y M (pc + 1) lv (.int (a &&& b) :: st) S w S') : Z l y M pc lv (.int b :: .int a :: st) S w S' := fun ρ sz p e s m args below meth c X H locs ls hP hS hl =>
  lv_iand X.1 X.2.1 d (k ρ sz p e s m args below meth c X H locs ls hP hS hl)
theorem z_ior {a b : Int32} (d : decode M.2.1 pc = .ok (.ior, 1)) (k : Z l y M (pc + 1) lv (.int (a ||| b) :: st) S w S') : Z l y M pc lv (.int b :: .int a :: st) S w S' := fun ρ sz p e s m args below meth c X H locs ls hP hS hl =>
  lv_ior X.1 X.2.1 d (k ρ sz p e s m args below meth c X H locs ls hP hS hl)
theorem z_ixor {a b : Int32} (d : decode M.2.1 pc = .ok (.ixor, 1)) (k : Z l y M (pc + 1) lv (.int (a ^^^ b) :: st) S w S') : Z l y M pc lv (.int b :: .int a :: st) S w S' := fun ρ sz p e s m args below meth c X H locs ls hP hS hl =>
  lv_ixor X.1 X.2.1 d (k ρ sz p e s m args below meth c X H locs ls hP hS hl)
theorem z_idiv {a b : Int32} (d : decode M.2.1 pc = .ok (.idiv, 1)) (h : ¬ b = 0) (k : Z l y M (pc + 1) lv (.int (a / b) :: st) S w S') : Z l y M pc lv (.int b :: .int a :: st) S w S' := fun ρ sz p e s m args below meth c X H locs ls hP hS hl =>
  lv_idiv X.1 X.2.1 d h (k ρ sz p e s m args below meth c X H locs ls hP hS hl)
theorem z_irem {a b : Int32} (d : decode M.2.1 pc = .ok (.irem, 1)) (h : ¬ b = 0) (k : Z l y M (pc + 1) lv (.int (a - a / b * b) :: st) S w S') : Z l y M pc lv (.int b :: .int a :: st) S w S' := fun ρ sz p e s m args below meth c X H locs ls hP hS hl =>
  lv_irem X.1 X.2.1 d h (k ρ sz p e s m args below meth c X H locs ls hP hS hl)
theorem z_ineg {a : Int32} (d : decode M.2.1 pc = .ok (.ineg, 1)) (k : Z l y M (pc + 1) lv (.int (-a) :: st) S w S') : Z l y M pc lv (.int a :: st) S w S' := fun ρ sz p e s m args below meth c X H locs ls hP hS hl =>
  lv_ineg X.1 X.2.1 d (k ρ sz p e s m args below meth c X H locs ls hP hS hl)
theorem z_i2l {a : Int32} (d : decode M.2.1 pc = .ok (.i2l, 1)) (k : Z l y M (pc + 1) lv (.long a.toInt64 :: st) S w S') : Z l y M pc lv (.int a :: st) S w S' := fun ρ sz p e s m args below meth c X H locs ls hP hS hl =>
  lv_i2l X.1 X.2.1 d rfl (k ρ sz p e s m args below meth c X H locs ls hP hS hl)
theorem z_i2c {a : Int32} (d : decode M.2.1 pc = .ok (.i2c, 1)) (k : Z l y M (pc + 1) lv (.int (a.toUInt32 % 65536).toInt32 :: st) S w S') : Z l y M pc lv (.int a :: st) S w S' := fun ρ sz p e s m args below meth c X H locs ls hP hS hl =>
  lv_i2c X.1 X.2.1 d rfl (k ρ sz p e s m args below meth c X H locs ls hP hS hl)
theorem z_ladd {a b : Int64} (d : decode M.2.1 pc = .ok (.ladd, 1)) (k : Z l y M (pc + 1) lv (.long (a + b) :: st) S w S') : Z l y M pc lv (.long b :: .long a :: st) S w S' := fun ρ sz p e s m args below meth c X H locs ls hP hS hl =>
  lv_ladd X.1 X.2.1 d (k ρ sz p e s m args below meth c X H locs ls hP hS hl)
theorem z_lsub {a b : Int64} (d : decode M.2.1 pc = .ok (.lsub, 1)) (k : Z l y M (pc + 1) lv (.long (a - b) :: st) S w S') : Z l y M pc lv (.long b :: .long a :: st) S w S' := fun ρ sz p e s m args below meth c X H locs ls hP hS hl =>
  lv_lsub X.1 X.2.1 d (k ρ sz p e s m args below meth c X H locs ls hP hS hl)
theorem z_lmul {a b : Int64} (d : decode M.2.1 pc = .ok (.lmul, 1)) (k : Z l y M (pc + 1) lv (.long (a * b) :: st) S w S') : Z l y M pc lv (.long b :: .long a :: st) S w S' := fun ρ sz p e s m args below meth c X H locs ls hP hS hl =>
  lv_lmul X.1 X.2.1 d (k ρ sz p e s m args below meth c X H locs ls hP hS hl)
theorem z_ldiv {a b : Int64} (d : decode M.2.1 pc = .ok (.ldiv, 1)) (h : ¬ b = 0) (k : Z l y M (pc + 1) lv (.long (a / b) :: st) S w S') : Z l y M pc lv (.long b :: .long a :: st) S w S' := fun ρ sz p e s m args below meth c X H locs ls hP hS hl =>
  lv_ldiv X.1 X.2.1 d h (k ρ sz p e s m args below meth c X H locs ls hP hS hl)
theorem z_lrem {a b : Int64} (d : decode M.2.1 pc = .ok (.lrem, 1)) (h : ¬ b = 0) (k : Z l y M (pc + 1) lv (.long (a - a / b * b) :: st) S w S') : Z l y M pc lv (.long b :: .long a :: st) S w S' := fun ρ sz p e s m args below meth c X H locs ls hP hS hl =>
  lv_lrem X.1 X.2.1 d h (k ρ sz p e s m args below meth c X H locs ls hP hS hl)
theorem z_lcmp {a b : Int64} (d : decode M.2.1 pc = .ok (.lcmp, 1)) (k : Z l y M (pc + 1) lv (.int (lg_cmp a b) :: st) S w S') : Z l y M pc lv (.long b :: .long a :: st) S w S' := fun ρ sz p e s m args below meth c X H locs ls hP hS hl =>
  W.lcmp X.1 X.2.1 d (k ρ sz p e s m args below meth c X H locs ls hP hS hl)
theorem z_dup {v : Value} (d : decode M.2.1 pc = .ok (.dup, 1)) (hv : v.category = 1) (k : Z l y M (pc + 1) lv (v :: v :: st) S w S') : Z l y M pc lv (v :: st) S w S' := fun ρ sz p e s m args below meth c X H locs ls hP hS hl =>
  lv_dup X.1 X.2.1 d (by rw [rv_cat]; exact hv) (k ρ sz p e s m args below meth c X H locs ls hP hS hl)
theorem z_pop {v : Value} (d : decode M.2.1 pc = .ok (.pop, 1)) (hv : v.category = 1) (k : Z l y M (pc + 1) lv st S w S') : Z l y M pc lv (v :: st) S w S' := fun ρ sz p e s m args below meth c X H locs ls hP hS hl =>
  lv_pop X.1 X.2.1 d (by rw [rv_cat]; exact hv) (k ρ sz p e s m args below meth c X H locs ls hP hS hl)
theorem z_dup2 {v u : Value} (d : decode M.2.1 pc = .ok (.dup2, 1)) (hv : v.category = 1) (hu : u.category = 1) (k : Z l y M (pc + 1) lv (v :: u :: v :: u :: st) S w S') : Z l y M pc lv (v :: u :: st) S w S' := fun ρ sz p e s m args below meth c X H locs ls hP hS hl =>
  lv_dup2_11 X.1 X.2.1 d (by rw [rv_cat]; exact hv) (by rw [rv_cat]; exact hu) (k ρ sz p e s m args below meth c X H locs ls hP hS hl)
theorem zl_at {ad : Nat → Nat} {ls : Array Slot} {n : Nat} {lv : List (Nat × Value)} (hl : lv_has ls n (lv.map (zl ad))) {j i : Nat} {v : Value} (h : lv[j]? = some (i, v)) : ls[i]? = some (.val (rv ad v)) :=
  lv_at hl j (i := i) (v := rv ad v) (by rw [List.getElem?_map, h]; rfl)
theorem z_iload_n {k : Fin 4} {v : Int32} (j : Nat) (d : decode M.2.1 pc = .ok (.iload_n k, 1)) (h : lv[j]? = some ((k : Nat), .int v)) (kk : Z l y M (pc + 1) lv (.int v :: st) S w S') : Z l y M pc lv st S w S' := fun ρ sz p e s m args below meth c X H locs ls hP hS hl =>
  lv_iload_n X.1 X.2.1 d rfl (zl_at hl h) (kk ρ sz p e s m args below meth c X H locs ls hP hS hl)
theorem z_iload {i : Nat} {v : Int32} (j : Nat) (d : decode M.2.1 pc = .ok (.iload i, 2)) (h : lv[j]? = some (i, .int v)) (kk : Z l y M (pc + 2) lv (.int v :: st) S w S') : Z l y M pc lv st S w S' := fun ρ sz p e s m args below meth c X H locs ls hP hS hl =>
  lv_iload X.1 X.2.1 d (zl_at hl h) (kk ρ sz p e s m args below meth c X H locs ls hP hS hl)
theorem z_lload_n {k : Fin 4} {v : Int64} (j : Nat) (d : decode M.2.1 pc = .ok (.lload_n k, 1)) (h : lv[j]? = some ((k : Nat), .long v)) (kk : Z l y M (pc + 1) lv (.long v :: st) S w S') : Z l y M pc lv st S w S' := fun ρ sz p e s m args below meth c X H locs ls hP hS hl =>
  lv_lload_n X.1 X.2.1 d rfl (zl_at hl h) (kk ρ sz p e s m args below meth c X H locs ls hP hS hl)
theorem z_lload {i : Nat} {v : Int64} (j : Nat) (d : decode M.2.1 pc = .ok (.lload i, 2)) (h : lv[j]? = some (i, .long v)) (kk : Z l y M (pc + 2) lv (.long v :: st) S w S') : Z l y M pc lv st S w S' := fun ρ sz p e s m args below meth c X H locs ls hP hS hl =>
  lv_lload X.1 X.2.1 d (zl_at hl h) (kk ρ sz p e s m args below meth c X H locs ls hP hS hl)
theorem z_aload_n {k : Fin 4} {v : Nat} (j : Nat) (d : decode M.2.1 pc = .ok (.aload_n k, 1)) (h : lv[j]? = some ((k : Nat), .ref v)) (kk : Z l y M (pc + 1) lv (.ref v :: st) S w S') : Z l y M pc lv st S w S' := fun ρ sz p e s m args below meth c X H locs ls hP hS hl =>
  lv_aload_n X.1 X.2.1 d rfl (zl_at hl h) (kk ρ sz p e s m args below meth c X H locs ls hP hS hl)
theorem z_aload {i : Nat} {v : Nat} (j : Nat) (d : decode M.2.1 pc = .ok (.aload i, 2)) (h : lv[j]? = some (i, .ref v)) (kk : Z l y M (pc + 2) lv (.ref v :: st) S w S') : Z l y M pc lv st S w S' := fun ρ sz p e s m args below meth c X H locs ls hP hS hl =>
  lv_aload X.1 X.2.1 d (zl_at hl h) (kk ρ sz p e s m args below meth c X H locs ls hP hS hl)
theorem zpick {ad : Nat → Nat} {ls : Array Slot} {n : Nat} {l1 l2 : List (Nat × Value)} (ks : List Nat) (hl : lv_has ls n (l1.map (zl ad))) (h : lv_pick l1 ks = l2) : lv_has ls n (l2.map (zl ad)) := by
  refine lv_sub hl ks ?_
  subst h
  simp only [lv_pick]
  induction ks with
  | nil => rfl
  | cons k ks ih =>
    simp only [List.filterMap_cons, List.getElem?_map]
    cases l1[k]? with
    | none => simpa using ih
    | some q => simp only [Option.map_some, List.map_cons]; rw [← ih]; simp [List.getElem?_map]
def zf1 (i : Nat) (lv : List (Nat × Value)) : List (Nat × Value) := lv.filter (fun q => !(q.1 == i) && !(q.1 + 1 == i && q.2.category == 2))
def zf2 (i : Nat) (lv : List (Nat × Value)) : List (Nat × Value) := lv.filter (fun q => !(q.1 == i) && (!(q.1 == i + 1) && !(q.1 + 1 == i && q.2.category == 2)))
theorem zf1_map (ad : Nat → Nat) (i : Nat) (v : Value) (lv : List (Nat × Value)) : (i, rv ad v) :: (lv.map (zl ad)).filter (fun q => !(q.1 == i) && !(q.1 + 1 == i && q.2.category == 2)) = ((i, v) :: zf1 i lv).map (zl ad) := by
  simp only [List.map_cons, zf1, List.filter_map]
  congr 2
  apply List.filter_congr
  intro q _
  simp [zl, rv_cat]
theorem zf2_map (ad : Nat → Nat) (i : Nat) (v : Value) (lv : List (Nat × Value)) : (i, rv ad v) :: (lv.map (zl ad)).filter (fun q => !(q.1 == i) && (!(q.1 == i + 1) && !(q.1 + 1 == i && q.2.category == 2))) = ((i, v) :: zf2 i lv).map (zl ad) := by
  simp only [List.map_cons, zf2, List.filter_map]
  congr 2
  apply List.filter_congr
  intro q _
  simp [zl, rv_cat]
theorem z_istore_n {k : Fin 4} {v : Int32} {lv' : List (Nat × Value)} (ks : List Nat) (d : decode M.2.1 pc = .ok (.istore_n k, 1)) (hn : (k : Nat) < M.2.2.1) (h : lv_pick (((k : Nat), .int v) :: zf1 k lv) ks = lv') (kk : Z l y M (pc + 1) lv' st S w S') : Z l y M pc lv (.int v :: st) S w S' := fun ρ sz p e s m args below meth c X H locs ls hP hS hl =>
  lv_istore_n X.1 X.2.1 d rfl hl hn (zf1_map ρ.2.1 k (.int v) lv) (fun ls' hl' => kk ρ sz p e s m args below meth c X H locs ls' hP hS (zpick ks hl' h))
theorem z_istore {i : Nat} {v : Int32} {lv' : List (Nat × Value)} (ks : List Nat) (d : decode M.2.1 pc = .ok (.istore i, 2)) (hn : i < M.2.2.1) (h : lv_pick ((i, .int v) :: zf1 i lv) ks = lv') (kk : Z l y M (pc + 2) lv' st S w S') : Z l y M pc lv (.int v :: st) S w S' := fun ρ sz p e s m args below meth c X H locs ls hP hS hl =>
  lv_istore X.1 X.2.1 d hl hn (zf1_map ρ.2.1 i (.int v) lv) (fun ls' hl' => kk ρ sz p e s m args below meth c X H locs ls' hP hS (zpick ks hl' h))
theorem z_astore_n {k : Fin 4} {v : Nat} {lv' : List (Nat × Value)} (ks : List Nat) (d : decode M.2.1 pc = .ok (.astore_n k, 1)) (hn : (k : Nat) < M.2.2.1) (h : lv_pick (((k : Nat), .ref v) :: zf1 k lv) ks = lv') (kk : Z l y M (pc + 1) lv' st S w S') : Z l y M pc lv (.ref v :: st) S w S' := fun ρ sz p e s m args below meth c X H locs ls hP hS hl =>
  lv_astore_n X.1 X.2.1 d rfl hl hn (zf1_map ρ.2.1 k (.ref v) lv) (fun ls' hl' => kk ρ sz p e s m args below meth c X H locs ls' hP hS (zpick ks hl' h))
theorem z_astore {i : Nat} {v : Nat} {lv' : List (Nat × Value)} (ks : List Nat) (d : decode M.2.1 pc = .ok (.astore i, 2)) (hn : i < M.2.2.1) (h : lv_pick ((i, .ref v) :: zf1 i lv) ks = lv') (kk : Z l y M (pc + 2) lv' st S w S') : Z l y M pc lv (.ref v :: st) S w S' := fun ρ sz p e s m args below meth c X H locs ls hP hS hl =>
  lv_astore X.1 X.2.1 d hl hn (zf1_map ρ.2.1 i (.ref v) lv) (fun ls' hl' => kk ρ sz p e s m args below meth c X H locs ls' hP hS (zpick ks hl' h))
theorem z_lstore_n {k : Fin 4} {v : Int64} {lv' : List (Nat × Value)} (ks : List Nat) (d : decode M.2.1 pc = .ok (.lstore_n k, 1)) (hn : (k : Nat) + 1 < M.2.2.1) (h : lv_pick (((k : Nat), .long v) :: zf2 k lv) ks = lv') (kk : Z l y M (pc + 1) lv' st S w S') : Z l y M pc lv (.long v :: st) S w S' := fun ρ sz p e s m args below meth c X H locs ls hP hS hl =>
  lv_lstore_n X.1 X.2.1 d rfl hl hn (zf2_map ρ.2.1 k (.long v) lv) (fun ls' hl' => kk ρ sz p e s m args below meth c X H locs ls' hP hS (zpick ks hl' h))
theorem z_lstore {i : Nat} {v : Int64} {lv' : List (Nat × Value)} (ks : List Nat) (d : decode M.2.1 pc = .ok (.lstore i, 2)) (hn : i + 1 < M.2.2.1) (h : lv_pick ((i, .long v) :: zf2 i lv) ks = lv') (kk : Z l y M (pc + 2) lv' st S w S') : Z l y M pc lv (.long v :: st) S w S' := fun ρ sz p e s m args below meth c X H locs ls hP hS hl =>
  lv_lstore X.1 X.2.1 d hl hn (zf2_map ρ.2.1 i (.long v) lv) (fun ls' hl' => kk ρ sz p e s m args below meth c X H locs ls' hP hS (zpick ks hl' h))
theorem z_iinc {i : Nat} {n : Int} {x v : Int32} {lv' : List (Nat × Value)} (j : Nat) (ks : List Nat) (d : decode M.2.1 pc = .ok (.iinc i n, 3)) (hx : lv[j]? = some (i, .int x)) (hv : x + Int32.ofInt n = v) (hn : i < M.2.2.1) (h : lv_pick ((i, .int v) :: zf1 i lv) ks = lv') (kk : Z l y M (pc + 3) lv' st S w S') : Z l y M pc lv st S w S' := fun ρ sz p e s m args below meth c X H locs ls hP hS hl =>
  lv_iinc (k := j) X.1 X.2.1 d hl (by rw [List.getElem?_map, hx]; rfl) hv hn (zf1_map ρ.2.1 i (.int v) lv) (fun ls' hl' => kk ρ sz p e s m args below meth c X H locs ls' hP hS (zpick ks hl' h))
/-- fewer locals, in any order -/
theorem z_sub {lv' : List (Nat × Value)} (ks : List Nat) (h : lv_pick lv ks = lv') (kk : Z l y M pc lv' st S w S') : Z l y M pc lv st S w S' := fun ρ sz p e s m args below meth c X H locs ls hP hS hl =>
  kk ρ sz p e s m args below meth c X H locs ls hP hS (zpick ks hl h)
theorem z_goto {off : Int} {tgt : Nat} (d : decode M.2.1 pc = .ok (.goto off, 3)) (ht : (pc : Int) + off = (tgt : Int)) (k : Z l y M tgt lv st S w S') : Z l y M pc lv st S w S' := fun ρ sz p e s m args below meth c X H locs ls hP hS hl =>
  lv_goto X.1 X.2.1 d ht (k ρ sz p e s m args below meth c X H locs ls hP hS hl)
theorem z_icmp_eq {a b : Int32} {off : Int} {tgt : Nat} (d : decode M.2.1 pc = .ok (.if_icmp .eq off, 3)) (ht : (pc : Int) + off = (tgt : Int)) (kt : a = b → Z l y M tgt lv st S w S') (kf : ¬ a = b → Z l y M (pc + 3) lv st S w S') : Z l y M pc lv (.int b :: .int a :: st) S w S' := fun ρ sz p e s m args below meth c X H locs ls hP hS hl =>
  lv_icmp_eq X.1 X.2.1 d ht (fun q => kt q ρ sz p e s m args below meth c X H locs ls hP hS hl) (fun q => kf q ρ sz p e s m args below meth c X H locs ls hP hS hl)
theorem z_icmp_ne {a b : Int32} {off : Int} {tgt : Nat} (d : decode M.2.1 pc = .ok (.if_icmp .ne off, 3)) (ht : (pc : Int) + off = (tgt : Int)) (kt : ¬ a = b → Z l y M tgt lv st S w S') (kf : a = b → Z l y M (pc + 3) lv st S w S') : Z l y M pc lv (.int b :: .int a :: st) S w S' := fun ρ sz p e s m args below meth c X H locs ls hP hS hl =>
  lv_icmp_ne X.1 X.2.1 d ht (fun q => kt q ρ sz p e s m args below meth c X H locs ls hP hS hl) (fun q => kf q ρ sz p e s m args below meth c X H locs ls hP hS hl)
theorem z_icmp_lt {a b : Int32} {off : Int} {tgt : Nat} (d : decode M.2.1 pc = .ok (.if_icmp .lt off, 3)) (ht : (pc : Int) + off = (tgt : Int)) (kt : a < b → Z l y M tgt lv st S w S') (kf : ¬ a < b → Z l y M (pc + 3) lv st S w S') : Z l y M pc lv (.int b :: .int a :: st) S w S' := fun ρ sz p e s m args below meth c X H locs ls hP hS hl =>
  lv_icmp_lt X.1 X.2.1 d ht (fun q => kt q ρ sz p e s m args below meth c X H locs ls hP hS hl) (fun q => kf q ρ sz p e s m args below meth c X H locs ls hP hS hl)
theorem z_icmp_ge {a b : Int32} {off : Int} {tgt : Nat} (d : decode M.2.1 pc = .ok (.if_icmp .ge off, 3)) (ht : (pc : Int) + off = (tgt : Int)) (kt : b ≤ a → Z l y M tgt lv st S w S') (kf : ¬ b ≤ a → Z l y M (pc + 3) lv st S w S') : Z l y M pc lv (.int b :: .int a :: st) S w S' := fun ρ sz p e s m args below meth c X H locs ls hP hS hl =>
  lv_icmp_ge X.1 X.2.1 d ht (fun q => kt q ρ sz p e s m args below meth c X H locs ls hP hS hl) (fun q => kf q ρ sz p e s m args below meth c X H locs ls hP hS hl)
theorem z_icmp_gt {a b : Int32} {off : Int} {tgt : Nat} (d : decode M.2.1 pc = .ok (.if_icmp .gt off, 3)) (ht : (pc : Int) + off = (tgt : Int)) (kt : b < a → Z l y M tgt lv st S w S') (kf : ¬ b < a → Z l y M (pc + 3) lv st S w S') : Z l y M pc lv (.int b :: .int a :: st) S w S' := fun ρ sz p e s m args below meth c X H locs ls hP hS hl =>
  lv_icmp_gt X.1 X.2.1 d ht (fun q => kt q ρ sz p e s m args below meth c X H locs ls hP hS hl) (fun q => kf q ρ sz p e s m args below meth c X H locs ls hP hS hl)
theorem z_icmp_le {a b : Int32} {off : Int} {tgt : Nat} (d : decode M.2.1 pc = .ok (.if_icmp .le off, 3)) (ht : (pc : Int) + off = (tgt : Int)) (kt : a ≤ b → Z l y M tgt lv st S w S') (kf : ¬ a ≤ b → Z l y M (pc + 3) lv st S w S') : Z l y M pc lv (.int b :: .int a :: st) S w S' := fun ρ sz p e s m args below meth c X H locs ls hP hS hl =>
  lv_icmp_le X.1 X.2.1 d ht (fun q => kt q ρ sz p e s m args below meth c X H locs ls hP hS hl) (fun q => kf q ρ sz p e s m args below meth c X H locs ls hP hS hl)
theorem z_if_eq {a : Int32} {off : Int} {tgt : Nat} (d : decode M.2.1 pc = .ok (.ifCond .eq off, 3)) (ht : (pc : Int) + off = (tgt : Int)) (kt : a = 0 → Z l y M tgt lv st S w S') (kf : ¬ a = 0 → Z l y M (pc + 3) lv st S w S') : Z l y M pc lv (.int a :: st) S w S' := fun ρ sz p e s m args below meth c X H locs ls hP hS hl =>
  lv_if_eq X.1 X.2.1 d ht (fun q => kt q ρ sz p e s m args below meth c X H locs ls hP hS hl) (fun q => kf q ρ sz p e s m args below meth c X H locs ls hP hS hl)
theorem z_if_ne {a : Int32} {off : Int} {tgt : Nat} (d : decode M.2.1 pc = .ok (.ifCond .ne off, 3)) (ht : (pc : Int) + off = (tgt : Int)) (kt : ¬ a = 0 → Z l y M tgt lv st S w S') (kf : a = 0 → Z l y M (pc + 3) lv st S w S') : Z l y M pc lv (.int a :: st) S w S' := fun ρ sz p e s m args below meth c X H locs ls hP hS hl =>
  lv_if_ne X.1 X.2.1 d ht (fun q => kt q ρ sz p e s m args below meth c X H locs ls hP hS hl) (fun q => kf q ρ sz p e s m args below meth c X H locs ls hP hS hl)
theorem z_if_lt {a : Int32} {off : Int} {tgt : Nat} (d : decode M.2.1 pc = .ok (.ifCond .lt off, 3)) (ht : (pc : Int) + off = (tgt : Int)) (kt : a < 0 → Z l y M tgt lv st S w S') (kf : ¬ a < 0 → Z l y M (pc + 3) lv st S w S') : Z l y M pc lv (.int a :: st) S w S' := fun ρ sz p e s m args below meth c X H locs ls hP hS hl =>
  lv_if_lt X.1 X.2.1 d ht (fun q => kt q ρ sz p e s m args below meth c X H locs ls hP hS hl) (fun q => kf q ρ sz p e s m args below meth c X H locs ls hP hS hl)
theorem z_if_ge {a : Int32} {off : Int} {tgt : Nat} (d : decode M.2.1 pc = .ok (.ifCond .ge off, 3)) (ht : (pc : Int) + off = (tgt : Int)) (kt : 0 ≤ a → Z l y M tgt lv st S w S') (kf : ¬ 0 ≤ a → Z l y M (pc + 3) lv st S w S') : Z l y M pc lv (.int a :: st) S w S' := fun ρ sz p e s m args below meth c X H locs ls hP hS hl =>
  lv_if_ge X.1 X.2.1 d ht (fun q => kt q ρ sz p e s m args below meth c X H locs ls hP hS hl) (fun q => kf q ρ sz p e s m args below meth c X H locs ls hP hS hl)
theorem z_if_gt {a : Int32} {off : Int} {tgt : Nat} (d : decode M.2.1 pc = .ok (.ifCond .gt off, 3)) (ht : (pc : Int) + off = (tgt : Int)) (kt : 0 < a → Z l y M tgt lv st S w S') (kf : ¬ 0 < a → Z l y M (pc + 3) lv st S w S') : Z l y M pc lv (.int a :: st) S w S' := fun ρ sz p e s m args below meth c X H locs ls hP hS hl =>
  lv_if_gt X.1 X.2.1 d ht (fun q => kt q ρ sz p e s m args below meth c X H locs ls hP hS hl) (fun q => kf q ρ sz p e s m args below meth c X H locs ls hP hS hl)
theorem z_if_le {a : Int32} {off : Int} {tgt : Nat} (d : decode M.2.1 pc = .ok (.ifCond .le off, 3)) (ht : (pc : Int) + off = (tgt : Int)) (kt : a ≤ 0 → Z l y M tgt lv st S w S') (kf : ¬ a ≤ 0 → Z l y M (pc + 3) lv st S w S') : Z l y M pc lv (.int a :: st) S w S' := fun ρ sz p e s m args below meth c X H locs ls hP hS hl =>
  lv_if_le X.1 X.2.1 d ht (fun q => kt q ρ sz p e s m args below meth c X H locs ls hP hS hl) (fun q => kf q ρ sz p e s m args below meth c X H locs ls hP hS hl)
theorem z_lookup {dflt : Int} {ps : Array (Int × Int)} {len : Nat} {x : Int32} {off : Int} {tgt : Nat} (d : decode M.2.1 pc = .ok (.lookupswitch dflt ps, len)) (hp : (ps.toList.zip (ps.toList.drop 1)).all (fun (a, next) => a.1 < next.1) = true) (ho : Op.lookupswitch.offset ps.toList dflt x.toInt = off) (ht : (pc : Int) + off = (tgt : Int)) (k : Z l y M tgt lv st S w S') : Z l y M pc lv (.int x :: st) S w S' := fun ρ sz p e s m args below meth c X H locs ls hP hS hl =>
  lv_lookup X.1 X.2.1 d hp ho ht (k ρ sz p e s m args below meth c X H locs ls hP hS hl)
theorem z_tableOut {dflt lo hi : Int} {offs : Array Int} {len : Nat} {x : Int32} {tgt : Nat} (d : decode M.2.1 pc = .ok (.tableswitch dflt lo hi offs, len)) (h : x.toInt < lo ∨ hi < x.toInt) (ht : (pc : Int) + dflt = (tgt : Int)) (k : Z l y M tgt lv st S w S') : Z l y M pc lv (.int x :: st) S w S' := fun ρ sz p e s m args below meth c X H locs ls hP hS hl =>
  lv_tableOut X.1 X.2.1 d h ht (k ρ sz p e s m args below meth c X H locs ls hP hS hl)
theorem z_tableIn {dflt lo hi : Int} {offs : Array Int} {len : Nat} {x : Int32} {off : Int} {tgt : Nat} (d : decode M.2.1 pc = .ok (.tableswitch dflt lo hi offs, len)) (h1 : ¬ x.toInt < lo) (h2 : ¬ hi < x.toInt) (ho : offs[(x.toInt - lo).toNat]? = some off) (ht : (pc : Int) + off = (tgt : Int)) (k : Z l y M tgt lv st S w S') : Z l y M pc lv (.int x :: st) S w S' := fun ρ sz p e s m args below meth c X H locs ls hP hS hl =>
  lv_tableIn X.1 X.2.1 d h1 h2 ho ht (k ρ sz p e s m args below meth c X H locs ls hP hS hl)
theorem z_ldc {index : Nat} {v : Int32} (hc : Cond.constant y.cls index v ∈ WS) (d : decode M.2.1 pc = .ok (.ldc index, 2)) (k : Z l y M (pc + 2) lv (.int v :: st) S w S') : Z l y M pc lv st S w S' := fun ρ sz p e s m args below meth c X H locs ls hP hS hl =>
  lv_ldc X.1 X.2.1 X.2.2.2.2.2.1 (X.2.2.2.2.2.2.1 _ (List.mem_cons_of_mem _ hc)) d (k ρ sz p e s m args below meth c X H locs ls hP hS hl)
theorem z_ldc2 {index : Nat} {v : Int64} (hc : Cond.constantLong y.cls index v ∈ WS) (d : decode M.2.1 pc = .ok (.ldc2_w index, 3)) (k : Z l y M (pc + 3) lv (.long v :: st) S w S') : Z l y M pc lv st S w S' := fun ρ sz p e s m args below meth c X H locs ls hP hS hl =>
  lv_ldc2 X.1 X.2.1 X.2.2.2.2.2.1 (X.2.2.2.2.2.2.1 _ (List.mem_cons_of_mem _ hc)) d (k ρ sz p e s m args below meth c X H locs ls hP hS hl)
theorem zc_obj {ρ : zR} {S : St} {q ci : Nat} (hk : kd q = ci) (hc : ci < 9) : zc ρ S q = .inr (ci, (zf ci q (S.1 q)).map (rv ρ.2.1)) := by
  unfold zc zk
  rw [hk, if_pos hc]
theorem zc_ints {ρ : zR} {S : St} {q k : Nat} (hk : kd q = k) (hc : ¬ k < 9) (h2 : k < 20) : zc ρ S q = .inl (ρ.2.2.1.1, (il k, .inl (S.1 q))) := by
  unfold zc zk
  rw [hk, if_neg hc, if_pos h2]
theorem zc_things {ρ : zR} {S : St} {q : Nat} (hk : kd q = 20) : zc ρ S q = .inl (ρ.2.2.1.2.2, (8, .inr (.inr (.inr (.inr (fun j => some (ρ.2.1 (q + 2 + 2 * j)))))))) := by
  unfold zc zk
  rw [hk, if_neg (by decide), if_neg (by decide), if_pos rfl]
theorem zc_longs {ρ : zR} {S : St} {q : Nat} (hk : kd q = 21) : zc ρ S q = .inl (ρ.2.2.1.2.1, (9, .inr (.inl S.2))) := by
  unfold zc zk
  rw [hk, if_neg (by decide), if_neg (by decide), if_neg (by decide)]
theorem zc_up_ne {ρ : zR} {S : St} {q k : Nat} {x : Int32} {i : Nat} (h : i ≠ q) : zc ρ (up S q k x) i = zc ρ S i := by
  unfold zc
  rw [up_ne h]
  rfl
theorem zc_upc_ne {ρ : zR} {S : St} {q0 q sp dp n i : Nat} (h : i ≠ q) : zc ρ (upc S q0 q sp dp n) i = zc ρ S i := by
  unfold zc
  rw [upc_ne h]
  rfl
/-- a link of a field: own class' entry idx is field k of class ci -/
def zFL (own : String) (idx : Nat) (ci k : Nat) : Prop := ∃ (C : String) (T : u_T) (N : Nat), CL[ci]? = some (C, T, N) ∧ ci < 9 ∧ k < N ∧ (∀ w ∈ u_ws C T N, w ∈ WS) ∧ (T k).1 = C ∧
  (Cond.fieldLink own idx C (T k).2.1 (T k).2.2.1 ∈ WS ∨ ∃ host, Cond.fieldLinkNest own idx C (T k).2.1 (T k).2.2.1 host ∈ NWS)
theorem z_get {idx q ci fk : Nat} {v : Value} (d : decode M.2.1 pc = .ok (.getfield idx, 3)) (lk : zFL y.cls idx ci fk) (hk : kd q = ci) (hv : (zf ci q (S.1 q))[fk]? = some v) (k : Z l y M (pc + 3) lv (v :: st) S w S') : Z l y M pc lv (.ref q :: st) S w S' := by
  intro ρ sz p e s m args below meth c X H locs ls hP hS hl
  obtain ⟨C, T, N, h1, h2, h3, h4, h5, h6⟩ := lk
  obtain ⟨hx, hb, hr, hml, hlo, hown, hts, hsz, hI, hE⟩ := id X
  have he : (world ρ S)[q]? = some (ρ.2.1 q, .inr (ci, (zf ci q (S.1 q)).map (rv ρ.2.1))) := by
    rw [world_at ρ S (kd_lt hk (by omega)), zc_obj hk h2]
  have hv' : ((zf ci q (S.1 q)).map (rv ρ.2.1))[fk]? = some (rv ρ.2.1 v) := by rw [List.getElem?_map, hv]; rfl
  have kk := k ρ sz p e s m args below meth c X H locs ls hP hS hl
  have hin : ∀ w ∈ u_ws C T N, w ∈ (Cond.code y M.2.1 M.2.2.1 M.2.2.2.1 :: WS) := fun w hw => List.mem_cons_of_mem _ (h4 w hw)
  rcases h6 with h6 | ⟨host, h6⟩
  · exact va_get (D := ρ.1) (ci := ci) (ref := C) (C := C) (T := T) (N := N) hx hb hts hin hown hE.1 hP q he h1 fk h3 (hts _ (List.mem_cons_of_mem _ h6)) (by rw [h5]; exact fun _ h9 => h9) hv' d kk
  · exact va_getN (D := ρ.1) (ci := ci) (ref := C) (C := C) (T := T) (N := N) hx hb hts hin hown hE.1 hP q he h1 fk h3 (va_Nw.use rfl (hE.2.1 _ h6)) (by rw [h5]; exact fun _ h9 => h9) hv' d kk
/-- what a field may be written with -/
def zFP (ci k : Nat) (ty : FieldType) : Prop := ∃ (C : String) (T : u_T) (N : Nat) (ty0 : Nat → FieldType), CL[ci]? = some (C, T, N) ∧ (∀ k, k < N → parseFieldDescriptor (T k).2.2.1 = some (ty0 k)) ∧ (∀ a, a < N → ∀ b, b < N → a ≠ b → (T a).2.1 ≠ (T b).2.1) ∧ (T k).2.2.2 = false ∧ parseFieldDescriptor (T k).2.2.1 = some ty
theorem z_put {idx q ci fk : Nat} {x : Int32} {ty : FieldType} (d : decode M.2.1 pc = .ok (.putfield idx, 3)) (lk : zFL y.cls idx ci fk) (lp : zFP ci fk ty) (hk : kd q = ci) (hn : narrow ty (.int x) = .int x) (hfit : fits ty (.int x) = true) (hv : zf ci q (upd (S.1 q) fk x) = (zf ci q (S.1 q)).set fk (.int x)) (hl0 : fk < (zf ci q (S.1 q)).length) (k : Z l y M (pc + 3) lv st (up S q fk x) w S') : Z l y M pc lv (.int x :: .ref q :: st) S w S' := by
  intro ρ sz p e s m args below meth c X H locs ls hP hS hl
  obtain ⟨C, T, N, h1, h2, h3, h4, h5, h6⟩ := lk
  obtain ⟨C', T', N', ty0, g1, g2, g3, g4, g5⟩ := lp
  obtain ⟨rfl, rfl, rfl⟩ : C' = C ∧ T' = T ∧ N' = N := by
    have := g1.symm.trans h1
    simpa using this
  obtain ⟨hx, hb, hr, hml, hlo, hown, hts, hsz, hI, hE⟩ := id X
  have hq : q < NC := kd_lt hk (by omega)
  have he : (world ρ S)[q]? = some (ρ.2.1 q, .inr (ci, (zf ci q (S.1 q)).map (rv ρ.2.1))) := by
    rw [world_at ρ S hq, zc_obj hk h2]
  have hin : ∀ w ∈ u_ws C' T' N', w ∈ (Cond.code y M.2.1 M.2.2.1 M.2.2.2.1 :: WS) := fun w hw => List.mem_cons_of_mem _ (h4 w hw)
  have hw : (world ρ S).set q (ρ.2.1 q, .inr (ci, ((zf ci q (S.1 q)).map (rv ρ.2.1)).set fk (.int x))) = world ρ (up S q fk x) := by
    refine world_set ?_ (fun i _ h => zc_up_ne h)
    rw [zc_obj hk h2, up_row, hv, List.map_set]
    rfl
  have kk : ∀ (H1 : Heap) (locs1 : List Loc), va_P ρ.1 CL ((world ρ S).set q (ρ.2.1 q, .inr (ci, ((zf ci q (S.1 q)).map (rv ρ.2.1)).set fk (.int x)))) H1 → va_D (zA ρ.2.1 sz) ((world ρ S).set q (ρ.2.1 q, .inr (ci, ((zf ci q (S.1 q)).map (rv ρ.2.1)).set fk (.int x)))) → va_S (zA ρ.2.1 sz) s.heap H1 locs1 → W p l e (zrm M) s m args below meth c H1 locs1 0 0 (MQ below (zQ ρ w S' (zA ρ.2.1 sz)) args s 0 0 (zA ρ.2.1 sz)) (F0 m (pc + 3) ls (st.map (rv ρ.2.1))) := by
    intro H1 locs1 p1 _ s1
    rw [hw] at p1
    exact k ρ sz p e s m args below meth c X H1 locs1 ls p1 s1 hl
  rcases h6 with h6 | ⟨host, h6⟩
  · exact va_put (D := ρ.1) (ci := ci) (v := .int x) (ref := C') (C := C') (T := T') (N := N') hx hb hts hin ty0 g2 g3 hown hE.1 hP (z_D hI) hS q he h1 fk h3 (hts _ (List.mem_cons_of_mem _ h6)) (by rw [h5]; exact fun _ h9 => h9) g4 g5 hn hfit (by rw [List.length_map]; exact hl0) d kk
  · exact va_putN (D := ρ.1) (ci := ci) (v := .int x) (ref := C') (C := C') (T := T') (N := N') hx hb hts hin ty0 g2 g3 hown hE.1 hP (z_D hI) hS q he h1 fk h3 (va_Nw.use rfl (hE.2.1 _ h6)) (by rw [h5]; exact fun _ h9 => h9) g4 g5 hn hfit (by rw [List.length_map]; exact hl0) d kk
theorem z_iald {q k0 : Nat} {i : Int32} (d : decode M.2.1 pc = .ok (.iaload, 1)) (hk : kd q = k0) (hc : ¬ k0 < 9 ∧ k0 < 20) (hin : ¬ (i < 0 ∨ il k0 ≤ i.toNatClampNeg)) (k : Z l y M (pc + 1) lv (.int (S.1 q i.toNatClampNeg) :: st) S w S') : Z l y M pc lv (.int i :: .ref q :: st) S w S' := by
  intro ρ sz p e s m args below meth c X H locs ls hP hS hl
  have he : (world ρ S)[q]? = some (ρ.2.1 q, .inl (ρ.2.2.1.1, (il k0, .inl (S.1 q)))) := by rw [world_at ρ S (kd_lt hk (by omega)), zc_ints hk hc.1 hc.2]
  exact va_iald X.1 X.2.1 X.2.2.2.2.2.2.2.2.2.1 hP q 0 he rfl hin d (k ρ sz p e s m args below meth c X H locs ls hP hS hl)
theorem z_iast {q k0 : Nat} {i x : Int32} (d : decode M.2.1 pc = .ok (.iastore, 1)) (hk : kd q = k0) (hc : ¬ k0 < 9 ∧ k0 < 20) (hin : ¬ (i < 0 ∨ il k0 ≤ i.toNatClampNeg)) (k : Z l y M (pc + 1) lv st (up S q i.toNatClampNeg x) w S') : Z l y M pc lv (.int x :: .int i :: .ref q :: st) S w S' := by
  intro ρ sz p e s m args below meth c X H locs ls hP hS hl
  have he : (world ρ S)[q]? = some (ρ.2.1 q, .inl (ρ.2.2.1.1, (il k0, .inl (S.1 q)))) := by rw [world_at ρ S (kd_lt hk (by omega)), zc_ints hk hc.1 hc.2]
  refine va_iast X.1 X.2.1 X.2.2.2.2.2.2.2.2.2.1 hP (z_D X.2.2.2.2.2.2.2.2.1) hS q 0 he rfl hin d (fun H1 locs1 p1 _ s1 => ?_)
  have hw : (world ρ S).set q (ρ.2.1 q, .inl (ρ.2.2.1.1, il k0, .inl (upd (S.1 q) i.toNatClampNeg x))) = world ρ (up S q i.toNatClampNeg x) := by
    refine world_set ?_ (fun i _ h => zc_up_ne h)
    rw [zc_ints hk hc.1 hc.2, up_row]
  rw [hw] at p1
  exact k ρ sz p e s m args below meth c X H1 locs1 ls p1 s1 hl
theorem z_lald {q : Nat} {i : Int32} (d : decode M.2.1 pc = .ok (.laload, 1)) (hk : kd q = 21) (hin : ¬ (i < 0 ∨ 9 ≤ i.toNatClampNeg)) (k : Z l y M (pc + 1) lv (.long (S.2 i.toNatClampNeg) :: st) S w S') : Z l y M pc lv (.int i :: .ref q :: st) S w S' := by
  intro ρ sz p e s m args below meth c X H locs ls hP hS hl
  have he : (world ρ S)[q]? = some (ρ.2.1 q, .inl (ρ.2.2.1.2.1, (9, .inr (.inl S.2)))) := by rw [world_at ρ S (kd_lt hk (by omega)), zc_longs hk]
  exact va_lald X.1 X.2.1 X.2.2.2.2.2.2.2.2.2.1 hP q 1 he rfl hin d (k ρ sz p e s m args below meth c X H locs ls hP hS hl)
theorem kd_longs {i : Nat} (hi : i < NC) (h : kd i = 21) : i = 71 := by
  have key : ∀ i, i < 85 → kd i = 21 → i = 71 := by decide +kernel
  exact key i hi h
theorem kd_all {i : Nat} (hi : i < NC) : kd i < 9 ∨ (¬ kd i < 9 ∧ kd i < 20) ∨ kd i = 20 ∨ kd i = 21 := by
  have key : ∀ i, i < 85 → kd i < 9 ∨ (¬ kd i < 9 ∧ kd i < 20) ∨ kd i = 20 ∨ kd i = 21 := by decide +kernel
  exact key i hi
theorem z_last {q : Nat} {i : Int32} {x : Int64} (d : decode M.2.1 pc = .ok (.lastore, 1)) (hk : kd q = 21) (hin : ¬ (i < 0 ∨ 9 ≤ i.toNatClampNeg)) (k : Z l y M (pc + 1) lv st (upL S i.toNatClampNeg x) w S') : Z l y M pc lv (.long x :: .int i :: .ref q :: st) S w S' := by
  intro ρ sz p e s m args below meth c X H locs ls hP hS hl
  have hq : q < NC := kd_lt hk (by omega)
  have he : (world ρ S)[q]? = some (ρ.2.1 q, .inl (ρ.2.2.1.2.1, (9, .inr (.inl S.2)))) := by rw [world_at ρ S hq, zc_longs hk]
  refine va_last X.1 X.2.1 X.2.2.2.2.2.2.2.2.2.1 hP (z_D X.2.2.2.2.2.2.2.2.1) hS q 1 he rfl hin d (fun H1 locs1 p1 _ s1 => ?_)
  have hw : (world ρ S).set q (ρ.2.1 q, .inl (ρ.2.2.1.2.1, 9, .inr (.inl (vp_updL S.2 i.toNatClampNeg x)))) = world ρ (upL S i.toNatClampNeg x) := by
    refine world_set ?_ (fun j hj h => ?_)
    · rw [zc_longs hk]
      rfl
    · rcases kd_all hj with h1 | h1 | h1 | h1
      · rw [zc_obj rfl h1, zc_obj rfl h1]; rfl
      · rw [zc_ints rfl h1.1 h1.2, zc_ints rfl h1.1 h1.2]; rfl
      · rw [zc_things h1, zc_things h1]
      · exact absurd ((kd_longs hj h1).trans (kd_longs hq hk).symm) h
  rw [hw] at p1
  exact k ρ sz p e s m args below meth c X H1 locs1 ls p1 s1 hl
theorem z_aald {q : Nat} {i : Int32} (d : decode M.2.1 pc = .ok (.aaload, 1)) (hk : kd q = 20) (hin : ¬ (i < 0 ∨ 8 ≤ i.toNatClampNeg)) (k : Z l y M (pc + 1) lv (.ref (q + 2 + 2 * i.toNatClampNeg) :: st) S w S') : Z l y M pc lv (.int i :: .ref q :: st) S w S' := by
  intro ρ sz p e s m args below meth c X H locs ls hP hS hl
  have he : (world ρ S)[q]? = some (ρ.2.1 q, .inl (ρ.2.2.1.2.2, (8, .inr (.inr (.inr (.inr (fun j => some (ρ.2.1 (q + 2 + 2 * j))))))))) := by rw [world_at ρ S (kd_lt hk (by omega)), zc_things hk]
  exact va_aldq X.1 X.2.1 X.2.2.2.2.2.2.2.2.2.1 hP q 2 (C := RX6) he rfl hin d (k ρ sz p e s m args below meth c X H locs ls hP hS hl)
theorem z_alen {q k0 : Nat} {v : Int32} (d : decode M.2.1 pc = .ok (.arraylength, 1)) (hk : kd q = k0) (hc : ¬ k0 < 9 ∧ k0 < 20) (hv : Int32.ofNat (il k0) = v) (k : Z l y M (pc + 1) lv (.int v :: st) S w S') : Z l y M pc lv (.ref q :: st) S w S' := by
  intro ρ sz p e s m args below meth c X H locs ls hP hS hl
  have he : (world ρ S)[q]? = some (ρ.2.1 q, .inl (ρ.2.2.1.1, (il k0, .inl (S.1 q)))) := by rw [world_at ρ S (kd_lt hk (by omega)), zc_ints hk hc.1 hc.2]
  exact va_alen X.1 X.2.1 X.2.2.2.2.2.2.2.2.2.1 hP q 0 he (ty := .int) rfl hv d (k ρ sz p e s m args below meth c X H locs ls hP hS hl)
-- ===== the ends =====
theorem z_iret {v : Int32} {ty : FieldType} (d : decode M.2.1 pc = .ok (.ireturn, 1)) (hr : M.2.2.2.1 = some ty) (hn : narrow ty (.int v) = .int v) : Z l y M pc lv [.int v] S (some (.int v)) S := fun ρ sz p e s m args below meth c X H locs ls hP hS hl =>
  W.zret (v := v) X.1 X.2.1 (X.2.2.1.trans hr) hn (fun t ht hW => ⟨⟨rfl, by rw [ht]; exact hP⟩, hS.F ht⟩) hS.2.2 d X.2.2.2.2.1
theorem z_lret {v : Int64} (d : decode M.2.1 pc = .ok (.lreturn, 1)) (hr : M.2.2.2.1 = some .long) : Z l y M pc lv [.long v] S (some (.long v)) S := fun ρ sz p e s m args below meth c X H locs ls hP hS hl =>
  W.lret (v := v) X.1 X.2.1 (X.2.2.1.trans hr) (fun t ht hW => ⟨⟨rfl, by rw [ht]; exact hP⟩, hS.F ht⟩) hS.2.2 d X.2.2.2.2.1
theorem z_vret (d : decode M.2.1 pc = .ok (.return_, 1)) (hr : M.2.2.2.1 = none) : Z l y M pc lv [] S none S := fun ρ sz p e s m args below meth c X H locs ls hP hS hl =>
  W.vret X.1 X.2.1 (X.2.2.1.trans hr) (fun t ht hW => ⟨⟨rfl, by rw [ht]; exact hP⟩, hS.F ht⟩) hS.2.2 d X.2.2.2.2.1
theorem z_aret {q : Nat} {n : String} (d : decode M.2.1 pc = .ok (.areturn, 1)) (hr : M.2.2.2.1 = some (.object n)) : Z l y M pc lv [.ref q] S (some (.ref q)) S := fun ρ sz p e s m args below meth c X H locs ls hP hS hl =>
  W.aret (v := .ref (ρ.2.1 q)) X.1 X.2.1 (X.2.2.1.trans hr) (Or.inl ⟨_, rfl⟩) (Or.inr ⟨_, rfl⟩) (fun t ht hW => ⟨⟨rfl, by rw [ht]; exact hP⟩, hS.F ht⟩) hS.2.2 d X.2.2.2.2.1
end ZZ
end
section
-- ===== calls =====
section ZC
variable {p : Program} {l : Launch} {e : Env} {R : Room} {s : State} {m : MethodId} {args : Array Value} {below : List Frame} {meth : Method} {c : Code} {H : Heap} {locs : List Loc} {Q : State → Prop}
theorem zrun_goes {ρ : zR} {v : Option Value} {S1 : St} {sz pc : Nat} {ls : Array Slot} {st0 rest : List Value} {a : Array Value} (hr : va_Run p l e R s m args below meth c H locs 0 0 0 0 (F0 m pc ls st0) rest (zQ ρ v S1 (zA ρ.2.1 H.size) a) (zA ρ.2.1 H.size)) (hsz : s.heap.size = sz) (hS : va_S (zA ρ.2.1 sz) s.heap H locs)
    (kk : ∀ (H1 : Heap) (locs1 : List Loc), va_P ρ.1 CL (world ρ S1) H1 → va_S (zA ρ.2.1 sz) s.heap H1 locs1 → W p l e R s m args below meth c H1 locs1 0 0 Q (F0 m (pc + 3) ls ((v.map (rv ρ.2.1)).toList ++ rest))) : W p l e R s m args below meth c H locs 0 0 Q (F0 m pc ls st0) := by
  have hA : ∀ q, zA ρ.2.1 H.size q → zA ρ.2.1 sz q := fun q h => zA_up (by rw [← hsz]; exact hS.1) h
  intro T hT X
  obtain ⟨w, st₀, t, T', L, h0, X', hL, e1, e2, ⟨⟨hv, hP1⟩, hz, hk⟩, st⟩ := hr T hT X
  cases hv
  rw [h0] at hz hk
  obtain ⟨t2, a1, b1⟩ := kk T'.heap (locs ++ L) (by rw [e1]; exact hP1)
    ⟨Nat.le_trans hS.1 (by rw [e1]; exact hz), fun q h1 h2 => by rw [e1, hk q (Nat.lt_of_lt_of_le h1 hS.1) (fun z => h2 (hA q z))]; exact hS.2.1 q h1 h2, fun q hq => by
      rcases List.mem_append.mp hq with h | h
      · exact hS.2.2 q h
      · exact hA _ (hL q h)⟩ T' rfl X'
  exact ⟨t2, st t2 a1, b1⟩
end ZC
theorem zB_blind (ρ : zR) (sz : Nat) (S : St) (av : List Value) : FrameBlind (va_Pc av (zB ρ sz S)) := fun a U g mk q => ⟨q.1, q.2.1, q.2.2.1, q.2.2.2.1, zE.same (u := U) (U := U.calling g mk a) (H := U.heap) rfl q.2.2.2.2⟩
theorem zB_call {ρ : zR} {y : MethodName} {M : zM} {sz : Nat} {p : Program} {s : State} {m : MethodId} {args : Array Value} {meth : Method} {c : Code} (X : zX y M ρ sz p s m args meth c) {H : Heap} {locs : List Loc} {S : St} (hP : va_P ρ.1 CL (world ρ S) H) (hS : va_S (zA ρ.2.1 sz) s.heap H locs) (U : State) (hU : U.heap = H) (hW : s.WarmedH U.vm) : zB ρ H.size S U := by
  obtain ⟨hx, hb, hr, hml, hlo, hown, hts, hsz, hI, hE⟩ := X
  subst hU
  exact ⟨rfl, hI, hP, zE.warm hW ((hE.kept hS.2.1).narrow (fun q h => zA_up (by rw [← hsz]; exact hS.1) h))⟩
/-- the words of a call, its link by the caller's class and entry -/
def zML (own : String) (idx : Nat) (y2 : MethodName) (M2 : zM) (n : Nat) : Prop :=
  ((y2.cls = own ∧ Cond.methodLink own idx y2 ∈ WS) ∨ ∃ host, Cond.methodLinkNest own idx y2 host ∈ NWS) ∧ Cond.initialized y2.cls ∈ WS ∧ Cond.code y2 M2.2.1 M2.2.2.1 M2.2.2.2.1 ∈ WS ∧
  (y2.cls ≠ "java/lang/invoke/MethodHandle" ∧ y2.cls ≠ "java/lang/invoke/VarHandle" ∧ (parseMethodDescriptor y2.desc).map (fun d => d.parameters.length) = some n)
def zMV (y2 : MethodName) : Prop := Cond.instanceMethod y2 ∈ WS ∧ Cond.selects y2.cls y2 y2 ∈ WS
section ZCC
variable {l : Launch} {y : MethodName} {M : zM} {pc : Nat} {lv : List (Nat × Value)} {st : List Value} {S : St} {w : Option Value} {S' : St}
theorem zcats (ad : Nat → Nat) (st : List Value) : ((st.map (rv ad)).map fun v => v.category) = st.map Value.category := by
  rw [List.map_map]
  apply List.map_congr_left
  intro v _
  exact rv_cat ad v
theorem z_callV {idx n q ci : Nat} {y2 : MethodName} {M2 : zM} {as : List Value} {v : Option Value} {S1 : St} {st0 st1 : List Value} (d : decode M.2.1 pc = .ok (.invokevirtual idx, 3)) (ml : zML y.cls idx y2 M2 n) (mv : zMV y2) (hc : CT l y2 M2 (.ref q :: as) S v S1) (hk : kd q = ci) (hci : ci < 9 ∧ (CL[ci]?).map (fun r => r.1) = some y2.cls) (hn : as.length = n) (hst : as.reverse ++ .ref q :: st = st0) (hcat : (st.map Value.category).sum ≤ 8)
    (hroom : M2.2.2.2.2.1 + 1 ≤ M.2.2.2.2.1 ∧ 8 + (M2.2.2.1 + 11) + M2.2.2.2.2.2 ≤ M.2.2.2.2.2) (hst1 : v.toList ++ st = st1) (k : Z l y M (pc + 3) lv st1 S1 w S') : Z l y M pc lv st0 S w S' := by
  intro ρ sz p e s m args below meth c X H locs ls hP hS hl
  have XX := X
  obtain ⟨hx, hb, hr, hml, hlo, hown, hts, hsz, hI, hE⟩ := X
  subst hst
  subst hst1
  have hM := hc ρ H.size
  have hq : q < NC := kd_lt hk (by omega)
  have hrecv : ∃ cellB : Cell, H[ρ.2.1 q]? = some cellB ∧ cellB.vm.isStatics = false ∧ s.vm.findClass y2.cls = some cellB.cls := by
    cases hcl : CL[ci]? with
    | none => rw [hcl] at hci; simp at hci
    | some r =>
      rw [hcl] at hci
      have h1 : r.1 = y2.cls := by simpa using hci.2
      rw [← h1]
      exact va_recv hE.1 hP hcl (q0 := q) (by rw [world_at ρ S hq, zc_obj hk hci.1])
  have hpre : PreV s H y2.cls (ρ.2.1 q) (va_Pc ((Value.ref q :: as).map (rv ρ.2.1)) (zB ρ H.size S)) (as.map (rv ρ.2.1)) := ⟨zB_blind _ _ _ _, hrecv, fun U hU hW => ⟨rfl, zB_call XX hP hS U hU hW⟩⟩
  have hstack : (F0 m pc ls ((as.reverse ++ .ref q :: st).map (rv ρ.2.1))).stack = (as.map (rv ρ.2.1)).reverse ++ .ref (ρ.2.1 q) :: st.map (rv ρ.2.1) := by
    show (as.reverse ++ .ref q :: st).map (rv ρ.2.1) = _
    rw [List.map_append, List.map_reverse]
    rfl
  have hcat2 : ((st.map (rv ρ.2.1)).map fun v => v.category).sum ≤ 8 := by rw [zcats]; exact hcat
  have hrun : va_Run p l e (zrm M) s m args below meth c H locs 0 0 0 0 (F0 m pc ls ((as.reverse ++ .ref q :: st).map (rv ρ.2.1))) (st.map (rv ρ.2.1)) (zQ ρ v S1 (zA ρ.2.1 H.size) (Value.ref (ρ.2.1 q) :: as.map (rv ρ.2.1)).toArray) (zA ρ.2.1 H.size) := by
    rcases ml.1 with ⟨-, h1⟩ | ⟨host, h1⟩
    · exact va_runV (C := y2.cls) (ret := M2.2.2.2.1) (maxL := M2.2.2.1) (bytes := M2.2.1) (As := as.map (rv ρ.2.1)) ⟨hx, hb, hml, hown, hts⟩ hM (cwV n hts (zgi (fun w hw => by
        rcases List.mem_append.mp hw with h2 | h2
        · simp only [List.mem_cons, List.not_mem_nil, or_false] at h2
          rcases h2 with rfl | rfl | rfl | rfl
          · exact h1
          · exact mv.1
          · exact mv.2
          · exact ml.2.1
        · rcases List.mem_cons.mp h2 with rfl | h2
          · exact ml.2.2.1
          · exact h2)) rfl rfl rfl ⟨rfl, ml.2.2.2⟩ hroom) hpre rfl (by rw [List.length_map]; exact hn) hl.1 hstack (lv_room hcat2) d ⟨Nat.le_refl _, Nat.le_refl _⟩
    · exact va_runVN (C := y2.cls) (host := host) (ret := M2.2.2.2.1) (maxL := M2.2.2.1) (bytes := M2.2.1) (As := as.map (rv ρ.2.1)) ⟨hx, hb, hml, hown, hts⟩ hM ⟨va_cnB n hts (zgi (fun w hw => by
        rcases List.mem_cons.mp hw with rfl | h2
        · exact ml.2.2.1
        · exact h2)) rfl rfl rfl (hE.2.1 _ h1) (hts _ (List.mem_cons_of_mem _ ml.2.1)) ml.2.2.2 hroom, hts _ (List.mem_cons_of_mem _ mv.1), hts _ (List.mem_cons_of_mem _ mv.2)⟩ hpre rfl (by rw [List.length_map]; exact hn) hl.1 hstack (lv_room hcat2) d ⟨Nat.le_refl _, Nat.le_refl _⟩
  refine zrun_goes hrun hsz hS (fun H1 locs1 p1 s1 => ?_)
  have kk := k ρ sz p e s m args below meth c XX H1 locs1 ls p1 s1 hl
  rw [List.map_append] at kk
  cases v <;> exact kk
theorem z_callS {idx n : Nat} {y2 : MethodName} {M2 : zM} {as : List Value} {v : Option Value} {S1 : St} {st0 st1 : List Value} (d : decode M.2.1 pc = .ok (.invokestatic idx, 3)) (ml : zML y.cls idx y2 M2 n) (mv : Cond.static y2 ∈ WS) (hc : CT l y2 M2 as S v S1) (hn : as.length = n) (hst : as.reverse ++ st = st0) (hcat : (st.map Value.category).sum ≤ 8)
    (hroom : M2.2.2.2.2.1 + 1 ≤ M.2.2.2.2.1 ∧ 8 + (M2.2.2.1 + 11) + M2.2.2.2.2.2 ≤ M.2.2.2.2.2) (hst1 : v.toList ++ st = st1) (k : Z l y M (pc + 3) lv st1 S1 w S') : Z l y M pc lv st0 S w S' := by
  intro ρ sz p e s m args below meth c X H locs ls hP hS hl
  have XX := X
  obtain ⟨hx, hb, hr, hml, hlo, hown, hts, hsz, hI, hE⟩ := X
  subst hst
  subst hst1
  have hM := hc ρ H.size
  have hpre : PreS s H (va_Pc (as.map (rv ρ.2.1)) (zB ρ H.size S)) (as.map (rv ρ.2.1)) := ⟨zB_blind _ _ _ _, fun U hU hW => ⟨rfl, zB_call XX hP hS U hU hW⟩⟩
  have hstack : (F0 m pc ls ((as.reverse ++ st).map (rv ρ.2.1))).stack = (as.map (rv ρ.2.1)).reverse ++ st.map (rv ρ.2.1) := by
    show (as.reverse ++ st).map (rv ρ.2.1) = _
    rw [List.map_append, List.map_reverse]
  have hcat2 : ((st.map (rv ρ.2.1)).map fun v => v.category).sum ≤ 8 := by rw [zcats]; exact hcat
  have hrun : va_Run p l e (zrm M) s m args below meth c H locs 0 0 0 0 (F0 m pc ls ((as.reverse ++ st).map (rv ρ.2.1))) (st.map (rv ρ.2.1)) (zQ ρ v S1 (zA ρ.2.1 H.size) (as.map (rv ρ.2.1)).toArray) (zA ρ.2.1 H.size) := by
    rcases ml.1 with ⟨ho, h1⟩ | ⟨host, h1⟩
    · exact va_runS (ret := M2.2.2.2.1) (maxL := M2.2.2.1) (bytes := M2.2.1) (As := as.map (rv ρ.2.1)) ⟨hx, hb, hml, hown, hts⟩ hM (cwS n hts (zgi (fun w hw => by
        rcases List.mem_append.mp hw with h2 | h2
        · simp only [List.mem_cons, List.not_mem_nil, or_false] at h2
          rcases h2 with rfl | rfl | rfl
          · exact h1
          · exact mv
          · rw [← ho]; exact ml.2.1
        · rcases List.mem_cons.mp h2 with rfl | h2
          · exact ml.2.2.1
          · exact h2)) rfl rfl rfl ⟨ho, ml.2.2.2⟩ hroom) hpre rfl (by rw [List.length_map]; exact hn) hl.1 hstack (lv_room hcat2) d ⟨Nat.le_refl _, Nat.le_refl _⟩
    · exact va_runSN (host := host) (ret := M2.2.2.2.1) (maxL := M2.2.2.1) (bytes := M2.2.1) (As := as.map (rv ρ.2.1)) ⟨hx, hb, hml, hown, hts⟩ hM ⟨va_cnB n hts (zgi (fun w hw => by
        rcases List.mem_cons.mp hw with rfl | h2
        · exact ml.2.2.1
        · exact h2)) rfl rfl rfl (hE.2.1 _ h1) (hts _ (List.mem_cons_of_mem _ ml.2.1)) ml.2.2.2 hroom, hts _ (List.mem_cons_of_mem _ mv), trivial⟩ hpre rfl (by rw [List.length_map]; exact hn) hl.1 hstack (lv_room hcat2) d ⟨Nat.le_refl _, Nat.le_refl _⟩
  refine zrun_goes hrun hsz hS (fun H1 locs1 p1 s1 => ?_)
  have kk := k ρ sz p e s m args below meth c XX H1 locs1 ls p1 s1 hl
  rw [List.map_append] at kk
  cases v <;> exact kk
def zmx (own : String) (idx : Nat) : Prop := Cond.methodLink own idx Lib.Math.max.name ∈ WS ∧ Cond.static Lib.Math.max.name ∈ WS ∧ Cond.initialized "java/lang/Math" ∈ WS ∧ Cond.code Lib.Math.max.name Lib.Math.max.code 2 (some .int) ∈ WS
def zmn (own : String) (idx : Nat) : Prop := Cond.methodLink own idx Lib.Math.min.name ∈ WS ∧ Cond.static Lib.Math.min.name ∈ WS ∧ Cond.initialized "java/lang/Math" ∈ WS ∧ Cond.code Lib.Math.min.name Lib.Math.min.code 2 (some .int) ∈ WS
theorem z_max {idx : Nat} {a b : Int32} (d : decode M.2.1 pc = .ok (.invokestatic idx, 3)) (ml : zmx y.cls idx) (hf : 1 ≤ M.2.2.2.2.1) (hcat : (st.map Value.category).sum + 13 ≤ M.2.2.2.2.2) (k : Z l y M (pc + 3) lv (.int (if a < b then b else a) :: st) S w S') : Z l y M pc lv (.int b :: .int a :: st) S w S' := by
  intro ρ sz p e s m args below meth c X H locs ls hP hS hl
  have kk := k ρ sz p e s m args below meth c X H locs ls hP hS hl
  obtain ⟨hx, hb, hr, hml, hlo, hown, hts, hsz, hI, hE⟩ := X
  have g : ∀ w ∈ WS, w.before args s = true := fun w hw => hts _ (List.mem_cons_of_mem _ hw)
  exact va_mmax hx hb (hml.trans hl.1.symm) hown (g _ ml.1) (g _ ml.2.1) (g _ ml.2.2.1) (g _ ml.2.2.2) hf (by rw [zcats]; exact hcat) (Nat.le_refl _) (Nat.le_refl _) d kk
theorem z_min {idx : Nat} {a b : Int32} (d : decode M.2.1 pc = .ok (.invokestatic idx, 3)) (ml : zmn y.cls idx) (hf : 1 ≤ M.2.2.2.2.1) (hcat : (st.map Value.category).sum + 13 ≤ M.2.2.2.2.2) (k : Z l y M (pc + 3) lv (.int (if b < a then b else a) :: st) S w S') : Z l y M pc lv (.int b :: .int a :: st) S w S' := by
  intro ρ sz p e s m args below meth c X H locs ls hP hS hl
  have kk := k ρ sz p e s m args below meth c X H locs ls hP hS hl
  obtain ⟨hx, hb, hr, hml, hlo, hown, hts, hsz, hI, hE⟩ := X
  have g : ∀ w ∈ WS, w.before args s = true := fun w hw => hts _ (List.mem_cons_of_mem _ hw)
  exact va_mmin hx hb (hml.trans hl.1.symm) hown (g _ ml.1) (g _ ml.2.1) (g _ ml.2.2.1) (g _ ml.2.2.2) hf (by rw [zcats]; exact hcat) (Nat.le_refl _) (Nat.le_refl _) d kk
def zcp (own : String) (idx : Nat) : Prop := Cond.methodLink own idx arraycopyName ∈ WS ∧ Cond.native arraycopyName ∈ WS ∧ Cond.static arraycopyName ∈ WS ∧ Cond.initialized "java/lang/System" ∈ WS
theorem z_copy {idx q0 q1 k0 : Nat} {sp dp n : Int32} (d : decode M.2.1 pc = .ok (.invokestatic idx, 3)) (ml : zcp y.cls idx) (h0 : kd q0 = k0) (h1 : kd q1 = k0) (hc : ¬ k0 < 9 ∧ k0 < 20) (hne : q0 ≠ q1) (g1 : ¬ sp < 0) (g2 : ¬ dp < 0) (g3 : ¬ n < 0) (g4 : sp.toNatClampNeg + n.toNatClampNeg ≤ il k0) (g5 : dp.toNatClampNeg + n.toNatClampNeg ≤ il k0) (hf : 1 ≤ M.2.2.2.2.1) (hcat : (st.map Value.category).sum + (nativeFrameWords "java/lang/System" "arraycopy" 5 + 11) ≤ M.2.2.2.2.2)
    (k : Z l y M (pc + 3) lv st (upc S q0 q1 sp.toNatClampNeg dp.toNatClampNeg n.toNatClampNeg) w S') : Z l y M pc lv (.int n :: .int dp :: .ref q1 :: .int sp :: .ref q0 :: st) S w S' := by
  intro ρ sz p e s m args below meth c X H locs ls hP hS hl
  have XX := X
  obtain ⟨hx, hb, hr, hml, hlo, hown, hts, hsz, hI, hE⟩ := X
  have g : ∀ w ∈ WS, w.before args s = true := fun w hw => hts _ (List.mem_cons_of_mem _ hw)
  have e0 : (world ρ S)[q0]? = some (ρ.2.1 q0, .inl (ρ.2.2.1.1, (il k0, .inl (S.1 q0)))) := by rw [world_at ρ S (kd_lt h0 (by omega)), zc_ints h0 hc.1 hc.2]
  have e1 : (world ρ S)[q1]? = some (ρ.2.1 q1, .inl (ρ.2.2.1.1, (il k0, .inl (S.1 q1)))) := by rw [world_at ρ S (kd_lt h1 (by omega)), zc_ints h1 hc.1 hc.2]
  refine va_copyi hx hb (hml.trans hl.1.symm) hown (g _ ml.1) (g _ ml.2.1) (g _ ml.2.2.1) (g _ ml.2.2.2) hE.1 hP (z_D hI) hS q0 q1 0 0 e0 e1 (ty := .int) rfl rfl rfl g1 g2 g3 g4 g5 (fun _ _ => rfl) hf (by rw [zcats]; exact hcat) d (fun H1 locs1 p1 _ s1 => ?_)
  have hw : (world ρ S).set q1 (ρ.2.1 q1, .inl (ρ.2.2.1.1, il k0, .inl (va_cpy (S.1 q0) (S.1 q1) sp.toNatClampNeg dp.toNatClampNeg n.toNatClampNeg))) = world ρ (upc S q0 q1 sp.toNatClampNeg dp.toNatClampNeg n.toNatClampNeg) := by
    refine world_set ?_ (fun i _ h => zc_upc_ne h)
    rw [zc_ints h1 hc.1 hc.2, upc_row]
  rw [hw] at p1
  exact k ρ sz p e s m args below meth c XX H1 locs1 ls p1 s1 hl
end ZCC
-- ===== what a written function says =====
theorem oi {α : Type} {c : Prop} [Decidable c] {F : Option α} {r : α} (h : (if c then none else F) = some r) : ¬ c ∧ F = some r := by
  by_cases hc : c
  · rw [if_pos hc] at h; cases h
  · rw [if_neg hc] at h; exact ⟨hc, h⟩
theorem ob {α β : Type} {x : Option α} {f : α → Option β} {r : β} (h : x.bind f = some r) : ∃ a, x = some a ∧ f a = some r := by
  cases x with
  | none => cases h
  | some a => exact ⟨a, rfl, h⟩
end
