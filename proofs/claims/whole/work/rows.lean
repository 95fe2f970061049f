section
-- ===== PART A: goes FIRST, ahead of the names: the tables' words, and 'selects' of the private methods out of them =====
/-- a private method of a class that the tables say can be made, by its rows of tables_1 -/
def lw_okq (q : MethodName × Nat) : Prop := (q.1.cls ≠ "java/lang/invoke/MethodHandle" ∧ q.1.cls ≠ "java/lang/invoke/VarHandle") ∧ Cond.instantiable q.1.cls q.2 ∈ tables_1 ∧ Cond.privateMethod q.1 ∈ tables_1 ∧ Cond.instanceMethod q.1 ∈ tables_1
theorem lw_p0 : lw_okq (⟨"GluedInLifetime", "refuse", "(I)I"⟩, 13) := ⟨⟨by decide +kernel, by decide +kernel⟩, List.mem_of_getElem? (i := 18) (by decide +kernel), List.mem_of_getElem? (i := 209) (by decide +kernel), List.mem_of_getElem? (i := 210) (by decide +kernel)⟩
theorem lw_p1 : lw_okq (⟨"GluedInLifetime$Text", "isFull", "()Z"⟩, 2) := ⟨⟨by decide +kernel, by decide +kernel⟩, List.mem_of_getElem? (i := 86) (by decide +kernel), List.mem_of_getElem? (i := 213) (by decide +kernel), List.mem_of_getElem? (i := 214) (by decide +kernel)⟩
theorem lw_p2 : lw_okq (⟨"GluedInLifetime$Text", "put", "(I)V"⟩, 2) := ⟨⟨by decide +kernel, by decide +kernel⟩, List.mem_of_getElem? (i := 86) (by decide +kernel), List.mem_of_getElem? (i := 217) (by decide +kernel), List.mem_of_getElem? (i := 218) (by decide +kernel)⟩
theorem lw_p3 : lw_okq (⟨"GluedInLifetime$Text", "firstMisfit", "()I"⟩, 2) := ⟨⟨by decide +kernel, by decide +kernel⟩, List.mem_of_getElem? (i := 86) (by decide +kernel), List.mem_of_getElem? (i := 226) (by decide +kernel), List.mem_of_getElem? (i := 227) (by decide +kernel)⟩
theorem lw_p4 : lw_okq (⟨"GluedInLifetime$Text", "misfitOfStatement", "(I)I"⟩, 2) := ⟨⟨by decide +kernel, by decide +kernel⟩, List.mem_of_getElem? (i := 86) (by decide +kernel), List.mem_of_getElem? (i := 230) (by decide +kernel), List.mem_of_getElem? (i := 231) (by decide +kernel)⟩
theorem lw_p5 : lw_okq (⟨"GluedInLifetime$Text", "partsOf", "(I)I"⟩, 2) := ⟨⟨by decide +kernel, by decide +kernel⟩, List.mem_of_getElem? (i := 86) (by decide +kernel), List.mem_of_getElem? (i := 234) (by decide +kernel), List.mem_of_getElem? (i := 235) (by decide +kernel)⟩
theorem lw_p6 : lw_okq (⟨"GluedInLifetime$Text", "letterAt", "(I)I"⟩, 2) := ⟨⟨by decide +kernel, by decide +kernel⟩, List.mem_of_getElem? (i := 86) (by decide +kernel), List.mem_of_getElem? (i := 238) (by decide +kernel), List.mem_of_getElem? (i := 239) (by decide +kernel)⟩
theorem lw_p7 : lw_okq (⟨"GluedInLifetime$Text", "kindAt", "(I)I"⟩, 2) := ⟨⟨by decide +kernel, by decide +kernel⟩, List.mem_of_getElem? (i := 86) (by decide +kernel), List.mem_of_getElem? (i := 242) (by decide +kernel), List.mem_of_getElem? (i := 243) (by decide +kernel)⟩
theorem lw_p8 : lw_okq (⟨"GluedInLifetime$Text", "isDigit", "(I)Z"⟩, 2) := ⟨⟨by decide +kernel, by decide +kernel⟩, List.mem_of_getElem? (i := 86) (by decide +kernel), List.mem_of_getElem? (i := 333) (by decide +kernel), List.mem_of_getElem? (i := 334) (by decide +kernel)⟩
theorem lw_p9 : lw_okq (⟨"GluedInLifetime$Text", "behindStatement", "(I)I"⟩, 2) := ⟨⟨by decide +kernel, by decide +kernel⟩, List.mem_of_getElem? (i := 86) (by decide +kernel), List.mem_of_getElem? (i := 337) (by decide +kernel), List.mem_of_getElem? (i := 338) (by decide +kernel)⟩
theorem lw_p10 : lw_okq (⟨"GluedInLifetime", "tellTrial", "()I"⟩, 13) := ⟨⟨by decide +kernel, by decide +kernel⟩, List.mem_of_getElem? (i := 18) (by decide +kernel), List.mem_of_getElem? (i := 341) (by decide +kernel), List.mem_of_getElem? (i := 342) (by decide +kernel)⟩
theorem lw_p11 : lw_okq (⟨"GluedInLifetime$Shop", "copyFrom", "(LGluedInLifetime$Shop;)V"⟩, 6) := ⟨⟨by decide +kernel, by decide +kernel⟩, List.mem_of_getElem? (i := 26) (by decide +kernel), List.mem_of_getElem? (i := 345) (by decide +kernel), List.mem_of_getElem? (i := 346) (by decide +kernel)⟩
theorem lw_p12 : lw_okq (⟨"GluedInLifetime$Thing", "copyFrom", "(LGluedInLifetime$Thing;)V"⟩, 4) := ⟨⟨by decide +kernel, by decide +kernel⟩, List.mem_of_getElem? (i := 33) (by decide +kernel), List.mem_of_getElem? (i := 349) (by decide +kernel), List.mem_of_getElem? (i := 350) (by decide +kernel)⟩
theorem lw_p13 : lw_okq (⟨"GluedInLifetime", "tellStatement", "(I)Z"⟩, 13) := ⟨⟨by decide +kernel, by decide +kernel⟩, List.mem_of_getElem? (i := 18) (by decide +kernel), List.mem_of_getElem? (i := 356) (by decide +kernel), List.mem_of_getElem? (i := 357) (by decide +kernel)⟩
theorem lw_p14 : lw_okq (⟨"GluedInLifetime$Text", "number", "(II)I"⟩, 2) := ⟨⟨by decide +kernel, by decide +kernel⟩, List.mem_of_getElem? (i := 86) (by decide +kernel), List.mem_of_getElem? (i := 360) (by decide +kernel), List.mem_of_getElem? (i := 361) (by decide +kernel)⟩
theorem lw_p15 : lw_okq (⟨"GluedInLifetime$Shop", "add", "(II)Z"⟩, 6) := ⟨⟨by decide +kernel, by decide +kernel⟩, List.mem_of_getElem? (i := 26) (by decide +kernel), List.mem_of_getElem? (i := 366) (by decide +kernel), List.mem_of_getElem? (i := 367) (by decide +kernel)⟩
def lw_privs_1 : List (MethodName × Nat) := [(⟨"GluedInLifetime", "refuse", "(I)I"⟩, 13), (⟨"GluedInLifetime$Text", "isFull", "()Z"⟩, 2), (⟨"GluedInLifetime$Text", "put", "(I)V"⟩, 2), (⟨"GluedInLifetime$Text", "firstMisfit", "()I"⟩, 2), (⟨"GluedInLifetime$Text", "misfitOfStatement", "(I)I"⟩, 2), (⟨"GluedInLifetime$Text", "partsOf", "(I)I"⟩, 2), (⟨"GluedInLifetime$Text", "letterAt", "(I)I"⟩, 2), (⟨"GluedInLifetime$Text", "kindAt", "(I)I"⟩, 2), (⟨"GluedInLifetime$Text", "isDigit", "(I)Z"⟩, 2), (⟨"GluedInLifetime$Text", "behindStatement", "(I)I"⟩, 2), (⟨"GluedInLifetime", "tellTrial", "()I"⟩, 13), (⟨"GluedInLifetime$Shop", "copyFrom", "(LGluedInLifetime$Shop;)V"⟩, 6), (⟨"GluedInLifetime$Thing", "copyFrom", "(LGluedInLifetime$Thing;)V"⟩, 4), (⟨"GluedInLifetime", "tellStatement", "(I)Z"⟩, 13), (⟨"GluedInLifetime$Text", "number", "(II)I"⟩, 2), (⟨"GluedInLifetime$Shop", "add", "(II)Z"⟩, 6)]
theorem lw_r1 : ∀ q ∈ lw_privs_1, lw_okq q := List.forall_mem_cons.mpr ⟨lw_p0, List.forall_mem_cons.mpr ⟨lw_p1, List.forall_mem_cons.mpr ⟨lw_p2, List.forall_mem_cons.mpr ⟨lw_p3, List.forall_mem_cons.mpr ⟨lw_p4, List.forall_mem_cons.mpr ⟨lw_p5, List.forall_mem_cons.mpr ⟨lw_p6, List.forall_mem_cons.mpr ⟨lw_p7, List.forall_mem_cons.mpr ⟨lw_p8, List.forall_mem_cons.mpr ⟨lw_p9, List.forall_mem_cons.mpr ⟨lw_p10, List.forall_mem_cons.mpr ⟨lw_p11, List.forall_mem_cons.mpr ⟨lw_p12, List.forall_mem_cons.mpr ⟨lw_p13, List.forall_mem_cons.mpr ⟨lw_p14, List.forall_mem_cons.mpr ⟨lw_p15, fun _ h => absurd h List.not_mem_nil⟩⟩⟩⟩⟩⟩⟩⟩⟩⟩⟩⟩⟩⟩⟩⟩
theorem lw_p16 : lw_okq (⟨"GluedInLifetime$Shop", "at", "(I)LGluedInLifetime$Thing;"⟩, 6) := ⟨⟨by decide +kernel, by decide +kernel⟩, List.mem_of_getElem? (i := 26) (by decide +kernel), List.mem_of_getElem? (i := 370) (by decide +kernel), List.mem_of_getElem? (i := 371) (by decide +kernel)⟩
theorem lw_p17 : lw_okq (⟨"GluedInLifetime$Thing", "begin", "(II)V"⟩, 4) := ⟨⟨by decide +kernel, by decide +kernel⟩, List.mem_of_getElem? (i := 33) (by decide +kernel), List.mem_of_getElem? (i := 374) (by decide +kernel), List.mem_of_getElem? (i := 375) (by decide +kernel)⟩
theorem lw_p18 : lw_okq (⟨"GluedInLifetime$Shop", "makeGlad", "(IIII)Z"⟩, 6) := ⟨⟨by decide +kernel, by decide +kernel⟩, List.mem_of_getElem? (i := 26) (by decide +kernel), List.mem_of_getElem? (i := 378) (by decide +kernel), List.mem_of_getElem? (i := 379) (by decide +kernel)⟩
theorem lw_p19 : lw_okq (⟨"GluedInLifetime$Shop", "lacks", "(I)Z"⟩, 6) := ⟨⟨by decide +kernel, by decide +kernel⟩, List.mem_of_getElem? (i := 26) (by decide +kernel), List.mem_of_getElem? (i := 382) (by decide +kernel), List.mem_of_getElem? (i := 383) (by decide +kernel)⟩
theorem lw_p20 : lw_okq (⟨"GluedInLifetime$Thing", "makeGlad", "(II)V"⟩, 4) := ⟨⟨by decide +kernel, by decide +kernel⟩, List.mem_of_getElem? (i := 33) (by decide +kernel), List.mem_of_getElem? (i := 389) (by decide +kernel), List.mem_of_getElem? (i := 390) (by decide +kernel)⟩
theorem lw_p21 : lw_okq (⟨"GluedInLifetime$Shop", "moveTo", "(I)Z"⟩, 6) := ⟨⟨by decide +kernel, by decide +kernel⟩, List.mem_of_getElem? (i := 26) (by decide +kernel), List.mem_of_getElem? (i := 393) (by decide +kernel), List.mem_of_getElem? (i := 394) (by decide +kernel)⟩
theorem lw_p22 : lw_okq (⟨"GluedInLifetime$Shop", "turnHalves", "(II)Z"⟩, 6) := ⟨⟨by decide +kernel, by decide +kernel⟩, List.mem_of_getElem? (i := 26) (by decide +kernel), List.mem_of_getElem? (i := 397) (by decide +kernel), List.mem_of_getElem? (i := 398) (by decide +kernel)⟩
theorem lw_p23 : lw_okq (⟨"GluedInLifetime$Shop", "lacksTwo", "(II)Z"⟩, 6) := ⟨⟨by decide +kernel, by decide +kernel⟩, List.mem_of_getElem? (i := 26) (by decide +kernel), List.mem_of_getElem? (i := 401) (by decide +kernel), List.mem_of_getElem? (i := 402) (by decide +kernel)⟩
theorem lw_p24 : lw_okq (⟨"GluedInLifetime$Shop", "glue", "(III)Z"⟩, 6) := ⟨⟨by decide +kernel, by decide +kernel⟩, List.mem_of_getElem? (i := 26) (by decide +kernel), List.mem_of_getElem? (i := 405) (by decide +kernel), List.mem_of_getElem? (i := 406) (by decide +kernel)⟩
theorem lw_p25 : lw_okq (⟨"GluedInLifetime$Thing", "isSet", "()Z"⟩, 4) := ⟨⟨by decide +kernel, by decide +kernel⟩, List.mem_of_getElem? (i := 33) (by decide +kernel), List.mem_of_getElem? (i := 409) (by decide +kernel), List.mem_of_getElem? (i := 410) (by decide +kernel)⟩
theorem lw_p26 : lw_okq (⟨"GluedInLifetime$Thing", "cost", "()I"⟩, 4) := ⟨⟨by decide +kernel, by decide +kernel⟩, List.mem_of_getElem? (i := 33) (by decide +kernel), List.mem_of_getElem? (i := 413) (by decide +kernel), List.mem_of_getElem? (i := 414) (by decide +kernel)⟩
theorem lw_p27 : lw_okq (⟨"GluedInLifetime$Thing", "yearBy", "(III)I"⟩, 4) := ⟨⟨by decide +kernel, by decide +kernel⟩, List.mem_of_getElem? (i := 33) (by decide +kernel), List.mem_of_getElem? (i := 417) (by decide +kernel), List.mem_of_getElem? (i := 418) (by decide +kernel)⟩
theorem lw_p28 : lw_okq (⟨"GluedInLifetime$Thing", "reach", "(II)I"⟩, 4) := ⟨⟨by decide +kernel, by decide +kernel⟩, List.mem_of_getElem? (i := 33) (by decide +kernel), List.mem_of_getElem? (i := 421) (by decide +kernel), List.mem_of_getElem? (i := 422) (by decide +kernel)⟩
theorem lw_p29 : lw_okq (⟨"GluedInLifetime$Thing", "counts", "(II)I"⟩, 4) := ⟨⟨by decide +kernel, by decide +kernel⟩, List.mem_of_getElem? (i := 33) (by decide +kernel), List.mem_of_getElem? (i := 426) (by decide +kernel), List.mem_of_getElem? (i := 427) (by decide +kernel)⟩
theorem lw_p30 : lw_okq (⟨"GluedInLifetime$Thing", "gladIn", "(I)I"⟩, 4) := ⟨⟨by decide +kernel, by decide +kernel⟩, List.mem_of_getElem? (i := 33) (by decide +kernel), List.mem_of_getElem? (i := 430) (by decide +kernel), List.mem_of_getElem? (i := 431) (by decide +kernel)⟩
theorem lw_p31 : lw_okq (⟨"GluedInLifetime$Thing", "howGlad", "(I)I"⟩, 4) := ⟨⟨by decide +kernel, by decide +kernel⟩, List.mem_of_getElem? (i := 33) (by decide +kernel), List.mem_of_getElem? (i := 442) (by decide +kernel), List.mem_of_getElem? (i := 443) (by decide +kernel)⟩
def lw_privs_2 : List (MethodName × Nat) := [(⟨"GluedInLifetime$Shop", "at", "(I)LGluedInLifetime$Thing;"⟩, 6), (⟨"GluedInLifetime$Thing", "begin", "(II)V"⟩, 4), (⟨"GluedInLifetime$Shop", "makeGlad", "(IIII)Z"⟩, 6), (⟨"GluedInLifetime$Shop", "lacks", "(I)Z"⟩, 6), (⟨"GluedInLifetime$Thing", "makeGlad", "(II)V"⟩, 4), (⟨"GluedInLifetime$Shop", "moveTo", "(I)Z"⟩, 6), (⟨"GluedInLifetime$Shop", "turnHalves", "(II)Z"⟩, 6), (⟨"GluedInLifetime$Shop", "lacksTwo", "(II)Z"⟩, 6), (⟨"GluedInLifetime$Shop", "glue", "(III)Z"⟩, 6), (⟨"GluedInLifetime$Thing", "isSet", "()Z"⟩, 4), (⟨"GluedInLifetime$Thing", "cost", "()I"⟩, 4), (⟨"GluedInLifetime$Thing", "yearBy", "(III)I"⟩, 4), (⟨"GluedInLifetime$Thing", "reach", "(II)I"⟩, 4), (⟨"GluedInLifetime$Thing", "counts", "(II)I"⟩, 4), (⟨"GluedInLifetime$Thing", "gladIn", "(I)I"⟩, 4), (⟨"GluedInLifetime$Thing", "howGlad", "(I)I"⟩, 4)]
theorem lw_r2 : ∀ q ∈ lw_privs_2, lw_okq q := List.forall_mem_cons.mpr ⟨lw_p16, List.forall_mem_cons.mpr ⟨lw_p17, List.forall_mem_cons.mpr ⟨lw_p18, List.forall_mem_cons.mpr ⟨lw_p19, List.forall_mem_cons.mpr ⟨lw_p20, List.forall_mem_cons.mpr ⟨lw_p21, List.forall_mem_cons.mpr ⟨lw_p22, List.forall_mem_cons.mpr ⟨lw_p23, List.forall_mem_cons.mpr ⟨lw_p24, List.forall_mem_cons.mpr ⟨lw_p25, List.forall_mem_cons.mpr ⟨lw_p26, List.forall_mem_cons.mpr ⟨lw_p27, List.forall_mem_cons.mpr ⟨lw_p28, List.forall_mem_cons.mpr ⟨lw_p29, List.forall_mem_cons.mpr ⟨lw_p30, List.forall_mem_cons.mpr ⟨lw_p31, fun _ h => absurd h List.not_mem_nil⟩⟩⟩⟩⟩⟩⟩⟩⟩⟩⟩⟩⟩⟩⟩⟩
theorem lw_p32 : lw_okq (⟨"GluedInLifetime$Shop", "areHalves", "(II)Z"⟩, 6) := ⟨⟨by decide +kernel, by decide +kernel⟩, List.mem_of_getElem? (i := 26) (by decide +kernel), List.mem_of_getElem? (i := 459) (by decide +kernel), List.mem_of_getElem? (i := 460) (by decide +kernel)⟩
theorem lw_p33 : lw_okq (⟨"GluedInLifetime", "heldRefusal", "(III)I"⟩, 13) := ⟨⟨by decide +kernel, by decide +kernel⟩, List.mem_of_getElem? (i := 18) (by decide +kernel), List.mem_of_getElem? (i := 495) (by decide +kernel), List.mem_of_getElem? (i := 496) (by decide +kernel)⟩
theorem lw_p34 : lw_okq (⟨"GluedInLifetime$Thing", "fewestFor", "(II)I"⟩, 4) := ⟨⟨by decide +kernel, by decide +kernel⟩, List.mem_of_getElem? (i := 33) (by decide +kernel), List.mem_of_getElem? (i := 518) (by decide +kernel), List.mem_of_getElem? (i := 519) (by decide +kernel)⟩
theorem lw_p35 : lw_okq (⟨"GluedInLifetime$Shop", "gladTogether", "(I)I"⟩, 6) := ⟨⟨by decide +kernel, by decide +kernel⟩, List.mem_of_getElem? (i := 26) (by decide +kernel), List.mem_of_getElem? (i := 527) (by decide +kernel), List.mem_of_getElem? (i := 528) (by decide +kernel)⟩
theorem lw_p36 : lw_okq (⟨"GluedInLifetime$Shop", "countAgreeing", "()I"⟩, 6) := ⟨⟨by decide +kernel, by decide +kernel⟩, List.mem_of_getElem? (i := 26) (by decide +kernel), List.mem_of_getElem? (i := 539) (by decide +kernel), List.mem_of_getElem? (i := 540) (by decide +kernel)⟩
theorem lw_p37 : lw_okq (⟨"GluedInLifetime$Shop", "setInOneYear", "(II)Z"⟩, 6) := ⟨⟨by decide +kernel, by decide +kernel⟩, List.mem_of_getElem? (i := 26) (by decide +kernel), List.mem_of_getElem? (i := 544) (by decide +kernel), List.mem_of_getElem? (i := 545) (by decide +kernel)⟩
theorem lw_p38 : lw_okq (⟨"GluedInLifetime$Shop", "firstApart", "()I"⟩, 6) := ⟨⟨by decide +kernel, by decide +kernel⟩, List.mem_of_getElem? (i := 26) (by decide +kernel), List.mem_of_getElem? (i := 548) (by decide +kernel), List.mem_of_getElem? (i := 549) (by decide +kernel)⟩
theorem lw_p39 : lw_okq (⟨"GluedInLifetime$Pot", "weigh", "(LGluedInLifetime$Shop;I)V"⟩, 5) := ⟨⟨by decide +kernel, by decide +kernel⟩, List.mem_of_getElem? (i := 114) (by decide +kernel), List.mem_of_getElem? (i := 556) (by decide +kernel), List.mem_of_getElem? (i := 557) (by decide +kernel)⟩
theorem lw_p40 : lw_okq (⟨"GluedInLifetime$Shop", "setBits", "()I"⟩, 6) := ⟨⟨by decide +kernel, by decide +kernel⟩, List.mem_of_getElem? (i := 26) (by decide +kernel), List.mem_of_getElem? (i := 560) (by decide +kernel), List.mem_of_getElem? (i := 561) (by decide +kernel)⟩
theorem lw_p41 : lw_okq (⟨"GluedInLifetime$Thing", "gladdestBy", "(I)I"⟩, 4) := ⟨⟨by decide +kernel, by decide +kernel⟩, List.mem_of_getElem? (i := 33) (by decide +kernel), List.mem_of_getElem? (i := 566) (by decide +kernel), List.mem_of_getElem? (i := 567) (by decide +kernel)⟩
theorem lw_p42 : lw_okq (⟨"GluedInLifetime$Pot", "bestBits", "(I)I"⟩, 5) := ⟨⟨by decide +kernel, by decide +kernel⟩, List.mem_of_getElem? (i := 114) (by decide +kernel), List.mem_of_getElem? (i := 572) (by decide +kernel), List.mem_of_getElem? (i := 573) (by decide +kernel)⟩
theorem lw_p43 : lw_okq (⟨"GluedInLifetime$Pot", "gainOf", "(I)I"⟩, 5) := ⟨⟨by decide +kernel, by decide +kernel⟩, List.mem_of_getElem? (i := 114) (by decide +kernel), List.mem_of_getElem? (i := 576) (by decide +kernel), List.mem_of_getElem? (i := 577) (by decide +kernel)⟩
theorem lw_p44 : lw_okq (⟨"GluedInLifetime", "spendSteps", "(LGluedInLifetime$Thing;)V"⟩, 13) := ⟨⟨by decide +kernel, by decide +kernel⟩, List.mem_of_getElem? (i := 18) (by decide +kernel), List.mem_of_getElem? (i := 588) (by decide +kernel), List.mem_of_getElem? (i := 589) (by decide +kernel)⟩
theorem lw_p45 : lw_okq (⟨"GluedInLifetime$Pot", "fewestFor", "(I)I"⟩, 5) := ⟨⟨by decide +kernel, by decide +kernel⟩, List.mem_of_getElem? (i := 114) (by decide +kernel), List.mem_of_getElem? (i := 597) (by decide +kernel), List.mem_of_getElem? (i := 598) (by decide +kernel)⟩
theorem lw_p46 : lw_okq (⟨"GluedInLifetime", "minutesOfBoth", "(LGluedInLifetime$Thing;LGluedInLifetime$Thing;I)I"⟩, 13) := ⟨⟨by decide +kernel, by decide +kernel⟩, List.mem_of_getElem? (i := 18) (by decide +kernel), List.mem_of_getElem? (i := 606) (by decide +kernel), List.mem_of_getElem? (i := 607) (by decide +kernel)⟩
theorem lw_p47 : lw_okq (⟨"GluedInLifetime$Line", "arrange", "(LGluedInLifetime$Shop;)V"⟩, 3) := ⟨⟨by decide +kernel, by decide +kernel⟩, List.mem_of_getElem? (i := 137) (by decide +kernel), List.mem_of_getElem? (i := 614) (by decide +kernel), List.mem_of_getElem? (i := 615) (by decide +kernel)⟩
def lw_privs_3 : List (MethodName × Nat) := [(⟨"GluedInLifetime$Shop", "areHalves", "(II)Z"⟩, 6), (⟨"GluedInLifetime", "heldRefusal", "(III)I"⟩, 13), (⟨"GluedInLifetime$Thing", "fewestFor", "(II)I"⟩, 4), (⟨"GluedInLifetime$Shop", "gladTogether", "(I)I"⟩, 6), (⟨"GluedInLifetime$Shop", "countAgreeing", "()I"⟩, 6), (⟨"GluedInLifetime$Shop", "setInOneYear", "(II)Z"⟩, 6), (⟨"GluedInLifetime$Shop", "firstApart", "()I"⟩, 6), (⟨"GluedInLifetime$Pot", "weigh", "(LGluedInLifetime$Shop;I)V"⟩, 5), (⟨"GluedInLifetime$Shop", "setBits", "()I"⟩, 6), (⟨"GluedInLifetime$Thing", "gladdestBy", "(I)I"⟩, 4), (⟨"GluedInLifetime$Pot", "bestBits", "(I)I"⟩, 5), (⟨"GluedInLifetime$Pot", "gainOf", "(I)I"⟩, 5), (⟨"GluedInLifetime", "spendSteps", "(LGluedInLifetime$Thing;)V"⟩, 13), (⟨"GluedInLifetime$Pot", "fewestFor", "(I)I"⟩, 5), (⟨"GluedInLifetime", "minutesOfBoth", "(LGluedInLifetime$Thing;LGluedInLifetime$Thing;I)I"⟩, 13), (⟨"GluedInLifetime$Line", "arrange", "(LGluedInLifetime$Shop;)V"⟩, 3)]
theorem lw_r3 : ∀ q ∈ lw_privs_3, lw_okq q := List.forall_mem_cons.mpr ⟨lw_p32, List.forall_mem_cons.mpr ⟨lw_p33, List.forall_mem_cons.mpr ⟨lw_p34, List.forall_mem_cons.mpr ⟨lw_p35, List.forall_mem_cons.mpr ⟨lw_p36, List.forall_mem_cons.mpr ⟨lw_p37, List.forall_mem_cons.mpr ⟨lw_p38, List.forall_mem_cons.mpr ⟨lw_p39, List.forall_mem_cons.mpr ⟨lw_p40, List.forall_mem_cons.mpr ⟨lw_p41, List.forall_mem_cons.mpr ⟨lw_p42, List.forall_mem_cons.mpr ⟨lw_p43, List.forall_mem_cons.mpr ⟨lw_p44, List.forall_mem_cons.mpr ⟨lw_p45, List.forall_mem_cons.mpr ⟨lw_p46, List.forall_mem_cons.mpr ⟨lw_p47, fun _ h => absurd h List.not_mem_nil⟩⟩⟩⟩⟩⟩⟩⟩⟩⟩⟩⟩⟩⟩⟩⟩
theorem lw_p48 : lw_okq (⟨"GluedInLifetime$Thing", "gladdestYear", "(I)I"⟩, 4) := ⟨⟨by decide +kernel, by decide +kernel⟩, List.mem_of_getElem? (i := 33) (by decide +kernel), List.mem_of_getElem? (i := 620) (by decide +kernel), List.mem_of_getElem? (i := 621) (by decide +kernel)⟩
theorem lw_p49 : lw_okq (⟨"GluedInLifetime$Line", "begin", "(II)I"⟩, 3) := ⟨⟨by decide +kernel, by decide +kernel⟩, List.mem_of_getElem? (i := 137) (by decide +kernel), List.mem_of_getElem? (i := 625) (by decide +kernel), List.mem_of_getElem? (i := 626) (by decide +kernel)⟩
theorem lw_p50 : lw_okq (⟨"GluedInLifetime$Line", "beginOf", "(I)I"⟩, 3) := ⟨⟨by decide +kernel, by decide +kernel⟩, List.mem_of_getElem? (i := 137) (by decide +kernel), List.mem_of_getElem? (i := 630) (by decide +kernel), List.mem_of_getElem? (i := 631) (by decide +kernel)⟩
theorem lw_p51 : lw_okq (⟨"GluedInLifetime$Thing", "moreIfWashed", "(I)I"⟩, 4) := ⟨⟨by decide +kernel, by decide +kernel⟩, List.mem_of_getElem? (i := 33) (by decide +kernel), List.mem_of_getElem? (i := 648) (by decide +kernel), List.mem_of_getElem? (i := 649) (by decide +kernel)⟩
theorem lw_p52 : lw_okq (⟨"GluedInLifetime", "bothContent", "(LGluedInLifetime$Thing;III)Z"⟩, 13) := ⟨⟨by decide +kernel, by decide +kernel⟩, List.mem_of_getElem? (i := 18) (by decide +kernel), List.mem_of_getElem? (i := 670) (by decide +kernel), List.mem_of_getElem? (i := 671) (by decide +kernel)⟩
theorem lw_p53 : lw_okq (⟨"GluedInLifetime$Slips", "weigh", "(II)V"⟩, 1) := ⟨⟨by decide +kernel, by decide +kernel⟩, List.mem_of_getElem? (i := 154) (by decide +kernel), List.mem_of_getElem? (i := 682) (by decide +kernel), List.mem_of_getElem? (i := 683) (by decide +kernel)⟩
theorem lw_p54 : lw_okq (⟨"GluedInLifetime$Slips", "waysInto", "(LGluedInLifetime$Thing;II)J"⟩, 1) := ⟨⟨by decide +kernel, by decide +kernel⟩, List.mem_of_getElem? (i := 154) (by decide +kernel), List.mem_of_getElem? (i := 686) (by decide +kernel), List.mem_of_getElem? (i := 687) (by decide +kernel)⟩
theorem lw_p55 : lw_okq (⟨"GluedInLifetime$Slips", "allWays", "()J"⟩, 1) := ⟨⟨by decide +kernel, by decide +kernel⟩, List.mem_of_getElem? (i := 154) (by decide +kernel), List.mem_of_getElem? (i := 691) (by decide +kernel), List.mem_of_getElem? (i := 692) (by decide +kernel)⟩
theorem lw_p56 : lw_okq (⟨"GluedInLifetime$Slips", "gladOfAll", "(LGluedInLifetime$Thing;I)J"⟩, 1) := ⟨⟨by decide +kernel, by decide +kernel⟩, List.mem_of_getElem? (i := 154) (by decide +kernel), List.mem_of_getElem? (i := 705) (by decide +kernel), List.mem_of_getElem? (i := 706) (by decide +kernel)⟩
theorem lw_p57 : lw_okq (⟨"GluedInLifetime$Row", "tellsYearsOf", "(LGluedInLifetime$Thing;I)Z"⟩, 2) := ⟨⟨by decide +kernel, by decide +kernel⟩, List.mem_of_getElem? (i := 100) (by decide +kernel), List.mem_of_getElem? (i := 715) (by decide +kernel), List.mem_of_getElem? (i := 716) (by decide +kernel)⟩
theorem lw_p58 : lw_okq (⟨"GluedInLifetime$Row", "isFull", "()Z"⟩, 2) := ⟨⟨by decide +kernel, by decide +kernel⟩, List.mem_of_getElem? (i := 100) (by decide +kernel), List.mem_of_getElem? (i := 728) (by decide +kernel), List.mem_of_getElem? (i := 729) (by decide +kernel)⟩
theorem lw_p59 : lw_okq (⟨"GluedInLifetime$Row", "put", "(I)V"⟩, 2) := ⟨⟨by decide +kernel, by decide +kernel⟩, List.mem_of_getElem? (i := 100) (by decide +kernel), List.mem_of_getElem? (i := 732) (by decide +kernel), List.mem_of_getElem? (i := 733) (by decide +kernel)⟩
theorem lw_p60 : lw_okq (⟨"GluedInLifetime$Row", "firstNotGladOf", "(LGluedInLifetime$Thing;)I"⟩, 2) := ⟨⟨by decide +kernel, by decide +kernel⟩, List.mem_of_getElem? (i := 100) (by decide +kernel), List.mem_of_getElem? (i := 741) (by decide +kernel), List.mem_of_getElem? (i := 742) (by decide +kernel)⟩
theorem lw_p61 : lw_okq (⟨"GluedInLifetime", "glueByLot", "()V"⟩, 13) := ⟨⟨by decide +kernel, by decide +kernel⟩, List.mem_of_getElem? (i := 18) (by decide +kernel), List.mem_of_getElem? (i := 755) (by decide +kernel), List.mem_of_getElem? (i := 756) (by decide +kernel)⟩
theorem lw_p62 : lw_okq (⟨"GluedInLifetime", "draw", "(I)I"⟩, 13) := ⟨⟨by decide +kernel, by decide +kernel⟩, List.mem_of_getElem? (i := 18) (by decide +kernel), List.mem_of_getElem? (i := 759) (by decide +kernel), List.mem_of_getElem? (i := 760) (by decide +kernel)⟩
theorem lw_p63 : lw_okq (⟨"GluedInLifetime$Shop", "countHalves", "()I"⟩, 6) := ⟨⟨by decide +kernel, by decide +kernel⟩, List.mem_of_getElem? (i := 26) (by decide +kernel), List.mem_of_getElem? (i := 779) (by decide +kernel), List.mem_of_getElem? (i := 780) (by decide +kernel)⟩
def lw_privs_4 : List (MethodName × Nat) := [(⟨"GluedInLifetime$Thing", "gladdestYear", "(I)I"⟩, 4), (⟨"GluedInLifetime$Line", "begin", "(II)I"⟩, 3), (⟨"GluedInLifetime$Line", "beginOf", "(I)I"⟩, 3), (⟨"GluedInLifetime$Thing", "moreIfWashed", "(I)I"⟩, 4), (⟨"GluedInLifetime", "bothContent", "(LGluedInLifetime$Thing;III)Z"⟩, 13), (⟨"GluedInLifetime$Slips", "weigh", "(II)V"⟩, 1), (⟨"GluedInLifetime$Slips", "waysInto", "(LGluedInLifetime$Thing;II)J"⟩, 1), (⟨"GluedInLifetime$Slips", "allWays", "()J"⟩, 1), (⟨"GluedInLifetime$Slips", "gladOfAll", "(LGluedInLifetime$Thing;I)J"⟩, 1), (⟨"GluedInLifetime$Row", "tellsYearsOf", "(LGluedInLifetime$Thing;I)Z"⟩, 2), (⟨"GluedInLifetime$Row", "isFull", "()Z"⟩, 2), (⟨"GluedInLifetime$Row", "put", "(I)V"⟩, 2), (⟨"GluedInLifetime$Row", "firstNotGladOf", "(LGluedInLifetime$Thing;)I"⟩, 2), (⟨"GluedInLifetime", "glueByLot", "()V"⟩, 13), (⟨"GluedInLifetime", "draw", "(I)I"⟩, 13), (⟨"GluedInLifetime$Shop", "countHalves", "()I"⟩, 6)]
theorem lw_r4 : ∀ q ∈ lw_privs_4, lw_okq q := List.forall_mem_cons.mpr ⟨lw_p48, List.forall_mem_cons.mpr ⟨lw_p49, List.forall_mem_cons.mpr ⟨lw_p50, List.forall_mem_cons.mpr ⟨lw_p51, List.forall_mem_cons.mpr ⟨lw_p52, List.forall_mem_cons.mpr ⟨lw_p53, List.forall_mem_cons.mpr ⟨lw_p54, List.forall_mem_cons.mpr ⟨lw_p55, List.forall_mem_cons.mpr ⟨lw_p56, List.forall_mem_cons.mpr ⟨lw_p57, List.forall_mem_cons.mpr ⟨lw_p58, List.forall_mem_cons.mpr ⟨lw_p59, List.forall_mem_cons.mpr ⟨lw_p60, List.forall_mem_cons.mpr ⟨lw_p61, List.forall_mem_cons.mpr ⟨lw_p62, List.forall_mem_cons.mpr ⟨lw_p63, fun _ h => absurd h List.not_mem_nil⟩⟩⟩⟩⟩⟩⟩⟩⟩⟩⟩⟩⟩⟩⟩⟩
theorem lw_p64 : lw_okq (⟨"GluedInLifetimeModel", "no", "(I)I"⟩, 16) := ⟨⟨by decide +kernel, by decide +kernel⟩, List.mem_of_getElem? (i := 783) (by decide +kernel), List.mem_of_getElem? (i := 842) (by decide +kernel), List.mem_of_getElem? (i := 843) (by decide +kernel)⟩
theorem lw_p65 : lw_okq (⟨"GluedInLifetimeModel", "readsStatement", "()Z"⟩, 16) := ⟨⟨by decide +kernel, by decide +kernel⟩, List.mem_of_getElem? (i := 783) (by decide +kernel), List.mem_of_getElem? (i := 850) (by decide +kernel), List.mem_of_getElem? (i := 851) (by decide +kernel)⟩
theorem lw_p66 : lw_okq (⟨"GluedInLifetimeModel", "here", "()I"⟩, 16) := ⟨⟨by decide +kernel, by decide +kernel⟩, List.mem_of_getElem? (i := 783) (by decide +kernel), List.mem_of_getElem? (i := 854) (by decide +kernel), List.mem_of_getElem? (i := 855) (by decide +kernel)⟩
theorem lw_p67 : lw_okq (⟨"GluedInLifetimeModel", "readsKind", "()Z"⟩, 16) := ⟨⟨by decide +kernel, by decide +kernel⟩, List.mem_of_getElem? (i := 783) (by decide +kernel), List.mem_of_getElem? (i := 858) (by decide +kernel), List.mem_of_getElem? (i := 859) (by decide +kernel)⟩
theorem lw_p68 : lw_okq (⟨"GluedInLifetimeModel", "readsNumber", "(II)Z"⟩, 16) := ⟨⟨by decide +kernel, by decide +kernel⟩, List.mem_of_getElem? (i := 783) (by decide +kernel), List.mem_of_getElem? (i := 865) (by decide +kernel), List.mem_of_getElem? (i := 866) (by decide +kernel)⟩
theorem lw_p69 : lw_okq (⟨"GluedInLifetimeModel", "isDone", "(I)Z"⟩, 16) := ⟨⟨by decide +kernel, by decide +kernel⟩, List.mem_of_getElem? (i := 783) (by decide +kernel), List.mem_of_getElem? (i := 875) (by decide +kernel), List.mem_of_getElem? (i := 876) (by decide +kernel)⟩
theorem lw_p70 : lw_okq (⟨"GluedInLifetimeModel", "isThing", "(I)Z"⟩, 16) := ⟨⟨by decide +kernel, by decide +kernel⟩, List.mem_of_getElem? (i := 783) (by decide +kernel), List.mem_of_getElem? (i := 882) (by decide +kernel), List.mem_of_getElem? (i := 883) (by decide +kernel)⟩
theorem lw_p71 : lw_okq (⟨"GluedInLifetimeModel", "turnsHalves", "(II)V"⟩, 16) := ⟨⟨by decide +kernel, by decide +kernel⟩, List.mem_of_getElem? (i := 783) (by decide +kernel), List.mem_of_getElem? (i := 889) (by decide +kernel), List.mem_of_getElem? (i := 890) (by decide +kernel)⟩
theorem lw_p72 : lw_okq (⟨"GluedInLifetimeModel", "canGlue", "(I)Z"⟩, 16) := ⟨⟨by decide +kernel, by decide +kernel⟩, List.mem_of_getElem? (i := 783) (by decide +kernel), List.mem_of_getElem? (i := 893) (by decide +kernel), List.mem_of_getElem? (i := 894) (by decide +kernel)⟩
theorem lw_p73 : lw_okq (⟨"GluedInLifetimeModel", "gluesTo", "(III)I"⟩, 16) := ⟨⟨by decide +kernel, by decide +kernel⟩, List.mem_of_getElem? (i := 783) (by decide +kernel), List.mem_of_getElem? (i := 900) (by decide +kernel), List.mem_of_getElem? (i := 901) (by decide +kernel)⟩
theorem lw_p74 : lw_okq (⟨"GluedInLifetimeModel", "areTwo", "(II)Z"⟩, 16) := ⟨⟨by decide +kernel, by decide +kernel⟩, List.mem_of_getElem? (i := 783) (by decide +kernel), List.mem_of_getElem? (i := 934) (by decide +kernel), List.mem_of_getElem? (i := 935) (by decide +kernel)⟩
theorem lw_p75 : lw_okq (⟨"GluedInLifetimeModel", "wrongGlue", "(III)I"⟩, 16) := ⟨⟨by decide +kernel, by decide +kernel⟩, List.mem_of_getElem? (i := 783) (by decide +kernel), List.mem_of_getElem? (i := 966) (by decide +kernel), List.mem_of_getElem? (i := 967) (by decide +kernel)⟩
theorem lw_p76 : lw_okq (⟨"GluedInLifetimeModel", "agreeMany", "([I)I"⟩, 16) := ⟨⟨by decide +kernel, by decide +kernel⟩, List.mem_of_getElem? (i := 783) (by decide +kernel), List.mem_of_getElem? (i := 1003) (by decide +kernel), List.mem_of_getElem? (i := 1004) (by decide +kernel)⟩
theorem lw_p77 : lw_okq (⟨"GluedInLifetimeModel", "doAgree", "([III)Z"⟩, 16) := ⟨⟨by decide +kernel, by decide +kernel⟩, List.mem_of_getElem? (i := 783) (by decide +kernel), List.mem_of_getElem? (i := 1007) (by decide +kernel), List.mem_of_getElem? (i := 1008) (by decide +kernel)⟩
theorem lw_p78 : lw_okq (⟨"GluedInLifetimeModel", "mostBy", "([II)I"⟩, 16) := ⟨⟨by decide +kernel, by decide +kernel⟩, List.mem_of_getElem? (i := 783) (by decide +kernel), List.mem_of_getElem? (i := 1015) (by decide +kernel), List.mem_of_getElem? (i := 1016) (by decide +kernel)⟩
theorem lw_p79 : lw_okq (⟨"GluedInLifetimeModel", "gladdest", "(I)I"⟩, 16) := ⟨⟨by decide +kernel, by decide +kernel⟩, List.mem_of_getElem? (i := 783) (by decide +kernel), List.mem_of_getElem? (i := 1036) (by decide +kernel), List.mem_of_getElem? (i := 1037) (by decide +kernel)⟩
def lw_privs_5 : List (MethodName × Nat) := [(⟨"GluedInLifetimeModel", "no", "(I)I"⟩, 16), (⟨"GluedInLifetimeModel", "readsStatement", "()Z"⟩, 16), (⟨"GluedInLifetimeModel", "here", "()I"⟩, 16), (⟨"GluedInLifetimeModel", "readsKind", "()Z"⟩, 16), (⟨"GluedInLifetimeModel", "readsNumber", "(II)Z"⟩, 16), (⟨"GluedInLifetimeModel", "isDone", "(I)Z"⟩, 16), (⟨"GluedInLifetimeModel", "isThing", "(I)Z"⟩, 16), (⟨"GluedInLifetimeModel", "turnsHalves", "(II)V"⟩, 16), (⟨"GluedInLifetimeModel", "canGlue", "(I)Z"⟩, 16), (⟨"GluedInLifetimeModel", "gluesTo", "(III)I"⟩, 16), (⟨"GluedInLifetimeModel", "areTwo", "(II)Z"⟩, 16), (⟨"GluedInLifetimeModel", "wrongGlue", "(III)I"⟩, 16), (⟨"GluedInLifetimeModel", "agreeMany", "([I)I"⟩, 16), (⟨"GluedInLifetimeModel", "doAgree", "([III)Z"⟩, 16), (⟨"GluedInLifetimeModel", "mostBy", "([II)I"⟩, 16), (⟨"GluedInLifetimeModel", "gladdest", "(I)I"⟩, 16)]
theorem lw_r5 : ∀ q ∈ lw_privs_5, lw_okq q := List.forall_mem_cons.mpr ⟨lw_p64, List.forall_mem_cons.mpr ⟨lw_p65, List.forall_mem_cons.mpr ⟨lw_p66, List.forall_mem_cons.mpr ⟨lw_p67, List.forall_mem_cons.mpr ⟨lw_p68, List.forall_mem_cons.mpr ⟨lw_p69, List.forall_mem_cons.mpr ⟨lw_p70, List.forall_mem_cons.mpr ⟨lw_p71, List.forall_mem_cons.mpr ⟨lw_p72, List.forall_mem_cons.mpr ⟨lw_p73, List.forall_mem_cons.mpr ⟨lw_p74, List.forall_mem_cons.mpr ⟨lw_p75, List.forall_mem_cons.mpr ⟨lw_p76, List.forall_mem_cons.mpr ⟨lw_p77, List.forall_mem_cons.mpr ⟨lw_p78, List.forall_mem_cons.mpr ⟨lw_p79, fun _ h => absurd h List.not_mem_nil⟩⟩⟩⟩⟩⟩⟩⟩⟩⟩⟩⟩⟩⟩⟩⟩
theorem lw_p80 : lw_okq (⟨"GluedInLifetimeModel", "noFar", "(I)I"⟩, 16) := ⟨⟨by decide +kernel, by decide +kernel⟩, List.mem_of_getElem? (i := 783) (by decide +kernel), List.mem_of_getElem? (i := 1055) (by decide +kernel), List.mem_of_getElem? (i := 1056) (by decide +kernel)⟩
theorem lw_p81 : lw_okq (⟨"GluedInLifetimeModel", "waterOf", "(I)I"⟩, 16) := ⟨⟨by decide +kernel, by decide +kernel⟩, List.mem_of_getElem? (i := 783) (by decide +kernel), List.mem_of_getElem? (i := 1059) (by decide +kernel), List.mem_of_getElem? (i := 1060) (by decide +kernel)⟩
theorem lw_p82 : lw_okq (⟨"GluedInLifetimeModel", "noWide", "(I)J"⟩, 16) := ⟨⟨by decide +kernel, by decide +kernel⟩, List.mem_of_getElem? (i := 783) (by decide +kernel), List.mem_of_getElem? (i := 1083) (by decide +kernel), List.mem_of_getElem? (i := 1084) (by decide +kernel)⟩
theorem lw_p83 : lw_okq (⟨"GluedInLifetimeModel", "slips", "(IIII)J"⟩, 16) := ⟨⟨by decide +kernel, by decide +kernel⟩, List.mem_of_getElem? (i := 783) (by decide +kernel), List.mem_of_getElem? (i := 1088) (by decide +kernel), List.mem_of_getElem? (i := 1089) (by decide +kernel)⟩
theorem lw_p84 : lw_okq (⟨"GluedInLifetimeModel", "drawn", "(I)I"⟩, 16) := ⟨⟨by decide +kernel, by decide +kernel⟩, List.mem_of_getElem? (i := 783) (by decide +kernel), List.mem_of_getElem? (i := 1132) (by decide +kernel), List.mem_of_getElem? (i := 1133) (by decide +kernel)⟩
def lw_privs_6 : List (MethodName × Nat) := [(⟨"GluedInLifetimeModel", "noFar", "(I)I"⟩, 16), (⟨"GluedInLifetimeModel", "waterOf", "(I)I"⟩, 16), (⟨"GluedInLifetimeModel", "noWide", "(I)J"⟩, 16), (⟨"GluedInLifetimeModel", "slips", "(IIII)J"⟩, 16), (⟨"GluedInLifetimeModel", "drawn", "(I)I"⟩, 16)]
theorem lw_r6 : ∀ q ∈ lw_privs_6, lw_okq q := List.forall_mem_cons.mpr ⟨lw_p80, List.forall_mem_cons.mpr ⟨lw_p81, List.forall_mem_cons.mpr ⟨lw_p82, List.forall_mem_cons.mpr ⟨lw_p83, List.forall_mem_cons.mpr ⟨lw_p84, fun _ h => absurd h List.not_mem_nil⟩⟩⟩⟩⟩
def lw_privs : List (MethodName × Nat) := lw_privs_1 ++ (lw_privs_2 ++ (lw_privs_3 ++ (lw_privs_4 ++ (lw_privs_5 ++ (lw_privs_6)))))
def lw_tbl : List Cond := k2_sels lw_privs ++ tables_1
theorem lw_privs_ok : ∀ q ∈ lw_privs, lw_okq q := by
  show ∀ q ∈ lw_privs_1 ++ (lw_privs_2 ++ (lw_privs_3 ++ (lw_privs_4 ++ (lw_privs_5 ++ (lw_privs_6))))), lw_okq q
  exact List.forall_mem_append.mpr ⟨lw_r1, List.forall_mem_append.mpr ⟨lw_r2, List.forall_mem_append.mpr ⟨lw_r3, List.forall_mem_append.mpr ⟨lw_r4, List.forall_mem_append.mpr ⟨lw_r5, lw_r6⟩⟩⟩⟩⟩
end
section
def RX0 : String := "GluedInLifetime$Line"
def TX0 : u_T := fun k => match k with
  | 0 => ("GluedInLifetime$Line", "begins", "[I", true)
  | 1 => ("GluedInLifetime$Line", "free", "[I", true)
  | _ => ("GluedInLifetime$Line", "done", "I", false)
def tyX0 : Nat → FieldType := fun k => match k with
  | 0 => .array .int
  | 1 => .array .int
  | _ => .int
abbrev wsX00 : List Cond := u_ws RX0 TX0 3
theorem nmX0 : ∀ a, a < 3 → ∀ b, b < 3 → a ≠ b → (TX0 a).2.1 ≠ (TX0 b).2.1 := by decide +kernel
theorem tyX0_ok : ∀ k, k < 3 → parseFieldDescriptor (TX0 k).2.2.1 = some (tyX0 k) := by decide +kernel
abbrev cX0_init : ByteArray := prog_2_method_1_code
def yX0_init : MethodName := ⟨RX0, "<init>", "()V"⟩
abbrev cX0_arrange : ByteArray := prog_2_method_2_code
def yX0_arrange : MethodName := ⟨RX0, "arrange", "(LGluedInLifetime$Shop;)V"⟩
abbrev cX0_begin : ByteArray := prog_2_method_3_code
def yX0_begin : MethodName := ⟨RX0, "begin", "(II)I"⟩
abbrev cX0_beginOf : ByteArray := prog_2_method_4_code
def yX0_beginOf : MethodName := ⟨RX0, "beginOf", "(I)I"⟩
def RX1 : String := "GluedInLifetime$Pot"
def TX1 : u_T := fun k => match k with
  | 0 => ("GluedInLifetime$Pot", "gains", "[I", true)
  | 1 => ("GluedInLifetime$Pot", "costs", "[I", true)
  | 2 => ("GluedInLifetime$Pot", "barred", "I", false)
  | 3 => ("GluedInLifetime$Pot", "ends", "I", false)
  | _ => ("GluedInLifetime$Pot", "left", "I", false)
def tyX1 : Nat → FieldType := fun k => match k with
  | 0 => .array .int
  | 1 => .array .int
  | 2 => .int
  | 3 => .int
  | _ => .int
abbrev wsX10 : List Cond := u_ws RX1 TX1 5
theorem nmX1 : ∀ a, a < 5 → ∀ b, b < 5 → a ≠ b → (TX1 a).2.1 ≠ (TX1 b).2.1 := by decide +kernel
theorem tyX1_ok : ∀ k, k < 5 → parseFieldDescriptor (TX1 k).2.2.1 = some (tyX1 k) := by decide +kernel
abbrev cX1_init : ByteArray := prog_3_method_1_code
def yX1_init : MethodName := ⟨RX1, "<init>", "()V"⟩
abbrev cX1_weigh : ByteArray := prog_3_method_2_code
def yX1_weigh : MethodName := ⟨RX1, "weigh", "(LGluedInLifetime$Shop;I)V"⟩
abbrev cX1_gainOf : ByteArray := prog_3_method_3_code
def yX1_gainOf : MethodName := ⟨RX1, "gainOf", "(I)I"⟩
abbrev cX1_bestBits : ByteArray := prog_3_method_4_code
def yX1_bestBits : MethodName := ⟨RX1, "bestBits", "(I)I"⟩
abbrev cX1_fewestFor : ByteArray := prog_3_method_5_code
def yX1_fewestFor : MethodName := ⟨RX1, "fewestFor", "(I)I"⟩
abbrev cX1_sumOver : ByteArray := prog_3_method_6_code
def yX1_sumOver : MethodName := ⟨RX1, "sumOver", "(I[I)I"⟩
def RX2 : String := "GluedInLifetime$Row"
def TX2 : u_T := fun k => match k with
  | 0 => ("GluedInLifetime$Row", "numbers", "[I", true)
  | _ => ("GluedInLifetime$Row", "length", "I", false)
def tyX2 : Nat → FieldType := fun k => match k with
  | 0 => .array .int
  | _ => .int
abbrev wsX20 : List Cond := u_ws RX2 TX2 2
theorem nmX2 : ∀ a, a < 2 → ∀ b, b < 2 → a ≠ b → (TX2 a).2.1 ≠ (TX2 b).2.1 := by decide +kernel
theorem tyX2_ok : ∀ k, k < 2 → parseFieldDescriptor (TX2 k).2.2.1 = some (tyX2 k) := by decide +kernel
abbrev cX2_init : ByteArray := prog_4_method_1_code
def yX2_init : MethodName := ⟨RX2, "<init>", "()V"⟩
abbrev cX2_isFull : ByteArray := prog_4_method_2_code
def yX2_isFull : MethodName := ⟨RX2, "isFull", "()Z"⟩
abbrev cX2_put : ByteArray := prog_4_method_3_code
def yX2_put : MethodName := ⟨RX2, "put", "(I)V"⟩
abbrev cX2_tellsYearsOf : ByteArray := prog_4_method_4_code
def yX2_tellsYearsOf : MethodName := ⟨RX2, "tellsYearsOf", "(LGluedInLifetime$Thing;I)Z"⟩
abbrev cX2_firstNotGladOf : ByteArray := prog_4_method_5_code
def yX2_firstNotGladOf : MethodName := ⟨RX2, "firstNotGladOf", "(LGluedInLifetime$Thing;)I"⟩
def RX3 : String := "GluedInLifetime$Shop"
def TX3 : u_T := fun k => match k with
  | 0 => ("GluedInLifetime$Shop", "size", "I", false)
  | 1 => ("GluedInLifetime$Shop", "now", "I", false)
  | 2 => ("GluedInLifetime$Shop", "drops", "I", false)
  | 3 => ("GluedInLifetime$Shop", "hands", "I", false)
  | 4 => ("GluedInLifetime$Shop", "things", "[LGluedInLifetime$Thing;", true)
  | _ => ("GluedInLifetime$Shop", "others", "[I", true)
def tyX3 : Nat → FieldType := fun k => match k with
  | 0 => .int
  | 1 => .int
  | 2 => .int
  | 3 => .int
  | 4 => .array (.object "GluedInLifetime$Thing")
  | _ => .array .int
abbrev wsX30 : List Cond := u_ws RX3 TX3 6
theorem nmX3 : ∀ a, a < 6 → ∀ b, b < 6 → a ≠ b → (TX3 a).2.1 ≠ (TX3 b).2.1 := by decide +kernel
theorem tyX3_ok : ∀ k, k < 6 → parseFieldDescriptor (TX3 k).2.2.1 = some (tyX3 k) := by decide +kernel
abbrev cX3_init : ByteArray := prog_5_method_1_code
def yX3_init : MethodName := ⟨RX3, "<init>", "()V"⟩
abbrev cX3_copyFrom : ByteArray := prog_5_method_2_code
def yX3_copyFrom : MethodName := ⟨RX3, "copyFrom", "(LGluedInLifetime$Shop;)V"⟩
abbrev cX3_lacks : ByteArray := prog_5_method_3_code
def yX3_lacks : MethodName := ⟨RX3, "lacks", "(I)Z"⟩
abbrev cX3_lacksTwo : ByteArray := prog_5_method_4_code
def yX3_lacksTwo : MethodName := ⟨RX3, "lacksTwo", "(II)Z"⟩
abbrev cX3_at : ByteArray := prog_5_method_5_code
def yX3_at : MethodName := ⟨RX3, "at", "(I)LGluedInLifetime$Thing;"⟩
abbrev cX3_add : ByteArray := prog_5_method_6_code
def yX3_add : MethodName := ⟨RX3, "add", "(II)Z"⟩
abbrev cX3_makeGlad : ByteArray := prog_5_method_7_code
def yX3_makeGlad : MethodName := ⟨RX3, "makeGlad", "(IIII)Z"⟩
abbrev cX3_moveTo : ByteArray := prog_5_method_8_code
def yX3_moveTo : MethodName := ⟨RX3, "moveTo", "(I)Z"⟩
abbrev cX3_areHalves : ByteArray := prog_5_method_9_code
def yX3_areHalves : MethodName := ⟨RX3, "areHalves", "(II)Z"⟩
abbrev cX3_turnHalves : ByteArray := prog_5_method_10_code
def yX3_turnHalves : MethodName := ⟨RX3, "turnHalves", "(II)Z"⟩
abbrev cX3_glue : ByteArray := prog_5_method_11_code
def yX3_glue : MethodName := ⟨RX3, "glue", "(III)Z"⟩
abbrev cX3_gladTogether : ByteArray := prog_5_method_12_code
def yX3_gladTogether : MethodName := ⟨RX3, "gladTogether", "(I)I"⟩
abbrev cX3_setBits : ByteArray := prog_5_method_13_code
def yX3_setBits : MethodName := ⟨RX3, "setBits", "()I"⟩
abbrev cX3_countHalves : ByteArray := prog_5_method_14_code
def yX3_countHalves : MethodName := ⟨RX3, "countHalves", "()I"⟩
abbrev cX3_countAgreeing : ByteArray := prog_5_method_15_code
def yX3_countAgreeing : MethodName := ⟨RX3, "countAgreeing", "()I"⟩
abbrev cX3_firstApart : ByteArray := prog_5_method_16_code
def yX3_firstApart : MethodName := ⟨RX3, "firstApart", "()I"⟩
abbrev cX3_setInOneYear : ByteArray := prog_5_method_17_code
def yX3_setInOneYear : MethodName := ⟨RX3, "setInOneYear", "(II)Z"⟩
def RX4 : String := "GluedInLifetime$Slips"
def TX4 : u_T := fun k => match k with
  | _ => ("GluedInLifetime$Slips", "ways", "[J", true)
def tyX4 : Nat → FieldType := fun k => match k with
  | _ => .array .long
abbrev wsX40 : List Cond := u_ws RX4 TX4 1
theorem nmX4 : ∀ a, a < 1 → ∀ b, b < 1 → a ≠ b → (TX4 a).2.1 ≠ (TX4 b).2.1 := by decide +kernel
theorem tyX4_ok : ∀ k, k < 1 → parseFieldDescriptor (TX4 k).2.2.1 = some (tyX4 k) := by decide +kernel
abbrev cX4_init : ByteArray := prog_6_method_1_code
def yX4_init : MethodName := ⟨RX4, "<init>", "()V"⟩
abbrev cX4_weigh : ByteArray := prog_6_method_2_code
def yX4_weigh : MethodName := ⟨RX4, "weigh", "(II)V"⟩
abbrev cX4_allWays : ByteArray := prog_6_method_3_code
def yX4_allWays : MethodName := ⟨RX4, "allWays", "()J"⟩
abbrev cX4_waysInto : ByteArray := prog_6_method_4_code
def yX4_waysInto : MethodName := ⟨RX4, "waysInto", "(LGluedInLifetime$Thing;II)J"⟩
abbrev cX4_gladOfAll : ByteArray := prog_6_method_5_code
def yX4_gladOfAll : MethodName := ⟨RX4, "gladOfAll", "(LGluedInLifetime$Thing;I)J"⟩
def RX5 : String := "GluedInLifetime$Text"
def TX5 : u_T := fun k => match k with
  | 0 => ("GluedInLifetime$Text", "letters", "[I", true)
  | _ => ("GluedInLifetime$Text", "length", "I", false)
def tyX5 : Nat → FieldType := fun k => match k with
  | 0 => .array .int
  | _ => .int
abbrev wsX50 : List Cond := u_ws RX5 TX5 2
theorem nmX5 : ∀ a, a < 2 → ∀ b, b < 2 → a ≠ b → (TX5 a).2.1 ≠ (TX5 b).2.1 := by decide +kernel
theorem tyX5_ok : ∀ k, k < 2 → parseFieldDescriptor (TX5 k).2.2.1 = some (tyX5 k) := by decide +kernel
abbrev cX5_init : ByteArray := prog_7_method_1_code
def yX5_init : MethodName := ⟨RX5, "<init>", "()V"⟩
abbrev cX5_isFull : ByteArray := prog_7_method_2_code
def yX5_isFull : MethodName := ⟨RX5, "isFull", "()Z"⟩
abbrev cX5_put : ByteArray := prog_7_method_3_code
def yX5_put : MethodName := ⟨RX5, "put", "(I)V"⟩
abbrev cX5_letterAt : ByteArray := prog_7_method_4_code
def yX5_letterAt : MethodName := ⟨RX5, "letterAt", "(I)I"⟩
abbrev cX5_isDigit : ByteArray := prog_7_method_5_code
def yX5_isDigit : MethodName := ⟨RX5, "isDigit", "(I)Z"⟩
abbrev cX5_kindAt : ByteArray := prog_7_method_6_code
def yX5_kindAt : MethodName := ⟨RX5, "kindAt", "(I)I"⟩
abbrev cX5_number : ByteArray := prog_7_method_7_code
def yX5_number : MethodName := ⟨RX5, "number", "(II)I"⟩
abbrev cX5_partsOf : ByteArray := prog_7_method_8_code
def yX5_partsOf : MethodName := ⟨RX5, "partsOf", "(I)I"⟩
abbrev cX5_behindStatement : ByteArray := prog_7_method_9_code
def yX5_behindStatement : MethodName := ⟨RX5, "behindStatement", "(I)I"⟩
abbrev cX5_firstMisfit : ByteArray := prog_7_method_10_code
def yX5_firstMisfit : MethodName := ⟨RX5, "firstMisfit", "()I"⟩
abbrev cX5_misfitOfStatement : ByteArray := prog_7_method_11_code
def yX5_misfitOfStatement : MethodName := ⟨RX5, "misfitOfStatement", "(I)I"⟩
def RX6 : String := "GluedInLifetime$Thing"
def TX6 : u_T := fun k => match k with
  | 0 => ("GluedInLifetime$Thing", "kind", "I", false)
  | 1 => ("GluedInLifetime$Thing", "figure", "I", false)
  | 2 => ("GluedInLifetime$Thing", "set", "I", false)
  | _ => ("GluedInLifetime$Thing", "glad", "[I", true)
def tyX6 : Nat → FieldType := fun k => match k with
  | 0 => .int
  | 1 => .int
  | 2 => .int
  | _ => .array .int
abbrev wsX60 : List Cond := u_ws RX6 TX6 4
theorem nmX6 : ∀ a, a < 4 → ∀ b, b < 4 → a ≠ b → (TX6 a).2.1 ≠ (TX6 b).2.1 := by decide +kernel
theorem tyX6_ok : ∀ k, k < 4 → parseFieldDescriptor (TX6 k).2.2.1 = some (tyX6 k) := by decide +kernel
abbrev cX6_init : ByteArray := prog_8_method_1_code
def yX6_init : MethodName := ⟨RX6, "<init>", "()V"⟩
abbrev cX6_copyFrom : ByteArray := prog_8_method_2_code
def yX6_copyFrom : MethodName := ⟨RX6, "copyFrom", "(LGluedInLifetime$Thing;)V"⟩
abbrev cX6_begin : ByteArray := prog_8_method_3_code
def yX6_begin : MethodName := ⟨RX6, "begin", "(II)V"⟩
abbrev cX6_isSet : ByteArray := prog_8_method_4_code
def yX6_isSet : MethodName := ⟨RX6, "isSet", "()Z"⟩
abbrev cX6_gladIn : ByteArray := prog_8_method_5_code
def yX6_gladIn : MethodName := ⟨RX6, "gladIn", "(I)I"⟩
abbrev cX6_makeGlad : ByteArray := prog_8_method_6_code
def yX6_makeGlad : MethodName := ⟨RX6, "makeGlad", "(II)V"⟩
abbrev cX6_howGlad : ByteArray := prog_8_method_7_code
def yX6_howGlad : MethodName := ⟨RX6, "howGlad", "(I)I"⟩
abbrev cX6_moreIfWashed : ByteArray := prog_8_method_8_code
def yX6_moreIfWashed : MethodName := ⟨RX6, "moreIfWashed", "(I)I"⟩
abbrev cX6_cost : ByteArray := prog_8_method_9_code
def yX6_cost : MethodName := ⟨RX6, "cost", "()I"⟩
abbrev cX6_reach : ByteArray := prog_8_method_10_code
def yX6_reach : MethodName := ⟨RX6, "reach", "(II)I"⟩
abbrev cX6_counts : ByteArray := prog_8_method_11_code
def yX6_counts : MethodName := ⟨RX6, "counts", "(II)I"⟩
abbrev cX6_yearBy : ByteArray := prog_8_method_12_code
def yX6_yearBy : MethodName := ⟨RX6, "yearBy", "(III)I"⟩
abbrev cX6_fewestFor : ByteArray := prog_8_method_13_code
def yX6_fewestFor : MethodName := ⟨RX6, "fewestFor", "(II)I"⟩
abbrev cX6_gladdestBy : ByteArray := prog_8_method_14_code
def yX6_gladdestBy : MethodName := ⟨RX6, "gladdestBy", "(I)I"⟩
abbrev cX6_gladdestYear : ByteArray := prog_8_method_15_code
def yX6_gladdestYear : MethodName := ⟨RX6, "gladdestYear", "(I)I"⟩
def RX7 : String := "GluedInLifetime"
def TX7 : u_T := fun k => match k with
  | 0 => ("GluedInLifetime", "here", "LGluedInLifetime$Shop;", true)
  | 1 => ("GluedInLifetime", "then", "LGluedInLifetime$Shop;", true)
  | 2 => ("GluedInLifetime", "trial", "LGluedInLifetime$Shop;", true)
  | 3 => ("GluedInLifetime", "probe", "LGluedInLifetime$Thing;", true)
  | 4 => ("GluedInLifetime", "text", "LGluedInLifetime$Text;", true)
  | 5 => ("GluedInLifetime", "told", "LGluedInLifetime$Row;", true)
  | 6 => ("GluedInLifetime", "pot", "LGluedInLifetime$Pot;", true)
  | 7 => ("GluedInLifetime", "line", "LGluedInLifetime$Line;", true)
  | 8 => ("GluedInLifetime", "slips", "LGluedInLifetime$Slips;", true)
  | 9 => ("GluedInLifetime", "mostBySteps", "[I", true)
  | 10 => ("GluedInLifetime", "refusals", "[I", true)
  | 11 => ("GluedInLifetime", "hasImage", "Z", false)
  | _ => ("GluedInLifetime", "seed", "I", false)
def tyX7 : Nat → FieldType := fun k => match k with
  | 0 => .object "GluedInLifetime$Shop"
  | 1 => .object "GluedInLifetime$Shop"
  | 2 => .object "GluedInLifetime$Shop"
  | 3 => .object "GluedInLifetime$Thing"
  | 4 => .object "GluedInLifetime$Text"
  | 5 => .object "GluedInLifetime$Row"
  | 6 => .object "GluedInLifetime$Pot"
  | 7 => .object "GluedInLifetime$Line"
  | 8 => .object "GluedInLifetime$Slips"
  | 9 => .array .int
  | 10 => .array .int
  | 11 => .boolean
  | _ => .int
abbrev wsX70 : List Cond := u_ws RX7 TX7 13
theorem nmX7 : ∀ a, a < 13 → ∀ b, b < 13 → a ≠ b → (TX7 a).2.1 ≠ (TX7 b).2.1 := by decide +kernel
theorem tyX7_ok : ∀ k, k < 13 → parseFieldDescriptor (TX7 k).2.2.1 = some (tyX7 k) := by decide +kernel
abbrev cX7_init : ByteArray := prog_1_method_1_code
def yX7_init : MethodName := ⟨RX7, "<init>", "()V"⟩
abbrev cX7_letter : ByteArray := prog_1_method_2_code
def yX7_letter : MethodName := ⟨RX7, "letter", "(I)I"⟩
abbrev cX7_shop : ByteArray := prog_1_method_3_code
def yX7_shop : MethodName := ⟨RX7, "shop", "()I"⟩
abbrev cX7_thing : ByteArray := prog_1_method_4_code
def yX7_thing : MethodName := ⟨RX7, "thing", "(II)I"⟩
abbrev cX7_glad : ByteArray := prog_1_method_5_code
def yX7_glad : MethodName := ⟨RX7, "glad", "(II)I"⟩
abbrev cX7_halves : ByteArray := prog_1_method_6_code
def yX7_halves : MethodName := ⟨RX7, "halves", "(II)I"⟩
abbrev cX7_turn : ByteArray := prog_1_method_7_code
def yX7_turn : MethodName := ⟨RX7, "turn", "(III)I"⟩
abbrev cX7_makes : ByteArray := prog_1_method_8_code
def yX7_makes : MethodName := ⟨RX7, "makes", "(III)I"⟩
abbrev cX7_pairs : ByteArray := prog_1_method_9_code
def yX7_pairs : MethodName := ⟨RX7, "pairs", "(II)I"⟩
abbrev cX7_now : ByteArray := prog_1_method_10_code
def yX7_now : MethodName := ⟨RX7, "now", "(I)I"⟩
abbrev cX7_hands : ByteArray := prog_1_method_11_code
def yX7_hands : MethodName := ⟨RX7, "hands", "(I)I"⟩
abbrev cX7_pours : ByteArray := prog_1_method_12_code
def yX7_pours : MethodName := ⟨RX7, "pours", "(I)I"⟩
abbrev cX7_glues : ByteArray := prog_1_method_13_code
def yX7_glues : MethodName := ⟨RX7, "glues", "(III)I"⟩
abbrev cX7_washes : ByteArray := prog_1_method_14_code
def yX7_washes : MethodName := ⟨RX7, "washes", "(I)I"⟩
abbrev cX7_would : ByteArray := prog_1_method_15_code
def yX7_would : MethodName := ⟨RX7, "would", "(IIII)I"⟩
abbrev cX7_can : ByteArray := prog_1_method_16_code
def yX7_can : MethodName := ⟨RX7, "can", "(I)I"⟩
abbrev cX7_fewest : ByteArray := prog_1_method_17_code
def yX7_fewest : MethodName := ⟨RX7, "fewest", "(II)I"⟩
abbrev cX7_gladness : ByteArray := prog_1_method_18_code
def yX7_gladness : MethodName := ⟨RX7, "gladness", "()I"⟩
abbrev cX7_agree : ByteArray := prog_1_method_19_code
def yX7_agree : MethodName := ⟨RX7, "agree", "(I)I"⟩
abbrev cX7_most : ByteArray := prog_1_method_20_code
def yX7_most : MethodName := ⟨RX7, "most", "(I)I"⟩
abbrev cX7_byMinutes : ByteArray := prog_1_method_21_code
def yX7_byMinutes : MethodName := ⟨RX7, "byMinutes", "(I)I"⟩
abbrev cX7_fewDrops : ByteArray := prog_1_method_22_code
def yX7_fewDrops : MethodName := ⟨RX7, "fewDrops", "()I"⟩
abbrev cX7_together : ByteArray := prog_1_method_23_code
def yX7_together : MethodName := ⟨RX7, "together", "(III)I"⟩
abbrev cX7_queue : ByteArray := prog_1_method_24_code
def yX7_queue : MethodName := ⟨RX7, "queue", "(I)I"⟩
abbrev cX7_oneMore : ByteArray := prog_1_method_25_code
def yX7_oneMore : MethodName := ⟨RX7, "oneMore", "()I"⟩
abbrev cX7_bestYear : ByteArray := prog_1_method_26_code
def yX7_bestYear : MethodName := ⟨RX7, "bestYear", "()I"⟩
abbrev cX7_water : ByteArray := prog_1_method_27_code
def yX7_water : MethodName := ⟨RX7, "water", "(I)I"⟩
abbrev cX7_bestWash : ByteArray := prog_1_method_28_code
def yX7_bestWash : MethodName := ⟨RX7, "bestWash", "()I"⟩
abbrev cX7_sour : ByteArray := prog_1_method_29_code
def yX7_sour : MethodName := ⟨RX7, "sour", "()I"⟩
abbrev cX7_regret : ByteArray := prog_1_method_30_code
def yX7_regret : MethodName := ⟨RX7, "regret", "(I)I"⟩
abbrev cX7_two : ByteArray := prog_1_method_31_code
def yX7_two : MethodName := ⟨RX7, "two", "(II)I"⟩
abbrev cX7_slip : ByteArray := prog_1_method_32_code
def yX7_slip : MethodName := ⟨RX7, "slip", "(IIIII)J"⟩
abbrev cX7_mean : ByteArray := prog_1_method_33_code
def yX7_mean : MethodName := ⟨RX7, "mean", "(IIII)J"⟩
abbrev cX7_whatWas : ByteArray := prog_1_method_34_code
def yX7_whatWas : MethodName := ⟨RX7, "whatWas", "(II)I"⟩
abbrev cX7_mended : ByteArray := prog_1_method_35_code
def yX7_mended : MethodName := ⟨RX7, "mended", "(III)I"⟩
abbrev cX7_row : ByteArray := prog_1_method_36_code
def yX7_row : MethodName := ⟨RX7, "row", "(I)I"⟩
abbrev cX7_judge : ByteArray := prog_1_method_37_code
def yX7_judge : MethodName := ⟨RX7, "judge", "(I)I"⟩
abbrev cX7_clear : ByteArray := prog_1_method_38_code
def yX7_clear : MethodName := ⟨RX7, "clear", "()I"⟩
abbrev cX7_lots : ByteArray := prog_1_method_39_code
def yX7_lots : MethodName := ⟨RX7, "lots", "(III)I"⟩
abbrev cX7_image : ByteArray := prog_1_method_40_code
def yX7_image : MethodName := ⟨RX7, "image", "()I"⟩
abbrev cX7_on : ByteArray := prog_1_method_41_code
def yX7_on : MethodName := ⟨RX7, "on", "()I"⟩
abbrev cX7_count : ByteArray := prog_1_method_42_code
def yX7_count : MethodName := ⟨RX7, "count", "(I)I"⟩
abbrev cX7_refuse : ByteArray := prog_1_method_43_code
def yX7_refuse : MethodName := ⟨RX7, "refuse", "(I)I"⟩
abbrev cX7_noYear : ByteArray := prog_1_method_44_code
def yX7_noYear : MethodName := ⟨RX7, "noYear", "(I)Z"⟩
abbrev cX7_notOneOfTwo : ByteArray := prog_1_method_45_code
def yX7_notOneOfTwo : MethodName := ⟨RX7, "notOneOfTwo", "(I)Z"⟩
abbrev cX7_outside : ByteArray := prog_1_method_46_code
def yX7_outside : MethodName := ⟨RX7, "outside", "(III)I"⟩
abbrev cX7_heldRefusal : ByteArray := prog_1_method_47_code
def yX7_heldRefusal : MethodName := ⟨RX7, "heldRefusal", "(III)I"⟩
abbrev cX7_slipRefusal : ByteArray := prog_1_method_48_code
def yX7_slipRefusal : MethodName := ⟨RX7, "slipRefusal", "(III)I"⟩
abbrev cX7_tellTrial : ByteArray := prog_1_method_49_code
def yX7_tellTrial : MethodName := ⟨RX7, "tellTrial", "()I"⟩
abbrev cX7_tellStatement : ByteArray := prog_1_method_50_code
def yX7_tellStatement : MethodName := ⟨RX7, "tellStatement", "(I)Z"⟩
abbrev cX7_spendSteps : ByteArray := prog_1_method_51_code
def yX7_spendSteps : MethodName := ⟨RX7, "spendSteps", "(LGluedInLifetime$Thing;)V"⟩
abbrev cX7_minutesOfBoth : ByteArray := prog_1_method_52_code
def yX7_minutesOfBoth : MethodName := ⟨RX7, "minutesOfBoth", "(LGluedInLifetime$Thing;LGluedInLifetime$Thing;I)I"⟩
abbrev cX7_bothContent : ByteArray := prog_1_method_53_code
def yX7_bothContent : MethodName := ⟨RX7, "bothContent", "(LGluedInLifetime$Thing;III)Z"⟩
abbrev cX7_glueByLot : ByteArray := prog_1_method_54_code
def yX7_glueByLot : MethodName := ⟨RX7, "glueByLot", "()V"⟩
abbrev cX7_draw : ByteArray := prog_1_method_55_code
def yX7_draw : MethodName := ⟨RX7, "draw", "(I)I"⟩
abbrev cX7_partOf : ByteArray := prog_1_method_56_code
def yX7_partOf : MethodName := ⟨RX7, "partOf", "(JJI)J"⟩
abbrev cX7_commonDivisor : ByteArray := prog_1_method_57_code
def yX7_commonDivisor : MethodName := ⟨RX7, "commonDivisor", "(JJ)J"⟩
def RX8 : String := "GluedInLifetimeModel"
def TX8 : u_T := fun k => match k with
  | 0 => ("GluedInLifetimeModel", "s", "[I", true)
  | 1 => ("GluedInLifetimeModel", "m", "[I", true)
  | 2 => ("GluedInLifetimeModel", "image", "[I", true)
  | 3 => ("GluedInLifetimeModel", "was", "[I", true)
  | 4 => ("GluedInLifetimeModel", "hasImage", "Z", false)
  | 5 => ("GluedInLifetimeModel", "letters", "[I", true)
  | 6 => ("GluedInLifetimeModel", "row", "[I", true)
  | 7 => ("GluedInLifetimeModel", "refused", "[I", true)
  | 8 => ("GluedInLifetimeModel", "letterMany", "I", false)
  | 9 => ("GluedInLifetimeModel", "rowMany", "I", false)
  | 10 => ("GluedInLifetimeModel", "place", "I", false)
  | 11 => ("GluedInLifetimeModel", "numbers", "[I", true)
  | 12 => ("GluedInLifetimeModel", "mostGlued", "I", false)
  | 13 => ("GluedInLifetimeModel", "by", "[I", true)
  | 14 => ("GluedInLifetimeModel", "then", "[I", true)
  | _ => ("GluedInLifetimeModel", "seed", "I", false)
def tyX8 : Nat → FieldType := fun k => match k with
  | 0 => .array .int
  | 1 => .array .int
  | 2 => .array .int
  | 3 => .array .int
  | 4 => .boolean
  | 5 => .array .int
  | 6 => .array .int
  | 7 => .array .int
  | 8 => .int
  | 9 => .int
  | 10 => .int
  | 11 => .array .int
  | 12 => .int
  | 13 => .array .int
  | 14 => .array .int
  | _ => .int
abbrev wsX80 : List Cond := u_ws RX8 TX8 16
theorem nmX8 : ∀ a, a < 16 → ∀ b, b < 16 → a ≠ b → (TX8 a).2.1 ≠ (TX8 b).2.1 := by decide +kernel
theorem tyX8_ok : ∀ k, k < 16 → parseFieldDescriptor (TX8 k).2.2.1 = some (tyX8 k) := by decide +kernel
abbrev cX8_init : ByteArray := prog_10_method_1_code
def yX8_init : MethodName := ⟨RX8, "<init>", "()V"⟩
abbrev cX8_isIn : ByteArray := prog_10_method_2_code
def yX8_isIn : MethodName := ⟨RX8, "isIn", "(III)Z"⟩
abbrev cX8_least : ByteArray := prog_10_method_3_code
def yX8_least : MethodName := ⟨RX8, "least", "(II)I"⟩
abbrev cX8_most : ByteArray := prog_10_method_4_code
def yX8_most : MethodName := ⟨RX8, "most", "(II)I"⟩
abbrev cX8_lays : ByteArray := prog_10_method_5_code
def yX8_lays : MethodName := ⟨RX8, "lays", "([I[I)V"⟩
abbrev cX8_no : ByteArray := prog_10_method_6_code
def yX8_no : MethodName := ⟨RX8, "no", "(I)I"⟩
abbrev cX8_noFar : ByteArray := prog_10_method_7_code
def yX8_noFar : MethodName := ⟨RX8, "noFar", "(I)I"⟩
abbrev cX8_noWide : ByteArray := prog_10_method_8_code
def yX8_noWide : MethodName := ⟨RX8, "noWide", "(I)J"⟩
abbrev cX8_isThing : ByteArray := prog_10_method_9_code
def yX8_isThing : MethodName := ⟨RX8, "isThing", "(I)Z"⟩
abbrev cX8_isYear : ByteArray := prog_10_method_10_code
def yX8_isYear : MethodName := ⟨RX8, "isYear", "(I)Z"⟩
abbrev cX8_at : ByteArray := prog_10_method_11_code
def yX8_at : MethodName := ⟨RX8, "at", "(II)I"⟩
abbrev cX8_bits : ByteArray := prog_10_method_12_code
def yX8_bits : MethodName := ⟨RX8, "bits", "(I)I"⟩
abbrev cX8_cost : ByteArray := prog_10_method_13_code
def yX8_cost : MethodName := ⟨RX8, "cost", "([II)I"⟩
abbrev cX8_reach : ByteArray := prog_10_method_14_code
def yX8_reach : MethodName := ⟨RX8, "reach", "([IIII)I"⟩
abbrev cX8_counts : ByteArray := prog_10_method_15_code
def yX8_counts : MethodName := ⟨RX8, "counts", "([III)I"⟩
abbrev cX8_yearBy : ByteArray := prog_10_method_16_code
def yX8_yearBy : MethodName := ⟨RX8, "yearBy", "([III)I"⟩
abbrev cX8_yearOf : ByteArray := prog_10_method_17_code
def yX8_yearOf : MethodName := ⟨RX8, "yearOf", "([IIII)I"⟩
abbrev cX8_gladOf : ByteArray := prog_10_method_18_code
def yX8_gladOf : MethodName := ⟨RX8, "gladOf", "([II)I"⟩
abbrev cX8_gladAll : ByteArray := prog_10_method_19_code
def yX8_gladAll : MethodName := ⟨RX8, "gladAll", "([I)I"⟩
abbrev cX8_fewestOf : ByteArray := prog_10_method_20_code
def yX8_fewestOf : MethodName := ⟨RX8, "fewestOf", "([III)I"⟩
abbrev cX8_letter : ByteArray := prog_10_method_21_code
def yX8_letter : MethodName := ⟨RX8, "letter", "(I)I"⟩
abbrev cX8_here : ByteArray := prog_10_method_22_code
def yX8_here : MethodName := ⟨RX8, "here", "()I"⟩
abbrev cX8_readsNumber : ByteArray := prog_10_method_23_code
def yX8_readsNumber : MethodName := ⟨RX8, "readsNumber", "(II)Z"⟩
abbrev cX8_kindBy : ByteArray := prog_10_method_24_code
def yX8_kindBy : MethodName := ⟨RX8, "kindBy", "(I)I"⟩
abbrev cX8_readsKind : ByteArray := prog_10_method_25_code
def yX8_readsKind : MethodName := ⟨RX8, "readsKind", "()Z"⟩
abbrev cX8_readsStatement : ByteArray := prog_10_method_26_code
def yX8_readsStatement : MethodName := ⟨RX8, "readsStatement", "()Z"⟩
abbrev cX8_turnsHalves : ByteArray := prog_10_method_27_code
def yX8_turnsHalves : MethodName := ⟨RX8, "turnsHalves", "(II)V"⟩
abbrev cX8_canGlue : ByteArray := prog_10_method_28_code
def yX8_canGlue : MethodName := ⟨RX8, "canGlue", "(I)Z"⟩
abbrev cX8_gluesTo : ByteArray := prog_10_method_29_code
def yX8_gluesTo : MethodName := ⟨RX8, "gluesTo", "(III)I"⟩
abbrev cX8_isDone : ByteArray := prog_10_method_30_code
def yX8_isDone : MethodName := ⟨RX8, "isDone", "(I)Z"⟩
abbrev cX8_shop : ByteArray := prog_10_method_31_code
def yX8_shop : MethodName := ⟨RX8, "shop", "()I"⟩
abbrev cX8_thing : ByteArray := prog_10_method_32_code
def yX8_thing : MethodName := ⟨RX8, "thing", "(II)I"⟩
abbrev cX8_glad : ByteArray := prog_10_method_33_code
def yX8_glad : MethodName := ⟨RX8, "glad", "(II)I"⟩
abbrev cX8_areTwo : ByteArray := prog_10_method_34_code
def yX8_areTwo : MethodName := ⟨RX8, "areTwo", "(II)Z"⟩
abbrev cX8_halves : ByteArray := prog_10_method_35_code
def yX8_halves : MethodName := ⟨RX8, "halves", "(II)I"⟩
abbrev cX8_turn : ByteArray := prog_10_method_36_code
def yX8_turn : MethodName := ⟨RX8, "turn", "(III)I"⟩
abbrev cX8_makes : ByteArray := prog_10_method_37_code
def yX8_makes : MethodName := ⟨RX8, "makes", "(III)I"⟩
abbrev cX8_pairs : ByteArray := prog_10_method_38_code
def yX8_pairs : MethodName := ⟨RX8, "pairs", "(II)I"⟩
abbrev cX8_now : ByteArray := prog_10_method_39_code
def yX8_now : MethodName := ⟨RX8, "now", "(I)I"⟩
abbrev cX8_hands : ByteArray := prog_10_method_40_code
def yX8_hands : MethodName := ⟨RX8, "hands", "(I)I"⟩
abbrev cX8_pours : ByteArray := prog_10_method_41_code
def yX8_pours : MethodName := ⟨RX8, "pours", "(I)I"⟩
abbrev cX8_wrongGlue : ByteArray := prog_10_method_42_code
def yX8_wrongGlue : MethodName := ⟨RX8, "wrongGlue", "(III)I"⟩
abbrev cX8_glues : ByteArray := prog_10_method_43_code
def yX8_glues : MethodName := ⟨RX8, "glues", "(III)I"⟩
abbrev cX8_washes : ByteArray := prog_10_method_44_code
def yX8_washes : MethodName := ⟨RX8, "washes", "(I)I"⟩
abbrev cX8_would : ByteArray := prog_10_method_45_code
def yX8_would : MethodName := ⟨RX8, "would", "(IIII)I"⟩
abbrev cX8_canOf : ByteArray := prog_10_method_46_code
def yX8_canOf : MethodName := ⟨RX8, "canOf", "([II)I"⟩
abbrev cX8_can : ByteArray := prog_10_method_47_code
def yX8_can : MethodName := ⟨RX8, "can", "(I)I"⟩
abbrev cX8_fewest : ByteArray := prog_10_method_48_code
def yX8_fewest : MethodName := ⟨RX8, "fewest", "(II)I"⟩
abbrev cX8_gladness : ByteArray := prog_10_method_49_code
def yX8_gladness : MethodName := ⟨RX8, "gladness", "()I"⟩
abbrev cX8_doAgree : ByteArray := prog_10_method_50_code
def yX8_doAgree : MethodName := ⟨RX8, "doAgree", "([III)Z"⟩
abbrev cX8_agreeMany : ByteArray := prog_10_method_51_code
def yX8_agreeMany : MethodName := ⟨RX8, "agreeMany", "([I)I"⟩
abbrev cX8_agree : ByteArray := prog_10_method_52_code
def yX8_agree : MethodName := ⟨RX8, "agree", "(I)I"⟩
abbrev cX8_mostBy : ByteArray := prog_10_method_53_code
def yX8_mostBy : MethodName := ⟨RX8, "mostBy", "([II)I"⟩
abbrev cX8_most_ : ByteArray := prog_10_method_54_code
def yX8_most_ : MethodName := ⟨RX8, "most", "(I)I"⟩
abbrev cX8_byMinutes : ByteArray := prog_10_method_55_code
def yX8_byMinutes : MethodName := ⟨RX8, "byMinutes", "(I)I"⟩
abbrev cX8_fewDrops : ByteArray := prog_10_method_56_code
def yX8_fewDrops : MethodName := ⟨RX8, "fewDrops", "()I"⟩
abbrev cX8_together : ByteArray := prog_10_method_57_code
def yX8_together : MethodName := ⟨RX8, "together", "(III)I"⟩
abbrev cX8_gladdest : ByteArray := prog_10_method_58_code
def yX8_gladdest : MethodName := ⟨RX8, "gladdest", "(I)I"⟩
abbrev cX8_queue : ByteArray := prog_10_method_59_code
def yX8_queue : MethodName := ⟨RX8, "queue", "(I)I"⟩
abbrev cX8_oneMore : ByteArray := prog_10_method_60_code
def yX8_oneMore : MethodName := ⟨RX8, "oneMore", "()I"⟩
abbrev cX8_bestYear : ByteArray := prog_10_method_61_code
def yX8_bestYear : MethodName := ⟨RX8, "bestYear", "()I"⟩
abbrev cX8_waterOf : ByteArray := prog_10_method_62_code
def yX8_waterOf : MethodName := ⟨RX8, "waterOf", "(I)I"⟩
abbrev cX8_water : ByteArray := prog_10_method_63_code
def yX8_water : MethodName := ⟨RX8, "water", "(I)I"⟩
abbrev cX8_bestWash : ByteArray := prog_10_method_64_code
def yX8_bestWash : MethodName := ⟨RX8, "bestWash", "()I"⟩
abbrev cX8_sour : ByteArray := prog_10_method_65_code
def yX8_sour : MethodName := ⟨RX8, "sour", "()I"⟩
abbrev cX8_regret : ByteArray := prog_10_method_66_code
def yX8_regret : MethodName := ⟨RX8, "regret", "(I)I"⟩
abbrev cX8_two : ByteArray := prog_10_method_67_code
def yX8_two : MethodName := ⟨RX8, "two", "(II)I"⟩
abbrev cX8_gcd : ByteArray := prog_10_method_68_code
def yX8_gcd : MethodName := ⟨RX8, "gcd", "(JJ)J"⟩
abbrev cX8_partOf : ByteArray := prog_10_method_69_code
def yX8_partOf : MethodName := ⟨RX8, "partOf", "(JJI)J"⟩
abbrev cX8_slips : ByteArray := prog_10_method_70_code
def yX8_slips : MethodName := ⟨RX8, "slips", "(IIII)J"⟩
abbrev cX8_power : ByteArray := prog_10_method_71_code
def yX8_power : MethodName := ⟨RX8, "power", "(II)J"⟩
abbrev cX8_slip : ByteArray := prog_10_method_72_code
def yX8_slip : MethodName := ⟨RX8, "slip", "(IIIII)J"⟩
abbrev cX8_mean : ByteArray := prog_10_method_73_code
def yX8_mean : MethodName := ⟨RX8, "mean", "(IIII)J"⟩
abbrev cX8_whatWas : ByteArray := prog_10_method_74_code
def yX8_whatWas : MethodName := ⟨RX8, "whatWas", "(II)I"⟩
abbrev cX8_mended : ByteArray := prog_10_method_75_code
def yX8_mended : MethodName := ⟨RX8, "mended", "(III)I"⟩
abbrev cX8_row : ByteArray := prog_10_method_76_code
def yX8_row : MethodName := ⟨RX8, "row", "(I)I"⟩
abbrev cX8_judge : ByteArray := prog_10_method_77_code
def yX8_judge : MethodName := ⟨RX8, "judge", "(I)I"⟩
abbrev cX8_clear : ByteArray := prog_10_method_78_code
def yX8_clear : MethodName := ⟨RX8, "clear", "()I"⟩
abbrev cX8_drawn : ByteArray := prog_10_method_79_code
def yX8_drawn : MethodName := ⟨RX8, "drawn", "(I)I"⟩
abbrev cX8_lots : ByteArray := prog_10_method_80_code
def yX8_lots : MethodName := ⟨RX8, "lots", "(III)I"⟩
abbrev cX8_image : ByteArray := prog_10_method_81_code
def yX8_image : MethodName := ⟨RX8, "image", "()I"⟩
abbrev cX8_on : ByteArray := prog_10_method_82_code
def yX8_on : MethodName := ⟨RX8, "on", "()I"⟩
abbrev cX8_count : ByteArray := prog_10_method_83_code
def yX8_count : MethodName := ⟨RX8, "count", "(I)I"⟩
def RJ0 : String := "java/lang/String"
def TJ0 : u_T := fun k => match k with
  | _ => ("", "", "", false)
def tyJ0 : Nat → FieldType := fun k => match k with
  | _ => .int
abbrev wsJ00 : List Cond := u_ws RJ0 TJ0 0
theorem nmJ0 : ∀ a, a < 0 → ∀ b, b < 0 → a ≠ b → (TJ0 a).2.1 ≠ (TJ0 b).2.1 := by decide +kernel
theorem tyJ0_ok : ∀ k, k < 0 → parseFieldDescriptor (TJ0 k).2.2.1 = some (tyJ0 k) := by decide +kernel
abbrev cJ0_length_8abf5 : ByteArray := prog_13_method_54_code
def yJ0_length_8abf5 : MethodName := ⟨RJ0, "length", "()I"⟩
abbrev cJ0_indexOf_0f7a4 : ByteArray := prog_13_method_79_code
def yJ0_indexOf_0f7a4 : MethodName := ⟨RJ0, "indexOf", "(I)I"⟩
abbrev cJ0_indexOf_7cf53 : ByteArray := prog_13_method_80_code
def yJ0_indexOf_7cf53 : MethodName := ⟨RJ0, "indexOf", "(II)I"⟩
abbrev cJ0_coder_7d493 : ByteArray := prog_13_method_152_code
def yJ0_coder_7d493 : MethodName := ⟨RJ0, "coder", "()B"⟩
abbrev cJ0_isLatin1_aae02 : ByteArray := prog_13_method_154_code
def yJ0_isLatin1_aae02 : MethodName := ⟨RJ0, "isLatin1", "()Z"⟩
abbrev cJ0_checkBoundsBeginEnd_23922 : ByteArray := prog_13_method_158_code
def yJ0_checkBoundsBeginEnd_23922 : MethodName := ⟨RJ0, "checkBoundsBeginEnd", "(III)V"⟩
def RJ1 : String := "java/lang/StringLatin1"
def TJ1 : u_T := fun k => match k with
  | _ => ("", "", "", false)
def tyJ1 : Nat → FieldType := fun k => match k with
  | _ => .int
abbrev wsJ10 : List Cond := u_ws RJ1 TJ1 0
theorem nmJ1 : ∀ a, a < 0 → ∀ b, b < 0 → a ≠ b → (TJ1 a).2.1 ≠ (TJ1 b).2.1 := by decide +kernel
theorem tyJ1_ok : ∀ k, k < 0 → parseFieldDescriptor (TJ1 k).2.2.1 = some (tyJ1 k) := by decide +kernel
abbrev cJ1_canEncode_9a6ad : ByteArray := prog_14_method_4_code
def yJ1_canEncode_9a6ad : MethodName := ⟨RJ1, "canEncode", "(I)Z"⟩
abbrev cJ1_indexOf_4cfef : ByteArray := prog_14_method_22_code
def yJ1_indexOf_4cfef : MethodName := ⟨RJ1, "indexOf", "([BIII)I"⟩
abbrev cJ1_indexOfChar_4cfef : ByteArray := prog_14_method_23_code
def yJ1_indexOfChar_4cfef : MethodName := ⟨RJ1, "indexOfChar", "([BIII)I"⟩
def RJ2 : String := "java/lang/StringUTF16"
def TJ2 : u_T := fun k => match k with
  | _ => ("", "", "", false)
def tyJ2 : Nat → FieldType := fun k => match k with
  | _ => .int
abbrev wsJ20 : List Cond := u_ws RJ2 TJ2 0
theorem nmJ2 : ∀ a, a < 0 → ∀ b, b < 0 → a ≠ b → (TJ2 a).2.1 ≠ (TJ2 b).2.1 := by decide +kernel
theorem tyJ2_ok : ∀ k, k < 0 → parseFieldDescriptor (TJ2 k).2.2.1 = some (tyJ2 k) := by decide +kernel
abbrev cJ2_getChar_3b067 : ByteArray := prog_15_method_5_code
def yJ2_getChar_3b067 : MethodName := ⟨RJ2, "getChar", "([BI)C"⟩
abbrev cJ2_length_9d52b : ByteArray := prog_15_method_6_code
def yJ2_length_9d52b : MethodName := ⟨RJ2, "length", "([B)I"⟩
abbrev cJ2_indexOf_4cfef : ByteArray := prog_15_method_40_code
def yJ2_indexOf_4cfef : MethodName := ⟨RJ2, "indexOf", "([BIII)I"⟩
abbrev cJ2_indexOfChar_4cfef : ByteArray := prog_15_method_47_code
def yJ2_indexOfChar_4cfef : MethodName := ⟨RJ2, "indexOfChar", "([BIII)I"⟩
abbrev cJ2_indexOfCharUnsafe_4cfef : ByteArray := prog_15_method_48_code
def yJ2_indexOfCharUnsafe_4cfef : MethodName := ⟨RJ2, "indexOfCharUnsafe", "([BIII)I"⟩
abbrev cJ2_indexOfSupplementary_4cfef : ByteArray := prog_15_method_49_code
def yJ2_indexOfSupplementary_4cfef : MethodName := ⟨RJ2, "indexOfSupplementary", "([BIII)I"⟩
abbrev cJ2_checkBoundsBeginEnd_d044e : ByteArray := prog_15_method_93_code
def yJ2_checkBoundsBeginEnd_d044e : MethodName := ⟨RJ2, "checkBoundsBeginEnd", "(II[B)V"⟩
end
section
-- ===== the words that every method shares =====
def zNest : Cond → Bool
  | .fieldLinkNest .. => true
  | .methodLinkNest .. => true
  | _ => false
def WS : List Cond := lw_tbl.filter goodWord
def NWS : List Cond := lw_tbl.filter zNest
theorem ws_at {w : Cond} (i : Nat) (h : lw_tbl[i]? = some w) (g : goodWord w = true) : w ∈ WS := List.mem_filter.mpr ⟨List.mem_of_getElem? h, g⟩
theorem nws_at {w : Cond} (i : Nat) (h : lw_tbl[i]? = some w) (g : zNest w = true) : w ∈ NWS := List.mem_filter.mpr ⟨List.mem_of_getElem? h, g⟩
theorem ws_good {w : Cond} (h : w ∈ WS) : goodWord w = true := (List.mem_filter.mp h).2
theorem ws_tbl {w : Cond} (h : w ∈ WS) : w ∈ lw_tbl := (List.mem_filter.mp h).1
theorem zgi {c0 : Cond} {x : List Cond} (h : ∀ w ∈ x, w ∈ WS) : GoodIn (c0 :: WS) x := fun w hw => ⟨List.mem_cons_of_mem _ (h w hw), good_of_word (ws_good (h w hw))⟩
-- ===== the classes, the cells, the store =====
abbrev CL : List vw_C := [(RX0, TX0, 3), (RX1, TX1, 5), (RX2, TX2, 2), (RX3, TX3, 6), (RX4, TX4, 1), (RX5, TX5, 2), (RX6, TX6, 4), (RX7, TX7, 13), (RX8, TX8, 16)]
/-- what a number is: the store of ints (a cell's number, a place in it), the one row of longs -/
abbrev St : Type := (Nat → Nat → Int32) × (Nat → Int64)
def zshop : List Nat := [3, 20, 10, 6, 11, 6, 11, 6, 11, 6, 11, 6, 11, 6, 11, 6, 11, 6, 11]
def zkinds : List Nat := 7 :: (zshop ++ zshop ++ zshop ++ [6, 11, 5, 12, 2, 13, 1, 10, 10, 0, 10, 14, 4, 21, 15, 16, 8, 17, 17, 17, 17, 12, 13, 16, 14, 18, 18])
/-- the kind of a cell: below 9 its class, 10 .. 18 a row of ints, 20 a row of things, 21 the row of longs -/
def kd (i : Nat) : Nat := zkinds.getD i 99
abbrev NC : Nat := 85
theorem kd_th {q : Nat} (h : kd q = 6) : kd (q + 1) = 11 := by
  have hq : q < 85 := by
    rcases Nat.lt_or_ge q 85 with g | g
    · exact g
    · have : kd q = 99 := by simp [kd, List.getD_eq_getElem?_getD, List.getElem?_eq_none (l := zkinds) (i := q) g]
      omega
  have key : ∀ i, i < 85 → kd i = 6 → kd (i + 1) = 11 := by decide +kernel
  exact key q hq h
theorem kd_lt {q k : Nat} (h : kd q = k) (hk : k < 99) : q < NC := by
  rcases Nat.lt_or_ge q 85 with g | g
  · exact g
  · have : kd q = 99 := by simp [kd, List.getD_eq_getElem?_getD, List.getElem?_eq_none (l := zkinds) (i := q) g]
    omega
theorem kd_sh1 {q : Nat} (h : kd q = 3) : kd (q + 1) = 20 := by
  have key : ∀ i, i < 85 → kd i = 3 → kd (i + 1) = 20 := by decide +kernel
  exact key q (kd_lt h (by decide)) h
theorem kd_sh2 {q : Nat} (h : kd q = 3) : kd (q + 2) = 10 := by
  have key : ∀ i, i < 85 → kd i = 3 → kd (i + 2) = 10 := by decide +kernel
  exact key q (kd_lt h (by decide)) h
theorem kd_sht {q j : Nat} (h : kd q = 3) (hj : j < 8) : kd (q + 1 + 2 + 2 * j) = 6 := by
  have key : ∀ i, i < 85 → ∀ j, j < 8 → kd i = 3 → kd (i + 1 + 2 + 2 * j) = 6 := by decide +kernel
  exact key q (kd_lt h (by decide)) j hj h
/-- the fields of an object, by its class, its number, its ints -/
def zf : Nat → Nat → (Nat → Int32) → List Value
  | 0, q, r => [.ref (q + 1), .ref (q + 2), .int (r 2)]
  | 1, q, r => [.ref (q + 1), .ref (q + 2), .int (r 2), .int (r 3), .int (r 4)]
  | 2, q, r => [.ref (q + 1), .int (r 1)]
  | 3, q, r => [.int (r 0), .int (r 1), .int (r 2), .int (r 3), .ref (q + 1), .ref (q + 2)]
  | 4, q, _ => [.ref (q + 1)]
  | 5, q, r => [.ref (q + 1), .int (r 1)]
  | 6, q, r => [.int (r 0), .int (r 1), .int (r 2), .ref (q + 1)]
  | 7, _, r => [.ref 1, .ref 20, .ref 39, .ref 58, .ref 60, .ref 62, .ref 64, .ref 67, .ref 70, .ref 72, .ref 73, .int (r 11), .int (r 12)]
  | _, _, r => [.ref 75, .ref 76, .ref 77, .ref 78, .int (r 4), .ref 79, .ref 80, .ref 81, .int (r 8), .int (r 9), .int (r 10), .ref 82, .int (r 12), .ref 83, .ref 84, .int (r 15)]
def il (k : Nat) : Nat := ([8, 12, 96, 16, 4, 20, 7, 132, 100] : List Nat).getD (k - 10) 0
/-- where the cells lie, and what the machine calls their classes -/
abbrev zR : Type := va_G × (Nat → Nat) × (ClassId × ClassId × ClassId) × (Nat × Nat)
def rv (ad : Nat → Nat) : Value → Value
  | .ref a => .ref (ad a)
  | v => v
theorem rv_cat (ad : Nat → Nat) (v : Value) : (rv ad v).category = v.category := by cases v <;> rfl
def zk (k : Nat) (ρ : zR) (i : Nat) (r : Nat → Int32) (L : Nat → Int64) : va_E :=
  if k < 9 then .inr (k, (zf k i r).map (rv ρ.2.1))
  else if k < 20 then .inl (ρ.2.2.1.1, (il k, .inl r))
  else if k = 20 then .inl (ρ.2.2.1.2.2, (8, .inr (.inr (.inr (.inr (fun j => some (ρ.2.1 (i + 2 + 2 * j))))))))
  else .inl (ρ.2.2.1.2.1, (9, .inr (.inl L)))
def zc (ρ : zR) (S : St) (i : Nat) : va_E := zk (kd i) ρ i (S.1 i) S.2
def world (ρ : zR) (S : St) : va_W := (List.range NC).map (fun i => (ρ.2.1 i, zc ρ S i))
def ztys (ρ : zR) : List (ClassId × FieldType) := [(ρ.2.2.1.1, .int), (ρ.2.2.1.2.1, .long), (ρ.2.2.1.2.2, .object RX6)]
theorem world_at (ρ : zR) (S : St) {i : Nat} (h : i < NC) : (world ρ S)[i]? = some (ρ.2.1 i, zc ρ S i) := by
  simp [world, h]
theorem world_len (ρ : zR) (S : St) : (world ρ S).length = NC := by simp [world]
theorem world_of {ρ : zR} {S : St} {k : Nat} {q : Nat × va_E} (h : (world ρ S)[k]? = some q) : k < NC ∧ q = (ρ.2.1 k, zc ρ S k) := by
  have hk : k < NC := by
    have := (List.getElem?_eq_some_iff.mp h).1
    rwa [world_len] at this
  rw [world_at ρ S hk] at h
  exact ⟨hk, (Option.some.inj h).symm⟩
theorem world_set {ρ : zR} {S S' : St} {q : Nat} {e : va_E} (h1 : zc ρ S' q = e) (h2 : ∀ i, i < NC → i ≠ q → zc ρ S' i = zc ρ S i) : (world ρ S).set q (ρ.2.1 q, e) = world ρ S' := by
  apply List.ext_getElem?
  intro i
  by_cases hi : i < NC
  · rw [world_at ρ S' hi]
    by_cases hq : i = q
    · subst hq
      rw [List.getElem?_set_self (by rw [world_len]; exact hi), h1]
    · rw [List.getElem?_set_ne (fun z => hq z.symm), world_at ρ S hi, h2 i hi hq]
  · rw [List.getElem?_eq_none (by simp [world_len]; omega), List.getElem?_eq_none (by simp [world_len]; omega)]
/-- writes -/
def up (S : St) (q k : Nat) (x : Int32) : St := (fun i j => if i = q ∧ j = k then x else S.1 i j, S.2)
def upL (S : St) (k : Nat) (x : Int64) : St := (S.1, vp_updL S.2 k x)
def upc (S : St) (q0 q sp dp n : Nat) : St := (fun i => if i = q then va_cpy (S.1 q0) (S.1 q) sp dp n else S.1 i, S.2)
theorem up_row (S : St) (q k : Nat) (x : Int32) : (up S q k x).1 q = upd (S.1 q) k x := by
  funext j
  simp [up, upd]
theorem up_ne {S : St} {q k : Nat} {x : Int32} {i : Nat} (h : i ≠ q) : (up S q k x).1 i = S.1 i := by
  funext j
  simp [up, h]
theorem upc_row (S : St) (q0 q sp dp n : Nat) : (upc S q0 q sp dp n).1 q = va_cpy (S.1 q0) (S.1 q) sp dp n := by simp [upc]
theorem upc_ne {S : St} {q0 q sp dp n i : Nat} (h : i ≠ q) : (upc S q0 q sp dp n).1 i = S.1 i := by simp [upc, h]
-- ===== the world's faces =====
def zI (ad : Nat → Nat) : Prop := ∀ i j, i < NC → j < NC → ad i = ad j → i = j
def zA (ad : Nat → Nat) (sz : Nat) : Nat → Prop := fun q => (∃ i, i < NC ∧ q = ad i) ∨ sz ≤ q
theorem zA_in {ad : Nat → Nat} {sz i : Nat} (h : i < NC) : zA ad sz (ad i) := Or.inl ⟨i, h, rfl⟩
theorem zA_up {ad : Nat → Nat} {a b q : Nat} (h : a ≤ b) (hq : zA ad b q) : zA ad a q := hq.elim Or.inl (fun x => Or.inr (Nat.le_trans h x))
theorem z_D {ρ : zR} {S : St} {sz : Nat} (h : zI ρ.2.1) : va_D (zA ρ.2.1 sz) (world ρ S) := by
  refine ⟨fun i j p q hi hj e => ?_, fun k q hk => ?_⟩
  · obtain ⟨h1, rfl⟩ := world_of hi
    obtain ⟨h2, rfl⟩ := world_of hj
    exact h i j h1 h2 e
  · obtain ⟨h1, rfl⟩ := world_of hk
    exact zA_in h1
/-- what stays: the tables, the nest mates' words, the one text -/
def zE (ρ : zR) (A : Nat → Prop) (U : State) (H : Heap) : Prop :=
  va_K ρ.1 CL (ztys ρ) U ∧ (∀ w ∈ NWS, va_Nw w U) ∧ vk_R RX5 27 "tcdpfw" ρ.2.2.2.1 U ∧
  vk_S 1 [6] [[116, 99, 100, 112, 102, 119]] (fun _ => ρ.2.2.2.1) (fun _ => ρ.2.2.2.2) A U H ∧ va_Z "java/lang/String" "COMPACT_STRINGS" "Z" (.int 1) A U H
theorem nws_kind {w : Cond} (h : w ∈ NWS) : w.onTables = true ∧ ((∃ a i b n d o, w = .fieldLinkNest a i b n d o) ∨ ∃ a i x o, w = .methodLinkNest a i x o) := by
  have h2 := (List.mem_filter.mp h).2
  cases w <;> first | (simp [zNest] at h2; done) | exact ⟨rfl, Or.inl ⟨_, _, _, _, _, _, rfl⟩⟩ | exact ⟨rfl, Or.inr ⟨_, _, _, _, rfl⟩⟩
theorem zE.same {ρ : zR} {A : Nat → Prop} {u U : State} {H : Heap} (hv : U.vm = u.vm) (h : zE ρ A u H) : zE ρ A U H := by
  have hal : u.vm.Alike U.vm := by rw [hv]; exact Vm.Alike.refl _
  exact ⟨va_K.moved hal h.1, fun w hw => va_Nw.same (nws_kind hw).1 hv.symm (h.2.1 w hw), vk_R.same hv h.2.2.1, vk_S.moved hal h.2.2.2.1, va_Z.moved hal h.2.2.2.2⟩
theorem zE.warm {ρ : zR} {A : Nat → Prop} {s U : State} {H : Heap} (hW : s.WarmedH U.vm) (h : zE ρ A s H) : zE ρ A U H := by
  refine ⟨va_K.moved hW.alike h.1, fun w hw => ?_, vk_R.warm hW h.2.2.1, vk_S.moved hW.alike h.2.2.2.1, va_Z.moved hW.alike h.2.2.2.2⟩
  rcases (nws_kind hw).2 with ⟨a, i, b, n, d, o, rfl⟩ | ⟨a, i, x, o, rfl⟩
  · exact va_Nw.warmF hW (h.2.1 _ hw)
  · exact va_Nw.warmM hW (h.2.1 _ hw)
theorem zE.kept {ρ : zR} {A : Nat → Prop} {U : State} {H H1 : Heap} (h : zE ρ A U H) (hq : ∀ a : Nat, a < H.size → ¬ A a → H1[a]? = H[a]?) : zE ρ A U H1 :=
  ⟨h.1, h.2.1, h.2.2.1, h.2.2.2.1.kept hq, h.2.2.2.2.kept hq⟩
theorem zE.narrow {ρ : zR} {A B : Nat → Prop} {U : State} {H : Heap} (h : zE ρ A U H) (hAB : ∀ q, B q → A q) : zE ρ B U H :=
  ⟨h.1, h.2.1, h.2.2.1, h.2.2.2.1.narrow hAB, h.2.2.2.2.narrow hAB⟩
/-- a method: its class, its code, its locals, what it answers, its room -/
abbrev zM : Type := String × ByteArray × Nat × Option FieldType × Nat × Nat
abbrev zrm (M : zM) : Room := { frames := M.2.2.2.2.1, cells := 0, slots := 0, locals := M.2.2.2.2.2 }
def zQ (ρ : zR) (w : Option Value) (S' : St) (A : Nat → Prop) : Array Value → State → Outcome → State → Prop := fun _ st oc t =>
  (oc = .returned (w.map (rv ρ.2.1)) ∧ va_P ρ.1 CL (world ρ S') t.heap) ∧ va_F A st t
def zB (ρ : zR) (sz : Nat) (S : St) (U : State) : Prop := U.heap.size = sz ∧ zI ρ.2.1 ∧ va_P ρ.1 CL (world ρ S) U.heap ∧ zE ρ (zA ρ.2.1 sz) U U.heap
/-- the contract: from the store S, with these arguments, the method answers w, and the store is S' -/
def CT (l : Launch) (y : MethodName) (M : zM) (as : List Value) (S : St) (w : Option Value) (S' : St) : Prop :=
  ∀ (ρ : zR) (sz : Nat), Met l y (.code y M.2.1 M.2.2.1 M.2.2.2.1 :: WS) (zrm M) (va_Pc (as.map (rv ρ.2.1)) (zB ρ sz S)) (zQ ρ w S' (zA ρ.2.1 sz)) 0 0 (zA ρ.2.1 sz)
def zX (y : MethodName) (M : zM) (ρ : zR) (sz : Nat) (p : Program) (s : State) (m : MethodId) (args : Array Value) (meth : Method) (c : Code) : Prop :=
  p.tables.exec = Jvm.exec ∧ c.code = M.2.1 ∧ meth.sig.returnType = M.2.2.2.1 ∧ c.maxLocals = M.2.2.1 ∧ meth.locks = false ∧ s.vm.findClass y.cls = some m.cls ∧
  (∀ w ∈ (Cond.code y M.2.1 M.2.2.1 M.2.2.2.1 :: WS), w.before args s = true) ∧ s.heap.size = sz ∧ zI ρ.2.1 ∧ zE ρ (zA ρ.2.1 sz) s s.heap
def zl (ad : Nat → Nat) (q : Nat × Value) : Nat × Value := (q.1, rv ad q.2)
/-- the machine in the method, at pc, with these locals, this stack, this store, comes to its end with w, S' -/
def Z (l : Launch) (y : MethodName) (M : zM) (pc : Nat) (lv : List (Nat × Value)) (st : List Value) (S : St) (w : Option Value) (S' : St) : Prop :=
  ∀ (ρ : zR) (sz : Nat) (p : Program) (e : Env) (s : State) (m : MethodId) (args : Array Value) (below : List Frame) (meth : Method) (c : Code), zX y M ρ sz p s m args meth c →
    ∀ (H : Heap) (locs : List Loc) (ls : Array Slot), va_P ρ.1 CL (world ρ S) H → va_S (zA ρ.2.1 sz) s.heap H locs → lv_has ls M.2.2.1 (lv.map (zl ρ.2.1)) →
      W p l e (zrm M) s m args below meth c H locs 0 0 (MQ below (zQ ρ w S' (zA ρ.2.1 sz)) args s 0 0 (zA ρ.2.1 sz)) (F0 m pc ls (st.map (rv ρ.2.1)))
theorem zargs (ad : Nat → Nat) : ∀ (i : Nat) (as : List Value), lv_args i (as.map (rv ad)) = (lv_args i as).map (zl ad)
  | _, [] => rfl
  | i, v :: vs => by
    show (i, rv ad v) :: lv_args (if (rv ad v).category = 2 then i + 2 else i + 1) (vs.map (rv ad)) = (i, rv ad v) :: (lv_args (if v.category = 2 then i + 2 else i + 1) vs).map (zl ad)
    rw [rv_cat, zargs ad _ vs]
theorem zlen (ad : Nat → Nat) : ∀ as : List Value, (lg_sl (as.map (rv ad))).length = (as.map Value.category).sum
  | [] => rfl
  | v :: vs => by
    have h2 : (lg_sl ((v :: vs).map (rv ad))).length = (if (rv ad v).category = 2 then 2 else 1) + (lg_sl (vs.map (rv ad))).length := by
      simp only [lg_sl, List.map_cons, List.flatMap_cons, List.length_append]
      split <;> rfl
    rw [h2, zlen ad vs, rv_cat, List.map_cons, List.sum_cons]
    cases v <;> rfl
/-- from the walk to the contract -/
theorem ct_of {l : Launch} {y : MethodName} {M : zM} {as : List Value} {S : St} {w : Option Value} {S' : St} {lv : List (Nat × Value)} (hy : plainName y.cls = true) (hlv : lv_args 0 as = lv) (hn : (as.map Value.category).sum ≤ M.2.2.1) (k : Z l y M 0 lv [] S w S') : CT l y M as S w S' := by
  intro ρ sz
  refine Met.ofW (cc := M.2.1) (maxL := M.2.2.1) (ret := M.2.2.2.1) hy rfl ?_
  intro p e s m args below meth c s₁ B hml hv
  obtain ⟨rfl, hsz, hI, hP, hE⟩ := hv
  have hts := atoms_spec (ws := Cond.code y M.2.1 M.2.2.1 M.2.2.2.1 :: WS) B.pre
  have hown : s.vm.findClass y.cls = some m.cls := findClass_of_methodNamed B.named
  have hlen : (lg_sl (as.map (rv ρ.2.1))).length ≤ M.2.2.1 := Nat.le_trans (Nat.le_of_eq (zlen ρ.2.1 as)) hn
  have hl := lv_entry (as.map (rv ρ.2.1)) (n := M.2.2.1) hlen
  rw [lg_entry_eq]
  rw [zargs, hlv] at hl
  exact k ρ sz p e s m _ below meth c ⟨B.exec, B.bytes, B.returns, hml, B.notSynchronized, hown, hts, hsz, hI, hE⟩ s.heap [] _ hP va_S.rf hl
section ZZ
variable {l : Launch} {y : MethodName} {M : zM} {pc : Nat} {lv : List (Nat × Value)} {st : List Value} {S : St} {w : Option Value} {S' : St}
theorem z_iconst {n : Int} {v : Int32} (d : decode M.2.1 pc = .ok (.iconst n, 1)) (hv : Int32.ofInt n = v) (k : Z l y M (pc + 1) lv (.int v :: st) S w S') : Z l y M pc lv (st) S w S' := fun ρ sz p e s m args below meth c X H locs ls hP hS hl =>
  lv_iconst X.1 X.2.1 d hv (k ρ sz p e s m args below meth c X H locs ls hP hS hl)
theorem z_bipush {n : Int} {v : Int32} (d : decode M.2.1 pc = .ok (.bipush n, 2)) (hv : (Int8.ofInt n).toInt32 = v) (k : Z l y M (pc + 2) lv (.int v :: st) S w S') : Z l y M pc lv (st) S w S' := fun ρ sz p e s m args below meth c X H locs ls hP hS hl =>
  lv_bipush X.1 X.2.1 d hv (k ρ sz p e s m args below meth c X H locs ls hP hS hl)
theorem z_sipush {n : Int} {v : Int32} (d : decode M.2.1 pc = .ok (.sipush n, 3)) (hv : (Int16.ofInt n).toInt32 = v) (k : Z l y M (pc + 3) lv (.int v :: st) S w S') : Z l y M pc lv (st) S w S' := fun ρ sz p e s m args below meth c X H locs ls hP hS hl =>
  lv_sipush X.1 X.2.1 d hv (k ρ sz p e s m args below meth c X H locs ls hP hS hl)
theorem z_lconst {n : Fin 2} {v : Int64} (d : decode M.2.1 pc = .ok (.lconst n, 1)) (hv : Int64.ofNat (n : Nat) = v) (k : Z l y M (pc + 1) lv (.long v :: st) S w S') : Z l y M pc lv (st) S w S' := fun ρ sz p e s m args below meth c X H locs ls hP hS hl =>
  lv_lconst X.1 X.2.1 d hv (k ρ sz p e s m args below meth c X H locs ls hP hS hl)
theorem z_iadd {a b : Int32} (d : decode M.2.1 pc = .ok (.iadd, 1)) (k : Z l y M (pc + 1) lv (.int (a + b) :: st) S w S') : Z l y M pc lv (.int b :: .int a :: st) S w S' := fun ρ sz p e s m args below meth c X H locs ls hP hS hl =>
  lv_iadd X.1 X.2.1 d (k ρ sz p e s m args below meth c X H locs ls hP hS hl)
theorem z_isub {a b : Int32} (d : decode M.2.1 pc = .ok (.isub, 1)) (k : Z l y M (pc + 1) lv (.int (a - b) :: st) S w S') : Z l y M pc lv (.int b :: .int a :: st) S w S' := fun ρ sz p e s m args below meth c X H locs ls hP hS hl =>
  lv_isub X.1 X.2.1 d (k ρ sz p e s m args below meth c X H locs ls hP hS hl)
theorem z_imul {a b : Int32} (d : decode M.2.1 pc = .ok (.imul, 1)) (k : Z l y M (pc + 1) lv (.int (a * b) :: st) S w S') : Z l y M pc lv (.int b :: .int a :: st) S w S' := fun ρ sz p e s m args below meth c X H locs ls hP hS hl =>
  lv_imul X.1 X.2.1 d (k ρ sz p e s m args below meth c X H locs ls hP hS hl)
theorem z_ishl {a b : Int32} (d : decode M.2.1 pc = .ok (.ishl, 1)) (k : Z l y M (pc + 1) lv (.int (a <<< (b &&& 31)) :: st) S w S') : Z l y M pc lv (.int b :: .int a :: st) S w S' := fun ρ sz p e s m args below meth c X H locs ls hP hS hl =>
  lv_ishl X.1 X.2.1 d (k ρ sz p e s m args below meth c X H locs ls hP hS hl)
theorem z_ishr {a b : Int32} (d : decode M.2.1 pc = .ok (.ishr, 1)) (k : Z l y M (pc + 1) lv (.int (a >>> (b &&& 31)) :: st) S w S') : Z l y M pc lv (.int b :: .int a :: st) S w S' := fun ρ sz p e s m args below meth c X H locs ls hP hS hl =>
  lv_ishr X.1 X.2.1 d (k ρ sz p e s m args below meth c X H locs ls hP hS hl)
theorem z_iand {a b : Int32} (d : decode M.2.1 pc = .ok (.iand, 1)) (k : Z l y M (pc + 1) lv (.int (a &&& b) :: st) S w S') : Z l y M pc lv (.int b :: .int a :: st) S w S' := fun ρ sz p e s m args below meth c X H locs ls hP hS hl =>
  lv_iand X.1 X.2.1 d (k ρ sz p e s m args below meth c X H locs ls hP hS hl)
theorem z_ior {a b : Int32} (d : decode M.2.1 pc = .ok (.ior, 1)) (k : Z l y M (pc + 1) lv (.int (a ||| b) :: st) S w S') : Z l y M pc lv (.int b :: .int a :: st) S w S' := fun ρ sz p e s m args below meth c X H locs ls hP hS hl =>
  lv_ior X.1 X.2.1 d (k ρ sz p e s m args below meth c X H locs ls hP hS hl)
theorem z_ixor {a b : Int32} (d : decode M.2.1 pc = .ok (.ixor, 1)) (k : Z l y M (pc + 1) lv (.int (a ^^^ b) :: st) S w S') : Z l y M pc lv (.int b :: .int a :: st) S w S' := fun ρ sz p e s m args below meth c X H locs ls hP hS hl =>
  lv_ixor X.1 X.2.1 d (k ρ sz p e s m args below meth c X H locs ls hP hS hl)
theorem z_idiv {a b : Int32} (d : decode M.2.1 pc = .ok (.idiv, 1)) (h : ¬ b = 0) (k : Z l y M (pc + 1) lv (.int (a / b) :: st) S w S') : Z l y M pc lv (.int b :: .int a :: st) S w S' := fun ρ sz p e s m args below meth c X H locs ls hP hS hl =>
  lv_idiv X.1 X.2.1 d h (k ρ sz p e s m args below meth c X H locs ls hP hS hl)
theorem z_irem {a b : Int32} (d : decode M.2.1 pc = .ok (.irem, 1)) (h : ¬ b = 0) (k : Z l y M (pc + 1) lv (.int (a - a / b * b) :: st) S w S') : Z l y M pc lv (.int b :: .int a :: st) S w S' := fun ρ sz p e s m args below meth c X H locs ls hP hS hl =>
  lv_irem X.1 X.2.1 d h (k ρ sz p e s m args below meth c X H locs ls hP hS hl)
theorem z_ineg {a : Int32} (d : decode M.2.1 pc = .ok (.ineg, 1)) (k : Z l y M (pc + 1) lv (.int (-a) :: st) S w S') : Z l y M pc lv (.int a :: st) S w S' := fun ρ sz p e s m args below meth c X H locs ls hP hS hl =>
  lv_ineg X.1 X.2.1 d (k ρ sz p e s m args below meth c X H locs ls hP hS hl)
theorem z_i2l {a : Int32} (d : decode M.2.1 pc = .ok (.i2l, 1)) (k : Z l y M (pc + 1) lv (.long a.toInt64 :: st) S w S') : Z l y M pc lv (.int a :: st) S w S' := fun ρ sz p e s m args below meth c X H locs ls hP hS hl =>
  lv_i2l X.1 X.2.1 d rfl (k ρ sz p e s m args below meth c X H locs ls hP hS hl)
theorem z_i2c {a : Int32} (d : decode M.2.1 pc = .ok (.i2c, 1)) (k : Z l y M (pc + 1) lv (.int (a.toUInt32 % 65536).toInt32 :: st) S w S') : Z l y M pc lv (.int a :: st) S w S' := fun ρ sz p e s m args below meth c X H locs ls hP hS hl =>
  lv_i2c X.1 X.2.1 d rfl (k ρ sz p e s m args below meth c X H locs ls hP hS hl)
theorem z_ladd {a b : Int64} (d : decode M.2.1 pc = .ok (.ladd, 1)) (k : Z l y M (pc + 1) lv (.long (a + b) :: st) S w S') : Z l y M pc lv (.long b :: .long a :: st) S w S' := fun ρ sz p e s m args below meth c X H locs ls hP hS hl =>
  lv_ladd X.1 X.2.1 d (k ρ sz p e s m args below meth c X H locs ls hP hS hl)
theorem z_lsub {a b : Int64} (d : decode M.2.1 pc = .ok (.lsub, 1)) (k : Z l y M (pc + 1) lv (.long (a - b) :: st) S w S') : Z l y M pc lv (.long b :: .long a :: st) S w S' := fun ρ sz p e s m args below meth c X H locs ls hP hS hl =>
  lv_lsub X.1 X.2.1 d (k ρ sz p e s m args below meth c X H locs ls hP hS hl)
theorem z_lmul {a b : Int64} (d : decode M.2.1 pc = .ok (.lmul, 1)) (k : Z l y M (pc + 1) lv (.long (a * b) :: st) S w S') : Z l y M pc lv (.long b :: .long a :: st) S w S' := fun ρ sz p e s m args below meth c X H locs ls hP hS hl =>
  lv_lmul X.1 X.2.1 d (k ρ sz p e s m args below meth c X H locs ls hP hS hl)
theorem z_ldiv {a b : Int64} (d : decode M.2.1 pc = .ok (.ldiv, 1)) (h : ¬ b = 0) (k : Z l y M (pc + 1) lv (.long (a / b) :: st) S w S') : Z l y M pc lv (.long b :: .long a :: st) S w S' := fun ρ sz p e s m args below meth c X H locs ls hP hS hl =>
  lv_ldiv X.1 X.2.1 d h (k ρ sz p e s m args below meth c X H locs ls hP hS hl)
theorem z_lrem {a b : Int64} (d : decode M.2.1 pc = .ok (.lrem, 1)) (h : ¬ b = 0) (k : Z l y M (pc + 1) lv (.long (a - a / b * b) :: st) S w S') : Z l y M pc lv (.long b :: .long a :: st) S w S' := fun ρ sz p e s m args below meth c X H locs ls hP hS hl =>
  lv_lrem X.1 X.2.1 d h (k ρ sz p e s m args below meth c X H locs ls hP hS hl)
theorem z_lcmp {a b : Int64} (d : decode M.2.1 pc = .ok (.lcmp, 1)) (k : Z l y M (pc + 1) lv (.int (lg_cmp a b) :: st) S w S') : Z l y M pc lv (.long b :: .long a :: st) S w S' := fun ρ sz p e s m args below meth c X H locs ls hP hS hl =>
  W.lcmp X.1 X.2.1 d (k ρ sz p e s m args below meth c X H locs ls hP hS hl)
theorem z_dup {v : Value} (d : decode M.2.1 pc = .ok (.dup, 1)) (hv : v.category = 1) (k : Z l y M (pc + 1) lv (v :: v :: st) S w S') : Z l y M pc lv (v :: st) S w S' := fun ρ sz p e s m args below meth c X H locs ls hP hS hl =>
  lv_dup X.1 X.2.1 d (by rw [rv_cat]; exact hv) (k ρ sz p e s m args below meth c X H locs ls hP hS hl)
theorem z_pop {v : Value} (d : decode M.2.1 pc = .ok (.pop, 1)) (hv : v.category = 1) (k : Z l y M (pc + 1) lv st S w S') : Z l y M pc lv (v :: st) S w S' := fun ρ sz p e s m args below meth c X H locs ls hP hS hl =>
  lv_pop X.1 X.2.1 d (by rw [rv_cat]; exact hv) (k ρ sz p e s m args below meth c X H locs ls hP hS hl)
theorem z_dup2 {v u : Value} (d : decode M.2.1 pc = .ok (.dup2, 1)) (hv : v.category = 1) (hu : u.category = 1) (k : Z l y M (pc + 1) lv (v :: u :: v :: u :: st) S w S') : Z l y M pc lv (v :: u :: st) S w S' := fun ρ sz p e s m args below meth c X H locs ls hP hS hl =>
  lv_dup2_11 X.1 X.2.1 d (by rw [rv_cat]; exact hv) (by rw [rv_cat]; exact hu) (k ρ sz p e s m args below meth c X H locs ls hP hS hl)
theorem zl_at {ad : Nat → Nat} {ls : Array Slot} {n : Nat} {lv : List (Nat × Value)} (hl : lv_has ls n (lv.map (zl ad))) {j i : Nat} {v : Value} (h : lv[j]? = some (i, v)) : ls[i]? = some (.val (rv ad v)) :=
  lv_at hl j (i := i) (v := rv ad v) (by rw [List.getElem?_map, h]; rfl)
theorem z_iload_n {k : Fin 4} {v : Int32} (j : Nat) (d : decode M.2.1 pc = .ok (.iload_n k, 1)) (h : lv[j]? = some ((k : Nat), .int v)) (kk : Z l y M (pc + 1) lv (.int v :: st) S w S') : Z l y M pc lv st S w S' := fun ρ sz p e s m args below meth c X H locs ls hP hS hl =>
  lv_iload_n X.1 X.2.1 d rfl (zl_at hl h) (kk ρ sz p e s m args below meth c X H locs ls hP hS hl)
theorem z_iload {i : Nat} {v : Int32} (j : Nat) (d : decode M.2.1 pc = .ok (.iload i, 2)) (h : lv[j]? = some (i, .int v)) (kk : Z l y M (pc + 2) lv (.int v :: st) S w S') : Z l y M pc lv st S w S' := fun ρ sz p e s m args below meth c X H locs ls hP hS hl =>
  lv_iload X.1 X.2.1 d (zl_at hl h) (kk ρ sz p e s m args below meth c X H locs ls hP hS hl)
theorem z_lload_n {k : Fin 4} {v : Int64} (j : Nat) (d : decode M.2.1 pc = .ok (.lload_n k, 1)) (h : lv[j]? = some ((k : Nat), .long v)) (kk : Z l y M (pc + 1) lv (.long v :: st) S w S') : Z l y M pc lv st S w S' := fun ρ sz p e s m args below meth c X H locs ls hP hS hl =>
  lv_lload_n X.1 X.2.1 d rfl (zl_at hl h) (kk ρ sz p e s m args below meth c X H locs ls hP hS hl)
theorem z_lload {i : Nat} {v : Int64} (j : Nat) (d : decode M.2.1 pc = .ok (.lload i, 2)) (h : lv[j]? = some (i, .long v)) (kk : Z l y M (pc + 2) lv (.long v :: st) S w S') : Z l y M pc lv st S w S' := fun ρ sz p e s m args below meth c X H locs ls hP hS hl =>
  lv_lload X.1 X.2.1 d (zl_at hl h) (kk ρ sz p e s m args below meth c X H locs ls hP hS hl)
theorem z_aload_n {k : Fin 4} {v : Nat} (j : Nat) (d : decode M.2.1 pc = .ok (.aload_n k, 1)) (h : lv[j]? = some ((k : Nat), .ref v)) (kk : Z l y M (pc + 1) lv (.ref v :: st) S w S') : Z l y M pc lv st S w S' := fun ρ sz p e s m args below meth c X H locs ls hP hS hl =>
  lv_aload_n X.1 X.2.1 d rfl (zl_at hl h) (kk ρ sz p e s m args below meth c X H locs ls hP hS hl)
theorem z_aload {i : Nat} {v : Nat} (j : Nat) (d : decode M.2.1 pc = .ok (.aload i, 2)) (h : lv[j]? = some (i, .ref v)) (kk : Z l y M (pc + 2) lv (.ref v :: st) S w S') : Z l y M pc lv st S w S' := fun ρ sz p e s m args below meth c X H locs ls hP hS hl =>
  lv_aload X.1 X.2.1 d (zl_at hl h) (kk ρ sz p e s m args below meth c X H locs ls hP hS hl)
theorem zpick {ad : Nat → Nat} {ls : Array Slot} {n : Nat} {l1 l2 : List (Nat × Value)} (ks : List Nat) (hl : lv_has ls n (l1.map (zl ad))) (h : lv_pick l1 ks = l2) : lv_has ls n (l2.map (zl ad)) := by
  refine lv_sub hl ks ?_
  subst h
  simp only [lv_pick]
  induction ks with
  | nil => rfl
  | cons k ks ih =>
    simp only [List.filterMap_cons, List.getElem?_map]
    cases l1[k]? with
    | none => simpa using ih
    | some q => simp only [Option.map_some, List.map_cons]; rw [← ih]; simp [List.getElem?_map]
def zf1 (i : Nat) (lv : List (Nat × Value)) : List (Nat × Value) := lv.filter (fun q => !(q.1 == i) && !(q.1 + 1 == i && q.2.category == 2))
def zf2 (i : Nat) (lv : List (Nat × Value)) : List (Nat × Value) := lv.filter (fun q => !(q.1 == i) && (!(q.1 == i + 1) && !(q.1 + 1 == i && q.2.category == 2)))
theorem zf1_map (ad : Nat → Nat) (i : Nat) (v : Value) (lv : List (Nat × Value)) : (i, rv ad v) :: (lv.map (zl ad)).filter (fun q => !(q.1 == i) && !(q.1 + 1 == i && q.2.category == 2)) = ((i, v) :: zf1 i lv).map (zl ad) := by
  simp only [List.map_cons, zf1, List.filter_map]
  congr 2
  apply List.filter_congr
  intro q _
  simp [zl, rv_cat]
theorem zf2_map (ad : Nat → Nat) (i : Nat) (v : Value) (lv : List (Nat × Value)) : (i, rv ad v) :: (lv.map (zl ad)).filter (fun q => !(q.1 == i) && (!(q.1 == i + 1) && !(q.1 + 1 == i && q.2.category == 2))) = ((i, v) :: zf2 i lv).map (zl ad) := by
  simp only [List.map_cons, zf2, List.filter_map]
  congr 2
  apply List.filter_congr
  intro q _
  simp [zl, rv_cat]
theorem z_istore_n {k : Fin 4} {v : Int32} {lv' : List (Nat × Value)} (ks : List Nat) (d : decode M.2.1 pc = .ok (.istore_n k, 1)) (hn : (k : Nat) < M.2.2.1) (h : lv_pick (((k : Nat), .int v) :: zf1 k lv) ks = lv') (kk : Z l y M (pc + 1) lv' st S w S') : Z l y M pc lv (.int v :: st) S w S' := fun ρ sz p e s m args below meth c X H locs ls hP hS hl =>
  lv_istore_n X.1 X.2.1 d rfl hl hn (zf1_map ρ.2.1 k (.int v) lv) (fun ls' hl' => kk ρ sz p e s m args below meth c X H locs ls' hP hS (zpick ks hl' h))
theorem z_istore {i : Nat} {v : Int32} {lv' : List (Nat × Value)} (ks : List Nat) (d : decode M.2.1 pc = .ok (.istore i, 2)) (hn : i < M.2.2.1) (h : lv_pick ((i, .int v) :: zf1 i lv) ks = lv') (kk : Z l y M (pc + 2) lv' st S w S') : Z l y M pc lv (.int v :: st) S w S' := fun ρ sz p e s m args below meth c X H locs ls hP hS hl =>
  lv_istore X.1 X.2.1 d hl hn (zf1_map ρ.2.1 i (.int v) lv) (fun ls' hl' => kk ρ sz p e s m args below meth c X H locs ls' hP hS (zpick ks hl' h))
theorem z_astore_n {k : Fin 4} {v : Nat} {lv' : List (Nat × Value)} (ks : List Nat) (d : decode M.2.1 pc = .ok (.astore_n k, 1)) (hn : (k : Nat) < M.2.2.1) (h : lv_pick (((k : Nat), .ref v) :: zf1 k lv) ks = lv') (kk : Z l y M (pc + 1) lv' st S w S') : Z l y M pc lv (.ref v :: st) S w S' := fun ρ sz p e s m args below meth c X H locs ls hP hS hl =>
  lv_astore_n X.1 X.2.1 d rfl hl hn (zf1_map ρ.2.1 k (.ref v) lv) (fun ls' hl' => kk ρ sz p e s m args below meth c X H locs ls' hP hS (zpick ks hl' h))
theorem z_astore {i : Nat} {v : Nat} {lv' : List (Nat × Value)} (ks : List Nat) (d : decode M.2.1 pc = .ok (.astore i, 2)) (hn : i < M.2.2.1) (h : lv_pick ((i, .ref v) :: zf1 i lv) ks = lv') (kk : Z l y M (pc + 2) lv' st S w S') : Z l y M pc lv (.ref v :: st) S w S' := fun ρ sz p e s m args below meth c X H locs ls hP hS hl =>
  lv_astore X.1 X.2.1 d hl hn (zf1_map ρ.2.1 i (.ref v) lv) (fun ls' hl' => kk ρ sz p e s m args below meth c X H locs ls' hP hS (zpick ks hl' h))
theorem z_lstore_n {k : Fin 4} {v : Int64} {lv' : List (Nat × Value)} (ks : List Nat) (d : decode M.2.1 pc = .ok (.lstore_n k, 1)) (hn : (k : Nat) + 1 < M.2.2.1) (h : lv_pick (((k : Nat), .long v) :: zf2 k lv) ks = lv') (kk : Z l y M (pc + 1) lv' st S w S') : Z l y M pc lv (.long v :: st) S w S' := fun ρ sz p e s m args below meth c X H locs ls hP hS hl =>
  lv_lstore_n X.1 X.2.1 d rfl hl hn (zf2_map ρ.2.1 k (.long v) lv) (fun ls' hl' => kk ρ sz p e s m args below meth c X H locs ls' hP hS (zpick ks hl' h))
theorem z_lstore {i : Nat} {v : Int64} {lv' : List (Nat × Value)} (ks : List Nat) (d : decode M.2.1 pc = .ok (.lstore i, 2)) (hn : i + 1 < M.2.2.1) (h : lv_pick ((i, .long v) :: zf2 i lv) ks = lv') (kk : Z l y M (pc + 2) lv' st S w S') : Z l y M pc lv (.long v :: st) S w S' := fun ρ sz p e s m args below meth c X H locs ls hP hS hl =>
  lv_lstore X.1 X.2.1 d hl hn (zf2_map ρ.2.1 i (.long v) lv) (fun ls' hl' => kk ρ sz p e s m args below meth c X H locs ls' hP hS (zpick ks hl' h))
theorem z_iinc {i : Nat} {n : Int} {x v : Int32} {lv' : List (Nat × Value)} (j : Nat) (ks : List Nat) (d : decode M.2.1 pc = .ok (.iinc i n, 3)) (hx : lv[j]? = some (i, .int x)) (hv : x + Int32.ofInt n = v) (hn : i < M.2.2.1) (h : lv_pick ((i, .int v) :: zf1 i lv) ks = lv') (kk : Z l y M (pc + 3) lv' st S w S') : Z l y M pc lv st S w S' := fun ρ sz p e s m args below meth c X H locs ls hP hS hl =>
  lv_iinc (k := j) X.1 X.2.1 d hl (by rw [List.getElem?_map, hx]; rfl) hv hn (zf1_map ρ.2.1 i (.int v) lv) (fun ls' hl' => kk ρ sz p e s m args below meth c X H locs ls' hP hS (zpick ks hl' h))
/-- fewer locals, in any order -/
theorem z_sub {lv' : List (Nat × Value)} (ks : List Nat) (h : lv_pick lv ks = lv') (kk : Z l y M pc lv' st S w S') : Z l y M pc lv st S w S' := fun ρ sz p e s m args below meth c X H locs ls hP hS hl =>
  kk ρ sz p e s m args below meth c X H locs ls hP hS (zpick ks hl h)
theorem z_goto {off : Int} {tgt : Nat} (d : decode M.2.1 pc = .ok (.goto off, 3)) (ht : (pc : Int) + off = (tgt : Int)) (k : Z l y M tgt lv st S w S') : Z l y M pc lv st S w S' := fun ρ sz p e s m args below meth c X H locs ls hP hS hl =>
  lv_goto X.1 X.2.1 d ht (k ρ sz p e s m args below meth c X H locs ls hP hS hl)
theorem z_icmp_eq {a b : Int32} {off : Int} {tgt : Nat} (d : decode M.2.1 pc = .ok (.if_icmp .eq off, 3)) (ht : (pc : Int) + off = (tgt : Int)) (kt : a = b → Z l y M tgt lv st S w S') (kf : ¬ a = b → Z l y M (pc + 3) lv st S w S') : Z l y M pc lv (.int b :: .int a :: st) S w S' := fun ρ sz p e s m args below meth c X H locs ls hP hS hl =>
  lv_icmp_eq X.1 X.2.1 d ht (fun q => kt q ρ sz p e s m args below meth c X H locs ls hP hS hl) (fun q => kf q ρ sz p e s m args below meth c X H locs ls hP hS hl)
theorem z_icmp_ne {a b : Int32} {off : Int} {tgt : Nat} (d : decode M.2.1 pc = .ok (.if_icmp .ne off, 3)) (ht : (pc : Int) + off = (tgt : Int)) (kt : ¬ a = b → Z l y M tgt lv st S w S') (kf : a = b → Z l y M (pc + 3) lv st S w S') : Z l y M pc lv (.int b :: .int a :: st) S w S' := fun ρ sz p e s m args below meth c X H locs ls hP hS hl =>
  lv_icmp_ne X.1 X.2.1 d ht (fun q => kt q ρ sz p e s m args below meth c X H locs ls hP hS hl) (fun q => kf q ρ sz p e s m args below meth c X H locs ls hP hS hl)
theorem z_icmp_lt {a b : Int32} {off : Int} {tgt : Nat} (d : decode M.2.1 pc = .ok (.if_icmp .lt off, 3)) (ht : (pc : Int) + off = (tgt : Int)) (kt : a < b → Z l y M tgt lv st S w S') (kf : ¬ a < b → Z l y M (pc + 3) lv st S w S') : Z l y M pc lv (.int b :: .int a :: st) S w S' := fun ρ sz p e s m args below meth c X H locs ls hP hS hl =>
  lv_icmp_lt X.1 X.2.1 d ht (fun q => kt q ρ sz p e s m args below meth c X H locs ls hP hS hl) (fun q => kf q ρ sz p e s m args below meth c X H locs ls hP hS hl)
theorem z_icmp_ge {a b : Int32} {off : Int} {tgt : Nat} (d : decode M.2.1 pc = .ok (.if_icmp .ge off, 3)) (ht : (pc : Int) + off = (tgt : Int)) (kt : b ≤ a → Z l y M tgt lv st S w S') (kf : ¬ b ≤ a → Z l y M (pc + 3) lv st S w S') : Z l y M pc lv (.int b :: .int a :: st) S w S' := fun ρ sz p e s m args below meth c X H locs ls hP hS hl =>
  lv_icmp_ge X.1 X.2.1 d ht (fun q => kt q ρ sz p e s m args below meth c X H locs ls hP hS hl) (fun q => kf q ρ sz p e s m args below meth c X H locs ls hP hS hl)
theorem z_icmp_gt {a b : Int32} {off : Int} {tgt : Nat} (d : decode M.2.1 pc = .ok (.if_icmp .gt off, 3)) (ht : (pc : Int) + off = (tgt : Int)) (kt : b < a → Z l y M tgt lv st S w S') (kf : ¬ b < a → Z l y M (pc + 3) lv st S w S') : Z l y M pc lv (.int b :: .int a :: st) S w S' := fun ρ sz p e s m args below meth c X H locs ls hP hS hl =>
  lv_icmp_gt X.1 X.2.1 d ht (fun q => kt q ρ sz p e s m args below meth c X H locs ls hP hS hl) (fun q => kf q ρ sz p e s m args below meth c X H locs ls hP hS hl)
theorem z_icmp_le {a b : Int32} {off : Int} {tgt : Nat} (d : decode M.2.1 pc = .ok (.if_icmp .le off, 3)) (ht : (pc : Int) + off = (tgt : Int)) (kt : a ≤ b → Z l y M tgt lv st S w S') (kf : ¬ a ≤ b → Z l y M (pc + 3) lv st S w S') : Z l y M pc lv (.int b :: .int a :: st) S w S' := fun ρ sz p e s m args below meth c X H locs ls hP hS hl =>
  lv_icmp_le X.1 X.2.1 d ht (fun q => kt q ρ sz p e s m args below meth c X H locs ls hP hS hl) (fun q => kf q ρ sz p e s m args below meth c X H locs ls hP hS hl)
theorem z_if_eq {a : Int32} {off : Int} {tgt : Nat} (d : decode M.2.1 pc = .ok (.ifCond .eq off, 3)) (ht : (pc : Int) + off = (tgt : Int)) (kt : a = 0 → Z l y M tgt lv st S w S') (kf : ¬ a = 0 → Z l y M (pc + 3) lv st S w S') : Z l y M pc lv (.int a :: st) S w S' := fun ρ sz p e s m args below meth c X H locs ls hP hS hl =>
  lv_if_eq X.1 X.2.1 d ht (fun q => kt q ρ sz p e s m args below meth c X H locs ls hP hS hl) (fun q => kf q ρ sz p e s m args below meth c X H locs ls hP hS hl)
theorem z_if_ne {a : Int32} {off : Int} {tgt : Nat} (d : decode M.2.1 pc = .ok (.ifCond .ne off, 3)) (ht : (pc : Int) + off = (tgt : Int)) (kt : ¬ a = 0 → Z l y M tgt lv st S w S') (kf : a = 0 → Z l y M (pc + 3) lv st S w S') : Z l y M pc lv (.int a :: st) S w S' := fun ρ sz p e s m args below meth c X H locs ls hP hS hl =>
  lv_if_ne X.1 X.2.1 d ht (fun q => kt q ρ sz p e s m args below meth c X H locs ls hP hS hl) (fun q => kf q ρ sz p e s m args below meth c X H locs ls hP hS hl)
theorem z_if_lt {a : Int32} {off : Int} {tgt : Nat} (d : decode M.2.1 pc = .ok (.ifCond .lt off, 3)) (ht : (pc : Int) + off = (tgt : Int)) (kt : a < 0 → Z l y M tgt lv st S w S') (kf : ¬ a < 0 → Z l y M (pc + 3) lv st S w S') : Z l y M pc lv (.int a :: st) S w S' := fun ρ sz p e s m args below meth c X H locs ls hP hS hl =>
  lv_if_lt X.1 X.2.1 d ht (fun q => kt q ρ sz p e s m args below meth c X H locs ls hP hS hl) (fun q => kf q ρ sz p e s m args below meth c X H locs ls hP hS hl)
theorem z_if_ge {a : Int32} {off : Int} {tgt : Nat} (d : decode M.2.1 pc = .ok (.ifCond .ge off, 3)) (ht : (pc : Int) + off = (tgt : Int)) (kt : 0 ≤ a → Z l y M tgt lv st S w S') (kf : ¬ 0 ≤ a → Z l y M (pc + 3) lv st S w S') : Z l y M pc lv (.int a :: st) S w S' := fun ρ sz p e s m args below meth c X H locs ls hP hS hl =>
  lv_if_ge X.1 X.2.1 d ht (fun q => kt q ρ sz p e s m args below meth c X H locs ls hP hS hl) (fun q => kf q ρ sz p e s m args below meth c X H locs ls hP hS hl)
theorem z_if_gt {a : Int32} {off : Int} {tgt : Nat} (d : decode M.2.1 pc = .ok (.ifCond .gt off, 3)) (ht : (pc : Int) + off = (tgt : Int)) (kt : 0 < a → Z l y M tgt lv st S w S') (kf : ¬ 0 < a → Z l y M (pc + 3) lv st S w S') : Z l y M pc lv (.int a :: st) S w S' := fun ρ sz p e s m args below meth c X H locs ls hP hS hl =>
  lv_if_gt X.1 X.2.1 d ht (fun q => kt q ρ sz p e s m args below meth c X H locs ls hP hS hl) (fun q => kf q ρ sz p e s m args below meth c X H locs ls hP hS hl)
theorem z_if_le {a : Int32} {off : Int} {tgt : Nat} (d : decode M.2.1 pc = .ok (.ifCond .le off, 3)) (ht : (pc : Int) + off = (tgt : Int)) (kt : a ≤ 0 → Z l y M tgt lv st S w S') (kf : ¬ a ≤ 0 → Z l y M (pc + 3) lv st S w S') : Z l y M pc lv (.int a :: st) S w S' := fun ρ sz p e s m args below meth c X H locs ls hP hS hl =>
  lv_if_le X.1 X.2.1 d ht (fun q => kt q ρ sz p e s m args below meth c X H locs ls hP hS hl) (fun q => kf q ρ sz p e s m args below meth c X H locs ls hP hS hl)
theorem z_lookup {dflt : Int} {ps : Array (Int × Int)} {len : Nat} {x : Int32} {off : Int} {tgt : Nat} (d : decode M.2.1 pc = .ok (.lookupswitch dflt ps, len)) (hp : (ps.toList.zip (ps.toList.drop 1)).all (fun (a, next) => a.1 < next.1) = true) (ho : Op.lookupswitch.offset ps.toList dflt x.toInt = off) (ht : (pc : Int) + off = (tgt : Int)) (k : Z l y M tgt lv st S w S') : Z l y M pc lv (.int x :: st) S w S' := fun ρ sz p e s m args below meth c X H locs ls hP hS hl =>
  lv_lookup X.1 X.2.1 d hp ho ht (k ρ sz p e s m args below meth c X H locs ls hP hS hl)
theorem z_tableOut {dflt lo hi : Int} {offs : Array Int} {len : Nat} {x : Int32} {tgt : Nat} (d : decode M.2.1 pc = .ok (.tableswitch dflt lo hi offs, len)) (h : x.toInt < lo ∨ hi < x.toInt) (ht : (pc : Int) + dflt = (tgt : Int)) (k : Z l y M tgt lv st S w S') : Z l y M pc lv (.int x :: st) S w S' := fun ρ sz p e s m args below meth c X H locs ls hP hS hl =>
  lv_tableOut X.1 X.2.1 d h ht (k ρ sz p e s m args below meth c X H locs ls hP hS hl)
theorem z_tableIn {dflt lo hi : Int} {offs : Array Int} {len : Nat} {x : Int32} {off : Int} {tgt : Nat} (d : decode M.2.1 pc = .ok (.tableswitch dflt lo hi offs, len)) (h1 : ¬ x.toInt < lo) (h2 : ¬ hi < x.toInt) (ho : offs[(x.toInt - lo).toNat]? = some off) (ht : (pc : Int) + off = (tgt : Int)) (k : Z l y M tgt lv st S w S') : Z l y M pc lv (.int x :: st) S w S' := fun ρ sz p e s m args below meth c X H locs ls hP hS hl =>
  lv_tableIn X.1 X.2.1 d h1 h2 ho ht (k ρ sz p e s m args below meth c X H locs ls hP hS hl)
theorem z_ldc {index : Nat} {v : Int32} (hc : Cond.constant y.cls index v ∈ WS) (d : decode M.2.1 pc = .ok (.ldc index, 2)) (k : Z l y M (pc + 2) lv (.int v :: st) S w S') : Z l y M pc lv st S w S' := fun ρ sz p e s m args below meth c X H locs ls hP hS hl =>
  lv_ldc X.1 X.2.1 X.2.2.2.2.2.1 (X.2.2.2.2.2.2.1 _ (List.mem_cons_of_mem _ hc)) d (k ρ sz p e s m args below meth c X H locs ls hP hS hl)
theorem z_ldc2 {index : Nat} {v : Int64} (hc : Cond.constantLong y.cls index v ∈ WS) (d : decode M.2.1 pc = .ok (.ldc2_w index, 3)) (k : Z l y M (pc + 3) lv (.long v :: st) S w S') : Z l y M pc lv st S w S' := fun ρ sz p e s m args below meth c X H locs ls hP hS hl =>
  lv_ldc2 X.1 X.2.1 X.2.2.2.2.2.1 (X.2.2.2.2.2.2.1 _ (List.mem_cons_of_mem _ hc)) d (k ρ sz p e s m args below meth c X H locs ls hP hS hl)
theorem zc_obj {ρ : zR} {S : St} {q ci : Nat} (hk : kd q = ci) (hc : ci < 9) : zc ρ S q = .inr (ci, (zf ci q (S.1 q)).map (rv ρ.2.1)) := by
  unfold zc zk
  rw [hk, if_pos hc]
theorem zc_ints {ρ : zR} {S : St} {q k : Nat} (hk : kd q = k) (hc : ¬ k < 9) (h2 : k < 20) : zc ρ S q = .inl (ρ.2.2.1.1, (il k, .inl (S.1 q))) := by
  unfold zc zk
  rw [hk, if_neg hc, if_pos h2]
theorem zc_things {ρ : zR} {S : St} {q : Nat} (hk : kd q = 20) : zc ρ S q = .inl (ρ.2.2.1.2.2, (8, .inr (.inr (.inr (.inr (fun j => some (ρ.2.1 (q + 2 + 2 * j)))))))) := by
  unfold zc zk
  rw [hk, if_neg (by decide), if_neg (by decide), if_pos rfl]
theorem zc_longs {ρ : zR} {S : St} {q : Nat} (hk : kd q = 21) : zc ρ S q = .inl (ρ.2.2.1.2.1, (9, .inr (.inl S.2))) := by
  unfold zc zk
  rw [hk, if_neg (by decide), if_neg (by decide), if_neg (by decide)]
theorem zc_up_ne {ρ : zR} {S : St} {q k : Nat} {x : Int32} {i : Nat} (h : i ≠ q) : zc ρ (up S q k x) i = zc ρ S i := by
  unfold zc
  rw [up_ne h]
  rfl
theorem zc_upc_ne {ρ : zR} {S : St} {q0 q sp dp n i : Nat} (h : i ≠ q) : zc ρ (upc S q0 q sp dp n) i = zc ρ S i := by
  unfold zc
  rw [upc_ne h]
  rfl
/-- a link of a field: own class' entry idx is field k of class ci -/
def zFL (own : String) (idx : Nat) (ci k : Nat) : Prop := ∃ (C : String) (T : u_T) (N : Nat), CL[ci]? = some (C, T, N) ∧ ci < 9 ∧ k < N ∧ (∀ w ∈ u_ws C T N, w ∈ WS) ∧ (T k).1 = C ∧
  (Cond.fieldLink own idx C (T k).2.1 (T k).2.2.1 ∈ WS ∨ ∃ host, Cond.fieldLinkNest own idx C (T k).2.1 (T k).2.2.1 host ∈ NWS)
theorem z_get {idx q ci fk : Nat} {v : Value} (d : decode M.2.1 pc = .ok (.getfield idx, 3)) (lk : zFL y.cls idx ci fk) (hk : kd q = ci) (hv : (zf ci q (S.1 q))[fk]? = some v) (k : Z l y M (pc + 3) lv (v :: st) S w S') : Z l y M pc lv (.ref q :: st) S w S' := by
  intro ρ sz p e s m args below meth c X H locs ls hP hS hl
  obtain ⟨C, T, N, h1, h2, h3, h4, h5, h6⟩ := lk
  obtain ⟨hx, hb, hr, hml, hlo, hown, hts, hsz, hI, hE⟩ := id X
  have he : (world ρ S)[q]? = some (ρ.2.1 q, .inr (ci, (zf ci q (S.1 q)).map (rv ρ.2.1))) := by
    rw [world_at ρ S (kd_lt hk (by omega)), zc_obj hk h2]
  have hv' : ((zf ci q (S.1 q)).map (rv ρ.2.1))[fk]? = some (rv ρ.2.1 v) := by rw [List.getElem?_map, hv]; rfl
  have kk := k ρ sz p e s m args below meth c X H locs ls hP hS hl
  have hin : ∀ w ∈ u_ws C T N, w ∈ (Cond.code y M.2.1 M.2.2.1 M.2.2.2.1 :: WS) := fun w hw => List.mem_cons_of_mem _ (h4 w hw)
  rcases h6 with h6 | ⟨host, h6⟩
  · exact va_get (D := ρ.1) (ci := ci) (ref := C) (C := C) (T := T) (N := N) hx hb hts hin hown hE.1 hP q he h1 fk h3 (hts _ (List.mem_cons_of_mem _ h6)) (by rw [h5]; exact fun _ h9 => h9) hv' d kk
  · exact va_getN (D := ρ.1) (ci := ci) (ref := C) (C := C) (T := T) (N := N) hx hb hts hin hown hE.1 hP q he h1 fk h3 (va_Nw.use rfl (hE.2.1 _ h6)) (by rw [h5]; exact fun _ h9 => h9) hv' d kk
/-- what a field may be written with -/
def zFP (ci k : Nat) (ty : FieldType) : Prop := ∃ (C : String) (T : u_T) (N : Nat) (ty0 : Nat → FieldType), CL[ci]? = some (C, T, N) ∧ (∀ k, k < N → parseFieldDescriptor (T k).2.2.1 = some (ty0 k)) ∧ (∀ a, a < N → ∀ b, b < N → a ≠ b → (T a).2.1 ≠ (T b).2.1) ∧ (T k).2.2.2 = false ∧ parseFieldDescriptor (T k).2.2.1 = some ty
theorem z_put {idx q ci fk : Nat} {x : Int32} {ty : FieldType} (d : decode M.2.1 pc = .ok (.putfield idx, 3)) (lk : zFL y.cls idx ci fk) (lp : zFP ci fk ty) (hk : kd q = ci) (hn : narrow ty (.int x) = .int x) (hfit : fits ty (.int x) = true) (hv : zf ci q (upd (S.1 q) fk x) = (zf ci q (S.1 q)).set fk (.int x)) (hl0 : fk < (zf ci q (S.1 q)).length) (k : Z l y M (pc + 3) lv st (up S q fk x) w S') : Z l y M pc lv (.int x :: .ref q :: st) S w S' := by
  intro ρ sz p e s m args below meth c X H locs ls hP hS hl
  obtain ⟨C, T, N, h1, h2, h3, h4, h5, h6⟩ := lk
  obtain ⟨C', T', N', ty0, g1, g2, g3, g4, g5⟩ := lp
  obtain ⟨rfl, rfl, rfl⟩ : C' = C ∧ T' = T ∧ N' = N := by
    have := g1.symm.trans h1
    simpa using this
  obtain ⟨hx, hb, hr, hml, hlo, hown, hts, hsz, hI, hE⟩ := id X
  have hq : q < NC := kd_lt hk (by omega)
  have he : (world ρ S)[q]? = some (ρ.2.1 q, .inr (ci, (zf ci q (S.1 q)).map (rv ρ.2.1))) := by
    rw [world_at ρ S hq, zc_obj hk h2]
  have hin : ∀ w ∈ u_ws C' T' N', w ∈ (Cond.code y M.2.1 M.2.2.1 M.2.2.2.1 :: WS) := fun w hw => List.mem_cons_of_mem _ (h4 w hw)
  have hw : (world ρ S).set q (ρ.2.1 q, .inr (ci, ((zf ci q (S.1 q)).map (rv ρ.2.1)).set fk (.int x))) = world ρ (up S q fk x) := by
    refine world_set ?_ (fun i _ h => zc_up_ne h)
    rw [zc_obj hk h2, up_row, hv, List.map_set]
    rfl
  have kk : ∀ (H1 : Heap) (locs1 : List Loc), va_P ρ.1 CL ((world ρ S).set q (ρ.2.1 q, .inr (ci, ((zf ci q (S.1 q)).map (rv ρ.2.1)).set fk (.int x)))) H1 → va_D (zA ρ.2.1 sz) ((world ρ S).set q (ρ.2.1 q, .inr (ci, ((zf ci q (S.1 q)).map (rv ρ.2.1)).set fk (.int x)))) → va_S (zA ρ.2.1 sz) s.heap H1 locs1 → W p l e (zrm M) s m args below meth c H1 locs1 0 0 (MQ below (zQ ρ w S' (zA ρ.2.1 sz)) args s 0 0 (zA ρ.2.1 sz)) (F0 m (pc + 3) ls (st.map (rv ρ.2.1))) := by
    intro H1 locs1 p1 _ s1
    rw [hw] at p1
    exact k ρ sz p e s m args below meth c X H1 locs1 ls p1 s1 hl
  rcases h6 with h6 | ⟨host, h6⟩
  · exact va_put (D := ρ.1) (ci := ci) (v := .int x) (ref := C') (C := C') (T := T') (N := N') hx hb hts hin ty0 g2 g3 hown hE.1 hP (z_D hI) hS q he h1 fk h3 (hts _ (List.mem_cons_of_mem _ h6)) (by rw [h5]; exact fun _ h9 => h9) g4 g5 hn hfit (by rw [List.length_map]; exact hl0) d kk
  · exact va_putN (D := ρ.1) (ci := ci) (v := .int x) (ref := C') (C := C') (T := T') (N := N') hx hb hts hin ty0 g2 g3 hown hE.1 hP (z_D hI) hS q he h1 fk h3 (va_Nw.use rfl (hE.2.1 _ h6)) (by rw [h5]; exact fun _ h9 => h9) g4 g5 hn hfit (by rw [List.length_map]; exact hl0) d kk
theorem z_iald {q k0 : Nat} {i : Int32} (d : decode M.2.1 pc = .ok (.iaload, 1)) (hk : kd q = k0) (hc : ¬ k0 < 9 ∧ k0 < 20) (hin : ¬ (i < 0 ∨ il k0 ≤ i.toNatClampNeg)) (k : Z l y M (pc + 1) lv (.int (S.1 q i.toNatClampNeg) :: st) S w S') : Z l y M pc lv (.int i :: .ref q :: st) S w S' := by
  intro ρ sz p e s m args below meth c X H locs ls hP hS hl
  have he : (world ρ S)[q]? = some (ρ.2.1 q, .inl (ρ.2.2.1.1, (il k0, .inl (S.1 q)))) := by rw [world_at ρ S (kd_lt hk (by omega)), zc_ints hk hc.1 hc.2]
  exact va_iald X.1 X.2.1 X.2.2.2.2.2.2.2.2.2.1 hP q 0 he rfl hin d (k ρ sz p e s m args below meth c X H locs ls hP hS hl)
theorem z_iast {q k0 : Nat} {i x : Int32} (d : decode M.2.1 pc = .ok (.iastore, 1)) (hk : kd q = k0) (hc : ¬ k0 < 9 ∧ k0 < 20) (hin : ¬ (i < 0 ∨ il k0 ≤ i.toNatClampNeg)) (k : Z l y M (pc + 1) lv st (up S q i.toNatClampNeg x) w S') : Z l y M pc lv (.int x :: .int i :: .ref q :: st) S w S' := by
  intro ρ sz p e s m args below meth c X H locs ls hP hS hl
  have he : (world ρ S)[q]? = some (ρ.2.1 q, .inl (ρ.2.2.1.1, (il k0, .inl (S.1 q)))) := by rw [world_at ρ S (kd_lt hk (by omega)), zc_ints hk hc.1 hc.2]
  refine va_iast X.1 X.2.1 X.2.2.2.2.2.2.2.2.2.1 hP (z_D X.2.2.2.2.2.2.2.2.1) hS q 0 he rfl hin d (fun H1 locs1 p1 _ s1 => ?_)
  have hw : (world ρ S).set q (ρ.2.1 q, .inl (ρ.2.2.1.1, il k0, .inl (upd (S.1 q) i.toNatClampNeg x))) = world ρ (up S q i.toNatClampNeg x) := by
    refine world_set ?_ (fun i _ h => zc_up_ne h)
    rw [zc_ints hk hc.1 hc.2, up_row]
  rw [hw] at p1
  exact k ρ sz p e s m args below meth c X H1 locs1 ls p1 s1 hl
theorem z_lald {q : Nat} {i : Int32} (d : decode M.2.1 pc = .ok (.laload, 1)) (hk : kd q = 21) (hin : ¬ (i < 0 ∨ 9 ≤ i.toNatClampNeg)) (k : Z l y M (pc + 1) lv (.long (S.2 i.toNatClampNeg) :: st) S w S') : Z l y M pc lv (.int i :: .ref q :: st) S w S' := by
  intro ρ sz p e s m args below meth c X H locs ls hP hS hl
  have he : (world ρ S)[q]? = some (ρ.2.1 q, .inl (ρ.2.2.1.2.1, (9, .inr (.inl S.2)))) := by rw [world_at ρ S (kd_lt hk (by omega)), zc_longs hk]
  exact va_lald X.1 X.2.1 X.2.2.2.2.2.2.2.2.2.1 hP q 1 he rfl hin d (k ρ sz p e s m args below meth c X H locs ls hP hS hl)
theorem kd_longs {i : Nat} (hi : i < NC) (h : kd i = 21) : i = 71 := by
  have key : ∀ i, i < 85 → kd i = 21 → i = 71 := by decide +kernel
  exact key i hi h
theorem kd_all {i : Nat} (hi : i < NC) : kd i < 9 ∨ (¬ kd i < 9 ∧ kd i < 20) ∨ kd i = 20 ∨ kd i = 21 := by
  have key : ∀ i, i < 85 → kd i < 9 ∨ (¬ kd i < 9 ∧ kd i < 20) ∨ kd i = 20 ∨ kd i = 21 := by decide +kernel
  exact key i hi
theorem z_last {q : Nat} {i : Int32} {x : Int64} (d : decode M.2.1 pc = .ok (.lastore, 1)) (hk : kd q = 21) (hin : ¬ (i < 0 ∨ 9 ≤ i.toNatClampNeg)) (k : Z l y M (pc + 1) lv st (upL S i.toNatClampNeg x) w S') : Z l y M pc lv (.long x :: .int i :: .ref q :: st) S w S' := by
  intro ρ sz p e s m args below meth c X H locs ls hP hS hl
  have hq : q < NC := kd_lt hk (by omega)
  have he : (world ρ S)[q]? = some (ρ.2.1 q, .inl (ρ.2.2.1.2.1, (9, .inr (.inl S.2)))) := by rw [world_at ρ S hq, zc_longs hk]
  refine va_last X.1 X.2.1 X.2.2.2.2.2.2.2.2.2.1 hP (z_D X.2.2.2.2.2.2.2.2.1) hS q 1 he rfl hin d (fun H1 locs1 p1 _ s1 => ?_)
  have hw : (world ρ S).set q (ρ.2.1 q, .inl (ρ.2.2.1.2.1, 9, .inr (.inl (vp_updL S.2 i.toNatClampNeg x)))) = world ρ (upL S i.toNatClampNeg x) := by
    refine world_set ?_ (fun j hj h => ?_)
    · rw [zc_longs hk]
      rfl
    · rcases kd_all hj with h1 | h1 | h1 | h1
      · rw [zc_obj rfl h1, zc_obj rfl h1]; rfl
      · rw [zc_ints rfl h1.1 h1.2, zc_ints rfl h1.1 h1.2]; rfl
      · rw [zc_things h1, zc_things h1]
      · exact absurd ((kd_longs hj h1).trans (kd_longs hq hk).symm) h
  rw [hw] at p1
  exact k ρ sz p e s m args below meth c X H1 locs1 ls p1 s1 hl
theorem z_aald {q : Nat} {i : Int32} (d : decode M.2.1 pc = .ok (.aaload, 1)) (hk : kd q = 20) (hin : ¬ (i < 0 ∨ 8 ≤ i.toNatClampNeg)) (k : Z l y M (pc + 1) lv (.ref (q + 2 + 2 * i.toNatClampNeg) :: st) S w S') : Z l y M pc lv (.int i :: .ref q :: st) S w S' := by
  intro ρ sz p e s m args below meth c X H locs ls hP hS hl
  have he : (world ρ S)[q]? = some (ρ.2.1 q, .inl (ρ.2.2.1.2.2, (8, .inr (.inr (.inr (.inr (fun j => some (ρ.2.1 (q + 2 + 2 * j))))))))) := by rw [world_at ρ S (kd_lt hk (by omega)), zc_things hk]
  exact va_aldq X.1 X.2.1 X.2.2.2.2.2.2.2.2.2.1 hP q 2 (C := RX6) he rfl hin d (k ρ sz p e s m args below meth c X H locs ls hP hS hl)
theorem z_alen {q k0 : Nat} {v : Int32} (d : decode M.2.1 pc = .ok (.arraylength, 1)) (hk : kd q = k0) (hc : ¬ k0 < 9 ∧ k0 < 20) (hv : Int32.ofNat (il k0) = v) (k : Z l y M (pc + 1) lv (.int v :: st) S w S') : Z l y M pc lv (.ref q :: st) S w S' := by
  intro ρ sz p e s m args below meth c X H locs ls hP hS hl
  have he : (world ρ S)[q]? = some (ρ.2.1 q, .inl (ρ.2.2.1.1, (il k0, .inl (S.1 q)))) := by rw [world_at ρ S (kd_lt hk (by omega)), zc_ints hk hc.1 hc.2]
  exact va_alen X.1 X.2.1 X.2.2.2.2.2.2.2.2.2.1 hP q 0 he (ty := .int) rfl hv d (k ρ sz p e s m args below meth c X H locs ls hP hS hl)
-- ===== the ends =====
theorem z_iret {v : Int32} {ty : FieldType} (d : decode M.2.1 pc = .ok (.ireturn, 1)) (hr : M.2.2.2.1 = some ty) (hn : narrow ty (.int v) = .int v) : Z l y M pc lv [.int v] S (some (.int v)) S := fun ρ sz p e s m args below meth c X H locs ls hP hS hl =>
  W.zret (v := v) X.1 X.2.1 (X.2.2.1.trans hr) hn (fun t ht hW => ⟨⟨rfl, by rw [ht]; exact hP⟩, hS.F ht⟩) hS.2.2 d X.2.2.2.2.1
theorem z_lret {v : Int64} (d : decode M.2.1 pc = .ok (.lreturn, 1)) (hr : M.2.2.2.1 = some .long) : Z l y M pc lv [.long v] S (some (.long v)) S := fun ρ sz p e s m args below meth c X H locs ls hP hS hl =>
  W.lret (v := v) X.1 X.2.1 (X.2.2.1.trans hr) (fun t ht hW => ⟨⟨rfl, by rw [ht]; exact hP⟩, hS.F ht⟩) hS.2.2 d X.2.2.2.2.1
theorem z_vret (d : decode M.2.1 pc = .ok (.return_, 1)) (hr : M.2.2.2.1 = none) : Z l y M pc lv [] S none S := fun ρ sz p e s m args below meth c X H locs ls hP hS hl =>
  W.vret X.1 X.2.1 (X.2.2.1.trans hr) (fun t ht hW => ⟨⟨rfl, by rw [ht]; exact hP⟩, hS.F ht⟩) hS.2.2 d X.2.2.2.2.1
theorem z_aret {q : Nat} {n : String} (d : decode M.2.1 pc = .ok (.areturn, 1)) (hr : M.2.2.2.1 = some (.object n)) : Z l y M pc lv [.ref q] S (some (.ref q)) S := fun ρ sz p e s m args below meth c X H locs ls hP hS hl =>
  W.aret (v := .ref (ρ.2.1 q)) X.1 X.2.1 (X.2.2.1.trans hr) (Or.inl ⟨_, rfl⟩) (Or.inr ⟨_, rfl⟩) (fun t ht hW => ⟨⟨rfl, by rw [ht]; exact hP⟩, hS.F ht⟩) hS.2.2 d X.2.2.2.2.1
end ZZ
end
section
-- ===== calls =====
section ZC
variable {p : Program} {l : Launch} {e : Env} {R : Room} {s : State} {m : MethodId} {args : Array Value} {below : List Frame} {meth : Method} {c : Code} {H : Heap} {locs : List Loc} {Q : State → Prop}
theorem zrun_goes {ρ : zR} {v : Option Value} {S1 : St} {sz pc : Nat} {ls : Array Slot} {st0 rest : List Value} {a : Array Value} (hr : va_Run p l e R s m args below meth c H locs 0 0 0 0 (F0 m pc ls st0) rest (zQ ρ v S1 (zA ρ.2.1 H.size) a) (zA ρ.2.1 H.size)) (hsz : s.heap.size = sz) (hS : va_S (zA ρ.2.1 sz) s.heap H locs)
    (kk : ∀ (H1 : Heap) (locs1 : List Loc), va_P ρ.1 CL (world ρ S1) H1 → va_S (zA ρ.2.1 sz) s.heap H1 locs1 → W p l e R s m args below meth c H1 locs1 0 0 Q (F0 m (pc + 3) ls ((v.map (rv ρ.2.1)).toList ++ rest))) : W p l e R s m args below meth c H locs 0 0 Q (F0 m pc ls st0) := by
  have hA : ∀ q, zA ρ.2.1 H.size q → zA ρ.2.1 sz q := fun q h => zA_up (by rw [← hsz]; exact hS.1) h
  intro T hT X
  obtain ⟨w, st₀, t, T', L, h0, X', hL, e1, e2, ⟨⟨hv, hP1⟩, hz, hk⟩, st⟩ := hr T hT X
  cases hv
  rw [h0] at hz hk
  obtain ⟨t2, a1, b1⟩ := kk T'.heap (locs ++ L) (by rw [e1]; exact hP1)
    ⟨Nat.le_trans hS.1 (by rw [e1]; exact hz), fun q h1 h2 => by rw [e1, hk q (Nat.lt_of_lt_of_le h1 hS.1) (fun z => h2 (hA q z))]; exact hS.2.1 q h1 h2, fun q hq => by
      rcases List.mem_append.mp hq with h | h
      · exact hS.2.2 q h
      · exact hA _ (hL q h)⟩ T' rfl X'
  exact ⟨t2, st t2 a1, b1⟩
end ZC
theorem zB_blind (ρ : zR) (sz : Nat) (S : St) (av : List Value) : FrameBlind (va_Pc av (zB ρ sz S)) := fun a U g mk q => ⟨q.1, q.2.1, q.2.2.1, q.2.2.2.1, zE.same (u := U) (U := U.calling g mk a) (H := U.heap) rfl q.2.2.2.2⟩
theorem zB_call {ρ : zR} {y : MethodName} {M : zM} {sz : Nat} {p : Program} {s : State} {m : MethodId} {args : Array Value} {meth : Method} {c : Code} (X : zX y M ρ sz p s m args meth c) {H : Heap} {locs : List Loc} {S : St} (hP : va_P ρ.1 CL (world ρ S) H) (hS : va_S (zA ρ.2.1 sz) s.heap H locs) (U : State) (hU : U.heap = H) (hW : s.WarmedH U.vm) : zB ρ H.size S U := by
  obtain ⟨hx, hb, hr, hml, hlo, hown, hts, hsz, hI, hE⟩ := X
  subst hU
  exact ⟨rfl, hI, hP, zE.warm hW ((hE.kept hS.2.1).narrow (fun q h => zA_up (by rw [← hsz]; exact hS.1) h))⟩
/-- the words of a call, its link by the caller's class and entry -/
def zML (own : String) (idx : Nat) (y2 : MethodName) (M2 : zM) (n : Nat) : Prop :=
  ((y2.cls = own ∧ Cond.methodLink own idx y2 ∈ WS) ∨ ∃ host, Cond.methodLinkNest own idx y2 host ∈ NWS) ∧ Cond.initialized y2.cls ∈ WS ∧ Cond.code y2 M2.2.1 M2.2.2.1 M2.2.2.2.1 ∈ WS ∧
  (y2.cls ≠ "java/lang/invoke/MethodHandle" ∧ y2.cls ≠ "java/lang/invoke/VarHandle" ∧ (parseMethodDescriptor y2.desc).map (fun d => d.parameters.length) = some n)
def zMV (y2 : MethodName) : Prop := Cond.instanceMethod y2 ∈ WS ∧ Cond.selects y2.cls y2 y2 ∈ WS
section ZCC
variable {l : Launch} {y : MethodName} {M : zM} {pc : Nat} {lv : List (Nat × Value)} {st : List Value} {S : St} {w : Option Value} {S' : St}
theorem zcats (ad : Nat → Nat) (st : List Value) : ((st.map (rv ad)).map fun v => v.category) = st.map Value.category := by
  rw [List.map_map]
  apply List.map_congr_left
  intro v _
  exact rv_cat ad v
theorem z_callV {idx n q ci : Nat} {y2 : MethodName} {M2 : zM} {as : List Value} {v : Option Value} {S1 : St} {st0 st1 : List Value} (d : decode M.2.1 pc = .ok (.invokevirtual idx, 3)) (ml : zML y.cls idx y2 M2 n) (mv : zMV y2) (hc : CT l y2 M2 (.ref q :: as) S v S1) (hk : kd q = ci) (hci : ci < 9 ∧ (CL[ci]?).map (fun r => r.1) = some y2.cls) (hn : as.length = n) (hst : as.reverse ++ .ref q :: st = st0) (hcat : (st.map Value.category).sum ≤ 8)
    (hroom : M2.2.2.2.2.1 + 1 ≤ M.2.2.2.2.1 ∧ 8 + (M2.2.2.1 + 11) + M2.2.2.2.2.2 ≤ M.2.2.2.2.2) (hst1 : v.toList ++ st = st1) (k : Z l y M (pc + 3) lv st1 S1 w S') : Z l y M pc lv st0 S w S' := by
  intro ρ sz p e s m args below meth c X H locs ls hP hS hl
  have XX := X
  obtain ⟨hx, hb, hr, hml, hlo, hown, hts, hsz, hI, hE⟩ := X
  subst hst
  subst hst1
  have hM := hc ρ H.size
  have hq : q < NC := kd_lt hk (by omega)
  have hrecv : ∃ cellB : Cell, H[ρ.2.1 q]? = some cellB ∧ cellB.vm.isStatics = false ∧ s.vm.findClass y2.cls = some cellB.cls := by
    cases hcl : CL[ci]? with
    | none => rw [hcl] at hci; simp at hci
    | some r =>
      rw [hcl] at hci
      have h1 : r.1 = y2.cls := by simpa using hci.2
      rw [← h1]
      exact va_recv hE.1 hP hcl (q0 := q) (by rw [world_at ρ S hq, zc_obj hk hci.1])
  have hpre : PreV s H y2.cls (ρ.2.1 q) (va_Pc ((Value.ref q :: as).map (rv ρ.2.1)) (zB ρ H.size S)) (as.map (rv ρ.2.1)) := ⟨zB_blind _ _ _ _, hrecv, fun U hU hW => ⟨rfl, zB_call XX hP hS U hU hW⟩⟩
  have hstack : (F0 m pc ls ((as.reverse ++ .ref q :: st).map (rv ρ.2.1))).stack = (as.map (rv ρ.2.1)).reverse ++ .ref (ρ.2.1 q) :: st.map (rv ρ.2.1) := by
    show (as.reverse ++ .ref q :: st).map (rv ρ.2.1) = _
    rw [List.map_append, List.map_reverse]
    rfl
  have hcat2 : ((st.map (rv ρ.2.1)).map fun v => v.category).sum ≤ 8 := by rw [zcats]; exact hcat
  have hrun : va_Run p l e (zrm M) s m args below meth c H locs 0 0 0 0 (F0 m pc ls ((as.reverse ++ .ref q :: st).map (rv ρ.2.1))) (st.map (rv ρ.2.1)) (zQ ρ v S1 (zA ρ.2.1 H.size) (Value.ref (ρ.2.1 q) :: as.map (rv ρ.2.1)).toArray) (zA ρ.2.1 H.size) := by
    rcases ml.1 with ⟨-, h1⟩ | ⟨host, h1⟩
    · exact va_runV (C := y2.cls) (ret := M2.2.2.2.1) (maxL := M2.2.2.1) (bytes := M2.2.1) (As := as.map (rv ρ.2.1)) ⟨hx, hb, hml, hown, hts⟩ hM (cwV n hts (zgi (fun w hw => by
        rcases List.mem_append.mp hw with h2 | h2
        · simp only [List.mem_cons, List.not_mem_nil, or_false] at h2
          rcases h2 with rfl | rfl | rfl | rfl
          · exact h1
          · exact mv.1
          · exact mv.2
          · exact ml.2.1
        · rcases List.mem_cons.mp h2 with rfl | h2
          · exact ml.2.2.1
          · exact h2)) rfl rfl rfl ⟨rfl, ml.2.2.2⟩ hroom) hpre rfl (by rw [List.length_map]; exact hn) hl.1 hstack (lv_room hcat2) d ⟨Nat.le_refl _, Nat.le_refl _⟩
    · exact va_runVN (C := y2.cls) (host := host) (ret := M2.2.2.2.1) (maxL := M2.2.2.1) (bytes := M2.2.1) (As := as.map (rv ρ.2.1)) ⟨hx, hb, hml, hown, hts⟩ hM ⟨va_cnB n hts (zgi (fun w hw => by
        rcases List.mem_cons.mp hw with rfl | h2
        · exact ml.2.2.1
        · exact h2)) rfl rfl rfl (hE.2.1 _ h1) (hts _ (List.mem_cons_of_mem _ ml.2.1)) ml.2.2.2 hroom, hts _ (List.mem_cons_of_mem _ mv.1), hts _ (List.mem_cons_of_mem _ mv.2)⟩ hpre rfl (by rw [List.length_map]; exact hn) hl.1 hstack (lv_room hcat2) d ⟨Nat.le_refl _, Nat.le_refl _⟩
  refine zrun_goes hrun hsz hS (fun H1 locs1 p1 s1 => ?_)
  have kk := k ρ sz p e s m args below meth c XX H1 locs1 ls p1 s1 hl
  rw [List.map_append] at kk
  cases v <;> exact kk
theorem z_callS {idx n : Nat} {y2 : MethodName} {M2 : zM} {as : List Value} {v : Option Value} {S1 : St} {st0 st1 : List Value} (d : decode M.2.1 pc = .ok (.invokestatic idx, 3)) (ml : zML y.cls idx y2 M2 n) (mv : Cond.static y2 ∈ WS) (hc : CT l y2 M2 as S v S1) (hn : as.length = n) (hst : as.reverse ++ st = st0) (hcat : (st.map Value.category).sum ≤ 8)
    (hroom : M2.2.2.2.2.1 + 1 ≤ M.2.2.2.2.1 ∧ 8 + (M2.2.2.1 + 11) + M2.2.2.2.2.2 ≤ M.2.2.2.2.2) (hst1 : v.toList ++ st = st1) (k : Z l y M (pc + 3) lv st1 S1 w S') : Z l y M pc lv st0 S w S' := by
  intro ρ sz p e s m args below meth c X H locs ls hP hS hl
  have XX := X
  obtain ⟨hx, hb, hr, hml, hlo, hown, hts, hsz, hI, hE⟩ := X
  subst hst
  subst hst1
  have hM := hc ρ H.size
  have hpre : PreS s H (va_Pc (as.map (rv ρ.2.1)) (zB ρ H.size S)) (as.map (rv ρ.2.1)) := ⟨zB_blind _ _ _ _, fun U hU hW => ⟨rfl, zB_call XX hP hS U hU hW⟩⟩
  have hstack : (F0 m pc ls ((as.reverse ++ st).map (rv ρ.2.1))).stack = (as.map (rv ρ.2.1)).reverse ++ st.map (rv ρ.2.1) := by
    show (as.reverse ++ st).map (rv ρ.2.1) = _
    rw [List.map_append, List.map_reverse]
  have hcat2 : ((st.map (rv ρ.2.1)).map fun v => v.category).sum ≤ 8 := by rw [zcats]; exact hcat
  have hrun : va_Run p l e (zrm M) s m args below meth c H locs 0 0 0 0 (F0 m pc ls ((as.reverse ++ st).map (rv ρ.2.1))) (st.map (rv ρ.2.1)) (zQ ρ v S1 (zA ρ.2.1 H.size) (as.map (rv ρ.2.1)).toArray) (zA ρ.2.1 H.size) := by
    rcases ml.1 with ⟨ho, h1⟩ | ⟨host, h1⟩
    · exact va_runS (ret := M2.2.2.2.1) (maxL := M2.2.2.1) (bytes := M2.2.1) (As := as.map (rv ρ.2.1)) ⟨hx, hb, hml, hown, hts⟩ hM (cwS n hts (zgi (fun w hw => by
        rcases List.mem_append.mp hw with h2 | h2
        · simp only [List.mem_cons, List.not_mem_nil, or_false] at h2
          rcases h2 with rfl | rfl | rfl
          · exact h1
          · exact mv
          · rw [← ho]; exact ml.2.1
        · rcases List.mem_cons.mp h2 with rfl | h2
          · exact ml.2.2.1
          · exact h2)) rfl rfl rfl ⟨ho, ml.2.2.2⟩ hroom) hpre rfl (by rw [List.length_map]; exact hn) hl.1 hstack (lv_room hcat2) d ⟨Nat.le_refl _, Nat.le_refl _⟩
    · exact va_runSN (host := host) (ret := M2.2.2.2.1) (maxL := M2.2.2.1) (bytes := M2.2.1) (As := as.map (rv ρ.2.1)) ⟨hx, hb, hml, hown, hts⟩ hM ⟨va_cnB n hts (zgi (fun w hw => by
        rcases List.mem_cons.mp hw with rfl | h2
        · exact ml.2.2.1
        · exact h2)) rfl rfl rfl (hE.2.1 _ h1) (hts _ (List.mem_cons_of_mem _ ml.2.1)) ml.2.2.2 hroom, hts _ (List.mem_cons_of_mem _ mv), trivial⟩ hpre rfl (by rw [List.length_map]; exact hn) hl.1 hstack (lv_room hcat2) d ⟨Nat.le_refl _, Nat.le_refl _⟩
  refine zrun_goes hrun hsz hS (fun H1 locs1 p1 s1 => ?_)
  have kk := k ρ sz p e s m args below meth c XX H1 locs1 ls p1 s1 hl
  rw [List.map_append] at kk
  cases v <;> exact kk
def zmx (own : String) (idx : Nat) : Prop := Cond.methodLink own idx Lib.Math.max.name ∈ WS ∧ Cond.static Lib.Math.max.name ∈ WS ∧ Cond.initialized "java/lang/Math" ∈ WS ∧ Cond.code Lib.Math.max.name Lib.Math.max.code 2 (some .int) ∈ WS
def zmn (own : String) (idx : Nat) : Prop := Cond.methodLink own idx Lib.Math.min.name ∈ WS ∧ Cond.static Lib.Math.min.name ∈ WS ∧ Cond.initialized "java/lang/Math" ∈ WS ∧ Cond.code Lib.Math.min.name Lib.Math.min.code 2 (some .int) ∈ WS
theorem z_max {idx : Nat} {a b : Int32} (d : decode M.2.1 pc = .ok (.invokestatic idx, 3)) (ml : zmx y.cls idx) (hf : 1 ≤ M.2.2.2.2.1) (hcat : (st.map Value.category).sum + 13 ≤ M.2.2.2.2.2) (k : Z l y M (pc + 3) lv (.int (if a < b then b else a) :: st) S w S') : Z l y M pc lv (.int b :: .int a :: st) S w S' := by
  intro ρ sz p e s m args below meth c X H locs ls hP hS hl
  have kk := k ρ sz p e s m args below meth c X H locs ls hP hS hl
  obtain ⟨hx, hb, hr, hml, hlo, hown, hts, hsz, hI, hE⟩ := X
  have g : ∀ w ∈ WS, w.before args s = true := fun w hw => hts _ (List.mem_cons_of_mem _ hw)
  exact va_mmax hx hb (hml.trans hl.1.symm) hown (g _ ml.1) (g _ ml.2.1) (g _ ml.2.2.1) (g _ ml.2.2.2) hf (by rw [zcats]; exact hcat) (Nat.le_refl _) (Nat.le_refl _) d kk
theorem z_min {idx : Nat} {a b : Int32} (d : decode M.2.1 pc = .ok (.invokestatic idx, 3)) (ml : zmn y.cls idx) (hf : 1 ≤ M.2.2.2.2.1) (hcat : (st.map Value.category).sum + 13 ≤ M.2.2.2.2.2) (k : Z l y M (pc + 3) lv (.int (if b < a then b else a) :: st) S w S') : Z l y M pc lv (.int b :: .int a :: st) S w S' := by
  intro ρ sz p e s m args below meth c X H locs ls hP hS hl
  have kk := k ρ sz p e s m args below meth c X H locs ls hP hS hl
  obtain ⟨hx, hb, hr, hml, hlo, hown, hts, hsz, hI, hE⟩ := X
  have g : ∀ w ∈ WS, w.before args s = true := fun w hw => hts _ (List.mem_cons_of_mem _ hw)
  exact va_mmin hx hb (hml.trans hl.1.symm) hown (g _ ml.1) (g _ ml.2.1) (g _ ml.2.2.1) (g _ ml.2.2.2) hf (by rw [zcats]; exact hcat) (Nat.le_refl _) (Nat.le_refl _) d kk
def zcp (own : String) (idx : Nat) : Prop := Cond.methodLink own idx arraycopyName ∈ WS ∧ Cond.native arraycopyName ∈ WS ∧ Cond.static arraycopyName ∈ WS ∧ Cond.initialized "java/lang/System" ∈ WS
theorem z_copy {idx q0 q1 k0 : Nat} {sp dp n : Int32} (d : decode M.2.1 pc = .ok (.invokestatic idx, 3)) (ml : zcp y.cls idx) (h0 : kd q0 = k0) (h1 : kd q1 = k0) (hc : ¬ k0 < 9 ∧ k0 < 20) (hne : q0 ≠ q1) (g1 : ¬ sp < 0) (g2 : ¬ dp < 0) (g3 : ¬ n < 0) (g4 : sp.toNatClampNeg + n.toNatClampNeg ≤ il k0) (g5 : dp.toNatClampNeg + n.toNatClampNeg ≤ il k0) (hf : 1 ≤ M.2.2.2.2.1) (hcat : (st.map Value.category).sum + (nativeFrameWords "java/lang/System" "arraycopy" 5 + 11) ≤ M.2.2.2.2.2)
    (k : Z l y M (pc + 3) lv st (upc S q0 q1 sp.toNatClampNeg dp.toNatClampNeg n.toNatClampNeg) w S') : Z l y M pc lv (.int n :: .int dp :: .ref q1 :: .int sp :: .ref q0 :: st) S w S' := by
  intro ρ sz p e s m args below meth c X H locs ls hP hS hl
  have XX := X
  obtain ⟨hx, hb, hr, hml, hlo, hown, hts, hsz, hI, hE⟩ := X
  have g : ∀ w ∈ WS, w.before args s = true := fun w hw => hts _ (List.mem_cons_of_mem _ hw)
  have e0 : (world ρ S)[q0]? = some (ρ.2.1 q0, .inl (ρ.2.2.1.1, (il k0, .inl (S.1 q0)))) := by rw [world_at ρ S (kd_lt h0 (by omega)), zc_ints h0 hc.1 hc.2]
  have e1 : (world ρ S)[q1]? = some (ρ.2.1 q1, .inl (ρ.2.2.1.1, (il k0, .inl (S.1 q1)))) := by rw [world_at ρ S (kd_lt h1 (by omega)), zc_ints h1 hc.1 hc.2]
  refine va_copyi hx hb (hml.trans hl.1.symm) hown (g _ ml.1) (g _ ml.2.1) (g _ ml.2.2.1) (g _ ml.2.2.2) hE.1 hP (z_D hI) hS q0 q1 0 0 e0 e1 (ty := .int) rfl rfl rfl g1 g2 g3 g4 g5 (fun _ _ => rfl) hf (by rw [zcats]; exact hcat) d (fun H1 locs1 p1 _ s1 => ?_)
  have hw : (world ρ S).set q1 (ρ.2.1 q1, .inl (ρ.2.2.1.1, il k0, .inl (va_cpy (S.1 q0) (S.1 q1) sp.toNatClampNeg dp.toNatClampNeg n.toNatClampNeg))) = world ρ (upc S q0 q1 sp.toNatClampNeg dp.toNatClampNeg n.toNatClampNeg) := by
    refine world_set ?_ (fun i _ h => zc_upc_ne h)
    rw [zc_ints h1 hc.1 hc.2, upc_row]
  rw [hw] at p1
  exact k ρ sz p e s m args below meth c XX H1 locs1 ls p1 s1 hl
end ZCC
-- ===== what a written function says =====
theorem oi {α : Type} {c : Prop} [Decidable c] {F : Option α} {r : α} (h : (if c then none else F) = some r) : ¬ c ∧ F = some r := by
  by_cases hc : c
  · rw [if_pos hc] at h; cases h
  · rw [if_neg hc] at h; exact ⟨hc, h⟩
theorem ob {α β : Type} {x : Option α} {f : α → Option β} {r : β} (h : x.bind f = some r) : ∃ a, x = some a ∧ f a = some r := by
  cases x with
  | none => cases h
  | some a => exact ⟨a, rfl, h⟩
theorem ip {α : Type} {c : Prop} [Decidable c] {A B r : α} (hc : c) (h : (if c then A else B) = r) : A = r := by rwa [if_pos hc] at h
theorem ig {α : Type} {c : Prop} [Decidable c] {A B r : α} (hc : ¬ c) (h : (if c then A else B) = r) : B = r := by rwa [if_neg hc] at h
theorem zrn {x : Int32} : ∀ k ∈ ([] : List Int), ¬ x.toInt = k := fun _ h => absurd h List.not_mem_nil
theorem zrc {x : Int32} {a : Int} {l : List Int} (h : ¬ x.toInt = a) (t : ∀ k ∈ l, ¬ x.toInt = k) : ∀ k ∈ a :: l, ¬ x.toInt = k := List.forall_mem_cons.mpr ⟨h, t⟩
theorem znb {v : Int32} (h : v = 0 ∨ v = 1) : narrow .boolean (.int v) = .int v := by rcases h with rfl | rfl <;> rfl
section ZSW
variable {l : Launch} {y : MethodName} {M : zM} {pc : Nat} {lv : List (Nat × Value)} {st : List Value} {S : St} {w : Option Value} {S' : St}
theorem z_ldcw {index : Nat} {v : Int32} (hc : Cond.constant y.cls index v ∈ WS) (d : decode M.2.1 pc = .ok (.ldc_w index, 3)) (k : Z l y M (pc + 3) lv (.int v :: st) S w S') : Z l y M pc lv st S w S' := fun ρ sz p e s m args below meth c X H locs ls hP hS hl =>
  lv_ldcw X.1 X.2.1 X.2.2.2.2.2.1 (X.2.2.2.2.2.2.1 _ (List.mem_cons_of_mem _ hc)) d (k ρ sz p e s m args below meth c X H locs ls hP hS hl)
theorem z_tableG {dflt lo hi : Int} {offs : Array Int} {len n : Nat} {x : Int32} {tgt : Nat} (real : List Int) (d : decode M.2.1 pc = .ok (.tableswitch dflt lo hi offs, len)) (hn : hi = lo + n - 1) (hg : ∀ i, i < n → (lo + i) ∈ real ∨ offs[i]? = some dflt) (hx : ∀ k ∈ real, ¬ x.toInt = k) (ht : (pc : Int) + dflt = (tgt : Int)) (k : Z l y M tgt lv st S w S') : Z l y M pc lv (.int x :: st) S w S' := by
  by_cases h1 : x.toInt < lo
  · exact z_tableOut d (Or.inl h1) ht k
  · by_cases h2 : hi < x.toInt
    · exact z_tableOut d (Or.inr h2) ht k
    · rcases hg (x.toInt - lo).toNat (by omega) with h | h
      · exact absurd (by omega) (hx _ h)
      · exact z_tableIn d h1 h2 h ht k
end ZSW
end
section
-- ===== printed by wip/whole/gen.py: links, rooms, numbers of cells =====
theorem kdl_0 : kd 0 = 7 := by decide +kernel
theorem kdl_1 : kd 1 = 3 := by decide +kernel
theorem kdl_20 : kd 20 = 3 := by decide +kernel
theorem kdl_39 : kd 39 = 3 := by decide +kernel
theorem kdl_58 : kd 58 = 6 := by decide +kernel
theorem kdl_60 : kd 60 = 5 := by decide +kernel
theorem kdl_61 : kd 61 = 12 := by decide +kernel
theorem kdl_62 : kd 62 = 2 := by decide +kernel
theorem kdl_63 : kd 63 = 13 := by decide +kernel
theorem kdl_64 : kd 64 = 1 := by decide +kernel
theorem kdl_65 : kd 65 = 10 := by decide +kernel
theorem kdl_66 : kd 66 = 10 := by decide +kernel
theorem kdl_67 : kd 67 = 0 := by decide +kernel
theorem kdl_68 : kd 68 = 10 := by decide +kernel
theorem kdl_69 : kd 69 = 14 := by decide +kernel
theorem kdl_70 : kd 70 = 4 := by decide +kernel
theorem kdl_71 : kd 71 = 21 := by decide +kernel
theorem kdl_72 : kd 72 = 15 := by decide +kernel
theorem kdl_73 : kd 73 = 16 := by decide +kernel
theorem kdl_74 : kd 74 = 8 := by decide +kernel
theorem kdl_75 : kd 75 = 17 := by decide +kernel
theorem kdl_76 : kd 76 = 17 := by decide +kernel
theorem kdl_77 : kd 77 = 17 := by decide +kernel
theorem kdl_78 : kd 78 = 17 := by decide +kernel
theorem kdl_79 : kd 79 = 12 := by decide +kernel
theorem kdl_80 : kd 80 = 13 := by decide +kernel
theorem kdl_81 : kd 81 = 16 := by decide +kernel
theorem kdl_82 : kd 82 = 14 := by decide +kernel
theorem kdl_83 : kd 83 = 18 := by decide +kernel
theorem kdl_84 : kd 84 = 18 := by decide +kernel
theorem wsu_0 : ∀ w ∈ u_ws RX0 TX0 3, w ∈ WS := by
  have h : (u_ws RX0 TX0 3).all (fun w => decide (w ∈ lw_tbl) && goodWord w) = true := by decide +kernel
  intro w hw
  have h1 := List.all_eq_true.mp h w hw
  simp only [Bool.and_eq_true, decide_eq_true_eq] at h1
  exact List.mem_filter.mpr ⟨h1.1, h1.2⟩
theorem wsu_1 : ∀ w ∈ u_ws RX1 TX1 5, w ∈ WS := by
  have h : (u_ws RX1 TX1 5).all (fun w => decide (w ∈ lw_tbl) && goodWord w) = true := by decide +kernel
  intro w hw
  have h1 := List.all_eq_true.mp h w hw
  simp only [Bool.and_eq_true, decide_eq_true_eq] at h1
  exact List.mem_filter.mpr ⟨h1.1, h1.2⟩
theorem wsu_2 : ∀ w ∈ u_ws RX2 TX2 2, w ∈ WS := by
  have h : (u_ws RX2 TX2 2).all (fun w => decide (w ∈ lw_tbl) && goodWord w) = true := by decide +kernel
  intro w hw
  have h1 := List.all_eq_true.mp h w hw
  simp only [Bool.and_eq_true, decide_eq_true_eq] at h1
  exact List.mem_filter.mpr ⟨h1.1, h1.2⟩
theorem wsu_3 : ∀ w ∈ u_ws RX3 TX3 6, w ∈ WS := by
  have h : (u_ws RX3 TX3 6).all (fun w => decide (w ∈ lw_tbl) && goodWord w) = true := by decide +kernel
  intro w hw
  have h1 := List.all_eq_true.mp h w hw
  simp only [Bool.and_eq_true, decide_eq_true_eq] at h1
  exact List.mem_filter.mpr ⟨h1.1, h1.2⟩
theorem wsu_4 : ∀ w ∈ u_ws RX4 TX4 1, w ∈ WS := by
  have h : (u_ws RX4 TX4 1).all (fun w => decide (w ∈ lw_tbl) && goodWord w) = true := by decide +kernel
  intro w hw
  have h1 := List.all_eq_true.mp h w hw
  simp only [Bool.and_eq_true, decide_eq_true_eq] at h1
  exact List.mem_filter.mpr ⟨h1.1, h1.2⟩
theorem wsu_5 : ∀ w ∈ u_ws RX5 TX5 2, w ∈ WS := by
  have h : (u_ws RX5 TX5 2).all (fun w => decide (w ∈ lw_tbl) && goodWord w) = true := by decide +kernel
  intro w hw
  have h1 := List.all_eq_true.mp h w hw
  simp only [Bool.and_eq_true, decide_eq_true_eq] at h1
  exact List.mem_filter.mpr ⟨h1.1, h1.2⟩
theorem wsu_6 : ∀ w ∈ u_ws RX6 TX6 4, w ∈ WS := by
  have h : (u_ws RX6 TX6 4).all (fun w => decide (w ∈ lw_tbl) && goodWord w) = true := by decide +kernel
  intro w hw
  have h1 := List.all_eq_true.mp h w hw
  simp only [Bool.and_eq_true, decide_eq_true_eq] at h1
  exact List.mem_filter.mpr ⟨h1.1, h1.2⟩
theorem wsu_7 : ∀ w ∈ u_ws RX7 TX7 13, w ∈ WS := by
  have h : (u_ws RX7 TX7 13).all (fun w => decide (w ∈ lw_tbl) && goodWord w) = true := by decide +kernel
  intro w hw
  have h1 := List.all_eq_true.mp h w hw
  simp only [Bool.and_eq_true, decide_eq_true_eq] at h1
  exact List.mem_filter.mpr ⟨h1.1, h1.2⟩
theorem wsu_8 : ∀ w ∈ u_ws RX8 TX8 16, w ∈ WS := by
  have h : (u_ws RX8 TX8 16).all (fun w => decide (w ∈ lw_tbl) && goodWord w) = true := by decide +kernel
  intro w hw
  have h1 := List.all_eq_true.mp h w hw
  simp only [Bool.and_eq_true, decide_eq_true_eq] at h1
  exact List.mem_filter.mpr ⟨h1.1, h1.2⟩
abbrev M_X3_at : zM := (RX3, cX3_at, 2, (some (.object "GluedInLifetime$Thing")), 0, 0)
abbrev M_X6_isSet : zM := (RX6, cX6_isSet, 1, (some .boolean), 0, 0)
abbrev M_X6_gladIn : zM := (RX6, cX6_gladIn, 2, (some .int), 0, 0)
abbrev M_X6_gladdestYear : zM := (RX6, cX6_gladdestYear, 4, (some .int), 1, 21)
abbrev M_X6_reach : zM := (RX6, cX6_reach, 4, (some .int), 1, 21)
abbrev M_X6_counts : zM := (RX6, cX6_counts, 3, (some .int), 1, 21)
abbrev M_X6_yearBy : zM := (RX6, cX6_yearBy, 10, (some .int), 2, 44)
abbrev M_X6_fewestFor : zM := (RX6, cX6_fewestFor, 4, (some .int), 3, 73)
abbrev M_X0_begin : zM := (RX0, cX0_begin, 5, (some .int), 1, 21)
abbrev M_X0_arrange : zM := (RX0, cX0_arrange, 5, none, 4, 96)
abbrev M_X0_beginOf : zM := (RX0, cX0_beginOf, 2, (some .int), 0, 0)
abbrev M_X3_setBits : zM := (RX3, cX3_setBits, 3, (some .int), 1, 21)
abbrev M_X6_howGlad : zM := (RX6, cX6_howGlad, 2, (some .int), 1, 21)
abbrev M_X3_gladTogether : zM := (RX3, cX3_gladTogether, 4, (some .int), 2, 42)
abbrev M_X6_gladdestBy : zM := (RX6, cX6_gladdestBy, 4, (some .int), 3, 73)
abbrev M_X6_cost : zM := (RX6, cX6_cost, 1, (some .int), 0, 0)
abbrev M_X1_weigh : zM := (RX1, cX1_weigh, 5, none, 4, 96)
abbrev M_X1_sumOver : zM := (RX1, cX1_sumOver, 4, (some .int), 0, 0)
abbrev M_X1_gainOf : zM := (RX1, cX1_gainOf, 2, (some .int), 1, 23)
abbrev M_X1_bestBits : zM := (RX1, cX1_bestBits, 5, (some .int), 2, 44)
abbrev M_X1_fewestFor : zM := (RX1, cX1_fewestFor, 4, (some .int), 2, 44)
abbrev M_X2_isFull : zM := (RX2, cX2_isFull, 1, (some .boolean), 0, 0)
abbrev M_X2_put : zM := (RX2, cX2_put, 2, none, 1, 20)
abbrev M_X2_tellsYearsOf : zM := (RX2, cX2_tellsYearsOf, 4, (some .boolean), 3, 73)
abbrev M_X7_noYear : zM := (RX7, cX7_noYear, 1, (some .boolean), 0, 0)
abbrev M_X2_firstNotGladOf : zM := (RX2, cX2_firstNotGladOf, 3, (some .int), 1, 21)
abbrev M_X6_copyFrom : zM := (RX6, cX6_copyFrom, 2, none, 1, 40)
abbrev M_X3_copyFrom : zM := (RX3, cX3_copyFrom, 3, none, 2, 61)
abbrev M_X3_lacks : zM := (RX3, cX3_lacks, 2, (some .boolean), 0, 0)
abbrev M_X3_lacksTwo : zM := (RX3, cX3_lacksTwo, 3, (some .boolean), 1, 21)
abbrev M_X6_begin : zM := (RX6, cX6_begin, 4, none, 0, 0)
abbrev M_X3_add : zM := (RX3, cX3_add, 3, (some .boolean), 1, 23)
abbrev M_X6_makeGlad : zM := (RX6, cX6_makeGlad, 3, none, 0, 0)
abbrev M_X3_makeGlad : zM := (RX3, cX3_makeGlad, 6, (some .boolean), 1, 22)
abbrev M_X3_moveTo : zM := (RX3, cX3_moveTo, 2, (some .boolean), 1, 20)
abbrev M_X3_areHalves : zM := (RX3, cX3_areHalves, 3, (some .boolean), 2, 43)
abbrev M_X3_turnHalves : zM := (RX3, cX3_turnHalves, 3, (some .boolean), 2, 43)
abbrev M_X3_glue : zM := (RX3, cX3_glue, 4, (some .boolean), 3, 73)
abbrev M_X3_countHalves : zM := (RX3, cX3_countHalves, 4, (some .int), 3, 65)
abbrev M_X3_setInOneYear : zM := (RX3, cX3_setInOneYear, 3, (some .boolean), 1, 21)
abbrev M_X3_countAgreeing : zM := (RX3, cX3_countAgreeing, 4, (some .int), 3, 65)
abbrev M_X3_firstApart : zM := (RX3, cX3_firstApart, 3, (some .int), 3, 65)
abbrev M_X4_weigh : zM := (RX4, cX4_weigh, 5, none, 0, 0)
abbrev M_X4_allWays : zM := (RX4, cX4_allWays, 4, (some .long), 0, 0)
abbrev M_X4_waysInto : zM := (RX4, cX4_waysInto, 7, (some .long), 3, 73)
abbrev M_X4_gladOfAll : zM := (RX4, cX4_gladOfAll, 6, (some .long), 3, 73)
abbrev M_X5_isFull : zM := (RX5, cX5_isFull, 1, (some .boolean), 0, 0)
abbrev M_X5_put : zM := (RX5, cX5_put, 2, none, 1, 20)
abbrev M_X5_letterAt : zM := (RX5, cX5_letterAt, 2, (some .int), 0, 0)
abbrev M_X5_isDigit : zM := (RX5, cX5_isDigit, 2, (some .boolean), 1, 21)
abbrev M_X5_kindAt : zM := (RX5, cX5_kindAt, 2, (some .int), 6, 150)
abbrev M_X5_number : zM := (RX5, cX5_number, 5, (some .int), 1, 21)
abbrev M_X5_partsOf : zM := (RX5, cX5_partsOf, 2, (some .int), 1, 21)
abbrev M_X5_behindStatement : zM := (RX5, cX5_behindStatement, 2, (some .int), 2, 42)
abbrev M_X5_misfitOfStatement : zM := (RX5, cX5_misfitOfStatement, 4, (some .int), 7, 171)
abbrev M_X5_firstMisfit : zM := (RX5, cX5_firstMisfit, 4, (some .int), 8, 194)
abbrev M_X6_moreIfWashed : zM := (RX6, cX6_moreIfWashed, 2, (some .int), 2, 42)
abbrev M_X7_refuse : zM := (RX7, cX7_refuse, 2, (some .int), 0, 0)
abbrev M_X7_letter : zM := (RX7, cX7_letter, 2, (some .int), 2, 41)
abbrev M_X7_tellStatement : zM := (RX7, cX7_tellStatement, 3, (some .boolean), 7, 171)
abbrev M_X7_tellTrial : zM := (RX7, cX7_tellTrial, 3, (some .int), 8, 193)
abbrev M_X7_shop : zM := (RX7, cX7_shop, 3, (some .int), 9, 217)
abbrev M_X7_thing : zM := (RX7, cX7_thing, 4, (some .int), 2, 42)
abbrev M_X7_glad : zM := (RX7, cX7_glad, 3, (some .int), 1, 21)
abbrev M_X7_halves : zM := (RX7, cX7_halves, 3, (some .int), 3, 65)
abbrev M_X7_outside : zM := (RX7, cX7_outside, 3, (some .int), 0, 0)
abbrev M_X7_turn : zM := (RX7, cX7_turn, 7, (some .int), 1, 22)
abbrev M_X7_makes : zM := (RX7, cX7_makes, 7, (some .int), 1, 22)
abbrev M_X7_pairs : zM := (RX7, cX7_pairs, 3, (some .int), 3, 65)
abbrev M_X7_now : zM := (RX7, cX7_now, 3, (some .int), 1, 21)
abbrev M_X7_hands : zM := (RX7, cX7_hands, 4, (some .int), 1, 22)
abbrev M_X7_pours : zM := (RX7, cX7_pours, 4, (some .int), 1, 22)
abbrev M_X7_heldRefusal : zM := (RX7, cX7_heldRefusal, 4, (some .int), 1, 21)
abbrev M_X7_glues : zM := (RX7, cX7_glues, 5, (some .int), 4, 96)
abbrev M_X7_washes : zM := (RX7, cX7_washes, 4, (some .int), 1, 21)
abbrev M_X7_would : zM := (RX7, cX7_would, 8, (some .int), 3, 73)
abbrev M_X7_can : zM := (RX7, cX7_can, 4, (some .int), 3, 73)
abbrev M_X7_fewest : zM := (RX7, cX7_fewest, 3, (some .int), 4, 96)
abbrev M_X7_gladness : zM := (RX7, cX7_gladness, 1, (some .int), 3, 65)
abbrev M_X7_notOneOfTwo : zM := (RX7, cX7_notOneOfTwo, 1, (some .boolean), 0, 0)
abbrev M_X7_agree : zM := (RX7, cX7_agree, 2, (some .int), 4, 88)
abbrev M_X7_most : zM := (RX7, cX7_most, 3, (some .int), 5, 120)
abbrev M_X7_spendSteps : zM := (RX7, cX7_spendSteps, 6, none, 3, 73)
abbrev M_X7_byMinutes : zM := (RX7, cX7_byMinutes, 4, (some .int), 4, 98)
abbrev M_X7_fewDrops : zM := (RX7, cX7_fewDrops, 1, (some .int), 5, 120)
abbrev M_X7_minutesOfBoth : zM := (RX7, cX7_minutesOfBoth, 6, (some .int), 4, 96)
abbrev M_X7_together : zM := (RX7, cX7_together, 8, (some .int), 5, 121)
abbrev M_X7_queue : zM := (RX7, cX7_queue, 2, (some .int), 5, 120)
abbrev M_X7_oneMore : zM := (RX7, cX7_oneMore, 1, (some .int), 3, 65)
abbrev M_X7_bestYear : zM := (RX7, cX7_bestYear, 5, (some .int), 5, 120)
abbrev M_X7_water : zM := (RX7, cX7_water, 3, (some .int), 3, 63)
abbrev M_X7_bestWash : zM := (RX7, cX7_bestWash, 5, (some .int), 3, 63)
abbrev M_X7_sour : zM := (RX7, cX7_sour, 3, (some .int), 3, 63)
abbrev M_X7_regret : zM := (RX7, cX7_regret, 4, (some .int), 2, 44)
abbrev M_X7_bothContent : zM := (RX7, cX7_bothContent, 7, (some .boolean), 3, 73)
abbrev M_X7_two : zM := (RX7, cX7_two, 6, (some .int), 4, 99)
abbrev M_X7_slipRefusal : zM := (RX7, cX7_slipRefusal, 3, (some .int), 1, 20)
abbrev M_X7_commonDivisor : zM := (RX7, cX7_commonDivisor, 11, (some .long), 0, 0)
abbrev M_X7_partOf : zM := (RX7, cX7_partOf, 7, (some .long), 1, 30)
abbrev M_X7_slip : zM := (RX7, cX7_slip, 7, (some .long), 4, 99)
abbrev M_X7_mean : zM := (RX7, cX7_mean, 6, (some .long), 4, 98)
abbrev M_X7_whatWas : zM := (RX7, cX7_whatWas, 6, (some .int), 4, 96)
abbrev M_X7_mended : zM := (RX7, cX7_mended, 6, (some .int), 3, 73)
abbrev M_X7_row : zM := (RX7, cX7_row, 2, (some .int), 2, 41)
abbrev M_X7_judge : zM := (RX7, cX7_judge, 3, (some .int), 2, 43)
abbrev M_X7_clear : zM := (RX7, cX7_clear, 2, (some .int), 0, 0)
abbrev M_X7_draw : zM := (RX7, cX7_draw, 2, (some .int), 0, 0)
abbrev M_X7_glueByLot : zM := (RX7, cX7_glueByLot, 5, none, 3, 83)
abbrev M_X7_lots : zM := (RX7, cX7_lots, 7, (some .int), 4, 107)
abbrev M_X7_image : zM := (RX7, cX7_image, 1, (some .int), 3, 83)
abbrev M_X7_on : zM := (RX7, cX7_on, 1, (some .int), 3, 83)
abbrev M_X7_count : zM := (RX7, cX7_count, 2, (some .int), 4, 88)
abbrev M_X8_isIn : zM := (RX8, cX8_isIn, 3, (some .boolean), 0, 0)
abbrev M_X8_least : zM := (RX8, cX8_least, 2, (some .int), 0, 0)
abbrev M_X8_most : zM := (RX8, cX8_most, 2, (some .int), 0, 0)
abbrev M_X8_lays : zM := (RX8, cX8_lays, 3, none, 0, 0)
abbrev M_X8_no : zM := (RX8, cX8_no, 2, (some .int), 0, 0)
abbrev M_X8_noFar : zM := (RX8, cX8_noFar, 2, (some .int), 1, 21)
abbrev M_X8_noWide : zM := (RX8, cX8_noWide, 2, (some .long), 1, 21)
abbrev M_X8_isThing : zM := (RX8, cX8_isThing, 2, (some .boolean), 1, 22)
abbrev M_X8_isYear : zM := (RX8, cX8_isYear, 1, (some .boolean), 1, 22)
abbrev M_X8_at : zM := (RX8, cX8_at, 2, (some .int), 0, 0)
abbrev M_X8_bits : zM := (RX8, cX8_bits, 3, (some .int), 0, 0)
abbrev M_X8_cost : zM := (RX8, cX8_cost, 2, (some .int), 0, 0)
abbrev M_X8_reach : zM := (RX8, cX8_reach, 6, (some .int), 1, 21)
abbrev M_X8_counts : zM := (RX8, cX8_counts, 5, (some .int), 1, 21)
abbrev M_X8_yearBy : zM := (RX8, cX8_yearBy, 7, (some .int), 2, 45)
abbrev M_X8_yearOf : zM := (RX8, cX8_yearOf, 4, (some .int), 3, 71)
abbrev M_X8_gladOf : zM := (RX8, cX8_gladOf, 2, (some .int), 1, 21)
abbrev M_X8_gladAll : zM := (RX8, cX8_gladAll, 3, (some .int), 2, 42)
abbrev M_X8_fewestOf : zM := (RX8, cX8_fewestOf, 4, (some .int), 4, 94)
abbrev M_X8_letter : zM := (RX8, cX8_letter, 2, (some .int), 1, 21)
abbrev M_X8_here : zM := (RX8, cX8_here, 1, (some .int), 0, 0)
abbrev M_X8_readsNumber : zM := (RX8, cX8_readsNumber, 4, (some .boolean), 1, 22)
abbrev M_X8_kindBy : zM := (RX8, cX8_kindBy, 1, (some .int), 0, 0)
abbrev M_X8_readsKind : zM := (RX8, cX8_readsKind, 1, (some .boolean), 1, 20)
abbrev M_X8_readsStatement : zM := (RX8, cX8_readsStatement, 3, (some .boolean), 2, 45)
abbrev M_X8_turnsHalves : zM := (RX8, cX8_turnsHalves, 3, none, 0, 0)
abbrev M_X8_canGlue : zM := (RX8, cX8_canGlue, 2, (some .boolean), 1, 21)
abbrev M_X8_gluesTo : zM := (RX8, cX8_gluesTo, 4, (some .int), 4, 94)
abbrev M_X8_isDone : zM := (RX8, cX8_isDone, 5, (some .boolean), 5, 117)
abbrev M_X8_shop : zM := (RX8, cX8_shop, 6, (some .int), 6, 141)
abbrev M_X8_thing : zM := (RX8, cX8_thing, 3, (some .int), 2, 43)
abbrev M_X8_glad : zM := (RX8, cX8_glad, 3, (some .int), 2, 43)
abbrev M_X8_areTwo : zM := (RX8, cX8_areTwo, 3, (some .boolean), 2, 43)
abbrev M_X8_halves : zM := (RX8, cX8_halves, 3, (some .int), 3, 65)
abbrev M_X8_turn : zM := (RX8, cX8_turn, 5, (some .int), 2, 43)
abbrev M_X8_makes : zM := (RX8, cX8_makes, 5, (some .int), 2, 43)
abbrev M_X8_pairs : zM := (RX8, cX8_pairs, 3, (some .int), 3, 65)
abbrev M_X8_now : zM := (RX8, cX8_now, 3, (some .int), 2, 42)
abbrev M_X8_hands : zM := (RX8, cX8_hands, 3, (some .int), 1, 21)
abbrev M_X8_pours : zM := (RX8, cX8_pours, 3, (some .int), 1, 21)
abbrev M_X8_wrongGlue : zM := (RX8, cX8_wrongGlue, 4, (some .int), 2, 43)
abbrev M_X8_glues : zM := (RX8, cX8_glues, 5, (some .int), 5, 117)
abbrev M_X8_washes : zM := (RX8, cX8_washes, 3, (some .int), 2, 43)
abbrev M_X8_would : zM := (RX8, cX8_would, 7, (some .int), 4, 94)
abbrev M_X8_canOf : zM := (RX8, cX8_canOf, 4, (some .int), 4, 94)
abbrev M_X8_can : zM := (RX8, cX8_can, 2, (some .int), 5, 117)
abbrev M_X8_fewest : zM := (RX8, cX8_fewest, 3, (some .int), 5, 117)
abbrev M_X8_gladness : zM := (RX8, cX8_gladness, 1, (some .int), 3, 64)
abbrev M_X8_doAgree : zM := (RX8, cX8_doAgree, 4, (some .boolean), 0, 0)
abbrev M_X8_agreeMany : zM := (RX8, cX8_agreeMany, 5, (some .int), 1, 23)
abbrev M_X8_agree : zM := (RX8, cX8_agree, 4, (some .int), 2, 47)
abbrev M_X8_mostBy : zM := (RX8, cX8_mostBy, 12, (some .int), 5, 117)
abbrev M_X8_most_ : zM := (RX8, cX8_most_, 3, (some .int), 6, 148)
abbrev M_X8_byMinutes : zM := (RX8, cX8_byMinutes, 5, (some .int), 4, 94)
abbrev M_X8_fewDrops : zM := (RX8, cX8_fewDrops, 3, (some .int), 6, 148)
abbrev M_X8_together : zM := (RX8, cX8_together, 9, (some .int), 5, 117)
abbrev M_X8_gladdest : zM := (RX8, cX8_gladdest, 4, (some .int), 1, 21)
abbrev M_X8_queue : zM := (RX8, cX8_queue, 9, (some .int), 5, 117)
abbrev M_X8_oneMore : zM := (RX8, cX8_oneMore, 1, (some .int), 3, 64)
abbrev M_X8_bestYear : zM := (RX8, cX8_bestYear, 5, (some .int), 6, 148)
abbrev M_X8_waterOf : zM := (RX8, cX8_waterOf, 2, (some .int), 2, 42)
abbrev M_X8_water : zM := (RX8, cX8_water, 2, (some .int), 3, 63)
abbrev M_X8_bestWash : zM := (RX8, cX8_bestWash, 4, (some .int), 3, 63)
abbrev M_X8_sour : zM := (RX8, cX8_sour, 3, (some .int), 3, 63)
abbrev M_X8_regret : zM := (RX8, cX8_regret, 2, (some .int), 2, 44)
abbrev M_X8_two : zM := (RX8, cX8_two, 9, (some .int), 4, 94)
abbrev M_X8_gcd : zM := (RX8, cX8_gcd, 10, (some .long), 0, 0)
abbrev M_X8_partOf : zM := (RX8, cX8_partOf, 5, (some .long), 1, 29)
abbrev M_X8_slips : zM := (RX8, cX8_slips, 11, (some .long), 4, 94)
abbrev M_X8_power : zM := (RX8, cX8_power, 5, (some .long), 0, 0)
abbrev M_X8_slip : zM := (RX8, cX8_slip, 6, (some .long), 5, 124)
abbrev M_X8_mean : zM := (RX8, cX8_mean, 5, (some .long), 5, 124)
abbrev M_X8_whatWas : zM := (RX8, cX8_whatWas, 7, (some .int), 4, 94)
abbrev M_X8_mended : zM := (RX8, cX8_mended, 5, (some .int), 4, 94)
abbrev M_X8_row : zM := (RX8, cX8_row, 2, (some .int), 1, 21)
abbrev M_X8_judge : zM := (RX8, cX8_judge, 4, (some .int), 2, 43)
abbrev M_X8_clear : zM := (RX8, cX8_clear, 2, (some .int), 0, 0)
abbrev M_X8_drawn : zM := (RX8, cX8_drawn, 2, (some .int), 0, 0)
abbrev M_X8_lots : zM := (RX8, cX8_lots, 8, (some .int), 4, 94)
abbrev M_X8_image : zM := (RX8, cX8_image, 1, (some .int), 1, 22)
abbrev M_X8_on : zM := (RX8, cX8_on, 1, (some .int), 1, 22)
abbrev M_X8_count : zM := (RX8, cX8_count, 4, (some .int), 1, 22)
theorem cst_7_226 : Cond.constant RX7 226 1000000000 ∈ WS := (ws_at 731 (by decide +kernel) rfl)
theorem cst_7_240 : Cond.constantLong RX7 240 4000000000000000000 ∈ WS := (ws_at 762 (by decide +kernel) rfl)
theorem cst_7_319 : Cond.constant RX7 319 1664525 ∈ WS := (ws_at 847 (by decide +kernel) rfl)
theorem cst_7_320 : Cond.constant RX7 320 1013904223 ∈ WS := (ws_at 848 (by decide +kernel) rfl)
theorem cst_7_321 : Cond.constant RX7 321 2147483647 ∈ WS := (ws_at 849 (by decide +kernel) rfl)
theorem cst_8_199 : Cond.constant RX8 199 1664525 ∈ WS := (ws_at 1220 (by decide +kernel) rfl)
theorem cst_8_200 : Cond.constant RX8 200 1013904223 ∈ WS := (ws_at 1221 (by decide +kernel) rfl)
theorem cst_8_201 : Cond.constant RX8 201 2147483647 ∈ WS := (ws_at 1222 (by decide +kernel) rfl)
theorem cst_8_40 : Cond.constant RX8 40 1000000000 ∈ WS := (ws_at 1115 (by decide +kernel) rfl)
theorem cst_8_45 : Cond.constantLong RX8 45 4000000000000000000 ∈ WS := (ws_at 1171 (by decide +kernel) rfl)
theorem fl_0_15 : zFL RX0 15 0 1 := ⟨RX0, TX0, 3, rfl, by decide, by decide, wsu_0, rfl, Or.inl (ws_at 228 (by decide +kernel) rfl)⟩
theorem fl_0_18 : zFL RX0 18 0 2 := ⟨RX0, TX0, 3, rfl, by decide, by decide, wsu_0, rfl, Or.inl (ws_at 229 (by decide +kernel) rfl)⟩
theorem fl_0_22 : zFL RX0 22 3 0 := ⟨RX3, TX3, 6, rfl, by decide, by decide, wsu_3, rfl, Or.inr ⟨"GluedInLifetime", (nws_at 143 (by decide +kernel) rfl)⟩⟩
theorem fl_0_37 : zFL RX0 37 3 1 := ⟨RX3, TX3, 6, rfl, by decide, by decide, wsu_3, rfl, Or.inr ⟨"GluedInLifetime", (nws_at 146 (by decide +kernel) rfl)⟩⟩
theorem fl_0_48 : zFL RX0 48 3 3 := ⟨RX3, TX3, 6, rfl, by decide, by decide, wsu_3, rfl, Or.inr ⟨"GluedInLifetime", (nws_at 151 (by decide +kernel) rfl)⟩⟩
theorem fl_0_9 : zFL RX0 9 0 0 := ⟨RX0, TX0, 3, rfl, by decide, by decide, wsu_0, rfl, Or.inl (ws_at 227 (by decide +kernel) rfl)⟩
theorem fl_1_15 : zFL RX1 15 1 1 := ⟨RX1, TX1, 5, rfl, by decide, by decide, wsu_1, rfl, Or.inl (ws_at 205 (by decide +kernel) rfl)⟩
theorem fl_1_24 : zFL RX1 24 1 2 := ⟨RX1, TX1, 5, rfl, by decide, by decide, wsu_1, rfl, Or.inl (ws_at 206 (by decide +kernel) rfl)⟩
theorem fl_1_28 : zFL RX1 28 3 0 := ⟨RX3, TX3, 6, rfl, by decide, by decide, wsu_3, rfl, Or.inr ⟨"GluedInLifetime", (nws_at 142 (by decide +kernel) rfl)⟩⟩
theorem fl_1_31 : zFL RX1 31 1 3 := ⟨RX1, TX1, 5, rfl, by decide, by decide, wsu_1, rfl, Or.inl (ws_at 207 (by decide +kernel) rfl)⟩
theorem fl_1_38 : zFL RX1 38 1 4 := ⟨RX1, TX1, 5, rfl, by decide, by decide, wsu_1, rfl, Or.inl (ws_at 208 (by decide +kernel) rfl)⟩
theorem fl_1_9 : zFL RX1 9 1 0 := ⟨RX1, TX1, 5, rfl, by decide, by decide, wsu_1, rfl, Or.inl (ws_at 204 (by decide +kernel) rfl)⟩
theorem fl_2_15 : zFL RX2 15 2 1 := ⟨RX2, TX2, 2, rfl, by decide, by decide, wsu_2, rfl, Or.inl (ws_at 191 (by decide +kernel) rfl)⟩
theorem fl_2_9 : zFL RX2 9 2 0 := ⟨RX2, TX2, 2, rfl, by decide, by decide, wsu_2, rfl, Or.inl (ws_at 190 (by decide +kernel) rfl)⟩
theorem fl_3_15 : zFL RX3 15 3 3 := ⟨RX3, TX3, 6, rfl, by decide, by decide, wsu_3, rfl, Or.inl (ws_at 150 (by decide +kernel) rfl)⟩
theorem fl_3_20 : zFL RX3 20 3 4 := ⟨RX3, TX3, 6, rfl, by decide, by decide, wsu_3, rfl, Or.inl (ws_at 153 (by decide +kernel) rfl)⟩
theorem fl_3_24 : zFL RX3 24 3 5 := ⟨RX3, TX3, 6, rfl, by decide, by decide, wsu_3, rfl, Or.inl (ws_at 154 (by decide +kernel) rfl)⟩
theorem fl_3_29 : zFL RX3 29 3 0 := ⟨RX3, TX3, 6, rfl, by decide, by decide, wsu_3, rfl, Or.inl (ws_at 141 (by decide +kernel) rfl)⟩
theorem fl_3_32 : zFL RX3 32 3 1 := ⟨RX3, TX3, 6, rfl, by decide, by decide, wsu_3, rfl, Or.inl (ws_at 145 (by decide +kernel) rfl)⟩
theorem fl_3_73 : zFL RX3 73 6 2 := ⟨RX6, TX6, 4, rfl, by decide, by decide, wsu_6, rfl, Or.inr ⟨"GluedInLifetime", (nws_at 129 (by decide +kernel) rfl)⟩⟩
theorem fl_3_9 : zFL RX3 9 3 2 := ⟨RX3, TX3, 6, rfl, by decide, by decide, wsu_3, rfl, Or.inl (ws_at 148 (by decide +kernel) rfl)⟩
theorem fl_4_9 : zFL RX4 9 4 0 := ⟨RX4, TX4, 1, rfl, by decide, by decide, wsu_4, rfl, Or.inl (ws_at 244 (by decide +kernel) rfl)⟩
theorem fl_5_15 : zFL RX5 15 5 1 := ⟨RX5, TX5, 2, rfl, by decide, by decide, wsu_5, rfl, Or.inl (ws_at 177 (by decide +kernel) rfl)⟩
theorem fl_5_9 : zFL RX5 9 5 0 := ⟨RX5, TX5, 2, rfl, by decide, by decide, wsu_5, rfl, Or.inl (ws_at 176 (by decide +kernel) rfl)⟩
theorem fl_6_15 : zFL RX6 15 6 3 := ⟨RX6, TX6, 4, rfl, by decide, by decide, wsu_6, rfl, Or.inl (ws_at 130 (by decide +kernel) rfl)⟩
theorem fl_6_19 : zFL RX6 19 6 0 := ⟨RX6, TX6, 4, rfl, by decide, by decide, wsu_6, rfl, Or.inl (ws_at 123 (by decide +kernel) rfl)⟩
theorem fl_6_22 : zFL RX6 22 6 1 := ⟨RX6, TX6, 4, rfl, by decide, by decide, wsu_6, rfl, Or.inl (ws_at 125 (by decide +kernel) rfl)⟩
theorem fl_6_9 : zFL RX6 9 6 2 := ⟨RX6, TX6, 4, rfl, by decide, by decide, wsu_6, rfl, Or.inl (ws_at 127 (by decide +kernel) rfl)⟩
theorem fl_7_106 : zFL RX7 106 6 0 := ⟨RX6, TX6, 4, rfl, by decide, by decide, wsu_6, rfl, Or.inr ⟨"GluedInLifetime", (nws_at 124 (by decide +kernel) rfl)⟩⟩
theorem fl_7_109 : zFL RX7 109 6 1 := ⟨RX6, TX6, 4, rfl, by decide, by decide, wsu_6, rfl, Or.inr ⟨"GluedInLifetime", (nws_at 126 (by decide +kernel) rfl)⟩⟩
theorem fl_7_112 : zFL RX7 112 6 2 := ⟨RX6, TX6, 4, rfl, by decide, by decide, wsu_6, rfl, Or.inr ⟨"GluedInLifetime", (nws_at 128 (by decide +kernel) rfl)⟩⟩
theorem fl_7_115 : zFL RX7 115 3 1 := ⟨RX3, TX3, 6, rfl, by decide, by decide, wsu_3, rfl, Or.inr ⟨"GluedInLifetime", (nws_at 147 (by decide +kernel) rfl)⟩⟩
theorem fl_7_12 : zFL RX7 12 7 0 := ⟨RX7, TX7, 13, rfl, by decide, by decide, wsu_7, rfl, Or.inl (ws_at 249 (by decide +kernel) rfl)⟩
theorem fl_7_148 : zFL RX7 148 3 3 := ⟨RX3, TX3, 6, rfl, by decide, by decide, wsu_3, rfl, Or.inr ⟨"GluedInLifetime", (nws_at 152 (by decide +kernel) rfl)⟩⟩
theorem fl_7_151 : zFL RX7 151 3 2 := ⟨RX3, TX3, 6, rfl, by decide, by decide, wsu_3, rfl, Or.inr ⟨"GluedInLifetime", (nws_at 149 (by decide +kernel) rfl)⟩⟩
theorem fl_7_16 : zFL RX7 16 7 1 := ⟨RX7, TX7, 13, rfl, by decide, by decide, wsu_7, rfl, Or.inl (ws_at 250 (by decide +kernel) rfl)⟩
theorem fl_7_19 : zFL RX7 19 7 2 := ⟨RX7, TX7, 13, rfl, by decide, by decide, wsu_7, rfl, Or.inl (ws_at 251 (by decide +kernel) rfl)⟩
theorem fl_7_193 : zFL RX7 193 1 4 := ⟨RX1, TX1, 5, rfl, by decide, by decide, wsu_1, rfl, Or.inr ⟨"GluedInLifetime", (nws_at 209 (by decide +kernel) rfl)⟩⟩
theorem fl_7_199 : zFL RX7 199 3 0 := ⟨RX3, TX3, 6, rfl, by decide, by decide, wsu_3, rfl, Or.inr ⟨"GluedInLifetime", (nws_at 144 (by decide +kernel) rfl)⟩⟩
theorem fl_7_215 : zFL RX7 215 0 2 := ⟨RX0, TX0, 3, rfl, by decide, by decide, wsu_0, rfl, Or.inr ⟨"GluedInLifetime", (nws_at 230 (by decide +kernel) rfl)⟩⟩
theorem fl_7_25 : zFL RX7 25 7 3 := ⟨RX7, TX7, 13, rfl, by decide, by decide, wsu_7, rfl, Or.inl (ws_at 252 (by decide +kernel) rfl)⟩
theorem fl_7_271 : zFL RX7 271 2 1 := ⟨RX2, TX2, 2, rfl, by decide, by decide, wsu_2, rfl, Or.inr ⟨"GluedInLifetime", (nws_at 192 (by decide +kernel) rfl)⟩⟩
theorem fl_7_276 : zFL RX7 276 7 12 := ⟨RX7, TX7, 13, rfl, by decide, by decide, wsu_7, rfl, Or.inl (ws_at 261 (by decide +kernel) rfl)⟩
theorem fl_7_282 : zFL RX7 282 7 11 := ⟨RX7, TX7, 13, rfl, by decide, by decide, wsu_7, rfl, Or.inl (ws_at 260 (by decide +kernel) rfl)⟩
theorem fl_7_32 : zFL RX7 32 7 4 := ⟨RX7, TX7, 13, rfl, by decide, by decide, wsu_7, rfl, Or.inl (ws_at 253 (by decide +kernel) rfl)⟩
theorem fl_7_39 : zFL RX7 39 7 5 := ⟨RX7, TX7, 13, rfl, by decide, by decide, wsu_7, rfl, Or.inl (ws_at 254 (by decide +kernel) rfl)⟩
theorem fl_7_46 : zFL RX7 46 7 6 := ⟨RX7, TX7, 13, rfl, by decide, by decide, wsu_7, rfl, Or.inl (ws_at 255 (by decide +kernel) rfl)⟩
theorem fl_7_53 : zFL RX7 53 7 7 := ⟨RX7, TX7, 13, rfl, by decide, by decide, wsu_7, rfl, Or.inl (ws_at 256 (by decide +kernel) rfl)⟩
theorem fl_7_60 : zFL RX7 60 7 8 := ⟨RX7, TX7, 13, rfl, by decide, by decide, wsu_7, rfl, Or.inl (ws_at 257 (by decide +kernel) rfl)⟩
theorem fl_7_64 : zFL RX7 64 7 9 := ⟨RX7, TX7, 13, rfl, by decide, by decide, wsu_7, rfl, Or.inl (ws_at 258 (by decide +kernel) rfl)⟩
theorem fl_7_68 : zFL RX7 68 7 10 := ⟨RX7, TX7, 13, rfl, by decide, by decide, wsu_7, rfl, Or.inl (ws_at 259 (by decide +kernel) rfl)⟩
theorem fl_7_83 : zFL RX7 83 5 1 := ⟨RX5, TX5, 2, rfl, by decide, by decide, wsu_5, rfl, Or.inr ⟨"GluedInLifetime", (nws_at 178 (by decide +kernel) rfl)⟩⟩
theorem fl_8_13 : zFL RX8 13 8 1 := ⟨RX8, TX8, 16, rfl, by decide, by decide, wsu_8, rfl, Or.inl (ws_at 874 (by decide +kernel) rfl)⟩
theorem fl_8_152 : zFL RX8 152 8 12 := ⟨RX8, TX8, 16, rfl, by decide, by decide, wsu_8, rfl, Or.inl (ws_at 885 (by decide +kernel) rfl)⟩
theorem fl_8_16 : zFL RX8 16 8 2 := ⟨RX8, TX8, 16, rfl, by decide, by decide, wsu_8, rfl, Or.inl (ws_at 875 (by decide +kernel) rfl)⟩
theorem fl_8_19 : zFL RX8 19 8 3 := ⟨RX8, TX8, 16, rfl, by decide, by decide, wsu_8, rfl, Or.inl (ws_at 876 (by decide +kernel) rfl)⟩
theorem fl_8_193 : zFL RX8 193 8 9 := ⟨RX8, TX8, 16, rfl, by decide, by decide, wsu_8, rfl, Or.inl (ws_at 882 (by decide +kernel) rfl)⟩
theorem fl_8_196 : zFL RX8 196 8 15 := ⟨RX8, TX8, 16, rfl, by decide, by decide, wsu_8, rfl, Or.inl (ws_at 888 (by decide +kernel) rfl)⟩
theorem fl_8_205 : zFL RX8 205 8 4 := ⟨RX8, TX8, 16, rfl, by decide, by decide, wsu_8, rfl, Or.inl (ws_at 877 (by decide +kernel) rfl)⟩
theorem fl_8_22 : zFL RX8 22 8 5 := ⟨RX8, TX8, 16, rfl, by decide, by decide, wsu_8, rfl, Or.inl (ws_at 878 (by decide +kernel) rfl)⟩
theorem fl_8_25 : zFL RX8 25 8 6 := ⟨RX8, TX8, 16, rfl, by decide, by decide, wsu_8, rfl, Or.inl (ws_at 879 (by decide +kernel) rfl)⟩
theorem fl_8_28 : zFL RX8 28 8 7 := ⟨RX8, TX8, 16, rfl, by decide, by decide, wsu_8, rfl, Or.inl (ws_at 880 (by decide +kernel) rfl)⟩
theorem fl_8_31 : zFL RX8 31 8 11 := ⟨RX8, TX8, 16, rfl, by decide, by decide, wsu_8, rfl, Or.inl (ws_at 884 (by decide +kernel) rfl)⟩
theorem fl_8_34 : zFL RX8 34 8 13 := ⟨RX8, TX8, 16, rfl, by decide, by decide, wsu_8, rfl, Or.inl (ws_at 886 (by decide +kernel) rfl)⟩
theorem fl_8_37 : zFL RX8 37 8 14 := ⟨RX8, TX8, 16, rfl, by decide, by decide, wsu_8, rfl, Or.inl (ws_at 887 (by decide +kernel) rfl)⟩
theorem fl_8_76 : zFL RX8 76 8 8 := ⟨RX8, TX8, 16, rfl, by decide, by decide, wsu_8, rfl, Or.inl (ws_at 881 (by decide +kernel) rfl)⟩
theorem fl_8_80 : zFL RX8 80 8 10 := ⟨RX8, TX8, 16, rfl, by decide, by decide, wsu_8, rfl, Or.inl (ws_at 883 (by decide +kernel) rfl)⟩
theorem fl_8_9 : zFL RX8 9 8 0 := ⟨RX8, TX8, 16, rfl, by decide, by decide, wsu_8, rfl, Or.inl (ws_at 873 (by decide +kernel) rfl)⟩
theorem fp_0_2 : zFP 0 2 .int := ⟨RX0, TX0, 3, tyX0, rfl, tyX0_ok, nmX0, rfl, by decide +kernel⟩
theorem fp_1_2 : zFP 1 2 .int := ⟨RX1, TX1, 5, tyX1, rfl, tyX1_ok, nmX1, rfl, by decide +kernel⟩
theorem fp_1_3 : zFP 1 3 .int := ⟨RX1, TX1, 5, tyX1, rfl, tyX1_ok, nmX1, rfl, by decide +kernel⟩
theorem fp_1_4 : zFP 1 4 .int := ⟨RX1, TX1, 5, tyX1, rfl, tyX1_ok, nmX1, rfl, by decide +kernel⟩
theorem fp_2_1 : zFP 2 1 .int := ⟨RX2, TX2, 2, tyX2, rfl, tyX2_ok, nmX2, rfl, by decide +kernel⟩
theorem fp_3_0 : zFP 3 0 .int := ⟨RX3, TX3, 6, tyX3, rfl, tyX3_ok, nmX3, rfl, by decide +kernel⟩
theorem fp_3_1 : zFP 3 1 .int := ⟨RX3, TX3, 6, tyX3, rfl, tyX3_ok, nmX3, rfl, by decide +kernel⟩
theorem fp_3_2 : zFP 3 2 .int := ⟨RX3, TX3, 6, tyX3, rfl, tyX3_ok, nmX3, rfl, by decide +kernel⟩
theorem fp_3_3 : zFP 3 3 .int := ⟨RX3, TX3, 6, tyX3, rfl, tyX3_ok, nmX3, rfl, by decide +kernel⟩
theorem fp_5_1 : zFP 5 1 .int := ⟨RX5, TX5, 2, tyX5, rfl, tyX5_ok, nmX5, rfl, by decide +kernel⟩
theorem fp_6_0 : zFP 6 0 .int := ⟨RX6, TX6, 4, tyX6, rfl, tyX6_ok, nmX6, rfl, by decide +kernel⟩
theorem fp_6_1 : zFP 6 1 .int := ⟨RX6, TX6, 4, tyX6, rfl, tyX6_ok, nmX6, rfl, by decide +kernel⟩
theorem fp_6_2 : zFP 6 2 .int := ⟨RX6, TX6, 4, tyX6, rfl, tyX6_ok, nmX6, rfl, by decide +kernel⟩
theorem fp_7_11 : zFP 7 11 .boolean := ⟨RX7, TX7, 13, tyX7, rfl, tyX7_ok, nmX7, rfl, by decide +kernel⟩
theorem fp_7_12 : zFP 7 12 .int := ⟨RX7, TX7, 13, tyX7, rfl, tyX7_ok, nmX7, rfl, by decide +kernel⟩
theorem fp_8_10 : zFP 8 10 .int := ⟨RX8, TX8, 16, tyX8, rfl, tyX8_ok, nmX8, rfl, by decide +kernel⟩
theorem fp_8_12 : zFP 8 12 .int := ⟨RX8, TX8, 16, tyX8, rfl, tyX8_ok, nmX8, rfl, by decide +kernel⟩
theorem fp_8_15 : zFP 8 15 .int := ⟨RX8, TX8, 16, tyX8, rfl, tyX8_ok, nmX8, rfl, by decide +kernel⟩
theorem fp_8_4 : zFP 8 4 .boolean := ⟨RX8, TX8, 16, tyX8, rfl, tyX8_ok, nmX8, rfl, by decide +kernel⟩
theorem fp_8_8 : zFP 8 8 .int := ⟨RX8, TX8, 16, tyX8, rfl, tyX8_ok, nmX8, rfl, by decide +kernel⟩
theorem fp_8_9 : zFP 8 9 .int := ⟨RX8, TX8, 16, tyX8, rfl, tyX8_ok, nmX8, rfl, by decide +kernel⟩
theorem ml_0_27 : zML RX0 27 yX3_at M_X3_at 1 := ⟨Or.inr ⟨"GluedInLifetime", (nws_at 702 (by decide +kernel) rfl)⟩, (ws_at 87 (by decide +kernel) rfl), (ws_at 457 (by decide +kernel) rfl), ⟨by decide +kernel, by decide +kernel, by decide +kernel⟩⟩
theorem ml_0_31 : zML RX0 31 yX6_isSet M_X6_isSet 0 := ⟨Or.inr ⟨"GluedInLifetime", (nws_at 703 (by decide +kernel) rfl)⟩, (ws_at 88 (by decide +kernel) rfl), (ws_at 496 (by decide +kernel) rfl), ⟨by decide +kernel, by decide +kernel, by decide +kernel⟩⟩
theorem ml_0_40 : zML RX0 40 yX6_gladdestYear M_X6_gladdestYear 1 := ⟨Or.inr ⟨"GluedInLifetime", (nws_at 704 (by decide +kernel) rfl)⟩, (ws_at 88 (by decide +kernel) rfl), (ws_at 707 (by decide +kernel) rfl), ⟨by decide +kernel, by decide +kernel, by decide +kernel⟩⟩
theorem ml_0_44 : zML RX0 44 yX6_fewestFor M_X6_fewestFor 2 := ⟨Or.inr ⟨"GluedInLifetime", (nws_at 708 (by decide +kernel) rfl)⟩, (ws_at 88 (by decide +kernel) rfl), (ws_at 605 (by decide +kernel) rfl), ⟨by decide +kernel, by decide +kernel, by decide +kernel⟩⟩
theorem ml_0_51 : zML RX0 51 yX0_begin M_X0_begin 2 := ⟨Or.inl ⟨rfl, (ws_at 709 (by decide +kernel) rfl)⟩, (ws_at 92 (by decide +kernel) rfl), (ws_at 712 (by decide +kernel) rfl), ⟨by decide +kernel, by decide +kernel, by decide +kernel⟩⟩
theorem mx_0_54 : zmx RX0 54 := ⟨(ws_at 713 (by decide +kernel) rfl), (ws_at 360 (by decide +kernel) rfl), (ws_at 97 (by decide +kernel) rfl), (ws_at 361 (by decide +kernel) rfl)⟩
theorem ml_1_18 : zML RX1 18 yX3_setBits M_X3_setBits 0 := ⟨Or.inr ⟨"GluedInLifetime", (nws_at 644 (by decide +kernel) rfl)⟩, (ws_at 87 (by decide +kernel) rfl), (ws_at 647 (by decide +kernel) rfl), ⟨by decide +kernel, by decide +kernel, by decide +kernel⟩⟩
theorem ml_1_34 : zML RX1 34 yX3_gladTogether M_X3_gladTogether 1 := ⟨Or.inr ⟨"GluedInLifetime", (nws_at 648 (by decide +kernel) rfl)⟩, (ws_at 87 (by decide +kernel) rfl), (ws_at 614 (by decide +kernel) rfl), ⟨by decide +kernel, by decide +kernel, by decide +kernel⟩⟩
theorem ml_1_41 : zML RX1 41 yX3_at M_X3_at 1 := ⟨Or.inr ⟨"GluedInLifetime", (nws_at 649 (by decide +kernel) rfl)⟩, (ws_at 87 (by decide +kernel) rfl), (ws_at 457 (by decide +kernel) rfl), ⟨by decide +kernel, by decide +kernel, by decide +kernel⟩⟩
theorem ml_1_45 : zML RX1 45 yX6_gladdestBy M_X6_gladdestBy 1 := ⟨Or.inr ⟨"GluedInLifetime", (nws_at 650 (by decide +kernel) rfl)⟩, (ws_at 88 (by decide +kernel) rfl), (ws_at 653 (by decide +kernel) rfl), ⟨by decide +kernel, by decide +kernel, by decide +kernel⟩⟩
theorem ml_1_50 : zML RX1 50 yX6_gladIn M_X6_gladIn 1 := ⟨Or.inr ⟨"GluedInLifetime", (nws_at 654 (by decide +kernel) rfl)⟩, (ws_at 88 (by decide +kernel) rfl), (ws_at 517 (by decide +kernel) rfl), ⟨by decide +kernel, by decide +kernel, by decide +kernel⟩⟩
theorem ml_1_53 : zML RX1 53 yX6_cost M_X6_cost 0 := ⟨Or.inr ⟨"GluedInLifetime", (nws_at 655 (by decide +kernel) rfl)⟩, (ws_at 88 (by decide +kernel) rfl), (ws_at 500 (by decide +kernel) rfl), ⟨by decide +kernel, by decide +kernel, by decide +kernel⟩⟩
theorem ml_1_56 : zML RX1 56 yX1_sumOver M_X1_sumOver 2 := ⟨Or.inl ⟨rfl, (ws_at 664 (by decide +kernel) rfl)⟩, (ws_at 91 (by decide +kernel) rfl), (ws_at 666 (by decide +kernel) rfl), ⟨by decide +kernel, by decide +kernel, by decide +kernel⟩⟩
theorem ml_1_60 : zML RX1 60 yX1_gainOf M_X1_gainOf 1 := ⟨Or.inl ⟨rfl, (ws_at 660 (by decide +kernel) rfl)⟩, (ws_at 91 (by decide +kernel) rfl), (ws_at 663 (by decide +kernel) rfl), ⟨by decide +kernel, by decide +kernel, by decide +kernel⟩⟩
theorem mn_1_63 : zmn RX1 63 := ⟨(ws_at 685 (by decide +kernel) rfl), (ws_at 363 (by decide +kernel) rfl), (ws_at 97 (by decide +kernel) rfl), (ws_at 364 (by decide +kernel) rfl)⟩
theorem ml_2_19 : zML RX2 19 yX2_isFull M_X2_isFull 0 := ⟨Or.inl ⟨rfl, (ws_at 820 (by decide +kernel) rfl)⟩, (ws_at 90 (by decide +kernel) rfl), (ws_at 815 (by decide +kernel) rfl), ⟨by decide +kernel, by decide +kernel, by decide +kernel⟩⟩
theorem ml_2_23 : zML RX2 23 yX6_yearBy M_X6_yearBy 3 := ⟨Or.inr ⟨"GluedInLifetime", (nws_at 803 (by decide +kernel) rfl)⟩, (ws_at 88 (by decide +kernel) rfl), (ws_at 504 (by decide +kernel) rfl), ⟨by decide +kernel, by decide +kernel, by decide +kernel⟩⟩
theorem ml_2_29 : zML RX2 29 yX7_noYear M_X7_noYear 1 := ⟨Or.inr ⟨"GluedInLifetime", (nws_at 829 (by decide +kernel) rfl)⟩, (ws_at 86 (by decide +kernel) rfl), (ws_at 472 (by decide +kernel) rfl), ⟨by decide +kernel, by decide +kernel, by decide +kernel⟩⟩
theorem ml_2_33 : zML RX2 33 yX6_gladIn M_X6_gladIn 1 := ⟨Or.inr ⟨"GluedInLifetime", (nws_at 830 (by decide +kernel) rfl)⟩, (ws_at 88 (by decide +kernel) rfl), (ws_at 517 (by decide +kernel) rfl), ⟨by decide +kernel, by decide +kernel, by decide +kernel⟩⟩
theorem ml_3_35 : zML RX3 35 yX6_copyFrom M_X6_copyFrom 1 := ⟨Or.inr ⟨"GluedInLifetime", (nws_at 433 (by decide +kernel) rfl)⟩, (ws_at 88 (by decide +kernel) rfl), (ws_at 436 (by decide +kernel) rfl), ⟨by decide +kernel, by decide +kernel, by decide +kernel⟩⟩
theorem ml_3_39 : zML RX3 39 yX3_lacks M_X3_lacks 1 := ⟨Or.inl ⟨rfl, (ws_at 466 (by decide +kernel) rfl)⟩, (ws_at 87 (by decide +kernel) rfl), (ws_at 469 (by decide +kernel) rfl), ⟨by decide +kernel, by decide +kernel, by decide +kernel⟩⟩
theorem ml_3_43 : zML RX3 43 yX3_at M_X3_at 1 := ⟨Or.inl ⟨rfl, (ws_at 454 (by decide +kernel) rfl)⟩, (ws_at 87 (by decide +kernel) rfl), (ws_at 457 (by decide +kernel) rfl), ⟨by decide +kernel, by decide +kernel, by decide +kernel⟩⟩
theorem ml_3_47 : zML RX3 47 yX6_begin M_X6_begin 2 := ⟨Or.inr ⟨"GluedInLifetime", (nws_at 458 (by decide +kernel) rfl)⟩, (ws_at 88 (by decide +kernel) rfl), (ws_at 461 (by decide +kernel) rfl), ⟨by decide +kernel, by decide +kernel, by decide +kernel⟩⟩
theorem ml_3_51 : zML RX3 51 yX7_noYear M_X7_noYear 1 := ⟨Or.inr ⟨"GluedInLifetime", (nws_at 470 (by decide +kernel) rfl)⟩, (ws_at 86 (by decide +kernel) rfl), (ws_at 472 (by decide +kernel) rfl), ⟨by decide +kernel, by decide +kernel, by decide +kernel⟩⟩
theorem ml_3_54 : zML RX3 54 yX6_makeGlad M_X6_makeGlad 2 := ⟨Or.inr ⟨"GluedInLifetime", (nws_at 473 (by decide +kernel) rfl)⟩, (ws_at 88 (by decide +kernel) rfl), (ws_at 476 (by decide +kernel) rfl), ⟨by decide +kernel, by decide +kernel, by decide +kernel⟩⟩
theorem ml_3_57 : zML RX3 57 yX3_lacksTwo M_X3_lacksTwo 2 := ⟨Or.inl ⟨rfl, (ws_at 485 (by decide +kernel) rfl)⟩, (ws_at 87 (by decide +kernel) rfl), (ws_at 488 (by decide +kernel) rfl), ⟨by decide +kernel, by decide +kernel, by decide +kernel⟩⟩
theorem ml_3_61 : zML RX3 61 yX6_isSet M_X6_isSet 0 := ⟨Or.inr ⟨"GluedInLifetime", (nws_at 493 (by decide +kernel) rfl)⟩, (ws_at 88 (by decide +kernel) rfl), (ws_at 496 (by decide +kernel) rfl), ⟨by decide +kernel, by decide +kernel, by decide +kernel⟩⟩
theorem ml_3_65 : zML RX3 65 yX6_cost M_X6_cost 0 := ⟨Or.inr ⟨"GluedInLifetime", (nws_at 497 (by decide +kernel) rfl)⟩, (ws_at 88 (by decide +kernel) rfl), (ws_at 500 (by decide +kernel) rfl), ⟨by decide +kernel, by decide +kernel, by decide +kernel⟩⟩
theorem ml_3_69 : zML RX3 69 yX6_yearBy M_X6_yearBy 3 := ⟨Or.inr ⟨"GluedInLifetime", (nws_at 501 (by decide +kernel) rfl)⟩, (ws_at 88 (by decide +kernel) rfl), (ws_at 504 (by decide +kernel) rfl), ⟨by decide +kernel, by decide +kernel, by decide +kernel⟩⟩
theorem ml_3_76 : zML RX3 76 yX6_howGlad M_X6_howGlad 1 := ⟨Or.inr ⟨"GluedInLifetime", (nws_at 615 (by decide +kernel) rfl)⟩, (ws_at 88 (by decide +kernel) rfl), (ws_at 529 (by decide +kernel) rfl), ⟨by decide +kernel, by decide +kernel, by decide +kernel⟩⟩
theorem ml_3_80 : zML RX3 80 yX3_areHalves M_X3_areHalves 2 := ⟨Or.inl ⟨rfl, (ws_at 627 (by decide +kernel) rfl)⟩, (ws_at 87 (by decide +kernel) rfl), (ws_at 546 (by decide +kernel) rfl), ⟨by decide +kernel, by decide +kernel, by decide +kernel⟩⟩
theorem ml_3_83 : zML RX3 83 yX3_setInOneYear M_X3_setInOneYear 2 := ⟨Or.inl ⟨rfl, (ws_at 628 (by decide +kernel) rfl)⟩, (ws_at 87 (by decide +kernel) rfl), (ws_at 631 (by decide +kernel) rfl), ⟨by decide +kernel, by decide +kernel, by decide +kernel⟩⟩
theorem ml_4_15 : zML RX4 15 yX6_yearBy M_X6_yearBy 3 := ⟨Or.inr ⟨"GluedInLifetime", (nws_at 774 (by decide +kernel) rfl)⟩, (ws_at 88 (by decide +kernel) rfl), (ws_at 504 (by decide +kernel) rfl), ⟨by decide +kernel, by decide +kernel, by decide +kernel⟩⟩
theorem ml_4_21 : zML RX4 21 yX6_gladIn M_X6_gladIn 1 := ⟨Or.inr ⟨"GluedInLifetime", (nws_at 793 (by decide +kernel) rfl)⟩, (ws_at 88 (by decide +kernel) rfl), (ws_at 517 (by decide +kernel) rfl), ⟨by decide +kernel, by decide +kernel, by decide +kernel⟩⟩
theorem ml_5_19 : zML RX5 19 yX5_isFull M_X5_isFull 0 := ⟨Or.inl ⟨rfl, (ws_at 305 (by decide +kernel) rfl)⟩, (ws_at 89 (by decide +kernel) rfl), (ws_at 300 (by decide +kernel) rfl), ⟨by decide +kernel, by decide +kernel, by decide +kernel⟩⟩
theorem ml_5_23 : zML RX5 23 yX5_letterAt M_X5_letterAt 1 := ⟨Or.inl ⟨rfl, (ws_at 322 (by decide +kernel) rfl)⟩, (ws_at 89 (by decide +kernel) rfl), (ws_at 325 (by decide +kernel) rfl), ⟨by decide +kernel, by decide +kernel, by decide +kernel⟩⟩
theorem ml_5_34 : zML RX5 34 yX5_partsOf M_X5_partsOf 1 := ⟨Or.inl ⟨rfl, (ws_at 318 (by decide +kernel) rfl)⟩, (ws_at 89 (by decide +kernel) rfl), (ws_at 321 (by decide +kernel) rfl), ⟨by decide +kernel, by decide +kernel, by decide +kernel⟩⟩
theorem ml_5_37 : zML RX5 37 yX5_misfitOfStatement M_X5_misfitOfStatement 1 := ⟨Or.inl ⟨rfl, (ws_at 314 (by decide +kernel) rfl)⟩, (ws_at 89 (by decide +kernel) rfl), (ws_at 317 (by decide +kernel) rfl), ⟨by decide +kernel, by decide +kernel, by decide +kernel⟩⟩
theorem ml_5_40 : zML RX5 40 yX5_behindStatement M_X5_behindStatement 1 := ⟨Or.inl ⟨rfl, (ws_at 421 (by decide +kernel) rfl)⟩, (ws_at 89 (by decide +kernel) rfl), (ws_at 424 (by decide +kernel) rfl), ⟨by decide +kernel, by decide +kernel, by decide +kernel⟩⟩
theorem ml_5_43 : zML RX5 43 yX5_kindAt M_X5_kindAt 1 := ⟨Or.inl ⟨rfl, (ws_at 326 (by decide +kernel) rfl)⟩, (ws_at 89 (by decide +kernel) rfl), (ws_at 329 (by decide +kernel) rfl), ⟨by decide +kernel, by decide +kernel, by decide +kernel⟩⟩
theorem ml_5_46 : zML RX5 46 yX5_isDigit M_X5_isDigit 1 := ⟨Or.inl ⟨rfl, (ws_at 417 (by decide +kernel) rfl)⟩, (ws_at 89 (by decide +kernel) rfl), (ws_at 420 (by decide +kernel) rfl), ⟨by decide +kernel, by decide +kernel, by decide +kernel⟩⟩
theorem cp_6_25 : zcp RX6 25 := ⟨(ws_at 437 (by decide +kernel) rfl), (ws_at 439 (by decide +kernel) rfl), (ws_at 438 (by decide +kernel) rfl), (ws_at 101 (by decide +kernel) rfl)⟩
theorem ml_6_31 : zML RX6 31 yX6_isSet M_X6_isSet 0 := ⟨Or.inl ⟨rfl, (ws_at 530 (by decide +kernel) rfl)⟩, (ws_at 88 (by decide +kernel) rfl), (ws_at 496 (by decide +kernel) rfl), ⟨by decide +kernel, by decide +kernel, by decide +kernel⟩⟩
theorem ml_6_35 : zML RX6 35 yX6_gladIn M_X6_gladIn 1 := ⟨Or.inl ⟨rfl, (ws_at 514 (by decide +kernel) rfl)⟩, (ws_at 88 (by decide +kernel) rfl), (ws_at 517 (by decide +kernel) rfl), ⟨by decide +kernel, by decide +kernel, by decide +kernel⟩⟩
theorem ml_6_39 : zML RX6 39 yX6_howGlad M_X6_howGlad 1 := ⟨Or.inl ⟨rfl, (ws_at 736 (by decide +kernel) rfl)⟩, (ws_at 88 (by decide +kernel) rfl), (ws_at 529 (by decide +kernel) rfl), ⟨by decide +kernel, by decide +kernel, by decide +kernel⟩⟩
theorem mx_6_42 : zmx RX6 42 := ⟨(ws_at 509 (by decide +kernel) rfl), (ws_at 360 (by decide +kernel) rfl), (ws_at 97 (by decide +kernel) rfl), (ws_at 361 (by decide +kernel) rfl)⟩
theorem ml_6_48 : zML RX6 48 yX6_reach M_X6_reach 2 := ⟨Or.inl ⟨rfl, (ws_at 505 (by decide +kernel) rfl)⟩, (ws_at 88 (by decide +kernel) rfl), (ws_at 508 (by decide +kernel) rfl), ⟨by decide +kernel, by decide +kernel, by decide +kernel⟩⟩
theorem ml_6_51 : zML RX6 51 yX6_counts M_X6_counts 2 := ⟨Or.inl ⟨rfl, (ws_at 510 (by decide +kernel) rfl)⟩, (ws_at 88 (by decide +kernel) rfl), (ws_at 513 (by decide +kernel) rfl), ⟨by decide +kernel, by decide +kernel, by decide +kernel⟩⟩
theorem ml_6_54 : zML RX6 54 yX6_yearBy M_X6_yearBy 3 := ⟨Or.inl ⟨rfl, (ws_at 606 (by decide +kernel) rfl)⟩, (ws_at 88 (by decide +kernel) rfl), (ws_at 504 (by decide +kernel) rfl), ⟨by decide +kernel, by decide +kernel, by decide +kernel⟩⟩
theorem ml_7_102 : zML RX7 102 yX3_at M_X3_at 1 := ⟨Or.inr ⟨"GluedInLifetime", (nws_at 525 (by decide +kernel) rfl)⟩, (ws_at 87 (by decide +kernel) rfl), (ws_at 457 (by decide +kernel) rfl), ⟨by decide +kernel, by decide +kernel, by decide +kernel⟩⟩
theorem ml_7_118 : zML RX7 118 yX6_howGlad M_X6_howGlad 1 := ⟨Or.inr ⟨"GluedInLifetime", (nws_at 526 (by decide +kernel) rfl)⟩, (ws_at 88 (by decide +kernel) rfl), (ws_at 529 (by decide +kernel) rfl), ⟨by decide +kernel, by decide +kernel, by decide +kernel⟩⟩
theorem ml_7_121 : zML RX7 121 yX6_cost M_X6_cost 0 := ⟨Or.inr ⟨"GluedInLifetime", (nws_at 531 (by decide +kernel) rfl)⟩, (ws_at 88 (by decide +kernel) rfl), (ws_at 500 (by decide +kernel) rfl), ⟨by decide +kernel, by decide +kernel, by decide +kernel⟩⟩
theorem ml_7_124 : zML RX7 124 yX7_noYear M_X7_noYear 1 := ⟨Or.inl ⟨rfl, (ws_at 536 (by decide +kernel) rfl)⟩, (ws_at 86 (by decide +kernel) rfl), (ws_at 472 (by decide +kernel) rfl), ⟨by decide +kernel, by decide +kernel, by decide +kernel⟩⟩
theorem ml_7_127 : zML RX7 127 yX6_gladIn M_X6_gladIn 1 := ⟨Or.inr ⟨"GluedInLifetime", (nws_at 537 (by decide +kernel) rfl)⟩, (ws_at 88 (by decide +kernel) rfl), (ws_at 517 (by decide +kernel) rfl), ⟨by decide +kernel, by decide +kernel, by decide +kernel⟩⟩
theorem ml_7_130 : zML RX7 130 yX3_lacksTwo M_X3_lacksTwo 2 := ⟨Or.inr ⟨"GluedInLifetime", (nws_at 542 (by decide +kernel) rfl)⟩, (ws_at 87 (by decide +kernel) rfl), (ws_at 488 (by decide +kernel) rfl), ⟨by decide +kernel, by decide +kernel, by decide +kernel⟩⟩
theorem ml_7_134 : zML RX7 134 yX3_areHalves M_X3_areHalves 2 := ⟨Or.inr ⟨"GluedInLifetime", (nws_at 543 (by decide +kernel) rfl)⟩, (ws_at 87 (by decide +kernel) rfl), (ws_at 546 (by decide +kernel) rfl), ⟨by decide +kernel, by decide +kernel, by decide +kernel⟩⟩
theorem ml_7_137 : zML RX7 137 yX7_outside M_X7_outside 3 := ⟨Or.inl ⟨rfl, (ws_at 551 (by decide +kernel) rfl)⟩, (ws_at 86 (by decide +kernel) rfl), (ws_at 553 (by decide +kernel) rfl), ⟨by decide +kernel, by decide +kernel, by decide +kernel⟩⟩
theorem ml_7_141 : zML RX7 141 yX6_makeGlad M_X6_makeGlad 2 := ⟨Or.inr ⟨"GluedInLifetime", (nws_at 558 (by decide +kernel) rfl)⟩, (ws_at 88 (by decide +kernel) rfl), (ws_at 476 (by decide +kernel) rfl), ⟨by decide +kernel, by decide +kernel, by decide +kernel⟩⟩
theorem ml_7_145 : zML RX7 145 yX3_turnHalves M_X3_turnHalves 2 := ⟨Or.inr ⟨"GluedInLifetime", (nws_at 481 (by decide +kernel) rfl)⟩, (ws_at 87 (by decide +kernel) rfl), (ws_at 484 (by decide +kernel) rfl), ⟨by decide +kernel, by decide +kernel, by decide +kernel⟩⟩
theorem ml_7_154 : zML RX7 154 yX7_heldRefusal M_X7_heldRefusal 3 := ⟨Or.inl ⟨rfl, (ws_at 579 (by decide +kernel) rfl)⟩, (ws_at 86 (by decide +kernel) rfl), (ws_at 582 (by decide +kernel) rfl), ⟨by decide +kernel, by decide +kernel, by decide +kernel⟩⟩
theorem ml_7_157 : zML RX7 157 yX3_glue M_X3_glue 3 := ⟨Or.inr ⟨"GluedInLifetime", (nws_at 489 (by decide +kernel) rfl)⟩, (ws_at 87 (by decide +kernel) rfl), (ws_at 492 (by decide +kernel) rfl), ⟨by decide +kernel, by decide +kernel, by decide +kernel⟩⟩
theorem ml_7_161 : zML RX7 161 yX6_isSet M_X6_isSet 0 := ⟨Or.inr ⟨"GluedInLifetime", (nws_at 587 (by decide +kernel) rfl)⟩, (ws_at 88 (by decide +kernel) rfl), (ws_at 496 (by decide +kernel) rfl), ⟨by decide +kernel, by decide +kernel, by decide +kernel⟩⟩
theorem ml_7_164 : zML RX7 164 yX6_reach M_X6_reach 2 := ⟨Or.inr ⟨"GluedInLifetime", (nws_at 592 (by decide +kernel) rfl)⟩, (ws_at 88 (by decide +kernel) rfl), (ws_at 508 (by decide +kernel) rfl), ⟨by decide +kernel, by decide +kernel, by decide +kernel⟩⟩
theorem ml_7_168 : zML RX7 168 yX6_yearBy M_X6_yearBy 3 := ⟨Or.inr ⟨"GluedInLifetime", (nws_at 593 (by decide +kernel) rfl)⟩, (ws_at 88 (by decide +kernel) rfl), (ws_at 504 (by decide +kernel) rfl), ⟨by decide +kernel, by decide +kernel, by decide +kernel⟩⟩
theorem ml_7_171 : zML RX7 171 yX6_fewestFor M_X6_fewestFor 2 := ⟨Or.inr ⟨"GluedInLifetime", (nws_at 602 (by decide +kernel) rfl)⟩, (ws_at 88 (by decide +kernel) rfl), (ws_at 605 (by decide +kernel) rfl), ⟨by decide +kernel, by decide +kernel, by decide +kernel⟩⟩
theorem ml_7_174 : zML RX7 174 yX3_gladTogether M_X3_gladTogether 1 := ⟨Or.inr ⟨"GluedInLifetime", (nws_at 611 (by decide +kernel) rfl)⟩, (ws_at 87 (by decide +kernel) rfl), (ws_at 614 (by decide +kernel) rfl), ⟨by decide +kernel, by decide +kernel, by decide +kernel⟩⟩
theorem ml_7_177 : zML RX7 177 yX7_notOneOfTwo M_X7_notOneOfTwo 1 := ⟨Or.inl ⟨rfl, (ws_at 620 (by decide +kernel) rfl)⟩, (ws_at 86 (by decide +kernel) rfl), (ws_at 622 (by decide +kernel) rfl), ⟨by decide +kernel, by decide +kernel, by decide +kernel⟩⟩
theorem ml_7_180 : zML RX7 180 yX3_countAgreeing M_X3_countAgreeing 0 := ⟨Or.inr ⟨"GluedInLifetime", (nws_at 623 (by decide +kernel) rfl)⟩, (ws_at 87 (by decide +kernel) rfl), (ws_at 626 (by decide +kernel) rfl), ⟨by decide +kernel, by decide +kernel, by decide +kernel⟩⟩
theorem ml_7_183 : zML RX7 183 yX3_firstApart M_X3_firstApart 0 := ⟨Or.inr ⟨"GluedInLifetime", (nws_at 632 (by decide +kernel) rfl)⟩, (ws_at 87 (by decide +kernel) rfl), (ws_at 635 (by decide +kernel) rfl), ⟨by decide +kernel, by decide +kernel, by decide +kernel⟩⟩
theorem ml_7_186 : zML RX7 186 yX1_weigh M_X1_weigh 2 := ⟨Or.inr ⟨"GluedInLifetime", (nws_at 640 (by decide +kernel) rfl)⟩, (ws_at 91 (by decide +kernel) rfl), (ws_at 643 (by decide +kernel) rfl), ⟨by decide +kernel, by decide +kernel, by decide +kernel⟩⟩
theorem ml_7_190 : zML RX7 190 yX1_bestBits M_X1_bestBits 1 := ⟨Or.inr ⟨"GluedInLifetime", (nws_at 656 (by decide +kernel) rfl)⟩, (ws_at 91 (by decide +kernel) rfl), (ws_at 659 (by decide +kernel) rfl), ⟨by decide +kernel, by decide +kernel, by decide +kernel⟩⟩
theorem ml_7_196 : zML RX7 196 yX1_gainOf M_X1_gainOf 1 := ⟨Or.inr ⟨"GluedInLifetime", (nws_at 667 (by decide +kernel) rfl)⟩, (ws_at 91 (by decide +kernel) rfl), (ws_at 663 (by decide +kernel) rfl), ⟨by decide +kernel, by decide +kernel, by decide +kernel⟩⟩
theorem ml_7_202 : zML RX7 202 yX7_spendSteps M_X7_spendSteps 1 := ⟨Or.inl ⟨rfl, (ws_at 672 (by decide +kernel) rfl)⟩, (ws_at 86 (by decide +kernel) rfl), (ws_at 675 (by decide +kernel) rfl), ⟨by decide +kernel, by decide +kernel, by decide +kernel⟩⟩
theorem ml_7_206 : zML RX7 206 yX1_fewestFor M_X1_fewestFor 1 := ⟨Or.inr ⟨"GluedInLifetime", (nws_at 681 (by decide +kernel) rfl)⟩, (ws_at 91 (by decide +kernel) rfl), (ws_at 684 (by decide +kernel) rfl), ⟨by decide +kernel, by decide +kernel, by decide +kernel⟩⟩
theorem ml_7_208 : zML RX7 208 yX7_minutesOfBoth M_X7_minutesOfBoth 3 := ⟨Or.inl ⟨rfl, (ws_at 690 (by decide +kernel) rfl)⟩, (ws_at 86 (by decide +kernel) rfl), (ws_at 693 (by decide +kernel) rfl), ⟨by decide +kernel, by decide +kernel, by decide +kernel⟩⟩
theorem ml_7_212 : zML RX7 212 yX0_arrange M_X0_arrange 1 := ⟨Or.inr ⟨"GluedInLifetime", (nws_at 698 (by decide +kernel) rfl)⟩, (ws_at 92 (by decide +kernel) rfl), (ws_at 701 (by decide +kernel) rfl), ⟨by decide +kernel, by decide +kernel, by decide +kernel⟩⟩
theorem ml_7_218 : zML RX7 218 yX0_beginOf M_X0_beginOf 1 := ⟨Or.inr ⟨"GluedInLifetime", (nws_at 714 (by decide +kernel) rfl)⟩, (ws_at 92 (by decide +kernel) rfl), (ws_at 717 (by decide +kernel) rfl), ⟨by decide +kernel, by decide +kernel, by decide +kernel⟩⟩
theorem mn_7_221 : zmn RX7 221 := ⟨(ws_at 722 (by decide +kernel) rfl), (ws_at 363 (by decide +kernel) rfl), (ws_at 97 (by decide +kernel) rfl), (ws_at 364 (by decide +kernel) rfl)⟩
theorem ml_7_227 : zML RX7 227 yX6_moreIfWashed M_X6_moreIfWashed 1 := ⟨Or.inr ⟨"GluedInLifetime", (nws_at 732 (by decide +kernel) rfl)⟩, (ws_at 88 (by decide +kernel) rfl), (ws_at 735 (by decide +kernel) rfl), ⟨by decide +kernel, by decide +kernel, by decide +kernel⟩⟩
theorem ml_7_230 : zML RX7 230 yX6_gladdestYear M_X6_gladdestYear 1 := ⟨Or.inr ⟨"GluedInLifetime", (nws_at 749 (by decide +kernel) rfl)⟩, (ws_at 88 (by decide +kernel) rfl), (ws_at 707 (by decide +kernel) rfl), ⟨by decide +kernel, by decide +kernel, by decide +kernel⟩⟩
theorem mx_7_233 : zmx RX7 233 := ⟨(ws_at 676 (by decide +kernel) rfl), (ws_at 360 (by decide +kernel) rfl), (ws_at 97 (by decide +kernel) rfl), (ws_at 361 (by decide +kernel) rfl)⟩
theorem ml_7_236 : zML RX7 236 yX7_bothContent M_X7_bothContent 4 := ⟨Or.inl ⟨rfl, (ws_at 754 (by decide +kernel) rfl)⟩, (ws_at 86 (by decide +kernel) rfl), (ws_at 757 (by decide +kernel) rfl), ⟨by decide +kernel, by decide +kernel, by decide +kernel⟩⟩
theorem ml_7_242 : zML RX7 242 yX7_slipRefusal M_X7_slipRefusal 3 := ⟨Or.inl ⟨rfl, (ws_at 763 (by decide +kernel) rfl)⟩, (ws_at 86 (by decide +kernel) rfl), (ws_at 765 (by decide +kernel) rfl), ⟨by decide +kernel, by decide +kernel, by decide +kernel⟩⟩
theorem ml_7_245 : zML RX7 245 yX4_weigh M_X4_weigh 2 := ⟨Or.inr ⟨"GluedInLifetime", (nws_at 766 (by decide +kernel) rfl)⟩, (ws_at 93 (by decide +kernel) rfl), (ws_at 769 (by decide +kernel) rfl), ⟨by decide +kernel, by decide +kernel, by decide +kernel⟩⟩
theorem ml_7_247 : zML RX7 247 yX4_waysInto M_X4_waysInto 3 := ⟨Or.inr ⟨"GluedInLifetime", (nws_at 770 (by decide +kernel) rfl)⟩, (ws_at 93 (by decide +kernel) rfl), (ws_at 773 (by decide +kernel) rfl), ⟨by decide +kernel, by decide +kernel, by decide +kernel⟩⟩
theorem ml_7_251 : zML RX7 251 yX4_allWays M_X4_allWays 0 := ⟨Or.inr ⟨"GluedInLifetime", (nws_at 775 (by decide +kernel) rfl)⟩, (ws_at 93 (by decide +kernel) rfl), (ws_at 778 (by decide +kernel) rfl), ⟨by decide +kernel, by decide +kernel, by decide +kernel⟩⟩
theorem ml_7_255 : zML RX7 255 yX7_partOf M_X7_partOf 3 := ⟨Or.inl ⟨rfl, (ws_at 779 (by decide +kernel) rfl)⟩, (ws_at 86 (by decide +kernel) rfl), (ws_at 781 (by decide +kernel) rfl), ⟨by decide +kernel, by decide +kernel, by decide +kernel⟩⟩
theorem ml_7_259 : zML RX7 259 yX4_gladOfAll M_X4_gladOfAll 2 := ⟨Or.inr ⟨"GluedInLifetime", (nws_at 789 (by decide +kernel) rfl)⟩, (ws_at 93 (by decide +kernel) rfl), (ws_at 792 (by decide +kernel) rfl), ⟨by decide +kernel, by decide +kernel, by decide +kernel⟩⟩
theorem ml_7_263 : zML RX7 263 yX6_copyFrom M_X6_copyFrom 1 := ⟨Or.inr ⟨"GluedInLifetime", (nws_at 798 (by decide +kernel) rfl)⟩, (ws_at 88 (by decide +kernel) rfl), (ws_at 436 (by decide +kernel) rfl), ⟨by decide +kernel, by decide +kernel, by decide +kernel⟩⟩
theorem ml_7_265 : zML RX7 265 yX2_tellsYearsOf M_X2_tellsYearsOf 2 := ⟨Or.inr ⟨"GluedInLifetime", (nws_at 799 (by decide +kernel) rfl)⟩, (ws_at 90 (by decide +kernel) rfl), (ws_at 802 (by decide +kernel) rfl), ⟨by decide +kernel, by decide +kernel, by decide +kernel⟩⟩
theorem ml_7_269 : zML RX7 269 yX2_isFull M_X2_isFull 0 := ⟨Or.inr ⟨"GluedInLifetime", (nws_at 812 (by decide +kernel) rfl)⟩, (ws_at 90 (by decide +kernel) rfl), (ws_at 815 (by decide +kernel) rfl), ⟨by decide +kernel, by decide +kernel, by decide +kernel⟩⟩
theorem ml_7_270 : zML RX7 270 yX2_put M_X2_put 1 := ⟨Or.inr ⟨"GluedInLifetime", (nws_at 816 (by decide +kernel) rfl)⟩, (ws_at 90 (by decide +kernel) rfl), (ws_at 819 (by decide +kernel) rfl), ⟨by decide +kernel, by decide +kernel, by decide +kernel⟩⟩
theorem ml_7_272 : zML RX7 272 yX2_firstNotGladOf M_X2_firstNotGladOf 1 := ⟨Or.inr ⟨"GluedInLifetime", (nws_at 825 (by decide +kernel) rfl)⟩, (ws_at 90 (by decide +kernel) rfl), (ws_at 828 (by decide +kernel) rfl), ⟨by decide +kernel, by decide +kernel, by decide +kernel⟩⟩
theorem ml_7_279 : zML RX7 279 yX7_glueByLot M_X7_glueByLot 0 := ⟨Or.inl ⟨rfl, (ws_at 839 (by decide +kernel) rfl)⟩, (ws_at 86 (by decide +kernel) rfl), (ws_at 842 (by decide +kernel) rfl), ⟨by decide +kernel, by decide +kernel, by decide +kernel⟩⟩
theorem ml_7_286 : zML RX7 286 yX3_setBits M_X3_setBits 0 := ⟨Or.inr ⟨"GluedInLifetime", (nws_at 862 (by decide +kernel) rfl)⟩, (ws_at 87 (by decide +kernel) rfl), (ws_at 647 (by decide +kernel) rfl), ⟨by decide +kernel, by decide +kernel, by decide +kernel⟩⟩
theorem ml_7_289 : zML RX7 289 yX3_countHalves M_X3_countHalves 0 := ⟨Or.inr ⟨"GluedInLifetime", (nws_at 863 (by decide +kernel) rfl)⟩, (ws_at 87 (by decide +kernel) rfl), (ws_at 866 (by decide +kernel) rfl), ⟨by decide +kernel, by decide +kernel, by decide +kernel⟩⟩
theorem ml_7_292 : zML RX7 292 yX7_tellStatement M_X7_tellStatement 1 := ⟨Or.inl ⟨rfl, (ws_at 440 (by decide +kernel) rfl)⟩, (ws_at 86 (by decide +kernel) rfl), (ws_at 443 (by decide +kernel) rfl), ⟨by decide +kernel, by decide +kernel, by decide +kernel⟩⟩
theorem ml_7_295 : zML RX7 295 yX5_behindStatement M_X5_behindStatement 1 := ⟨Or.inr ⟨"GluedInLifetime", (nws_at 518 (by decide +kernel) rfl)⟩, (ws_at 89 (by decide +kernel) rfl), (ws_at 424 (by decide +kernel) rfl), ⟨by decide +kernel, by decide +kernel, by decide +kernel⟩⟩
theorem ml_7_298 : zML RX7 298 yX5_number M_X5_number 2 := ⟨Or.inr ⟨"GluedInLifetime", (nws_at 444 (by decide +kernel) rfl)⟩, (ws_at 89 (by decide +kernel) rfl), (ws_at 447 (by decide +kernel) rfl), ⟨by decide +kernel, by decide +kernel, by decide +kernel⟩⟩
theorem ml_7_301 : zML RX7 301 yX5_letterAt M_X5_letterAt 1 := ⟨Or.inr ⟨"GluedInLifetime", (nws_at 448 (by decide +kernel) rfl)⟩, (ws_at 89 (by decide +kernel) rfl), (ws_at 325 (by decide +kernel) rfl), ⟨by decide +kernel, by decide +kernel, by decide +kernel⟩⟩
theorem ml_7_304 : zML RX7 304 yX5_kindAt M_X5_kindAt 1 := ⟨Or.inr ⟨"GluedInLifetime", (nws_at 449 (by decide +kernel) rfl)⟩, (ws_at 89 (by decide +kernel) rfl), (ws_at 329 (by decide +kernel) rfl), ⟨by decide +kernel, by decide +kernel, by decide +kernel⟩⟩
theorem ml_7_307 : zML RX7 307 yX3_add M_X3_add 2 := ⟨Or.inr ⟨"GluedInLifetime", (nws_at 450 (by decide +kernel) rfl)⟩, (ws_at 87 (by decide +kernel) rfl), (ws_at 453 (by decide +kernel) rfl), ⟨by decide +kernel, by decide +kernel, by decide +kernel⟩⟩
theorem ml_7_310 : zML RX7 310 yX3_makeGlad M_X3_makeGlad 4 := ⟨Or.inr ⟨"GluedInLifetime", (nws_at 462 (by decide +kernel) rfl)⟩, (ws_at 87 (by decide +kernel) rfl), (ws_at 465 (by decide +kernel) rfl), ⟨by decide +kernel, by decide +kernel, by decide +kernel⟩⟩
theorem ml_7_313 : zML RX7 313 yX3_moveTo M_X3_moveTo 1 := ⟨Or.inr ⟨"GluedInLifetime", (nws_at 477 (by decide +kernel) rfl)⟩, (ws_at 87 (by decide +kernel) rfl), (ws_at 480 (by decide +kernel) rfl), ⟨by decide +kernel, by decide +kernel, by decide +kernel⟩⟩
theorem ml_7_316 : zML RX7 316 yX7_draw M_X7_draw 1 := ⟨Or.inl ⟨rfl, (ws_at 843 (by decide +kernel) rfl)⟩, (ws_at 86 (by decide +kernel) rfl), (ws_at 846 (by decide +kernel) rfl), ⟨by decide +kernel, by decide +kernel, by decide +kernel⟩⟩
theorem ml_7_322 : zML RX7 322 yX7_commonDivisor M_X7_commonDivisor 2 := ⟨Or.inl ⟨rfl, (ws_at 782 (by decide +kernel) rfl)⟩, (ws_at 86 (by decide +kernel) rfl), (ws_at 784 (by decide +kernel) rfl), ⟨by decide +kernel, by decide +kernel, by decide +kernel⟩⟩
theorem ml_7_71 : zML RX7 71 yX7_refuse M_X7_refuse 1 := ⟨Or.inl ⟨rfl, (ws_at 293 (by decide +kernel) rfl)⟩, (ws_at 86 (by decide +kernel) rfl), (ws_at 296 (by decide +kernel) rfl), ⟨by decide +kernel, by decide +kernel, by decide +kernel⟩⟩
theorem ml_7_75 : zML RX7 75 yX5_isFull M_X5_isFull 0 := ⟨Or.inr ⟨"GluedInLifetime", (nws_at 297 (by decide +kernel) rfl)⟩, (ws_at 89 (by decide +kernel) rfl), (ws_at 300 (by decide +kernel) rfl), ⟨by decide +kernel, by decide +kernel, by decide +kernel⟩⟩
theorem ml_7_79 : zML RX7 79 yX5_put M_X5_put 1 := ⟨Or.inr ⟨"GluedInLifetime", (nws_at 301 (by decide +kernel) rfl)⟩, (ws_at 89 (by decide +kernel) rfl), (ws_at 304 (by decide +kernel) rfl), ⟨by decide +kernel, by decide +kernel, by decide +kernel⟩⟩
theorem ml_7_87 : zML RX7 87 yX5_firstMisfit M_X5_firstMisfit 0 := ⟨Or.inr ⟨"GluedInLifetime", (nws_at 310 (by decide +kernel) rfl)⟩, (ws_at 89 (by decide +kernel) rfl), (ws_at 313 (by decide +kernel) rfl), ⟨by decide +kernel, by decide +kernel, by decide +kernel⟩⟩
theorem ml_7_91 : zML RX7 91 yX7_tellTrial M_X7_tellTrial 0 := ⟨Or.inl ⟨rfl, (ws_at 425 (by decide +kernel) rfl)⟩, (ws_at 86 (by decide +kernel) rfl), (ws_at 428 (by decide +kernel) rfl), ⟨by decide +kernel, by decide +kernel, by decide +kernel⟩⟩
theorem ml_7_94 : zML RX7 94 yX3_copyFrom M_X3_copyFrom 1 := ⟨Or.inr ⟨"GluedInLifetime", (nws_at 429 (by decide +kernel) rfl)⟩, (ws_at 87 (by decide +kernel) rfl), (ws_at 432 (by decide +kernel) rfl), ⟨by decide +kernel, by decide +kernel, by decide +kernel⟩⟩
theorem ml_7_98 : zML RX7 98 yX3_lacks M_X3_lacks 1 := ⟨Or.inr ⟨"GluedInLifetime", (nws_at 524 (by decide +kernel) rfl)⟩, (ws_at 87 (by decide +kernel) rfl), (ws_at 469 (by decide +kernel) rfl), ⟨by decide +kernel, by decide +kernel, by decide +kernel⟩⟩
theorem ml_8_101 : zML RX8 101 yX8_isThing M_X8_isThing 1 := ⟨Or.inl ⟨rfl, (ws_at 966 (by decide +kernel) rfl)⟩, (ws_at 94 (by decide +kernel) rfl), (ws_at 969 (by decide +kernel) rfl), ⟨by decide +kernel, by decide +kernel, by decide +kernel⟩⟩
theorem ml_8_105 : zML RX8 105 yX8_isYear M_X8_isYear 1 := ⟨Or.inl ⟨rfl, (ws_at 970 (by decide +kernel) rfl)⟩, (ws_at 94 (by decide +kernel) rfl), (ws_at 972 (by decide +kernel) rfl), ⟨by decide +kernel, by decide +kernel, by decide +kernel⟩⟩
theorem ml_8_108 : zML RX8 108 yX8_turnsHalves M_X8_turnsHalves 2 := ⟨Or.inl ⟨rfl, (ws_at 973 (by decide +kernel) rfl)⟩, (ws_at 94 (by decide +kernel) rfl), (ws_at 976 (by decide +kernel) rfl), ⟨by decide +kernel, by decide +kernel, by decide +kernel⟩⟩
theorem ml_8_112 : zML RX8 112 yX8_canGlue M_X8_canGlue 1 := ⟨Or.inl ⟨rfl, (ws_at 977 (by decide +kernel) rfl)⟩, (ws_at 94 (by decide +kernel) rfl), (ws_at 980 (by decide +kernel) rfl), ⟨by decide +kernel, by decide +kernel, by decide +kernel⟩⟩
theorem ml_8_115 : zML RX8 115 yX8_gluesTo M_X8_gluesTo 3 := ⟨Or.inl ⟨rfl, (ws_at 984 (by decide +kernel) rfl)⟩, (ws_at 94 (by decide +kernel) rfl), (ws_at 987 (by decide +kernel) rfl), ⟨by decide +kernel, by decide +kernel, by decide +kernel⟩⟩
theorem ml_8_119 : zML RX8 119 yX8_readsStatement M_X8_readsStatement 0 := ⟨Or.inl ⟨rfl, (ws_at 934 (by decide +kernel) rfl)⟩, (ws_at 94 (by decide +kernel) rfl), (ws_at 937 (by decide +kernel) rfl), ⟨by decide +kernel, by decide +kernel, by decide +kernel⟩⟩
theorem ml_8_122 : zML RX8 122 yX8_lays M_X8_lays 2 := ⟨Or.inl ⟨rfl, (ws_at 956 (by decide +kernel) rfl)⟩, (ws_at 94 (by decide +kernel) rfl), (ws_at 958 (by decide +kernel) rfl), ⟨by decide +kernel, by decide +kernel, by decide +kernel⟩⟩
theorem ml_8_126 : zML RX8 126 yX8_isDone M_X8_isDone 1 := ⟨Or.inl ⟨rfl, (ws_at 959 (by decide +kernel) rfl)⟩, (ws_at 94 (by decide +kernel) rfl), (ws_at 962 (by decide +kernel) rfl), ⟨by decide +kernel, by decide +kernel, by decide +kernel⟩⟩
theorem ml_8_129 : zML RX8 129 yX8_areTwo M_X8_areTwo 2 := ⟨Or.inl ⟨rfl, (ws_at 1018 (by decide +kernel) rfl)⟩, (ws_at 94 (by decide +kernel) rfl), (ws_at 1021 (by decide +kernel) rfl), ⟨by decide +kernel, by decide +kernel, by decide +kernel⟩⟩
theorem ml_8_132 : zML RX8 132 yX8_wrongGlue M_X8_wrongGlue 3 := ⟨Or.inl ⟨rfl, (ws_at 1050 (by decide +kernel) rfl)⟩, (ws_at 94 (by decide +kernel) rfl), (ws_at 1053 (by decide +kernel) rfl), ⟨by decide +kernel, by decide +kernel, by decide +kernel⟩⟩
theorem ml_8_135 : zML RX8 135 yX8_canOf M_X8_canOf 2 := ⟨Or.inl ⟨rfl, (ws_at 1066 (by decide +kernel) rfl)⟩, (ws_at 94 (by decide +kernel) rfl), (ws_at 1068 (by decide +kernel) rfl), ⟨by decide +kernel, by decide +kernel, by decide +kernel⟩⟩
theorem ml_8_138 : zML RX8 138 yX8_fewestOf M_X8_fewestOf 3 := ⟨Or.inl ⟨rfl, (ws_at 1073 (by decide +kernel) rfl)⟩, (ws_at 94 (by decide +kernel) rfl), (ws_at 1075 (by decide +kernel) rfl), ⟨by decide +kernel, by decide +kernel, by decide +kernel⟩⟩
theorem ml_8_141 : zML RX8 141 yX8_gladAll M_X8_gladAll 1 := ⟨Or.inl ⟨rfl, (ws_at 1080 (by decide +kernel) rfl)⟩, (ws_at 94 (by decide +kernel) rfl), (ws_at 1082 (by decide +kernel) rfl), ⟨by decide +kernel, by decide +kernel, by decide +kernel⟩⟩
theorem ml_8_145 : zML RX8 145 yX8_doAgree M_X8_doAgree 3 := ⟨Or.inl ⟨rfl, (ws_at 1091 (by decide +kernel) rfl)⟩, (ws_at 94 (by decide +kernel) rfl), (ws_at 1094 (by decide +kernel) rfl), ⟨by decide +kernel, by decide +kernel, by decide +kernel⟩⟩
theorem ml_8_149 : zML RX8 149 yX8_agreeMany M_X8_agreeMany 1 := ⟨Or.inl ⟨rfl, (ws_at 1087 (by decide +kernel) rfl)⟩, (ws_at 94 (by decide +kernel) rfl), (ws_at 1090 (by decide +kernel) rfl), ⟨by decide +kernel, by decide +kernel, by decide +kernel⟩⟩
theorem ml_8_155 : zML RX8 155 yX8_mostBy M_X8_mostBy 2 := ⟨Or.inl ⟨rfl, (ws_at 1099 (by decide +kernel) rfl)⟩, (ws_at 94 (by decide +kernel) rfl), (ws_at 1102 (by decide +kernel) rfl), ⟨by decide +kernel, by decide +kernel, by decide +kernel⟩⟩
theorem ml_8_158 : zML RX8 158 yX8_gladdest M_X8_gladdest 1 := ⟨Or.inl ⟨rfl, (ws_at 1120 (by decide +kernel) rfl)⟩, (ws_at 94 (by decide +kernel) rfl), (ws_at 1123 (by decide +kernel) rfl), ⟨by decide +kernel, by decide +kernel, by decide +kernel⟩⟩
theorem ml_8_161 : zML RX8 161 yX8_least M_X8_least 2 := ⟨Or.inl ⟨rfl, (ws_at 1128 (by decide +kernel) rfl)⟩, (ws_at 94 (by decide +kernel) rfl), (ws_at 1130 (by decide +kernel) rfl), ⟨by decide +kernel, by decide +kernel, by decide +kernel⟩⟩
theorem ml_8_164 : zML RX8 164 yX8_noFar M_X8_noFar 1 := ⟨Or.inl ⟨rfl, (ws_at 1139 (by decide +kernel) rfl)⟩, (ws_at 94 (by decide +kernel) rfl), (ws_at 1142 (by decide +kernel) rfl), ⟨by decide +kernel, by decide +kernel, by decide +kernel⟩⟩
theorem ml_8_167 : zML RX8 167 yX8_waterOf M_X8_waterOf 1 := ⟨Or.inl ⟨rfl, (ws_at 1143 (by decide +kernel) rfl)⟩, (ws_at 94 (by decide +kernel) rfl), (ws_at 1146 (by decide +kernel) rfl), ⟨by decide +kernel, by decide +kernel, by decide +kernel⟩⟩
theorem ml_8_170 : zML RX8 170 yX8_gcd M_X8_gcd 2 := ⟨Or.inl ⟨rfl, (ws_at 1185 (by decide +kernel) rfl)⟩, (ws_at 94 (by decide +kernel) rfl), (ws_at 1187 (by decide +kernel) rfl), ⟨by decide +kernel, by decide +kernel, by decide +kernel⟩⟩
theorem ml_8_174 : zML RX8 174 yX8_bits M_X8_bits 1 := ⟨Or.inl ⟨rfl, (ws_at 1176 (by decide +kernel) rfl)⟩, (ws_at 94 (by decide +kernel) rfl), (ws_at 1178 (by decide +kernel) rfl), ⟨by decide +kernel, by decide +kernel, by decide +kernel⟩⟩
theorem ml_8_177 : zML RX8 177 yX8_noWide M_X8_noWide 1 := ⟨Or.inl ⟨rfl, (ws_at 1167 (by decide +kernel) rfl)⟩, (ws_at 94 (by decide +kernel) rfl), (ws_at 1170 (by decide +kernel) rfl), ⟨by decide +kernel, by decide +kernel, by decide +kernel⟩⟩
theorem ml_8_181 : zML RX8 181 yX8_slips M_X8_slips 4 := ⟨Or.inl ⟨rfl, (ws_at 1172 (by decide +kernel) rfl)⟩, (ws_at 94 (by decide +kernel) rfl), (ws_at 1175 (by decide +kernel) rfl), ⟨by decide +kernel, by decide +kernel, by decide +kernel⟩⟩
theorem ml_8_185 : zML RX8 185 yX8_power M_X8_power 2 := ⟨Or.inl ⟨rfl, (ws_at 1179 (by decide +kernel) rfl)⟩, (ws_at 94 (by decide +kernel) rfl), (ws_at 1181 (by decide +kernel) rfl), ⟨by decide +kernel, by decide +kernel, by decide +kernel⟩⟩
theorem ml_8_189 : zML RX8 189 yX8_partOf M_X8_partOf 3 := ⟨Or.inl ⟨rfl, (ws_at 1182 (by decide +kernel) rfl)⟩, (ws_at 94 (by decide +kernel) rfl), (ws_at 1184 (by decide +kernel) rfl), ⟨by decide +kernel, by decide +kernel, by decide +kernel⟩⟩
theorem ml_8_202 : zML RX8 202 yX8_drawn M_X8_drawn 1 := ⟨Or.inl ⟨rfl, (ws_at 1216 (by decide +kernel) rfl)⟩, (ws_at 94 (by decide +kernel) rfl), (ws_at 1219 (by decide +kernel) rfl), ⟨by decide +kernel, by decide +kernel, by decide +kernel⟩⟩
theorem ml_8_41 : zML RX8 41 yX8_no M_X8_no 1 := ⟨Or.inl ⟨rfl, (ws_at 926 (by decide +kernel) rfl)⟩, (ws_at 94 (by decide +kernel) rfl), (ws_at 929 (by decide +kernel) rfl), ⟨by decide +kernel, by decide +kernel, by decide +kernel⟩⟩
theorem ml_8_47 : zML RX8 47 yX8_isIn M_X8_isIn 3 := ⟨Or.inl ⟨rfl, (ws_at 953 (by decide +kernel) rfl)⟩, (ws_at 94 (by decide +kernel) rfl), (ws_at 955 (by decide +kernel) rfl), ⟨by decide +kernel, by decide +kernel, by decide +kernel⟩⟩
theorem ml_8_51 : zML RX8 51 yX8_most M_X8_most 2 := ⟨Or.inl ⟨rfl, (ws_at 994 (by decide +kernel) rfl)⟩, (ws_at 94 (by decide +kernel) rfl), (ws_at 996 (by decide +kernel) rfl), ⟨by decide +kernel, by decide +kernel, by decide +kernel⟩⟩
theorem ml_8_55 : zML RX8 55 yX8_at M_X8_at 2 := ⟨Or.inl ⟨rfl, (ws_at 963 (by decide +kernel) rfl)⟩, (ws_at 94 (by decide +kernel) rfl), (ws_at 965 (by decide +kernel) rfl), ⟨by decide +kernel, by decide +kernel, by decide +kernel⟩⟩
theorem ml_8_58 : zML RX8 58 yX8_counts M_X8_counts 3 := ⟨Or.inl ⟨rfl, (ws_at 1000 (by decide +kernel) rfl)⟩, (ws_at 94 (by decide +kernel) rfl), (ws_at 1002 (by decide +kernel) rfl), ⟨by decide +kernel, by decide +kernel, by decide +kernel⟩⟩
theorem ml_8_62 : zML RX8 62 yX8_reach M_X8_reach 4 := ⟨Or.inl ⟨rfl, (ws_at 991 (by decide +kernel) rfl)⟩, (ws_at 94 (by decide +kernel) rfl), (ws_at 993 (by decide +kernel) rfl), ⟨by decide +kernel, by decide +kernel, by decide +kernel⟩⟩
theorem ml_8_66 : zML RX8 66 yX8_yearBy M_X8_yearBy 3 := ⟨Or.inl ⟨rfl, (ws_at 997 (by decide +kernel) rfl)⟩, (ws_at 94 (by decide +kernel) rfl), (ws_at 999 (by decide +kernel) rfl), ⟨by decide +kernel, by decide +kernel, by decide +kernel⟩⟩
theorem ml_8_69 : zML RX8 69 yX8_gladOf M_X8_gladOf 2 := ⟨Or.inl ⟨rfl, (ws_at 1007 (by decide +kernel) rfl)⟩, (ws_at 94 (by decide +kernel) rfl), (ws_at 1009 (by decide +kernel) rfl), ⟨by decide +kernel, by decide +kernel, by decide +kernel⟩⟩
theorem ml_8_73 : zML RX8 73 yX8_yearOf M_X8_yearOf 4 := ⟨Or.inl ⟨rfl, (ws_at 988 (by decide +kernel) rfl)⟩, (ws_at 94 (by decide +kernel) rfl), (ws_at 990 (by decide +kernel) rfl), ⟨by decide +kernel, by decide +kernel, by decide +kernel⟩⟩
theorem ml_8_83 : zML RX8 83 yX8_here M_X8_here 0 := ⟨Or.inl ⟨rfl, (ws_at 938 (by decide +kernel) rfl)⟩, (ws_at 94 (by decide +kernel) rfl), (ws_at 941 (by decide +kernel) rfl), ⟨by decide +kernel, by decide +kernel, by decide +kernel⟩⟩
theorem ml_8_87 : zML RX8 87 yX8_kindBy M_X8_kindBy 1 := ⟨Or.inl ⟨rfl, (ws_at 946 (by decide +kernel) rfl)⟩, (ws_at 94 (by decide +kernel) rfl), (ws_at 948 (by decide +kernel) rfl), ⟨by decide +kernel, by decide +kernel, by decide +kernel⟩⟩
theorem ml_8_90 : zML RX8 90 yX8_readsKind M_X8_readsKind 0 := ⟨Or.inl ⟨rfl, (ws_at 942 (by decide +kernel) rfl)⟩, (ws_at 94 (by decide +kernel) rfl), (ws_at 945 (by decide +kernel) rfl), ⟨by decide +kernel, by decide +kernel, by decide +kernel⟩⟩
theorem ml_8_94 : zML RX8 94 yX8_readsNumber M_X8_readsNumber 2 := ⟨Or.inl ⟨rfl, (ws_at 949 (by decide +kernel) rfl)⟩, (ws_at 94 (by decide +kernel) rfl), (ws_at 952 (by decide +kernel) rfl), ⟨by decide +kernel, by decide +kernel, by decide +kernel⟩⟩
theorem ml_8_98 : zML RX8 98 yX8_cost M_X8_cost 2 := ⟨Or.inl ⟨rfl, (ws_at 981 (by decide +kernel) rfl)⟩, (ws_at 94 (by decide +kernel) rfl), (ws_at 983 (by decide +kernel) rfl), ⟨by decide +kernel, by decide +kernel, by decide +kernel⟩⟩
theorem mv_X3_at : zMV yX3_at := ⟨(ws_at 456 (by decide +kernel) rfl), (ws_at 16 (by decide +kernel) rfl)⟩
theorem mv_X6_isSet : zMV yX6_isSet := ⟨(ws_at 495 (by decide +kernel) rfl), (ws_at 25 (by decide +kernel) rfl)⟩
theorem mv_X6_gladIn : zMV yX6_gladIn := ⟨(ws_at 516 (by decide +kernel) rfl), (ws_at 30 (by decide +kernel) rfl)⟩
theorem mv_X6_gladdestYear : zMV yX6_gladdestYear := ⟨(ws_at 706 (by decide +kernel) rfl), (ws_at 48 (by decide +kernel) rfl)⟩
theorem mv_X6_reach : zMV yX6_reach := ⟨(ws_at 507 (by decide +kernel) rfl), (ws_at 28 (by decide +kernel) rfl)⟩
theorem mv_X6_counts : zMV yX6_counts := ⟨(ws_at 512 (by decide +kernel) rfl), (ws_at 29 (by decide +kernel) rfl)⟩
theorem mv_X6_yearBy : zMV yX6_yearBy := ⟨(ws_at 503 (by decide +kernel) rfl), (ws_at 27 (by decide +kernel) rfl)⟩
theorem mv_X6_fewestFor : zMV yX6_fewestFor := ⟨(ws_at 604 (by decide +kernel) rfl), (ws_at 34 (by decide +kernel) rfl)⟩
theorem mv_X0_begin : zMV yX0_begin := ⟨(ws_at 711 (by decide +kernel) rfl), (ws_at 49 (by decide +kernel) rfl)⟩
theorem mv_X0_arrange : zMV yX0_arrange := ⟨(ws_at 700 (by decide +kernel) rfl), (ws_at 47 (by decide +kernel) rfl)⟩
theorem mv_X0_beginOf : zMV yX0_beginOf := ⟨(ws_at 716 (by decide +kernel) rfl), (ws_at 50 (by decide +kernel) rfl)⟩
theorem mv_X3_setBits : zMV yX3_setBits := ⟨(ws_at 646 (by decide +kernel) rfl), (ws_at 40 (by decide +kernel) rfl)⟩
theorem mv_X6_howGlad : zMV yX6_howGlad := ⟨(ws_at 528 (by decide +kernel) rfl), (ws_at 31 (by decide +kernel) rfl)⟩
theorem mv_X3_gladTogether : zMV yX3_gladTogether := ⟨(ws_at 613 (by decide +kernel) rfl), (ws_at 35 (by decide +kernel) rfl)⟩
theorem mv_X6_gladdestBy : zMV yX6_gladdestBy := ⟨(ws_at 652 (by decide +kernel) rfl), (ws_at 41 (by decide +kernel) rfl)⟩
theorem mv_X6_cost : zMV yX6_cost := ⟨(ws_at 499 (by decide +kernel) rfl), (ws_at 26 (by decide +kernel) rfl)⟩
theorem mv_X1_weigh : zMV yX1_weigh := ⟨(ws_at 642 (by decide +kernel) rfl), (ws_at 39 (by decide +kernel) rfl)⟩
theorem ms_X1_sumOver : Cond.static yX1_sumOver ∈ WS := (ws_at 665 (by decide +kernel) rfl)
theorem mv_X1_gainOf : zMV yX1_gainOf := ⟨(ws_at 662 (by decide +kernel) rfl), (ws_at 43 (by decide +kernel) rfl)⟩
theorem mv_X1_bestBits : zMV yX1_bestBits := ⟨(ws_at 658 (by decide +kernel) rfl), (ws_at 42 (by decide +kernel) rfl)⟩
theorem mv_X1_fewestFor : zMV yX1_fewestFor := ⟨(ws_at 683 (by decide +kernel) rfl), (ws_at 45 (by decide +kernel) rfl)⟩
theorem mv_X2_isFull : zMV yX2_isFull := ⟨(ws_at 814 (by decide +kernel) rfl), (ws_at 58 (by decide +kernel) rfl)⟩
theorem mv_X2_put : zMV yX2_put := ⟨(ws_at 818 (by decide +kernel) rfl), (ws_at 59 (by decide +kernel) rfl)⟩
theorem mv_X2_tellsYearsOf : zMV yX2_tellsYearsOf := ⟨(ws_at 801 (by decide +kernel) rfl), (ws_at 57 (by decide +kernel) rfl)⟩
theorem ms_X7_noYear : Cond.static yX7_noYear ∈ WS := (ws_at 471 (by decide +kernel) rfl)
theorem mv_X2_firstNotGladOf : zMV yX2_firstNotGladOf := ⟨(ws_at 827 (by decide +kernel) rfl), (ws_at 60 (by decide +kernel) rfl)⟩
theorem mv_X6_copyFrom : zMV yX6_copyFrom := ⟨(ws_at 435 (by decide +kernel) rfl), (ws_at 12 (by decide +kernel) rfl)⟩
theorem mv_X3_copyFrom : zMV yX3_copyFrom := ⟨(ws_at 431 (by decide +kernel) rfl), (ws_at 11 (by decide +kernel) rfl)⟩
theorem mv_X3_lacks : zMV yX3_lacks := ⟨(ws_at 468 (by decide +kernel) rfl), (ws_at 19 (by decide +kernel) rfl)⟩
theorem mv_X3_lacksTwo : zMV yX3_lacksTwo := ⟨(ws_at 487 (by decide +kernel) rfl), (ws_at 23 (by decide +kernel) rfl)⟩
theorem mv_X6_begin : zMV yX6_begin := ⟨(ws_at 460 (by decide +kernel) rfl), (ws_at 17 (by decide +kernel) rfl)⟩
theorem mv_X3_add : zMV yX3_add := ⟨(ws_at 452 (by decide +kernel) rfl), (ws_at 15 (by decide +kernel) rfl)⟩
theorem mv_X6_makeGlad : zMV yX6_makeGlad := ⟨(ws_at 475 (by decide +kernel) rfl), (ws_at 20 (by decide +kernel) rfl)⟩
theorem mv_X3_makeGlad : zMV yX3_makeGlad := ⟨(ws_at 464 (by decide +kernel) rfl), (ws_at 18 (by decide +kernel) rfl)⟩
theorem mv_X3_moveTo : zMV yX3_moveTo := ⟨(ws_at 479 (by decide +kernel) rfl), (ws_at 21 (by decide +kernel) rfl)⟩
theorem mv_X3_areHalves : zMV yX3_areHalves := ⟨(ws_at 545 (by decide +kernel) rfl), (ws_at 32 (by decide +kernel) rfl)⟩
theorem mv_X3_turnHalves : zMV yX3_turnHalves := ⟨(ws_at 483 (by decide +kernel) rfl), (ws_at 22 (by decide +kernel) rfl)⟩
theorem mv_X3_glue : zMV yX3_glue := ⟨(ws_at 491 (by decide +kernel) rfl), (ws_at 24 (by decide +kernel) rfl)⟩
theorem mv_X3_countHalves : zMV yX3_countHalves := ⟨(ws_at 865 (by decide +kernel) rfl), (ws_at 63 (by decide +kernel) rfl)⟩
theorem mv_X3_setInOneYear : zMV yX3_setInOneYear := ⟨(ws_at 630 (by decide +kernel) rfl), (ws_at 37 (by decide +kernel) rfl)⟩
theorem mv_X3_countAgreeing : zMV yX3_countAgreeing := ⟨(ws_at 625 (by decide +kernel) rfl), (ws_at 36 (by decide +kernel) rfl)⟩
theorem mv_X3_firstApart : zMV yX3_firstApart := ⟨(ws_at 634 (by decide +kernel) rfl), (ws_at 38 (by decide +kernel) rfl)⟩
theorem mv_X4_weigh : zMV yX4_weigh := ⟨(ws_at 768 (by decide +kernel) rfl), (ws_at 53 (by decide +kernel) rfl)⟩
theorem mv_X4_allWays : zMV yX4_allWays := ⟨(ws_at 777 (by decide +kernel) rfl), (ws_at 55 (by decide +kernel) rfl)⟩
theorem mv_X4_waysInto : zMV yX4_waysInto := ⟨(ws_at 772 (by decide +kernel) rfl), (ws_at 54 (by decide +kernel) rfl)⟩
theorem mv_X4_gladOfAll : zMV yX4_gladOfAll := ⟨(ws_at 791 (by decide +kernel) rfl), (ws_at 56 (by decide +kernel) rfl)⟩
theorem mv_X5_isFull : zMV yX5_isFull := ⟨(ws_at 299 (by decide +kernel) rfl), (ws_at 1 (by decide +kernel) rfl)⟩
theorem mv_X5_put : zMV yX5_put := ⟨(ws_at 303 (by decide +kernel) rfl), (ws_at 2 (by decide +kernel) rfl)⟩
theorem mv_X5_letterAt : zMV yX5_letterAt := ⟨(ws_at 324 (by decide +kernel) rfl), (ws_at 6 (by decide +kernel) rfl)⟩
theorem mv_X5_isDigit : zMV yX5_isDigit := ⟨(ws_at 419 (by decide +kernel) rfl), (ws_at 8 (by decide +kernel) rfl)⟩
theorem mv_X5_kindAt : zMV yX5_kindAt := ⟨(ws_at 328 (by decide +kernel) rfl), (ws_at 7 (by decide +kernel) rfl)⟩
theorem mv_X5_number : zMV yX5_number := ⟨(ws_at 446 (by decide +kernel) rfl), (ws_at 14 (by decide +kernel) rfl)⟩
theorem mv_X5_partsOf : zMV yX5_partsOf := ⟨(ws_at 320 (by decide +kernel) rfl), (ws_at 5 (by decide +kernel) rfl)⟩
theorem mv_X5_behindStatement : zMV yX5_behindStatement := ⟨(ws_at 423 (by decide +kernel) rfl), (ws_at 9 (by decide +kernel) rfl)⟩
theorem mv_X5_misfitOfStatement : zMV yX5_misfitOfStatement := ⟨(ws_at 316 (by decide +kernel) rfl), (ws_at 4 (by decide +kernel) rfl)⟩
theorem mv_X5_firstMisfit : zMV yX5_firstMisfit := ⟨(ws_at 312 (by decide +kernel) rfl), (ws_at 3 (by decide +kernel) rfl)⟩
theorem mv_X6_moreIfWashed : zMV yX6_moreIfWashed := ⟨(ws_at 734 (by decide +kernel) rfl), (ws_at 51 (by decide +kernel) rfl)⟩
theorem mv_X7_refuse : zMV yX7_refuse := ⟨(ws_at 295 (by decide +kernel) rfl), (ws_at 0 (by decide +kernel) rfl)⟩
theorem mv_X7_letter : zMV yX7_letter := ⟨(ws_at 290 (by decide +kernel) rfl), (ws_at 291 (by decide +kernel) rfl)⟩
theorem mv_X7_tellStatement : zMV yX7_tellStatement := ⟨(ws_at 442 (by decide +kernel) rfl), (ws_at 13 (by decide +kernel) rfl)⟩
theorem mv_X7_tellTrial : zMV yX7_tellTrial := ⟨(ws_at 427 (by decide +kernel) rfl), (ws_at 10 (by decide +kernel) rfl)⟩
theorem mv_X7_shop : zMV yX7_shop := ⟨(ws_at 307 (by decide +kernel) rfl), (ws_at 308 (by decide +kernel) rfl)⟩
theorem mv_X7_thing : zMV yX7_thing := ⟨(ws_at 521 (by decide +kernel) rfl), (ws_at 522 (by decide +kernel) rfl)⟩
theorem mv_X7_glad : zMV yX7_glad := ⟨(ws_at 533 (by decide +kernel) rfl), (ws_at 534 (by decide +kernel) rfl)⟩
theorem mv_X7_halves : zMV yX7_halves := ⟨(ws_at 539 (by decide +kernel) rfl), (ws_at 540 (by decide +kernel) rfl)⟩
theorem ms_X7_outside : Cond.static yX7_outside ∈ WS := (ws_at 552 (by decide +kernel) rfl)
theorem mv_X7_turn : zMV yX7_turn := ⟨(ws_at 548 (by decide +kernel) rfl), (ws_at 549 (by decide +kernel) rfl)⟩
theorem mv_X7_makes : zMV yX7_makes := ⟨(ws_at 555 (by decide +kernel) rfl), (ws_at 556 (by decide +kernel) rfl)⟩
theorem mv_X7_pairs : zMV yX7_pairs := ⟨(ws_at 560 (by decide +kernel) rfl), (ws_at 561 (by decide +kernel) rfl)⟩
theorem mv_X7_now : zMV yX7_now := ⟨(ws_at 564 (by decide +kernel) rfl), (ws_at 565 (by decide +kernel) rfl)⟩
theorem mv_X7_hands : zMV yX7_hands := ⟨(ws_at 568 (by decide +kernel) rfl), (ws_at 569 (by decide +kernel) rfl)⟩
theorem mv_X7_pours : zMV yX7_pours := ⟨(ws_at 572 (by decide +kernel) rfl), (ws_at 573 (by decide +kernel) rfl)⟩
theorem mv_X7_heldRefusal : zMV yX7_heldRefusal := ⟨(ws_at 581 (by decide +kernel) rfl), (ws_at 33 (by decide +kernel) rfl)⟩
theorem mv_X7_glues : zMV yX7_glues := ⟨(ws_at 576 (by decide +kernel) rfl), (ws_at 577 (by decide +kernel) rfl)⟩
theorem mv_X7_washes : zMV yX7_washes := ⟨(ws_at 584 (by decide +kernel) rfl), (ws_at 585 (by decide +kernel) rfl)⟩
theorem mv_X7_would : zMV yX7_would := ⟨(ws_at 589 (by decide +kernel) rfl), (ws_at 590 (by decide +kernel) rfl)⟩
theorem mv_X7_can : zMV yX7_can := ⟨(ws_at 595 (by decide +kernel) rfl), (ws_at 596 (by decide +kernel) rfl)⟩
theorem mv_X7_fewest : zMV yX7_fewest := ⟨(ws_at 599 (by decide +kernel) rfl), (ws_at 600 (by decide +kernel) rfl)⟩
theorem mv_X7_gladness : zMV yX7_gladness := ⟨(ws_at 608 (by decide +kernel) rfl), (ws_at 609 (by decide +kernel) rfl)⟩
theorem ms_X7_notOneOfTwo : Cond.static yX7_notOneOfTwo ∈ WS := (ws_at 621 (by decide +kernel) rfl)
theorem mv_X7_agree : zMV yX7_agree := ⟨(ws_at 617 (by decide +kernel) rfl), (ws_at 618 (by decide +kernel) rfl)⟩
theorem mv_X7_most : zMV yX7_most := ⟨(ws_at 637 (by decide +kernel) rfl), (ws_at 638 (by decide +kernel) rfl)⟩
theorem mv_X7_spendSteps : zMV yX7_spendSteps := ⟨(ws_at 674 (by decide +kernel) rfl), (ws_at 44 (by decide +kernel) rfl)⟩
theorem mv_X7_byMinutes : zMV yX7_byMinutes := ⟨(ws_at 669 (by decide +kernel) rfl), (ws_at 670 (by decide +kernel) rfl)⟩
theorem mv_X7_fewDrops : zMV yX7_fewDrops := ⟨(ws_at 678 (by decide +kernel) rfl), (ws_at 679 (by decide +kernel) rfl)⟩
theorem mv_X7_minutesOfBoth : zMV yX7_minutesOfBoth := ⟨(ws_at 692 (by decide +kernel) rfl), (ws_at 46 (by decide +kernel) rfl)⟩
theorem mv_X7_together : zMV yX7_together := ⟨(ws_at 687 (by decide +kernel) rfl), (ws_at 688 (by decide +kernel) rfl)⟩
theorem mv_X7_queue : zMV yX7_queue := ⟨(ws_at 695 (by decide +kernel) rfl), (ws_at 696 (by decide +kernel) rfl)⟩
theorem mv_X7_oneMore : zMV yX7_oneMore := ⟨(ws_at 719 (by decide +kernel) rfl), (ws_at 720 (by decide +kernel) rfl)⟩
theorem mv_X7_bestYear : zMV yX7_bestYear := ⟨(ws_at 724 (by decide +kernel) rfl), (ws_at 725 (by decide +kernel) rfl)⟩
theorem mv_X7_water : zMV yX7_water := ⟨(ws_at 728 (by decide +kernel) rfl), (ws_at 729 (by decide +kernel) rfl)⟩
theorem mv_X7_bestWash : zMV yX7_bestWash := ⟨(ws_at 738 (by decide +kernel) rfl), (ws_at 739 (by decide +kernel) rfl)⟩
theorem mv_X7_sour : zMV yX7_sour := ⟨(ws_at 742 (by decide +kernel) rfl), (ws_at 743 (by decide +kernel) rfl)⟩
theorem mv_X7_regret : zMV yX7_regret := ⟨(ws_at 746 (by decide +kernel) rfl), (ws_at 747 (by decide +kernel) rfl)⟩
theorem mv_X7_bothContent : zMV yX7_bothContent := ⟨(ws_at 756 (by decide +kernel) rfl), (ws_at 52 (by decide +kernel) rfl)⟩
theorem mv_X7_two : zMV yX7_two := ⟨(ws_at 751 (by decide +kernel) rfl), (ws_at 752 (by decide +kernel) rfl)⟩
theorem ms_X7_slipRefusal : Cond.static yX7_slipRefusal ∈ WS := (ws_at 764 (by decide +kernel) rfl)
theorem ms_X7_commonDivisor : Cond.static yX7_commonDivisor ∈ WS := (ws_at 783 (by decide +kernel) rfl)
theorem ms_X7_partOf : Cond.static yX7_partOf ∈ WS := (ws_at 780 (by decide +kernel) rfl)
theorem mv_X7_slip : zMV yX7_slip := ⟨(ws_at 759 (by decide +kernel) rfl), (ws_at 760 (by decide +kernel) rfl)⟩
theorem mv_X7_mean : zMV yX7_mean := ⟨(ws_at 786 (by decide +kernel) rfl), (ws_at 787 (by decide +kernel) rfl)⟩
theorem mv_X7_whatWas : zMV yX7_whatWas := ⟨(ws_at 795 (by decide +kernel) rfl), (ws_at 796 (by decide +kernel) rfl)⟩
theorem mv_X7_mended : zMV yX7_mended := ⟨(ws_at 805 (by decide +kernel) rfl), (ws_at 806 (by decide +kernel) rfl)⟩
theorem mv_X7_row : zMV yX7_row := ⟨(ws_at 809 (by decide +kernel) rfl), (ws_at 810 (by decide +kernel) rfl)⟩
theorem mv_X7_judge : zMV yX7_judge := ⟨(ws_at 822 (by decide +kernel) rfl), (ws_at 823 (by decide +kernel) rfl)⟩
theorem mv_X7_clear : zMV yX7_clear := ⟨(ws_at 832 (by decide +kernel) rfl), (ws_at 833 (by decide +kernel) rfl)⟩
theorem mv_X7_draw : zMV yX7_draw := ⟨(ws_at 845 (by decide +kernel) rfl), (ws_at 62 (by decide +kernel) rfl)⟩
theorem mv_X7_glueByLot : zMV yX7_glueByLot := ⟨(ws_at 841 (by decide +kernel) rfl), (ws_at 61 (by decide +kernel) rfl)⟩
theorem mv_X7_lots : zMV yX7_lots := ⟨(ws_at 836 (by decide +kernel) rfl), (ws_at 837 (by decide +kernel) rfl)⟩
theorem mv_X7_image : zMV yX7_image := ⟨(ws_at 851 (by decide +kernel) rfl), (ws_at 852 (by decide +kernel) rfl)⟩
theorem mv_X7_on : zMV yX7_on := ⟨(ws_at 855 (by decide +kernel) rfl), (ws_at 856 (by decide +kernel) rfl)⟩
theorem mv_X7_count : zMV yX7_count := ⟨(ws_at 859 (by decide +kernel) rfl), (ws_at 860 (by decide +kernel) rfl)⟩
theorem ms_X8_isIn : Cond.static yX8_isIn ∈ WS := (ws_at 954 (by decide +kernel) rfl)
theorem ms_X8_least : Cond.static yX8_least ∈ WS := (ws_at 1129 (by decide +kernel) rfl)
theorem ms_X8_most : Cond.static yX8_most ∈ WS := (ws_at 995 (by decide +kernel) rfl)
theorem ms_X8_lays : Cond.static yX8_lays ∈ WS := (ws_at 957 (by decide +kernel) rfl)
theorem mv_X8_no : zMV yX8_no := ⟨(ws_at 928 (by decide +kernel) rfl), (ws_at 64 (by decide +kernel) rfl)⟩
theorem mv_X8_noFar : zMV yX8_noFar := ⟨(ws_at 1141 (by decide +kernel) rfl), (ws_at 80 (by decide +kernel) rfl)⟩
theorem mv_X8_noWide : zMV yX8_noWide := ⟨(ws_at 1169 (by decide +kernel) rfl), (ws_at 82 (by decide +kernel) rfl)⟩
theorem mv_X8_isThing : zMV yX8_isThing := ⟨(ws_at 968 (by decide +kernel) rfl), (ws_at 70 (by decide +kernel) rfl)⟩
theorem ms_X8_isYear : Cond.static yX8_isYear ∈ WS := (ws_at 971 (by decide +kernel) rfl)
theorem ms_X8_at : Cond.static yX8_at ∈ WS := (ws_at 964 (by decide +kernel) rfl)
theorem ms_X8_bits : Cond.static yX8_bits ∈ WS := (ws_at 1177 (by decide +kernel) rfl)
theorem ms_X8_cost : Cond.static yX8_cost ∈ WS := (ws_at 982 (by decide +kernel) rfl)
theorem ms_X8_reach : Cond.static yX8_reach ∈ WS := (ws_at 992 (by decide +kernel) rfl)
theorem ms_X8_counts : Cond.static yX8_counts ∈ WS := (ws_at 1001 (by decide +kernel) rfl)
theorem ms_X8_yearBy : Cond.static yX8_yearBy ∈ WS := (ws_at 998 (by decide +kernel) rfl)
theorem ms_X8_yearOf : Cond.static yX8_yearOf ∈ WS := (ws_at 989 (by decide +kernel) rfl)
theorem ms_X8_gladOf : Cond.static yX8_gladOf ∈ WS := (ws_at 1008 (by decide +kernel) rfl)
theorem ms_X8_gladAll : Cond.static yX8_gladAll ∈ WS := (ws_at 1081 (by decide +kernel) rfl)
theorem ms_X8_fewestOf : Cond.static yX8_fewestOf ∈ WS := (ws_at 1074 (by decide +kernel) rfl)
theorem mv_X8_letter : zMV yX8_letter := ⟨(ws_at 923 (by decide +kernel) rfl), (ws_at 924 (by decide +kernel) rfl)⟩
theorem mv_X8_here : zMV yX8_here := ⟨(ws_at 940 (by decide +kernel) rfl), (ws_at 66 (by decide +kernel) rfl)⟩
theorem mv_X8_readsNumber : zMV yX8_readsNumber := ⟨(ws_at 951 (by decide +kernel) rfl), (ws_at 68 (by decide +kernel) rfl)⟩
theorem ms_X8_kindBy : Cond.static yX8_kindBy ∈ WS := (ws_at 947 (by decide +kernel) rfl)
theorem mv_X8_readsKind : zMV yX8_readsKind := ⟨(ws_at 944 (by decide +kernel) rfl), (ws_at 67 (by decide +kernel) rfl)⟩
theorem mv_X8_readsStatement : zMV yX8_readsStatement := ⟨(ws_at 936 (by decide +kernel) rfl), (ws_at 65 (by decide +kernel) rfl)⟩
theorem mv_X8_turnsHalves : zMV yX8_turnsHalves := ⟨(ws_at 975 (by decide +kernel) rfl), (ws_at 71 (by decide +kernel) rfl)⟩
theorem mv_X8_canGlue : zMV yX8_canGlue := ⟨(ws_at 979 (by decide +kernel) rfl), (ws_at 72 (by decide +kernel) rfl)⟩
theorem mv_X8_gluesTo : zMV yX8_gluesTo := ⟨(ws_at 986 (by decide +kernel) rfl), (ws_at 73 (by decide +kernel) rfl)⟩
theorem mv_X8_isDone : zMV yX8_isDone := ⟨(ws_at 961 (by decide +kernel) rfl), (ws_at 69 (by decide +kernel) rfl)⟩
theorem mv_X8_shop : zMV yX8_shop := ⟨(ws_at 931 (by decide +kernel) rfl), (ws_at 932 (by decide +kernel) rfl)⟩
theorem mv_X8_thing : zMV yX8_thing := ⟨(ws_at 1004 (by decide +kernel) rfl), (ws_at 1005 (by decide +kernel) rfl)⟩
theorem mv_X8_glad : zMV yX8_glad := ⟨(ws_at 1011 (by decide +kernel) rfl), (ws_at 1012 (by decide +kernel) rfl)⟩
theorem mv_X8_areTwo : zMV yX8_areTwo := ⟨(ws_at 1020 (by decide +kernel) rfl), (ws_at 74 (by decide +kernel) rfl)⟩
theorem mv_X8_halves : zMV yX8_halves := ⟨(ws_at 1015 (by decide +kernel) rfl), (ws_at 1016 (by decide +kernel) rfl)⟩
theorem mv_X8_turn : zMV yX8_turn := ⟨(ws_at 1023 (by decide +kernel) rfl), (ws_at 1024 (by decide +kernel) rfl)⟩
theorem mv_X8_makes : zMV yX8_makes := ⟨(ws_at 1027 (by decide +kernel) rfl), (ws_at 1028 (by decide +kernel) rfl)⟩
theorem mv_X8_pairs : zMV yX8_pairs := ⟨(ws_at 1031 (by decide +kernel) rfl), (ws_at 1032 (by decide +kernel) rfl)⟩
theorem mv_X8_now : zMV yX8_now := ⟨(ws_at 1035 (by decide +kernel) rfl), (ws_at 1036 (by decide +kernel) rfl)⟩
theorem mv_X8_hands : zMV yX8_hands := ⟨(ws_at 1039 (by decide +kernel) rfl), (ws_at 1040 (by decide +kernel) rfl)⟩
theorem mv_X8_pours : zMV yX8_pours := ⟨(ws_at 1043 (by decide +kernel) rfl), (ws_at 1044 (by decide +kernel) rfl)⟩
theorem mv_X8_wrongGlue : zMV yX8_wrongGlue := ⟨(ws_at 1052 (by decide +kernel) rfl), (ws_at 75 (by decide +kernel) rfl)⟩
theorem mv_X8_glues : zMV yX8_glues := ⟨(ws_at 1047 (by decide +kernel) rfl), (ws_at 1048 (by decide +kernel) rfl)⟩
theorem mv_X8_washes : zMV yX8_washes := ⟨(ws_at 1055 (by decide +kernel) rfl), (ws_at 1056 (by decide +kernel) rfl)⟩
theorem mv_X8_would : zMV yX8_would := ⟨(ws_at 1059 (by decide +kernel) rfl), (ws_at 1060 (by decide +kernel) rfl)⟩
theorem ms_X8_canOf : Cond.static yX8_canOf ∈ WS := (ws_at 1067 (by decide +kernel) rfl)
theorem mv_X8_can : zMV yX8_can := ⟨(ws_at 1063 (by decide +kernel) rfl), (ws_at 1064 (by decide +kernel) rfl)⟩
theorem mv_X8_fewest : zMV yX8_fewest := ⟨(ws_at 1070 (by decide +kernel) rfl), (ws_at 1071 (by decide +kernel) rfl)⟩
theorem mv_X8_gladness : zMV yX8_gladness := ⟨(ws_at 1077 (by decide +kernel) rfl), (ws_at 1078 (by decide +kernel) rfl)⟩
theorem mv_X8_doAgree : zMV yX8_doAgree := ⟨(ws_at 1093 (by decide +kernel) rfl), (ws_at 77 (by decide +kernel) rfl)⟩
theorem mv_X8_agreeMany : zMV yX8_agreeMany := ⟨(ws_at 1089 (by decide +kernel) rfl), (ws_at 76 (by decide +kernel) rfl)⟩
theorem mv_X8_agree : zMV yX8_agree := ⟨(ws_at 1084 (by decide +kernel) rfl), (ws_at 1085 (by decide +kernel) rfl)⟩
theorem mv_X8_mostBy : zMV yX8_mostBy := ⟨(ws_at 1101 (by decide +kernel) rfl), (ws_at 78 (by decide +kernel) rfl)⟩
theorem mv_X8_most_ : zMV yX8_most_ := ⟨(ws_at 1096 (by decide +kernel) rfl), (ws_at 1097 (by decide +kernel) rfl)⟩
theorem mv_X8_byMinutes : zMV yX8_byMinutes := ⟨(ws_at 1104 (by decide +kernel) rfl), (ws_at 1105 (by decide +kernel) rfl)⟩
theorem mv_X8_fewDrops : zMV yX8_fewDrops := ⟨(ws_at 1108 (by decide +kernel) rfl), (ws_at 1109 (by decide +kernel) rfl)⟩
theorem mv_X8_together : zMV yX8_together := ⟨(ws_at 1112 (by decide +kernel) rfl), (ws_at 1113 (by decide +kernel) rfl)⟩
theorem mv_X8_gladdest : zMV yX8_gladdest := ⟨(ws_at 1122 (by decide +kernel) rfl), (ws_at 79 (by decide +kernel) rfl)⟩
theorem mv_X8_queue : zMV yX8_queue := ⟨(ws_at 1117 (by decide +kernel) rfl), (ws_at 1118 (by decide +kernel) rfl)⟩
theorem mv_X8_oneMore : zMV yX8_oneMore := ⟨(ws_at 1125 (by decide +kernel) rfl), (ws_at 1126 (by decide +kernel) rfl)⟩
theorem mv_X8_bestYear : zMV yX8_bestYear := ⟨(ws_at 1132 (by decide +kernel) rfl), (ws_at 1133 (by decide +kernel) rfl)⟩
theorem mv_X8_waterOf : zMV yX8_waterOf := ⟨(ws_at 1145 (by decide +kernel) rfl), (ws_at 81 (by decide +kernel) rfl)⟩
theorem mv_X8_water : zMV yX8_water := ⟨(ws_at 1136 (by decide +kernel) rfl), (ws_at 1137 (by decide +kernel) rfl)⟩
theorem mv_X8_bestWash : zMV yX8_bestWash := ⟨(ws_at 1148 (by decide +kernel) rfl), (ws_at 1149 (by decide +kernel) rfl)⟩
theorem mv_X8_sour : zMV yX8_sour := ⟨(ws_at 1152 (by decide +kernel) rfl), (ws_at 1153 (by decide +kernel) rfl)⟩
theorem mv_X8_regret : zMV yX8_regret := ⟨(ws_at 1156 (by decide +kernel) rfl), (ws_at 1157 (by decide +kernel) rfl)⟩
theorem mv_X8_two : zMV yX8_two := ⟨(ws_at 1160 (by decide +kernel) rfl), (ws_at 1161 (by decide +kernel) rfl)⟩
theorem ms_X8_gcd : Cond.static yX8_gcd ∈ WS := (ws_at 1186 (by decide +kernel) rfl)
theorem ms_X8_partOf : Cond.static yX8_partOf ∈ WS := (ws_at 1183 (by decide +kernel) rfl)
theorem mv_X8_slips : zMV yX8_slips := ⟨(ws_at 1174 (by decide +kernel) rfl), (ws_at 83 (by decide +kernel) rfl)⟩
theorem ms_X8_power : Cond.static yX8_power ∈ WS := (ws_at 1180 (by decide +kernel) rfl)
theorem mv_X8_slip : zMV yX8_slip := ⟨(ws_at 1164 (by decide +kernel) rfl), (ws_at 1165 (by decide +kernel) rfl)⟩
theorem mv_X8_mean : zMV yX8_mean := ⟨(ws_at 1189 (by decide +kernel) rfl), (ws_at 1190 (by decide +kernel) rfl)⟩
theorem mv_X8_whatWas : zMV yX8_whatWas := ⟨(ws_at 1193 (by decide +kernel) rfl), (ws_at 1194 (by decide +kernel) rfl)⟩
theorem mv_X8_mended : zMV yX8_mended := ⟨(ws_at 1197 (by decide +kernel) rfl), (ws_at 1198 (by decide +kernel) rfl)⟩
theorem mv_X8_row : zMV yX8_row := ⟨(ws_at 1201 (by decide +kernel) rfl), (ws_at 1202 (by decide +kernel) rfl)⟩
theorem mv_X8_judge : zMV yX8_judge := ⟨(ws_at 1205 (by decide +kernel) rfl), (ws_at 1206 (by decide +kernel) rfl)⟩
theorem mv_X8_clear : zMV yX8_clear := ⟨(ws_at 1209 (by decide +kernel) rfl), (ws_at 1210 (by decide +kernel) rfl)⟩
theorem mv_X8_drawn : zMV yX8_drawn := ⟨(ws_at 1218 (by decide +kernel) rfl), (ws_at 84 (by decide +kernel) rfl)⟩
theorem mv_X8_lots : zMV yX8_lots := ⟨(ws_at 1213 (by decide +kernel) rfl), (ws_at 1214 (by decide +kernel) rfl)⟩
theorem mv_X8_image : zMV yX8_image := ⟨(ws_at 1224 (by decide +kernel) rfl), (ws_at 1225 (by decide +kernel) rfl)⟩
theorem mv_X8_on : zMV yX8_on := ⟨(ws_at 1228 (by decide +kernel) rfl), (ws_at 1229 (by decide +kernel) rfl)⟩
theorem mv_X8_count : zMV yX8_count := ⟨(ws_at 1232 (by decide +kernel) rfl), (ws_at 1233 (by decide +kernel) rfl)⟩
end
section
-- ===== printed: the decode rows of the methods that are walked =====
theorem dX3_at_0 : decode cX3_at 0 = .ok (.aload_n 0, 1) := by decide +kernel
theorem dX3_at_1 : decode cX3_at 1 = .ok (.getfield 20, 3) := by decide +kernel
theorem dX3_at_4 : decode cX3_at 4 = .ok (.iload_n 1, 1) := by decide +kernel
theorem dX3_at_5 : decode cX3_at 5 = .ok (.bipush 7, 2) := by decide +kernel
theorem dX3_at_7 : decode cX3_at 7 = .ok (.iand, 1) := by decide +kernel
theorem dX3_at_8 : decode cX3_at 8 = .ok (.aaload, 1) := by decide +kernel
theorem dX3_at_9 : decode cX3_at 9 = .ok (.areturn, 1) := by decide +kernel
theorem dX6_isSet_0 : decode cX6_isSet 0 = .ok (.aload_n 0, 1) := by decide +kernel
theorem dX6_isSet_1 : decode cX6_isSet 1 = .ok (.getfield 9, 3) := by decide +kernel
theorem dX6_isSet_4 : decode cX6_isSet 4 = .ok (.bipush (-9), 2) := by decide +kernel
theorem dX6_isSet_6 : decode cX6_isSet 6 = .ok (.if_icmp .eq 7, 3) := by decide +kernel
theorem dX6_isSet_9 : decode cX6_isSet 9 = .ok (.iconst 1, 1) := by decide +kernel
theorem dX6_isSet_10 : decode cX6_isSet 10 = .ok (.goto 4, 3) := by decide +kernel
theorem dX6_isSet_13 : decode cX6_isSet 13 = .ok (.iconst 0, 1) := by decide +kernel
theorem dX6_isSet_14 : decode cX6_isSet 14 = .ok (.ireturn, 1) := by decide +kernel
theorem dX6_gladIn_0 : decode cX6_gladIn 0 = .ok (.iload_n 1, 1) := by decide +kernel
theorem dX6_gladIn_1 : decode cX6_gladIn 1 = .ok (.ifCond .lt 9, 3) := by decide +kernel
theorem dX6_gladIn_4 : decode cX6_gladIn 4 = .ok (.iload_n 1, 1) := by decide +kernel
theorem dX6_gladIn_5 : decode cX6_gladIn 5 = .ok (.bipush 12, 2) := by decide +kernel
theorem dX6_gladIn_7 : decode cX6_gladIn 7 = .ok (.if_icmp .lt 7, 3) := by decide +kernel
theorem dX6_gladIn_10 : decode cX6_gladIn 10 = .ok (.iconst 0, 1) := by decide +kernel
theorem dX6_gladIn_11 : decode cX6_gladIn 11 = .ok (.goto 9, 3) := by decide +kernel
theorem dX6_gladIn_14 : decode cX6_gladIn 14 = .ok (.aload_n 0, 1) := by decide +kernel
theorem dX6_gladIn_15 : decode cX6_gladIn 15 = .ok (.getfield 15, 3) := by decide +kernel
theorem dX6_gladIn_18 : decode cX6_gladIn 18 = .ok (.iload_n 1, 1) := by decide +kernel
theorem dX6_gladIn_19 : decode cX6_gladIn 19 = .ok (.iaload, 1) := by decide +kernel
theorem dX6_gladIn_20 : decode cX6_gladIn 20 = .ok (.ireturn, 1) := by decide +kernel
theorem dX6_gladdestYear_0 : decode cX6_gladdestYear 0 = .ok (.iload_n 1, 1) := by decide +kernel
theorem dX6_gladdestYear_1 : decode cX6_gladdestYear 1 = .ok (.istore_n 2, 1) := by decide +kernel
theorem dX6_gladdestYear_2 : decode cX6_gladdestYear 2 = .ok (.iload_n 1, 1) := by decide +kernel
theorem dX6_gladdestYear_3 : decode cX6_gladdestYear 3 = .ok (.iconst 1, 1) := by decide +kernel
theorem dX6_gladdestYear_4 : decode cX6_gladdestYear 4 = .ok (.isub, 1) := by decide +kernel
theorem dX6_gladdestYear_5 : decode cX6_gladdestYear 5 = .ok (.istore_n 3, 1) := by decide +kernel
theorem dX6_gladdestYear_6 : decode cX6_gladdestYear 6 = .ok (.iload_n 3, 1) := by decide +kernel
theorem dX6_gladdestYear_7 : decode cX6_gladdestYear 7 = .ok (.ifCond .lt 24, 3) := by decide +kernel
theorem dX6_gladdestYear_10 : decode cX6_gladdestYear 10 = .ok (.aload_n 0, 1) := by decide +kernel
theorem dX6_gladdestYear_11 : decode cX6_gladdestYear 11 = .ok (.iload_n 3, 1) := by decide +kernel
theorem dX6_gladdestYear_12 : decode cX6_gladdestYear 12 = .ok (.invokevirtual 35, 3) := by decide +kernel
theorem dX6_gladdestYear_15 : decode cX6_gladdestYear 15 = .ok (.aload_n 0, 1) := by decide +kernel
theorem dX6_gladdestYear_16 : decode cX6_gladdestYear 16 = .ok (.iload_n 2, 1) := by decide +kernel
theorem dX6_gladdestYear_17 : decode cX6_gladdestYear 17 = .ok (.invokevirtual 35, 3) := by decide +kernel
theorem dX6_gladdestYear_20 : decode cX6_gladdestYear 20 = .ok (.if_icmp .le 5, 3) := by decide +kernel
theorem dX6_gladdestYear_23 : decode cX6_gladdestYear 23 = .ok (.iload_n 3, 1) := by decide +kernel
theorem dX6_gladdestYear_24 : decode cX6_gladdestYear 24 = .ok (.istore_n 2, 1) := by decide +kernel
theorem dX6_gladdestYear_25 : decode cX6_gladdestYear 25 = .ok (.iinc 3 (-1), 3) := by decide +kernel
theorem dX6_gladdestYear_28 : decode cX6_gladdestYear 28 = .ok (.goto (-22), 3) := by decide +kernel
theorem dX6_gladdestYear_31 : decode cX6_gladdestYear 31 = .ok (.iload_n 2, 1) := by decide +kernel
theorem dX6_gladdestYear_32 : decode cX6_gladdestYear 32 = .ok (.ireturn, 1) := by decide +kernel
theorem dX6_reach_0 : decode cX6_reach 0 = .ok (.iconst 0, 1) := by decide +kernel
theorem dX6_reach_1 : decode cX6_reach 1 = .ok (.iload_n 1, 1) := by decide +kernel
theorem dX6_reach_2 : decode cX6_reach 2 = .ok (.iconst 5, 1) := by decide +kernel
theorem dX6_reach_3 : decode cX6_reach 3 = .ok (.idiv, 1) := by decide +kernel
theorem dX6_reach_4 : decode cX6_reach 4 = .ok (.iload_n 2, 1) := by decide +kernel
theorem dX6_reach_5 : decode cX6_reach 5 = .ok (.isub, 1) := by decide +kernel
theorem dX6_reach_6 : decode cX6_reach 6 = .ok (.invokestatic 42, 3) := by decide +kernel
theorem dX6_reach_9 : decode cX6_reach 9 = .ok (.istore_n 3, 1) := by decide +kernel
theorem dX6_reach_10 : decode cX6_reach 10 = .ok (.aload_n 0, 1) := by decide +kernel
theorem dX6_reach_11 : decode cX6_reach 11 = .ok (.getfield 19, 3) := by decide +kernel
theorem dX6_reach_14 : decode cX6_reach 14 = .ok (.iconst 2, 1) := by decide +kernel
theorem dX6_reach_15 : decode cX6_reach 15 = .ok (.if_icmp .eq 11, 3) := by decide +kernel
theorem dX6_reach_18 : decode cX6_reach 18 = .ok (.aload_n 0, 1) := by decide +kernel
theorem dX6_reach_19 : decode cX6_reach 19 = .ok (.getfield 19, 3) := by decide +kernel
theorem dX6_reach_22 : decode cX6_reach 22 = .ok (.iconst 5, 1) := by decide +kernel
theorem dX6_reach_23 : decode cX6_reach 23 = .ok (.if_icmp .ne 10, 3) := by decide +kernel
theorem dX6_reach_26 : decode cX6_reach 26 = .ok (.iload_n 3, 1) := by decide +kernel
theorem dX6_reach_27 : decode cX6_reach 27 = .ok (.aload_n 0, 1) := by decide +kernel
theorem dX6_reach_28 : decode cX6_reach 28 = .ok (.getfield 22, 3) := by decide +kernel
theorem dX6_reach_31 : decode cX6_reach 31 = .ok (.iadd, 1) := by decide +kernel
theorem dX6_reach_32 : decode cX6_reach 32 = .ok (.ireturn, 1) := by decide +kernel
theorem dX6_reach_33 : decode cX6_reach 33 = .ok (.aload_n 0, 1) := by decide +kernel
theorem dX6_reach_34 : decode cX6_reach 34 = .ok (.getfield 19, 3) := by decide +kernel
theorem dX6_reach_37 : decode cX6_reach 37 = .ok (.iconst 4, 1) := by decide +kernel
theorem dX6_reach_38 : decode cX6_reach 38 = .ok (.if_icmp .ne 9, 3) := by decide +kernel
theorem dX6_reach_41 : decode cX6_reach 41 = .ok (.iload_n 3, 1) := by decide +kernel
theorem dX6_reach_42 : decode cX6_reach 42 = .ok (.iconst 2, 1) := by decide +kernel
theorem dX6_reach_43 : decode cX6_reach 43 = .ok (.idiv, 1) := by decide +kernel
theorem dX6_reach_44 : decode cX6_reach 44 = .ok (.goto 4, 3) := by decide +kernel
theorem dX6_reach_47 : decode cX6_reach 47 = .ok (.iload_n 3, 1) := by decide +kernel
theorem dX6_reach_48 : decode cX6_reach 48 = .ok (.ireturn, 1) := by decide +kernel
theorem dX6_counts_0 : decode cX6_counts 0 = .ok (.aload_n 0, 1) := by decide +kernel
theorem dX6_counts_1 : decode cX6_counts 1 = .ok (.getfield 19, 3) := by decide +kernel
theorem dX6_counts_4 : decode cX6_counts 4 = .ok (.iconst 5, 1) := by decide +kernel
theorem dX6_counts_5 : decode cX6_counts 5 = .ok (.if_icmp .ne 10, 3) := by decide +kernel
theorem dX6_counts_8 : decode cX6_counts 8 = .ok (.aload_n 0, 1) := by decide +kernel
theorem dX6_counts_9 : decode cX6_counts 9 = .ok (.iload_n 1, 1) := by decide +kernel
theorem dX6_counts_10 : decode cX6_counts 10 = .ok (.invokevirtual 35, 3) := by decide +kernel
theorem dX6_counts_13 : decode cX6_counts 13 = .ok (.ineg, 1) := by decide +kernel
theorem dX6_counts_14 : decode cX6_counts 14 = .ok (.ireturn, 1) := by decide +kernel
theorem dX6_counts_15 : decode cX6_counts 15 = .ok (.aload_n 0, 1) := by decide +kernel
theorem dX6_counts_16 : decode cX6_counts 16 = .ok (.getfield 19, 3) := by decide +kernel
theorem dX6_counts_19 : decode cX6_counts 19 = .ok (.iconst 3, 1) := by decide +kernel
theorem dX6_counts_20 : decode cX6_counts 20 = .ok (.if_icmp .ne 20, 3) := by decide +kernel
theorem dX6_counts_23 : decode cX6_counts 23 = .ok (.aload_n 0, 1) := by decide +kernel
theorem dX6_counts_24 : decode cX6_counts 24 = .ok (.iload_n 1, 1) := by decide +kernel
theorem dX6_counts_25 : decode cX6_counts 25 = .ok (.invokevirtual 35, 3) := by decide +kernel
theorem dX6_counts_28 : decode cX6_counts 28 = .ok (.aload_n 0, 1) := by decide +kernel
theorem dX6_counts_29 : decode cX6_counts 29 = .ok (.getfield 22, 3) := by decide +kernel
theorem dX6_counts_32 : decode cX6_counts 32 = .ok (.iload_n 2, 1) := by decide +kernel
theorem dX6_counts_33 : decode cX6_counts 33 = .ok (.iload_n 1, 1) := by decide +kernel
theorem dX6_counts_34 : decode cX6_counts 34 = .ok (.isub, 1) := by decide +kernel
theorem dX6_counts_35 : decode cX6_counts 35 = .ok (.imul, 1) := by decide +kernel
theorem dX6_counts_36 : decode cX6_counts 36 = .ok (.isub, 1) := by decide +kernel
theorem dX6_counts_37 : decode cX6_counts 37 = .ok (.goto 8, 3) := by decide +kernel
theorem dX6_counts_40 : decode cX6_counts 40 = .ok (.aload_n 0, 1) := by decide +kernel
theorem dX6_counts_41 : decode cX6_counts 41 = .ok (.iload_n 1, 1) := by decide +kernel
theorem dX6_counts_42 : decode cX6_counts 42 = .ok (.invokevirtual 35, 3) := by decide +kernel
theorem dX6_counts_45 : decode cX6_counts 45 = .ok (.ireturn, 1) := by decide +kernel
theorem dX6_yearBy_0 : decode cX6_yearBy 0 = .ok (.aload_n 0, 1) := by decide +kernel
theorem dX6_yearBy_1 : decode cX6_yearBy 1 = .ok (.getfield 19, 3) := by decide +kernel
theorem dX6_yearBy_4 : decode cX6_yearBy 4 = .ok (.iconst 1, 1) := by decide +kernel
theorem dX6_yearBy_5 : decode cX6_yearBy 5 = .ok (.if_icmp .eq 11, 3) := by decide +kernel
theorem dX6_yearBy_8 : decode cX6_yearBy 8 = .ok (.aload_n 0, 1) := by decide +kernel
theorem dX6_yearBy_9 : decode cX6_yearBy 9 = .ok (.getfield 19, 3) := by decide +kernel
theorem dX6_yearBy_12 : decode cX6_yearBy 12 = .ok (.iconst 3, 1) := by decide +kernel
theorem dX6_yearBy_13 : decode cX6_yearBy 13 = .ok (.if_icmp .ne 7, 3) := by decide +kernel
theorem dX6_yearBy_16 : decode cX6_yearBy 16 = .ok (.iconst 1, 1) := by decide +kernel
theorem dX6_yearBy_17 : decode cX6_yearBy 17 = .ok (.goto 4, 3) := by decide +kernel
theorem dX6_yearBy_20 : decode cX6_yearBy 20 = .ok (.iconst 0, 1) := by decide +kernel
theorem dX6_yearBy_21 : decode cX6_yearBy 21 = .ok (.istore 4, 2) := by decide +kernel
theorem dX6_yearBy_23 : decode cX6_yearBy 23 = .ok (.iconst 0, 1) := by decide +kernel
theorem dX6_yearBy_24 : decode cX6_yearBy 24 = .ok (.iload_n 3, 1) := by decide +kernel
theorem dX6_yearBy_25 : decode cX6_yearBy 25 = .ok (.aload_n 0, 1) := by decide +kernel
theorem dX6_yearBy_26 : decode cX6_yearBy 26 = .ok (.iload_n 1, 1) := by decide +kernel
theorem dX6_yearBy_27 : decode cX6_yearBy 27 = .ok (.iload_n 2, 1) := by decide +kernel
theorem dX6_yearBy_28 : decode cX6_yearBy 28 = .ok (.invokevirtual 48, 3) := by decide +kernel
theorem dX6_yearBy_31 : decode cX6_yearBy 31 = .ok (.isub, 1) := by decide +kernel
theorem dX6_yearBy_32 : decode cX6_yearBy 32 = .ok (.invokestatic 42, 3) := by decide +kernel
theorem dX6_yearBy_35 : decode cX6_yearBy 35 = .ok (.istore 5, 2) := by decide +kernel
theorem dX6_yearBy_37 : decode cX6_yearBy 37 = .ok (.iload_n 3, 1) := by decide +kernel
theorem dX6_yearBy_38 : decode cX6_yearBy 38 = .ok (.istore 6, 2) := by decide +kernel
theorem dX6_yearBy_40 : decode cX6_yearBy 40 = .ok (.aload_n 0, 1) := by decide +kernel
theorem dX6_yearBy_41 : decode cX6_yearBy 41 = .ok (.iload_n 3, 1) := by decide +kernel
theorem dX6_yearBy_42 : decode cX6_yearBy 42 = .ok (.iload_n 3, 1) := by decide +kernel
theorem dX6_yearBy_43 : decode cX6_yearBy 43 = .ok (.invokevirtual 51, 3) := by decide +kernel
theorem dX6_yearBy_46 : decode cX6_yearBy 46 = .ok (.istore 7, 2) := by decide +kernel
theorem dX6_yearBy_48 : decode cX6_yearBy 48 = .ok (.iload_n 3, 1) := by decide +kernel
theorem dX6_yearBy_49 : decode cX6_yearBy 49 = .ok (.iconst 1, 1) := by decide +kernel
theorem dX6_yearBy_50 : decode cX6_yearBy 50 = .ok (.isub, 1) := by decide +kernel
theorem dX6_yearBy_51 : decode cX6_yearBy 51 = .ok (.istore 8, 2) := by decide +kernel
theorem dX6_yearBy_53 : decode cX6_yearBy 53 = .ok (.iload 8, 2) := by decide +kernel
theorem dX6_yearBy_55 : decode cX6_yearBy 55 = .ok (.iload 5, 2) := by decide +kernel
theorem dX6_yearBy_57 : decode cX6_yearBy 57 = .ok (.if_icmp .lt 45, 3) := by decide +kernel
theorem dX6_yearBy_60 : decode cX6_yearBy 60 = .ok (.aload_n 0, 1) := by decide +kernel
theorem dX6_yearBy_61 : decode cX6_yearBy 61 = .ok (.iload 8, 2) := by decide +kernel
theorem dX6_yearBy_63 : decode cX6_yearBy 63 = .ok (.iload_n 3, 1) := by decide +kernel
theorem dX6_yearBy_64 : decode cX6_yearBy 64 = .ok (.invokevirtual 51, 3) := by decide +kernel
theorem dX6_yearBy_67 : decode cX6_yearBy 67 = .ok (.istore 9, 2) := by decide +kernel
theorem dX6_yearBy_69 : decode cX6_yearBy 69 = .ok (.iload 9, 2) := by decide +kernel
theorem dX6_yearBy_71 : decode cX6_yearBy 71 = .ok (.iload 7, 2) := by decide +kernel
theorem dX6_yearBy_73 : decode cX6_yearBy 73 = .ok (.if_icmp .gt 15, 3) := by decide +kernel
theorem dX6_yearBy_76 : decode cX6_yearBy 76 = .ok (.iload 4, 2) := by decide +kernel
theorem dX6_yearBy_78 : decode cX6_yearBy 78 = .ok (.ifCond .eq 18, 3) := by decide +kernel
theorem dX6_yearBy_81 : decode cX6_yearBy 81 = .ok (.iload 9, 2) := by decide +kernel
theorem dX6_yearBy_83 : decode cX6_yearBy 83 = .ok (.iload 7, 2) := by decide +kernel
theorem dX6_yearBy_85 : decode cX6_yearBy 85 = .ok (.if_icmp .ne 11, 3) := by decide +kernel
theorem dX6_yearBy_88 : decode cX6_yearBy 88 = .ok (.iload 8, 2) := by decide +kernel
theorem dX6_yearBy_90 : decode cX6_yearBy 90 = .ok (.istore 6, 2) := by decide +kernel
theorem dX6_yearBy_92 : decode cX6_yearBy 92 = .ok (.iload 9, 2) := by decide +kernel
theorem dX6_yearBy_94 : decode cX6_yearBy 94 = .ok (.istore 7, 2) := by decide +kernel
theorem dX6_yearBy_96 : decode cX6_yearBy 96 = .ok (.iinc 8 (-1), 3) := by decide +kernel
theorem dX6_yearBy_99 : decode cX6_yearBy 99 = .ok (.goto (-46), 3) := by decide +kernel
theorem dX6_yearBy_102 : decode cX6_yearBy 102 = .ok (.iload 6, 2) := by decide +kernel
theorem dX6_yearBy_104 : decode cX6_yearBy 104 = .ok (.ireturn, 1) := by decide +kernel
theorem dX6_fewestFor_0 : decode cX6_fewestFor 0 = .ok (.iconst 0, 1) := by decide +kernel
theorem dX6_fewestFor_1 : decode cX6_fewestFor 1 = .ok (.istore_n 3, 1) := by decide +kernel
theorem dX6_fewestFor_2 : decode cX6_fewestFor 2 = .ok (.iload_n 3, 1) := by decide +kernel
theorem dX6_fewestFor_3 : decode cX6_fewestFor 3 = .ok (.bipush 19, 2) := by decide +kernel
theorem dX6_fewestFor_5 : decode cX6_fewestFor 5 = .ok (.if_icmp .gt 26, 3) := by decide +kernel
theorem dX6_fewestFor_8 : decode cX6_fewestFor 8 = .ok (.aload_n 0, 1) := by decide +kernel
theorem dX6_fewestFor_9 : decode cX6_fewestFor 9 = .ok (.iload_n 3, 1) := by decide +kernel
theorem dX6_fewestFor_10 : decode cX6_fewestFor 10 = .ok (.iconst 5, 1) := by decide +kernel
theorem dX6_fewestFor_11 : decode cX6_fewestFor 11 = .ok (.imul, 1) := by decide +kernel
theorem dX6_fewestFor_12 : decode cX6_fewestFor 12 = .ok (.iconst 0, 1) := by decide +kernel
theorem dX6_fewestFor_13 : decode cX6_fewestFor 13 = .ok (.iload_n 2, 1) := by decide +kernel
theorem dX6_fewestFor_14 : decode cX6_fewestFor 14 = .ok (.invokevirtual 54, 3) := by decide +kernel
theorem dX6_fewestFor_17 : decode cX6_fewestFor 17 = .ok (.iload_n 1, 1) := by decide +kernel
theorem dX6_fewestFor_18 : decode cX6_fewestFor 18 = .ok (.if_icmp .ne 7, 3) := by decide +kernel
theorem dX6_fewestFor_21 : decode cX6_fewestFor 21 = .ok (.iload_n 3, 1) := by decide +kernel
theorem dX6_fewestFor_22 : decode cX6_fewestFor 22 = .ok (.iconst 5, 1) := by decide +kernel
theorem dX6_fewestFor_23 : decode cX6_fewestFor 23 = .ok (.imul, 1) := by decide +kernel
theorem dX6_fewestFor_24 : decode cX6_fewestFor 24 = .ok (.ireturn, 1) := by decide +kernel
theorem dX6_fewestFor_25 : decode cX6_fewestFor 25 = .ok (.iinc 3 1, 3) := by decide +kernel
theorem dX6_fewestFor_28 : decode cX6_fewestFor 28 = .ok (.goto (-26), 3) := by decide +kernel
theorem dX6_fewestFor_31 : decode cX6_fewestFor 31 = .ok (.bipush (-9), 2) := by decide +kernel
theorem dX6_fewestFor_33 : decode cX6_fewestFor 33 = .ok (.ireturn, 1) := by decide +kernel
theorem dX0_begin_0 : decode cX0_begin 0 = .ok (.iconst 0, 1) := by decide +kernel
theorem dX0_begin_1 : decode cX0_begin 1 = .ok (.istore_n 3, 1) := by decide +kernel
theorem dX0_begin_2 : decode cX0_begin 2 = .ok (.iconst 1, 1) := by decide +kernel
theorem dX0_begin_3 : decode cX0_begin 3 = .ok (.istore 4, 2) := by decide +kernel
theorem dX0_begin_5 : decode cX0_begin 5 = .ok (.iload 4, 2) := by decide +kernel
theorem dX0_begin_7 : decode cX0_begin 7 = .ok (.iload_n 2, 1) := by decide +kernel
theorem dX0_begin_8 : decode cX0_begin 8 = .ok (.if_icmp .ge 34, 3) := by decide +kernel
theorem dX0_begin_11 : decode cX0_begin 11 = .ok (.iload 4, 2) := by decide +kernel
theorem dX0_begin_13 : decode cX0_begin 13 = .ok (.iconst 4, 1) := by decide +kernel
theorem dX0_begin_14 : decode cX0_begin 14 = .ok (.if_icmp .ge 28, 3) := by decide +kernel
theorem dX0_begin_17 : decode cX0_begin 17 = .ok (.aload_n 0, 1) := by decide +kernel
theorem dX0_begin_18 : decode cX0_begin 18 = .ok (.getfield 15, 3) := by decide +kernel
theorem dX0_begin_21 : decode cX0_begin 21 = .ok (.iload 4, 2) := by decide +kernel
theorem dX0_begin_23 : decode cX0_begin 23 = .ok (.iaload, 1) := by decide +kernel
theorem dX0_begin_24 : decode cX0_begin 24 = .ok (.aload_n 0, 1) := by decide +kernel
theorem dX0_begin_25 : decode cX0_begin 25 = .ok (.getfield 15, 3) := by decide +kernel
theorem dX0_begin_28 : decode cX0_begin 28 = .ok (.iload_n 3, 1) := by decide +kernel
theorem dX0_begin_29 : decode cX0_begin 29 = .ok (.iaload, 1) := by decide +kernel
theorem dX0_begin_30 : decode cX0_begin 30 = .ok (.if_icmp .ge 6, 3) := by decide +kernel
theorem dX0_begin_33 : decode cX0_begin 33 = .ok (.iload 4, 2) := by decide +kernel
theorem dX0_begin_35 : decode cX0_begin 35 = .ok (.istore_n 3, 1) := by decide +kernel
theorem dX0_begin_36 : decode cX0_begin 36 = .ok (.iinc 4 1, 3) := by decide +kernel
theorem dX0_begin_39 : decode cX0_begin 39 = .ok (.goto (-34), 3) := by decide +kernel
theorem dX0_begin_42 : decode cX0_begin 42 = .ok (.aload_n 0, 1) := by decide +kernel
theorem dX0_begin_43 : decode cX0_begin 43 = .ok (.getfield 15, 3) := by decide +kernel
theorem dX0_begin_46 : decode cX0_begin 46 = .ok (.iload_n 3, 1) := by decide +kernel
theorem dX0_begin_47 : decode cX0_begin 47 = .ok (.iaload, 1) := by decide +kernel
theorem dX0_begin_48 : decode cX0_begin 48 = .ok (.istore 4, 2) := by decide +kernel
theorem dX0_begin_50 : decode cX0_begin 50 = .ok (.aload_n 0, 1) := by decide +kernel
theorem dX0_begin_51 : decode cX0_begin 51 = .ok (.getfield 15, 3) := by decide +kernel
theorem dX0_begin_54 : decode cX0_begin 54 = .ok (.iload_n 3, 1) := by decide +kernel
theorem dX0_begin_55 : decode cX0_begin 55 = .ok (.iload 4, 2) := by decide +kernel
theorem dX0_begin_57 : decode cX0_begin 57 = .ok (.iload_n 1, 1) := by decide +kernel
theorem dX0_begin_58 : decode cX0_begin 58 = .ok (.iadd, 1) := by decide +kernel
theorem dX0_begin_59 : decode cX0_begin 59 = .ok (.iastore, 1) := by decide +kernel
theorem dX0_begin_60 : decode cX0_begin 60 = .ok (.aload_n 0, 1) := by decide +kernel
theorem dX0_begin_61 : decode cX0_begin 61 = .ok (.aload_n 0, 1) := by decide +kernel
theorem dX0_begin_62 : decode cX0_begin 62 = .ok (.getfield 18, 3) := by decide +kernel
theorem dX0_begin_65 : decode cX0_begin 65 = .ok (.aload_n 0, 1) := by decide +kernel
theorem dX0_begin_66 : decode cX0_begin 66 = .ok (.getfield 15, 3) := by decide +kernel
theorem dX0_begin_69 : decode cX0_begin 69 = .ok (.iload_n 3, 1) := by decide +kernel
theorem dX0_begin_70 : decode cX0_begin 70 = .ok (.iaload, 1) := by decide +kernel
theorem dX0_begin_71 : decode cX0_begin 71 = .ok (.invokestatic 54, 3) := by decide +kernel
theorem dX0_begin_74 : decode cX0_begin 74 = .ok (.putfield 18, 3) := by decide +kernel
theorem dX0_begin_77 : decode cX0_begin 77 = .ok (.iload 4, 2) := by decide +kernel
theorem dX0_begin_79 : decode cX0_begin 79 = .ok (.ireturn, 1) := by decide +kernel
theorem dX0_arrange_0 : decode cX0_arrange 0 = .ok (.aload_n 0, 1) := by decide +kernel
theorem dX0_arrange_1 : decode cX0_arrange 1 = .ok (.iconst 0, 1) := by decide +kernel
theorem dX0_arrange_2 : decode cX0_arrange 2 = .ok (.putfield 18, 3) := by decide +kernel
theorem dX0_arrange_5 : decode cX0_arrange 5 = .ok (.iconst 0, 1) := by decide +kernel
theorem dX0_arrange_6 : decode cX0_arrange 6 = .ok (.istore_n 2, 1) := by decide +kernel
theorem dX0_arrange_7 : decode cX0_arrange 7 = .ok (.iload_n 2, 1) := by decide +kernel
theorem dX0_arrange_8 : decode cX0_arrange 8 = .ok (.iconst 4, 1) := by decide +kernel
theorem dX0_arrange_9 : decode cX0_arrange 9 = .ok (.if_icmp .ge 16, 3) := by decide +kernel
theorem dX0_arrange_12 : decode cX0_arrange 12 = .ok (.aload_n 0, 1) := by decide +kernel
theorem dX0_arrange_13 : decode cX0_arrange 13 = .ok (.getfield 15, 3) := by decide +kernel
theorem dX0_arrange_16 : decode cX0_arrange 16 = .ok (.iload_n 2, 1) := by decide +kernel
theorem dX0_arrange_17 : decode cX0_arrange 17 = .ok (.iconst 0, 1) := by decide +kernel
theorem dX0_arrange_18 : decode cX0_arrange 18 = .ok (.iastore, 1) := by decide +kernel
theorem dX0_arrange_19 : decode cX0_arrange 19 = .ok (.iinc 2 1, 3) := by decide +kernel
theorem dX0_arrange_22 : decode cX0_arrange 22 = .ok (.goto (-15), 3) := by decide +kernel
theorem dX0_arrange_25 : decode cX0_arrange 25 = .ok (.iconst 0, 1) := by decide +kernel
theorem dX0_arrange_26 : decode cX0_arrange 26 = .ok (.istore_n 2, 1) := by decide +kernel
theorem dX0_arrange_27 : decode cX0_arrange 27 = .ok (.iload_n 2, 1) := by decide +kernel
theorem dX0_arrange_28 : decode cX0_arrange 28 = .ok (.aload_n 1, 1) := by decide +kernel
theorem dX0_arrange_29 : decode cX0_arrange 29 = .ok (.getfield 22, 3) := by decide +kernel
theorem dX0_arrange_32 : decode cX0_arrange 32 = .ok (.if_icmp .ge 79, 3) := by decide +kernel
theorem dX0_arrange_35 : decode cX0_arrange 35 = .ok (.iload_n 2, 1) := by decide +kernel
theorem dX0_arrange_36 : decode cX0_arrange 36 = .ok (.bipush 8, 2) := by decide +kernel
theorem dX0_arrange_38 : decode cX0_arrange 38 = .ok (.if_icmp .ge 73, 3) := by decide +kernel
theorem dX0_arrange_41 : decode cX0_arrange 41 = .ok (.aload_n 1, 1) := by decide +kernel
theorem dX0_arrange_42 : decode cX0_arrange 42 = .ok (.iload_n 2, 1) := by decide +kernel
theorem dX0_arrange_43 : decode cX0_arrange 43 = .ok (.invokevirtual 27, 3) := by decide +kernel
theorem dX0_arrange_46 : decode cX0_arrange 46 = .ok (.astore_n 3, 1) := by decide +kernel
theorem dX0_arrange_47 : decode cX0_arrange 47 = .ok (.aload_n 3, 1) := by decide +kernel
theorem dX0_arrange_48 : decode cX0_arrange 48 = .ok (.invokevirtual 31, 3) := by decide +kernel
theorem dX0_arrange_51 : decode cX0_arrange 51 = .ok (.ifCond .eq 8, 3) := by decide +kernel
theorem dX0_arrange_54 : decode cX0_arrange 54 = .ok (.bipush (-9), 2) := by decide +kernel
theorem dX0_arrange_56 : decode cX0_arrange 56 = .ok (.goto 19, 3) := by decide +kernel
theorem dX0_arrange_59 : decode cX0_arrange 59 = .ok (.aload_n 3, 1) := by decide +kernel
theorem dX0_arrange_60 : decode cX0_arrange 60 = .ok (.aload_n 3, 1) := by decide +kernel
theorem dX0_arrange_61 : decode cX0_arrange 61 = .ok (.aload_n 1, 1) := by decide +kernel
theorem dX0_arrange_62 : decode cX0_arrange 62 = .ok (.getfield 37, 3) := by decide +kernel
theorem dX0_arrange_65 : decode cX0_arrange 65 = .ok (.invokevirtual 40, 3) := by decide +kernel
theorem dX0_arrange_68 : decode cX0_arrange 68 = .ok (.aload_n 1, 1) := by decide +kernel
theorem dX0_arrange_69 : decode cX0_arrange 69 = .ok (.getfield 37, 3) := by decide +kernel
theorem dX0_arrange_72 : decode cX0_arrange 72 = .ok (.invokevirtual 44, 3) := by decide +kernel
theorem dX0_arrange_75 : decode cX0_arrange 75 = .ok (.istore 4, 2) := by decide +kernel
theorem dX0_arrange_77 : decode cX0_arrange 77 = .ok (.aload_n 0, 1) := by decide +kernel
theorem dX0_arrange_78 : decode cX0_arrange 78 = .ok (.getfield 9, 3) := by decide +kernel
theorem dX0_arrange_81 : decode cX0_arrange 81 = .ok (.iload_n 2, 1) := by decide +kernel
theorem dX0_arrange_82 : decode cX0_arrange 82 = .ok (.iload 4, 2) := by decide +kernel
theorem dX0_arrange_84 : decode cX0_arrange 84 = .ok (.bipush (-9), 2) := by decide +kernel
theorem dX0_arrange_86 : decode cX0_arrange 86 = .ok (.if_icmp .ne 8, 3) := by decide +kernel
theorem dX0_arrange_89 : decode cX0_arrange 89 = .ok (.bipush (-9), 2) := by decide +kernel
theorem dX0_arrange_91 : decode cX0_arrange 91 = .ok (.goto 13, 3) := by decide +kernel
theorem dX0_arrange_94 : decode cX0_arrange 94 = .ok (.aload_n 0, 1) := by decide +kernel
theorem dX0_arrange_95 : decode cX0_arrange 95 = .ok (.iload 4, 2) := by decide +kernel
theorem dX0_arrange_97 : decode cX0_arrange 97 = .ok (.aload_n 1, 1) := by decide +kernel
theorem dX0_arrange_98 : decode cX0_arrange 98 = .ok (.getfield 48, 3) := by decide +kernel
theorem dX0_arrange_101 : decode cX0_arrange 101 = .ok (.invokevirtual 51, 3) := by decide +kernel
theorem dX0_arrange_104 : decode cX0_arrange 104 = .ok (.iastore, 1) := by decide +kernel
theorem dX0_arrange_105 : decode cX0_arrange 105 = .ok (.iinc 2 1, 3) := by decide +kernel
theorem dX0_arrange_108 : decode cX0_arrange 108 = .ok (.goto (-81), 3) := by decide +kernel
theorem dX0_arrange_111 : decode cX0_arrange 111 = .ok (.return_, 1) := by decide +kernel
theorem dX0_beginOf_0 : decode cX0_beginOf 0 = .ok (.iload_n 1, 1) := by decide +kernel
theorem dX0_beginOf_1 : decode cX0_beginOf 1 = .ok (.ifCond .lt 9, 3) := by decide +kernel
theorem dX0_beginOf_4 : decode cX0_beginOf 4 = .ok (.iload_n 1, 1) := by decide +kernel
theorem dX0_beginOf_5 : decode cX0_beginOf 5 = .ok (.bipush 8, 2) := by decide +kernel
theorem dX0_beginOf_7 : decode cX0_beginOf 7 = .ok (.if_icmp .lt 8, 3) := by decide +kernel
theorem dX0_beginOf_10 : decode cX0_beginOf 10 = .ok (.bipush (-9), 2) := by decide +kernel
theorem dX0_beginOf_12 : decode cX0_beginOf 12 = .ok (.goto 9, 3) := by decide +kernel
theorem dX0_beginOf_15 : decode cX0_beginOf 15 = .ok (.aload_n 0, 1) := by decide +kernel
theorem dX0_beginOf_16 : decode cX0_beginOf 16 = .ok (.getfield 9, 3) := by decide +kernel
theorem dX0_beginOf_19 : decode cX0_beginOf 19 = .ok (.iload_n 1, 1) := by decide +kernel
theorem dX0_beginOf_20 : decode cX0_beginOf 20 = .ok (.iaload, 1) := by decide +kernel
theorem dX0_beginOf_21 : decode cX0_beginOf 21 = .ok (.ireturn, 1) := by decide +kernel
theorem dX3_setBits_0 : decode cX3_setBits 0 = .ok (.iconst 0, 1) := by decide +kernel
theorem dX3_setBits_1 : decode cX3_setBits 1 = .ok (.istore_n 1, 1) := by decide +kernel
theorem dX3_setBits_2 : decode cX3_setBits 2 = .ok (.iconst 0, 1) := by decide +kernel
theorem dX3_setBits_3 : decode cX3_setBits 3 = .ok (.istore_n 2, 1) := by decide +kernel
theorem dX3_setBits_4 : decode cX3_setBits 4 = .ok (.iload_n 2, 1) := by decide +kernel
theorem dX3_setBits_5 : decode cX3_setBits 5 = .ok (.aload_n 0, 1) := by decide +kernel
theorem dX3_setBits_6 : decode cX3_setBits 6 = .ok (.getfield 29, 3) := by decide +kernel
theorem dX3_setBits_9 : decode cX3_setBits 9 = .ok (.if_icmp .ge 26, 3) := by decide +kernel
theorem dX3_setBits_12 : decode cX3_setBits 12 = .ok (.aload_n 0, 1) := by decide +kernel
theorem dX3_setBits_13 : decode cX3_setBits 13 = .ok (.iload_n 2, 1) := by decide +kernel
theorem dX3_setBits_14 : decode cX3_setBits 14 = .ok (.invokevirtual 43, 3) := by decide +kernel
theorem dX3_setBits_17 : decode cX3_setBits 17 = .ok (.invokevirtual 61, 3) := by decide +kernel
theorem dX3_setBits_20 : decode cX3_setBits 20 = .ok (.ifCond .eq 9, 3) := by decide +kernel
theorem dX3_setBits_23 : decode cX3_setBits 23 = .ok (.iload_n 1, 1) := by decide +kernel
theorem dX3_setBits_24 : decode cX3_setBits 24 = .ok (.iconst 1, 1) := by decide +kernel
theorem dX3_setBits_25 : decode cX3_setBits 25 = .ok (.iload_n 2, 1) := by decide +kernel
theorem dX3_setBits_26 : decode cX3_setBits 26 = .ok (.ishl, 1) := by decide +kernel
theorem dX3_setBits_27 : decode cX3_setBits 27 = .ok (.ior, 1) := by decide +kernel
theorem dX3_setBits_28 : decode cX3_setBits 28 = .ok (.istore_n 1, 1) := by decide +kernel
theorem dX3_setBits_29 : decode cX3_setBits 29 = .ok (.iinc 2 1, 3) := by decide +kernel
theorem dX3_setBits_32 : decode cX3_setBits 32 = .ok (.goto (-28), 3) := by decide +kernel
theorem dX3_setBits_35 : decode cX3_setBits 35 = .ok (.iload_n 1, 1) := by decide +kernel
theorem dX3_setBits_36 : decode cX3_setBits 36 = .ok (.ireturn, 1) := by decide +kernel
theorem dX6_howGlad_0 : decode cX6_howGlad 0 = .ok (.aload_n 0, 1) := by decide +kernel
theorem dX6_howGlad_1 : decode cX6_howGlad 1 = .ok (.aload_n 0, 1) := by decide +kernel
theorem dX6_howGlad_2 : decode cX6_howGlad 2 = .ok (.invokevirtual 31, 3) := by decide +kernel
theorem dX6_howGlad_5 : decode cX6_howGlad 5 = .ok (.ifCond .eq 10, 3) := by decide +kernel
theorem dX6_howGlad_8 : decode cX6_howGlad 8 = .ok (.aload_n 0, 1) := by decide +kernel
theorem dX6_howGlad_9 : decode cX6_howGlad 9 = .ok (.getfield 9, 3) := by decide +kernel
theorem dX6_howGlad_12 : decode cX6_howGlad 12 = .ok (.goto 4, 3) := by decide +kernel
theorem dX6_howGlad_15 : decode cX6_howGlad 15 = .ok (.iload_n 1, 1) := by decide +kernel
theorem dX6_howGlad_16 : decode cX6_howGlad 16 = .ok (.invokevirtual 35, 3) := by decide +kernel
theorem dX6_howGlad_19 : decode cX6_howGlad 19 = .ok (.ireturn, 1) := by decide +kernel
theorem dX3_gladTogether_0 : decode cX3_gladTogether 0 = .ok (.iconst 0, 1) := by decide +kernel
theorem dX3_gladTogether_1 : decode cX3_gladTogether 1 = .ok (.istore_n 2, 1) := by decide +kernel
theorem dX3_gladTogether_2 : decode cX3_gladTogether 2 = .ok (.iconst 0, 1) := by decide +kernel
theorem dX3_gladTogether_3 : decode cX3_gladTogether 3 = .ok (.istore_n 3, 1) := by decide +kernel
theorem dX3_gladTogether_4 : decode cX3_gladTogether 4 = .ok (.iload_n 3, 1) := by decide +kernel
theorem dX3_gladTogether_5 : decode cX3_gladTogether 5 = .ok (.aload_n 0, 1) := by decide +kernel
theorem dX3_gladTogether_6 : decode cX3_gladTogether 6 = .ok (.getfield 29, 3) := by decide +kernel
theorem dX3_gladTogether_9 : decode cX3_gladTogether 9 = .ok (.if_icmp .ge 21, 3) := by decide +kernel
theorem dX3_gladTogether_12 : decode cX3_gladTogether 12 = .ok (.iload_n 2, 1) := by decide +kernel
theorem dX3_gladTogether_13 : decode cX3_gladTogether 13 = .ok (.aload_n 0, 1) := by decide +kernel
theorem dX3_gladTogether_14 : decode cX3_gladTogether 14 = .ok (.iload_n 3, 1) := by decide +kernel
theorem dX3_gladTogether_15 : decode cX3_gladTogether 15 = .ok (.invokevirtual 43, 3) := by decide +kernel
theorem dX3_gladTogether_18 : decode cX3_gladTogether 18 = .ok (.iload_n 1, 1) := by decide +kernel
theorem dX3_gladTogether_19 : decode cX3_gladTogether 19 = .ok (.invokevirtual 76, 3) := by decide +kernel
theorem dX3_gladTogether_22 : decode cX3_gladTogether 22 = .ok (.iadd, 1) := by decide +kernel
theorem dX3_gladTogether_23 : decode cX3_gladTogether 23 = .ok (.istore_n 2, 1) := by decide +kernel
theorem dX3_gladTogether_24 : decode cX3_gladTogether 24 = .ok (.iinc 3 1, 3) := by decide +kernel
theorem dX3_gladTogether_27 : decode cX3_gladTogether 27 = .ok (.goto (-23), 3) := by decide +kernel
theorem dX3_gladTogether_30 : decode cX3_gladTogether 30 = .ok (.iload_n 2, 1) := by decide +kernel
theorem dX3_gladTogether_31 : decode cX3_gladTogether 31 = .ok (.ireturn, 1) := by decide +kernel
theorem dX6_gladdestBy_0 : decode cX6_gladdestBy 0 = .ok (.iconst 0, 1) := by decide +kernel
theorem dX6_gladdestBy_1 : decode cX6_gladdestBy 1 = .ok (.istore_n 2, 1) := by decide +kernel
theorem dX6_gladdestBy_2 : decode cX6_gladdestBy 2 = .ok (.iconst 0, 1) := by decide +kernel
theorem dX6_gladdestBy_3 : decode cX6_gladdestBy 3 = .ok (.istore_n 3, 1) := by decide +kernel
theorem dX6_gladdestBy_4 : decode cX6_gladdestBy 4 = .ok (.iload_n 3, 1) := by decide +kernel
theorem dX6_gladdestBy_5 : decode cX6_gladdestBy 5 = .ok (.bipush 19, 2) := by decide +kernel
theorem dX6_gladdestBy_7 : decode cX6_gladdestBy 7 = .ok (.if_icmp .gt 27, 3) := by decide +kernel
theorem dX6_gladdestBy_10 : decode cX6_gladdestBy 10 = .ok (.iload_n 2, 1) := by decide +kernel
theorem dX6_gladdestBy_11 : decode cX6_gladdestBy 11 = .ok (.aload_n 0, 1) := by decide +kernel
theorem dX6_gladdestBy_12 : decode cX6_gladdestBy 12 = .ok (.aload_n 0, 1) := by decide +kernel
theorem dX6_gladdestBy_13 : decode cX6_gladdestBy 13 = .ok (.iload_n 3, 1) := by decide +kernel
theorem dX6_gladdestBy_14 : decode cX6_gladdestBy 14 = .ok (.iconst 5, 1) := by decide +kernel
theorem dX6_gladdestBy_15 : decode cX6_gladdestBy 15 = .ok (.imul, 1) := by decide +kernel
theorem dX6_gladdestBy_16 : decode cX6_gladdestBy 16 = .ok (.iconst 0, 1) := by decide +kernel
theorem dX6_gladdestBy_17 : decode cX6_gladdestBy 17 = .ok (.iload_n 1, 1) := by decide +kernel
theorem dX6_gladdestBy_18 : decode cX6_gladdestBy 18 = .ok (.invokevirtual 54, 3) := by decide +kernel
theorem dX6_gladdestBy_21 : decode cX6_gladdestBy 21 = .ok (.invokevirtual 35, 3) := by decide +kernel
theorem dX6_gladdestBy_24 : decode cX6_gladdestBy 24 = .ok (.invokestatic 42, 3) := by decide +kernel
theorem dX6_gladdestBy_27 : decode cX6_gladdestBy 27 = .ok (.istore_n 2, 1) := by decide +kernel
theorem dX6_gladdestBy_28 : decode cX6_gladdestBy 28 = .ok (.iinc 3 1, 3) := by decide +kernel
theorem dX6_gladdestBy_31 : decode cX6_gladdestBy 31 = .ok (.goto (-27), 3) := by decide +kernel
theorem dX6_gladdestBy_34 : decode cX6_gladdestBy 34 = .ok (.iload_n 2, 1) := by decide +kernel
theorem dX6_gladdestBy_35 : decode cX6_gladdestBy 35 = .ok (.ireturn, 1) := by decide +kernel
theorem dX6_cost_0 : decode cX6_cost 0 = .ok (.aload_n 0, 1) := by decide +kernel
theorem dX6_cost_1 : decode cX6_cost 1 = .ok (.getfield 19, 3) := by decide +kernel
theorem dX6_cost_4 : decode cX6_cost 4 = .ok (.iconst 4, 1) := by decide +kernel
theorem dX6_cost_5 : decode cX6_cost 5 = .ok (.if_icmp .ne 12, 3) := by decide +kernel
theorem dX6_cost_8 : decode cX6_cost 8 = .ok (.iconst 1, 1) := by decide +kernel
theorem dX6_cost_9 : decode cX6_cost 9 = .ok (.aload_n 0, 1) := by decide +kernel
theorem dX6_cost_10 : decode cX6_cost 10 = .ok (.getfield 22, 3) := by decide +kernel
theorem dX6_cost_13 : decode cX6_cost 13 = .ok (.iadd, 1) := by decide +kernel
theorem dX6_cost_14 : decode cX6_cost 14 = .ok (.goto 4, 3) := by decide +kernel
theorem dX6_cost_17 : decode cX6_cost 17 = .ok (.iconst 1, 1) := by decide +kernel
theorem dX6_cost_18 : decode cX6_cost 18 = .ok (.ireturn, 1) := by decide +kernel
theorem dX1_weigh_0 : decode cX1_weigh 0 = .ok (.aload_n 0, 1) := by decide +kernel
theorem dX1_weigh_1 : decode cX1_weigh 1 = .ok (.aload_n 1, 1) := by decide +kernel
theorem dX1_weigh_2 : decode cX1_weigh 2 = .ok (.invokevirtual 18, 3) := by decide +kernel
theorem dX1_weigh_5 : decode cX1_weigh 5 = .ok (.putfield 24, 3) := by decide +kernel
theorem dX1_weigh_8 : decode cX1_weigh 8 = .ok (.aload_n 0, 1) := by decide +kernel
theorem dX1_weigh_9 : decode cX1_weigh 9 = .ok (.iconst 1, 1) := by decide +kernel
theorem dX1_weigh_10 : decode cX1_weigh 10 = .ok (.aload_n 1, 1) := by decide +kernel
theorem dX1_weigh_11 : decode cX1_weigh 11 = .ok (.getfield 28, 3) := by decide +kernel
theorem dX1_weigh_14 : decode cX1_weigh 14 = .ok (.ishl, 1) := by decide +kernel
theorem dX1_weigh_15 : decode cX1_weigh 15 = .ok (.putfield 31, 3) := by decide +kernel
theorem dX1_weigh_18 : decode cX1_weigh 18 = .ok (.aload_n 0, 1) := by decide +kernel
theorem dX1_weigh_19 : decode cX1_weigh 19 = .ok (.aload_n 1, 1) := by decide +kernel
theorem dX1_weigh_20 : decode cX1_weigh 20 = .ok (.iload_n 2, 1) := by decide +kernel
theorem dX1_weigh_21 : decode cX1_weigh 21 = .ok (.invokevirtual 34, 3) := by decide +kernel
theorem dX1_weigh_24 : decode cX1_weigh 24 = .ok (.putfield 38, 3) := by decide +kernel
theorem dX1_weigh_27 : decode cX1_weigh 27 = .ok (.iconst 0, 1) := by decide +kernel
theorem dX1_weigh_28 : decode cX1_weigh 28 = .ok (.istore_n 3, 1) := by decide +kernel
theorem dX1_weigh_29 : decode cX1_weigh 29 = .ok (.iload_n 3, 1) := by decide +kernel
theorem dX1_weigh_30 : decode cX1_weigh 30 = .ok (.aload_n 1, 1) := by decide +kernel
theorem dX1_weigh_31 : decode cX1_weigh 31 = .ok (.getfield 28, 3) := by decide +kernel
theorem dX1_weigh_34 : decode cX1_weigh 34 = .ok (.if_icmp .ge 52, 3) := by decide +kernel
theorem dX1_weigh_37 : decode cX1_weigh 37 = .ok (.iload_n 3, 1) := by decide +kernel
theorem dX1_weigh_38 : decode cX1_weigh 38 = .ok (.bipush 8, 2) := by decide +kernel
theorem dX1_weigh_40 : decode cX1_weigh 40 = .ok (.if_icmp .ge 46, 3) := by decide +kernel
theorem dX1_weigh_43 : decode cX1_weigh 43 = .ok (.aload_n 1, 1) := by decide +kernel
theorem dX1_weigh_44 : decode cX1_weigh 44 = .ok (.iload_n 3, 1) := by decide +kernel
theorem dX1_weigh_45 : decode cX1_weigh 45 = .ok (.invokevirtual 41, 3) := by decide +kernel
theorem dX1_weigh_48 : decode cX1_weigh 48 = .ok (.astore 4, 2) := by decide +kernel
theorem dX1_weigh_50 : decode cX1_weigh 50 = .ok (.aload_n 0, 1) := by decide +kernel
theorem dX1_weigh_51 : decode cX1_weigh 51 = .ok (.getfield 9, 3) := by decide +kernel
theorem dX1_weigh_54 : decode cX1_weigh 54 = .ok (.iload_n 3, 1) := by decide +kernel
theorem dX1_weigh_55 : decode cX1_weigh 55 = .ok (.aload 4, 2) := by decide +kernel
theorem dX1_weigh_57 : decode cX1_weigh 57 = .ok (.iload_n 2, 1) := by decide +kernel
theorem dX1_weigh_58 : decode cX1_weigh 58 = .ok (.invokevirtual 45, 3) := by decide +kernel
theorem dX1_weigh_61 : decode cX1_weigh 61 = .ok (.aload 4, 2) := by decide +kernel
theorem dX1_weigh_63 : decode cX1_weigh 63 = .ok (.iload_n 2, 1) := by decide +kernel
theorem dX1_weigh_64 : decode cX1_weigh 64 = .ok (.invokevirtual 50, 3) := by decide +kernel
theorem dX1_weigh_67 : decode cX1_weigh 67 = .ok (.isub, 1) := by decide +kernel
theorem dX1_weigh_68 : decode cX1_weigh 68 = .ok (.iastore, 1) := by decide +kernel
theorem dX1_weigh_69 : decode cX1_weigh 69 = .ok (.aload_n 0, 1) := by decide +kernel
theorem dX1_weigh_70 : decode cX1_weigh 70 = .ok (.getfield 15, 3) := by decide +kernel
theorem dX1_weigh_73 : decode cX1_weigh 73 = .ok (.iload_n 3, 1) := by decide +kernel
theorem dX1_weigh_74 : decode cX1_weigh 74 = .ok (.aload 4, 2) := by decide +kernel
theorem dX1_weigh_76 : decode cX1_weigh 76 = .ok (.invokevirtual 53, 3) := by decide +kernel
theorem dX1_weigh_79 : decode cX1_weigh 79 = .ok (.iastore, 1) := by decide +kernel
theorem dX1_weigh_80 : decode cX1_weigh 80 = .ok (.iinc 3 1, 3) := by decide +kernel
theorem dX1_weigh_83 : decode cX1_weigh 83 = .ok (.goto (-54), 3) := by decide +kernel
theorem dX1_weigh_86 : decode cX1_weigh 86 = .ok (.return_, 1) := by decide +kernel
theorem dX1_sumOver_0 : decode cX1_sumOver 0 = .ok (.iconst 0, 1) := by decide +kernel
theorem dX1_sumOver_1 : decode cX1_sumOver 1 = .ok (.istore_n 2, 1) := by decide +kernel
theorem dX1_sumOver_2 : decode cX1_sumOver 2 = .ok (.iconst 0, 1) := by decide +kernel
theorem dX1_sumOver_3 : decode cX1_sumOver 3 = .ok (.istore_n 3, 1) := by decide +kernel
theorem dX1_sumOver_4 : decode cX1_sumOver 4 = .ok (.iload_n 3, 1) := by decide +kernel
theorem dX1_sumOver_5 : decode cX1_sumOver 5 = .ok (.aload_n 1, 1) := by decide +kernel
theorem dX1_sumOver_6 : decode cX1_sumOver 6 = .ok (.arraylength, 1) := by decide +kernel
theorem dX1_sumOver_7 : decode cX1_sumOver 7 = .ok (.if_icmp .ge 28, 3) := by decide +kernel
theorem dX1_sumOver_10 : decode cX1_sumOver 10 = .ok (.iload_n 2, 1) := by decide +kernel
theorem dX1_sumOver_11 : decode cX1_sumOver 11 = .ok (.iload_n 0, 1) := by decide +kernel
theorem dX1_sumOver_12 : decode cX1_sumOver 12 = .ok (.iload_n 3, 1) := by decide +kernel
theorem dX1_sumOver_13 : decode cX1_sumOver 13 = .ok (.ishr, 1) := by decide +kernel
theorem dX1_sumOver_14 : decode cX1_sumOver 14 = .ok (.iconst 1, 1) := by decide +kernel
theorem dX1_sumOver_15 : decode cX1_sumOver 15 = .ok (.iand, 1) := by decide +kernel
theorem dX1_sumOver_16 : decode cX1_sumOver 16 = .ok (.iconst 1, 1) := by decide +kernel
theorem dX1_sumOver_17 : decode cX1_sumOver 17 = .ok (.if_icmp .ne 9, 3) := by decide +kernel
theorem dX1_sumOver_20 : decode cX1_sumOver 20 = .ok (.aload_n 1, 1) := by decide +kernel
theorem dX1_sumOver_21 : decode cX1_sumOver 21 = .ok (.iload_n 3, 1) := by decide +kernel
theorem dX1_sumOver_22 : decode cX1_sumOver 22 = .ok (.iaload, 1) := by decide +kernel
theorem dX1_sumOver_23 : decode cX1_sumOver 23 = .ok (.goto 4, 3) := by decide +kernel
theorem dX1_sumOver_26 : decode cX1_sumOver 26 = .ok (.iconst 0, 1) := by decide +kernel
theorem dX1_sumOver_27 : decode cX1_sumOver 27 = .ok (.iadd, 1) := by decide +kernel
theorem dX1_sumOver_28 : decode cX1_sumOver 28 = .ok (.istore_n 2, 1) := by decide +kernel
theorem dX1_sumOver_29 : decode cX1_sumOver 29 = .ok (.iinc 3 1, 3) := by decide +kernel
theorem dX1_sumOver_32 : decode cX1_sumOver 32 = .ok (.goto (-28), 3) := by decide +kernel
theorem dX1_sumOver_35 : decode cX1_sumOver 35 = .ok (.iload_n 2, 1) := by decide +kernel
theorem dX1_sumOver_36 : decode cX1_sumOver 36 = .ok (.ireturn, 1) := by decide +kernel
theorem dX1_gainOf_0 : decode cX1_gainOf 0 = .ok (.iload_n 1, 1) := by decide +kernel
theorem dX1_gainOf_1 : decode cX1_gainOf 1 = .ok (.aload_n 0, 1) := by decide +kernel
theorem dX1_gainOf_2 : decode cX1_gainOf 2 = .ok (.getfield 9, 3) := by decide +kernel
theorem dX1_gainOf_5 : decode cX1_gainOf 5 = .ok (.invokestatic 56, 3) := by decide +kernel
theorem dX1_gainOf_8 : decode cX1_gainOf 8 = .ok (.ireturn, 1) := by decide +kernel
theorem dX1_bestBits_0 : decode cX1_bestBits 0 = .ok (.iconst 0, 1) := by decide +kernel
theorem dX1_bestBits_1 : decode cX1_bestBits 1 = .ok (.istore_n 2, 1) := by decide +kernel
theorem dX1_bestBits_2 : decode cX1_bestBits 2 = .ok (.iconst 0, 1) := by decide +kernel
theorem dX1_bestBits_3 : decode cX1_bestBits 3 = .ok (.istore_n 3, 1) := by decide +kernel
theorem dX1_bestBits_4 : decode cX1_bestBits 4 = .ok (.iconst 0, 1) := by decide +kernel
theorem dX1_bestBits_5 : decode cX1_bestBits 5 = .ok (.istore 4, 2) := by decide +kernel
theorem dX1_bestBits_7 : decode cX1_bestBits 7 = .ok (.iload 4, 2) := by decide +kernel
theorem dX1_bestBits_9 : decode cX1_bestBits 9 = .ok (.aload_n 0, 1) := by decide +kernel
theorem dX1_bestBits_10 : decode cX1_bestBits 10 = .ok (.getfield 31, 3) := by decide +kernel
theorem dX1_bestBits_13 : decode cX1_bestBits 13 = .ok (.if_icmp .ge 52, 3) := by decide +kernel
theorem dX1_bestBits_16 : decode cX1_bestBits 16 = .ok (.iload 4, 2) := by decide +kernel
theorem dX1_bestBits_18 : decode cX1_bestBits 18 = .ok (.aload_n 0, 1) := by decide +kernel
theorem dX1_bestBits_19 : decode cX1_bestBits 19 = .ok (.getfield 24, 3) := by decide +kernel
theorem dX1_bestBits_22 : decode cX1_bestBits 22 = .ok (.iand, 1) := by decide +kernel
theorem dX1_bestBits_23 : decode cX1_bestBits 23 = .ok (.ifCond .ne 36, 3) := by decide +kernel
theorem dX1_bestBits_26 : decode cX1_bestBits 26 = .ok (.aload_n 0, 1) := by decide +kernel
theorem dX1_bestBits_27 : decode cX1_bestBits 27 = .ok (.iload 4, 2) := by decide +kernel
theorem dX1_bestBits_29 : decode cX1_bestBits 29 = .ok (.invokevirtual 60, 3) := by decide +kernel
theorem dX1_bestBits_32 : decode cX1_bestBits 32 = .ok (.iload_n 3, 1) := by decide +kernel
theorem dX1_bestBits_33 : decode cX1_bestBits 33 = .ok (.if_icmp .le 26, 3) := by decide +kernel
theorem dX1_bestBits_36 : decode cX1_bestBits 36 = .ok (.iload 4, 2) := by decide +kernel
theorem dX1_bestBits_38 : decode cX1_bestBits 38 = .ok (.aload_n 0, 1) := by decide +kernel
theorem dX1_bestBits_39 : decode cX1_bestBits 39 = .ok (.getfield 15, 3) := by decide +kernel
theorem dX1_bestBits_42 : decode cX1_bestBits 42 = .ok (.invokestatic 56, 3) := by decide +kernel
theorem dX1_bestBits_45 : decode cX1_bestBits 45 = .ok (.iload_n 1, 1) := by decide +kernel
theorem dX1_bestBits_46 : decode cX1_bestBits 46 = .ok (.if_icmp .gt 13, 3) := by decide +kernel
theorem dX1_bestBits_49 : decode cX1_bestBits 49 = .ok (.iload 4, 2) := by decide +kernel
theorem dX1_bestBits_51 : decode cX1_bestBits 51 = .ok (.istore_n 2, 1) := by decide +kernel
theorem dX1_bestBits_52 : decode cX1_bestBits 52 = .ok (.aload_n 0, 1) := by decide +kernel
theorem dX1_bestBits_53 : decode cX1_bestBits 53 = .ok (.iload 4, 2) := by decide +kernel
theorem dX1_bestBits_55 : decode cX1_bestBits 55 = .ok (.invokevirtual 60, 3) := by decide +kernel
theorem dX1_bestBits_58 : decode cX1_bestBits 58 = .ok (.istore_n 3, 1) := by decide +kernel
theorem dX1_bestBits_59 : decode cX1_bestBits 59 = .ok (.iinc 4 1, 3) := by decide +kernel
theorem dX1_bestBits_62 : decode cX1_bestBits 62 = .ok (.goto (-55), 3) := by decide +kernel
theorem dX1_bestBits_65 : decode cX1_bestBits 65 = .ok (.iload_n 2, 1) := by decide +kernel
theorem dX1_bestBits_66 : decode cX1_bestBits 66 = .ok (.ireturn, 1) := by decide +kernel
theorem dX1_fewestFor_0 : decode cX1_fewestFor 0 = .ok (.bipush 99, 2) := by decide +kernel
theorem dX1_fewestFor_2 : decode cX1_fewestFor 2 = .ok (.istore_n 2, 1) := by decide +kernel
theorem dX1_fewestFor_3 : decode cX1_fewestFor 3 = .ok (.iconst 0, 1) := by decide +kernel
theorem dX1_fewestFor_4 : decode cX1_fewestFor 4 = .ok (.istore_n 3, 1) := by decide +kernel
theorem dX1_fewestFor_5 : decode cX1_fewestFor 5 = .ok (.iload_n 3, 1) := by decide +kernel
theorem dX1_fewestFor_6 : decode cX1_fewestFor 6 = .ok (.aload_n 0, 1) := by decide +kernel
theorem dX1_fewestFor_7 : decode cX1_fewestFor 7 = .ok (.getfield 31, 3) := by decide +kernel
theorem dX1_fewestFor_10 : decode cX1_fewestFor 10 = .ok (.if_icmp .ge 40, 3) := by decide +kernel
theorem dX1_fewestFor_13 : decode cX1_fewestFor 13 = .ok (.iload_n 3, 1) := by decide +kernel
theorem dX1_fewestFor_14 : decode cX1_fewestFor 14 = .ok (.aload_n 0, 1) := by decide +kernel
theorem dX1_fewestFor_15 : decode cX1_fewestFor 15 = .ok (.getfield 24, 3) := by decide +kernel
theorem dX1_fewestFor_18 : decode cX1_fewestFor 18 = .ok (.iand, 1) := by decide +kernel
theorem dX1_fewestFor_19 : decode cX1_fewestFor 19 = .ok (.ifCond .ne 25, 3) := by decide +kernel
theorem dX1_fewestFor_22 : decode cX1_fewestFor 22 = .ok (.aload_n 0, 1) := by decide +kernel
theorem dX1_fewestFor_23 : decode cX1_fewestFor 23 = .ok (.iload_n 3, 1) := by decide +kernel
theorem dX1_fewestFor_24 : decode cX1_fewestFor 24 = .ok (.invokevirtual 60, 3) := by decide +kernel
theorem dX1_fewestFor_27 : decode cX1_fewestFor 27 = .ok (.iload_n 1, 1) := by decide +kernel
theorem dX1_fewestFor_28 : decode cX1_fewestFor 28 = .ok (.if_icmp .ne 16, 3) := by decide +kernel
theorem dX1_fewestFor_31 : decode cX1_fewestFor 31 = .ok (.iload_n 2, 1) := by decide +kernel
theorem dX1_fewestFor_32 : decode cX1_fewestFor 32 = .ok (.iload_n 3, 1) := by decide +kernel
theorem dX1_fewestFor_33 : decode cX1_fewestFor 33 = .ok (.aload_n 0, 1) := by decide +kernel
theorem dX1_fewestFor_34 : decode cX1_fewestFor 34 = .ok (.getfield 15, 3) := by decide +kernel
theorem dX1_fewestFor_37 : decode cX1_fewestFor 37 = .ok (.invokestatic 56, 3) := by decide +kernel
theorem dX1_fewestFor_40 : decode cX1_fewestFor 40 = .ok (.invokestatic 63, 3) := by decide +kernel
theorem dX1_fewestFor_43 : decode cX1_fewestFor 43 = .ok (.istore_n 2, 1) := by decide +kernel
theorem dX1_fewestFor_44 : decode cX1_fewestFor 44 = .ok (.iinc 3 1, 3) := by decide +kernel
theorem dX1_fewestFor_47 : decode cX1_fewestFor 47 = .ok (.goto (-42), 3) := by decide +kernel
theorem dX1_fewestFor_50 : decode cX1_fewestFor 50 = .ok (.iload_n 2, 1) := by decide +kernel
theorem dX1_fewestFor_51 : decode cX1_fewestFor 51 = .ok (.ireturn, 1) := by decide +kernel
theorem dX2_isFull_0 : decode cX2_isFull 0 = .ok (.aload_n 0, 1) := by decide +kernel
theorem dX2_isFull_1 : decode cX2_isFull 1 = .ok (.getfield 15, 3) := by decide +kernel
theorem dX2_isFull_4 : decode cX2_isFull 4 = .ok (.bipush 16, 2) := by decide +kernel
theorem dX2_isFull_6 : decode cX2_isFull 6 = .ok (.if_icmp .lt 7, 3) := by decide +kernel
theorem dX2_isFull_9 : decode cX2_isFull 9 = .ok (.iconst 1, 1) := by decide +kernel
theorem dX2_isFull_10 : decode cX2_isFull 10 = .ok (.goto 4, 3) := by decide +kernel
theorem dX2_isFull_13 : decode cX2_isFull 13 = .ok (.iconst 0, 1) := by decide +kernel
theorem dX2_isFull_14 : decode cX2_isFull 14 = .ok (.ireturn, 1) := by decide +kernel
theorem dX2_put_0 : decode cX2_put 0 = .ok (.aload_n 0, 1) := by decide +kernel
theorem dX2_put_1 : decode cX2_put 1 = .ok (.invokevirtual 19, 3) := by decide +kernel
theorem dX2_put_4 : decode cX2_put 4 = .ok (.ifCond .ne 23, 3) := by decide +kernel
theorem dX2_put_7 : decode cX2_put 7 = .ok (.aload_n 0, 1) := by decide +kernel
theorem dX2_put_8 : decode cX2_put 8 = .ok (.getfield 9, 3) := by decide +kernel
theorem dX2_put_11 : decode cX2_put 11 = .ok (.aload_n 0, 1) := by decide +kernel
theorem dX2_put_12 : decode cX2_put 12 = .ok (.getfield 15, 3) := by decide +kernel
theorem dX2_put_15 : decode cX2_put 15 = .ok (.iload_n 1, 1) := by decide +kernel
theorem dX2_put_16 : decode cX2_put 16 = .ok (.iastore, 1) := by decide +kernel
theorem dX2_put_17 : decode cX2_put 17 = .ok (.aload_n 0, 1) := by decide +kernel
theorem dX2_put_18 : decode cX2_put 18 = .ok (.dup, 1) := by decide +kernel
theorem dX2_put_19 : decode cX2_put 19 = .ok (.getfield 15, 3) := by decide +kernel
theorem dX2_put_22 : decode cX2_put 22 = .ok (.iconst 1, 1) := by decide +kernel
theorem dX2_put_23 : decode cX2_put 23 = .ok (.iadd, 1) := by decide +kernel
theorem dX2_put_24 : decode cX2_put 24 = .ok (.putfield 15, 3) := by decide +kernel
theorem dX2_put_27 : decode cX2_put 27 = .ok (.return_, 1) := by decide +kernel
theorem dX2_tellsYearsOf_0 : decode cX2_tellsYearsOf 0 = .ok (.iconst 0, 1) := by decide +kernel
theorem dX2_tellsYearsOf_1 : decode cX2_tellsYearsOf 1 = .ok (.istore_n 3, 1) := by decide +kernel
theorem dX2_tellsYearsOf_2 : decode cX2_tellsYearsOf 2 = .ok (.iload_n 3, 1) := by decide +kernel
theorem dX2_tellsYearsOf_3 : decode cX2_tellsYearsOf 3 = .ok (.aload_n 0, 1) := by decide +kernel
theorem dX2_tellsYearsOf_4 : decode cX2_tellsYearsOf 4 = .ok (.getfield 15, 3) := by decide +kernel
theorem dX2_tellsYearsOf_7 : decode cX2_tellsYearsOf 7 = .ok (.if_icmp .ge 35, 3) := by decide +kernel
theorem dX2_tellsYearsOf_10 : decode cX2_tellsYearsOf 10 = .ok (.iload_n 3, 1) := by decide +kernel
theorem dX2_tellsYearsOf_11 : decode cX2_tellsYearsOf 11 = .ok (.bipush 16, 2) := by decide +kernel
theorem dX2_tellsYearsOf_13 : decode cX2_tellsYearsOf 13 = .ok (.if_icmp .ge 29, 3) := by decide +kernel
theorem dX2_tellsYearsOf_16 : decode cX2_tellsYearsOf 16 = .ok (.aload_n 0, 1) := by decide +kernel
theorem dX2_tellsYearsOf_17 : decode cX2_tellsYearsOf 17 = .ok (.getfield 9, 3) := by decide +kernel
theorem dX2_tellsYearsOf_20 : decode cX2_tellsYearsOf 20 = .ok (.iload_n 3, 1) := by decide +kernel
theorem dX2_tellsYearsOf_21 : decode cX2_tellsYearsOf 21 = .ok (.iaload, 1) := by decide +kernel
theorem dX2_tellsYearsOf_22 : decode cX2_tellsYearsOf 22 = .ok (.aload_n 1, 1) := by decide +kernel
theorem dX2_tellsYearsOf_23 : decode cX2_tellsYearsOf 23 = .ok (.iload_n 3, 1) := by decide +kernel
theorem dX2_tellsYearsOf_24 : decode cX2_tellsYearsOf 24 = .ok (.iconst 5, 1) := by decide +kernel
theorem dX2_tellsYearsOf_25 : decode cX2_tellsYearsOf 25 = .ok (.imul, 1) := by decide +kernel
theorem dX2_tellsYearsOf_26 : decode cX2_tellsYearsOf 26 = .ok (.iconst 0, 1) := by decide +kernel
theorem dX2_tellsYearsOf_27 : decode cX2_tellsYearsOf 27 = .ok (.iload_n 2, 1) := by decide +kernel
theorem dX2_tellsYearsOf_28 : decode cX2_tellsYearsOf 28 = .ok (.invokevirtual 23, 3) := by decide +kernel
theorem dX2_tellsYearsOf_31 : decode cX2_tellsYearsOf 31 = .ok (.if_icmp .eq 5, 3) := by decide +kernel
theorem dX2_tellsYearsOf_34 : decode cX2_tellsYearsOf 34 = .ok (.iconst 0, 1) := by decide +kernel
theorem dX2_tellsYearsOf_35 : decode cX2_tellsYearsOf 35 = .ok (.ireturn, 1) := by decide +kernel
theorem dX2_tellsYearsOf_36 : decode cX2_tellsYearsOf 36 = .ok (.iinc 3 1, 3) := by decide +kernel
theorem dX2_tellsYearsOf_39 : decode cX2_tellsYearsOf 39 = .ok (.goto (-37), 3) := by decide +kernel
theorem dX2_tellsYearsOf_42 : decode cX2_tellsYearsOf 42 = .ok (.iconst 1, 1) := by decide +kernel
theorem dX2_tellsYearsOf_43 : decode cX2_tellsYearsOf 43 = .ok (.ireturn, 1) := by decide +kernel
theorem dX7_noYear_0 : decode cX7_noYear 0 = .ok (.iload_n 0, 1) := by decide +kernel
theorem dX7_noYear_1 : decode cX7_noYear 1 = .ok (.ifCond .lt 9, 3) := by decide +kernel
theorem dX7_noYear_4 : decode cX7_noYear 4 = .ok (.iload_n 0, 1) := by decide +kernel
theorem dX7_noYear_5 : decode cX7_noYear 5 = .ok (.bipush 12, 2) := by decide +kernel
theorem dX7_noYear_7 : decode cX7_noYear 7 = .ok (.if_icmp .lt 7, 3) := by decide +kernel
theorem dX7_noYear_10 : decode cX7_noYear 10 = .ok (.iconst 1, 1) := by decide +kernel
theorem dX7_noYear_11 : decode cX7_noYear 11 = .ok (.goto 4, 3) := by decide +kernel
theorem dX7_noYear_14 : decode cX7_noYear 14 = .ok (.iconst 0, 1) := by decide +kernel
theorem dX7_noYear_15 : decode cX7_noYear 15 = .ok (.ireturn, 1) := by decide +kernel
theorem dX2_firstNotGladOf_0 : decode cX2_firstNotGladOf 0 = .ok (.iconst 0, 1) := by decide +kernel
theorem dX2_firstNotGladOf_1 : decode cX2_firstNotGladOf 1 = .ok (.istore_n 2, 1) := by decide +kernel
theorem dX2_firstNotGladOf_2 : decode cX2_firstNotGladOf 2 = .ok (.iload_n 2, 1) := by decide +kernel
theorem dX2_firstNotGladOf_3 : decode cX2_firstNotGladOf 3 = .ok (.aload_n 0, 1) := by decide +kernel
theorem dX2_firstNotGladOf_4 : decode cX2_firstNotGladOf 4 = .ok (.getfield 15, 3) := by decide +kernel
theorem dX2_firstNotGladOf_7 : decode cX2_firstNotGladOf 7 = .ok (.if_icmp .ge 38, 3) := by decide +kernel
theorem dX2_firstNotGladOf_10 : decode cX2_firstNotGladOf 10 = .ok (.iload_n 2, 1) := by decide +kernel
theorem dX2_firstNotGladOf_11 : decode cX2_firstNotGladOf 11 = .ok (.bipush 16, 2) := by decide +kernel
theorem dX2_firstNotGladOf_13 : decode cX2_firstNotGladOf 13 = .ok (.if_icmp .ge 32, 3) := by decide +kernel
theorem dX2_firstNotGladOf_16 : decode cX2_firstNotGladOf 16 = .ok (.iload_n 2, 1) := by decide +kernel
theorem dX2_firstNotGladOf_17 : decode cX2_firstNotGladOf 17 = .ok (.invokestatic 29, 3) := by decide +kernel
theorem dX2_firstNotGladOf_20 : decode cX2_firstNotGladOf 20 = .ok (.ifCond .ne 17, 3) := by decide +kernel
theorem dX2_firstNotGladOf_23 : decode cX2_firstNotGladOf 23 = .ok (.aload_n 0, 1) := by decide +kernel
theorem dX2_firstNotGladOf_24 : decode cX2_firstNotGladOf 24 = .ok (.getfield 9, 3) := by decide +kernel
theorem dX2_firstNotGladOf_27 : decode cX2_firstNotGladOf 27 = .ok (.iload_n 2, 1) := by decide +kernel
theorem dX2_firstNotGladOf_28 : decode cX2_firstNotGladOf 28 = .ok (.iaload, 1) := by decide +kernel
theorem dX2_firstNotGladOf_29 : decode cX2_firstNotGladOf 29 = .ok (.aload_n 1, 1) := by decide +kernel
theorem dX2_firstNotGladOf_30 : decode cX2_firstNotGladOf 30 = .ok (.iload_n 2, 1) := by decide +kernel
theorem dX2_firstNotGladOf_31 : decode cX2_firstNotGladOf 31 = .ok (.invokevirtual 33, 3) := by decide +kernel
theorem dX2_firstNotGladOf_34 : decode cX2_firstNotGladOf 34 = .ok (.if_icmp .eq 5, 3) := by decide +kernel
theorem dX2_firstNotGladOf_37 : decode cX2_firstNotGladOf 37 = .ok (.iload_n 2, 1) := by decide +kernel
theorem dX2_firstNotGladOf_38 : decode cX2_firstNotGladOf 38 = .ok (.ireturn, 1) := by decide +kernel
theorem dX2_firstNotGladOf_39 : decode cX2_firstNotGladOf 39 = .ok (.iinc 2 1, 3) := by decide +kernel
theorem dX2_firstNotGladOf_42 : decode cX2_firstNotGladOf 42 = .ok (.goto (-40), 3) := by decide +kernel
theorem dX2_firstNotGladOf_45 : decode cX2_firstNotGladOf 45 = .ok (.bipush (-9), 2) := by decide +kernel
theorem dX2_firstNotGladOf_47 : decode cX2_firstNotGladOf 47 = .ok (.ireturn, 1) := by decide +kernel
theorem dX6_copyFrom_0 : decode cX6_copyFrom 0 = .ok (.aload_n 0, 1) := by decide +kernel
theorem dX6_copyFrom_1 : decode cX6_copyFrom 1 = .ok (.aload_n 1, 1) := by decide +kernel
theorem dX6_copyFrom_2 : decode cX6_copyFrom 2 = .ok (.getfield 19, 3) := by decide +kernel
theorem dX6_copyFrom_5 : decode cX6_copyFrom 5 = .ok (.putfield 19, 3) := by decide +kernel
theorem dX6_copyFrom_8 : decode cX6_copyFrom 8 = .ok (.aload_n 0, 1) := by decide +kernel
theorem dX6_copyFrom_9 : decode cX6_copyFrom 9 = .ok (.aload_n 1, 1) := by decide +kernel
theorem dX6_copyFrom_10 : decode cX6_copyFrom 10 = .ok (.getfield 22, 3) := by decide +kernel
theorem dX6_copyFrom_13 : decode cX6_copyFrom 13 = .ok (.putfield 22, 3) := by decide +kernel
theorem dX6_copyFrom_16 : decode cX6_copyFrom 16 = .ok (.aload_n 0, 1) := by decide +kernel
theorem dX6_copyFrom_17 : decode cX6_copyFrom 17 = .ok (.aload_n 1, 1) := by decide +kernel
theorem dX6_copyFrom_18 : decode cX6_copyFrom 18 = .ok (.getfield 9, 3) := by decide +kernel
theorem dX6_copyFrom_21 : decode cX6_copyFrom 21 = .ok (.putfield 9, 3) := by decide +kernel
theorem dX6_copyFrom_24 : decode cX6_copyFrom 24 = .ok (.aload_n 1, 1) := by decide +kernel
theorem dX6_copyFrom_25 : decode cX6_copyFrom 25 = .ok (.getfield 15, 3) := by decide +kernel
theorem dX6_copyFrom_28 : decode cX6_copyFrom 28 = .ok (.iconst 0, 1) := by decide +kernel
theorem dX6_copyFrom_29 : decode cX6_copyFrom 29 = .ok (.aload_n 0, 1) := by decide +kernel
theorem dX6_copyFrom_30 : decode cX6_copyFrom 30 = .ok (.getfield 15, 3) := by decide +kernel
theorem dX6_copyFrom_33 : decode cX6_copyFrom 33 = .ok (.iconst 0, 1) := by decide +kernel
theorem dX6_copyFrom_34 : decode cX6_copyFrom 34 = .ok (.bipush 12, 2) := by decide +kernel
theorem dX6_copyFrom_36 : decode cX6_copyFrom 36 = .ok (.invokestatic 25, 3) := by decide +kernel
theorem dX6_copyFrom_39 : decode cX6_copyFrom 39 = .ok (.return_, 1) := by decide +kernel
theorem dX3_copyFrom_0 : decode cX3_copyFrom 0 = .ok (.aload_n 0, 1) := by decide +kernel
theorem dX3_copyFrom_1 : decode cX3_copyFrom 1 = .ok (.aload_n 1, 1) := by decide +kernel
theorem dX3_copyFrom_2 : decode cX3_copyFrom 2 = .ok (.getfield 29, 3) := by decide +kernel
theorem dX3_copyFrom_5 : decode cX3_copyFrom 5 = .ok (.putfield 29, 3) := by decide +kernel
theorem dX3_copyFrom_8 : decode cX3_copyFrom 8 = .ok (.aload_n 0, 1) := by decide +kernel
theorem dX3_copyFrom_9 : decode cX3_copyFrom 9 = .ok (.aload_n 1, 1) := by decide +kernel
theorem dX3_copyFrom_10 : decode cX3_copyFrom 10 = .ok (.getfield 32, 3) := by decide +kernel
theorem dX3_copyFrom_13 : decode cX3_copyFrom 13 = .ok (.putfield 32, 3) := by decide +kernel
theorem dX3_copyFrom_16 : decode cX3_copyFrom 16 = .ok (.aload_n 0, 1) := by decide +kernel
theorem dX3_copyFrom_17 : decode cX3_copyFrom 17 = .ok (.aload_n 1, 1) := by decide +kernel
theorem dX3_copyFrom_18 : decode cX3_copyFrom 18 = .ok (.getfield 9, 3) := by decide +kernel
theorem dX3_copyFrom_21 : decode cX3_copyFrom 21 = .ok (.putfield 9, 3) := by decide +kernel
theorem dX3_copyFrom_24 : decode cX3_copyFrom 24 = .ok (.aload_n 0, 1) := by decide +kernel
theorem dX3_copyFrom_25 : decode cX3_copyFrom 25 = .ok (.aload_n 1, 1) := by decide +kernel
theorem dX3_copyFrom_26 : decode cX3_copyFrom 26 = .ok (.getfield 15, 3) := by decide +kernel
theorem dX3_copyFrom_29 : decode cX3_copyFrom 29 = .ok (.putfield 15, 3) := by decide +kernel
theorem dX3_copyFrom_32 : decode cX3_copyFrom 32 = .ok (.iconst 0, 1) := by decide +kernel
theorem dX3_copyFrom_33 : decode cX3_copyFrom 33 = .ok (.istore_n 2, 1) := by decide +kernel
theorem dX3_copyFrom_34 : decode cX3_copyFrom 34 = .ok (.iload_n 2, 1) := by decide +kernel
theorem dX3_copyFrom_35 : decode cX3_copyFrom 35 = .ok (.bipush 8, 2) := by decide +kernel
theorem dX3_copyFrom_37 : decode cX3_copyFrom 37 = .ok (.if_icmp .ge 36, 3) := by decide +kernel
theorem dX3_copyFrom_40 : decode cX3_copyFrom 40 = .ok (.aload_n 0, 1) := by decide +kernel
theorem dX3_copyFrom_41 : decode cX3_copyFrom 41 = .ok (.getfield 20, 3) := by decide +kernel
theorem dX3_copyFrom_44 : decode cX3_copyFrom 44 = .ok (.iload_n 2, 1) := by decide +kernel
theorem dX3_copyFrom_45 : decode cX3_copyFrom 45 = .ok (.aaload, 1) := by decide +kernel
theorem dX3_copyFrom_46 : decode cX3_copyFrom 46 = .ok (.aload_n 1, 1) := by decide +kernel
theorem dX3_copyFrom_47 : decode cX3_copyFrom 47 = .ok (.getfield 20, 3) := by decide +kernel
theorem dX3_copyFrom_50 : decode cX3_copyFrom 50 = .ok (.iload_n 2, 1) := by decide +kernel
theorem dX3_copyFrom_51 : decode cX3_copyFrom 51 = .ok (.aaload, 1) := by decide +kernel
theorem dX3_copyFrom_52 : decode cX3_copyFrom 52 = .ok (.invokevirtual 35, 3) := by decide +kernel
theorem dX3_copyFrom_55 : decode cX3_copyFrom 55 = .ok (.aload_n 0, 1) := by decide +kernel
theorem dX3_copyFrom_56 : decode cX3_copyFrom 56 = .ok (.getfield 24, 3) := by decide +kernel
theorem dX3_copyFrom_59 : decode cX3_copyFrom 59 = .ok (.iload_n 2, 1) := by decide +kernel
theorem dX3_copyFrom_60 : decode cX3_copyFrom 60 = .ok (.aload_n 1, 1) := by decide +kernel
theorem dX3_copyFrom_61 : decode cX3_copyFrom 61 = .ok (.getfield 24, 3) := by decide +kernel
theorem dX3_copyFrom_64 : decode cX3_copyFrom 64 = .ok (.iload_n 2, 1) := by decide +kernel
theorem dX3_copyFrom_65 : decode cX3_copyFrom 65 = .ok (.iaload, 1) := by decide +kernel
theorem dX3_copyFrom_66 : decode cX3_copyFrom 66 = .ok (.iastore, 1) := by decide +kernel
theorem dX3_copyFrom_67 : decode cX3_copyFrom 67 = .ok (.iinc 2 1, 3) := by decide +kernel
theorem dX3_copyFrom_70 : decode cX3_copyFrom 70 = .ok (.goto (-36), 3) := by decide +kernel
theorem dX3_copyFrom_73 : decode cX3_copyFrom 73 = .ok (.return_, 1) := by decide +kernel
theorem dX3_lacks_0 : decode cX3_lacks 0 = .ok (.iload_n 1, 1) := by decide +kernel
theorem dX3_lacks_1 : decode cX3_lacks 1 = .ok (.ifCond .lt 17, 3) := by decide +kernel
theorem dX3_lacks_4 : decode cX3_lacks 4 = .ok (.iload_n 1, 1) := by decide +kernel
theorem dX3_lacks_5 : decode cX3_lacks 5 = .ok (.aload_n 0, 1) := by decide +kernel
theorem dX3_lacks_6 : decode cX3_lacks 6 = .ok (.getfield 29, 3) := by decide +kernel
theorem dX3_lacks_9 : decode cX3_lacks 9 = .ok (.if_icmp .ge 9, 3) := by decide +kernel
theorem dX3_lacks_12 : decode cX3_lacks 12 = .ok (.iload_n 1, 1) := by decide +kernel
theorem dX3_lacks_13 : decode cX3_lacks 13 = .ok (.bipush 8, 2) := by decide +kernel
theorem dX3_lacks_15 : decode cX3_lacks 15 = .ok (.if_icmp .lt 7, 3) := by decide +kernel
theorem dX3_lacks_18 : decode cX3_lacks 18 = .ok (.iconst 1, 1) := by decide +kernel
theorem dX3_lacks_19 : decode cX3_lacks 19 = .ok (.goto 4, 3) := by decide +kernel
theorem dX3_lacks_22 : decode cX3_lacks 22 = .ok (.iconst 0, 1) := by decide +kernel
theorem dX3_lacks_23 : decode cX3_lacks 23 = .ok (.ireturn, 1) := by decide +kernel
theorem dX3_lacksTwo_0 : decode cX3_lacksTwo 0 = .ok (.aload_n 0, 1) := by decide +kernel
theorem dX3_lacksTwo_1 : decode cX3_lacksTwo 1 = .ok (.iload_n 1, 1) := by decide +kernel
theorem dX3_lacksTwo_2 : decode cX3_lacksTwo 2 = .ok (.invokevirtual 39, 3) := by decide +kernel
theorem dX3_lacksTwo_5 : decode cX3_lacksTwo 5 = .ok (.ifCond .ne 16, 3) := by decide +kernel
theorem dX3_lacksTwo_8 : decode cX3_lacksTwo 8 = .ok (.aload_n 0, 1) := by decide +kernel
theorem dX3_lacksTwo_9 : decode cX3_lacksTwo 9 = .ok (.iload_n 2, 1) := by decide +kernel
theorem dX3_lacksTwo_10 : decode cX3_lacksTwo 10 = .ok (.invokevirtual 39, 3) := by decide +kernel
theorem dX3_lacksTwo_13 : decode cX3_lacksTwo 13 = .ok (.ifCond .ne 8, 3) := by decide +kernel
theorem dX3_lacksTwo_16 : decode cX3_lacksTwo 16 = .ok (.iload_n 1, 1) := by decide +kernel
theorem dX3_lacksTwo_17 : decode cX3_lacksTwo 17 = .ok (.iload_n 2, 1) := by decide +kernel
theorem dX3_lacksTwo_18 : decode cX3_lacksTwo 18 = .ok (.if_icmp .ne 7, 3) := by decide +kernel
theorem dX3_lacksTwo_21 : decode cX3_lacksTwo 21 = .ok (.iconst 1, 1) := by decide +kernel
theorem dX3_lacksTwo_22 : decode cX3_lacksTwo 22 = .ok (.goto 4, 3) := by decide +kernel
theorem dX3_lacksTwo_25 : decode cX3_lacksTwo 25 = .ok (.iconst 0, 1) := by decide +kernel
theorem dX3_lacksTwo_26 : decode cX3_lacksTwo 26 = .ok (.ireturn, 1) := by decide +kernel
theorem dX6_begin_0 : decode cX6_begin 0 = .ok (.aload_n 0, 1) := by decide +kernel
theorem dX6_begin_1 : decode cX6_begin 1 = .ok (.iload_n 1, 1) := by decide +kernel
theorem dX6_begin_2 : decode cX6_begin 2 = .ok (.putfield 19, 3) := by decide +kernel
theorem dX6_begin_5 : decode cX6_begin 5 = .ok (.aload_n 0, 1) := by decide +kernel
theorem dX6_begin_6 : decode cX6_begin 6 = .ok (.iload_n 2, 1) := by decide +kernel
theorem dX6_begin_7 : decode cX6_begin 7 = .ok (.putfield 22, 3) := by decide +kernel
theorem dX6_begin_10 : decode cX6_begin 10 = .ok (.aload_n 0, 1) := by decide +kernel
theorem dX6_begin_11 : decode cX6_begin 11 = .ok (.bipush (-9), 2) := by decide +kernel
theorem dX6_begin_13 : decode cX6_begin 13 = .ok (.putfield 9, 3) := by decide +kernel
theorem dX6_begin_16 : decode cX6_begin 16 = .ok (.iconst 0, 1) := by decide +kernel
theorem dX6_begin_17 : decode cX6_begin 17 = .ok (.istore_n 3, 1) := by decide +kernel
theorem dX6_begin_18 : decode cX6_begin 18 = .ok (.iload_n 3, 1) := by decide +kernel
theorem dX6_begin_19 : decode cX6_begin 19 = .ok (.bipush 12, 2) := by decide +kernel
theorem dX6_begin_21 : decode cX6_begin 21 = .ok (.if_icmp .ge 16, 3) := by decide +kernel
theorem dX6_begin_24 : decode cX6_begin 24 = .ok (.aload_n 0, 1) := by decide +kernel
theorem dX6_begin_25 : decode cX6_begin 25 = .ok (.getfield 15, 3) := by decide +kernel
theorem dX6_begin_28 : decode cX6_begin 28 = .ok (.iload_n 3, 1) := by decide +kernel
theorem dX6_begin_29 : decode cX6_begin 29 = .ok (.iconst 0, 1) := by decide +kernel
theorem dX6_begin_30 : decode cX6_begin 30 = .ok (.iastore, 1) := by decide +kernel
theorem dX6_begin_31 : decode cX6_begin 31 = .ok (.iinc 3 1, 3) := by decide +kernel
theorem dX6_begin_34 : decode cX6_begin 34 = .ok (.goto (-16), 3) := by decide +kernel
theorem dX6_begin_37 : decode cX6_begin 37 = .ok (.return_, 1) := by decide +kernel
theorem dX3_add_0 : decode cX3_add 0 = .ok (.aload_n 0, 1) := by decide +kernel
theorem dX3_add_1 : decode cX3_add 1 = .ok (.getfield 29, 3) := by decide +kernel
theorem dX3_add_4 : decode cX3_add 4 = .ok (.bipush 8, 2) := by decide +kernel
theorem dX3_add_6 : decode cX3_add 6 = .ok (.if_icmp .lt 5, 3) := by decide +kernel
theorem dX3_add_9 : decode cX3_add 9 = .ok (.iconst 0, 1) := by decide +kernel
theorem dX3_add_10 : decode cX3_add 10 = .ok (.ireturn, 1) := by decide +kernel
theorem dX3_add_11 : decode cX3_add 11 = .ok (.aload_n 0, 1) := by decide +kernel
theorem dX3_add_12 : decode cX3_add 12 = .ok (.aload_n 0, 1) := by decide +kernel
theorem dX3_add_13 : decode cX3_add 13 = .ok (.getfield 29, 3) := by decide +kernel
theorem dX3_add_16 : decode cX3_add 16 = .ok (.invokevirtual 43, 3) := by decide +kernel
theorem dX3_add_19 : decode cX3_add 19 = .ok (.iload_n 1, 1) := by decide +kernel
theorem dX3_add_20 : decode cX3_add 20 = .ok (.iload_n 2, 1) := by decide +kernel
theorem dX3_add_21 : decode cX3_add 21 = .ok (.invokevirtual 47, 3) := by decide +kernel
theorem dX3_add_24 : decode cX3_add 24 = .ok (.aload_n 0, 1) := by decide +kernel
theorem dX3_add_25 : decode cX3_add 25 = .ok (.dup, 1) := by decide +kernel
theorem dX3_add_26 : decode cX3_add 26 = .ok (.getfield 29, 3) := by decide +kernel
theorem dX3_add_29 : decode cX3_add 29 = .ok (.iconst 1, 1) := by decide +kernel
theorem dX3_add_30 : decode cX3_add 30 = .ok (.iadd, 1) := by decide +kernel
theorem dX3_add_31 : decode cX3_add 31 = .ok (.putfield 29, 3) := by decide +kernel
theorem dX3_add_34 : decode cX3_add 34 = .ok (.iconst 1, 1) := by decide +kernel
theorem dX3_add_35 : decode cX3_add 35 = .ok (.ireturn, 1) := by decide +kernel
theorem dX6_makeGlad_0 : decode cX6_makeGlad 0 = .ok (.iload_n 1, 1) := by decide +kernel
theorem dX6_makeGlad_1 : decode cX6_makeGlad 1 = .ok (.ifCond .lt 16, 3) := by decide +kernel
theorem dX6_makeGlad_4 : decode cX6_makeGlad 4 = .ok (.iload_n 1, 1) := by decide +kernel
theorem dX6_makeGlad_5 : decode cX6_makeGlad 5 = .ok (.bipush 12, 2) := by decide +kernel
theorem dX6_makeGlad_7 : decode cX6_makeGlad 7 = .ok (.if_icmp .ge 10, 3) := by decide +kernel
theorem dX6_makeGlad_10 : decode cX6_makeGlad 10 = .ok (.aload_n 0, 1) := by decide +kernel
theorem dX6_makeGlad_11 : decode cX6_makeGlad 11 = .ok (.getfield 15, 3) := by decide +kernel
theorem dX6_makeGlad_14 : decode cX6_makeGlad 14 = .ok (.iload_n 1, 1) := by decide +kernel
theorem dX6_makeGlad_15 : decode cX6_makeGlad 15 = .ok (.iload_n 2, 1) := by decide +kernel
theorem dX6_makeGlad_16 : decode cX6_makeGlad 16 = .ok (.iastore, 1) := by decide +kernel
theorem dX6_makeGlad_17 : decode cX6_makeGlad 17 = .ok (.return_, 1) := by decide +kernel
theorem dX3_makeGlad_0 : decode cX3_makeGlad 0 = .ok (.aload_n 0, 1) := by decide +kernel
theorem dX3_makeGlad_1 : decode cX3_makeGlad 1 = .ok (.iload_n 1, 1) := by decide +kernel
theorem dX3_makeGlad_2 : decode cX3_makeGlad 2 = .ok (.invokevirtual 39, 3) := by decide +kernel
theorem dX3_makeGlad_5 : decode cX3_makeGlad 5 = .ok (.ifCond .ne 22, 3) := by decide +kernel
theorem dX3_makeGlad_8 : decode cX3_makeGlad 8 = .ok (.iload_n 2, 1) := by decide +kernel
theorem dX3_makeGlad_9 : decode cX3_makeGlad 9 = .ok (.invokestatic 51, 3) := by decide +kernel
theorem dX3_makeGlad_12 : decode cX3_makeGlad 12 = .ok (.ifCond .ne 15, 3) := by decide +kernel
theorem dX3_makeGlad_15 : decode cX3_makeGlad 15 = .ok (.iload_n 3, 1) := by decide +kernel
theorem dX3_makeGlad_16 : decode cX3_makeGlad 16 = .ok (.invokestatic 51, 3) := by decide +kernel
theorem dX3_makeGlad_19 : decode cX3_makeGlad 19 = .ok (.ifCond .ne 8, 3) := by decide +kernel
theorem dX3_makeGlad_22 : decode cX3_makeGlad 22 = .ok (.iload_n 2, 1) := by decide +kernel
theorem dX3_makeGlad_23 : decode cX3_makeGlad 23 = .ok (.iload_n 3, 1) := by decide +kernel
theorem dX3_makeGlad_24 : decode cX3_makeGlad 24 = .ok (.if_icmp .le 5, 3) := by decide +kernel
theorem dX3_makeGlad_27 : decode cX3_makeGlad 27 = .ok (.iconst 0, 1) := by decide +kernel
theorem dX3_makeGlad_28 : decode cX3_makeGlad 28 = .ok (.ireturn, 1) := by decide +kernel
theorem dX3_makeGlad_29 : decode cX3_makeGlad 29 = .ok (.iload_n 2, 1) := by decide +kernel
theorem dX3_makeGlad_30 : decode cX3_makeGlad 30 = .ok (.istore 5, 2) := by decide +kernel
theorem dX3_makeGlad_32 : decode cX3_makeGlad 32 = .ok (.iload 5, 2) := by decide +kernel
theorem dX3_makeGlad_34 : decode cX3_makeGlad 34 = .ok (.iload_n 3, 1) := by decide +kernel
theorem dX3_makeGlad_35 : decode cX3_makeGlad 35 = .ok (.if_icmp .gt 21, 3) := by decide +kernel
theorem dX3_makeGlad_38 : decode cX3_makeGlad 38 = .ok (.aload_n 0, 1) := by decide +kernel
theorem dX3_makeGlad_39 : decode cX3_makeGlad 39 = .ok (.iload_n 1, 1) := by decide +kernel
theorem dX3_makeGlad_40 : decode cX3_makeGlad 40 = .ok (.invokevirtual 43, 3) := by decide +kernel
theorem dX3_makeGlad_43 : decode cX3_makeGlad 43 = .ok (.iload 5, 2) := by decide +kernel
theorem dX3_makeGlad_45 : decode cX3_makeGlad 45 = .ok (.iload 4, 2) := by decide +kernel
theorem dX3_makeGlad_47 : decode cX3_makeGlad 47 = .ok (.invokevirtual 54, 3) := by decide +kernel
theorem dX3_makeGlad_50 : decode cX3_makeGlad 50 = .ok (.iinc 5 1, 3) := by decide +kernel
theorem dX3_makeGlad_53 : decode cX3_makeGlad 53 = .ok (.goto (-21), 3) := by decide +kernel
theorem dX3_makeGlad_56 : decode cX3_makeGlad 56 = .ok (.iconst 1, 1) := by decide +kernel
theorem dX3_makeGlad_57 : decode cX3_makeGlad 57 = .ok (.ireturn, 1) := by decide +kernel
theorem dX3_moveTo_0 : decode cX3_moveTo 0 = .ok (.iload_n 1, 1) := by decide +kernel
theorem dX3_moveTo_1 : decode cX3_moveTo 1 = .ok (.invokestatic 51, 3) := by decide +kernel
theorem dX3_moveTo_4 : decode cX3_moveTo 4 = .ok (.ifCond .eq 5, 3) := by decide +kernel
theorem dX3_moveTo_7 : decode cX3_moveTo 7 = .ok (.iconst 0, 1) := by decide +kernel
theorem dX3_moveTo_8 : decode cX3_moveTo 8 = .ok (.ireturn, 1) := by decide +kernel
theorem dX3_moveTo_9 : decode cX3_moveTo 9 = .ok (.aload_n 0, 1) := by decide +kernel
theorem dX3_moveTo_10 : decode cX3_moveTo 10 = .ok (.iload_n 1, 1) := by decide +kernel
theorem dX3_moveTo_11 : decode cX3_moveTo 11 = .ok (.putfield 32, 3) := by decide +kernel
theorem dX3_moveTo_14 : decode cX3_moveTo 14 = .ok (.iconst 1, 1) := by decide +kernel
theorem dX3_moveTo_15 : decode cX3_moveTo 15 = .ok (.ireturn, 1) := by decide +kernel
theorem dX3_areHalves_0 : decode cX3_areHalves 0 = .ok (.aload_n 0, 1) := by decide +kernel
theorem dX3_areHalves_1 : decode cX3_areHalves 1 = .ok (.iload_n 1, 1) := by decide +kernel
theorem dX3_areHalves_2 : decode cX3_areHalves 2 = .ok (.iload_n 2, 1) := by decide +kernel
theorem dX3_areHalves_3 : decode cX3_areHalves 3 = .ok (.invokevirtual 57, 3) := by decide +kernel
theorem dX3_areHalves_6 : decode cX3_areHalves 6 = .ok (.ifCond .ne 21, 3) := by decide +kernel
theorem dX3_areHalves_9 : decode cX3_areHalves 9 = .ok (.aload_n 0, 1) := by decide +kernel
theorem dX3_areHalves_10 : decode cX3_areHalves 10 = .ok (.getfield 24, 3) := by decide +kernel
theorem dX3_areHalves_13 : decode cX3_areHalves 13 = .ok (.iload_n 1, 1) := by decide +kernel
theorem dX3_areHalves_14 : decode cX3_areHalves 14 = .ok (.iaload, 1) := by decide +kernel
theorem dX3_areHalves_15 : decode cX3_areHalves 15 = .ok (.iload_n 2, 1) := by decide +kernel
theorem dX3_areHalves_16 : decode cX3_areHalves 16 = .ok (.ishr, 1) := by decide +kernel
theorem dX3_areHalves_17 : decode cX3_areHalves 17 = .ok (.iconst 1, 1) := by decide +kernel
theorem dX3_areHalves_18 : decode cX3_areHalves 18 = .ok (.iand, 1) := by decide +kernel
theorem dX3_areHalves_19 : decode cX3_areHalves 19 = .ok (.iconst 1, 1) := by decide +kernel
theorem dX3_areHalves_20 : decode cX3_areHalves 20 = .ok (.if_icmp .ne 7, 3) := by decide +kernel
theorem dX3_areHalves_23 : decode cX3_areHalves 23 = .ok (.iconst 1, 1) := by decide +kernel
theorem dX3_areHalves_24 : decode cX3_areHalves 24 = .ok (.goto 4, 3) := by decide +kernel
theorem dX3_areHalves_27 : decode cX3_areHalves 27 = .ok (.iconst 0, 1) := by decide +kernel
theorem dX3_areHalves_28 : decode cX3_areHalves 28 = .ok (.ireturn, 1) := by decide +kernel
theorem dX3_turnHalves_0 : decode cX3_turnHalves 0 = .ok (.aload_n 0, 1) := by decide +kernel
theorem dX3_turnHalves_1 : decode cX3_turnHalves 1 = .ok (.iload_n 1, 1) := by decide +kernel
theorem dX3_turnHalves_2 : decode cX3_turnHalves 2 = .ok (.iload_n 2, 1) := by decide +kernel
theorem dX3_turnHalves_3 : decode cX3_turnHalves 3 = .ok (.invokevirtual 57, 3) := by decide +kernel
theorem dX3_turnHalves_6 : decode cX3_turnHalves 6 = .ok (.ifCond .eq 5, 3) := by decide +kernel
theorem dX3_turnHalves_9 : decode cX3_turnHalves 9 = .ok (.iconst 0, 1) := by decide +kernel
theorem dX3_turnHalves_10 : decode cX3_turnHalves 10 = .ok (.ireturn, 1) := by decide +kernel
theorem dX3_turnHalves_11 : decode cX3_turnHalves 11 = .ok (.aload_n 0, 1) := by decide +kernel
theorem dX3_turnHalves_12 : decode cX3_turnHalves 12 = .ok (.getfield 24, 3) := by decide +kernel
theorem dX3_turnHalves_15 : decode cX3_turnHalves 15 = .ok (.iload_n 1, 1) := by decide +kernel
theorem dX3_turnHalves_16 : decode cX3_turnHalves 16 = .ok (.dup2, 1) := by decide +kernel
theorem dX3_turnHalves_17 : decode cX3_turnHalves 17 = .ok (.iaload, 1) := by decide +kernel
theorem dX3_turnHalves_18 : decode cX3_turnHalves 18 = .ok (.iconst 1, 1) := by decide +kernel
theorem dX3_turnHalves_19 : decode cX3_turnHalves 19 = .ok (.iload_n 2, 1) := by decide +kernel
theorem dX3_turnHalves_20 : decode cX3_turnHalves 20 = .ok (.ishl, 1) := by decide +kernel
theorem dX3_turnHalves_21 : decode cX3_turnHalves 21 = .ok (.ixor, 1) := by decide +kernel
theorem dX3_turnHalves_22 : decode cX3_turnHalves 22 = .ok (.iastore, 1) := by decide +kernel
theorem dX3_turnHalves_23 : decode cX3_turnHalves 23 = .ok (.aload_n 0, 1) := by decide +kernel
theorem dX3_turnHalves_24 : decode cX3_turnHalves 24 = .ok (.getfield 24, 3) := by decide +kernel
theorem dX3_turnHalves_27 : decode cX3_turnHalves 27 = .ok (.iload_n 2, 1) := by decide +kernel
theorem dX3_turnHalves_28 : decode cX3_turnHalves 28 = .ok (.dup2, 1) := by decide +kernel
theorem dX3_turnHalves_29 : decode cX3_turnHalves 29 = .ok (.iaload, 1) := by decide +kernel
theorem dX3_turnHalves_30 : decode cX3_turnHalves 30 = .ok (.iconst 1, 1) := by decide +kernel
theorem dX3_turnHalves_31 : decode cX3_turnHalves 31 = .ok (.iload_n 1, 1) := by decide +kernel
theorem dX3_turnHalves_32 : decode cX3_turnHalves 32 = .ok (.ishl, 1) := by decide +kernel
theorem dX3_turnHalves_33 : decode cX3_turnHalves 33 = .ok (.ixor, 1) := by decide +kernel
theorem dX3_turnHalves_34 : decode cX3_turnHalves 34 = .ok (.iastore, 1) := by decide +kernel
theorem dX3_turnHalves_35 : decode cX3_turnHalves 35 = .ok (.iconst 1, 1) := by decide +kernel
theorem dX3_turnHalves_36 : decode cX3_turnHalves 36 = .ok (.ireturn, 1) := by decide +kernel
theorem dX3_glue_0 : decode cX3_glue 0 = .ok (.aload_n 0, 1) := by decide +kernel
theorem dX3_glue_1 : decode cX3_glue 1 = .ok (.iload_n 1, 1) := by decide +kernel
theorem dX3_glue_2 : decode cX3_glue 2 = .ok (.invokevirtual 39, 3) := by decide +kernel
theorem dX3_glue_5 : decode cX3_glue 5 = .ok (.ifCond .ne 29, 3) := by decide +kernel
theorem dX3_glue_8 : decode cX3_glue 8 = .ok (.aload_n 0, 1) := by decide +kernel
theorem dX3_glue_9 : decode cX3_glue 9 = .ok (.iload_n 1, 1) := by decide +kernel
theorem dX3_glue_10 : decode cX3_glue 10 = .ok (.invokevirtual 43, 3) := by decide +kernel
theorem dX3_glue_13 : decode cX3_glue 13 = .ok (.invokevirtual 61, 3) := by decide +kernel
theorem dX3_glue_16 : decode cX3_glue 16 = .ok (.ifCond .ne 18, 3) := by decide +kernel
theorem dX3_glue_19 : decode cX3_glue 19 = .ok (.aload_n 0, 1) := by decide +kernel
theorem dX3_glue_20 : decode cX3_glue 20 = .ok (.iload_n 1, 1) := by decide +kernel
theorem dX3_glue_21 : decode cX3_glue 21 = .ok (.invokevirtual 43, 3) := by decide +kernel
theorem dX3_glue_24 : decode cX3_glue 24 = .ok (.invokevirtual 65, 3) := by decide +kernel
theorem dX3_glue_27 : decode cX3_glue 27 = .ok (.aload_n 0, 1) := by decide +kernel
theorem dX3_glue_28 : decode cX3_glue 28 = .ok (.getfield 9, 3) := by decide +kernel
theorem dX3_glue_31 : decode cX3_glue 31 = .ok (.if_icmp .le 5, 3) := by decide +kernel
theorem dX3_glue_34 : decode cX3_glue 34 = .ok (.iconst 0, 1) := by decide +kernel
theorem dX3_glue_35 : decode cX3_glue 35 = .ok (.ireturn, 1) := by decide +kernel
theorem dX3_glue_36 : decode cX3_glue 36 = .ok (.aload_n 0, 1) := by decide +kernel
theorem dX3_glue_37 : decode cX3_glue 37 = .ok (.dup, 1) := by decide +kernel
theorem dX3_glue_38 : decode cX3_glue 38 = .ok (.getfield 9, 3) := by decide +kernel
theorem dX3_glue_41 : decode cX3_glue 41 = .ok (.aload_n 0, 1) := by decide +kernel
theorem dX3_glue_42 : decode cX3_glue 42 = .ok (.iload_n 1, 1) := by decide +kernel
theorem dX3_glue_43 : decode cX3_glue 43 = .ok (.invokevirtual 43, 3) := by decide +kernel
theorem dX3_glue_46 : decode cX3_glue 46 = .ok (.invokevirtual 65, 3) := by decide +kernel
theorem dX3_glue_49 : decode cX3_glue 49 = .ok (.isub, 1) := by decide +kernel
theorem dX3_glue_50 : decode cX3_glue 50 = .ok (.putfield 9, 3) := by decide +kernel
theorem dX3_glue_53 : decode cX3_glue 53 = .ok (.aload_n 0, 1) := by decide +kernel
theorem dX3_glue_54 : decode cX3_glue 54 = .ok (.iload_n 1, 1) := by decide +kernel
theorem dX3_glue_55 : decode cX3_glue 55 = .ok (.invokevirtual 43, 3) := by decide +kernel
theorem dX3_glue_58 : decode cX3_glue 58 = .ok (.aload_n 0, 1) := by decide +kernel
theorem dX3_glue_59 : decode cX3_glue 59 = .ok (.iload_n 1, 1) := by decide +kernel
theorem dX3_glue_60 : decode cX3_glue 60 = .ok (.invokevirtual 43, 3) := by decide +kernel
theorem dX3_glue_63 : decode cX3_glue 63 = .ok (.iload_n 2, 1) := by decide +kernel
theorem dX3_glue_64 : decode cX3_glue 64 = .ok (.iload_n 3, 1) := by decide +kernel
theorem dX3_glue_65 : decode cX3_glue 65 = .ok (.aload_n 0, 1) := by decide +kernel
theorem dX3_glue_66 : decode cX3_glue 66 = .ok (.getfield 32, 3) := by decide +kernel
theorem dX3_glue_69 : decode cX3_glue 69 = .ok (.invokevirtual 69, 3) := by decide +kernel
theorem dX3_glue_72 : decode cX3_glue 72 = .ok (.putfield 73, 3) := by decide +kernel
theorem dX3_glue_75 : decode cX3_glue 75 = .ok (.iconst 1, 1) := by decide +kernel
theorem dX3_glue_76 : decode cX3_glue 76 = .ok (.ireturn, 1) := by decide +kernel
theorem dX3_countHalves_0 : decode cX3_countHalves 0 = .ok (.iconst 0, 1) := by decide +kernel
theorem dX3_countHalves_1 : decode cX3_countHalves 1 = .ok (.istore_n 1, 1) := by decide +kernel
theorem dX3_countHalves_2 : decode cX3_countHalves 2 = .ok (.iconst 0, 1) := by decide +kernel
theorem dX3_countHalves_3 : decode cX3_countHalves 3 = .ok (.istore_n 2, 1) := by decide +kernel
theorem dX3_countHalves_4 : decode cX3_countHalves 4 = .ok (.iload_n 2, 1) := by decide +kernel
theorem dX3_countHalves_5 : decode cX3_countHalves 5 = .ok (.aload_n 0, 1) := by decide +kernel
theorem dX3_countHalves_6 : decode cX3_countHalves 6 = .ok (.getfield 29, 3) := by decide +kernel
theorem dX3_countHalves_9 : decode cX3_countHalves 9 = .ok (.if_icmp .ge 44, 3) := by decide +kernel
theorem dX3_countHalves_12 : decode cX3_countHalves 12 = .ok (.iload_n 2, 1) := by decide +kernel
theorem dX3_countHalves_13 : decode cX3_countHalves 13 = .ok (.iconst 1, 1) := by decide +kernel
theorem dX3_countHalves_14 : decode cX3_countHalves 14 = .ok (.iadd, 1) := by decide +kernel
theorem dX3_countHalves_15 : decode cX3_countHalves 15 = .ok (.istore_n 3, 1) := by decide +kernel
theorem dX3_countHalves_16 : decode cX3_countHalves 16 = .ok (.iload_n 3, 1) := by decide +kernel
theorem dX3_countHalves_17 : decode cX3_countHalves 17 = .ok (.aload_n 0, 1) := by decide +kernel
theorem dX3_countHalves_18 : decode cX3_countHalves 18 = .ok (.getfield 29, 3) := by decide +kernel
theorem dX3_countHalves_21 : decode cX3_countHalves 21 = .ok (.if_icmp .ge 26, 3) := by decide +kernel
theorem dX3_countHalves_24 : decode cX3_countHalves 24 = .ok (.iload_n 1, 1) := by decide +kernel
theorem dX3_countHalves_25 : decode cX3_countHalves 25 = .ok (.aload_n 0, 1) := by decide +kernel
theorem dX3_countHalves_26 : decode cX3_countHalves 26 = .ok (.iload_n 2, 1) := by decide +kernel
theorem dX3_countHalves_27 : decode cX3_countHalves 27 = .ok (.iload_n 3, 1) := by decide +kernel
theorem dX3_countHalves_28 : decode cX3_countHalves 28 = .ok (.invokevirtual 80, 3) := by decide +kernel
theorem dX3_countHalves_31 : decode cX3_countHalves 31 = .ok (.ifCond .eq 7, 3) := by decide +kernel
theorem dX3_countHalves_34 : decode cX3_countHalves 34 = .ok (.iconst 1, 1) := by decide +kernel
theorem dX3_countHalves_35 : decode cX3_countHalves 35 = .ok (.goto 4, 3) := by decide +kernel
theorem dX3_countHalves_38 : decode cX3_countHalves 38 = .ok (.iconst 0, 1) := by decide +kernel
theorem dX3_countHalves_39 : decode cX3_countHalves 39 = .ok (.iadd, 1) := by decide +kernel
theorem dX3_countHalves_40 : decode cX3_countHalves 40 = .ok (.istore_n 1, 1) := by decide +kernel
theorem dX3_countHalves_41 : decode cX3_countHalves 41 = .ok (.iinc 3 1, 3) := by decide +kernel
theorem dX3_countHalves_44 : decode cX3_countHalves 44 = .ok (.goto (-28), 3) := by decide +kernel
theorem dX3_countHalves_47 : decode cX3_countHalves 47 = .ok (.iinc 2 1, 3) := by decide +kernel
theorem dX3_countHalves_50 : decode cX3_countHalves 50 = .ok (.goto (-46), 3) := by decide +kernel
theorem dX3_countHalves_53 : decode cX3_countHalves 53 = .ok (.iload_n 1, 1) := by decide +kernel
theorem dX3_countHalves_54 : decode cX3_countHalves 54 = .ok (.ireturn, 1) := by decide +kernel
theorem dX3_setInOneYear_0 : decode cX3_setInOneYear 0 = .ok (.aload_n 0, 1) := by decide +kernel
theorem dX3_setInOneYear_1 : decode cX3_setInOneYear 1 = .ok (.iload_n 1, 1) := by decide +kernel
theorem dX3_setInOneYear_2 : decode cX3_setInOneYear 2 = .ok (.invokevirtual 43, 3) := by decide +kernel
theorem dX3_setInOneYear_5 : decode cX3_setInOneYear 5 = .ok (.invokevirtual 61, 3) := by decide +kernel
theorem dX3_setInOneYear_8 : decode cX3_setInOneYear 8 = .ok (.ifCond .eq 26, 3) := by decide +kernel
theorem dX3_setInOneYear_11 : decode cX3_setInOneYear 11 = .ok (.aload_n 0, 1) := by decide +kernel
theorem dX3_setInOneYear_12 : decode cX3_setInOneYear 12 = .ok (.iload_n 1, 1) := by decide +kernel
theorem dX3_setInOneYear_13 : decode cX3_setInOneYear 13 = .ok (.invokevirtual 43, 3) := by decide +kernel
theorem dX3_setInOneYear_16 : decode cX3_setInOneYear 16 = .ok (.getfield 73, 3) := by decide +kernel
theorem dX3_setInOneYear_19 : decode cX3_setInOneYear 19 = .ok (.aload_n 0, 1) := by decide +kernel
theorem dX3_setInOneYear_20 : decode cX3_setInOneYear 20 = .ok (.iload_n 2, 1) := by decide +kernel
theorem dX3_setInOneYear_21 : decode cX3_setInOneYear 21 = .ok (.invokevirtual 43, 3) := by decide +kernel
theorem dX3_setInOneYear_24 : decode cX3_setInOneYear 24 = .ok (.getfield 73, 3) := by decide +kernel
theorem dX3_setInOneYear_27 : decode cX3_setInOneYear 27 = .ok (.if_icmp .ne 7, 3) := by decide +kernel
theorem dX3_setInOneYear_30 : decode cX3_setInOneYear 30 = .ok (.iconst 1, 1) := by decide +kernel
theorem dX3_setInOneYear_31 : decode cX3_setInOneYear 31 = .ok (.goto 4, 3) := by decide +kernel
theorem dX3_setInOneYear_34 : decode cX3_setInOneYear 34 = .ok (.iconst 0, 1) := by decide +kernel
theorem dX3_setInOneYear_35 : decode cX3_setInOneYear 35 = .ok (.ireturn, 1) := by decide +kernel
theorem dX3_countAgreeing_0 : decode cX3_countAgreeing 0 = .ok (.iconst 0, 1) := by decide +kernel
theorem dX3_countAgreeing_1 : decode cX3_countAgreeing 1 = .ok (.istore_n 1, 1) := by decide +kernel
theorem dX3_countAgreeing_2 : decode cX3_countAgreeing 2 = .ok (.iconst 0, 1) := by decide +kernel
theorem dX3_countAgreeing_3 : decode cX3_countAgreeing 3 = .ok (.istore_n 2, 1) := by decide +kernel
theorem dX3_countAgreeing_4 : decode cX3_countAgreeing 4 = .ok (.iload_n 2, 1) := by decide +kernel
theorem dX3_countAgreeing_5 : decode cX3_countAgreeing 5 = .ok (.aload_n 0, 1) := by decide +kernel
theorem dX3_countAgreeing_6 : decode cX3_countAgreeing 6 = .ok (.getfield 29, 3) := by decide +kernel
theorem dX3_countAgreeing_9 : decode cX3_countAgreeing 9 = .ok (.if_icmp .ge 53, 3) := by decide +kernel
theorem dX3_countAgreeing_12 : decode cX3_countAgreeing 12 = .ok (.iload_n 2, 1) := by decide +kernel
theorem dX3_countAgreeing_13 : decode cX3_countAgreeing 13 = .ok (.iconst 1, 1) := by decide +kernel
theorem dX3_countAgreeing_14 : decode cX3_countAgreeing 14 = .ok (.iadd, 1) := by decide +kernel
theorem dX3_countAgreeing_15 : decode cX3_countAgreeing 15 = .ok (.istore_n 3, 1) := by decide +kernel
theorem dX3_countAgreeing_16 : decode cX3_countAgreeing 16 = .ok (.iload_n 3, 1) := by decide +kernel
theorem dX3_countAgreeing_17 : decode cX3_countAgreeing 17 = .ok (.aload_n 0, 1) := by decide +kernel
theorem dX3_countAgreeing_18 : decode cX3_countAgreeing 18 = .ok (.getfield 29, 3) := by decide +kernel
theorem dX3_countAgreeing_21 : decode cX3_countAgreeing 21 = .ok (.if_icmp .ge 35, 3) := by decide +kernel
theorem dX3_countAgreeing_24 : decode cX3_countAgreeing 24 = .ok (.iload_n 1, 1) := by decide +kernel
theorem dX3_countAgreeing_25 : decode cX3_countAgreeing 25 = .ok (.aload_n 0, 1) := by decide +kernel
theorem dX3_countAgreeing_26 : decode cX3_countAgreeing 26 = .ok (.iload_n 2, 1) := by decide +kernel
theorem dX3_countAgreeing_27 : decode cX3_countAgreeing 27 = .ok (.iload_n 3, 1) := by decide +kernel
theorem dX3_countAgreeing_28 : decode cX3_countAgreeing 28 = .ok (.invokevirtual 80, 3) := by decide +kernel
theorem dX3_countAgreeing_31 : decode cX3_countAgreeing 31 = .ok (.ifCond .eq 16, 3) := by decide +kernel
theorem dX3_countAgreeing_34 : decode cX3_countAgreeing 34 = .ok (.aload_n 0, 1) := by decide +kernel
theorem dX3_countAgreeing_35 : decode cX3_countAgreeing 35 = .ok (.iload_n 2, 1) := by decide +kernel
theorem dX3_countAgreeing_36 : decode cX3_countAgreeing 36 = .ok (.iload_n 3, 1) := by decide +kernel
theorem dX3_countAgreeing_37 : decode cX3_countAgreeing 37 = .ok (.invokevirtual 83, 3) := by decide +kernel
theorem dX3_countAgreeing_40 : decode cX3_countAgreeing 40 = .ok (.ifCond .eq 7, 3) := by decide +kernel
theorem dX3_countAgreeing_43 : decode cX3_countAgreeing 43 = .ok (.iconst 1, 1) := by decide +kernel
theorem dX3_countAgreeing_44 : decode cX3_countAgreeing 44 = .ok (.goto 4, 3) := by decide +kernel
theorem dX3_countAgreeing_47 : decode cX3_countAgreeing 47 = .ok (.iconst 0, 1) := by decide +kernel
theorem dX3_countAgreeing_48 : decode cX3_countAgreeing 48 = .ok (.iadd, 1) := by decide +kernel
theorem dX3_countAgreeing_49 : decode cX3_countAgreeing 49 = .ok (.istore_n 1, 1) := by decide +kernel
theorem dX3_countAgreeing_50 : decode cX3_countAgreeing 50 = .ok (.iinc 3 1, 3) := by decide +kernel
theorem dX3_countAgreeing_53 : decode cX3_countAgreeing 53 = .ok (.goto (-37), 3) := by decide +kernel
theorem dX3_countAgreeing_56 : decode cX3_countAgreeing 56 = .ok (.iinc 2 1, 3) := by decide +kernel
theorem dX3_countAgreeing_59 : decode cX3_countAgreeing 59 = .ok (.goto (-55), 3) := by decide +kernel
theorem dX3_countAgreeing_62 : decode cX3_countAgreeing 62 = .ok (.iload_n 1, 1) := by decide +kernel
theorem dX3_countAgreeing_63 : decode cX3_countAgreeing 63 = .ok (.ireturn, 1) := by decide +kernel
theorem dX3_firstApart_0 : decode cX3_firstApart 0 = .ok (.iconst 0, 1) := by decide +kernel
theorem dX3_firstApart_1 : decode cX3_firstApart 1 = .ok (.istore_n 1, 1) := by decide +kernel
theorem dX3_firstApart_2 : decode cX3_firstApart 2 = .ok (.iload_n 1, 1) := by decide +kernel
theorem dX3_firstApart_3 : decode cX3_firstApart 3 = .ok (.aload_n 0, 1) := by decide +kernel
theorem dX3_firstApart_4 : decode cX3_firstApart 4 = .ok (.getfield 29, 3) := by decide +kernel
theorem dX3_firstApart_7 : decode cX3_firstApart 7 = .ok (.if_icmp .ge 52, 3) := by decide +kernel
theorem dX3_firstApart_10 : decode cX3_firstApart 10 = .ok (.iload_n 1, 1) := by decide +kernel
theorem dX3_firstApart_11 : decode cX3_firstApart 11 = .ok (.iconst 1, 1) := by decide +kernel
theorem dX3_firstApart_12 : decode cX3_firstApart 12 = .ok (.iadd, 1) := by decide +kernel
theorem dX3_firstApart_13 : decode cX3_firstApart 13 = .ok (.istore_n 2, 1) := by decide +kernel
theorem dX3_firstApart_14 : decode cX3_firstApart 14 = .ok (.iload_n 2, 1) := by decide +kernel
theorem dX3_firstApart_15 : decode cX3_firstApart 15 = .ok (.aload_n 0, 1) := by decide +kernel
theorem dX3_firstApart_16 : decode cX3_firstApart 16 = .ok (.getfield 29, 3) := by decide +kernel
theorem dX3_firstApart_19 : decode cX3_firstApart 19 = .ok (.if_icmp .ge 34, 3) := by decide +kernel
theorem dX3_firstApart_22 : decode cX3_firstApart 22 = .ok (.aload_n 0, 1) := by decide +kernel
theorem dX3_firstApart_23 : decode cX3_firstApart 23 = .ok (.iload_n 1, 1) := by decide +kernel
theorem dX3_firstApart_24 : decode cX3_firstApart 24 = .ok (.iload_n 2, 1) := by decide +kernel
theorem dX3_firstApart_25 : decode cX3_firstApart 25 = .ok (.invokevirtual 80, 3) := by decide +kernel
theorem dX3_firstApart_28 : decode cX3_firstApart 28 = .ok (.ifCond .eq 19, 3) := by decide +kernel
theorem dX3_firstApart_31 : decode cX3_firstApart 31 = .ok (.aload_n 0, 1) := by decide +kernel
theorem dX3_firstApart_32 : decode cX3_firstApart 32 = .ok (.iload_n 1, 1) := by decide +kernel
theorem dX3_firstApart_33 : decode cX3_firstApart 33 = .ok (.iload_n 2, 1) := by decide +kernel
theorem dX3_firstApart_34 : decode cX3_firstApart 34 = .ok (.invokevirtual 83, 3) := by decide +kernel
theorem dX3_firstApart_37 : decode cX3_firstApart 37 = .ok (.ifCond .ne 10, 3) := by decide +kernel
theorem dX3_firstApart_40 : decode cX3_firstApart 40 = .ok (.bipush 10, 2) := by decide +kernel
theorem dX3_firstApart_42 : decode cX3_firstApart 42 = .ok (.iload_n 1, 1) := by decide +kernel
theorem dX3_firstApart_43 : decode cX3_firstApart 43 = .ok (.imul, 1) := by decide +kernel
theorem dX3_firstApart_44 : decode cX3_firstApart 44 = .ok (.iload_n 2, 1) := by decide +kernel
theorem dX3_firstApart_45 : decode cX3_firstApart 45 = .ok (.iadd, 1) := by decide +kernel
theorem dX3_firstApart_46 : decode cX3_firstApart 46 = .ok (.ireturn, 1) := by decide +kernel
theorem dX3_firstApart_47 : decode cX3_firstApart 47 = .ok (.iinc 2 1, 3) := by decide +kernel
theorem dX3_firstApart_50 : decode cX3_firstApart 50 = .ok (.goto (-36), 3) := by decide +kernel
theorem dX3_firstApart_53 : decode cX3_firstApart 53 = .ok (.iinc 1 1, 3) := by decide +kernel
theorem dX3_firstApart_56 : decode cX3_firstApart 56 = .ok (.goto (-54), 3) := by decide +kernel
theorem dX3_firstApart_59 : decode cX3_firstApart 59 = .ok (.bipush (-9), 2) := by decide +kernel
theorem dX3_firstApart_61 : decode cX3_firstApart 61 = .ok (.ireturn, 1) := by decide +kernel
theorem dX4_weigh_0 : decode cX4_weigh 0 = .ok (.iconst 1, 1) := by decide +kernel
theorem dX4_weigh_1 : decode cX4_weigh 1 = .ok (.istore_n 3, 1) := by decide +kernel
theorem dX4_weigh_2 : decode cX4_weigh 2 = .ok (.iload_n 3, 1) := by decide +kernel
theorem dX4_weigh_3 : decode cX4_weigh 3 = .ok (.bipush 8, 2) := by decide +kernel
theorem dX4_weigh_5 : decode cX4_weigh 5 = .ok (.if_icmp .gt 16, 3) := by decide +kernel
theorem dX4_weigh_8 : decode cX4_weigh 8 = .ok (.aload_n 0, 1) := by decide +kernel
theorem dX4_weigh_9 : decode cX4_weigh 9 = .ok (.getfield 9, 3) := by decide +kernel
theorem dX4_weigh_12 : decode cX4_weigh 12 = .ok (.iload_n 3, 1) := by decide +kernel
theorem dX4_weigh_13 : decode cX4_weigh 13 = .ok (.lconst 0, 1) := by decide +kernel
theorem dX4_weigh_14 : decode cX4_weigh 14 = .ok (.lastore, 1) := by decide +kernel
theorem dX4_weigh_15 : decode cX4_weigh 15 = .ok (.iinc 3 1, 3) := by decide +kernel
theorem dX4_weigh_18 : decode cX4_weigh 18 = .ok (.goto (-16), 3) := by decide +kernel
theorem dX4_weigh_21 : decode cX4_weigh 21 = .ok (.aload_n 0, 1) := by decide +kernel
theorem dX4_weigh_22 : decode cX4_weigh 22 = .ok (.getfield 9, 3) := by decide +kernel
theorem dX4_weigh_25 : decode cX4_weigh 25 = .ok (.iconst 0, 1) := by decide +kernel
theorem dX4_weigh_26 : decode cX4_weigh 26 = .ok (.lconst 1, 1) := by decide +kernel
theorem dX4_weigh_27 : decode cX4_weigh 27 = .ok (.lastore, 1) := by decide +kernel
theorem dX4_weigh_28 : decode cX4_weigh 28 = .ok (.iconst 0, 1) := by decide +kernel
theorem dX4_weigh_29 : decode cX4_weigh 29 = .ok (.istore_n 3, 1) := by decide +kernel
theorem dX4_weigh_30 : decode cX4_weigh 30 = .ok (.iload_n 3, 1) := by decide +kernel
theorem dX4_weigh_31 : decode cX4_weigh 31 = .ok (.iload_n 1, 1) := by decide +kernel
theorem dX4_weigh_32 : decode cX4_weigh 32 = .ok (.if_icmp .ge 48, 3) := by decide +kernel
theorem dX4_weigh_35 : decode cX4_weigh 35 = .ok (.bipush 8, 2) := by decide +kernel
theorem dX4_weigh_37 : decode cX4_weigh 37 = .ok (.istore 4, 2) := by decide +kernel
theorem dX4_weigh_39 : decode cX4_weigh 39 = .ok (.iload 4, 2) := by decide +kernel
theorem dX4_weigh_41 : decode cX4_weigh 41 = .ok (.ifCond .le 33, 3) := by decide +kernel
theorem dX4_weigh_44 : decode cX4_weigh 44 = .ok (.aload_n 0, 1) := by decide +kernel
theorem dX4_weigh_45 : decode cX4_weigh 45 = .ok (.getfield 9, 3) := by decide +kernel
theorem dX4_weigh_48 : decode cX4_weigh 48 = .ok (.iload 4, 2) := by decide +kernel
theorem dX4_weigh_50 : decode cX4_weigh 50 = .ok (.dup2, 1) := by decide +kernel
theorem dX4_weigh_51 : decode cX4_weigh 51 = .ok (.laload, 1) := by decide +kernel
theorem dX4_weigh_52 : decode cX4_weigh 52 = .ok (.aload_n 0, 1) := by decide +kernel
theorem dX4_weigh_53 : decode cX4_weigh 53 = .ok (.getfield 9, 3) := by decide +kernel
theorem dX4_weigh_56 : decode cX4_weigh 56 = .ok (.iload 4, 2) := by decide +kernel
theorem dX4_weigh_58 : decode cX4_weigh 58 = .ok (.iconst 1, 1) := by decide +kernel
theorem dX4_weigh_59 : decode cX4_weigh 59 = .ok (.isub, 1) := by decide +kernel
theorem dX4_weigh_60 : decode cX4_weigh 60 = .ok (.laload, 1) := by decide +kernel
theorem dX4_weigh_61 : decode cX4_weigh 61 = .ok (.iload_n 2, 1) := by decide +kernel
theorem dX4_weigh_62 : decode cX4_weigh 62 = .ok (.iconst 1, 1) := by decide +kernel
theorem dX4_weigh_63 : decode cX4_weigh 63 = .ok (.isub, 1) := by decide +kernel
theorem dX4_weigh_64 : decode cX4_weigh 64 = .ok (.i2l, 1) := by decide +kernel
theorem dX4_weigh_65 : decode cX4_weigh 65 = .ok (.lmul, 1) := by decide +kernel
theorem dX4_weigh_66 : decode cX4_weigh 66 = .ok (.ladd, 1) := by decide +kernel
theorem dX4_weigh_67 : decode cX4_weigh 67 = .ok (.lastore, 1) := by decide +kernel
theorem dX4_weigh_68 : decode cX4_weigh 68 = .ok (.iinc 4 (-1), 3) := by decide +kernel
theorem dX4_weigh_71 : decode cX4_weigh 71 = .ok (.goto (-32), 3) := by decide +kernel
theorem dX4_weigh_74 : decode cX4_weigh 74 = .ok (.iinc 3 1, 3) := by decide +kernel
theorem dX4_weigh_77 : decode cX4_weigh 77 = .ok (.goto (-47), 3) := by decide +kernel
theorem dX4_weigh_80 : decode cX4_weigh 80 = .ok (.return_, 1) := by decide +kernel
theorem dX4_allWays_0 : decode cX4_allWays 0 = .ok (.lconst 0, 1) := by decide +kernel
theorem dX4_allWays_1 : decode cX4_allWays 1 = .ok (.lstore_n 1, 1) := by decide +kernel
theorem dX4_allWays_2 : decode cX4_allWays 2 = .ok (.iconst 0, 1) := by decide +kernel
theorem dX4_allWays_3 : decode cX4_allWays 3 = .ok (.istore_n 3, 1) := by decide +kernel
theorem dX4_allWays_4 : decode cX4_allWays 4 = .ok (.iload_n 3, 1) := by decide +kernel
theorem dX4_allWays_5 : decode cX4_allWays 5 = .ok (.bipush 8, 2) := by decide +kernel
theorem dX4_allWays_7 : decode cX4_allWays 7 = .ok (.if_icmp .gt 18, 3) := by decide +kernel
theorem dX4_allWays_10 : decode cX4_allWays 10 = .ok (.lload_n 1, 1) := by decide +kernel
theorem dX4_allWays_11 : decode cX4_allWays 11 = .ok (.aload_n 0, 1) := by decide +kernel
theorem dX4_allWays_12 : decode cX4_allWays 12 = .ok (.getfield 9, 3) := by decide +kernel
theorem dX4_allWays_15 : decode cX4_allWays 15 = .ok (.iload_n 3, 1) := by decide +kernel
theorem dX4_allWays_16 : decode cX4_allWays 16 = .ok (.laload, 1) := by decide +kernel
theorem dX4_allWays_17 : decode cX4_allWays 17 = .ok (.ladd, 1) := by decide +kernel
theorem dX4_allWays_18 : decode cX4_allWays 18 = .ok (.lstore_n 1, 1) := by decide +kernel
theorem dX4_allWays_19 : decode cX4_allWays 19 = .ok (.iinc 3 1, 3) := by decide +kernel
theorem dX4_allWays_22 : decode cX4_allWays 22 = .ok (.goto (-18), 3) := by decide +kernel
theorem dX4_allWays_25 : decode cX4_allWays 25 = .ok (.lload_n 1, 1) := by decide +kernel
theorem dX4_allWays_26 : decode cX4_allWays 26 = .ok (.lreturn, 1) := by decide +kernel
theorem dX4_waysInto_0 : decode cX4_waysInto 0 = .ok (.lconst 0, 1) := by decide +kernel
theorem dX4_waysInto_1 : decode cX4_waysInto 1 = .ok (.lstore 4, 2) := by decide +kernel
theorem dX4_waysInto_3 : decode cX4_waysInto 3 = .ok (.iconst 0, 1) := by decide +kernel
theorem dX4_waysInto_4 : decode cX4_waysInto 4 = .ok (.istore 6, 2) := by decide +kernel
theorem dX4_waysInto_6 : decode cX4_waysInto 6 = .ok (.iload 6, 2) := by decide +kernel
theorem dX4_waysInto_8 : decode cX4_waysInto 8 = .ok (.bipush 8, 2) := by decide +kernel
theorem dX4_waysInto_10 : decode cX4_waysInto 10 = .ok (.if_icmp .gt 39, 3) := by decide +kernel
theorem dX4_waysInto_13 : decode cX4_waysInto 13 = .ok (.lload 4, 2) := by decide +kernel
theorem dX4_waysInto_15 : decode cX4_waysInto 15 = .ok (.aload_n 1, 1) := by decide +kernel
theorem dX4_waysInto_16 : decode cX4_waysInto 16 = .ok (.iload 6, 2) := by decide +kernel
theorem dX4_waysInto_18 : decode cX4_waysInto 18 = .ok (.iconst 5, 1) := by decide +kernel
theorem dX4_waysInto_19 : decode cX4_waysInto 19 = .ok (.imul, 1) := by decide +kernel
theorem dX4_waysInto_20 : decode cX4_waysInto 20 = .ok (.iconst 0, 1) := by decide +kernel
theorem dX4_waysInto_21 : decode cX4_waysInto 21 = .ok (.iload_n 3, 1) := by decide +kernel
theorem dX4_waysInto_22 : decode cX4_waysInto 22 = .ok (.invokevirtual 15, 3) := by decide +kernel
theorem dX4_waysInto_25 : decode cX4_waysInto 25 = .ok (.iload_n 2, 1) := by decide +kernel
theorem dX4_waysInto_26 : decode cX4_waysInto 26 = .ok (.if_icmp .ne 13, 3) := by decide +kernel
theorem dX4_waysInto_29 : decode cX4_waysInto 29 = .ok (.aload_n 0, 1) := by decide +kernel
theorem dX4_waysInto_30 : decode cX4_waysInto 30 = .ok (.getfield 9, 3) := by decide +kernel
theorem dX4_waysInto_33 : decode cX4_waysInto 33 = .ok (.iload 6, 2) := by decide +kernel
theorem dX4_waysInto_35 : decode cX4_waysInto 35 = .ok (.laload, 1) := by decide +kernel
theorem dX4_waysInto_36 : decode cX4_waysInto 36 = .ok (.goto 4, 3) := by decide +kernel
theorem dX4_waysInto_39 : decode cX4_waysInto 39 = .ok (.lconst 0, 1) := by decide +kernel
theorem dX4_waysInto_40 : decode cX4_waysInto 40 = .ok (.ladd, 1) := by decide +kernel
theorem dX4_waysInto_41 : decode cX4_waysInto 41 = .ok (.lstore 4, 2) := by decide +kernel
theorem dX4_waysInto_43 : decode cX4_waysInto 43 = .ok (.iinc 6 1, 3) := by decide +kernel
theorem dX4_waysInto_46 : decode cX4_waysInto 46 = .ok (.goto (-40), 3) := by decide +kernel
theorem dX4_waysInto_49 : decode cX4_waysInto 49 = .ok (.lload 4, 2) := by decide +kernel
theorem dX4_waysInto_51 : decode cX4_waysInto 51 = .ok (.lreturn, 1) := by decide +kernel
theorem dX4_gladOfAll_0 : decode cX4_gladOfAll 0 = .ok (.lconst 0, 1) := by decide +kernel
theorem dX4_gladOfAll_1 : decode cX4_gladOfAll 1 = .ok (.lstore_n 3, 1) := by decide +kernel
theorem dX4_gladOfAll_2 : decode cX4_gladOfAll 2 = .ok (.iconst 0, 1) := by decide +kernel
theorem dX4_gladOfAll_3 : decode cX4_gladOfAll 3 = .ok (.istore 5, 2) := by decide +kernel
theorem dX4_gladOfAll_5 : decode cX4_gladOfAll 5 = .ok (.iload 5, 2) := by decide +kernel
theorem dX4_gladOfAll_7 : decode cX4_gladOfAll 7 = .ok (.bipush 8, 2) := by decide +kernel
theorem dX4_gladOfAll_9 : decode cX4_gladOfAll 9 = .ok (.if_icmp .gt 35, 3) := by decide +kernel
theorem dX4_gladOfAll_12 : decode cX4_gladOfAll 12 = .ok (.lload_n 3, 1) := by decide +kernel
theorem dX4_gladOfAll_13 : decode cX4_gladOfAll 13 = .ok (.aload_n 0, 1) := by decide +kernel
theorem dX4_gladOfAll_14 : decode cX4_gladOfAll 14 = .ok (.getfield 9, 3) := by decide +kernel
theorem dX4_gladOfAll_17 : decode cX4_gladOfAll 17 = .ok (.iload 5, 2) := by decide +kernel
theorem dX4_gladOfAll_19 : decode cX4_gladOfAll 19 = .ok (.laload, 1) := by decide +kernel
theorem dX4_gladOfAll_20 : decode cX4_gladOfAll 20 = .ok (.aload_n 1, 1) := by decide +kernel
theorem dX4_gladOfAll_21 : decode cX4_gladOfAll 21 = .ok (.aload_n 1, 1) := by decide +kernel
theorem dX4_gladOfAll_22 : decode cX4_gladOfAll 22 = .ok (.iload 5, 2) := by decide +kernel
theorem dX4_gladOfAll_24 : decode cX4_gladOfAll 24 = .ok (.iconst 5, 1) := by decide +kernel
theorem dX4_gladOfAll_25 : decode cX4_gladOfAll 25 = .ok (.imul, 1) := by decide +kernel
theorem dX4_gladOfAll_26 : decode cX4_gladOfAll 26 = .ok (.iconst 0, 1) := by decide +kernel
theorem dX4_gladOfAll_27 : decode cX4_gladOfAll 27 = .ok (.iload_n 2, 1) := by decide +kernel
theorem dX4_gladOfAll_28 : decode cX4_gladOfAll 28 = .ok (.invokevirtual 15, 3) := by decide +kernel
theorem dX4_gladOfAll_31 : decode cX4_gladOfAll 31 = .ok (.invokevirtual 21, 3) := by decide +kernel
theorem dX4_gladOfAll_34 : decode cX4_gladOfAll 34 = .ok (.i2l, 1) := by decide +kernel
theorem dX4_gladOfAll_35 : decode cX4_gladOfAll 35 = .ok (.lmul, 1) := by decide +kernel
theorem dX4_gladOfAll_36 : decode cX4_gladOfAll 36 = .ok (.ladd, 1) := by decide +kernel
theorem dX4_gladOfAll_37 : decode cX4_gladOfAll 37 = .ok (.lstore_n 3, 1) := by decide +kernel
theorem dX4_gladOfAll_38 : decode cX4_gladOfAll 38 = .ok (.iinc 5 1, 3) := by decide +kernel
theorem dX4_gladOfAll_41 : decode cX4_gladOfAll 41 = .ok (.goto (-36), 3) := by decide +kernel
theorem dX4_gladOfAll_44 : decode cX4_gladOfAll 44 = .ok (.lload_n 3, 1) := by decide +kernel
theorem dX4_gladOfAll_45 : decode cX4_gladOfAll 45 = .ok (.lreturn, 1) := by decide +kernel
theorem dX5_isFull_0 : decode cX5_isFull 0 = .ok (.aload_n 0, 1) := by decide +kernel
theorem dX5_isFull_1 : decode cX5_isFull 1 = .ok (.getfield 15, 3) := by decide +kernel
theorem dX5_isFull_4 : decode cX5_isFull 4 = .ok (.bipush 96, 2) := by decide +kernel
theorem dX5_isFull_6 : decode cX5_isFull 6 = .ok (.if_icmp .lt 7, 3) := by decide +kernel
theorem dX5_isFull_9 : decode cX5_isFull 9 = .ok (.iconst 1, 1) := by decide +kernel
theorem dX5_isFull_10 : decode cX5_isFull 10 = .ok (.goto 4, 3) := by decide +kernel
theorem dX5_isFull_13 : decode cX5_isFull 13 = .ok (.iconst 0, 1) := by decide +kernel
theorem dX5_isFull_14 : decode cX5_isFull 14 = .ok (.ireturn, 1) := by decide +kernel
theorem dX5_put_0 : decode cX5_put 0 = .ok (.aload_n 0, 1) := by decide +kernel
theorem dX5_put_1 : decode cX5_put 1 = .ok (.invokevirtual 19, 3) := by decide +kernel
theorem dX5_put_4 : decode cX5_put 4 = .ok (.ifCond .ne 23, 3) := by decide +kernel
theorem dX5_put_7 : decode cX5_put 7 = .ok (.aload_n 0, 1) := by decide +kernel
theorem dX5_put_8 : decode cX5_put 8 = .ok (.getfield 9, 3) := by decide +kernel
theorem dX5_put_11 : decode cX5_put 11 = .ok (.aload_n 0, 1) := by decide +kernel
theorem dX5_put_12 : decode cX5_put 12 = .ok (.getfield 15, 3) := by decide +kernel
theorem dX5_put_15 : decode cX5_put 15 = .ok (.iload_n 1, 1) := by decide +kernel
theorem dX5_put_16 : decode cX5_put 16 = .ok (.iastore, 1) := by decide +kernel
theorem dX5_put_17 : decode cX5_put 17 = .ok (.aload_n 0, 1) := by decide +kernel
theorem dX5_put_18 : decode cX5_put 18 = .ok (.dup, 1) := by decide +kernel
theorem dX5_put_19 : decode cX5_put 19 = .ok (.getfield 15, 3) := by decide +kernel
theorem dX5_put_22 : decode cX5_put 22 = .ok (.iconst 1, 1) := by decide +kernel
theorem dX5_put_23 : decode cX5_put 23 = .ok (.iadd, 1) := by decide +kernel
theorem dX5_put_24 : decode cX5_put 24 = .ok (.putfield 15, 3) := by decide +kernel
theorem dX5_put_27 : decode cX5_put 27 = .ok (.return_, 1) := by decide +kernel
theorem dX5_letterAt_0 : decode cX5_letterAt 0 = .ok (.iload_n 1, 1) := by decide +kernel
theorem dX5_letterAt_1 : decode cX5_letterAt 1 = .ok (.ifCond .lt 17, 3) := by decide +kernel
theorem dX5_letterAt_4 : decode cX5_letterAt 4 = .ok (.iload_n 1, 1) := by decide +kernel
theorem dX5_letterAt_5 : decode cX5_letterAt 5 = .ok (.aload_n 0, 1) := by decide +kernel
theorem dX5_letterAt_6 : decode cX5_letterAt 6 = .ok (.getfield 15, 3) := by decide +kernel
theorem dX5_letterAt_9 : decode cX5_letterAt 9 = .ok (.if_icmp .ge 9, 3) := by decide +kernel
theorem dX5_letterAt_12 : decode cX5_letterAt 12 = .ok (.iload_n 1, 1) := by decide +kernel
theorem dX5_letterAt_13 : decode cX5_letterAt 13 = .ok (.bipush 96, 2) := by decide +kernel
theorem dX5_letterAt_15 : decode cX5_letterAt 15 = .ok (.if_icmp .lt 7, 3) := by decide +kernel
theorem dX5_letterAt_18 : decode cX5_letterAt 18 = .ok (.iconst (-1), 1) := by decide +kernel
theorem dX5_letterAt_19 : decode cX5_letterAt 19 = .ok (.goto 9, 3) := by decide +kernel
theorem dX5_letterAt_22 : decode cX5_letterAt 22 = .ok (.aload_n 0, 1) := by decide +kernel
theorem dX5_letterAt_23 : decode cX5_letterAt 23 = .ok (.getfield 9, 3) := by decide +kernel
theorem dX5_letterAt_26 : decode cX5_letterAt 26 = .ok (.iload_n 1, 1) := by decide +kernel
theorem dX5_letterAt_27 : decode cX5_letterAt 27 = .ok (.iaload, 1) := by decide +kernel
theorem dX5_letterAt_28 : decode cX5_letterAt 28 = .ok (.ireturn, 1) := by decide +kernel
theorem dX5_isDigit_0 : decode cX5_isDigit 0 = .ok (.aload_n 0, 1) := by decide +kernel
theorem dX5_isDigit_1 : decode cX5_isDigit 1 = .ok (.iload_n 1, 1) := by decide +kernel
theorem dX5_isDigit_2 : decode cX5_isDigit 2 = .ok (.invokevirtual 23, 3) := by decide +kernel
theorem dX5_isDigit_5 : decode cX5_isDigit 5 = .ok (.bipush 48, 2) := by decide +kernel
theorem dX5_isDigit_7 : decode cX5_isDigit 7 = .ok (.if_icmp .lt 17, 3) := by decide +kernel
theorem dX5_isDigit_10 : decode cX5_isDigit 10 = .ok (.aload_n 0, 1) := by decide +kernel
theorem dX5_isDigit_11 : decode cX5_isDigit 11 = .ok (.iload_n 1, 1) := by decide +kernel
theorem dX5_isDigit_12 : decode cX5_isDigit 12 = .ok (.invokevirtual 23, 3) := by decide +kernel
theorem dX5_isDigit_15 : decode cX5_isDigit 15 = .ok (.bipush 57, 2) := by decide +kernel
theorem dX5_isDigit_17 : decode cX5_isDigit 17 = .ok (.if_icmp .gt 7, 3) := by decide +kernel
theorem dX5_isDigit_20 : decode cX5_isDigit 20 = .ok (.iconst 1, 1) := by decide +kernel
theorem dX5_isDigit_21 : decode cX5_isDigit 21 = .ok (.goto 4, 3) := by decide +kernel
theorem dX5_isDigit_24 : decode cX5_isDigit 24 = .ok (.iconst 0, 1) := by decide +kernel
theorem dX5_isDigit_25 : decode cX5_isDigit 25 = .ok (.ireturn, 1) := by decide +kernel
theorem dX5_kindAt_0 : decode cX5_kindAt 0 = .ok (.ldc 27, 2) := by decide +kernel
theorem dX5_kindAt_2 : decode cX5_kindAt 2 = .ok (.aload_n 0, 1) := by decide +kernel
theorem dX5_kindAt_3 : decode cX5_kindAt 3 = .ok (.iload_n 1, 1) := by decide +kernel
theorem dX5_kindAt_4 : decode cX5_kindAt 4 = .ok (.invokevirtual 23, 3) := by decide +kernel
theorem dX5_kindAt_7 : decode cX5_kindAt 7 = .ok (.i2c, 1) := by decide +kernel
theorem dX5_kindAt_8 : decode cX5_kindAt 8 = .ok (.invokevirtual 29, 3) := by decide +kernel
theorem dX5_kindAt_11 : decode cX5_kindAt 11 = .ok (.ireturn, 1) := by decide +kernel
theorem dX5_number_0 : decode cX5_number 0 = .ok (.iconst 0, 1) := by decide +kernel
theorem dX5_number_1 : decode cX5_number 1 = .ok (.istore_n 3, 1) := by decide +kernel
theorem dX5_number_2 : decode cX5_number 2 = .ok (.iconst 0, 1) := by decide +kernel
theorem dX5_number_3 : decode cX5_number 3 = .ok (.istore 4, 2) := by decide +kernel
theorem dX5_number_5 : decode cX5_number 5 = .ok (.iload 4, 2) := by decide +kernel
theorem dX5_number_7 : decode cX5_number 7 = .ok (.iload_n 2, 1) := by decide +kernel
theorem dX5_number_8 : decode cX5_number 8 = .ok (.if_icmp .ge 26, 3) := by decide +kernel
theorem dX5_number_11 : decode cX5_number 11 = .ok (.bipush 10, 2) := by decide +kernel
theorem dX5_number_13 : decode cX5_number 13 = .ok (.iload_n 3, 1) := by decide +kernel
theorem dX5_number_14 : decode cX5_number 14 = .ok (.imul, 1) := by decide +kernel
theorem dX5_number_15 : decode cX5_number 15 = .ok (.aload_n 0, 1) := by decide +kernel
theorem dX5_number_16 : decode cX5_number 16 = .ok (.iload_n 1, 1) := by decide +kernel
theorem dX5_number_17 : decode cX5_number 17 = .ok (.iload 4, 2) := by decide +kernel
theorem dX5_number_19 : decode cX5_number 19 = .ok (.iadd, 1) := by decide +kernel
theorem dX5_number_20 : decode cX5_number 20 = .ok (.invokevirtual 23, 3) := by decide +kernel
theorem dX5_number_23 : decode cX5_number 23 = .ok (.iadd, 1) := by decide +kernel
theorem dX5_number_24 : decode cX5_number 24 = .ok (.bipush 48, 2) := by decide +kernel
theorem dX5_number_26 : decode cX5_number 26 = .ok (.isub, 1) := by decide +kernel
theorem dX5_number_27 : decode cX5_number 27 = .ok (.istore_n 3, 1) := by decide +kernel
theorem dX5_number_28 : decode cX5_number 28 = .ok (.iinc 4 1, 3) := by decide +kernel
theorem dX5_number_31 : decode cX5_number 31 = .ok (.goto (-26), 3) := by decide +kernel
theorem dX5_number_34 : decode cX5_number 34 = .ok (.iload_n 3, 1) := by decide +kernel
theorem dX5_number_35 : decode cX5_number 35 = .ok (.ireturn, 1) := by decide +kernel
theorem dX5_partsOf_0 : decode cX5_partsOf 0 = .ok (.aload_n 0, 1) := by decide +kernel
theorem dX5_partsOf_1 : decode cX5_partsOf 1 = .ok (.iload_n 1, 1) := by decide +kernel
theorem dX5_partsOf_2 : decode cX5_partsOf 2 = .ok (.invokevirtual 23, 3) := by decide +kernel
theorem dX5_partsOf_5 : decode cX5_partsOf 5 = .ok (.tableswitch 112 100 121 #[103, 112, 112, 107, 103, 112, 112, 112, 112, 112, 112, 112, 112, 112, 112, 105, 103, 112, 109, 112, 112, 103], 103) := by decide +kernel
theorem dX5_partsOf_108 : decode cX5_partsOf 108 = .ok (.iconst 2, 1) := by decide +kernel
theorem dX5_partsOf_109 : decode cX5_partsOf 109 = .ok (.ireturn, 1) := by decide +kernel
theorem dX5_partsOf_110 : decode cX5_partsOf 110 = .ok (.iconst 4, 1) := by decide +kernel
theorem dX5_partsOf_111 : decode cX5_partsOf 111 = .ok (.ireturn, 1) := by decide +kernel
theorem dX5_partsOf_112 : decode cX5_partsOf 112 = .ok (.iconst 5, 1) := by decide +kernel
theorem dX5_partsOf_113 : decode cX5_partsOf 113 = .ok (.ireturn, 1) := by decide +kernel
theorem dX5_partsOf_114 : decode cX5_partsOf 114 = .ok (.bipush 7, 2) := by decide +kernel
theorem dX5_partsOf_116 : decode cX5_partsOf 116 = .ok (.ireturn, 1) := by decide +kernel
theorem dX5_partsOf_117 : decode cX5_partsOf 117 = .ok (.iconst 0, 1) := by decide +kernel
theorem dX5_partsOf_118 : decode cX5_partsOf 118 = .ok (.ireturn, 1) := by decide +kernel
theorem dX5_behindStatement_0 : decode cX5_behindStatement 0 = .ok (.iload_n 1, 1) := by decide +kernel
theorem dX5_behindStatement_1 : decode cX5_behindStatement 1 = .ok (.aload_n 0, 1) := by decide +kernel
theorem dX5_behindStatement_2 : decode cX5_behindStatement 2 = .ok (.iload_n 1, 1) := by decide +kernel
theorem dX5_behindStatement_3 : decode cX5_behindStatement 3 = .ok (.invokevirtual 34, 3) := by decide +kernel
theorem dX5_behindStatement_6 : decode cX5_behindStatement 6 = .ok (.iadd, 1) := by decide +kernel
theorem dX5_behindStatement_7 : decode cX5_behindStatement 7 = .ok (.iconst 2, 1) := by decide +kernel
theorem dX5_behindStatement_8 : decode cX5_behindStatement 8 = .ok (.iadd, 1) := by decide +kernel
theorem dX5_behindStatement_9 : decode cX5_behindStatement 9 = .ok (.ireturn, 1) := by decide +kernel
theorem dX5_misfitOfStatement_0 : decode cX5_misfitOfStatement 0 = .ok (.aload_n 0, 1) := by decide +kernel
theorem dX5_misfitOfStatement_1 : decode cX5_misfitOfStatement 1 = .ok (.iload_n 1, 1) := by decide +kernel
theorem dX5_misfitOfStatement_2 : decode cX5_misfitOfStatement 2 = .ok (.invokevirtual 34, 3) := by decide +kernel
theorem dX5_misfitOfStatement_5 : decode cX5_misfitOfStatement 5 = .ok (.istore_n 2, 1) := by decide +kernel
theorem dX5_misfitOfStatement_6 : decode cX5_misfitOfStatement 6 = .ok (.iload_n 2, 1) := by decide +kernel
theorem dX5_misfitOfStatement_7 : decode cX5_misfitOfStatement 7 = .ok (.ifCond .ne 5, 3) := by decide +kernel
theorem dX5_misfitOfStatement_10 : decode cX5_misfitOfStatement 10 = .ok (.iload_n 1, 1) := by decide +kernel
theorem dX5_misfitOfStatement_11 : decode cX5_misfitOfStatement 11 = .ok (.ireturn, 1) := by decide +kernel
theorem dX5_misfitOfStatement_12 : decode cX5_misfitOfStatement 12 = .ok (.iload_n 1, 1) := by decide +kernel
theorem dX5_misfitOfStatement_13 : decode cX5_misfitOfStatement 13 = .ok (.iconst 1, 1) := by decide +kernel
theorem dX5_misfitOfStatement_14 : decode cX5_misfitOfStatement 14 = .ok (.iadd, 1) := by decide +kernel
theorem dX5_misfitOfStatement_15 : decode cX5_misfitOfStatement 15 = .ok (.istore_n 3, 1) := by decide +kernel
theorem dX5_misfitOfStatement_16 : decode cX5_misfitOfStatement 16 = .ok (.aload_n 0, 1) := by decide +kernel
theorem dX5_misfitOfStatement_17 : decode cX5_misfitOfStatement 17 = .ok (.iload_n 1, 1) := by decide +kernel
theorem dX5_misfitOfStatement_18 : decode cX5_misfitOfStatement 18 = .ok (.invokevirtual 23, 3) := by decide +kernel
theorem dX5_misfitOfStatement_21 : decode cX5_misfitOfStatement 21 = .ok (.bipush 116, 2) := by decide +kernel
theorem dX5_misfitOfStatement_23 : decode cX5_misfitOfStatement 23 = .ok (.if_icmp .ne 16, 3) := by decide +kernel
theorem dX5_misfitOfStatement_26 : decode cX5_misfitOfStatement 26 = .ok (.aload_n 0, 1) := by decide +kernel
theorem dX5_misfitOfStatement_27 : decode cX5_misfitOfStatement 27 = .ok (.iload_n 3, 1) := by decide +kernel
theorem dX5_misfitOfStatement_28 : decode cX5_misfitOfStatement 28 = .ok (.invokevirtual 43, 3) := by decide +kernel
theorem dX5_misfitOfStatement_31 : decode cX5_misfitOfStatement 31 = .ok (.ifCond .ge 5, 3) := by decide +kernel
theorem dX5_misfitOfStatement_34 : decode cX5_misfitOfStatement 34 = .ok (.iload_n 3, 1) := by decide +kernel
theorem dX5_misfitOfStatement_35 : decode cX5_misfitOfStatement 35 = .ok (.ireturn, 1) := by decide +kernel
theorem dX5_misfitOfStatement_36 : decode cX5_misfitOfStatement 36 = .ok (.iinc 3 1, 3) := by decide +kernel
theorem dX5_misfitOfStatement_39 : decode cX5_misfitOfStatement 39 = .ok (.iload_n 3, 1) := by decide +kernel
theorem dX5_misfitOfStatement_40 : decode cX5_misfitOfStatement 40 = .ok (.iload_n 1, 1) := by decide +kernel
theorem dX5_misfitOfStatement_41 : decode cX5_misfitOfStatement 41 = .ok (.iload_n 2, 1) := by decide +kernel
theorem dX5_misfitOfStatement_42 : decode cX5_misfitOfStatement 42 = .ok (.iadd, 1) := by decide +kernel
theorem dX5_misfitOfStatement_43 : decode cX5_misfitOfStatement 43 = .ok (.if_icmp .gt 19, 3) := by decide +kernel
theorem dX5_misfitOfStatement_46 : decode cX5_misfitOfStatement 46 = .ok (.aload_n 0, 1) := by decide +kernel
theorem dX5_misfitOfStatement_47 : decode cX5_misfitOfStatement 47 = .ok (.iload_n 3, 1) := by decide +kernel
theorem dX5_misfitOfStatement_48 : decode cX5_misfitOfStatement 48 = .ok (.invokevirtual 46, 3) := by decide +kernel
theorem dX5_misfitOfStatement_51 : decode cX5_misfitOfStatement 51 = .ok (.ifCond .ne 5, 3) := by decide +kernel
theorem dX5_misfitOfStatement_54 : decode cX5_misfitOfStatement 54 = .ok (.iload_n 3, 1) := by decide +kernel
theorem dX5_misfitOfStatement_55 : decode cX5_misfitOfStatement 55 = .ok (.ireturn, 1) := by decide +kernel
theorem dX5_misfitOfStatement_56 : decode cX5_misfitOfStatement 56 = .ok (.iinc 3 1, 3) := by decide +kernel
theorem dX5_misfitOfStatement_59 : decode cX5_misfitOfStatement 59 = .ok (.goto (-20), 3) := by decide +kernel
theorem dX5_misfitOfStatement_62 : decode cX5_misfitOfStatement 62 = .ok (.aload_n 0, 1) := by decide +kernel
theorem dX5_misfitOfStatement_63 : decode cX5_misfitOfStatement 63 = .ok (.iload_n 3, 1) := by decide +kernel
theorem dX5_misfitOfStatement_64 : decode cX5_misfitOfStatement 64 = .ok (.invokevirtual 23, 3) := by decide +kernel
theorem dX5_misfitOfStatement_67 : decode cX5_misfitOfStatement 67 = .ok (.bipush 59, 2) := by decide +kernel
theorem dX5_misfitOfStatement_69 : decode cX5_misfitOfStatement 69 = .ok (.if_icmp .ne 8, 3) := by decide +kernel
theorem dX5_misfitOfStatement_72 : decode cX5_misfitOfStatement 72 = .ok (.bipush (-9), 2) := by decide +kernel
theorem dX5_misfitOfStatement_74 : decode cX5_misfitOfStatement 74 = .ok (.goto 4, 3) := by decide +kernel
theorem dX5_misfitOfStatement_77 : decode cX5_misfitOfStatement 77 = .ok (.iload_n 3, 1) := by decide +kernel
theorem dX5_misfitOfStatement_78 : decode cX5_misfitOfStatement 78 = .ok (.ireturn, 1) := by decide +kernel
theorem dX5_firstMisfit_0 : decode cX5_firstMisfit 0 = .ok (.aload_n 0, 1) := by decide +kernel
theorem dX5_firstMisfit_1 : decode cX5_firstMisfit 1 = .ok (.getfield 15, 3) := by decide +kernel
theorem dX5_firstMisfit_4 : decode cX5_firstMisfit 4 = .ok (.ifCond .ne 5, 3) := by decide +kernel
theorem dX5_firstMisfit_7 : decode cX5_firstMisfit 7 = .ok (.iconst 0, 1) := by decide +kernel
theorem dX5_firstMisfit_8 : decode cX5_firstMisfit 8 = .ok (.ireturn, 1) := by decide +kernel
theorem dX5_firstMisfit_9 : decode cX5_firstMisfit 9 = .ok (.iconst 0, 1) := by decide +kernel
theorem dX5_firstMisfit_10 : decode cX5_firstMisfit 10 = .ok (.istore_n 1, 1) := by decide +kernel
theorem dX5_firstMisfit_11 : decode cX5_firstMisfit 11 = .ok (.iconst 0, 1) := by decide +kernel
theorem dX5_firstMisfit_12 : decode cX5_firstMisfit 12 = .ok (.istore_n 2, 1) := by decide +kernel
theorem dX5_firstMisfit_13 : decode cX5_firstMisfit 13 = .ok (.iload_n 2, 1) := by decide +kernel
theorem dX5_firstMisfit_14 : decode cX5_firstMisfit 14 = .ok (.bipush 96, 2) := by decide +kernel
theorem dX5_firstMisfit_16 : decode cX5_firstMisfit 16 = .ok (.if_icmp .ge 37, 3) := by decide +kernel
theorem dX5_firstMisfit_19 : decode cX5_firstMisfit 19 = .ok (.iload_n 1, 1) := by decide +kernel
theorem dX5_firstMisfit_20 : decode cX5_firstMisfit 20 = .ok (.aload_n 0, 1) := by decide +kernel
theorem dX5_firstMisfit_21 : decode cX5_firstMisfit 21 = .ok (.getfield 15, 3) := by decide +kernel
theorem dX5_firstMisfit_24 : decode cX5_firstMisfit 24 = .ok (.if_icmp .ge 29, 3) := by decide +kernel
theorem dX5_firstMisfit_27 : decode cX5_firstMisfit 27 = .ok (.aload_n 0, 1) := by decide +kernel
theorem dX5_firstMisfit_28 : decode cX5_firstMisfit 28 = .ok (.iload_n 1, 1) := by decide +kernel
theorem dX5_firstMisfit_29 : decode cX5_firstMisfit 29 = .ok (.invokevirtual 37, 3) := by decide +kernel
theorem dX5_firstMisfit_32 : decode cX5_firstMisfit 32 = .ok (.istore_n 3, 1) := by decide +kernel
theorem dX5_firstMisfit_33 : decode cX5_firstMisfit 33 = .ok (.iload_n 3, 1) := by decide +kernel
theorem dX5_firstMisfit_34 : decode cX5_firstMisfit 34 = .ok (.bipush (-9), 2) := by decide +kernel
theorem dX5_firstMisfit_36 : decode cX5_firstMisfit 36 = .ok (.if_icmp .eq 5, 3) := by decide +kernel
theorem dX5_firstMisfit_39 : decode cX5_firstMisfit 39 = .ok (.iload_n 3, 1) := by decide +kernel
theorem dX5_firstMisfit_40 : decode cX5_firstMisfit 40 = .ok (.ireturn, 1) := by decide +kernel
theorem dX5_firstMisfit_41 : decode cX5_firstMisfit 41 = .ok (.aload_n 0, 1) := by decide +kernel
theorem dX5_firstMisfit_42 : decode cX5_firstMisfit 42 = .ok (.iload_n 1, 1) := by decide +kernel
theorem dX5_firstMisfit_43 : decode cX5_firstMisfit 43 = .ok (.invokevirtual 40, 3) := by decide +kernel
theorem dX5_firstMisfit_46 : decode cX5_firstMisfit 46 = .ok (.istore_n 1, 1) := by decide +kernel
theorem dX5_firstMisfit_47 : decode cX5_firstMisfit 47 = .ok (.iinc 2 1, 3) := by decide +kernel
theorem dX5_firstMisfit_50 : decode cX5_firstMisfit 50 = .ok (.goto (-37), 3) := by decide +kernel
theorem dX5_firstMisfit_53 : decode cX5_firstMisfit 53 = .ok (.bipush (-9), 2) := by decide +kernel
theorem dX5_firstMisfit_55 : decode cX5_firstMisfit 55 = .ok (.ireturn, 1) := by decide +kernel
theorem dX6_moreIfWashed_0 : decode cX6_moreIfWashed 0 = .ok (.aload_n 0, 1) := by decide +kernel
theorem dX6_moreIfWashed_1 : decode cX6_moreIfWashed 1 = .ok (.iload_n 1, 1) := by decide +kernel
theorem dX6_moreIfWashed_2 : decode cX6_moreIfWashed 2 = .ok (.invokevirtual 35, 3) := by decide +kernel
theorem dX6_moreIfWashed_5 : decode cX6_moreIfWashed 5 = .ok (.aload_n 0, 1) := by decide +kernel
theorem dX6_moreIfWashed_6 : decode cX6_moreIfWashed 6 = .ok (.iload_n 1, 1) := by decide +kernel
theorem dX6_moreIfWashed_7 : decode cX6_moreIfWashed 7 = .ok (.invokevirtual 39, 3) := by decide +kernel
theorem dX6_moreIfWashed_10 : decode cX6_moreIfWashed 10 = .ok (.isub, 1) := by decide +kernel
theorem dX6_moreIfWashed_11 : decode cX6_moreIfWashed 11 = .ok (.ireturn, 1) := by decide +kernel
theorem dX7_refuse_0 : decode cX7_refuse 0 = .ok (.iload_n 1, 1) := by decide +kernel
theorem dX7_refuse_1 : decode cX7_refuse 1 = .ok (.ifCond .ge 20, 3) := by decide +kernel
theorem dX7_refuse_4 : decode cX7_refuse 4 = .ok (.iload_n 1, 1) := by decide +kernel
theorem dX7_refuse_5 : decode cX7_refuse 5 = .ok (.bipush (-6), 2) := by decide +kernel
theorem dX7_refuse_7 : decode cX7_refuse 7 = .ok (.if_icmp .lt 14, 3) := by decide +kernel
theorem dX7_refuse_10 : decode cX7_refuse 10 = .ok (.aload_n 0, 1) := by decide +kernel
theorem dX7_refuse_11 : decode cX7_refuse 11 = .ok (.getfield 68, 3) := by decide +kernel
theorem dX7_refuse_14 : decode cX7_refuse 14 = .ok (.iload_n 1, 1) := by decide +kernel
theorem dX7_refuse_15 : decode cX7_refuse 15 = .ok (.ineg, 1) := by decide +kernel
theorem dX7_refuse_16 : decode cX7_refuse 16 = .ok (.dup2, 1) := by decide +kernel
theorem dX7_refuse_17 : decode cX7_refuse 17 = .ok (.iaload, 1) := by decide +kernel
theorem dX7_refuse_18 : decode cX7_refuse 18 = .ok (.iconst 1, 1) := by decide +kernel
theorem dX7_refuse_19 : decode cX7_refuse 19 = .ok (.iadd, 1) := by decide +kernel
theorem dX7_refuse_20 : decode cX7_refuse 20 = .ok (.iastore, 1) := by decide +kernel
theorem dX7_refuse_21 : decode cX7_refuse 21 = .ok (.iload_n 1, 1) := by decide +kernel
theorem dX7_refuse_22 : decode cX7_refuse 22 = .ok (.ireturn, 1) := by decide +kernel
theorem dX7_letter_0 : decode cX7_letter 0 = .ok (.iload_n 1, 1) := by decide +kernel
theorem dX7_letter_1 : decode cX7_letter 1 = .ok (.ifCond .ge 10, 3) := by decide +kernel
theorem dX7_letter_4 : decode cX7_letter 4 = .ok (.aload_n 0, 1) := by decide +kernel
theorem dX7_letter_5 : decode cX7_letter 5 = .ok (.bipush (-4), 2) := by decide +kernel
theorem dX7_letter_7 : decode cX7_letter 7 = .ok (.invokevirtual 71, 3) := by decide +kernel
theorem dX7_letter_10 : decode cX7_letter 10 = .ok (.ireturn, 1) := by decide +kernel
theorem dX7_letter_11 : decode cX7_letter 11 = .ok (.iload_n 1, 1) := by decide +kernel
theorem dX7_letter_12 : decode cX7_letter 12 = .ok (.sipush 255, 3) := by decide +kernel
theorem dX7_letter_15 : decode cX7_letter 15 = .ok (.if_icmp .gt 13, 3) := by decide +kernel
theorem dX7_letter_18 : decode cX7_letter 18 = .ok (.aload_n 0, 1) := by decide +kernel
theorem dX7_letter_19 : decode cX7_letter 19 = .ok (.getfield 32, 3) := by decide +kernel
theorem dX7_letter_22 : decode cX7_letter 22 = .ok (.invokevirtual 75, 3) := by decide +kernel
theorem dX7_letter_25 : decode cX7_letter 25 = .ok (.ifCond .eq 10, 3) := by decide +kernel
theorem dX7_letter_28 : decode cX7_letter 28 = .ok (.aload_n 0, 1) := by decide +kernel
theorem dX7_letter_29 : decode cX7_letter 29 = .ok (.bipush (-6), 2) := by decide +kernel
theorem dX7_letter_31 : decode cX7_letter 31 = .ok (.invokevirtual 71, 3) := by decide +kernel
theorem dX7_letter_34 : decode cX7_letter 34 = .ok (.ireturn, 1) := by decide +kernel
theorem dX7_letter_35 : decode cX7_letter 35 = .ok (.aload_n 0, 1) := by decide +kernel
theorem dX7_letter_36 : decode cX7_letter 36 = .ok (.getfield 32, 3) := by decide +kernel
theorem dX7_letter_39 : decode cX7_letter 39 = .ok (.iload_n 1, 1) := by decide +kernel
theorem dX7_letter_40 : decode cX7_letter 40 = .ok (.invokevirtual 79, 3) := by decide +kernel
theorem dX7_letter_43 : decode cX7_letter 43 = .ok (.aload_n 0, 1) := by decide +kernel
theorem dX7_letter_44 : decode cX7_letter 44 = .ok (.getfield 32, 3) := by decide +kernel
theorem dX7_letter_47 : decode cX7_letter 47 = .ok (.getfield 83, 3) := by decide +kernel
theorem dX7_letter_50 : decode cX7_letter 50 = .ok (.ireturn, 1) := by decide +kernel
theorem dX7_tellStatement_0 : decode cX7_tellStatement 0 = .ok (.aload_n 0, 1) := by decide +kernel
theorem dX7_tellStatement_1 : decode cX7_tellStatement 1 = .ok (.getfield 32, 3) := by decide +kernel
theorem dX7_tellStatement_4 : decode cX7_tellStatement 4 = .ok (.iload_n 1, 1) := by decide +kernel
theorem dX7_tellStatement_5 : decode cX7_tellStatement 5 = .ok (.iconst 1, 1) := by decide +kernel
theorem dX7_tellStatement_6 : decode cX7_tellStatement 6 = .ok (.iadd, 1) := by decide +kernel
theorem dX7_tellStatement_7 : decode cX7_tellStatement 7 = .ok (.iconst 1, 1) := by decide +kernel
theorem dX7_tellStatement_8 : decode cX7_tellStatement 8 = .ok (.invokevirtual 298, 3) := by decide +kernel
theorem dX7_tellStatement_11 : decode cX7_tellStatement 11 = .ok (.istore_n 2, 1) := by decide +kernel
theorem dX7_tellStatement_12 : decode cX7_tellStatement 12 = .ok (.aload_n 0, 1) := by decide +kernel
theorem dX7_tellStatement_13 : decode cX7_tellStatement 13 = .ok (.getfield 32, 3) := by decide +kernel
theorem dX7_tellStatement_16 : decode cX7_tellStatement 16 = .ok (.iload_n 1, 1) := by decide +kernel
theorem dX7_tellStatement_17 : decode cX7_tellStatement 17 = .ok (.invokevirtual 301, 3) := by decide +kernel
theorem dX7_tellStatement_20 : decode cX7_tellStatement 20 = .ok (.tableswitch 308 100 121 #[257, 308, 308, 133, 237, 308, 308, 308, 308, 308, 308, 308, 308, 308, 308, 277, 104, 308, 175, 308, 308, 218], 104) := by decide +kernel
theorem dX7_tellStatement_124 : decode cX7_tellStatement 124 = .ok (.aload_n 0, 1) := by decide +kernel
theorem dX7_tellStatement_125 : decode cX7_tellStatement 125 = .ok (.getfield 19, 3) := by decide +kernel
theorem dX7_tellStatement_128 : decode cX7_tellStatement 128 = .ok (.aload_n 0, 1) := by decide +kernel
theorem dX7_tellStatement_129 : decode cX7_tellStatement 129 = .ok (.getfield 32, 3) := by decide +kernel
theorem dX7_tellStatement_132 : decode cX7_tellStatement 132 = .ok (.iload_n 1, 1) := by decide +kernel
theorem dX7_tellStatement_133 : decode cX7_tellStatement 133 = .ok (.iconst 1, 1) := by decide +kernel
theorem dX7_tellStatement_134 : decode cX7_tellStatement 134 = .ok (.iadd, 1) := by decide +kernel
theorem dX7_tellStatement_135 : decode cX7_tellStatement 135 = .ok (.invokevirtual 304, 3) := by decide +kernel
theorem dX7_tellStatement_138 : decode cX7_tellStatement 138 = .ok (.aload_n 0, 1) := by decide +kernel
theorem dX7_tellStatement_139 : decode cX7_tellStatement 139 = .ok (.getfield 32, 3) := by decide +kernel
theorem dX7_tellStatement_142 : decode cX7_tellStatement 142 = .ok (.iload_n 1, 1) := by decide +kernel
theorem dX7_tellStatement_143 : decode cX7_tellStatement 143 = .ok (.iconst 2, 1) := by decide +kernel
theorem dX7_tellStatement_144 : decode cX7_tellStatement 144 = .ok (.iadd, 1) := by decide +kernel
theorem dX7_tellStatement_145 : decode cX7_tellStatement 145 = .ok (.iconst 1, 1) := by decide +kernel
theorem dX7_tellStatement_146 : decode cX7_tellStatement 146 = .ok (.invokevirtual 298, 3) := by decide +kernel
theorem dX7_tellStatement_149 : decode cX7_tellStatement 149 = .ok (.invokevirtual 307, 3) := by decide +kernel
theorem dX7_tellStatement_152 : decode cX7_tellStatement 152 = .ok (.ireturn, 1) := by decide +kernel
theorem dX7_tellStatement_153 : decode cX7_tellStatement 153 = .ok (.aload_n 0, 1) := by decide +kernel
theorem dX7_tellStatement_154 : decode cX7_tellStatement 154 = .ok (.getfield 19, 3) := by decide +kernel
theorem dX7_tellStatement_157 : decode cX7_tellStatement 157 = .ok (.iload_n 2, 1) := by decide +kernel
theorem dX7_tellStatement_158 : decode cX7_tellStatement 158 = .ok (.aload_n 0, 1) := by decide +kernel
theorem dX7_tellStatement_159 : decode cX7_tellStatement 159 = .ok (.getfield 32, 3) := by decide +kernel
theorem dX7_tellStatement_162 : decode cX7_tellStatement 162 = .ok (.iload_n 1, 1) := by decide +kernel
theorem dX7_tellStatement_163 : decode cX7_tellStatement 163 = .ok (.iconst 2, 1) := by decide +kernel
theorem dX7_tellStatement_164 : decode cX7_tellStatement 164 = .ok (.iadd, 1) := by decide +kernel
theorem dX7_tellStatement_165 : decode cX7_tellStatement 165 = .ok (.iconst 2, 1) := by decide +kernel
theorem dX7_tellStatement_166 : decode cX7_tellStatement 166 = .ok (.invokevirtual 298, 3) := by decide +kernel
theorem dX7_tellStatement_169 : decode cX7_tellStatement 169 = .ok (.aload_n 0, 1) := by decide +kernel
theorem dX7_tellStatement_170 : decode cX7_tellStatement 170 = .ok (.getfield 32, 3) := by decide +kernel
theorem dX7_tellStatement_173 : decode cX7_tellStatement 173 = .ok (.iload_n 1, 1) := by decide +kernel
theorem dX7_tellStatement_174 : decode cX7_tellStatement 174 = .ok (.iconst 2, 1) := by decide +kernel
theorem dX7_tellStatement_175 : decode cX7_tellStatement 175 = .ok (.iadd, 1) := by decide +kernel
theorem dX7_tellStatement_176 : decode cX7_tellStatement 176 = .ok (.iconst 2, 1) := by decide +kernel
theorem dX7_tellStatement_177 : decode cX7_tellStatement 177 = .ok (.invokevirtual 298, 3) := by decide +kernel
theorem dX7_tellStatement_180 : decode cX7_tellStatement 180 = .ok (.aload_n 0, 1) := by decide +kernel
theorem dX7_tellStatement_181 : decode cX7_tellStatement 181 = .ok (.getfield 32, 3) := by decide +kernel
theorem dX7_tellStatement_184 : decode cX7_tellStatement 184 = .ok (.iload_n 1, 1) := by decide +kernel
theorem dX7_tellStatement_185 : decode cX7_tellStatement 185 = .ok (.iconst 4, 1) := by decide +kernel
theorem dX7_tellStatement_186 : decode cX7_tellStatement 186 = .ok (.iadd, 1) := by decide +kernel
theorem dX7_tellStatement_187 : decode cX7_tellStatement 187 = .ok (.iconst 2, 1) := by decide +kernel
theorem dX7_tellStatement_188 : decode cX7_tellStatement 188 = .ok (.invokevirtual 298, 3) := by decide +kernel
theorem dX7_tellStatement_191 : decode cX7_tellStatement 191 = .ok (.invokevirtual 310, 3) := by decide +kernel
theorem dX7_tellStatement_194 : decode cX7_tellStatement 194 = .ok (.ireturn, 1) := by decide +kernel
theorem dX7_tellStatement_195 : decode cX7_tellStatement 195 = .ok (.aload_n 0, 1) := by decide +kernel
theorem dX7_tellStatement_196 : decode cX7_tellStatement 196 = .ok (.getfield 19, 3) := by decide +kernel
theorem dX7_tellStatement_199 : decode cX7_tellStatement 199 = .ok (.iload_n 2, 1) := by decide +kernel
theorem dX7_tellStatement_200 : decode cX7_tellStatement 200 = .ok (.aload_n 0, 1) := by decide +kernel
theorem dX7_tellStatement_201 : decode cX7_tellStatement 201 = .ok (.getfield 32, 3) := by decide +kernel
theorem dX7_tellStatement_204 : decode cX7_tellStatement 204 = .ok (.iload_n 1, 1) := by decide +kernel
theorem dX7_tellStatement_205 : decode cX7_tellStatement 205 = .ok (.iconst 2, 1) := by decide +kernel
theorem dX7_tellStatement_206 : decode cX7_tellStatement 206 = .ok (.iadd, 1) := by decide +kernel
theorem dX7_tellStatement_207 : decode cX7_tellStatement 207 = .ok (.iconst 2, 1) := by decide +kernel
theorem dX7_tellStatement_208 : decode cX7_tellStatement 208 = .ok (.invokevirtual 298, 3) := by decide +kernel
theorem dX7_tellStatement_211 : decode cX7_tellStatement 211 = .ok (.aload_n 0, 1) := by decide +kernel
theorem dX7_tellStatement_212 : decode cX7_tellStatement 212 = .ok (.getfield 32, 3) := by decide +kernel
theorem dX7_tellStatement_215 : decode cX7_tellStatement 215 = .ok (.iload_n 1, 1) := by decide +kernel
theorem dX7_tellStatement_216 : decode cX7_tellStatement 216 = .ok (.iconst 4, 1) := by decide +kernel
theorem dX7_tellStatement_217 : decode cX7_tellStatement 217 = .ok (.iadd, 1) := by decide +kernel
theorem dX7_tellStatement_218 : decode cX7_tellStatement 218 = .ok (.iconst 2, 1) := by decide +kernel
theorem dX7_tellStatement_219 : decode cX7_tellStatement 219 = .ok (.invokevirtual 298, 3) := by decide +kernel
theorem dX7_tellStatement_222 : decode cX7_tellStatement 222 = .ok (.aload_n 0, 1) := by decide +kernel
theorem dX7_tellStatement_223 : decode cX7_tellStatement 223 = .ok (.getfield 32, 3) := by decide +kernel
theorem dX7_tellStatement_226 : decode cX7_tellStatement 226 = .ok (.iload_n 1, 1) := by decide +kernel
theorem dX7_tellStatement_227 : decode cX7_tellStatement 227 = .ok (.bipush 6, 2) := by decide +kernel
theorem dX7_tellStatement_229 : decode cX7_tellStatement 229 = .ok (.iadd, 1) := by decide +kernel
theorem dX7_tellStatement_230 : decode cX7_tellStatement 230 = .ok (.iconst 2, 1) := by decide +kernel
theorem dX7_tellStatement_231 : decode cX7_tellStatement 231 = .ok (.invokevirtual 298, 3) := by decide +kernel
theorem dX7_tellStatement_234 : decode cX7_tellStatement 234 = .ok (.invokevirtual 310, 3) := by decide +kernel
theorem dX7_tellStatement_237 : decode cX7_tellStatement 237 = .ok (.ireturn, 1) := by decide +kernel
theorem dX7_tellStatement_238 : decode cX7_tellStatement 238 = .ok (.aload_n 0, 1) := by decide +kernel
theorem dX7_tellStatement_239 : decode cX7_tellStatement 239 = .ok (.getfield 19, 3) := by decide +kernel
theorem dX7_tellStatement_242 : decode cX7_tellStatement 242 = .ok (.aload_n 0, 1) := by decide +kernel
theorem dX7_tellStatement_243 : decode cX7_tellStatement 243 = .ok (.getfield 32, 3) := by decide +kernel
theorem dX7_tellStatement_246 : decode cX7_tellStatement 246 = .ok (.iload_n 1, 1) := by decide +kernel
theorem dX7_tellStatement_247 : decode cX7_tellStatement 247 = .ok (.iconst 1, 1) := by decide +kernel
theorem dX7_tellStatement_248 : decode cX7_tellStatement 248 = .ok (.iadd, 1) := by decide +kernel
theorem dX7_tellStatement_249 : decode cX7_tellStatement 249 = .ok (.iconst 2, 1) := by decide +kernel
theorem dX7_tellStatement_250 : decode cX7_tellStatement 250 = .ok (.invokevirtual 298, 3) := by decide +kernel
theorem dX7_tellStatement_253 : decode cX7_tellStatement 253 = .ok (.invokevirtual 313, 3) := by decide +kernel
theorem dX7_tellStatement_256 : decode cX7_tellStatement 256 = .ok (.ireturn, 1) := by decide +kernel
theorem dX7_tellStatement_257 : decode cX7_tellStatement 257 = .ok (.aload_n 0, 1) := by decide +kernel
theorem dX7_tellStatement_258 : decode cX7_tellStatement 258 = .ok (.getfield 19, 3) := by decide +kernel
theorem dX7_tellStatement_261 : decode cX7_tellStatement 261 = .ok (.iload_n 2, 1) := by decide +kernel
theorem dX7_tellStatement_262 : decode cX7_tellStatement 262 = .ok (.aload_n 0, 1) := by decide +kernel
theorem dX7_tellStatement_263 : decode cX7_tellStatement 263 = .ok (.getfield 32, 3) := by decide +kernel
theorem dX7_tellStatement_266 : decode cX7_tellStatement 266 = .ok (.iload_n 1, 1) := by decide +kernel
theorem dX7_tellStatement_267 : decode cX7_tellStatement 267 = .ok (.iconst 2, 1) := by decide +kernel
theorem dX7_tellStatement_268 : decode cX7_tellStatement 268 = .ok (.iadd, 1) := by decide +kernel
theorem dX7_tellStatement_269 : decode cX7_tellStatement 269 = .ok (.iconst 1, 1) := by decide +kernel
theorem dX7_tellStatement_270 : decode cX7_tellStatement 270 = .ok (.invokevirtual 298, 3) := by decide +kernel
theorem dX7_tellStatement_273 : decode cX7_tellStatement 273 = .ok (.invokevirtual 145, 3) := by decide +kernel
theorem dX7_tellStatement_276 : decode cX7_tellStatement 276 = .ok (.ireturn, 1) := by decide +kernel
theorem dX7_tellStatement_277 : decode cX7_tellStatement 277 = .ok (.aload_n 0, 1) := by decide +kernel
theorem dX7_tellStatement_278 : decode cX7_tellStatement 278 = .ok (.getfield 19, 3) := by decide +kernel
theorem dX7_tellStatement_281 : decode cX7_tellStatement 281 = .ok (.aload_n 0, 1) := by decide +kernel
theorem dX7_tellStatement_282 : decode cX7_tellStatement 282 = .ok (.getfield 32, 3) := by decide +kernel
theorem dX7_tellStatement_285 : decode cX7_tellStatement 285 = .ok (.iload_n 1, 1) := by decide +kernel
theorem dX7_tellStatement_286 : decode cX7_tellStatement 286 = .ok (.iconst 1, 1) := by decide +kernel
theorem dX7_tellStatement_287 : decode cX7_tellStatement 287 = .ok (.iadd, 1) := by decide +kernel
theorem dX7_tellStatement_288 : decode cX7_tellStatement 288 = .ok (.iconst 2, 1) := by decide +kernel
theorem dX7_tellStatement_289 : decode cX7_tellStatement 289 = .ok (.invokevirtual 298, 3) := by decide +kernel
theorem dX7_tellStatement_292 : decode cX7_tellStatement 292 = .ok (.putfield 151, 3) := by decide +kernel
theorem dX7_tellStatement_295 : decode cX7_tellStatement 295 = .ok (.iconst 1, 1) := by decide +kernel
theorem dX7_tellStatement_296 : decode cX7_tellStatement 296 = .ok (.ireturn, 1) := by decide +kernel
theorem dX7_tellStatement_297 : decode cX7_tellStatement 297 = .ok (.aload_n 0, 1) := by decide +kernel
theorem dX7_tellStatement_298 : decode cX7_tellStatement 298 = .ok (.getfield 19, 3) := by decide +kernel
theorem dX7_tellStatement_301 : decode cX7_tellStatement 301 = .ok (.iload_n 2, 1) := by decide +kernel
theorem dX7_tellStatement_302 : decode cX7_tellStatement 302 = .ok (.aload_n 0, 1) := by decide +kernel
theorem dX7_tellStatement_303 : decode cX7_tellStatement 303 = .ok (.getfield 32, 3) := by decide +kernel
theorem dX7_tellStatement_306 : decode cX7_tellStatement 306 = .ok (.iload_n 1, 1) := by decide +kernel
theorem dX7_tellStatement_307 : decode cX7_tellStatement 307 = .ok (.iconst 2, 1) := by decide +kernel
theorem dX7_tellStatement_308 : decode cX7_tellStatement 308 = .ok (.iadd, 1) := by decide +kernel
theorem dX7_tellStatement_309 : decode cX7_tellStatement 309 = .ok (.iconst 2, 1) := by decide +kernel
theorem dX7_tellStatement_310 : decode cX7_tellStatement 310 = .ok (.invokevirtual 298, 3) := by decide +kernel
theorem dX7_tellStatement_313 : decode cX7_tellStatement 313 = .ok (.aload_n 0, 1) := by decide +kernel
theorem dX7_tellStatement_314 : decode cX7_tellStatement 314 = .ok (.getfield 32, 3) := by decide +kernel
theorem dX7_tellStatement_317 : decode cX7_tellStatement 317 = .ok (.iload_n 1, 1) := by decide +kernel
theorem dX7_tellStatement_318 : decode cX7_tellStatement 318 = .ok (.iconst 4, 1) := by decide +kernel
theorem dX7_tellStatement_319 : decode cX7_tellStatement 319 = .ok (.iadd, 1) := by decide +kernel
theorem dX7_tellStatement_320 : decode cX7_tellStatement 320 = .ok (.iconst 1, 1) := by decide +kernel
theorem dX7_tellStatement_321 : decode cX7_tellStatement 321 = .ok (.invokevirtual 298, 3) := by decide +kernel
theorem dX7_tellStatement_324 : decode cX7_tellStatement 324 = .ok (.invokevirtual 157, 3) := by decide +kernel
theorem dX7_tellStatement_327 : decode cX7_tellStatement 327 = .ok (.ireturn, 1) := by decide +kernel
theorem dX7_tellStatement_328 : decode cX7_tellStatement 328 = .ok (.iconst 0, 1) := by decide +kernel
theorem dX7_tellStatement_329 : decode cX7_tellStatement 329 = .ok (.ireturn, 1) := by decide +kernel
theorem dX7_tellTrial_0 : decode cX7_tellTrial 0 = .ok (.aload_n 0, 1) := by decide +kernel
theorem dX7_tellTrial_1 : decode cX7_tellTrial 1 = .ok (.getfield 19, 3) := by decide +kernel
theorem dX7_tellTrial_4 : decode cX7_tellTrial 4 = .ok (.aload_n 0, 1) := by decide +kernel
theorem dX7_tellTrial_5 : decode cX7_tellTrial 5 = .ok (.getfield 12, 3) := by decide +kernel
theorem dX7_tellTrial_8 : decode cX7_tellTrial 8 = .ok (.invokevirtual 94, 3) := by decide +kernel
theorem dX7_tellTrial_11 : decode cX7_tellTrial 11 = .ok (.iconst 0, 1) := by decide +kernel
theorem dX7_tellTrial_12 : decode cX7_tellTrial 12 = .ok (.istore_n 1, 1) := by decide +kernel
theorem dX7_tellTrial_13 : decode cX7_tellTrial 13 = .ok (.iconst 0, 1) := by decide +kernel
theorem dX7_tellTrial_14 : decode cX7_tellTrial 14 = .ok (.istore_n 2, 1) := by decide +kernel
theorem dX7_tellTrial_15 : decode cX7_tellTrial 15 = .ok (.iload_n 1, 1) := by decide +kernel
theorem dX7_tellTrial_16 : decode cX7_tellTrial 16 = .ok (.bipush 96, 2) := by decide +kernel
theorem dX7_tellTrial_18 : decode cX7_tellTrial 18 = .ok (.if_icmp .ge 43, 3) := by decide +kernel
theorem dX7_tellTrial_21 : decode cX7_tellTrial 21 = .ok (.iload_n 2, 1) := by decide +kernel
theorem dX7_tellTrial_22 : decode cX7_tellTrial 22 = .ok (.aload_n 0, 1) := by decide +kernel
theorem dX7_tellTrial_23 : decode cX7_tellTrial 23 = .ok (.getfield 32, 3) := by decide +kernel
theorem dX7_tellTrial_26 : decode cX7_tellTrial 26 = .ok (.getfield 83, 3) := by decide +kernel
theorem dX7_tellTrial_29 : decode cX7_tellTrial 29 = .ok (.if_icmp .ge 32, 3) := by decide +kernel
theorem dX7_tellTrial_32 : decode cX7_tellTrial 32 = .ok (.aload_n 0, 1) := by decide +kernel
theorem dX7_tellTrial_33 : decode cX7_tellTrial 33 = .ok (.iload_n 2, 1) := by decide +kernel
theorem dX7_tellTrial_34 : decode cX7_tellTrial 34 = .ok (.invokevirtual 292, 3) := by decide +kernel
theorem dX7_tellTrial_37 : decode cX7_tellTrial 37 = .ok (.ifCond .ne 9, 3) := by decide +kernel
theorem dX7_tellTrial_40 : decode cX7_tellTrial 40 = .ok (.sipush (-2000), 3) := by decide +kernel
theorem dX7_tellTrial_43 : decode cX7_tellTrial 43 = .ok (.iload_n 2, 1) := by decide +kernel
theorem dX7_tellTrial_44 : decode cX7_tellTrial 44 = .ok (.isub, 1) := by decide +kernel
theorem dX7_tellTrial_45 : decode cX7_tellTrial 45 = .ok (.ireturn, 1) := by decide +kernel
theorem dX7_tellTrial_46 : decode cX7_tellTrial 46 = .ok (.aload_n 0, 1) := by decide +kernel
theorem dX7_tellTrial_47 : decode cX7_tellTrial 47 = .ok (.getfield 32, 3) := by decide +kernel
theorem dX7_tellTrial_50 : decode cX7_tellTrial 50 = .ok (.iload_n 2, 1) := by decide +kernel
theorem dX7_tellTrial_51 : decode cX7_tellTrial 51 = .ok (.invokevirtual 295, 3) := by decide +kernel
theorem dX7_tellTrial_54 : decode cX7_tellTrial 54 = .ok (.istore_n 2, 1) := by decide +kernel
theorem dX7_tellTrial_55 : decode cX7_tellTrial 55 = .ok (.iinc 1 1, 3) := by decide +kernel
theorem dX7_tellTrial_58 : decode cX7_tellTrial 58 = .ok (.goto (-43), 3) := by decide +kernel
theorem dX7_tellTrial_61 : decode cX7_tellTrial 61 = .ok (.iload_n 1, 1) := by decide +kernel
theorem dX7_tellTrial_62 : decode cX7_tellTrial 62 = .ok (.ireturn, 1) := by decide +kernel
theorem dX7_shop_0 : decode cX7_shop 0 = .ok (.aload_n 0, 1) := by decide +kernel
theorem dX7_shop_1 : decode cX7_shop 1 = .ok (.getfield 32, 3) := by decide +kernel
theorem dX7_shop_4 : decode cX7_shop 4 = .ok (.invokevirtual 87, 3) := by decide +kernel
theorem dX7_shop_7 : decode cX7_shop 7 = .ok (.istore_n 1, 1) := by decide +kernel
theorem dX7_shop_8 : decode cX7_shop 8 = .ok (.iload_n 1, 1) := by decide +kernel
theorem dX7_shop_9 : decode cX7_shop 9 = .ok (.bipush (-9), 2) := by decide +kernel
theorem dX7_shop_11 : decode cX7_shop 11 = .ok (.if_icmp .ne 10, 3) := by decide +kernel
theorem dX7_shop_14 : decode cX7_shop 14 = .ok (.aload_n 0, 1) := by decide +kernel
theorem dX7_shop_15 : decode cX7_shop 15 = .ok (.invokevirtual 91, 3) := by decide +kernel
theorem dX7_shop_18 : decode cX7_shop 18 = .ok (.goto 8, 3) := by decide +kernel
theorem dX7_shop_21 : decode cX7_shop 21 = .ok (.sipush (-1000), 3) := by decide +kernel
theorem dX7_shop_24 : decode cX7_shop 24 = .ok (.iload_n 1, 1) := by decide +kernel
theorem dX7_shop_25 : decode cX7_shop 25 = .ok (.isub, 1) := by decide +kernel
theorem dX7_shop_26 : decode cX7_shop 26 = .ok (.istore_n 2, 1) := by decide +kernel
theorem dX7_shop_27 : decode cX7_shop 27 = .ok (.iload_n 2, 1) := by decide +kernel
theorem dX7_shop_28 : decode cX7_shop 28 = .ok (.ifCond .le 14, 3) := by decide +kernel
theorem dX7_shop_31 : decode cX7_shop 31 = .ok (.aload_n 0, 1) := by decide +kernel
theorem dX7_shop_32 : decode cX7_shop 32 = .ok (.getfield 12, 3) := by decide +kernel
theorem dX7_shop_35 : decode cX7_shop 35 = .ok (.aload_n 0, 1) := by decide +kernel
theorem dX7_shop_36 : decode cX7_shop 36 = .ok (.getfield 19, 3) := by decide +kernel
theorem dX7_shop_39 : decode cX7_shop 39 = .ok (.invokevirtual 94, 3) := by decide +kernel
theorem dX7_shop_42 : decode cX7_shop 42 = .ok (.aload_n 0, 1) := by decide +kernel
theorem dX7_shop_43 : decode cX7_shop 43 = .ok (.getfield 32, 3) := by decide +kernel
theorem dX7_shop_46 : decode cX7_shop 46 = .ok (.iconst 0, 1) := by decide +kernel
theorem dX7_shop_47 : decode cX7_shop 47 = .ok (.putfield 83, 3) := by decide +kernel
theorem dX7_shop_50 : decode cX7_shop 50 = .ok (.iload_n 2, 1) := by decide +kernel
theorem dX7_shop_51 : decode cX7_shop 51 = .ok (.ireturn, 1) := by decide +kernel
theorem dX7_thing_0 : decode cX7_thing 0 = .ok (.aload_n 0, 1) := by decide +kernel
theorem dX7_thing_1 : decode cX7_thing 1 = .ok (.getfield 12, 3) := by decide +kernel
theorem dX7_thing_4 : decode cX7_thing 4 = .ok (.iload_n 1, 1) := by decide +kernel
theorem dX7_thing_5 : decode cX7_thing 5 = .ok (.invokevirtual 98, 3) := by decide +kernel
theorem dX7_thing_8 : decode cX7_thing 8 = .ok (.ifCond .eq 9, 3) := by decide +kernel
theorem dX7_thing_11 : decode cX7_thing 11 = .ok (.aload_n 0, 1) := by decide +kernel
theorem dX7_thing_12 : decode cX7_thing 12 = .ok (.iconst (-1), 1) := by decide +kernel
theorem dX7_thing_13 : decode cX7_thing 13 = .ok (.invokevirtual 71, 3) := by decide +kernel
theorem dX7_thing_16 : decode cX7_thing 16 = .ok (.ireturn, 1) := by decide +kernel
theorem dX7_thing_17 : decode cX7_thing 17 = .ok (.aload_n 0, 1) := by decide +kernel
theorem dX7_thing_18 : decode cX7_thing 18 = .ok (.getfield 12, 3) := by decide +kernel
theorem dX7_thing_21 : decode cX7_thing 21 = .ok (.iload_n 1, 1) := by decide +kernel
theorem dX7_thing_22 : decode cX7_thing 22 = .ok (.invokevirtual 102, 3) := by decide +kernel
theorem dX7_thing_25 : decode cX7_thing 25 = .ok (.astore_n 3, 1) := by decide +kernel
theorem dX7_thing_26 : decode cX7_thing 26 = .ok (.iload_n 2, 1) := by decide +kernel
theorem dX7_thing_27 : decode cX7_thing 27 = .ok (.tableswitch 65 0 4 #[33, 38, 43, 48, 60], 33) := by decide +kernel
theorem dX7_thing_60 : decode cX7_thing 60 = .ok (.aload_n 3, 1) := by decide +kernel
theorem dX7_thing_61 : decode cX7_thing 61 = .ok (.getfield 106, 3) := by decide +kernel
theorem dX7_thing_64 : decode cX7_thing 64 = .ok (.ireturn, 1) := by decide +kernel
theorem dX7_thing_65 : decode cX7_thing 65 = .ok (.aload_n 3, 1) := by decide +kernel
theorem dX7_thing_66 : decode cX7_thing 66 = .ok (.getfield 109, 3) := by decide +kernel
theorem dX7_thing_69 : decode cX7_thing 69 = .ok (.ireturn, 1) := by decide +kernel
theorem dX7_thing_70 : decode cX7_thing 70 = .ok (.aload_n 3, 1) := by decide +kernel
theorem dX7_thing_71 : decode cX7_thing 71 = .ok (.getfield 112, 3) := by decide +kernel
theorem dX7_thing_74 : decode cX7_thing 74 = .ok (.ireturn, 1) := by decide +kernel
theorem dX7_thing_75 : decode cX7_thing 75 = .ok (.aload_n 3, 1) := by decide +kernel
theorem dX7_thing_76 : decode cX7_thing 76 = .ok (.aload_n 0, 1) := by decide +kernel
theorem dX7_thing_77 : decode cX7_thing 77 = .ok (.getfield 12, 3) := by decide +kernel
theorem dX7_thing_80 : decode cX7_thing 80 = .ok (.getfield 115, 3) := by decide +kernel
theorem dX7_thing_83 : decode cX7_thing 83 = .ok (.invokevirtual 118, 3) := by decide +kernel
theorem dX7_thing_86 : decode cX7_thing 86 = .ok (.ireturn, 1) := by decide +kernel
theorem dX7_thing_87 : decode cX7_thing 87 = .ok (.aload_n 3, 1) := by decide +kernel
theorem dX7_thing_88 : decode cX7_thing 88 = .ok (.invokevirtual 121, 3) := by decide +kernel
theorem dX7_thing_91 : decode cX7_thing 91 = .ok (.ireturn, 1) := by decide +kernel
theorem dX7_thing_92 : decode cX7_thing 92 = .ok (.aload_n 0, 1) := by decide +kernel
theorem dX7_thing_93 : decode cX7_thing 93 = .ok (.bipush (-2), 2) := by decide +kernel
theorem dX7_thing_95 : decode cX7_thing 95 = .ok (.invokevirtual 71, 3) := by decide +kernel
theorem dX7_thing_98 : decode cX7_thing 98 = .ok (.ireturn, 1) := by decide +kernel
theorem dX7_glad_0 : decode cX7_glad 0 = .ok (.aload_n 0, 1) := by decide +kernel
theorem dX7_glad_1 : decode cX7_glad 1 = .ok (.getfield 12, 3) := by decide +kernel
theorem dX7_glad_4 : decode cX7_glad 4 = .ok (.iload_n 1, 1) := by decide +kernel
theorem dX7_glad_5 : decode cX7_glad 5 = .ok (.invokevirtual 98, 3) := by decide +kernel
theorem dX7_glad_8 : decode cX7_glad 8 = .ok (.ifCond .ne 10, 3) := by decide +kernel
theorem dX7_glad_11 : decode cX7_glad 11 = .ok (.iload_n 2, 1) := by decide +kernel
theorem dX7_glad_12 : decode cX7_glad 12 = .ok (.invokestatic 124, 3) := by decide +kernel
theorem dX7_glad_15 : decode cX7_glad 15 = .ok (.ifCond .eq 9, 3) := by decide +kernel
theorem dX7_glad_18 : decode cX7_glad 18 = .ok (.aload_n 0, 1) := by decide +kernel
theorem dX7_glad_19 : decode cX7_glad 19 = .ok (.iconst (-1), 1) := by decide +kernel
theorem dX7_glad_20 : decode cX7_glad 20 = .ok (.invokevirtual 71, 3) := by decide +kernel
theorem dX7_glad_23 : decode cX7_glad 23 = .ok (.ireturn, 1) := by decide +kernel
theorem dX7_glad_24 : decode cX7_glad 24 = .ok (.aload_n 0, 1) := by decide +kernel
theorem dX7_glad_25 : decode cX7_glad 25 = .ok (.getfield 12, 3) := by decide +kernel
theorem dX7_glad_28 : decode cX7_glad 28 = .ok (.iload_n 1, 1) := by decide +kernel
theorem dX7_glad_29 : decode cX7_glad 29 = .ok (.invokevirtual 102, 3) := by decide +kernel
theorem dX7_glad_32 : decode cX7_glad 32 = .ok (.iload_n 2, 1) := by decide +kernel
theorem dX7_glad_33 : decode cX7_glad 33 = .ok (.invokevirtual 127, 3) := by decide +kernel
theorem dX7_glad_36 : decode cX7_glad 36 = .ok (.ireturn, 1) := by decide +kernel
theorem dX7_halves_0 : decode cX7_halves 0 = .ok (.aload_n 0, 1) := by decide +kernel
theorem dX7_halves_1 : decode cX7_halves 1 = .ok (.getfield 12, 3) := by decide +kernel
theorem dX7_halves_4 : decode cX7_halves 4 = .ok (.iload_n 1, 1) := by decide +kernel
theorem dX7_halves_5 : decode cX7_halves 5 = .ok (.iload_n 2, 1) := by decide +kernel
theorem dX7_halves_6 : decode cX7_halves 6 = .ok (.invokevirtual 130, 3) := by decide +kernel
theorem dX7_halves_9 : decode cX7_halves 9 = .ok (.ifCond .eq 9, 3) := by decide +kernel
theorem dX7_halves_12 : decode cX7_halves 12 = .ok (.aload_n 0, 1) := by decide +kernel
theorem dX7_halves_13 : decode cX7_halves 13 = .ok (.iconst (-1), 1) := by decide +kernel
theorem dX7_halves_14 : decode cX7_halves 14 = .ok (.invokevirtual 71, 3) := by decide +kernel
theorem dX7_halves_17 : decode cX7_halves 17 = .ok (.ireturn, 1) := by decide +kernel
theorem dX7_halves_18 : decode cX7_halves 18 = .ok (.aload_n 0, 1) := by decide +kernel
theorem dX7_halves_19 : decode cX7_halves 19 = .ok (.getfield 12, 3) := by decide +kernel
theorem dX7_halves_22 : decode cX7_halves 22 = .ok (.iload_n 1, 1) := by decide +kernel
theorem dX7_halves_23 : decode cX7_halves 23 = .ok (.iload_n 2, 1) := by decide +kernel
theorem dX7_halves_24 : decode cX7_halves 24 = .ok (.invokevirtual 134, 3) := by decide +kernel
theorem dX7_halves_27 : decode cX7_halves 27 = .ok (.ifCond .eq 7, 3) := by decide +kernel
theorem dX7_halves_30 : decode cX7_halves 30 = .ok (.iconst 1, 1) := by decide +kernel
theorem dX7_halves_31 : decode cX7_halves 31 = .ok (.goto 4, 3) := by decide +kernel
theorem dX7_halves_34 : decode cX7_halves 34 = .ok (.iconst 0, 1) := by decide +kernel
theorem dX7_halves_35 : decode cX7_halves 35 = .ok (.ireturn, 1) := by decide +kernel
theorem dX7_outside_0 : decode cX7_outside 0 = .ok (.iload_n 0, 1) := by decide +kernel
theorem dX7_outside_1 : decode cX7_outside 1 = .ok (.iload_n 1, 1) := by decide +kernel
theorem dX7_outside_2 : decode cX7_outside 2 = .ok (.if_icmp .ge 6, 3) := by decide +kernel
theorem dX7_outside_5 : decode cX7_outside 5 = .ok (.bipush (-4), 2) := by decide +kernel
theorem dX7_outside_7 : decode cX7_outside 7 = .ok (.ireturn, 1) := by decide +kernel
theorem dX7_outside_8 : decode cX7_outside 8 = .ok (.iload_n 0, 1) := by decide +kernel
theorem dX7_outside_9 : decode cX7_outside 9 = .ok (.iload_n 2, 1) := by decide +kernel
theorem dX7_outside_10 : decode cX7_outside 10 = .ok (.if_icmp .le 8, 3) := by decide +kernel
theorem dX7_outside_13 : decode cX7_outside 13 = .ok (.bipush (-6), 2) := by decide +kernel
theorem dX7_outside_15 : decode cX7_outside 15 = .ok (.goto 4, 3) := by decide +kernel
theorem dX7_outside_18 : decode cX7_outside 18 = .ok (.iconst 0, 1) := by decide +kernel
theorem dX7_outside_19 : decode cX7_outside 19 = .ok (.ireturn, 1) := by decide +kernel
theorem dX7_turn_0 : decode cX7_turn 0 = .ok (.aload_n 0, 1) := by decide +kernel
theorem dX7_turn_1 : decode cX7_turn 1 = .ok (.getfield 12, 3) := by decide +kernel
theorem dX7_turn_4 : decode cX7_turn 4 = .ok (.iload_n 1, 1) := by decide +kernel
theorem dX7_turn_5 : decode cX7_turn 5 = .ok (.invokevirtual 98, 3) := by decide +kernel
theorem dX7_turn_8 : decode cX7_turn 8 = .ok (.ifCond .eq 9, 3) := by decide +kernel
theorem dX7_turn_11 : decode cX7_turn 11 = .ok (.aload_n 0, 1) := by decide +kernel
theorem dX7_turn_12 : decode cX7_turn 12 = .ok (.iconst (-1), 1) := by decide +kernel
theorem dX7_turn_13 : decode cX7_turn 13 = .ok (.invokevirtual 71, 3) := by decide +kernel
theorem dX7_turn_16 : decode cX7_turn 16 = .ok (.ireturn, 1) := by decide +kernel
theorem dX7_turn_17 : decode cX7_turn 17 = .ok (.iload_n 2, 1) := by decide +kernel
theorem dX7_turn_18 : decode cX7_turn 18 = .ok (.ifCond .lt 8, 3) := by decide +kernel
theorem dX7_turn_21 : decode cX7_turn 21 = .ok (.iload_n 2, 1) := by decide +kernel
theorem dX7_turn_22 : decode cX7_turn 22 = .ok (.iconst 5, 1) := by decide +kernel
theorem dX7_turn_23 : decode cX7_turn 23 = .ok (.if_icmp .le 10, 3) := by decide +kernel
theorem dX7_turn_26 : decode cX7_turn 26 = .ok (.aload_n 0, 1) := by decide +kernel
theorem dX7_turn_27 : decode cX7_turn 27 = .ok (.bipush (-2), 2) := by decide +kernel
theorem dX7_turn_29 : decode cX7_turn 29 = .ok (.invokevirtual 71, 3) := by decide +kernel
theorem dX7_turn_32 : decode cX7_turn 32 = .ok (.ireturn, 1) := by decide +kernel
theorem dX7_turn_33 : decode cX7_turn 33 = .ok (.iload_n 3, 1) := by decide +kernel
theorem dX7_turn_34 : decode cX7_turn 34 = .ok (.iconst 0, 1) := by decide +kernel
theorem dX7_turn_35 : decode cX7_turn 35 = .ok (.bipush 9, 2) := by decide +kernel
theorem dX7_turn_37 : decode cX7_turn 37 = .ok (.invokestatic 137, 3) := by decide +kernel
theorem dX7_turn_40 : decode cX7_turn 40 = .ok (.istore 4, 2) := by decide +kernel
theorem dX7_turn_42 : decode cX7_turn 42 = .ok (.iload 4, 2) := by decide +kernel
theorem dX7_turn_44 : decode cX7_turn 44 = .ok (.ifCond .eq 10, 3) := by decide +kernel
theorem dX7_turn_47 : decode cX7_turn 47 = .ok (.aload_n 0, 1) := by decide +kernel
theorem dX7_turn_48 : decode cX7_turn 48 = .ok (.iload 4, 2) := by decide +kernel
theorem dX7_turn_50 : decode cX7_turn 50 = .ok (.invokevirtual 71, 3) := by decide +kernel
theorem dX7_turn_53 : decode cX7_turn 53 = .ok (.ireturn, 1) := by decide +kernel
theorem dX7_turn_54 : decode cX7_turn 54 = .ok (.aload_n 0, 1) := by decide +kernel
theorem dX7_turn_55 : decode cX7_turn 55 = .ok (.getfield 12, 3) := by decide +kernel
theorem dX7_turn_58 : decode cX7_turn 58 = .ok (.iload_n 1, 1) := by decide +kernel
theorem dX7_turn_59 : decode cX7_turn 59 = .ok (.invokevirtual 102, 3) := by decide +kernel
theorem dX7_turn_62 : decode cX7_turn 62 = .ok (.astore 5, 2) := by decide +kernel
theorem dX7_turn_64 : decode cX7_turn 64 = .ok (.bipush 10, 2) := by decide +kernel
theorem dX7_turn_66 : decode cX7_turn 66 = .ok (.aload 5, 2) := by decide +kernel
theorem dX7_turn_68 : decode cX7_turn 68 = .ok (.getfield 106, 3) := by decide +kernel
theorem dX7_turn_71 : decode cX7_turn 71 = .ok (.imul, 1) := by decide +kernel
theorem dX7_turn_72 : decode cX7_turn 72 = .ok (.aload 5, 2) := by decide +kernel
theorem dX7_turn_74 : decode cX7_turn 74 = .ok (.getfield 109, 3) := by decide +kernel
theorem dX7_turn_77 : decode cX7_turn 77 = .ok (.iadd, 1) := by decide +kernel
theorem dX7_turn_78 : decode cX7_turn 78 = .ok (.istore 6, 2) := by decide +kernel
theorem dX7_turn_80 : decode cX7_turn 80 = .ok (.aload 5, 2) := by decide +kernel
theorem dX7_turn_82 : decode cX7_turn 82 = .ok (.iload_n 2, 1) := by decide +kernel
theorem dX7_turn_83 : decode cX7_turn 83 = .ok (.putfield 106, 3) := by decide +kernel
theorem dX7_turn_86 : decode cX7_turn 86 = .ok (.aload 5, 2) := by decide +kernel
theorem dX7_turn_88 : decode cX7_turn 88 = .ok (.iload_n 3, 1) := by decide +kernel
theorem dX7_turn_89 : decode cX7_turn 89 = .ok (.putfield 109, 3) := by decide +kernel
theorem dX7_turn_92 : decode cX7_turn 92 = .ok (.iload 6, 2) := by decide +kernel
theorem dX7_turn_94 : decode cX7_turn 94 = .ok (.ireturn, 1) := by decide +kernel
theorem dX7_makes_0 : decode cX7_makes 0 = .ok (.aload_n 0, 1) := by decide +kernel
theorem dX7_makes_1 : decode cX7_makes 1 = .ok (.getfield 12, 3) := by decide +kernel
theorem dX7_makes_4 : decode cX7_makes 4 = .ok (.iload_n 1, 1) := by decide +kernel
theorem dX7_makes_5 : decode cX7_makes 5 = .ok (.invokevirtual 98, 3) := by decide +kernel
theorem dX7_makes_8 : decode cX7_makes 8 = .ok (.ifCond .ne 10, 3) := by decide +kernel
theorem dX7_makes_11 : decode cX7_makes 11 = .ok (.iload_n 2, 1) := by decide +kernel
theorem dX7_makes_12 : decode cX7_makes 12 = .ok (.invokestatic 124, 3) := by decide +kernel
theorem dX7_makes_15 : decode cX7_makes 15 = .ok (.ifCond .eq 9, 3) := by decide +kernel
theorem dX7_makes_18 : decode cX7_makes 18 = .ok (.aload_n 0, 1) := by decide +kernel
theorem dX7_makes_19 : decode cX7_makes 19 = .ok (.iconst (-1), 1) := by decide +kernel
theorem dX7_makes_20 : decode cX7_makes 20 = .ok (.invokevirtual 71, 3) := by decide +kernel
theorem dX7_makes_23 : decode cX7_makes 23 = .ok (.ireturn, 1) := by decide +kernel
theorem dX7_makes_24 : decode cX7_makes 24 = .ok (.iload_n 3, 1) := by decide +kernel
theorem dX7_makes_25 : decode cX7_makes 25 = .ok (.iconst 0, 1) := by decide +kernel
theorem dX7_makes_26 : decode cX7_makes 26 = .ok (.bipush 99, 2) := by decide +kernel
theorem dX7_makes_28 : decode cX7_makes 28 = .ok (.invokestatic 137, 3) := by decide +kernel
theorem dX7_makes_31 : decode cX7_makes 31 = .ok (.istore 4, 2) := by decide +kernel
theorem dX7_makes_33 : decode cX7_makes 33 = .ok (.iload 4, 2) := by decide +kernel
theorem dX7_makes_35 : decode cX7_makes 35 = .ok (.ifCond .eq 10, 3) := by decide +kernel
theorem dX7_makes_38 : decode cX7_makes 38 = .ok (.aload_n 0, 1) := by decide +kernel
theorem dX7_makes_39 : decode cX7_makes 39 = .ok (.iload 4, 2) := by decide +kernel
theorem dX7_makes_41 : decode cX7_makes 41 = .ok (.invokevirtual 71, 3) := by decide +kernel
theorem dX7_makes_44 : decode cX7_makes 44 = .ok (.ireturn, 1) := by decide +kernel
theorem dX7_makes_45 : decode cX7_makes 45 = .ok (.aload_n 0, 1) := by decide +kernel
theorem dX7_makes_46 : decode cX7_makes 46 = .ok (.getfield 12, 3) := by decide +kernel
theorem dX7_makes_49 : decode cX7_makes 49 = .ok (.iload_n 1, 1) := by decide +kernel
theorem dX7_makes_50 : decode cX7_makes 50 = .ok (.invokevirtual 102, 3) := by decide +kernel
theorem dX7_makes_53 : decode cX7_makes 53 = .ok (.astore 5, 2) := by decide +kernel
theorem dX7_makes_55 : decode cX7_makes 55 = .ok (.aload 5, 2) := by decide +kernel
theorem dX7_makes_57 : decode cX7_makes 57 = .ok (.iload_n 2, 1) := by decide +kernel
theorem dX7_makes_58 : decode cX7_makes 58 = .ok (.invokevirtual 127, 3) := by decide +kernel
theorem dX7_makes_61 : decode cX7_makes 61 = .ok (.istore 6, 2) := by decide +kernel
theorem dX7_makes_63 : decode cX7_makes 63 = .ok (.aload 5, 2) := by decide +kernel
theorem dX7_makes_65 : decode cX7_makes 65 = .ok (.iload_n 2, 1) := by decide +kernel
theorem dX7_makes_66 : decode cX7_makes 66 = .ok (.iload_n 3, 1) := by decide +kernel
theorem dX7_makes_67 : decode cX7_makes 67 = .ok (.invokevirtual 141, 3) := by decide +kernel
theorem dX7_makes_70 : decode cX7_makes 70 = .ok (.iload 6, 2) := by decide +kernel
theorem dX7_makes_72 : decode cX7_makes 72 = .ok (.ireturn, 1) := by decide +kernel
theorem dX7_pairs_0 : decode cX7_pairs 0 = .ok (.aload_n 0, 1) := by decide +kernel
theorem dX7_pairs_1 : decode cX7_pairs 1 = .ok (.getfield 12, 3) := by decide +kernel
theorem dX7_pairs_4 : decode cX7_pairs 4 = .ok (.iload_n 1, 1) := by decide +kernel
theorem dX7_pairs_5 : decode cX7_pairs 5 = .ok (.iload_n 2, 1) := by decide +kernel
theorem dX7_pairs_6 : decode cX7_pairs 6 = .ok (.invokevirtual 130, 3) := by decide +kernel
theorem dX7_pairs_9 : decode cX7_pairs 9 = .ok (.ifCond .eq 9, 3) := by decide +kernel
theorem dX7_pairs_12 : decode cX7_pairs 12 = .ok (.aload_n 0, 1) := by decide +kernel
theorem dX7_pairs_13 : decode cX7_pairs 13 = .ok (.iconst (-1), 1) := by decide +kernel
theorem dX7_pairs_14 : decode cX7_pairs 14 = .ok (.invokevirtual 71, 3) := by decide +kernel
theorem dX7_pairs_17 : decode cX7_pairs 17 = .ok (.ireturn, 1) := by decide +kernel
theorem dX7_pairs_18 : decode cX7_pairs 18 = .ok (.aload_n 0, 1) := by decide +kernel
theorem dX7_pairs_19 : decode cX7_pairs 19 = .ok (.getfield 12, 3) := by decide +kernel
theorem dX7_pairs_22 : decode cX7_pairs 22 = .ok (.iload_n 1, 1) := by decide +kernel
theorem dX7_pairs_23 : decode cX7_pairs 23 = .ok (.iload_n 2, 1) := by decide +kernel
theorem dX7_pairs_24 : decode cX7_pairs 24 = .ok (.invokevirtual 145, 3) := by decide +kernel
theorem dX7_pairs_27 : decode cX7_pairs 27 = .ok (.pop, 1) := by decide +kernel
theorem dX7_pairs_28 : decode cX7_pairs 28 = .ok (.aload_n 0, 1) := by decide +kernel
theorem dX7_pairs_29 : decode cX7_pairs 29 = .ok (.getfield 12, 3) := by decide +kernel
theorem dX7_pairs_32 : decode cX7_pairs 32 = .ok (.iload_n 1, 1) := by decide +kernel
theorem dX7_pairs_33 : decode cX7_pairs 33 = .ok (.iload_n 2, 1) := by decide +kernel
theorem dX7_pairs_34 : decode cX7_pairs 34 = .ok (.invokevirtual 134, 3) := by decide +kernel
theorem dX7_pairs_37 : decode cX7_pairs 37 = .ok (.ifCond .eq 7, 3) := by decide +kernel
theorem dX7_pairs_40 : decode cX7_pairs 40 = .ok (.iconst 1, 1) := by decide +kernel
theorem dX7_pairs_41 : decode cX7_pairs 41 = .ok (.goto 4, 3) := by decide +kernel
theorem dX7_pairs_44 : decode cX7_pairs 44 = .ok (.iconst 0, 1) := by decide +kernel
theorem dX7_pairs_45 : decode cX7_pairs 45 = .ok (.ireturn, 1) := by decide +kernel
theorem dX7_now_0 : decode cX7_now 0 = .ok (.iload_n 1, 1) := by decide +kernel
theorem dX7_now_1 : decode cX7_now 1 = .ok (.invokestatic 124, 3) := by decide +kernel
theorem dX7_now_4 : decode cX7_now 4 = .ok (.ifCond .eq 9, 3) := by decide +kernel
theorem dX7_now_7 : decode cX7_now 7 = .ok (.aload_n 0, 1) := by decide +kernel
theorem dX7_now_8 : decode cX7_now 8 = .ok (.iconst (-1), 1) := by decide +kernel
theorem dX7_now_9 : decode cX7_now 9 = .ok (.invokevirtual 71, 3) := by decide +kernel
theorem dX7_now_12 : decode cX7_now 12 = .ok (.ireturn, 1) := by decide +kernel
theorem dX7_now_13 : decode cX7_now 13 = .ok (.aload_n 0, 1) := by decide +kernel
theorem dX7_now_14 : decode cX7_now 14 = .ok (.getfield 12, 3) := by decide +kernel
theorem dX7_now_17 : decode cX7_now 17 = .ok (.getfield 115, 3) := by decide +kernel
theorem dX7_now_20 : decode cX7_now 20 = .ok (.istore_n 2, 1) := by decide +kernel
theorem dX7_now_21 : decode cX7_now 21 = .ok (.aload_n 0, 1) := by decide +kernel
theorem dX7_now_22 : decode cX7_now 22 = .ok (.getfield 12, 3) := by decide +kernel
theorem dX7_now_25 : decode cX7_now 25 = .ok (.iload_n 1, 1) := by decide +kernel
theorem dX7_now_26 : decode cX7_now 26 = .ok (.putfield 115, 3) := by decide +kernel
theorem dX7_now_29 : decode cX7_now 29 = .ok (.iload_n 2, 1) := by decide +kernel
theorem dX7_now_30 : decode cX7_now 30 = .ok (.ireturn, 1) := by decide +kernel
theorem dX7_hands_0 : decode cX7_hands 0 = .ok (.iload_n 1, 1) := by decide +kernel
theorem dX7_hands_1 : decode cX7_hands 1 = .ok (.iconst 1, 1) := by decide +kernel
theorem dX7_hands_2 : decode cX7_hands 2 = .ok (.iconst 4, 1) := by decide +kernel
theorem dX7_hands_3 : decode cX7_hands 3 = .ok (.invokestatic 137, 3) := by decide +kernel
theorem dX7_hands_6 : decode cX7_hands 6 = .ok (.istore_n 2, 1) := by decide +kernel
theorem dX7_hands_7 : decode cX7_hands 7 = .ok (.iload_n 2, 1) := by decide +kernel
theorem dX7_hands_8 : decode cX7_hands 8 = .ok (.ifCond .eq 9, 3) := by decide +kernel
theorem dX7_hands_11 : decode cX7_hands 11 = .ok (.aload_n 0, 1) := by decide +kernel
theorem dX7_hands_12 : decode cX7_hands 12 = .ok (.iload_n 2, 1) := by decide +kernel
theorem dX7_hands_13 : decode cX7_hands 13 = .ok (.invokevirtual 71, 3) := by decide +kernel
theorem dX7_hands_16 : decode cX7_hands 16 = .ok (.ireturn, 1) := by decide +kernel
theorem dX7_hands_17 : decode cX7_hands 17 = .ok (.aload_n 0, 1) := by decide +kernel
theorem dX7_hands_18 : decode cX7_hands 18 = .ok (.getfield 12, 3) := by decide +kernel
theorem dX7_hands_21 : decode cX7_hands 21 = .ok (.getfield 148, 3) := by decide +kernel
theorem dX7_hands_24 : decode cX7_hands 24 = .ok (.istore_n 3, 1) := by decide +kernel
theorem dX7_hands_25 : decode cX7_hands 25 = .ok (.aload_n 0, 1) := by decide +kernel
theorem dX7_hands_26 : decode cX7_hands 26 = .ok (.getfield 12, 3) := by decide +kernel
theorem dX7_hands_29 : decode cX7_hands 29 = .ok (.iload_n 1, 1) := by decide +kernel
theorem dX7_hands_30 : decode cX7_hands 30 = .ok (.putfield 148, 3) := by decide +kernel
theorem dX7_hands_33 : decode cX7_hands 33 = .ok (.iload_n 3, 1) := by decide +kernel
theorem dX7_hands_34 : decode cX7_hands 34 = .ok (.ireturn, 1) := by decide +kernel
theorem dX7_pours_0 : decode cX7_pours 0 = .ok (.iload_n 1, 1) := by decide +kernel
theorem dX7_pours_1 : decode cX7_pours 1 = .ok (.iconst 0, 1) := by decide +kernel
theorem dX7_pours_2 : decode cX7_pours 2 = .ok (.bipush 99, 2) := by decide +kernel
theorem dX7_pours_4 : decode cX7_pours 4 = .ok (.invokestatic 137, 3) := by decide +kernel
theorem dX7_pours_7 : decode cX7_pours 7 = .ok (.istore_n 2, 1) := by decide +kernel
theorem dX7_pours_8 : decode cX7_pours 8 = .ok (.iload_n 2, 1) := by decide +kernel
theorem dX7_pours_9 : decode cX7_pours 9 = .ok (.ifCond .eq 9, 3) := by decide +kernel
theorem dX7_pours_12 : decode cX7_pours 12 = .ok (.aload_n 0, 1) := by decide +kernel
theorem dX7_pours_13 : decode cX7_pours 13 = .ok (.iload_n 2, 1) := by decide +kernel
theorem dX7_pours_14 : decode cX7_pours 14 = .ok (.invokevirtual 71, 3) := by decide +kernel
theorem dX7_pours_17 : decode cX7_pours 17 = .ok (.ireturn, 1) := by decide +kernel
theorem dX7_pours_18 : decode cX7_pours 18 = .ok (.aload_n 0, 1) := by decide +kernel
theorem dX7_pours_19 : decode cX7_pours 19 = .ok (.getfield 12, 3) := by decide +kernel
theorem dX7_pours_22 : decode cX7_pours 22 = .ok (.getfield 151, 3) := by decide +kernel
theorem dX7_pours_25 : decode cX7_pours 25 = .ok (.istore_n 3, 1) := by decide +kernel
theorem dX7_pours_26 : decode cX7_pours 26 = .ok (.aload_n 0, 1) := by decide +kernel
theorem dX7_pours_27 : decode cX7_pours 27 = .ok (.getfield 12, 3) := by decide +kernel
theorem dX7_pours_30 : decode cX7_pours 30 = .ok (.iload_n 1, 1) := by decide +kernel
theorem dX7_pours_31 : decode cX7_pours 31 = .ok (.putfield 151, 3) := by decide +kernel
theorem dX7_pours_34 : decode cX7_pours 34 = .ok (.iload_n 3, 1) := by decide +kernel
theorem dX7_pours_35 : decode cX7_pours 35 = .ok (.ireturn, 1) := by decide +kernel
theorem dX7_heldRefusal_0 : decode cX7_heldRefusal 0 = .ok (.aload_n 0, 1) := by decide +kernel
theorem dX7_heldRefusal_1 : decode cX7_heldRefusal 1 = .ok (.getfield 12, 3) := by decide +kernel
theorem dX7_heldRefusal_4 : decode cX7_heldRefusal 4 = .ok (.iload_n 1, 1) := by decide +kernel
theorem dX7_heldRefusal_5 : decode cX7_heldRefusal 5 = .ok (.invokevirtual 98, 3) := by decide +kernel
theorem dX7_heldRefusal_8 : decode cX7_heldRefusal 8 = .ok (.ifCond .eq 5, 3) := by decide +kernel
theorem dX7_heldRefusal_11 : decode cX7_heldRefusal 11 = .ok (.iconst (-1), 1) := by decide +kernel
theorem dX7_heldRefusal_12 : decode cX7_heldRefusal 12 = .ok (.ireturn, 1) := by decide +kernel
theorem dX7_heldRefusal_13 : decode cX7_heldRefusal 13 = .ok (.iload_n 2, 1) := by decide +kernel
theorem dX7_heldRefusal_14 : decode cX7_heldRefusal 14 = .ok (.ifCond .lt 7, 3) := by decide +kernel
theorem dX7_heldRefusal_17 : decode cX7_heldRefusal 17 = .ok (.iload_n 3, 1) := by decide +kernel
theorem dX7_heldRefusal_18 : decode cX7_heldRefusal 18 = .ok (.ifCond .ge 6, 3) := by decide +kernel
theorem dX7_heldRefusal_21 : decode cX7_heldRefusal 21 = .ok (.bipush (-4), 2) := by decide +kernel
theorem dX7_heldRefusal_23 : decode cX7_heldRefusal 23 = .ok (.ireturn, 1) := by decide +kernel
theorem dX7_heldRefusal_24 : decode cX7_heldRefusal 24 = .ok (.iload_n 2, 1) := by decide +kernel
theorem dX7_heldRefusal_25 : decode cX7_heldRefusal 25 = .ok (.bipush 99, 2) := by decide +kernel
theorem dX7_heldRefusal_27 : decode cX7_heldRefusal 27 = .ok (.if_icmp .gt 9, 3) := by decide +kernel
theorem dX7_heldRefusal_30 : decode cX7_heldRefusal 30 = .ok (.iload_n 3, 1) := by decide +kernel
theorem dX7_heldRefusal_31 : decode cX7_heldRefusal 31 = .ok (.bipush 9, 2) := by decide +kernel
theorem dX7_heldRefusal_33 : decode cX7_heldRefusal 33 = .ok (.if_icmp .le 8, 3) := by decide +kernel
theorem dX7_heldRefusal_36 : decode cX7_heldRefusal 36 = .ok (.bipush (-6), 2) := by decide +kernel
theorem dX7_heldRefusal_38 : decode cX7_heldRefusal 38 = .ok (.goto 4, 3) := by decide +kernel
theorem dX7_heldRefusal_41 : decode cX7_heldRefusal 41 = .ok (.iconst 0, 1) := by decide +kernel
theorem dX7_heldRefusal_42 : decode cX7_heldRefusal 42 = .ok (.ireturn, 1) := by decide +kernel
theorem dX7_glues_0 : decode cX7_glues 0 = .ok (.aload_n 0, 1) := by decide +kernel
theorem dX7_glues_1 : decode cX7_glues 1 = .ok (.iload_n 1, 1) := by decide +kernel
theorem dX7_glues_2 : decode cX7_glues 2 = .ok (.iload_n 2, 1) := by decide +kernel
theorem dX7_glues_3 : decode cX7_glues 3 = .ok (.iload_n 3, 1) := by decide +kernel
theorem dX7_glues_4 : decode cX7_glues 4 = .ok (.invokevirtual 154, 3) := by decide +kernel
theorem dX7_glues_7 : decode cX7_glues 7 = .ok (.istore 4, 2) := by decide +kernel
theorem dX7_glues_9 : decode cX7_glues 9 = .ok (.iload 4, 2) := by decide +kernel
theorem dX7_glues_11 : decode cX7_glues 11 = .ok (.ifCond .eq 10, 3) := by decide +kernel
theorem dX7_glues_14 : decode cX7_glues 14 = .ok (.aload_n 0, 1) := by decide +kernel
theorem dX7_glues_15 : decode cX7_glues 15 = .ok (.iload 4, 2) := by decide +kernel
theorem dX7_glues_17 : decode cX7_glues 17 = .ok (.invokevirtual 71, 3) := by decide +kernel
theorem dX7_glues_20 : decode cX7_glues 20 = .ok (.ireturn, 1) := by decide +kernel
theorem dX7_glues_21 : decode cX7_glues 21 = .ok (.aload_n 0, 1) := by decide +kernel
theorem dX7_glues_22 : decode cX7_glues 22 = .ok (.getfield 12, 3) := by decide +kernel
theorem dX7_glues_25 : decode cX7_glues 25 = .ok (.iload_n 1, 1) := by decide +kernel
theorem dX7_glues_26 : decode cX7_glues 26 = .ok (.iload_n 2, 1) := by decide +kernel
theorem dX7_glues_27 : decode cX7_glues 27 = .ok (.iload_n 3, 1) := by decide +kernel
theorem dX7_glues_28 : decode cX7_glues 28 = .ok (.invokevirtual 157, 3) := by decide +kernel
theorem dX7_glues_31 : decode cX7_glues 31 = .ok (.ifCond .ne 10, 3) := by decide +kernel
theorem dX7_glues_34 : decode cX7_glues 34 = .ok (.aload_n 0, 1) := by decide +kernel
theorem dX7_glues_35 : decode cX7_glues 35 = .ok (.bipush (-3), 2) := by decide +kernel
theorem dX7_glues_37 : decode cX7_glues 37 = .ok (.invokevirtual 71, 3) := by decide +kernel
theorem dX7_glues_40 : decode cX7_glues 40 = .ok (.ireturn, 1) := by decide +kernel
theorem dX7_glues_41 : decode cX7_glues 41 = .ok (.aload_n 0, 1) := by decide +kernel
theorem dX7_glues_42 : decode cX7_glues 42 = .ok (.getfield 12, 3) := by decide +kernel
theorem dX7_glues_45 : decode cX7_glues 45 = .ok (.iload_n 1, 1) := by decide +kernel
theorem dX7_glues_46 : decode cX7_glues 46 = .ok (.invokevirtual 102, 3) := by decide +kernel
theorem dX7_glues_49 : decode cX7_glues 49 = .ok (.getfield 112, 3) := by decide +kernel
theorem dX7_glues_52 : decode cX7_glues 52 = .ok (.ireturn, 1) := by decide +kernel
theorem dX7_washes_0 : decode cX7_washes 0 = .ok (.aload_n 0, 1) := by decide +kernel
theorem dX7_washes_1 : decode cX7_washes 1 = .ok (.getfield 12, 3) := by decide +kernel
theorem dX7_washes_4 : decode cX7_washes 4 = .ok (.iload_n 1, 1) := by decide +kernel
theorem dX7_washes_5 : decode cX7_washes 5 = .ok (.invokevirtual 98, 3) := by decide +kernel
theorem dX7_washes_8 : decode cX7_washes 8 = .ok (.ifCond .eq 9, 3) := by decide +kernel
theorem dX7_washes_11 : decode cX7_washes 11 = .ok (.aload_n 0, 1) := by decide +kernel
theorem dX7_washes_12 : decode cX7_washes 12 = .ok (.iconst (-1), 1) := by decide +kernel
theorem dX7_washes_13 : decode cX7_washes 13 = .ok (.invokevirtual 71, 3) := by decide +kernel
theorem dX7_washes_16 : decode cX7_washes 16 = .ok (.ireturn, 1) := by decide +kernel
theorem dX7_washes_17 : decode cX7_washes 17 = .ok (.aload_n 0, 1) := by decide +kernel
theorem dX7_washes_18 : decode cX7_washes 18 = .ok (.getfield 12, 3) := by decide +kernel
theorem dX7_washes_21 : decode cX7_washes 21 = .ok (.iload_n 1, 1) := by decide +kernel
theorem dX7_washes_22 : decode cX7_washes 22 = .ok (.invokevirtual 102, 3) := by decide +kernel
theorem dX7_washes_25 : decode cX7_washes 25 = .ok (.astore_n 2, 1) := by decide +kernel
theorem dX7_washes_26 : decode cX7_washes 26 = .ok (.aload_n 2, 1) := by decide +kernel
theorem dX7_washes_27 : decode cX7_washes 27 = .ok (.invokevirtual 161, 3) := by decide +kernel
theorem dX7_washes_30 : decode cX7_washes 30 = .ok (.ifCond .ne 10, 3) := by decide +kernel
theorem dX7_washes_33 : decode cX7_washes 33 = .ok (.aload_n 0, 1) := by decide +kernel
theorem dX7_washes_34 : decode cX7_washes 34 = .ok (.bipush (-3), 2) := by decide +kernel
theorem dX7_washes_36 : decode cX7_washes 36 = .ok (.invokevirtual 71, 3) := by decide +kernel
theorem dX7_washes_39 : decode cX7_washes 39 = .ok (.ireturn, 1) := by decide +kernel
theorem dX7_washes_40 : decode cX7_washes 40 = .ok (.aload_n 2, 1) := by decide +kernel
theorem dX7_washes_41 : decode cX7_washes 41 = .ok (.getfield 112, 3) := by decide +kernel
theorem dX7_washes_44 : decode cX7_washes 44 = .ok (.istore_n 3, 1) := by decide +kernel
theorem dX7_washes_45 : decode cX7_washes 45 = .ok (.aload_n 2, 1) := by decide +kernel
theorem dX7_washes_46 : decode cX7_washes 46 = .ok (.bipush (-9), 2) := by decide +kernel
theorem dX7_washes_48 : decode cX7_washes 48 = .ok (.putfield 112, 3) := by decide +kernel
theorem dX7_washes_51 : decode cX7_washes 51 = .ok (.iload_n 3, 1) := by decide +kernel
theorem dX7_washes_52 : decode cX7_washes 52 = .ok (.ireturn, 1) := by decide +kernel
theorem dX7_would_0 : decode cX7_would 0 = .ok (.aload_n 0, 1) := by decide +kernel
theorem dX7_would_1 : decode cX7_would 1 = .ok (.iload_n 1, 1) := by decide +kernel
theorem dX7_would_2 : decode cX7_would 2 = .ok (.iload_n 2, 1) := by decide +kernel
theorem dX7_would_3 : decode cX7_would 3 = .ok (.iload_n 3, 1) := by decide +kernel
theorem dX7_would_4 : decode cX7_would 4 = .ok (.invokevirtual 154, 3) := by decide +kernel
theorem dX7_would_7 : decode cX7_would 7 = .ok (.istore 5, 2) := by decide +kernel
theorem dX7_would_9 : decode cX7_would 9 = .ok (.iload 5, 2) := by decide +kernel
theorem dX7_would_11 : decode cX7_would 11 = .ok (.ifCond .eq 10, 3) := by decide +kernel
theorem dX7_would_14 : decode cX7_would 14 = .ok (.aload_n 0, 1) := by decide +kernel
theorem dX7_would_15 : decode cX7_would 15 = .ok (.iload 5, 2) := by decide +kernel
theorem dX7_would_17 : decode cX7_would 17 = .ok (.invokevirtual 71, 3) := by decide +kernel
theorem dX7_would_20 : decode cX7_would 20 = .ok (.ireturn, 1) := by decide +kernel
theorem dX7_would_21 : decode cX7_would 21 = .ok (.iload 4, 2) := by decide +kernel
theorem dX7_would_23 : decode cX7_would 23 = .ok (.ifCond .lt 9, 3) := by decide +kernel
theorem dX7_would_26 : decode cX7_would 26 = .ok (.iload 4, 2) := by decide +kernel
theorem dX7_would_28 : decode cX7_would 28 = .ok (.iconst 2, 1) := by decide +kernel
theorem dX7_would_29 : decode cX7_would 29 = .ok (.if_icmp .le 10, 3) := by decide +kernel
theorem dX7_would_32 : decode cX7_would 32 = .ok (.aload_n 0, 1) := by decide +kernel
theorem dX7_would_33 : decode cX7_would 33 = .ok (.bipush (-2), 2) := by decide +kernel
theorem dX7_would_35 : decode cX7_would 35 = .ok (.invokevirtual 71, 3) := by decide +kernel
theorem dX7_would_38 : decode cX7_would 38 = .ok (.ireturn, 1) := by decide +kernel
theorem dX7_would_39 : decode cX7_would 39 = .ok (.aload_n 0, 1) := by decide +kernel
theorem dX7_would_40 : decode cX7_would 40 = .ok (.getfield 12, 3) := by decide +kernel
theorem dX7_would_43 : decode cX7_would 43 = .ok (.iload_n 1, 1) := by decide +kernel
theorem dX7_would_44 : decode cX7_would 44 = .ok (.invokevirtual 102, 3) := by decide +kernel
theorem dX7_would_47 : decode cX7_would 47 = .ok (.astore 6, 2) := by decide +kernel
theorem dX7_would_49 : decode cX7_would 49 = .ok (.iload 4, 2) := by decide +kernel
theorem dX7_would_51 : decode cX7_would 51 = .ok (.iconst 1, 1) := by decide +kernel
theorem dX7_would_52 : decode cX7_would 52 = .ok (.if_icmp .ne 11, 3) := by decide +kernel
theorem dX7_would_55 : decode cX7_would 55 = .ok (.aload 6, 2) := by decide +kernel
theorem dX7_would_57 : decode cX7_would 57 = .ok (.iload_n 2, 1) := by decide +kernel
theorem dX7_would_58 : decode cX7_would 58 = .ok (.iload_n 3, 1) := by decide +kernel
theorem dX7_would_59 : decode cX7_would 59 = .ok (.invokevirtual 164, 3) := by decide +kernel
theorem dX7_would_62 : decode cX7_would 62 = .ok (.ireturn, 1) := by decide +kernel
theorem dX7_would_63 : decode cX7_would 63 = .ok (.aload 6, 2) := by decide +kernel
theorem dX7_would_65 : decode cX7_would 65 = .ok (.iload_n 2, 1) := by decide +kernel
theorem dX7_would_66 : decode cX7_would 66 = .ok (.iload_n 3, 1) := by decide +kernel
theorem dX7_would_67 : decode cX7_would 67 = .ok (.aload_n 0, 1) := by decide +kernel
theorem dX7_would_68 : decode cX7_would 68 = .ok (.getfield 12, 3) := by decide +kernel
theorem dX7_would_71 : decode cX7_would 71 = .ok (.getfield 115, 3) := by decide +kernel
theorem dX7_would_74 : decode cX7_would 74 = .ok (.invokevirtual 168, 3) := by decide +kernel
theorem dX7_would_77 : decode cX7_would 77 = .ok (.istore 7, 2) := by decide +kernel
theorem dX7_would_79 : decode cX7_would 79 = .ok (.iload 4, 2) := by decide +kernel
theorem dX7_would_81 : decode cX7_would 81 = .ok (.ifCond .ne 8, 3) := by decide +kernel
theorem dX7_would_84 : decode cX7_would 84 = .ok (.iload 7, 2) := by decide +kernel
theorem dX7_would_86 : decode cX7_would 86 = .ok (.goto 10, 3) := by decide +kernel
theorem dX7_would_89 : decode cX7_would 89 = .ok (.aload 6, 2) := by decide +kernel
theorem dX7_would_91 : decode cX7_would 91 = .ok (.iload 7, 2) := by decide +kernel
theorem dX7_would_93 : decode cX7_would 93 = .ok (.invokevirtual 127, 3) := by decide +kernel
theorem dX7_would_96 : decode cX7_would 96 = .ok (.ireturn, 1) := by decide +kernel
theorem dX7_can_0 : decode cX7_can 0 = .ok (.aload_n 0, 1) := by decide +kernel
theorem dX7_can_1 : decode cX7_can 1 = .ok (.getfield 12, 3) := by decide +kernel
theorem dX7_can_4 : decode cX7_can 4 = .ok (.iload_n 1, 1) := by decide +kernel
theorem dX7_can_5 : decode cX7_can 5 = .ok (.invokevirtual 98, 3) := by decide +kernel
theorem dX7_can_8 : decode cX7_can 8 = .ok (.ifCond .eq 9, 3) := by decide +kernel
theorem dX7_can_11 : decode cX7_can 11 = .ok (.aload_n 0, 1) := by decide +kernel
theorem dX7_can_12 : decode cX7_can 12 = .ok (.iconst (-1), 1) := by decide +kernel
theorem dX7_can_13 : decode cX7_can 13 = .ok (.invokevirtual 71, 3) := by decide +kernel
theorem dX7_can_16 : decode cX7_can 16 = .ok (.ireturn, 1) := by decide +kernel
theorem dX7_can_17 : decode cX7_can 17 = .ok (.iconst 0, 1) := by decide +kernel
theorem dX7_can_18 : decode cX7_can 18 = .ok (.istore_n 2, 1) := by decide +kernel
theorem dX7_can_19 : decode cX7_can 19 = .ok (.iconst 0, 1) := by decide +kernel
theorem dX7_can_20 : decode cX7_can 20 = .ok (.istore_n 3, 1) := by decide +kernel
theorem dX7_can_21 : decode cX7_can 21 = .ok (.iload_n 3, 1) := by decide +kernel
theorem dX7_can_22 : decode cX7_can 22 = .ok (.bipush 19, 2) := by decide +kernel
theorem dX7_can_24 : decode cX7_can 24 = .ok (.if_icmp .gt 36, 3) := by decide +kernel
theorem dX7_can_27 : decode cX7_can 27 = .ok (.iload_n 2, 1) := by decide +kernel
theorem dX7_can_28 : decode cX7_can 28 = .ok (.iconst 1, 1) := by decide +kernel
theorem dX7_can_29 : decode cX7_can 29 = .ok (.aload_n 0, 1) := by decide +kernel
theorem dX7_can_30 : decode cX7_can 30 = .ok (.getfield 12, 3) := by decide +kernel
theorem dX7_can_33 : decode cX7_can 33 = .ok (.iload_n 1, 1) := by decide +kernel
theorem dX7_can_34 : decode cX7_can 34 = .ok (.invokevirtual 102, 3) := by decide +kernel
theorem dX7_can_37 : decode cX7_can 37 = .ok (.iload_n 3, 1) := by decide +kernel
theorem dX7_can_38 : decode cX7_can 38 = .ok (.iconst 5, 1) := by decide +kernel
theorem dX7_can_39 : decode cX7_can 39 = .ok (.imul, 1) := by decide +kernel
theorem dX7_can_40 : decode cX7_can 40 = .ok (.iconst 0, 1) := by decide +kernel
theorem dX7_can_41 : decode cX7_can 41 = .ok (.aload_n 0, 1) := by decide +kernel
theorem dX7_can_42 : decode cX7_can 42 = .ok (.getfield 12, 3) := by decide +kernel
theorem dX7_can_45 : decode cX7_can 45 = .ok (.getfield 115, 3) := by decide +kernel
theorem dX7_can_48 : decode cX7_can 48 = .ok (.invokevirtual 168, 3) := by decide +kernel
theorem dX7_can_51 : decode cX7_can 51 = .ok (.ishl, 1) := by decide +kernel
theorem dX7_can_52 : decode cX7_can 52 = .ok (.ior, 1) := by decide +kernel
theorem dX7_can_53 : decode cX7_can 53 = .ok (.istore_n 2, 1) := by decide +kernel
theorem dX7_can_54 : decode cX7_can 54 = .ok (.iinc 3 1, 3) := by decide +kernel
theorem dX7_can_57 : decode cX7_can 57 = .ok (.goto (-36), 3) := by decide +kernel
theorem dX7_can_60 : decode cX7_can 60 = .ok (.iload_n 2, 1) := by decide +kernel
theorem dX7_can_61 : decode cX7_can 61 = .ok (.ireturn, 1) := by decide +kernel
theorem dX7_fewest_0 : decode cX7_fewest 0 = .ok (.aload_n 0, 1) := by decide +kernel
theorem dX7_fewest_1 : decode cX7_fewest 1 = .ok (.getfield 12, 3) := by decide +kernel
theorem dX7_fewest_4 : decode cX7_fewest 4 = .ok (.iload_n 1, 1) := by decide +kernel
theorem dX7_fewest_5 : decode cX7_fewest 5 = .ok (.invokevirtual 98, 3) := by decide +kernel
theorem dX7_fewest_8 : decode cX7_fewest 8 = .ok (.ifCond .ne 10, 3) := by decide +kernel
theorem dX7_fewest_11 : decode cX7_fewest 11 = .ok (.iload_n 2, 1) := by decide +kernel
theorem dX7_fewest_12 : decode cX7_fewest 12 = .ok (.invokestatic 124, 3) := by decide +kernel
theorem dX7_fewest_15 : decode cX7_fewest 15 = .ok (.ifCond .eq 9, 3) := by decide +kernel
theorem dX7_fewest_18 : decode cX7_fewest 18 = .ok (.aload_n 0, 1) := by decide +kernel
theorem dX7_fewest_19 : decode cX7_fewest 19 = .ok (.iconst (-1), 1) := by decide +kernel
theorem dX7_fewest_20 : decode cX7_fewest 20 = .ok (.invokevirtual 71, 3) := by decide +kernel
theorem dX7_fewest_23 : decode cX7_fewest 23 = .ok (.ireturn, 1) := by decide +kernel
theorem dX7_fewest_24 : decode cX7_fewest 24 = .ok (.aload_n 0, 1) := by decide +kernel
theorem dX7_fewest_25 : decode cX7_fewest 25 = .ok (.getfield 12, 3) := by decide +kernel
theorem dX7_fewest_28 : decode cX7_fewest 28 = .ok (.iload_n 1, 1) := by decide +kernel
theorem dX7_fewest_29 : decode cX7_fewest 29 = .ok (.invokevirtual 102, 3) := by decide +kernel
theorem dX7_fewest_32 : decode cX7_fewest 32 = .ok (.iload_n 2, 1) := by decide +kernel
theorem dX7_fewest_33 : decode cX7_fewest 33 = .ok (.aload_n 0, 1) := by decide +kernel
theorem dX7_fewest_34 : decode cX7_fewest 34 = .ok (.getfield 12, 3) := by decide +kernel
theorem dX7_fewest_37 : decode cX7_fewest 37 = .ok (.getfield 115, 3) := by decide +kernel
theorem dX7_fewest_40 : decode cX7_fewest 40 = .ok (.invokevirtual 171, 3) := by decide +kernel
theorem dX7_fewest_43 : decode cX7_fewest 43 = .ok (.ireturn, 1) := by decide +kernel
theorem dX7_gladness_0 : decode cX7_gladness 0 = .ok (.aload_n 0, 1) := by decide +kernel
theorem dX7_gladness_1 : decode cX7_gladness 1 = .ok (.getfield 12, 3) := by decide +kernel
theorem dX7_gladness_4 : decode cX7_gladness 4 = .ok (.aload_n 0, 1) := by decide +kernel
theorem dX7_gladness_5 : decode cX7_gladness 5 = .ok (.getfield 12, 3) := by decide +kernel
theorem dX7_gladness_8 : decode cX7_gladness 8 = .ok (.getfield 115, 3) := by decide +kernel
theorem dX7_gladness_11 : decode cX7_gladness 11 = .ok (.invokevirtual 174, 3) := by decide +kernel
theorem dX7_gladness_14 : decode cX7_gladness 14 = .ok (.ireturn, 1) := by decide +kernel
theorem dX7_notOneOfTwo_0 : decode cX7_notOneOfTwo 0 = .ok (.iload_n 0, 1) := by decide +kernel
theorem dX7_notOneOfTwo_1 : decode cX7_notOneOfTwo 1 = .ok (.ifCond .lt 8, 3) := by decide +kernel
theorem dX7_notOneOfTwo_4 : decode cX7_notOneOfTwo 4 = .ok (.iload_n 0, 1) := by decide +kernel
theorem dX7_notOneOfTwo_5 : decode cX7_notOneOfTwo 5 = .ok (.iconst 1, 1) := by decide +kernel
theorem dX7_notOneOfTwo_6 : decode cX7_notOneOfTwo 6 = .ok (.if_icmp .le 7, 3) := by decide +kernel
theorem dX7_notOneOfTwo_9 : decode cX7_notOneOfTwo 9 = .ok (.iconst 1, 1) := by decide +kernel
theorem dX7_notOneOfTwo_10 : decode cX7_notOneOfTwo 10 = .ok (.goto 4, 3) := by decide +kernel
theorem dX7_notOneOfTwo_13 : decode cX7_notOneOfTwo 13 = .ok (.iconst 0, 1) := by decide +kernel
theorem dX7_notOneOfTwo_14 : decode cX7_notOneOfTwo 14 = .ok (.ireturn, 1) := by decide +kernel
theorem dX7_agree_0 : decode cX7_agree 0 = .ok (.iload_n 1, 1) := by decide +kernel
theorem dX7_agree_1 : decode cX7_agree 1 = .ok (.invokestatic 177, 3) := by decide +kernel
theorem dX7_agree_4 : decode cX7_agree 4 = .ok (.ifCond .eq 10, 3) := by decide +kernel
theorem dX7_agree_7 : decode cX7_agree 7 = .ok (.aload_n 0, 1) := by decide +kernel
theorem dX7_agree_8 : decode cX7_agree 8 = .ok (.bipush (-2), 2) := by decide +kernel
theorem dX7_agree_10 : decode cX7_agree 10 = .ok (.invokevirtual 71, 3) := by decide +kernel
theorem dX7_agree_13 : decode cX7_agree 13 = .ok (.ireturn, 1) := by decide +kernel
theorem dX7_agree_14 : decode cX7_agree 14 = .ok (.iload_n 1, 1) := by decide +kernel
theorem dX7_agree_15 : decode cX7_agree 15 = .ok (.ifCond .ne 13, 3) := by decide +kernel
theorem dX7_agree_18 : decode cX7_agree 18 = .ok (.aload_n 0, 1) := by decide +kernel
theorem dX7_agree_19 : decode cX7_agree 19 = .ok (.getfield 12, 3) := by decide +kernel
theorem dX7_agree_22 : decode cX7_agree 22 = .ok (.invokevirtual 180, 3) := by decide +kernel
theorem dX7_agree_25 : decode cX7_agree 25 = .ok (.goto 10, 3) := by decide +kernel
theorem dX7_agree_28 : decode cX7_agree 28 = .ok (.aload_n 0, 1) := by decide +kernel
theorem dX7_agree_29 : decode cX7_agree 29 = .ok (.getfield 12, 3) := by decide +kernel
theorem dX7_agree_32 : decode cX7_agree 32 = .ok (.invokevirtual 183, 3) := by decide +kernel
theorem dX7_agree_35 : decode cX7_agree 35 = .ok (.ireturn, 1) := by decide +kernel
theorem dX7_most_0 : decode cX7_most 0 = .ok (.iload_n 1, 1) := by decide +kernel
theorem dX7_most_1 : decode cX7_most 1 = .ok (.invokestatic 177, 3) := by decide +kernel
theorem dX7_most_4 : decode cX7_most 4 = .ok (.ifCond .eq 10, 3) := by decide +kernel
theorem dX7_most_7 : decode cX7_most 7 = .ok (.aload_n 0, 1) := by decide +kernel
theorem dX7_most_8 : decode cX7_most 8 = .ok (.bipush (-2), 2) := by decide +kernel
theorem dX7_most_10 : decode cX7_most 10 = .ok (.invokevirtual 71, 3) := by decide +kernel
theorem dX7_most_13 : decode cX7_most 13 = .ok (.ireturn, 1) := by decide +kernel
theorem dX7_most_14 : decode cX7_most 14 = .ok (.aload_n 0, 1) := by decide +kernel
theorem dX7_most_15 : decode cX7_most 15 = .ok (.getfield 46, 3) := by decide +kernel
theorem dX7_most_18 : decode cX7_most 18 = .ok (.aload_n 0, 1) := by decide +kernel
theorem dX7_most_19 : decode cX7_most 19 = .ok (.getfield 12, 3) := by decide +kernel
theorem dX7_most_22 : decode cX7_most 22 = .ok (.aload_n 0, 1) := by decide +kernel
theorem dX7_most_23 : decode cX7_most 23 = .ok (.getfield 12, 3) := by decide +kernel
theorem dX7_most_26 : decode cX7_most 26 = .ok (.getfield 115, 3) := by decide +kernel
theorem dX7_most_29 : decode cX7_most 29 = .ok (.invokevirtual 186, 3) := by decide +kernel
theorem dX7_most_32 : decode cX7_most 32 = .ok (.aload_n 0, 1) := by decide +kernel
theorem dX7_most_33 : decode cX7_most 33 = .ok (.getfield 46, 3) := by decide +kernel
theorem dX7_most_36 : decode cX7_most 36 = .ok (.aload_n 0, 1) := by decide +kernel
theorem dX7_most_37 : decode cX7_most 37 = .ok (.getfield 12, 3) := by decide +kernel
theorem dX7_most_40 : decode cX7_most 40 = .ok (.getfield 151, 3) := by decide +kernel
theorem dX7_most_43 : decode cX7_most 43 = .ok (.invokevirtual 190, 3) := by decide +kernel
theorem dX7_most_46 : decode cX7_most 46 = .ok (.istore_n 2, 1) := by decide +kernel
theorem dX7_most_47 : decode cX7_most 47 = .ok (.iload_n 1, 1) := by decide +kernel
theorem dX7_most_48 : decode cX7_most 48 = .ok (.ifCond .ne 22, 3) := by decide +kernel
theorem dX7_most_51 : decode cX7_most 51 = .ok (.aload_n 0, 1) := by decide +kernel
theorem dX7_most_52 : decode cX7_most 52 = .ok (.getfield 46, 3) := by decide +kernel
theorem dX7_most_55 : decode cX7_most 55 = .ok (.getfield 193, 3) := by decide +kernel
theorem dX7_most_58 : decode cX7_most 58 = .ok (.aload_n 0, 1) := by decide +kernel
theorem dX7_most_59 : decode cX7_most 59 = .ok (.getfield 46, 3) := by decide +kernel
theorem dX7_most_62 : decode cX7_most 62 = .ok (.iload_n 2, 1) := by decide +kernel
theorem dX7_most_63 : decode cX7_most 63 = .ok (.invokevirtual 196, 3) := by decide +kernel
theorem dX7_most_66 : decode cX7_most 66 = .ok (.iadd, 1) := by decide +kernel
theorem dX7_most_67 : decode cX7_most 67 = .ok (.goto 4, 3) := by decide +kernel
theorem dX7_most_70 : decode cX7_most 70 = .ok (.iload_n 2, 1) := by decide +kernel
theorem dX7_most_71 : decode cX7_most 71 = .ok (.ireturn, 1) := by decide +kernel
theorem dX7_spendSteps_0 : decode cX7_spendSteps 0 = .ok (.bipush 19, 2) := by decide +kernel
theorem dX7_spendSteps_2 : decode cX7_spendSteps 2 = .ok (.istore_n 2, 1) := by decide +kernel
theorem dX7_spendSteps_3 : decode cX7_spendSteps 3 = .ok (.iload_n 2, 1) := by decide +kernel
theorem dX7_spendSteps_4 : decode cX7_spendSteps 4 = .ok (.ifCond .lt 96, 3) := by decide +kernel
theorem dX7_spendSteps_7 : decode cX7_spendSteps 7 = .ok (.aload_n 0, 1) := by decide +kernel
theorem dX7_spendSteps_8 : decode cX7_spendSteps 8 = .ok (.getfield 64, 3) := by decide +kernel
theorem dX7_spendSteps_11 : decode cX7_spendSteps 11 = .ok (.iload_n 2, 1) := by decide +kernel
theorem dX7_spendSteps_12 : decode cX7_spendSteps 12 = .ok (.iaload, 1) := by decide +kernel
theorem dX7_spendSteps_13 : decode cX7_spendSteps 13 = .ok (.aload_n 1, 1) := by decide +kernel
theorem dX7_spendSteps_14 : decode cX7_spendSteps 14 = .ok (.aload_n 0, 1) := by decide +kernel
theorem dX7_spendSteps_15 : decode cX7_spendSteps 15 = .ok (.getfield 12, 3) := by decide +kernel
theorem dX7_spendSteps_18 : decode cX7_spendSteps 18 = .ok (.getfield 115, 3) := by decide +kernel
theorem dX7_spendSteps_21 : decode cX7_spendSteps 21 = .ok (.invokevirtual 118, 3) := by decide +kernel
theorem dX7_spendSteps_24 : decode cX7_spendSteps 24 = .ok (.iadd, 1) := by decide +kernel
theorem dX7_spendSteps_25 : decode cX7_spendSteps 25 = .ok (.istore_n 3, 1) := by decide +kernel
theorem dX7_spendSteps_26 : decode cX7_spendSteps 26 = .ok (.iconst 0, 1) := by decide +kernel
theorem dX7_spendSteps_27 : decode cX7_spendSteps 27 = .ok (.istore 4, 2) := by decide +kernel
theorem dX7_spendSteps_29 : decode cX7_spendSteps 29 = .ok (.iload 4, 2) := by decide +kernel
theorem dX7_spendSteps_31 : decode cX7_spendSteps 31 = .ok (.iload_n 2, 1) := by decide +kernel
theorem dX7_spendSteps_32 : decode cX7_spendSteps 32 = .ok (.if_icmp .gt 55, 3) := by decide +kernel
theorem dX7_spendSteps_35 : decode cX7_spendSteps 35 = .ok (.aload_n 1, 1) := by decide +kernel
theorem dX7_spendSteps_36 : decode cX7_spendSteps 36 = .ok (.invokevirtual 161, 3) := by decide +kernel
theorem dX7_spendSteps_39 : decode cX7_spendSteps 39 = .ok (.ifCond .ne 48, 3) := by decide +kernel
theorem dX7_spendSteps_42 : decode cX7_spendSteps 42 = .ok (.aload_n 1, 1) := by decide +kernel
theorem dX7_spendSteps_43 : decode cX7_spendSteps 43 = .ok (.iload 4, 2) := by decide +kernel
theorem dX7_spendSteps_45 : decode cX7_spendSteps 45 = .ok (.iconst 5, 1) := by decide +kernel
theorem dX7_spendSteps_46 : decode cX7_spendSteps 46 = .ok (.imul, 1) := by decide +kernel
theorem dX7_spendSteps_47 : decode cX7_spendSteps 47 = .ok (.iconst 0, 1) := by decide +kernel
theorem dX7_spendSteps_48 : decode cX7_spendSteps 48 = .ok (.aload_n 0, 1) := by decide +kernel
theorem dX7_spendSteps_49 : decode cX7_spendSteps 49 = .ok (.getfield 12, 3) := by decide +kernel
theorem dX7_spendSteps_52 : decode cX7_spendSteps 52 = .ok (.getfield 115, 3) := by decide +kernel
theorem dX7_spendSteps_55 : decode cX7_spendSteps 55 = .ok (.invokevirtual 168, 3) := by decide +kernel
theorem dX7_spendSteps_58 : decode cX7_spendSteps 58 = .ok (.istore 5, 2) := by decide +kernel
theorem dX7_spendSteps_60 : decode cX7_spendSteps 60 = .ok (.iload_n 3, 1) := by decide +kernel
theorem dX7_spendSteps_61 : decode cX7_spendSteps 61 = .ok (.aload_n 0, 1) := by decide +kernel
theorem dX7_spendSteps_62 : decode cX7_spendSteps 62 = .ok (.getfield 64, 3) := by decide +kernel
theorem dX7_spendSteps_65 : decode cX7_spendSteps 65 = .ok (.iload_n 2, 1) := by decide +kernel
theorem dX7_spendSteps_66 : decode cX7_spendSteps 66 = .ok (.iload 4, 2) := by decide +kernel
theorem dX7_spendSteps_68 : decode cX7_spendSteps 68 = .ok (.isub, 1) := by decide +kernel
theorem dX7_spendSteps_69 : decode cX7_spendSteps 69 = .ok (.iaload, 1) := by decide +kernel
theorem dX7_spendSteps_70 : decode cX7_spendSteps 70 = .ok (.aload_n 1, 1) := by decide +kernel
theorem dX7_spendSteps_71 : decode cX7_spendSteps 71 = .ok (.iload 5, 2) := by decide +kernel
theorem dX7_spendSteps_73 : decode cX7_spendSteps 73 = .ok (.invokevirtual 127, 3) := by decide +kernel
theorem dX7_spendSteps_76 : decode cX7_spendSteps 76 = .ok (.iadd, 1) := by decide +kernel
theorem dX7_spendSteps_77 : decode cX7_spendSteps 77 = .ok (.invokestatic 233, 3) := by decide +kernel
theorem dX7_spendSteps_80 : decode cX7_spendSteps 80 = .ok (.istore_n 3, 1) := by decide +kernel
theorem dX7_spendSteps_81 : decode cX7_spendSteps 81 = .ok (.iinc 4 1, 3) := by decide +kernel
theorem dX7_spendSteps_84 : decode cX7_spendSteps 84 = .ok (.goto (-55), 3) := by decide +kernel
theorem dX7_spendSteps_87 : decode cX7_spendSteps 87 = .ok (.aload_n 0, 1) := by decide +kernel
theorem dX7_spendSteps_88 : decode cX7_spendSteps 88 = .ok (.getfield 64, 3) := by decide +kernel
theorem dX7_spendSteps_91 : decode cX7_spendSteps 91 = .ok (.iload_n 2, 1) := by decide +kernel
theorem dX7_spendSteps_92 : decode cX7_spendSteps 92 = .ok (.iload_n 3, 1) := by decide +kernel
theorem dX7_spendSteps_93 : decode cX7_spendSteps 93 = .ok (.iastore, 1) := by decide +kernel
theorem dX7_spendSteps_94 : decode cX7_spendSteps 94 = .ok (.iinc 2 (-1), 3) := by decide +kernel
theorem dX7_spendSteps_97 : decode cX7_spendSteps 97 = .ok (.goto (-94), 3) := by decide +kernel
theorem dX7_spendSteps_100 : decode cX7_spendSteps 100 = .ok (.return_, 1) := by decide +kernel
theorem dX7_byMinutes_0 : decode cX7_byMinutes 0 = .ok (.iload_n 1, 1) := by decide +kernel
theorem dX7_byMinutes_1 : decode cX7_byMinutes 1 = .ok (.iconst 0, 1) := by decide +kernel
theorem dX7_byMinutes_2 : decode cX7_byMinutes 2 = .ok (.bipush 99, 2) := by decide +kernel
theorem dX7_byMinutes_4 : decode cX7_byMinutes 4 = .ok (.invokestatic 137, 3) := by decide +kernel
theorem dX7_byMinutes_7 : decode cX7_byMinutes 7 = .ok (.istore_n 2, 1) := by decide +kernel
theorem dX7_byMinutes_8 : decode cX7_byMinutes 8 = .ok (.iload_n 2, 1) := by decide +kernel
theorem dX7_byMinutes_9 : decode cX7_byMinutes 9 = .ok (.ifCond .eq 9, 3) := by decide +kernel
theorem dX7_byMinutes_12 : decode cX7_byMinutes 12 = .ok (.aload_n 0, 1) := by decide +kernel
theorem dX7_byMinutes_13 : decode cX7_byMinutes 13 = .ok (.iload_n 2, 1) := by decide +kernel
theorem dX7_byMinutes_14 : decode cX7_byMinutes 14 = .ok (.invokevirtual 71, 3) := by decide +kernel
theorem dX7_byMinutes_17 : decode cX7_byMinutes 17 = .ok (.ireturn, 1) := by decide +kernel
theorem dX7_byMinutes_18 : decode cX7_byMinutes 18 = .ok (.iconst 0, 1) := by decide +kernel
theorem dX7_byMinutes_19 : decode cX7_byMinutes 19 = .ok (.istore_n 3, 1) := by decide +kernel
theorem dX7_byMinutes_20 : decode cX7_byMinutes 20 = .ok (.iload_n 3, 1) := by decide +kernel
theorem dX7_byMinutes_21 : decode cX7_byMinutes 21 = .ok (.bipush 19, 2) := by decide +kernel
theorem dX7_byMinutes_23 : decode cX7_byMinutes 23 = .ok (.if_icmp .gt 16, 3) := by decide +kernel
theorem dX7_byMinutes_26 : decode cX7_byMinutes 26 = .ok (.aload_n 0, 1) := by decide +kernel
theorem dX7_byMinutes_27 : decode cX7_byMinutes 27 = .ok (.getfield 64, 3) := by decide +kernel
theorem dX7_byMinutes_30 : decode cX7_byMinutes 30 = .ok (.iload_n 3, 1) := by decide +kernel
theorem dX7_byMinutes_31 : decode cX7_byMinutes 31 = .ok (.iconst 0, 1) := by decide +kernel
theorem dX7_byMinutes_32 : decode cX7_byMinutes 32 = .ok (.iastore, 1) := by decide +kernel
theorem dX7_byMinutes_33 : decode cX7_byMinutes 33 = .ok (.iinc 3 1, 3) := by decide +kernel
theorem dX7_byMinutes_36 : decode cX7_byMinutes 36 = .ok (.goto (-16), 3) := by decide +kernel
theorem dX7_byMinutes_39 : decode cX7_byMinutes 39 = .ok (.iconst 0, 1) := by decide +kernel
theorem dX7_byMinutes_40 : decode cX7_byMinutes 40 = .ok (.istore_n 3, 1) := by decide +kernel
theorem dX7_byMinutes_41 : decode cX7_byMinutes 41 = .ok (.iload_n 3, 1) := by decide +kernel
theorem dX7_byMinutes_42 : decode cX7_byMinutes 42 = .ok (.aload_n 0, 1) := by decide +kernel
theorem dX7_byMinutes_43 : decode cX7_byMinutes 43 = .ok (.getfield 12, 3) := by decide +kernel
theorem dX7_byMinutes_46 : decode cX7_byMinutes 46 = .ok (.getfield 199, 3) := by decide +kernel
theorem dX7_byMinutes_49 : decode cX7_byMinutes 49 = .ok (.if_icmp .ge 21, 3) := by decide +kernel
theorem dX7_byMinutes_52 : decode cX7_byMinutes 52 = .ok (.aload_n 0, 1) := by decide +kernel
theorem dX7_byMinutes_53 : decode cX7_byMinutes 53 = .ok (.aload_n 0, 1) := by decide +kernel
theorem dX7_byMinutes_54 : decode cX7_byMinutes 54 = .ok (.getfield 12, 3) := by decide +kernel
theorem dX7_byMinutes_57 : decode cX7_byMinutes 57 = .ok (.iload_n 3, 1) := by decide +kernel
theorem dX7_byMinutes_58 : decode cX7_byMinutes 58 = .ok (.invokevirtual 102, 3) := by decide +kernel
theorem dX7_byMinutes_61 : decode cX7_byMinutes 61 = .ok (.invokevirtual 202, 3) := by decide +kernel
theorem dX7_byMinutes_64 : decode cX7_byMinutes 64 = .ok (.iinc 3 1, 3) := by decide +kernel
theorem dX7_byMinutes_67 : decode cX7_byMinutes 67 = .ok (.goto (-26), 3) := by decide +kernel
theorem dX7_byMinutes_70 : decode cX7_byMinutes 70 = .ok (.aload_n 0, 1) := by decide +kernel
theorem dX7_byMinutes_71 : decode cX7_byMinutes 71 = .ok (.getfield 64, 3) := by decide +kernel
theorem dX7_byMinutes_74 : decode cX7_byMinutes 74 = .ok (.iload_n 1, 1) := by decide +kernel
theorem dX7_byMinutes_75 : decode cX7_byMinutes 75 = .ok (.iconst 5, 1) := by decide +kernel
theorem dX7_byMinutes_76 : decode cX7_byMinutes 76 = .ok (.idiv, 1) := by decide +kernel
theorem dX7_byMinutes_77 : decode cX7_byMinutes 77 = .ok (.iaload, 1) := by decide +kernel
theorem dX7_byMinutes_78 : decode cX7_byMinutes 78 = .ok (.ireturn, 1) := by decide +kernel
theorem dX7_fewDrops_0 : decode cX7_fewDrops 0 = .ok (.aload_n 0, 1) := by decide +kernel
theorem dX7_fewDrops_1 : decode cX7_fewDrops 1 = .ok (.getfield 46, 3) := by decide +kernel
theorem dX7_fewDrops_4 : decode cX7_fewDrops 4 = .ok (.aload_n 0, 1) := by decide +kernel
theorem dX7_fewDrops_5 : decode cX7_fewDrops 5 = .ok (.getfield 12, 3) := by decide +kernel
theorem dX7_fewDrops_8 : decode cX7_fewDrops 8 = .ok (.aload_n 0, 1) := by decide +kernel
theorem dX7_fewDrops_9 : decode cX7_fewDrops 9 = .ok (.getfield 12, 3) := by decide +kernel
theorem dX7_fewDrops_12 : decode cX7_fewDrops 12 = .ok (.getfield 115, 3) := by decide +kernel
theorem dX7_fewDrops_15 : decode cX7_fewDrops 15 = .ok (.invokevirtual 186, 3) := by decide +kernel
theorem dX7_fewDrops_18 : decode cX7_fewDrops 18 = .ok (.aload_n 0, 1) := by decide +kernel
theorem dX7_fewDrops_19 : decode cX7_fewDrops 19 = .ok (.getfield 46, 3) := by decide +kernel
theorem dX7_fewDrops_22 : decode cX7_fewDrops 22 = .ok (.aload_n 0, 1) := by decide +kernel
theorem dX7_fewDrops_23 : decode cX7_fewDrops 23 = .ok (.getfield 46, 3) := by decide +kernel
theorem dX7_fewDrops_26 : decode cX7_fewDrops 26 = .ok (.aload_n 0, 1) := by decide +kernel
theorem dX7_fewDrops_27 : decode cX7_fewDrops 27 = .ok (.getfield 46, 3) := by decide +kernel
theorem dX7_fewDrops_30 : decode cX7_fewDrops 30 = .ok (.bipush 99, 2) := by decide +kernel
theorem dX7_fewDrops_32 : decode cX7_fewDrops 32 = .ok (.invokevirtual 190, 3) := by decide +kernel
theorem dX7_fewDrops_35 : decode cX7_fewDrops 35 = .ok (.invokevirtual 196, 3) := by decide +kernel
theorem dX7_fewDrops_38 : decode cX7_fewDrops 38 = .ok (.invokevirtual 206, 3) := by decide +kernel
theorem dX7_fewDrops_41 : decode cX7_fewDrops 41 = .ok (.ireturn, 1) := by decide +kernel
theorem dX7_minutesOfBoth_0 : decode cX7_minutesOfBoth 0 = .ok (.aload_n 1, 1) := by decide +kernel
theorem dX7_minutesOfBoth_1 : decode cX7_minutesOfBoth 1 = .ok (.iload_n 3, 1) := by decide +kernel
theorem dX7_minutesOfBoth_2 : decode cX7_minutesOfBoth 2 = .ok (.aload_n 0, 1) := by decide +kernel
theorem dX7_minutesOfBoth_3 : decode cX7_minutesOfBoth 3 = .ok (.getfield 12, 3) := by decide +kernel
theorem dX7_minutesOfBoth_6 : decode cX7_minutesOfBoth 6 = .ok (.getfield 115, 3) := by decide +kernel
theorem dX7_minutesOfBoth_9 : decode cX7_minutesOfBoth 9 = .ok (.invokevirtual 171, 3) := by decide +kernel
theorem dX7_minutesOfBoth_12 : decode cX7_minutesOfBoth 12 = .ok (.istore 4, 2) := by decide +kernel
theorem dX7_minutesOfBoth_14 : decode cX7_minutesOfBoth 14 = .ok (.aload_n 2, 1) := by decide +kernel
theorem dX7_minutesOfBoth_15 : decode cX7_minutesOfBoth 15 = .ok (.iload_n 3, 1) := by decide +kernel
theorem dX7_minutesOfBoth_16 : decode cX7_minutesOfBoth 16 = .ok (.aload_n 0, 1) := by decide +kernel
theorem dX7_minutesOfBoth_17 : decode cX7_minutesOfBoth 17 = .ok (.getfield 12, 3) := by decide +kernel
theorem dX7_minutesOfBoth_20 : decode cX7_minutesOfBoth 20 = .ok (.getfield 115, 3) := by decide +kernel
theorem dX7_minutesOfBoth_23 : decode cX7_minutesOfBoth 23 = .ok (.invokevirtual 171, 3) := by decide +kernel
theorem dX7_minutesOfBoth_26 : decode cX7_minutesOfBoth 26 = .ok (.istore 5, 2) := by decide +kernel
theorem dX7_minutesOfBoth_28 : decode cX7_minutesOfBoth 28 = .ok (.iload 4, 2) := by decide +kernel
theorem dX7_minutesOfBoth_30 : decode cX7_minutesOfBoth 30 = .ok (.bipush (-9), 2) := by decide +kernel
theorem dX7_minutesOfBoth_32 : decode cX7_minutesOfBoth 32 = .ok (.if_icmp .eq 10, 3) := by decide +kernel
theorem dX7_minutesOfBoth_35 : decode cX7_minutesOfBoth 35 = .ok (.iload 5, 2) := by decide +kernel
theorem dX7_minutesOfBoth_37 : decode cX7_minutesOfBoth 37 = .ok (.bipush (-9), 2) := by decide +kernel
theorem dX7_minutesOfBoth_39 : decode cX7_minutesOfBoth 39 = .ok (.if_icmp .ne 8, 3) := by decide +kernel
theorem dX7_minutesOfBoth_42 : decode cX7_minutesOfBoth 42 = .ok (.bipush (-9), 2) := by decide +kernel
theorem dX7_minutesOfBoth_44 : decode cX7_minutesOfBoth 44 = .ok (.goto 8, 3) := by decide +kernel
theorem dX7_minutesOfBoth_47 : decode cX7_minutesOfBoth 47 = .ok (.iload 4, 2) := by decide +kernel
theorem dX7_minutesOfBoth_49 : decode cX7_minutesOfBoth 49 = .ok (.iload 5, 2) := by decide +kernel
theorem dX7_minutesOfBoth_51 : decode cX7_minutesOfBoth 51 = .ok (.iadd, 1) := by decide +kernel
theorem dX7_minutesOfBoth_52 : decode cX7_minutesOfBoth 52 = .ok (.ireturn, 1) := by decide +kernel
theorem dX7_together_0 : decode cX7_together 0 = .ok (.aload_n 0, 1) := by decide +kernel
theorem dX7_together_1 : decode cX7_together 1 = .ok (.getfield 12, 3) := by decide +kernel
theorem dX7_together_4 : decode cX7_together 4 = .ok (.iload_n 1, 1) := by decide +kernel
theorem dX7_together_5 : decode cX7_together 5 = .ok (.iload_n 2, 1) := by decide +kernel
theorem dX7_together_6 : decode cX7_together 6 = .ok (.invokevirtual 130, 3) := by decide +kernel
theorem dX7_together_9 : decode cX7_together 9 = .ok (.ifCond .eq 9, 3) := by decide +kernel
theorem dX7_together_12 : decode cX7_together 12 = .ok (.aload_n 0, 1) := by decide +kernel
theorem dX7_together_13 : decode cX7_together 13 = .ok (.iconst (-1), 1) := by decide +kernel
theorem dX7_together_14 : decode cX7_together 14 = .ok (.invokevirtual 71, 3) := by decide +kernel
theorem dX7_together_17 : decode cX7_together 17 = .ok (.ireturn, 1) := by decide +kernel
theorem dX7_together_18 : decode cX7_together 18 = .ok (.iload_n 3, 1) := by decide +kernel
theorem dX7_together_19 : decode cX7_together 19 = .ok (.invokestatic 177, 3) := by decide +kernel
theorem dX7_together_22 : decode cX7_together 22 = .ok (.ifCond .eq 10, 3) := by decide +kernel
theorem dX7_together_25 : decode cX7_together 25 = .ok (.aload_n 0, 1) := by decide +kernel
theorem dX7_together_26 : decode cX7_together 26 = .ok (.bipush (-2), 2) := by decide +kernel
theorem dX7_together_28 : decode cX7_together 28 = .ok (.invokevirtual 71, 3) := by decide +kernel
theorem dX7_together_31 : decode cX7_together 31 = .ok (.ireturn, 1) := by decide +kernel
theorem dX7_together_32 : decode cX7_together 32 = .ok (.aload_n 0, 1) := by decide +kernel
theorem dX7_together_33 : decode cX7_together 33 = .ok (.getfield 12, 3) := by decide +kernel
theorem dX7_together_36 : decode cX7_together 36 = .ok (.iload_n 1, 1) := by decide +kernel
theorem dX7_together_37 : decode cX7_together 37 = .ok (.invokevirtual 102, 3) := by decide +kernel
theorem dX7_together_40 : decode cX7_together 40 = .ok (.invokevirtual 161, 3) := by decide +kernel
theorem dX7_together_43 : decode cX7_together 43 = .ok (.ifCond .ne 17, 3) := by decide +kernel
theorem dX7_together_46 : decode cX7_together 46 = .ok (.aload_n 0, 1) := by decide +kernel
theorem dX7_together_47 : decode cX7_together 47 = .ok (.getfield 12, 3) := by decide +kernel
theorem dX7_together_50 : decode cX7_together 50 = .ok (.iload_n 2, 1) := by decide +kernel
theorem dX7_together_51 : decode cX7_together 51 = .ok (.invokevirtual 102, 3) := by decide +kernel
theorem dX7_together_54 : decode cX7_together 54 = .ok (.invokevirtual 161, 3) := by decide +kernel
theorem dX7_together_57 : decode cX7_together 57 = .ok (.ifCond .eq 10, 3) := by decide +kernel
theorem dX7_together_60 : decode cX7_together 60 = .ok (.aload_n 0, 1) := by decide +kernel
theorem dX7_together_61 : decode cX7_together 61 = .ok (.bipush (-3), 2) := by decide +kernel
theorem dX7_together_63 : decode cX7_together 63 = .ok (.invokevirtual 71, 3) := by decide +kernel
theorem dX7_together_66 : decode cX7_together 66 = .ok (.ireturn, 1) := by decide +kernel
theorem dX7_together_67 : decode cX7_together 67 = .ok (.bipush (-9), 2) := by decide +kernel
theorem dX7_together_69 : decode cX7_together 69 = .ok (.istore 4, 2) := by decide +kernel
theorem dX7_together_71 : decode cX7_together 71 = .ok (.bipush (-9), 2) := by decide +kernel
theorem dX7_together_73 : decode cX7_together 73 = .ok (.istore 5, 2) := by decide +kernel
theorem dX7_together_75 : decode cX7_together 75 = .ok (.iconst 0, 1) := by decide +kernel
theorem dX7_together_76 : decode cX7_together 76 = .ok (.istore 6, 2) := by decide +kernel
theorem dX7_together_78 : decode cX7_together 78 = .ok (.iload 6, 2) := by decide +kernel
theorem dX7_together_80 : decode cX7_together 80 = .ok (.bipush 12, 2) := by decide +kernel
theorem dX7_together_82 : decode cX7_together 82 = .ok (.if_icmp .ge 62, 3) := by decide +kernel
theorem dX7_together_85 : decode cX7_together 85 = .ok (.aload_n 0, 1) := by decide +kernel
theorem dX7_together_86 : decode cX7_together 86 = .ok (.aload_n 0, 1) := by decide +kernel
theorem dX7_together_87 : decode cX7_together 87 = .ok (.getfield 12, 3) := by decide +kernel
theorem dX7_together_90 : decode cX7_together 90 = .ok (.iload_n 1, 1) := by decide +kernel
theorem dX7_together_91 : decode cX7_together 91 = .ok (.invokevirtual 102, 3) := by decide +kernel
theorem dX7_together_94 : decode cX7_together 94 = .ok (.aload_n 0, 1) := by decide +kernel
theorem dX7_together_95 : decode cX7_together 95 = .ok (.getfield 12, 3) := by decide +kernel
theorem dX7_together_98 : decode cX7_together 98 = .ok (.iload_n 2, 1) := by decide +kernel
theorem dX7_together_99 : decode cX7_together 99 = .ok (.invokevirtual 102, 3) := by decide +kernel
theorem dX7_together_102 : decode cX7_together 102 = .ok (.iload 6, 2) := by decide +kernel
theorem dX7_together_104 : decode cX7_together 104 = .ok (.invokevirtual 208, 3) := by decide +kernel
theorem dX7_together_107 : decode cX7_together 107 = .ok (.istore 7, 2) := by decide +kernel
theorem dX7_together_109 : decode cX7_together 109 = .ok (.iload 7, 2) := by decide +kernel
theorem dX7_together_111 : decode cX7_together 111 = .ok (.bipush (-9), 2) := by decide +kernel
theorem dX7_together_113 : decode cX7_together 113 = .ok (.if_icmp .eq 25, 3) := by decide +kernel
theorem dX7_together_116 : decode cX7_together 116 = .ok (.iload 4, 2) := by decide +kernel
theorem dX7_together_118 : decode cX7_together 118 = .ok (.bipush (-9), 2) := by decide +kernel
theorem dX7_together_120 : decode cX7_together 120 = .ok (.if_icmp .eq 10, 3) := by decide +kernel
theorem dX7_together_123 : decode cX7_together 123 = .ok (.iload 7, 2) := by decide +kernel
theorem dX7_together_125 : decode cX7_together 125 = .ok (.iload 4, 2) := by decide +kernel
theorem dX7_together_127 : decode cX7_together 127 = .ok (.if_icmp .ge 11, 3) := by decide +kernel
theorem dX7_together_130 : decode cX7_together 130 = .ok (.iload 7, 2) := by decide +kernel
theorem dX7_together_132 : decode cX7_together 132 = .ok (.istore 4, 2) := by decide +kernel
theorem dX7_together_134 : decode cX7_together 134 = .ok (.iload 6, 2) := by decide +kernel
theorem dX7_together_136 : decode cX7_together 136 = .ok (.istore 5, 2) := by decide +kernel
theorem dX7_together_138 : decode cX7_together 138 = .ok (.iinc 6 1, 3) := by decide +kernel
theorem dX7_together_141 : decode cX7_together 141 = .ok (.goto (-63), 3) := by decide +kernel
theorem dX7_together_144 : decode cX7_together 144 = .ok (.iload_n 3, 1) := by decide +kernel
theorem dX7_together_145 : decode cX7_together 145 = .ok (.ifCond .ne 8, 3) := by decide +kernel
theorem dX7_together_148 : decode cX7_together 148 = .ok (.iload 4, 2) := by decide +kernel
theorem dX7_together_150 : decode cX7_together 150 = .ok (.goto 5, 3) := by decide +kernel
theorem dX7_together_153 : decode cX7_together 153 = .ok (.iload 5, 2) := by decide +kernel
theorem dX7_together_155 : decode cX7_together 155 = .ok (.ireturn, 1) := by decide +kernel
theorem dX7_queue_0 : decode cX7_queue 0 = .ok (.iload_n 1, 1) := by decide +kernel
theorem dX7_queue_1 : decode cX7_queue 1 = .ok (.iconst (-1), 1) := by decide +kernel
theorem dX7_queue_2 : decode cX7_queue 2 = .ok (.if_icmp .eq 20, 3) := by decide +kernel
theorem dX7_queue_5 : decode cX7_queue 5 = .ok (.aload_n 0, 1) := by decide +kernel
theorem dX7_queue_6 : decode cX7_queue 6 = .ok (.getfield 12, 3) := by decide +kernel
theorem dX7_queue_9 : decode cX7_queue 9 = .ok (.iload_n 1, 1) := by decide +kernel
theorem dX7_queue_10 : decode cX7_queue 10 = .ok (.invokevirtual 98, 3) := by decide +kernel
theorem dX7_queue_13 : decode cX7_queue 13 = .ok (.ifCond .eq 9, 3) := by decide +kernel
theorem dX7_queue_16 : decode cX7_queue 16 = .ok (.aload_n 0, 1) := by decide +kernel
theorem dX7_queue_17 : decode cX7_queue 17 = .ok (.iconst (-1), 1) := by decide +kernel
theorem dX7_queue_18 : decode cX7_queue 18 = .ok (.invokevirtual 71, 3) := by decide +kernel
theorem dX7_queue_21 : decode cX7_queue 21 = .ok (.ireturn, 1) := by decide +kernel
theorem dX7_queue_22 : decode cX7_queue 22 = .ok (.aload_n 0, 1) := by decide +kernel
theorem dX7_queue_23 : decode cX7_queue 23 = .ok (.getfield 53, 3) := by decide +kernel
theorem dX7_queue_26 : decode cX7_queue 26 = .ok (.aload_n 0, 1) := by decide +kernel
theorem dX7_queue_27 : decode cX7_queue 27 = .ok (.getfield 12, 3) := by decide +kernel
theorem dX7_queue_30 : decode cX7_queue 30 = .ok (.invokevirtual 212, 3) := by decide +kernel
theorem dX7_queue_33 : decode cX7_queue 33 = .ok (.iload_n 1, 1) := by decide +kernel
theorem dX7_queue_34 : decode cX7_queue 34 = .ok (.iconst (-1), 1) := by decide +kernel
theorem dX7_queue_35 : decode cX7_queue 35 = .ok (.if_icmp .ne 13, 3) := by decide +kernel
theorem dX7_queue_38 : decode cX7_queue 38 = .ok (.aload_n 0, 1) := by decide +kernel
theorem dX7_queue_39 : decode cX7_queue 39 = .ok (.getfield 53, 3) := by decide +kernel
theorem dX7_queue_42 : decode cX7_queue 42 = .ok (.getfield 215, 3) := by decide +kernel
theorem dX7_queue_45 : decode cX7_queue 45 = .ok (.goto 11, 3) := by decide +kernel
theorem dX7_queue_48 : decode cX7_queue 48 = .ok (.aload_n 0, 1) := by decide +kernel
theorem dX7_queue_49 : decode cX7_queue 49 = .ok (.getfield 53, 3) := by decide +kernel
theorem dX7_queue_52 : decode cX7_queue 52 = .ok (.iload_n 1, 1) := by decide +kernel
theorem dX7_queue_53 : decode cX7_queue 53 = .ok (.invokevirtual 218, 3) := by decide +kernel
theorem dX7_queue_56 : decode cX7_queue 56 = .ok (.ireturn, 1) := by decide +kernel
theorem dX7_oneMore_0 : decode cX7_oneMore 0 = .ok (.aload_n 0, 1) := by decide +kernel
theorem dX7_oneMore_1 : decode cX7_oneMore 1 = .ok (.getfield 12, 3) := by decide +kernel
theorem dX7_oneMore_4 : decode cX7_oneMore 4 = .ok (.aload_n 0, 1) := by decide +kernel
theorem dX7_oneMore_5 : decode cX7_oneMore 5 = .ok (.getfield 12, 3) := by decide +kernel
theorem dX7_oneMore_8 : decode cX7_oneMore 8 = .ok (.getfield 115, 3) := by decide +kernel
theorem dX7_oneMore_11 : decode cX7_oneMore 11 = .ok (.iconst 1, 1) := by decide +kernel
theorem dX7_oneMore_12 : decode cX7_oneMore 12 = .ok (.iadd, 1) := by decide +kernel
theorem dX7_oneMore_13 : decode cX7_oneMore 13 = .ok (.bipush 11, 2) := by decide +kernel
theorem dX7_oneMore_15 : decode cX7_oneMore 15 = .ok (.invokestatic 221, 3) := by decide +kernel
theorem dX7_oneMore_18 : decode cX7_oneMore 18 = .ok (.invokevirtual 174, 3) := by decide +kernel
theorem dX7_oneMore_21 : decode cX7_oneMore 21 = .ok (.ireturn, 1) := by decide +kernel
theorem dX7_bestYear_0 : decode cX7_bestYear 0 = .ok (.iconst 0, 1) := by decide +kernel
theorem dX7_bestYear_1 : decode cX7_bestYear 1 = .ok (.istore_n 1, 1) := by decide +kernel
theorem dX7_bestYear_2 : decode cX7_bestYear 2 = .ok (.iconst (-1), 1) := by decide +kernel
theorem dX7_bestYear_3 : decode cX7_bestYear 3 = .ok (.istore_n 2, 1) := by decide +kernel
theorem dX7_bestYear_4 : decode cX7_bestYear 4 = .ok (.iconst 0, 1) := by decide +kernel
theorem dX7_bestYear_5 : decode cX7_bestYear 5 = .ok (.istore_n 3, 1) := by decide +kernel
theorem dX7_bestYear_6 : decode cX7_bestYear 6 = .ok (.iload_n 3, 1) := by decide +kernel
theorem dX7_bestYear_7 : decode cX7_bestYear 7 = .ok (.bipush 12, 2) := by decide +kernel
theorem dX7_bestYear_9 : decode cX7_bestYear 9 = .ok (.if_icmp .ge 63, 3) := by decide +kernel
theorem dX7_bestYear_12 : decode cX7_bestYear 12 = .ok (.aload_n 0, 1) := by decide +kernel
theorem dX7_bestYear_13 : decode cX7_bestYear 13 = .ok (.getfield 46, 3) := by decide +kernel
theorem dX7_bestYear_16 : decode cX7_bestYear 16 = .ok (.aload_n 0, 1) := by decide +kernel
theorem dX7_bestYear_17 : decode cX7_bestYear 17 = .ok (.getfield 12, 3) := by decide +kernel
theorem dX7_bestYear_20 : decode cX7_bestYear 20 = .ok (.iload_n 3, 1) := by decide +kernel
theorem dX7_bestYear_21 : decode cX7_bestYear 21 = .ok (.invokevirtual 186, 3) := by decide +kernel
theorem dX7_bestYear_24 : decode cX7_bestYear 24 = .ok (.aload_n 0, 1) := by decide +kernel
theorem dX7_bestYear_25 : decode cX7_bestYear 25 = .ok (.getfield 46, 3) := by decide +kernel
theorem dX7_bestYear_28 : decode cX7_bestYear 28 = .ok (.getfield 193, 3) := by decide +kernel
theorem dX7_bestYear_31 : decode cX7_bestYear 31 = .ok (.aload_n 0, 1) := by decide +kernel
theorem dX7_bestYear_32 : decode cX7_bestYear 32 = .ok (.getfield 46, 3) := by decide +kernel
theorem dX7_bestYear_35 : decode cX7_bestYear 35 = .ok (.aload_n 0, 1) := by decide +kernel
theorem dX7_bestYear_36 : decode cX7_bestYear 36 = .ok (.getfield 46, 3) := by decide +kernel
theorem dX7_bestYear_39 : decode cX7_bestYear 39 = .ok (.aload_n 0, 1) := by decide +kernel
theorem dX7_bestYear_40 : decode cX7_bestYear 40 = .ok (.getfield 12, 3) := by decide +kernel
theorem dX7_bestYear_43 : decode cX7_bestYear 43 = .ok (.getfield 151, 3) := by decide +kernel
theorem dX7_bestYear_46 : decode cX7_bestYear 46 = .ok (.invokevirtual 190, 3) := by decide +kernel
theorem dX7_bestYear_49 : decode cX7_bestYear 49 = .ok (.invokevirtual 196, 3) := by decide +kernel
theorem dX7_bestYear_52 : decode cX7_bestYear 52 = .ok (.iadd, 1) := by decide +kernel
theorem dX7_bestYear_53 : decode cX7_bestYear 53 = .ok (.istore 4, 2) := by decide +kernel
theorem dX7_bestYear_55 : decode cX7_bestYear 55 = .ok (.iload 4, 2) := by decide +kernel
theorem dX7_bestYear_57 : decode cX7_bestYear 57 = .ok (.iload_n 2, 1) := by decide +kernel
theorem dX7_bestYear_58 : decode cX7_bestYear 58 = .ok (.if_icmp .le 8, 3) := by decide +kernel
theorem dX7_bestYear_61 : decode cX7_bestYear 61 = .ok (.iload_n 3, 1) := by decide +kernel
theorem dX7_bestYear_62 : decode cX7_bestYear 62 = .ok (.istore_n 1, 1) := by decide +kernel
theorem dX7_bestYear_63 : decode cX7_bestYear 63 = .ok (.iload 4, 2) := by decide +kernel
theorem dX7_bestYear_65 : decode cX7_bestYear 65 = .ok (.istore_n 2, 1) := by decide +kernel
theorem dX7_bestYear_66 : decode cX7_bestYear 66 = .ok (.iinc 3 1, 3) := by decide +kernel
theorem dX7_bestYear_69 : decode cX7_bestYear 69 = .ok (.goto (-63), 3) := by decide +kernel
theorem dX7_bestYear_72 : decode cX7_bestYear 72 = .ok (.iload_n 1, 1) := by decide +kernel
theorem dX7_bestYear_73 : decode cX7_bestYear 73 = .ok (.ireturn, 1) := by decide +kernel
theorem dX7_water_0 : decode cX7_water 0 = .ok (.aload_n 0, 1) := by decide +kernel
theorem dX7_water_1 : decode cX7_water 1 = .ok (.getfield 12, 3) := by decide +kernel
theorem dX7_water_4 : decode cX7_water 4 = .ok (.iload_n 1, 1) := by decide +kernel
theorem dX7_water_5 : decode cX7_water 5 = .ok (.invokevirtual 98, 3) := by decide +kernel
theorem dX7_water_8 : decode cX7_water 8 = .ok (.ifCond .eq 12, 3) := by decide +kernel
theorem dX7_water_11 : decode cX7_water 11 = .ok (.ldc 226, 2) := by decide +kernel
theorem dX7_water_13 : decode cX7_water 13 = .ok (.aload_n 0, 1) := by decide +kernel
theorem dX7_water_14 : decode cX7_water 14 = .ok (.iconst (-1), 1) := by decide +kernel
theorem dX7_water_15 : decode cX7_water 15 = .ok (.invokevirtual 71, 3) := by decide +kernel
theorem dX7_water_18 : decode cX7_water 18 = .ok (.isub, 1) := by decide +kernel
theorem dX7_water_19 : decode cX7_water 19 = .ok (.ireturn, 1) := by decide +kernel
theorem dX7_water_20 : decode cX7_water 20 = .ok (.aload_n 0, 1) := by decide +kernel
theorem dX7_water_21 : decode cX7_water 21 = .ok (.getfield 12, 3) := by decide +kernel
theorem dX7_water_24 : decode cX7_water 24 = .ok (.iload_n 1, 1) := by decide +kernel
theorem dX7_water_25 : decode cX7_water 25 = .ok (.invokevirtual 102, 3) := by decide +kernel
theorem dX7_water_28 : decode cX7_water 28 = .ok (.astore_n 2, 1) := by decide +kernel
theorem dX7_water_29 : decode cX7_water 29 = .ok (.aload_n 2, 1) := by decide +kernel
theorem dX7_water_30 : decode cX7_water 30 = .ok (.invokevirtual 161, 3) := by decide +kernel
theorem dX7_water_33 : decode cX7_water 33 = .ok (.ifCond .ne 13, 3) := by decide +kernel
theorem dX7_water_36 : decode cX7_water 36 = .ok (.ldc 226, 2) := by decide +kernel
theorem dX7_water_38 : decode cX7_water 38 = .ok (.aload_n 0, 1) := by decide +kernel
theorem dX7_water_39 : decode cX7_water 39 = .ok (.bipush (-3), 2) := by decide +kernel
theorem dX7_water_41 : decode cX7_water 41 = .ok (.invokevirtual 71, 3) := by decide +kernel
theorem dX7_water_44 : decode cX7_water 44 = .ok (.isub, 1) := by decide +kernel
theorem dX7_water_45 : decode cX7_water 45 = .ok (.ireturn, 1) := by decide +kernel
theorem dX7_water_46 : decode cX7_water 46 = .ok (.aload_n 2, 1) := by decide +kernel
theorem dX7_water_47 : decode cX7_water 47 = .ok (.aload_n 0, 1) := by decide +kernel
theorem dX7_water_48 : decode cX7_water 48 = .ok (.getfield 12, 3) := by decide +kernel
theorem dX7_water_51 : decode cX7_water 51 = .ok (.getfield 115, 3) := by decide +kernel
theorem dX7_water_54 : decode cX7_water 54 = .ok (.invokevirtual 227, 3) := by decide +kernel
theorem dX7_water_57 : decode cX7_water 57 = .ok (.ireturn, 1) := by decide +kernel
theorem dX7_bestWash_0 : decode cX7_bestWash 0 = .ok (.bipush (-9), 2) := by decide +kernel
theorem dX7_bestWash_2 : decode cX7_bestWash 2 = .ok (.istore_n 1, 1) := by decide +kernel
theorem dX7_bestWash_3 : decode cX7_bestWash 3 = .ok (.iconst 0, 1) := by decide +kernel
theorem dX7_bestWash_4 : decode cX7_bestWash 4 = .ok (.istore_n 2, 1) := by decide +kernel
theorem dX7_bestWash_5 : decode cX7_bestWash 5 = .ok (.iconst 0, 1) := by decide +kernel
theorem dX7_bestWash_6 : decode cX7_bestWash 6 = .ok (.istore_n 3, 1) := by decide +kernel
theorem dX7_bestWash_7 : decode cX7_bestWash 7 = .ok (.iload_n 3, 1) := by decide +kernel
theorem dX7_bestWash_8 : decode cX7_bestWash 8 = .ok (.aload_n 0, 1) := by decide +kernel
theorem dX7_bestWash_9 : decode cX7_bestWash 9 = .ok (.getfield 12, 3) := by decide +kernel
theorem dX7_bestWash_12 : decode cX7_bestWash 12 = .ok (.getfield 199, 3) := by decide +kernel
theorem dX7_bestWash_15 : decode cX7_bestWash 15 = .ok (.if_icmp .ge 40, 3) := by decide +kernel
theorem dX7_bestWash_18 : decode cX7_bestWash 18 = .ok (.aload_n 0, 1) := by decide +kernel
theorem dX7_bestWash_19 : decode cX7_bestWash 19 = .ok (.getfield 12, 3) := by decide +kernel
theorem dX7_bestWash_22 : decode cX7_bestWash 22 = .ok (.iload_n 3, 1) := by decide +kernel
theorem dX7_bestWash_23 : decode cX7_bestWash 23 = .ok (.invokevirtual 102, 3) := by decide +kernel
theorem dX7_bestWash_26 : decode cX7_bestWash 26 = .ok (.aload_n 0, 1) := by decide +kernel
theorem dX7_bestWash_27 : decode cX7_bestWash 27 = .ok (.getfield 12, 3) := by decide +kernel
theorem dX7_bestWash_30 : decode cX7_bestWash 30 = .ok (.getfield 115, 3) := by decide +kernel
theorem dX7_bestWash_33 : decode cX7_bestWash 33 = .ok (.invokevirtual 227, 3) := by decide +kernel
theorem dX7_bestWash_36 : decode cX7_bestWash 36 = .ok (.istore 4, 2) := by decide +kernel
theorem dX7_bestWash_38 : decode cX7_bestWash 38 = .ok (.iload 4, 2) := by decide +kernel
theorem dX7_bestWash_40 : decode cX7_bestWash 40 = .ok (.iload_n 2, 1) := by decide +kernel
theorem dX7_bestWash_41 : decode cX7_bestWash 41 = .ok (.if_icmp .le 8, 3) := by decide +kernel
theorem dX7_bestWash_44 : decode cX7_bestWash 44 = .ok (.iload_n 3, 1) := by decide +kernel
theorem dX7_bestWash_45 : decode cX7_bestWash 45 = .ok (.istore_n 1, 1) := by decide +kernel
theorem dX7_bestWash_46 : decode cX7_bestWash 46 = .ok (.iload 4, 2) := by decide +kernel
theorem dX7_bestWash_48 : decode cX7_bestWash 48 = .ok (.istore_n 2, 1) := by decide +kernel
theorem dX7_bestWash_49 : decode cX7_bestWash 49 = .ok (.iinc 3 1, 3) := by decide +kernel
theorem dX7_bestWash_52 : decode cX7_bestWash 52 = .ok (.goto (-45), 3) := by decide +kernel
theorem dX7_bestWash_55 : decode cX7_bestWash 55 = .ok (.iload_n 1, 1) := by decide +kernel
theorem dX7_bestWash_56 : decode cX7_bestWash 56 = .ok (.ireturn, 1) := by decide +kernel
theorem dX7_sour_0 : decode cX7_sour 0 = .ok (.iconst 0, 1) := by decide +kernel
theorem dX7_sour_1 : decode cX7_sour 1 = .ok (.istore_n 1, 1) := by decide +kernel
theorem dX7_sour_2 : decode cX7_sour 2 = .ok (.iconst 0, 1) := by decide +kernel
theorem dX7_sour_3 : decode cX7_sour 3 = .ok (.istore_n 2, 1) := by decide +kernel
theorem dX7_sour_4 : decode cX7_sour 4 = .ok (.iload_n 2, 1) := by decide +kernel
theorem dX7_sour_5 : decode cX7_sour 5 = .ok (.aload_n 0, 1) := by decide +kernel
theorem dX7_sour_6 : decode cX7_sour 6 = .ok (.getfield 12, 3) := by decide +kernel
theorem dX7_sour_9 : decode cX7_sour 9 = .ok (.getfield 199, 3) := by decide +kernel
theorem dX7_sour_12 : decode cX7_sour 12 = .ok (.if_icmp .ge 36, 3) := by decide +kernel
theorem dX7_sour_15 : decode cX7_sour 15 = .ok (.aload_n 0, 1) := by decide +kernel
theorem dX7_sour_16 : decode cX7_sour 16 = .ok (.getfield 12, 3) := by decide +kernel
theorem dX7_sour_19 : decode cX7_sour 19 = .ok (.iload_n 2, 1) := by decide +kernel
theorem dX7_sour_20 : decode cX7_sour 20 = .ok (.invokevirtual 102, 3) := by decide +kernel
theorem dX7_sour_23 : decode cX7_sour 23 = .ok (.aload_n 0, 1) := by decide +kernel
theorem dX7_sour_24 : decode cX7_sour 24 = .ok (.getfield 12, 3) := by decide +kernel
theorem dX7_sour_27 : decode cX7_sour 27 = .ok (.getfield 115, 3) := by decide +kernel
theorem dX7_sour_30 : decode cX7_sour 30 = .ok (.invokevirtual 227, 3) := by decide +kernel
theorem dX7_sour_33 : decode cX7_sour 33 = .ok (.ifCond .le 9, 3) := by decide +kernel
theorem dX7_sour_36 : decode cX7_sour 36 = .ok (.iload_n 1, 1) := by decide +kernel
theorem dX7_sour_37 : decode cX7_sour 37 = .ok (.iconst 1, 1) := by decide +kernel
theorem dX7_sour_38 : decode cX7_sour 38 = .ok (.iload_n 2, 1) := by decide +kernel
theorem dX7_sour_39 : decode cX7_sour 39 = .ok (.ishl, 1) := by decide +kernel
theorem dX7_sour_40 : decode cX7_sour 40 = .ok (.ior, 1) := by decide +kernel
theorem dX7_sour_41 : decode cX7_sour 41 = .ok (.istore_n 1, 1) := by decide +kernel
theorem dX7_sour_42 : decode cX7_sour 42 = .ok (.iinc 2 1, 3) := by decide +kernel
theorem dX7_sour_45 : decode cX7_sour 45 = .ok (.goto (-41), 3) := by decide +kernel
theorem dX7_sour_48 : decode cX7_sour 48 = .ok (.iload_n 1, 1) := by decide +kernel
theorem dX7_sour_49 : decode cX7_sour 49 = .ok (.ireturn, 1) := by decide +kernel
theorem dX7_regret_0 : decode cX7_regret 0 = .ok (.aload_n 0, 1) := by decide +kernel
theorem dX7_regret_1 : decode cX7_regret 1 = .ok (.getfield 12, 3) := by decide +kernel
theorem dX7_regret_4 : decode cX7_regret 4 = .ok (.iload_n 1, 1) := by decide +kernel
theorem dX7_regret_5 : decode cX7_regret 5 = .ok (.invokevirtual 98, 3) := by decide +kernel
theorem dX7_regret_8 : decode cX7_regret 8 = .ok (.ifCond .eq 9, 3) := by decide +kernel
theorem dX7_regret_11 : decode cX7_regret 11 = .ok (.aload_n 0, 1) := by decide +kernel
theorem dX7_regret_12 : decode cX7_regret 12 = .ok (.iconst (-1), 1) := by decide +kernel
theorem dX7_regret_13 : decode cX7_regret 13 = .ok (.invokevirtual 71, 3) := by decide +kernel
theorem dX7_regret_16 : decode cX7_regret 16 = .ok (.ireturn, 1) := by decide +kernel
theorem dX7_regret_17 : decode cX7_regret 17 = .ok (.aload_n 0, 1) := by decide +kernel
theorem dX7_regret_18 : decode cX7_regret 18 = .ok (.getfield 12, 3) := by decide +kernel
theorem dX7_regret_21 : decode cX7_regret 21 = .ok (.iload_n 1, 1) := by decide +kernel
theorem dX7_regret_22 : decode cX7_regret 22 = .ok (.invokevirtual 102, 3) := by decide +kernel
theorem dX7_regret_25 : decode cX7_regret 25 = .ok (.astore_n 2, 1) := by decide +kernel
theorem dX7_regret_26 : decode cX7_regret 26 = .ok (.aload_n 2, 1) := by decide +kernel
theorem dX7_regret_27 : decode cX7_regret 27 = .ok (.aload_n 2, 1) := by decide +kernel
theorem dX7_regret_28 : decode cX7_regret 28 = .ok (.aload_n 0, 1) := by decide +kernel
theorem dX7_regret_29 : decode cX7_regret 29 = .ok (.getfield 12, 3) := by decide +kernel
theorem dX7_regret_32 : decode cX7_regret 32 = .ok (.getfield 115, 3) := by decide +kernel
theorem dX7_regret_35 : decode cX7_regret 35 = .ok (.invokevirtual 230, 3) := by decide +kernel
theorem dX7_regret_38 : decode cX7_regret 38 = .ok (.invokevirtual 127, 3) := by decide +kernel
theorem dX7_regret_41 : decode cX7_regret 41 = .ok (.istore_n 3, 1) := by decide +kernel
theorem dX7_regret_42 : decode cX7_regret 42 = .ok (.iconst 0, 1) := by decide +kernel
theorem dX7_regret_43 : decode cX7_regret 43 = .ok (.iload_n 3, 1) := by decide +kernel
theorem dX7_regret_44 : decode cX7_regret 44 = .ok (.aload_n 2, 1) := by decide +kernel
theorem dX7_regret_45 : decode cX7_regret 45 = .ok (.aload_n 0, 1) := by decide +kernel
theorem dX7_regret_46 : decode cX7_regret 46 = .ok (.getfield 12, 3) := by decide +kernel
theorem dX7_regret_49 : decode cX7_regret 49 = .ok (.getfield 115, 3) := by decide +kernel
theorem dX7_regret_52 : decode cX7_regret 52 = .ok (.invokevirtual 118, 3) := by decide +kernel
theorem dX7_regret_55 : decode cX7_regret 55 = .ok (.isub, 1) := by decide +kernel
theorem dX7_regret_56 : decode cX7_regret 56 = .ok (.invokestatic 233, 3) := by decide +kernel
theorem dX7_regret_59 : decode cX7_regret 59 = .ok (.ireturn, 1) := by decide +kernel
theorem dX7_bothContent_0 : decode cX7_bothContent 0 = .ok (.aload_n 1, 1) := by decide +kernel
theorem dX7_bothContent_1 : decode cX7_bothContent 1 = .ok (.iload_n 2, 1) := by decide +kernel
theorem dX7_bothContent_2 : decode cX7_bothContent 2 = .ok (.iload_n 3, 1) := by decide +kernel
theorem dX7_bothContent_3 : decode cX7_bothContent 3 = .ok (.iload 4, 2) := by decide +kernel
theorem dX7_bothContent_5 : decode cX7_bothContent 5 = .ok (.iadd, 1) := by decide +kernel
theorem dX7_bothContent_6 : decode cX7_bothContent 6 = .ok (.aload_n 0, 1) := by decide +kernel
theorem dX7_bothContent_7 : decode cX7_bothContent 7 = .ok (.getfield 12, 3) := by decide +kernel
theorem dX7_bothContent_10 : decode cX7_bothContent 10 = .ok (.getfield 115, 3) := by decide +kernel
theorem dX7_bothContent_13 : decode cX7_bothContent 13 = .ok (.invokevirtual 168, 3) := by decide +kernel
theorem dX7_bothContent_16 : decode cX7_bothContent 16 = .ok (.istore 5, 2) := by decide +kernel
theorem dX7_bothContent_18 : decode cX7_bothContent 18 = .ok (.iconst 0, 1) := by decide +kernel
theorem dX7_bothContent_19 : decode cX7_bothContent 19 = .ok (.istore 6, 2) := by decide +kernel
theorem dX7_bothContent_21 : decode cX7_bothContent 21 = .ok (.iload 6, 2) := by decide +kernel
theorem dX7_bothContent_23 : decode cX7_bothContent 23 = .ok (.iconst 4, 1) := by decide +kernel
theorem dX7_bothContent_24 : decode cX7_bothContent 24 = .ok (.if_icmp .gt 54, 3) := by decide +kernel
theorem dX7_bothContent_27 : decode cX7_bothContent 27 = .ok (.aload_n 1, 1) := by decide +kernel
theorem dX7_bothContent_28 : decode cX7_bothContent 28 = .ok (.iload_n 2, 1) := by decide +kernel
theorem dX7_bothContent_29 : decode cX7_bothContent 29 = .ok (.iload 6, 2) := by decide +kernel
theorem dX7_bothContent_31 : decode cX7_bothContent 31 = .ok (.iload 4, 2) := by decide +kernel
theorem dX7_bothContent_33 : decode cX7_bothContent 33 = .ok (.iadd, 1) := by decide +kernel
theorem dX7_bothContent_34 : decode cX7_bothContent 34 = .ok (.aload_n 0, 1) := by decide +kernel
theorem dX7_bothContent_35 : decode cX7_bothContent 35 = .ok (.getfield 12, 3) := by decide +kernel
theorem dX7_bothContent_38 : decode cX7_bothContent 38 = .ok (.getfield 115, 3) := by decide +kernel
theorem dX7_bothContent_41 : decode cX7_bothContent 41 = .ok (.invokevirtual 168, 3) := by decide +kernel
theorem dX7_bothContent_44 : decode cX7_bothContent 44 = .ok (.iload 5, 2) := by decide +kernel
theorem dX7_bothContent_46 : decode cX7_bothContent 46 = .ok (.if_icmp .gt 24, 3) := by decide +kernel
theorem dX7_bothContent_49 : decode cX7_bothContent 49 = .ok (.aload_n 1, 1) := by decide +kernel
theorem dX7_bothContent_50 : decode cX7_bothContent 50 = .ok (.iload_n 2, 1) := by decide +kernel
theorem dX7_bothContent_51 : decode cX7_bothContent 51 = .ok (.iload_n 3, 1) := by decide +kernel
theorem dX7_bothContent_52 : decode cX7_bothContent 52 = .ok (.iload 6, 2) := by decide +kernel
theorem dX7_bothContent_54 : decode cX7_bothContent 54 = .ok (.iadd, 1) := by decide +kernel
theorem dX7_bothContent_55 : decode cX7_bothContent 55 = .ok (.aload_n 0, 1) := by decide +kernel
theorem dX7_bothContent_56 : decode cX7_bothContent 56 = .ok (.getfield 12, 3) := by decide +kernel
theorem dX7_bothContent_59 : decode cX7_bothContent 59 = .ok (.getfield 115, 3) := by decide +kernel
theorem dX7_bothContent_62 : decode cX7_bothContent 62 = .ok (.invokevirtual 168, 3) := by decide +kernel
theorem dX7_bothContent_65 : decode cX7_bothContent 65 = .ok (.iload 5, 2) := by decide +kernel
theorem dX7_bothContent_67 : decode cX7_bothContent 67 = .ok (.if_icmp .ge 5, 3) := by decide +kernel
theorem dX7_bothContent_70 : decode cX7_bothContent 70 = .ok (.iconst 0, 1) := by decide +kernel
theorem dX7_bothContent_71 : decode cX7_bothContent 71 = .ok (.ireturn, 1) := by decide +kernel
theorem dX7_bothContent_72 : decode cX7_bothContent 72 = .ok (.iinc 6 1, 3) := by decide +kernel
theorem dX7_bothContent_75 : decode cX7_bothContent 75 = .ok (.goto (-54), 3) := by decide +kernel
theorem dX7_bothContent_78 : decode cX7_bothContent 78 = .ok (.iconst 1, 1) := by decide +kernel
theorem dX7_bothContent_79 : decode cX7_bothContent 79 = .ok (.ireturn, 1) := by decide +kernel
theorem dX7_two_0 : decode cX7_two 0 = .ok (.aload_n 0, 1) := by decide +kernel
theorem dX7_two_1 : decode cX7_two 1 = .ok (.getfield 12, 3) := by decide +kernel
theorem dX7_two_4 : decode cX7_two 4 = .ok (.iload_n 1, 1) := by decide +kernel
theorem dX7_two_5 : decode cX7_two 5 = .ok (.invokevirtual 98, 3) := by decide +kernel
theorem dX7_two_8 : decode cX7_two 8 = .ok (.ifCond .eq 9, 3) := by decide +kernel
theorem dX7_two_11 : decode cX7_two 11 = .ok (.aload_n 0, 1) := by decide +kernel
theorem dX7_two_12 : decode cX7_two 12 = .ok (.iconst (-1), 1) := by decide +kernel
theorem dX7_two_13 : decode cX7_two 13 = .ok (.invokevirtual 71, 3) := by decide +kernel
theorem dX7_two_16 : decode cX7_two 16 = .ok (.ireturn, 1) := by decide +kernel
theorem dX7_two_17 : decode cX7_two 17 = .ok (.iload_n 2, 1) := by decide +kernel
theorem dX7_two_18 : decode cX7_two 18 = .ok (.iconst 0, 1) := by decide +kernel
theorem dX7_two_19 : decode cX7_two 19 = .ok (.bipush 99, 2) := by decide +kernel
theorem dX7_two_21 : decode cX7_two 21 = .ok (.invokestatic 137, 3) := by decide +kernel
theorem dX7_two_24 : decode cX7_two 24 = .ok (.istore_n 3, 1) := by decide +kernel
theorem dX7_two_25 : decode cX7_two 25 = .ok (.iload_n 3, 1) := by decide +kernel
theorem dX7_two_26 : decode cX7_two 26 = .ok (.ifCond .eq 9, 3) := by decide +kernel
theorem dX7_two_29 : decode cX7_two 29 = .ok (.aload_n 0, 1) := by decide +kernel
theorem dX7_two_30 : decode cX7_two 30 = .ok (.iload_n 3, 1) := by decide +kernel
theorem dX7_two_31 : decode cX7_two 31 = .ok (.invokevirtual 71, 3) := by decide +kernel
theorem dX7_two_34 : decode cX7_two 34 = .ok (.ireturn, 1) := by decide +kernel
theorem dX7_two_35 : decode cX7_two 35 = .ok (.iconst 0, 1) := by decide +kernel
theorem dX7_two_36 : decode cX7_two 36 = .ok (.istore 4, 2) := by decide +kernel
theorem dX7_two_38 : decode cX7_two 38 = .ok (.iload 4, 2) := by decide +kernel
theorem dX7_two_40 : decode cX7_two 40 = .ok (.iconst 4, 1) := by decide +kernel
theorem dX7_two_41 : decode cX7_two 41 = .ok (.if_icmp .gt 53, 3) := by decide +kernel
theorem dX7_two_44 : decode cX7_two 44 = .ok (.iconst 0, 1) := by decide +kernel
theorem dX7_two_45 : decode cX7_two 45 = .ok (.istore 5, 2) := by decide +kernel
theorem dX7_two_47 : decode cX7_two 47 = .ok (.iload 5, 2) := by decide +kernel
theorem dX7_two_49 : decode cX7_two 49 = .ok (.iconst 4, 1) := by decide +kernel
theorem dX7_two_50 : decode cX7_two 50 = .ok (.if_icmp .gt 38, 3) := by decide +kernel
theorem dX7_two_53 : decode cX7_two 53 = .ok (.aload_n 0, 1) := by decide +kernel
theorem dX7_two_54 : decode cX7_two 54 = .ok (.aload_n 0, 1) := by decide +kernel
theorem dX7_two_55 : decode cX7_two 55 = .ok (.getfield 12, 3) := by decide +kernel
theorem dX7_two_58 : decode cX7_two 58 = .ok (.iload_n 1, 1) := by decide +kernel
theorem dX7_two_59 : decode cX7_two 59 = .ok (.invokevirtual 102, 3) := by decide +kernel
theorem dX7_two_62 : decode cX7_two 62 = .ok (.iload_n 2, 1) := by decide +kernel
theorem dX7_two_63 : decode cX7_two 63 = .ok (.iload 4, 2) := by decide +kernel
theorem dX7_two_65 : decode cX7_two 65 = .ok (.iload 5, 2) := by decide +kernel
theorem dX7_two_67 : decode cX7_two 67 = .ok (.invokevirtual 236, 3) := by decide +kernel
theorem dX7_two_70 : decode cX7_two 70 = .ok (.ifCond .eq 12, 3) := by decide +kernel
theorem dX7_two_73 : decode cX7_two 73 = .ok (.bipush 10, 2) := by decide +kernel
theorem dX7_two_75 : decode cX7_two 75 = .ok (.iload 4, 2) := by decide +kernel
theorem dX7_two_77 : decode cX7_two 77 = .ok (.imul, 1) := by decide +kernel
theorem dX7_two_78 : decode cX7_two 78 = .ok (.iload 5, 2) := by decide +kernel
theorem dX7_two_80 : decode cX7_two 80 = .ok (.iadd, 1) := by decide +kernel
theorem dX7_two_81 : decode cX7_two 81 = .ok (.ireturn, 1) := by decide +kernel
theorem dX7_two_82 : decode cX7_two 82 = .ok (.iinc 5 1, 3) := by decide +kernel
theorem dX7_two_85 : decode cX7_two 85 = .ok (.goto (-38), 3) := by decide +kernel
theorem dX7_two_88 : decode cX7_two 88 = .ok (.iinc 4 1, 3) := by decide +kernel
theorem dX7_two_91 : decode cX7_two 91 = .ok (.goto (-53), 3) := by decide +kernel
theorem dX7_two_94 : decode cX7_two 94 = .ok (.bipush (-9), 2) := by decide +kernel
theorem dX7_two_96 : decode cX7_two 96 = .ok (.ireturn, 1) := by decide +kernel
theorem dX7_slipRefusal_0 : decode cX7_slipRefusal 0 = .ok (.iload_n 0, 1) := by decide +kernel
theorem dX7_slipRefusal_1 : decode cX7_slipRefusal 1 = .ok (.ifCond .lt 8, 3) := by decide +kernel
theorem dX7_slipRefusal_4 : decode cX7_slipRefusal 4 = .ok (.iload_n 1, 1) := by decide +kernel
theorem dX7_slipRefusal_5 : decode cX7_slipRefusal 5 = .ok (.iconst 2, 1) := by decide +kernel
theorem dX7_slipRefusal_6 : decode cX7_slipRefusal 6 = .ok (.if_icmp .ge 6, 3) := by decide +kernel
theorem dX7_slipRefusal_9 : decode cX7_slipRefusal 9 = .ok (.bipush (-4), 2) := by decide +kernel
theorem dX7_slipRefusal_11 : decode cX7_slipRefusal 11 = .ok (.ireturn, 1) := by decide +kernel
theorem dX7_slipRefusal_12 : decode cX7_slipRefusal 12 = .ok (.iload_n 0, 1) := by decide +kernel
theorem dX7_slipRefusal_13 : decode cX7_slipRefusal 13 = .ok (.bipush 8, 2) := by decide +kernel
theorem dX7_slipRefusal_15 : decode cX7_slipRefusal 15 = .ok (.if_icmp .gt 9, 3) := by decide +kernel
theorem dX7_slipRefusal_18 : decode cX7_slipRefusal 18 = .ok (.iload_n 1, 1) := by decide +kernel
theorem dX7_slipRefusal_19 : decode cX7_slipRefusal 19 = .ok (.bipush 20, 2) := by decide +kernel
theorem dX7_slipRefusal_21 : decode cX7_slipRefusal 21 = .ok (.if_icmp .le 6, 3) := by decide +kernel
theorem dX7_slipRefusal_24 : decode cX7_slipRefusal 24 = .ok (.bipush (-6), 2) := by decide +kernel
theorem dX7_slipRefusal_26 : decode cX7_slipRefusal 26 = .ok (.ireturn, 1) := by decide +kernel
theorem dX7_slipRefusal_27 : decode cX7_slipRefusal 27 = .ok (.iload_n 2, 1) := by decide +kernel
theorem dX7_slipRefusal_28 : decode cX7_slipRefusal 28 = .ok (.invokestatic 177, 3) := by decide +kernel
theorem dX7_slipRefusal_31 : decode cX7_slipRefusal 31 = .ok (.ifCond .eq 8, 3) := by decide +kernel
theorem dX7_slipRefusal_34 : decode cX7_slipRefusal 34 = .ok (.bipush (-2), 2) := by decide +kernel
theorem dX7_slipRefusal_36 : decode cX7_slipRefusal 36 = .ok (.goto 4, 3) := by decide +kernel
theorem dX7_slipRefusal_39 : decode cX7_slipRefusal 39 = .ok (.iconst 0, 1) := by decide +kernel
theorem dX7_slipRefusal_40 : decode cX7_slipRefusal 40 = .ok (.ireturn, 1) := by decide +kernel
theorem dX7_commonDivisor_0 : decode cX7_commonDivisor 0 = .ok (.lload_n 0, 1) := by decide +kernel
theorem dX7_commonDivisor_1 : decode cX7_commonDivisor 1 = .ok (.lstore 4, 2) := by decide +kernel
theorem dX7_commonDivisor_3 : decode cX7_commonDivisor 3 = .ok (.lload_n 2, 1) := by decide +kernel
theorem dX7_commonDivisor_4 : decode cX7_commonDivisor 4 = .ok (.lstore 6, 2) := by decide +kernel
theorem dX7_commonDivisor_6 : decode cX7_commonDivisor 6 = .ok (.iconst 0, 1) := by decide +kernel
theorem dX7_commonDivisor_7 : decode cX7_commonDivisor 7 = .ok (.istore 8, 2) := by decide +kernel
theorem dX7_commonDivisor_9 : decode cX7_commonDivisor 9 = .ok (.iload 8, 2) := by decide +kernel
theorem dX7_commonDivisor_11 : decode cX7_commonDivisor 11 = .ok (.sipush 1000, 3) := by decide +kernel
theorem dX7_commonDivisor_14 : decode cX7_commonDivisor 14 = .ok (.if_icmp .ge 31, 3) := by decide +kernel
theorem dX7_commonDivisor_17 : decode cX7_commonDivisor 17 = .ok (.lload 6, 2) := by decide +kernel
theorem dX7_commonDivisor_19 : decode cX7_commonDivisor 19 = .ok (.lconst 0, 1) := by decide +kernel
theorem dX7_commonDivisor_20 : decode cX7_commonDivisor 20 = .ok (.lcmp, 1) := by decide +kernel
theorem dX7_commonDivisor_21 : decode cX7_commonDivisor 21 = .ok (.ifCond .eq 24, 3) := by decide +kernel
theorem dX7_commonDivisor_24 : decode cX7_commonDivisor 24 = .ok (.lload 4, 2) := by decide +kernel
theorem dX7_commonDivisor_26 : decode cX7_commonDivisor 26 = .ok (.lload 6, 2) := by decide +kernel
theorem dX7_commonDivisor_28 : decode cX7_commonDivisor 28 = .ok (.lrem, 1) := by decide +kernel
theorem dX7_commonDivisor_29 : decode cX7_commonDivisor 29 = .ok (.lstore 9, 2) := by decide +kernel
theorem dX7_commonDivisor_31 : decode cX7_commonDivisor 31 = .ok (.lload 6, 2) := by decide +kernel
theorem dX7_commonDivisor_33 : decode cX7_commonDivisor 33 = .ok (.lstore 4, 2) := by decide +kernel
theorem dX7_commonDivisor_35 : decode cX7_commonDivisor 35 = .ok (.lload 9, 2) := by decide +kernel
theorem dX7_commonDivisor_37 : decode cX7_commonDivisor 37 = .ok (.lstore 6, 2) := by decide +kernel
theorem dX7_commonDivisor_39 : decode cX7_commonDivisor 39 = .ok (.iinc 8 1, 3) := by decide +kernel
theorem dX7_commonDivisor_42 : decode cX7_commonDivisor 42 = .ok (.goto (-33), 3) := by decide +kernel
theorem dX7_commonDivisor_45 : decode cX7_commonDivisor 45 = .ok (.lload 4, 2) := by decide +kernel
theorem dX7_commonDivisor_47 : decode cX7_commonDivisor 47 = .ok (.lreturn, 1) := by decide +kernel
theorem dX7_partOf_0 : decode cX7_partOf 0 = .ok (.lload_n 0, 1) := by decide +kernel
theorem dX7_partOf_1 : decode cX7_partOf 1 = .ok (.lload_n 2, 1) := by decide +kernel
theorem dX7_partOf_2 : decode cX7_partOf 2 = .ok (.invokestatic 322, 3) := by decide +kernel
theorem dX7_partOf_5 : decode cX7_partOf 5 = .ok (.lstore 5, 2) := by decide +kernel
theorem dX7_partOf_7 : decode cX7_partOf 7 = .ok (.lload 5, 2) := by decide +kernel
theorem dX7_partOf_9 : decode cX7_partOf 9 = .ok (.lconst 1, 1) := by decide +kernel
theorem dX7_partOf_10 : decode cX7_partOf 10 = .ok (.lcmp, 1) := by decide +kernel
theorem dX7_partOf_11 : decode cX7_partOf 11 = .ok (.ifCond .ge 5, 3) := by decide +kernel
theorem dX7_partOf_14 : decode cX7_partOf 14 = .ok (.lconst 0, 1) := by decide +kernel
theorem dX7_partOf_15 : decode cX7_partOf 15 = .ok (.lreturn, 1) := by decide +kernel
theorem dX7_partOf_16 : decode cX7_partOf 16 = .ok (.iload 4, 2) := by decide +kernel
theorem dX7_partOf_18 : decode cX7_partOf 18 = .ok (.ifCond .ne 10, 3) := by decide +kernel
theorem dX7_partOf_21 : decode cX7_partOf 21 = .ok (.lload_n 0, 1) := by decide +kernel
theorem dX7_partOf_22 : decode cX7_partOf 22 = .ok (.lload 5, 2) := by decide +kernel
theorem dX7_partOf_24 : decode cX7_partOf 24 = .ok (.ldiv, 1) := by decide +kernel
theorem dX7_partOf_25 : decode cX7_partOf 25 = .ok (.goto 7, 3) := by decide +kernel
theorem dX7_partOf_28 : decode cX7_partOf 28 = .ok (.lload_n 2, 1) := by decide +kernel
theorem dX7_partOf_29 : decode cX7_partOf 29 = .ok (.lload 5, 2) := by decide +kernel
theorem dX7_partOf_31 : decode cX7_partOf 31 = .ok (.ldiv, 1) := by decide +kernel
theorem dX7_partOf_32 : decode cX7_partOf 32 = .ok (.lreturn, 1) := by decide +kernel
theorem dX7_slip_0 : decode cX7_slip 0 = .ok (.aload_n 0, 1) := by decide +kernel
theorem dX7_slip_1 : decode cX7_slip 1 = .ok (.getfield 12, 3) := by decide +kernel
theorem dX7_slip_4 : decode cX7_slip 4 = .ok (.iload_n 1, 1) := by decide +kernel
theorem dX7_slip_5 : decode cX7_slip 5 = .ok (.invokevirtual 98, 3) := by decide +kernel
theorem dX7_slip_8 : decode cX7_slip 8 = .ok (.ifCond .ne 11, 3) := by decide +kernel
theorem dX7_slip_11 : decode cX7_slip 11 = .ok (.iload 4, 2) := by decide +kernel
theorem dX7_slip_13 : decode cX7_slip 13 = .ok (.invokestatic 124, 3) := by decide +kernel
theorem dX7_slip_16 : decode cX7_slip 16 = .ok (.ifCond .eq 14, 3) := by decide +kernel
theorem dX7_slip_19 : decode cX7_slip 19 = .ok (.ldc2_w 240, 3) := by decide +kernel
theorem dX7_slip_22 : decode cX7_slip 22 = .ok (.aload_n 0, 1) := by decide +kernel
theorem dX7_slip_23 : decode cX7_slip 23 = .ok (.iconst (-1), 1) := by decide +kernel
theorem dX7_slip_24 : decode cX7_slip 24 = .ok (.invokevirtual 71, 3) := by decide +kernel
theorem dX7_slip_27 : decode cX7_slip 27 = .ok (.i2l, 1) := by decide +kernel
theorem dX7_slip_28 : decode cX7_slip 28 = .ok (.lsub, 1) := by decide +kernel
theorem dX7_slip_29 : decode cX7_slip 29 = .ok (.lreturn, 1) := by decide +kernel
theorem dX7_slip_30 : decode cX7_slip 30 = .ok (.iload_n 2, 1) := by decide +kernel
theorem dX7_slip_31 : decode cX7_slip 31 = .ok (.iload_n 3, 1) := by decide +kernel
theorem dX7_slip_32 : decode cX7_slip 32 = .ok (.iload 5, 2) := by decide +kernel
theorem dX7_slip_34 : decode cX7_slip 34 = .ok (.invokestatic 242, 3) := by decide +kernel
theorem dX7_slip_37 : decode cX7_slip 37 = .ok (.istore 6, 2) := by decide +kernel
theorem dX7_slip_39 : decode cX7_slip 39 = .ok (.iload 6, 2) := by decide +kernel
theorem dX7_slip_41 : decode cX7_slip 41 = .ok (.ifCond .eq 15, 3) := by decide +kernel
theorem dX7_slip_44 : decode cX7_slip 44 = .ok (.ldc2_w 240, 3) := by decide +kernel
theorem dX7_slip_47 : decode cX7_slip 47 = .ok (.aload_n 0, 1) := by decide +kernel
theorem dX7_slip_48 : decode cX7_slip 48 = .ok (.iload 6, 2) := by decide +kernel
theorem dX7_slip_50 : decode cX7_slip 50 = .ok (.invokevirtual 71, 3) := by decide +kernel
theorem dX7_slip_53 : decode cX7_slip 53 = .ok (.i2l, 1) := by decide +kernel
theorem dX7_slip_54 : decode cX7_slip 54 = .ok (.lsub, 1) := by decide +kernel
theorem dX7_slip_55 : decode cX7_slip 55 = .ok (.lreturn, 1) := by decide +kernel
theorem dX7_slip_56 : decode cX7_slip 56 = .ok (.aload_n 0, 1) := by decide +kernel
theorem dX7_slip_57 : decode cX7_slip 57 = .ok (.getfield 60, 3) := by decide +kernel
theorem dX7_slip_60 : decode cX7_slip 60 = .ok (.iload_n 2, 1) := by decide +kernel
theorem dX7_slip_61 : decode cX7_slip 61 = .ok (.iload_n 3, 1) := by decide +kernel
theorem dX7_slip_62 : decode cX7_slip 62 = .ok (.invokevirtual 245, 3) := by decide +kernel
theorem dX7_slip_65 : decode cX7_slip 65 = .ok (.aload_n 0, 1) := by decide +kernel
theorem dX7_slip_66 : decode cX7_slip 66 = .ok (.getfield 60, 3) := by decide +kernel
theorem dX7_slip_69 : decode cX7_slip 69 = .ok (.aload_n 0, 1) := by decide +kernel
theorem dX7_slip_70 : decode cX7_slip 70 = .ok (.getfield 12, 3) := by decide +kernel
theorem dX7_slip_73 : decode cX7_slip 73 = .ok (.iload_n 1, 1) := by decide +kernel
theorem dX7_slip_74 : decode cX7_slip 74 = .ok (.invokevirtual 102, 3) := by decide +kernel
theorem dX7_slip_77 : decode cX7_slip 77 = .ok (.iload 4, 2) := by decide +kernel
theorem dX7_slip_79 : decode cX7_slip 79 = .ok (.aload_n 0, 1) := by decide +kernel
theorem dX7_slip_80 : decode cX7_slip 80 = .ok (.getfield 12, 3) := by decide +kernel
theorem dX7_slip_83 : decode cX7_slip 83 = .ok (.getfield 115, 3) := by decide +kernel
theorem dX7_slip_86 : decode cX7_slip 86 = .ok (.invokevirtual 247, 3) := by decide +kernel
theorem dX7_slip_89 : decode cX7_slip 89 = .ok (.aload_n 0, 1) := by decide +kernel
theorem dX7_slip_90 : decode cX7_slip 90 = .ok (.getfield 60, 3) := by decide +kernel
theorem dX7_slip_93 : decode cX7_slip 93 = .ok (.invokevirtual 251, 3) := by decide +kernel
theorem dX7_slip_96 : decode cX7_slip 96 = .ok (.iload 5, 2) := by decide +kernel
theorem dX7_slip_98 : decode cX7_slip 98 = .ok (.invokestatic 255, 3) := by decide +kernel
theorem dX7_slip_101 : decode cX7_slip 101 = .ok (.lreturn, 1) := by decide +kernel
theorem dX7_mean_0 : decode cX7_mean 0 = .ok (.aload_n 0, 1) := by decide +kernel
theorem dX7_mean_1 : decode cX7_mean 1 = .ok (.getfield 12, 3) := by decide +kernel
theorem dX7_mean_4 : decode cX7_mean 4 = .ok (.iload_n 1, 1) := by decide +kernel
theorem dX7_mean_5 : decode cX7_mean 5 = .ok (.invokevirtual 98, 3) := by decide +kernel
theorem dX7_mean_8 : decode cX7_mean 8 = .ok (.ifCond .eq 14, 3) := by decide +kernel
theorem dX7_mean_11 : decode cX7_mean 11 = .ok (.ldc2_w 240, 3) := by decide +kernel
theorem dX7_mean_14 : decode cX7_mean 14 = .ok (.aload_n 0, 1) := by decide +kernel
theorem dX7_mean_15 : decode cX7_mean 15 = .ok (.iconst (-1), 1) := by decide +kernel
theorem dX7_mean_16 : decode cX7_mean 16 = .ok (.invokevirtual 71, 3) := by decide +kernel
theorem dX7_mean_19 : decode cX7_mean 19 = .ok (.i2l, 1) := by decide +kernel
theorem dX7_mean_20 : decode cX7_mean 20 = .ok (.lsub, 1) := by decide +kernel
theorem dX7_mean_21 : decode cX7_mean 21 = .ok (.lreturn, 1) := by decide +kernel
theorem dX7_mean_22 : decode cX7_mean 22 = .ok (.iload_n 2, 1) := by decide +kernel
theorem dX7_mean_23 : decode cX7_mean 23 = .ok (.iload_n 3, 1) := by decide +kernel
theorem dX7_mean_24 : decode cX7_mean 24 = .ok (.iload 4, 2) := by decide +kernel
theorem dX7_mean_26 : decode cX7_mean 26 = .ok (.invokestatic 242, 3) := by decide +kernel
theorem dX7_mean_29 : decode cX7_mean 29 = .ok (.istore 5, 2) := by decide +kernel
theorem dX7_mean_31 : decode cX7_mean 31 = .ok (.iload 5, 2) := by decide +kernel
theorem dX7_mean_33 : decode cX7_mean 33 = .ok (.ifCond .eq 15, 3) := by decide +kernel
theorem dX7_mean_36 : decode cX7_mean 36 = .ok (.ldc2_w 240, 3) := by decide +kernel
theorem dX7_mean_39 : decode cX7_mean 39 = .ok (.aload_n 0, 1) := by decide +kernel
theorem dX7_mean_40 : decode cX7_mean 40 = .ok (.iload 5, 2) := by decide +kernel
theorem dX7_mean_42 : decode cX7_mean 42 = .ok (.invokevirtual 71, 3) := by decide +kernel
theorem dX7_mean_45 : decode cX7_mean 45 = .ok (.i2l, 1) := by decide +kernel
theorem dX7_mean_46 : decode cX7_mean 46 = .ok (.lsub, 1) := by decide +kernel
theorem dX7_mean_47 : decode cX7_mean 47 = .ok (.lreturn, 1) := by decide +kernel
theorem dX7_mean_48 : decode cX7_mean 48 = .ok (.aload_n 0, 1) := by decide +kernel
theorem dX7_mean_49 : decode cX7_mean 49 = .ok (.getfield 60, 3) := by decide +kernel
theorem dX7_mean_52 : decode cX7_mean 52 = .ok (.iload_n 2, 1) := by decide +kernel
theorem dX7_mean_53 : decode cX7_mean 53 = .ok (.iload_n 3, 1) := by decide +kernel
theorem dX7_mean_54 : decode cX7_mean 54 = .ok (.invokevirtual 245, 3) := by decide +kernel
theorem dX7_mean_57 : decode cX7_mean 57 = .ok (.aload_n 0, 1) := by decide +kernel
theorem dX7_mean_58 : decode cX7_mean 58 = .ok (.getfield 60, 3) := by decide +kernel
theorem dX7_mean_61 : decode cX7_mean 61 = .ok (.aload_n 0, 1) := by decide +kernel
theorem dX7_mean_62 : decode cX7_mean 62 = .ok (.getfield 12, 3) := by decide +kernel
theorem dX7_mean_65 : decode cX7_mean 65 = .ok (.iload_n 1, 1) := by decide +kernel
theorem dX7_mean_66 : decode cX7_mean 66 = .ok (.invokevirtual 102, 3) := by decide +kernel
theorem dX7_mean_69 : decode cX7_mean 69 = .ok (.aload_n 0, 1) := by decide +kernel
theorem dX7_mean_70 : decode cX7_mean 70 = .ok (.getfield 12, 3) := by decide +kernel
theorem dX7_mean_73 : decode cX7_mean 73 = .ok (.getfield 115, 3) := by decide +kernel
theorem dX7_mean_76 : decode cX7_mean 76 = .ok (.invokevirtual 259, 3) := by decide +kernel
theorem dX7_mean_79 : decode cX7_mean 79 = .ok (.aload_n 0, 1) := by decide +kernel
theorem dX7_mean_80 : decode cX7_mean 80 = .ok (.getfield 60, 3) := by decide +kernel
theorem dX7_mean_83 : decode cX7_mean 83 = .ok (.invokevirtual 251, 3) := by decide +kernel
theorem dX7_mean_86 : decode cX7_mean 86 = .ok (.iload 4, 2) := by decide +kernel
theorem dX7_mean_88 : decode cX7_mean 88 = .ok (.invokestatic 255, 3) := by decide +kernel
theorem dX7_mean_91 : decode cX7_mean 91 = .ok (.lreturn, 1) := by decide +kernel
theorem dX7_whatWas_0 : decode cX7_whatWas 0 = .ok (.aload_n 0, 1) := by decide +kernel
theorem dX7_whatWas_1 : decode cX7_whatWas 1 = .ok (.getfield 12, 3) := by decide +kernel
theorem dX7_whatWas_4 : decode cX7_whatWas 4 = .ok (.iload_n 1, 1) := by decide +kernel
theorem dX7_whatWas_5 : decode cX7_whatWas 5 = .ok (.invokevirtual 98, 3) := by decide +kernel
theorem dX7_whatWas_8 : decode cX7_whatWas 8 = .ok (.ifCond .eq 9, 3) := by decide +kernel
theorem dX7_whatWas_11 : decode cX7_whatWas 11 = .ok (.aload_n 0, 1) := by decide +kernel
theorem dX7_whatWas_12 : decode cX7_whatWas 12 = .ok (.iconst (-1), 1) := by decide +kernel
theorem dX7_whatWas_13 : decode cX7_whatWas 13 = .ok (.invokevirtual 71, 3) := by decide +kernel
theorem dX7_whatWas_16 : decode cX7_whatWas 16 = .ok (.ireturn, 1) := by decide +kernel
theorem dX7_whatWas_17 : decode cX7_whatWas 17 = .ok (.iload_n 2, 1) := by decide +kernel
theorem dX7_whatWas_18 : decode cX7_whatWas 18 = .ok (.invokestatic 177, 3) := by decide +kernel
theorem dX7_whatWas_21 : decode cX7_whatWas 21 = .ok (.ifCond .eq 10, 3) := by decide +kernel
theorem dX7_whatWas_24 : decode cX7_whatWas 24 = .ok (.aload_n 0, 1) := by decide +kernel
theorem dX7_whatWas_25 : decode cX7_whatWas 25 = .ok (.bipush (-2), 2) := by decide +kernel
theorem dX7_whatWas_27 : decode cX7_whatWas 27 = .ok (.invokevirtual 71, 3) := by decide +kernel
theorem dX7_whatWas_30 : decode cX7_whatWas 30 = .ok (.ireturn, 1) := by decide +kernel
theorem dX7_whatWas_31 : decode cX7_whatWas 31 = .ok (.aload_n 0, 1) := by decide +kernel
theorem dX7_whatWas_32 : decode cX7_whatWas 32 = .ok (.getfield 25, 3) := by decide +kernel
theorem dX7_whatWas_35 : decode cX7_whatWas 35 = .ok (.aload_n 0, 1) := by decide +kernel
theorem dX7_whatWas_36 : decode cX7_whatWas 36 = .ok (.getfield 12, 3) := by decide +kernel
theorem dX7_whatWas_39 : decode cX7_whatWas 39 = .ok (.iload_n 1, 1) := by decide +kernel
theorem dX7_whatWas_40 : decode cX7_whatWas 40 = .ok (.invokevirtual 102, 3) := by decide +kernel
theorem dX7_whatWas_43 : decode cX7_whatWas 43 = .ok (.invokevirtual 263, 3) := by decide +kernel
theorem dX7_whatWas_46 : decode cX7_whatWas 46 = .ok (.iload_n 2, 1) := by decide +kernel
theorem dX7_whatWas_47 : decode cX7_whatWas 47 = .ok (.ifCond .ne 7, 3) := by decide +kernel
theorem dX7_whatWas_50 : decode cX7_whatWas 50 = .ok (.iconst 5, 1) := by decide +kernel
theorem dX7_whatWas_51 : decode cX7_whatWas 51 = .ok (.goto 5, 3) := by decide +kernel
theorem dX7_whatWas_54 : decode cX7_whatWas 54 = .ok (.bipush 9, 2) := by decide +kernel
theorem dX7_whatWas_56 : decode cX7_whatWas 56 = .ok (.istore_n 3, 1) := by decide +kernel
theorem dX7_whatWas_57 : decode cX7_whatWas 57 = .ok (.iconst 0, 1) := by decide +kernel
theorem dX7_whatWas_58 : decode cX7_whatWas 58 = .ok (.istore 4, 2) := by decide +kernel
theorem dX7_whatWas_60 : decode cX7_whatWas 60 = .ok (.iconst 0, 1) := by decide +kernel
theorem dX7_whatWas_61 : decode cX7_whatWas 61 = .ok (.istore 5, 2) := by decide +kernel
theorem dX7_whatWas_63 : decode cX7_whatWas 63 = .ok (.iload 5, 2) := by decide +kernel
theorem dX7_whatWas_65 : decode cX7_whatWas 65 = .ok (.iload_n 3, 1) := by decide +kernel
theorem dX7_whatWas_66 : decode cX7_whatWas 66 = .ok (.if_icmp .gt 64, 3) := by decide +kernel
theorem dX7_whatWas_69 : decode cX7_whatWas 69 = .ok (.iload_n 2, 1) := by decide +kernel
theorem dX7_whatWas_70 : decode cX7_whatWas 70 = .ok (.ifCond .ne 15, 3) := by decide +kernel
theorem dX7_whatWas_73 : decode cX7_whatWas 73 = .ok (.aload_n 0, 1) := by decide +kernel
theorem dX7_whatWas_74 : decode cX7_whatWas 74 = .ok (.getfield 25, 3) := by decide +kernel
theorem dX7_whatWas_77 : decode cX7_whatWas 77 = .ok (.iload 5, 2) := by decide +kernel
theorem dX7_whatWas_79 : decode cX7_whatWas 79 = .ok (.putfield 106, 3) := by decide +kernel
theorem dX7_whatWas_82 : decode cX7_whatWas 82 = .ok (.goto 12, 3) := by decide +kernel
theorem dX7_whatWas_85 : decode cX7_whatWas 85 = .ok (.aload_n 0, 1) := by decide +kernel
theorem dX7_whatWas_86 : decode cX7_whatWas 86 = .ok (.getfield 25, 3) := by decide +kernel
theorem dX7_whatWas_89 : decode cX7_whatWas 89 = .ok (.iload 5, 2) := by decide +kernel
theorem dX7_whatWas_91 : decode cX7_whatWas 91 = .ok (.putfield 109, 3) := by decide +kernel
theorem dX7_whatWas_94 : decode cX7_whatWas 94 = .ok (.aload_n 0, 1) := by decide +kernel
theorem dX7_whatWas_95 : decode cX7_whatWas 95 = .ok (.getfield 39, 3) := by decide +kernel
theorem dX7_whatWas_98 : decode cX7_whatWas 98 = .ok (.aload_n 0, 1) := by decide +kernel
theorem dX7_whatWas_99 : decode cX7_whatWas 99 = .ok (.getfield 25, 3) := by decide +kernel
theorem dX7_whatWas_102 : decode cX7_whatWas 102 = .ok (.aload_n 0, 1) := by decide +kernel
theorem dX7_whatWas_103 : decode cX7_whatWas 103 = .ok (.getfield 12, 3) := by decide +kernel
theorem dX7_whatWas_106 : decode cX7_whatWas 106 = .ok (.getfield 115, 3) := by decide +kernel
theorem dX7_whatWas_109 : decode cX7_whatWas 109 = .ok (.invokevirtual 265, 3) := by decide +kernel
theorem dX7_whatWas_112 : decode cX7_whatWas 112 = .ok (.ifCond .eq 12, 3) := by decide +kernel
theorem dX7_whatWas_115 : decode cX7_whatWas 115 = .ok (.iload 4, 2) := by decide +kernel
theorem dX7_whatWas_117 : decode cX7_whatWas 117 = .ok (.iconst 1, 1) := by decide +kernel
theorem dX7_whatWas_118 : decode cX7_whatWas 118 = .ok (.iload 5, 2) := by decide +kernel
theorem dX7_whatWas_120 : decode cX7_whatWas 120 = .ok (.ishl, 1) := by decide +kernel
theorem dX7_whatWas_121 : decode cX7_whatWas 121 = .ok (.ior, 1) := by decide +kernel
theorem dX7_whatWas_122 : decode cX7_whatWas 122 = .ok (.istore 4, 2) := by decide +kernel
theorem dX7_whatWas_124 : decode cX7_whatWas 124 = .ok (.iinc 5 1, 3) := by decide +kernel
theorem dX7_whatWas_127 : decode cX7_whatWas 127 = .ok (.goto (-64), 3) := by decide +kernel
theorem dX7_whatWas_130 : decode cX7_whatWas 130 = .ok (.iload 4, 2) := by decide +kernel
theorem dX7_whatWas_132 : decode cX7_whatWas 132 = .ok (.ireturn, 1) := by decide +kernel
theorem dX7_mended_0 : decode cX7_mended 0 = .ok (.aload_n 0, 1) := by decide +kernel
theorem dX7_mended_1 : decode cX7_mended 1 = .ok (.getfield 12, 3) := by decide +kernel
theorem dX7_mended_4 : decode cX7_mended 4 = .ok (.iload_n 1, 1) := by decide +kernel
theorem dX7_mended_5 : decode cX7_mended 5 = .ok (.invokevirtual 98, 3) := by decide +kernel
theorem dX7_mended_8 : decode cX7_mended 8 = .ok (.ifCond .ne 10, 3) := by decide +kernel
theorem dX7_mended_11 : decode cX7_mended 11 = .ok (.iload_n 2, 1) := by decide +kernel
theorem dX7_mended_12 : decode cX7_mended 12 = .ok (.invokestatic 124, 3) := by decide +kernel
theorem dX7_mended_15 : decode cX7_mended 15 = .ok (.ifCond .eq 9, 3) := by decide +kernel
theorem dX7_mended_18 : decode cX7_mended 18 = .ok (.aload_n 0, 1) := by decide +kernel
theorem dX7_mended_19 : decode cX7_mended 19 = .ok (.iconst (-1), 1) := by decide +kernel
theorem dX7_mended_20 : decode cX7_mended 20 = .ok (.invokevirtual 71, 3) := by decide +kernel
theorem dX7_mended_23 : decode cX7_mended 23 = .ok (.ireturn, 1) := by decide +kernel
theorem dX7_mended_24 : decode cX7_mended 24 = .ok (.iload_n 3, 1) := by decide +kernel
theorem dX7_mended_25 : decode cX7_mended 25 = .ok (.iconst 0, 1) := by decide +kernel
theorem dX7_mended_26 : decode cX7_mended 26 = .ok (.bipush 99, 2) := by decide +kernel
theorem dX7_mended_28 : decode cX7_mended 28 = .ok (.invokestatic 137, 3) := by decide +kernel
theorem dX7_mended_31 : decode cX7_mended 31 = .ok (.istore 4, 2) := by decide +kernel
theorem dX7_mended_33 : decode cX7_mended 33 = .ok (.iload 4, 2) := by decide +kernel
theorem dX7_mended_35 : decode cX7_mended 35 = .ok (.ifCond .eq 10, 3) := by decide +kernel
theorem dX7_mended_38 : decode cX7_mended 38 = .ok (.aload_n 0, 1) := by decide +kernel
theorem dX7_mended_39 : decode cX7_mended 39 = .ok (.iload 4, 2) := by decide +kernel
theorem dX7_mended_41 : decode cX7_mended 41 = .ok (.invokevirtual 71, 3) := by decide +kernel
theorem dX7_mended_44 : decode cX7_mended 44 = .ok (.ireturn, 1) := by decide +kernel
theorem dX7_mended_45 : decode cX7_mended 45 = .ok (.aload_n 0, 1) := by decide +kernel
theorem dX7_mended_46 : decode cX7_mended 46 = .ok (.getfield 25, 3) := by decide +kernel
theorem dX7_mended_49 : decode cX7_mended 49 = .ok (.aload_n 0, 1) := by decide +kernel
theorem dX7_mended_50 : decode cX7_mended 50 = .ok (.getfield 12, 3) := by decide +kernel
theorem dX7_mended_53 : decode cX7_mended 53 = .ok (.iload_n 1, 1) := by decide +kernel
theorem dX7_mended_54 : decode cX7_mended 54 = .ok (.invokevirtual 102, 3) := by decide +kernel
theorem dX7_mended_57 : decode cX7_mended 57 = .ok (.invokevirtual 263, 3) := by decide +kernel
theorem dX7_mended_60 : decode cX7_mended 60 = .ok (.iconst 0, 1) := by decide +kernel
theorem dX7_mended_61 : decode cX7_mended 61 = .ok (.istore 5, 2) := by decide +kernel
theorem dX7_mended_63 : decode cX7_mended 63 = .ok (.iload 5, 2) := by decide +kernel
theorem dX7_mended_65 : decode cX7_mended 65 = .ok (.bipush 99, 2) := by decide +kernel
theorem dX7_mended_67 : decode cX7_mended 67 = .ok (.if_icmp .gt 42, 3) := by decide +kernel
theorem dX7_mended_70 : decode cX7_mended 70 = .ok (.aload_n 0, 1) := by decide +kernel
theorem dX7_mended_71 : decode cX7_mended 71 = .ok (.getfield 25, 3) := by decide +kernel
theorem dX7_mended_74 : decode cX7_mended 74 = .ok (.iload_n 2, 1) := by decide +kernel
theorem dX7_mended_75 : decode cX7_mended 75 = .ok (.iload 5, 2) := by decide +kernel
theorem dX7_mended_77 : decode cX7_mended 77 = .ok (.invokevirtual 141, 3) := by decide +kernel
theorem dX7_mended_80 : decode cX7_mended 80 = .ok (.aload_n 0, 1) := by decide +kernel
theorem dX7_mended_81 : decode cX7_mended 81 = .ok (.getfield 25, 3) := by decide +kernel
theorem dX7_mended_84 : decode cX7_mended 84 = .ok (.iload_n 3, 1) := by decide +kernel
theorem dX7_mended_85 : decode cX7_mended 85 = .ok (.iconst 0, 1) := by decide +kernel
theorem dX7_mended_86 : decode cX7_mended 86 = .ok (.aload_n 0, 1) := by decide +kernel
theorem dX7_mended_87 : decode cX7_mended 87 = .ok (.getfield 12, 3) := by decide +kernel
theorem dX7_mended_90 : decode cX7_mended 90 = .ok (.getfield 115, 3) := by decide +kernel
theorem dX7_mended_93 : decode cX7_mended 93 = .ok (.invokevirtual 168, 3) := by decide +kernel
theorem dX7_mended_96 : decode cX7_mended 96 = .ok (.iload_n 2, 1) := by decide +kernel
theorem dX7_mended_97 : decode cX7_mended 97 = .ok (.if_icmp .ne 6, 3) := by decide +kernel
theorem dX7_mended_100 : decode cX7_mended 100 = .ok (.iload 5, 2) := by decide +kernel
theorem dX7_mended_102 : decode cX7_mended 102 = .ok (.ireturn, 1) := by decide +kernel
theorem dX7_mended_103 : decode cX7_mended 103 = .ok (.iinc 5 1, 3) := by decide +kernel
theorem dX7_mended_106 : decode cX7_mended 106 = .ok (.goto (-43), 3) := by decide +kernel
theorem dX7_mended_109 : decode cX7_mended 109 = .ok (.bipush (-9), 2) := by decide +kernel
theorem dX7_mended_111 : decode cX7_mended 111 = .ok (.ireturn, 1) := by decide +kernel
theorem dX7_row_0 : decode cX7_row 0 = .ok (.iload_n 1, 1) := by decide +kernel
theorem dX7_row_1 : decode cX7_row 1 = .ok (.ifCond .ge 10, 3) := by decide +kernel
theorem dX7_row_4 : decode cX7_row 4 = .ok (.aload_n 0, 1) := by decide +kernel
theorem dX7_row_5 : decode cX7_row 5 = .ok (.bipush (-4), 2) := by decide +kernel
theorem dX7_row_7 : decode cX7_row 7 = .ok (.invokevirtual 71, 3) := by decide +kernel
theorem dX7_row_10 : decode cX7_row 10 = .ok (.ireturn, 1) := by decide +kernel
theorem dX7_row_11 : decode cX7_row 11 = .ok (.iload_n 1, 1) := by decide +kernel
theorem dX7_row_12 : decode cX7_row 12 = .ok (.bipush 99, 2) := by decide +kernel
theorem dX7_row_14 : decode cX7_row 14 = .ok (.if_icmp .gt 13, 3) := by decide +kernel
theorem dX7_row_17 : decode cX7_row 17 = .ok (.aload_n 0, 1) := by decide +kernel
theorem dX7_row_18 : decode cX7_row 18 = .ok (.getfield 39, 3) := by decide +kernel
theorem dX7_row_21 : decode cX7_row 21 = .ok (.invokevirtual 269, 3) := by decide +kernel
theorem dX7_row_24 : decode cX7_row 24 = .ok (.ifCond .eq 10, 3) := by decide +kernel
theorem dX7_row_27 : decode cX7_row 27 = .ok (.aload_n 0, 1) := by decide +kernel
theorem dX7_row_28 : decode cX7_row 28 = .ok (.bipush (-6), 2) := by decide +kernel
theorem dX7_row_30 : decode cX7_row 30 = .ok (.invokevirtual 71, 3) := by decide +kernel
theorem dX7_row_33 : decode cX7_row 33 = .ok (.ireturn, 1) := by decide +kernel
theorem dX7_row_34 : decode cX7_row 34 = .ok (.aload_n 0, 1) := by decide +kernel
theorem dX7_row_35 : decode cX7_row 35 = .ok (.getfield 39, 3) := by decide +kernel
theorem dX7_row_38 : decode cX7_row 38 = .ok (.iload_n 1, 1) := by decide +kernel
theorem dX7_row_39 : decode cX7_row 39 = .ok (.invokevirtual 270, 3) := by decide +kernel
theorem dX7_row_42 : decode cX7_row 42 = .ok (.aload_n 0, 1) := by decide +kernel
theorem dX7_row_43 : decode cX7_row 43 = .ok (.getfield 39, 3) := by decide +kernel
theorem dX7_row_46 : decode cX7_row 46 = .ok (.getfield 271, 3) := by decide +kernel
theorem dX7_row_49 : decode cX7_row 49 = .ok (.ireturn, 1) := by decide +kernel
theorem dX7_judge_0 : decode cX7_judge 0 = .ok (.aload_n 0, 1) := by decide +kernel
theorem dX7_judge_1 : decode cX7_judge 1 = .ok (.getfield 12, 3) := by decide +kernel
theorem dX7_judge_4 : decode cX7_judge 4 = .ok (.iload_n 1, 1) := by decide +kernel
theorem dX7_judge_5 : decode cX7_judge 5 = .ok (.invokevirtual 98, 3) := by decide +kernel
theorem dX7_judge_8 : decode cX7_judge 8 = .ok (.ifCond .eq 9, 3) := by decide +kernel
theorem dX7_judge_11 : decode cX7_judge 11 = .ok (.aload_n 0, 1) := by decide +kernel
theorem dX7_judge_12 : decode cX7_judge 12 = .ok (.iconst (-1), 1) := by decide +kernel
theorem dX7_judge_13 : decode cX7_judge 13 = .ok (.invokevirtual 71, 3) := by decide +kernel
theorem dX7_judge_16 : decode cX7_judge 16 = .ok (.ireturn, 1) := by decide +kernel
theorem dX7_judge_17 : decode cX7_judge 17 = .ok (.aload_n 0, 1) := by decide +kernel
theorem dX7_judge_18 : decode cX7_judge 18 = .ok (.getfield 39, 3) := by decide +kernel
theorem dX7_judge_21 : decode cX7_judge 21 = .ok (.aload_n 0, 1) := by decide +kernel
theorem dX7_judge_22 : decode cX7_judge 22 = .ok (.getfield 12, 3) := by decide +kernel
theorem dX7_judge_25 : decode cX7_judge 25 = .ok (.iload_n 1, 1) := by decide +kernel
theorem dX7_judge_26 : decode cX7_judge 26 = .ok (.invokevirtual 102, 3) := by decide +kernel
theorem dX7_judge_29 : decode cX7_judge 29 = .ok (.invokevirtual 272, 3) := by decide +kernel
theorem dX7_judge_32 : decode cX7_judge 32 = .ok (.istore_n 2, 1) := by decide +kernel
theorem dX7_judge_33 : decode cX7_judge 33 = .ok (.aload_n 0, 1) := by decide +kernel
theorem dX7_judge_34 : decode cX7_judge 34 = .ok (.getfield 39, 3) := by decide +kernel
theorem dX7_judge_37 : decode cX7_judge 37 = .ok (.iconst 0, 1) := by decide +kernel
theorem dX7_judge_38 : decode cX7_judge 38 = .ok (.putfield 271, 3) := by decide +kernel
theorem dX7_judge_41 : decode cX7_judge 41 = .ok (.iload_n 2, 1) := by decide +kernel
theorem dX7_judge_42 : decode cX7_judge 42 = .ok (.ireturn, 1) := by decide +kernel
theorem dX7_clear_0 : decode cX7_clear 0 = .ok (.aload_n 0, 1) := by decide +kernel
theorem dX7_clear_1 : decode cX7_clear 1 = .ok (.getfield 39, 3) := by decide +kernel
theorem dX7_clear_4 : decode cX7_clear 4 = .ok (.getfield 271, 3) := by decide +kernel
theorem dX7_clear_7 : decode cX7_clear 7 = .ok (.istore_n 1, 1) := by decide +kernel
theorem dX7_clear_8 : decode cX7_clear 8 = .ok (.aload_n 0, 1) := by decide +kernel
theorem dX7_clear_9 : decode cX7_clear 9 = .ok (.getfield 39, 3) := by decide +kernel
theorem dX7_clear_12 : decode cX7_clear 12 = .ok (.iconst 0, 1) := by decide +kernel
theorem dX7_clear_13 : decode cX7_clear 13 = .ok (.putfield 271, 3) := by decide +kernel
theorem dX7_clear_16 : decode cX7_clear 16 = .ok (.iload_n 1, 1) := by decide +kernel
theorem dX7_clear_17 : decode cX7_clear 17 = .ok (.ireturn, 1) := by decide +kernel
theorem dX7_draw_0 : decode cX7_draw 0 = .ok (.aload_n 0, 1) := by decide +kernel
theorem dX7_draw_1 : decode cX7_draw 1 = .ok (.aload_n 0, 1) := by decide +kernel
theorem dX7_draw_2 : decode cX7_draw 2 = .ok (.getfield 276, 3) := by decide +kernel
theorem dX7_draw_5 : decode cX7_draw 5 = .ok (.ldc_w 319, 3) := by decide +kernel
theorem dX7_draw_8 : decode cX7_draw 8 = .ok (.imul, 1) := by decide +kernel
theorem dX7_draw_9 : decode cX7_draw 9 = .ok (.ldc_w 320, 3) := by decide +kernel
theorem dX7_draw_12 : decode cX7_draw 12 = .ok (.iadd, 1) := by decide +kernel
theorem dX7_draw_13 : decode cX7_draw 13 = .ok (.putfield 276, 3) := by decide +kernel
theorem dX7_draw_16 : decode cX7_draw 16 = .ok (.iload_n 1, 1) := by decide +kernel
theorem dX7_draw_17 : decode cX7_draw 17 = .ok (.iconst 1, 1) := by decide +kernel
theorem dX7_draw_18 : decode cX7_draw 18 = .ok (.if_icmp .ge 7, 3) := by decide +kernel
theorem dX7_draw_21 : decode cX7_draw 21 = .ok (.iconst 0, 1) := by decide +kernel
theorem dX7_draw_22 : decode cX7_draw 22 = .ok (.goto 17, 3) := by decide +kernel
theorem dX7_draw_25 : decode cX7_draw 25 = .ok (.aload_n 0, 1) := by decide +kernel
theorem dX7_draw_26 : decode cX7_draw 26 = .ok (.getfield 276, 3) := by decide +kernel
theorem dX7_draw_29 : decode cX7_draw 29 = .ok (.ldc_w 321, 3) := by decide +kernel
theorem dX7_draw_32 : decode cX7_draw 32 = .ok (.iand, 1) := by decide +kernel
theorem dX7_draw_33 : decode cX7_draw 33 = .ok (.sipush 256, 3) := by decide +kernel
theorem dX7_draw_36 : decode cX7_draw 36 = .ok (.idiv, 1) := by decide +kernel
theorem dX7_draw_37 : decode cX7_draw 37 = .ok (.iload_n 1, 1) := by decide +kernel
theorem dX7_draw_38 : decode cX7_draw 38 = .ok (.irem, 1) := by decide +kernel
theorem dX7_draw_39 : decode cX7_draw 39 = .ok (.ireturn, 1) := by decide +kernel
theorem dX7_glueByLot_0 : decode cX7_glueByLot 0 = .ok (.aload_n 0, 1) := by decide +kernel
theorem dX7_glueByLot_1 : decode cX7_glueByLot 1 = .ok (.getfield 19, 3) := by decide +kernel
theorem dX7_glueByLot_4 : decode cX7_glueByLot 4 = .ok (.aload_n 0, 1) := by decide +kernel
theorem dX7_glueByLot_5 : decode cX7_glueByLot 5 = .ok (.getfield 12, 3) := by decide +kernel
theorem dX7_glueByLot_8 : decode cX7_glueByLot 8 = .ok (.invokevirtual 94, 3) := by decide +kernel
theorem dX7_glueByLot_11 : decode cX7_glueByLot 11 = .ok (.iconst 0, 1) := by decide +kernel
theorem dX7_glueByLot_12 : decode cX7_glueByLot 12 = .ok (.istore_n 1, 1) := by decide +kernel
theorem dX7_glueByLot_13 : decode cX7_glueByLot 13 = .ok (.iload_n 1, 1) := by decide +kernel
theorem dX7_glueByLot_14 : decode cX7_glueByLot 14 = .ok (.aload_n 0, 1) := by decide +kernel
theorem dX7_glueByLot_15 : decode cX7_glueByLot 15 = .ok (.getfield 19, 3) := by decide +kernel
theorem dX7_glueByLot_18 : decode cX7_glueByLot 18 = .ok (.getfield 199, 3) := by decide +kernel
theorem dX7_glueByLot_21 : decode cX7_glueByLot 21 = .ok (.if_icmp .ge 57, 3) := by decide +kernel
theorem dX7_glueByLot_24 : decode cX7_glueByLot 24 = .ok (.aload_n 0, 1) := by decide +kernel
theorem dX7_glueByLot_25 : decode cX7_glueByLot 25 = .ok (.getfield 19, 3) := by decide +kernel
theorem dX7_glueByLot_28 : decode cX7_glueByLot 28 = .ok (.iload_n 1, 1) := by decide +kernel
theorem dX7_glueByLot_29 : decode cX7_glueByLot 29 = .ok (.invokevirtual 102, 3) := by decide +kernel
theorem dX7_glueByLot_32 : decode cX7_glueByLot 32 = .ok (.astore_n 2, 1) := by decide +kernel
theorem dX7_glueByLot_33 : decode cX7_glueByLot 33 = .ok (.aload_n 2, 1) := by decide +kernel
theorem dX7_glueByLot_34 : decode cX7_glueByLot 34 = .ok (.invokevirtual 161, 3) := by decide +kernel
theorem dX7_glueByLot_37 : decode cX7_glueByLot 37 = .ok (.ifCond .ne 35, 3) := by decide +kernel
theorem dX7_glueByLot_40 : decode cX7_glueByLot 40 = .ok (.aload_n 0, 1) := by decide +kernel
theorem dX7_glueByLot_41 : decode cX7_glueByLot 41 = .ok (.bipush 60, 2) := by decide +kernel
theorem dX7_glueByLot_43 : decode cX7_glueByLot 43 = .ok (.invokevirtual 316, 3) := by decide +kernel
theorem dX7_glueByLot_46 : decode cX7_glueByLot 46 = .ok (.istore_n 3, 1) := by decide +kernel
theorem dX7_glueByLot_47 : decode cX7_glueByLot 47 = .ok (.aload_n 0, 1) := by decide +kernel
theorem dX7_glueByLot_48 : decode cX7_glueByLot 48 = .ok (.iconst 4, 1) := by decide +kernel
theorem dX7_glueByLot_49 : decode cX7_glueByLot 49 = .ok (.invokevirtual 316, 3) := by decide +kernel
theorem dX7_glueByLot_52 : decode cX7_glueByLot 52 = .ok (.istore 4, 2) := by decide +kernel
theorem dX7_glueByLot_54 : decode cX7_glueByLot 54 = .ok (.aload_n 2, 1) := by decide +kernel
theorem dX7_glueByLot_55 : decode cX7_glueByLot 55 = .ok (.aload_n 2, 1) := by decide +kernel
theorem dX7_glueByLot_56 : decode cX7_glueByLot 56 = .ok (.iload_n 3, 1) := by decide +kernel
theorem dX7_glueByLot_57 : decode cX7_glueByLot 57 = .ok (.iload 4, 2) := by decide +kernel
theorem dX7_glueByLot_59 : decode cX7_glueByLot 59 = .ok (.aload_n 0, 1) := by decide +kernel
theorem dX7_glueByLot_60 : decode cX7_glueByLot 60 = .ok (.getfield 19, 3) := by decide +kernel
theorem dX7_glueByLot_63 : decode cX7_glueByLot 63 = .ok (.getfield 115, 3) := by decide +kernel
theorem dX7_glueByLot_66 : decode cX7_glueByLot 66 = .ok (.invokevirtual 168, 3) := by decide +kernel
theorem dX7_glueByLot_69 : decode cX7_glueByLot 69 = .ok (.putfield 112, 3) := by decide +kernel
theorem dX7_glueByLot_72 : decode cX7_glueByLot 72 = .ok (.iinc 1 1, 3) := by decide +kernel
theorem dX7_glueByLot_75 : decode cX7_glueByLot 75 = .ok (.goto (-62), 3) := by decide +kernel
theorem dX7_glueByLot_78 : decode cX7_glueByLot 78 = .ok (.return_, 1) := by decide +kernel
theorem dX7_lots_0 : decode cX7_lots 0 = .ok (.iload_n 1, 1) := by decide +kernel
theorem dX7_lots_1 : decode cX7_lots 1 = .ok (.iconst 1, 1) := by decide +kernel
theorem dX7_lots_2 : decode cX7_lots 2 = .ok (.bipush 20, 2) := by decide +kernel
theorem dX7_lots_4 : decode cX7_lots 4 = .ok (.invokestatic 137, 3) := by decide +kernel
theorem dX7_lots_7 : decode cX7_lots 7 = .ok (.istore 4, 2) := by decide +kernel
theorem dX7_lots_9 : decode cX7_lots 9 = .ok (.iload 4, 2) := by decide +kernel
theorem dX7_lots_11 : decode cX7_lots 11 = .ok (.ifCond .eq 10, 3) := by decide +kernel
theorem dX7_lots_14 : decode cX7_lots 14 = .ok (.aload_n 0, 1) := by decide +kernel
theorem dX7_lots_15 : decode cX7_lots 15 = .ok (.iload 4, 2) := by decide +kernel
theorem dX7_lots_17 : decode cX7_lots 17 = .ok (.invokevirtual 71, 3) := by decide +kernel
theorem dX7_lots_20 : decode cX7_lots 20 = .ok (.ireturn, 1) := by decide +kernel
theorem dX7_lots_21 : decode cX7_lots 21 = .ok (.iload_n 3, 1) := by decide +kernel
theorem dX7_lots_22 : decode cX7_lots 22 = .ok (.invokestatic 177, 3) := by decide +kernel
theorem dX7_lots_25 : decode cX7_lots 25 = .ok (.ifCond .eq 10, 3) := by decide +kernel
theorem dX7_lots_28 : decode cX7_lots 28 = .ok (.aload_n 0, 1) := by decide +kernel
theorem dX7_lots_29 : decode cX7_lots 29 = .ok (.bipush (-2), 2) := by decide +kernel
theorem dX7_lots_31 : decode cX7_lots 31 = .ok (.invokevirtual 71, 3) := by decide +kernel
theorem dX7_lots_34 : decode cX7_lots 34 = .ok (.ireturn, 1) := by decide +kernel
theorem dX7_lots_35 : decode cX7_lots 35 = .ok (.aload_n 0, 1) := by decide +kernel
theorem dX7_lots_36 : decode cX7_lots 36 = .ok (.iload_n 2, 1) := by decide +kernel
theorem dX7_lots_37 : decode cX7_lots 37 = .ok (.putfield 276, 3) := by decide +kernel
theorem dX7_lots_40 : decode cX7_lots 40 = .ok (.iconst 0, 1) := by decide +kernel
theorem dX7_lots_41 : decode cX7_lots 41 = .ok (.istore 5, 2) := by decide +kernel
theorem dX7_lots_43 : decode cX7_lots 43 = .ok (.iconst 0, 1) := by decide +kernel
theorem dX7_lots_44 : decode cX7_lots 44 = .ok (.istore 6, 2) := by decide +kernel
theorem dX7_lots_46 : decode cX7_lots 46 = .ok (.iload 6, 2) := by decide +kernel
theorem dX7_lots_48 : decode cX7_lots 48 = .ok (.iload_n 1, 1) := by decide +kernel
theorem dX7_lots_49 : decode cX7_lots 49 = .ok (.if_icmp .ge 46, 3) := by decide +kernel
theorem dX7_lots_52 : decode cX7_lots 52 = .ok (.aload_n 0, 1) := by decide +kernel
theorem dX7_lots_53 : decode cX7_lots 53 = .ok (.invokevirtual 279, 3) := by decide +kernel
theorem dX7_lots_56 : decode cX7_lots 56 = .ok (.iload 5, 2) := by decide +kernel
theorem dX7_lots_58 : decode cX7_lots 58 = .ok (.iload_n 3, 1) := by decide +kernel
theorem dX7_lots_59 : decode cX7_lots 59 = .ok (.ifCond .ne 20, 3) := by decide +kernel
theorem dX7_lots_62 : decode cX7_lots 62 = .ok (.aload_n 0, 1) := by decide +kernel
theorem dX7_lots_63 : decode cX7_lots 63 = .ok (.getfield 19, 3) := by decide +kernel
theorem dX7_lots_66 : decode cX7_lots 66 = .ok (.aload_n 0, 1) := by decide +kernel
theorem dX7_lots_67 : decode cX7_lots 67 = .ok (.getfield 19, 3) := by decide +kernel
theorem dX7_lots_70 : decode cX7_lots 70 = .ok (.getfield 115, 3) := by decide +kernel
theorem dX7_lots_73 : decode cX7_lots 73 = .ok (.invokevirtual 174, 3) := by decide +kernel
theorem dX7_lots_76 : decode cX7_lots 76 = .ok (.goto 10, 3) := by decide +kernel
theorem dX7_lots_79 : decode cX7_lots 79 = .ok (.aload_n 0, 1) := by decide +kernel
theorem dX7_lots_80 : decode cX7_lots 80 = .ok (.getfield 19, 3) := by decide +kernel
theorem dX7_lots_83 : decode cX7_lots 83 = .ok (.invokevirtual 180, 3) := by decide +kernel
theorem dX7_lots_86 : decode cX7_lots 86 = .ok (.iadd, 1) := by decide +kernel
theorem dX7_lots_87 : decode cX7_lots 87 = .ok (.istore 5, 2) := by decide +kernel
theorem dX7_lots_89 : decode cX7_lots 89 = .ok (.iinc 6 1, 3) := by decide +kernel
theorem dX7_lots_92 : decode cX7_lots 92 = .ok (.goto (-46), 3) := by decide +kernel
theorem dX7_lots_95 : decode cX7_lots 95 = .ok (.iload 5, 2) := by decide +kernel
theorem dX7_lots_97 : decode cX7_lots 97 = .ok (.ireturn, 1) := by decide +kernel
theorem dX7_image_0 : decode cX7_image 0 = .ok (.aload_n 0, 1) := by decide +kernel
theorem dX7_image_1 : decode cX7_image 1 = .ok (.getfield 16, 3) := by decide +kernel
theorem dX7_image_4 : decode cX7_image 4 = .ok (.aload_n 0, 1) := by decide +kernel
theorem dX7_image_5 : decode cX7_image 5 = .ok (.getfield 12, 3) := by decide +kernel
theorem dX7_image_8 : decode cX7_image 8 = .ok (.invokevirtual 94, 3) := by decide +kernel
theorem dX7_image_11 : decode cX7_image 11 = .ok (.aload_n 0, 1) := by decide +kernel
theorem dX7_image_12 : decode cX7_image 12 = .ok (.iconst 1, 1) := by decide +kernel
theorem dX7_image_13 : decode cX7_image 13 = .ok (.putfield 282, 3) := by decide +kernel
theorem dX7_image_16 : decode cX7_image 16 = .ok (.aload_n 0, 1) := by decide +kernel
theorem dX7_image_17 : decode cX7_image 17 = .ok (.getfield 12, 3) := by decide +kernel
theorem dX7_image_20 : decode cX7_image 20 = .ok (.getfield 115, 3) := by decide +kernel
theorem dX7_image_23 : decode cX7_image 23 = .ok (.ireturn, 1) := by decide +kernel
theorem dX7_on_0 : decode cX7_on 0 = .ok (.aload_n 0, 1) := by decide +kernel
theorem dX7_on_1 : decode cX7_on 1 = .ok (.getfield 282, 3) := by decide +kernel
theorem dX7_on_4 : decode cX7_on 4 = .ok (.ifCond .ne 10, 3) := by decide +kernel
theorem dX7_on_7 : decode cX7_on 7 = .ok (.aload_n 0, 1) := by decide +kernel
theorem dX7_on_8 : decode cX7_on 8 = .ok (.bipush (-3), 2) := by decide +kernel
theorem dX7_on_10 : decode cX7_on 10 = .ok (.invokevirtual 71, 3) := by decide +kernel
theorem dX7_on_13 : decode cX7_on 13 = .ok (.ireturn, 1) := by decide +kernel
theorem dX7_on_14 : decode cX7_on 14 = .ok (.aload_n 0, 1) := by decide +kernel
theorem dX7_on_15 : decode cX7_on 15 = .ok (.getfield 12, 3) := by decide +kernel
theorem dX7_on_18 : decode cX7_on 18 = .ok (.aload_n 0, 1) := by decide +kernel
theorem dX7_on_19 : decode cX7_on 19 = .ok (.getfield 16, 3) := by decide +kernel
theorem dX7_on_22 : decode cX7_on 22 = .ok (.invokevirtual 94, 3) := by decide +kernel
theorem dX7_on_25 : decode cX7_on 25 = .ok (.aload_n 0, 1) := by decide +kernel
theorem dX7_on_26 : decode cX7_on 26 = .ok (.getfield 12, 3) := by decide +kernel
theorem dX7_on_29 : decode cX7_on 29 = .ok (.getfield 115, 3) := by decide +kernel
theorem dX7_on_32 : decode cX7_on 32 = .ok (.ireturn, 1) := by decide +kernel
theorem dX7_count_0 : decode cX7_count 0 = .ok (.iload_n 1, 1) := by decide +kernel
theorem dX7_count_1 : decode cX7_count 1 = .ok (.bipush 11, 2) := by decide +kernel
theorem dX7_count_3 : decode cX7_count 3 = .ok (.if_icmp .lt 19, 3) := by decide +kernel
theorem dX7_count_6 : decode cX7_count 6 = .ok (.iload_n 1, 1) := by decide +kernel
theorem dX7_count_7 : decode cX7_count 7 = .ok (.bipush 16, 2) := by decide +kernel
theorem dX7_count_9 : decode cX7_count 9 = .ok (.if_icmp .gt 13, 3) := by decide +kernel
theorem dX7_count_12 : decode cX7_count 12 = .ok (.aload_n 0, 1) := by decide +kernel
theorem dX7_count_13 : decode cX7_count 13 = .ok (.getfield 68, 3) := by decide +kernel
theorem dX7_count_16 : decode cX7_count 16 = .ok (.iload_n 1, 1) := by decide +kernel
theorem dX7_count_17 : decode cX7_count 17 = .ok (.bipush 10, 2) := by decide +kernel
theorem dX7_count_19 : decode cX7_count 19 = .ok (.isub, 1) := by decide +kernel
theorem dX7_count_20 : decode cX7_count 20 = .ok (.iaload, 1) := by decide +kernel
theorem dX7_count_21 : decode cX7_count 21 = .ok (.ireturn, 1) := by decide +kernel
theorem dX7_count_22 : decode cX7_count 22 = .ok (.iload_n 1, 1) := by decide +kernel
theorem dX7_count_23 : decode cX7_count 23 = .ok (.tableswitch 109 0 7 #[45, 53, 61, 69, 77, 85, 93, 101], 45) := by decide +kernel
theorem dX7_count_68 : decode cX7_count 68 = .ok (.aload_n 0, 1) := by decide +kernel
theorem dX7_count_69 : decode cX7_count 69 = .ok (.getfield 12, 3) := by decide +kernel
theorem dX7_count_72 : decode cX7_count 72 = .ok (.getfield 199, 3) := by decide +kernel
theorem dX7_count_75 : decode cX7_count 75 = .ok (.ireturn, 1) := by decide +kernel
theorem dX7_count_76 : decode cX7_count 76 = .ok (.aload_n 0, 1) := by decide +kernel
theorem dX7_count_77 : decode cX7_count 77 = .ok (.getfield 12, 3) := by decide +kernel
theorem dX7_count_80 : decode cX7_count 80 = .ok (.getfield 115, 3) := by decide +kernel
theorem dX7_count_83 : decode cX7_count 83 = .ok (.ireturn, 1) := by decide +kernel
theorem dX7_count_84 : decode cX7_count 84 = .ok (.aload_n 0, 1) := by decide +kernel
theorem dX7_count_85 : decode cX7_count 85 = .ok (.getfield 12, 3) := by decide +kernel
theorem dX7_count_88 : decode cX7_count 88 = .ok (.getfield 151, 3) := by decide +kernel
theorem dX7_count_91 : decode cX7_count 91 = .ok (.ireturn, 1) := by decide +kernel
theorem dX7_count_92 : decode cX7_count 92 = .ok (.aload_n 0, 1) := by decide +kernel
theorem dX7_count_93 : decode cX7_count 93 = .ok (.getfield 12, 3) := by decide +kernel
theorem dX7_count_96 : decode cX7_count 96 = .ok (.getfield 148, 3) := by decide +kernel
theorem dX7_count_99 : decode cX7_count 99 = .ok (.ireturn, 1) := by decide +kernel
theorem dX7_count_100 : decode cX7_count 100 = .ok (.aload_n 0, 1) := by decide +kernel
theorem dX7_count_101 : decode cX7_count 101 = .ok (.getfield 12, 3) := by decide +kernel
theorem dX7_count_104 : decode cX7_count 104 = .ok (.invokevirtual 286, 3) := by decide +kernel
theorem dX7_count_107 : decode cX7_count 107 = .ok (.ireturn, 1) := by decide +kernel
theorem dX7_count_108 : decode cX7_count 108 = .ok (.aload_n 0, 1) := by decide +kernel
theorem dX7_count_109 : decode cX7_count 109 = .ok (.getfield 12, 3) := by decide +kernel
theorem dX7_count_112 : decode cX7_count 112 = .ok (.invokevirtual 289, 3) := by decide +kernel
theorem dX7_count_115 : decode cX7_count 115 = .ok (.ireturn, 1) := by decide +kernel
theorem dX7_count_116 : decode cX7_count 116 = .ok (.aload_n 0, 1) := by decide +kernel
theorem dX7_count_117 : decode cX7_count 117 = .ok (.getfield 39, 3) := by decide +kernel
theorem dX7_count_120 : decode cX7_count 120 = .ok (.getfield 271, 3) := by decide +kernel
theorem dX7_count_123 : decode cX7_count 123 = .ok (.ireturn, 1) := by decide +kernel
theorem dX7_count_124 : decode cX7_count 124 = .ok (.aload_n 0, 1) := by decide +kernel
theorem dX7_count_125 : decode cX7_count 125 = .ok (.getfield 32, 3) := by decide +kernel
theorem dX7_count_128 : decode cX7_count 128 = .ok (.getfield 83, 3) := by decide +kernel
theorem dX7_count_131 : decode cX7_count 131 = .ok (.ireturn, 1) := by decide +kernel
theorem dX7_count_132 : decode cX7_count 132 = .ok (.bipush (-9), 2) := by decide +kernel
theorem dX7_count_134 : decode cX7_count 134 = .ok (.ireturn, 1) := by decide +kernel
theorem dX8_isIn_0 : decode cX8_isIn 0 = .ok (.iload_n 0, 1) := by decide +kernel
theorem dX8_isIn_1 : decode cX8_isIn 1 = .ok (.iload_n 1, 1) := by decide +kernel
theorem dX8_isIn_2 : decode cX8_isIn 2 = .ok (.if_icmp .lt 12, 3) := by decide +kernel
theorem dX8_isIn_5 : decode cX8_isIn 5 = .ok (.iload_n 0, 1) := by decide +kernel
theorem dX8_isIn_6 : decode cX8_isIn 6 = .ok (.iload_n 2, 1) := by decide +kernel
theorem dX8_isIn_7 : decode cX8_isIn 7 = .ok (.if_icmp .gt 7, 3) := by decide +kernel
theorem dX8_isIn_10 : decode cX8_isIn 10 = .ok (.iconst 1, 1) := by decide +kernel
theorem dX8_isIn_11 : decode cX8_isIn 11 = .ok (.goto 4, 3) := by decide +kernel
theorem dX8_isIn_14 : decode cX8_isIn 14 = .ok (.iconst 0, 1) := by decide +kernel
theorem dX8_isIn_15 : decode cX8_isIn 15 = .ok (.ireturn, 1) := by decide +kernel
theorem dX8_least_0 : decode cX8_least 0 = .ok (.iload_n 0, 1) := by decide +kernel
theorem dX8_least_1 : decode cX8_least 1 = .ok (.iload_n 1, 1) := by decide +kernel
theorem dX8_least_2 : decode cX8_least 2 = .ok (.if_icmp .ge 7, 3) := by decide +kernel
theorem dX8_least_5 : decode cX8_least 5 = .ok (.iload_n 0, 1) := by decide +kernel
theorem dX8_least_6 : decode cX8_least 6 = .ok (.goto 4, 3) := by decide +kernel
theorem dX8_least_9 : decode cX8_least 9 = .ok (.iload_n 1, 1) := by decide +kernel
theorem dX8_least_10 : decode cX8_least 10 = .ok (.ireturn, 1) := by decide +kernel
theorem dX8_most_0 : decode cX8_most 0 = .ok (.iload_n 0, 1) := by decide +kernel
theorem dX8_most_1 : decode cX8_most 1 = .ok (.iload_n 1, 1) := by decide +kernel
theorem dX8_most_2 : decode cX8_most 2 = .ok (.if_icmp .le 7, 3) := by decide +kernel
theorem dX8_most_5 : decode cX8_most 5 = .ok (.iload_n 0, 1) := by decide +kernel
theorem dX8_most_6 : decode cX8_most 6 = .ok (.goto 4, 3) := by decide +kernel
theorem dX8_most_9 : decode cX8_most 9 = .ok (.iload_n 1, 1) := by decide +kernel
theorem dX8_most_10 : decode cX8_most 10 = .ok (.ireturn, 1) := by decide +kernel
theorem dX8_lays_0 : decode cX8_lays 0 = .ok (.iconst 0, 1) := by decide +kernel
theorem dX8_lays_1 : decode cX8_lays 1 = .ok (.istore_n 2, 1) := by decide +kernel
theorem dX8_lays_2 : decode cX8_lays 2 = .ok (.iload_n 2, 1) := by decide +kernel
theorem dX8_lays_3 : decode cX8_lays 3 = .ok (.sipush 132, 3) := by decide +kernel
theorem dX8_lays_6 : decode cX8_lays 6 = .ok (.if_icmp .ge 15, 3) := by decide +kernel
theorem dX8_lays_9 : decode cX8_lays 9 = .ok (.aload_n 1, 1) := by decide +kernel
theorem dX8_lays_10 : decode cX8_lays 10 = .ok (.iload_n 2, 1) := by decide +kernel
theorem dX8_lays_11 : decode cX8_lays 11 = .ok (.aload_n 0, 1) := by decide +kernel
theorem dX8_lays_12 : decode cX8_lays 12 = .ok (.iload_n 2, 1) := by decide +kernel
theorem dX8_lays_13 : decode cX8_lays 13 = .ok (.iaload, 1) := by decide +kernel
theorem dX8_lays_14 : decode cX8_lays 14 = .ok (.iastore, 1) := by decide +kernel
theorem dX8_lays_15 : decode cX8_lays 15 = .ok (.iinc 2 1, 3) := by decide +kernel
theorem dX8_lays_18 : decode cX8_lays 18 = .ok (.goto (-16), 3) := by decide +kernel
theorem dX8_lays_21 : decode cX8_lays 21 = .ok (.return_, 1) := by decide +kernel
theorem dX8_no_0 : decode cX8_no 0 = .ok (.aload_n 0, 1) := by decide +kernel
theorem dX8_no_1 : decode cX8_no 1 = .ok (.getfield 28, 3) := by decide +kernel
theorem dX8_no_4 : decode cX8_no 4 = .ok (.iload_n 1, 1) := by decide +kernel
theorem dX8_no_5 : decode cX8_no 5 = .ok (.ineg, 1) := by decide +kernel
theorem dX8_no_6 : decode cX8_no 6 = .ok (.dup2, 1) := by decide +kernel
theorem dX8_no_7 : decode cX8_no 7 = .ok (.iaload, 1) := by decide +kernel
theorem dX8_no_8 : decode cX8_no 8 = .ok (.iconst 1, 1) := by decide +kernel
theorem dX8_no_9 : decode cX8_no 9 = .ok (.iadd, 1) := by decide +kernel
theorem dX8_no_10 : decode cX8_no 10 = .ok (.iastore, 1) := by decide +kernel
theorem dX8_no_11 : decode cX8_no 11 = .ok (.iload_n 1, 1) := by decide +kernel
theorem dX8_no_12 : decode cX8_no 12 = .ok (.ireturn, 1) := by decide +kernel
theorem dX8_noFar_0 : decode cX8_noFar 0 = .ok (.ldc 40, 2) := by decide +kernel
theorem dX8_noFar_2 : decode cX8_noFar 2 = .ok (.aload_n 0, 1) := by decide +kernel
theorem dX8_noFar_3 : decode cX8_noFar 3 = .ok (.iload_n 1, 1) := by decide +kernel
theorem dX8_noFar_4 : decode cX8_noFar 4 = .ok (.invokevirtual 41, 3) := by decide +kernel
theorem dX8_noFar_7 : decode cX8_noFar 7 = .ok (.isub, 1) := by decide +kernel
theorem dX8_noFar_8 : decode cX8_noFar 8 = .ok (.ireturn, 1) := by decide +kernel
theorem dX8_noWide_0 : decode cX8_noWide 0 = .ok (.ldc2_w 45, 3) := by decide +kernel
theorem dX8_noWide_3 : decode cX8_noWide 3 = .ok (.aload_n 0, 1) := by decide +kernel
theorem dX8_noWide_4 : decode cX8_noWide 4 = .ok (.iload_n 1, 1) := by decide +kernel
theorem dX8_noWide_5 : decode cX8_noWide 5 = .ok (.invokevirtual 41, 3) := by decide +kernel
theorem dX8_noWide_8 : decode cX8_noWide 8 = .ok (.i2l, 1) := by decide +kernel
theorem dX8_noWide_9 : decode cX8_noWide 9 = .ok (.lsub, 1) := by decide +kernel
theorem dX8_noWide_10 : decode cX8_noWide 10 = .ok (.lreturn, 1) := by decide +kernel
theorem dX8_isThing_0 : decode cX8_isThing 0 = .ok (.iload_n 1, 1) := by decide +kernel
theorem dX8_isThing_1 : decode cX8_isThing 1 = .ok (.iconst 0, 1) := by decide +kernel
theorem dX8_isThing_2 : decode cX8_isThing 2 = .ok (.aload_n 0, 1) := by decide +kernel
theorem dX8_isThing_3 : decode cX8_isThing 3 = .ok (.getfield 9, 3) := by decide +kernel
theorem dX8_isThing_6 : decode cX8_isThing 6 = .ok (.iconst 0, 1) := by decide +kernel
theorem dX8_isThing_7 : decode cX8_isThing 7 = .ok (.iaload, 1) := by decide +kernel
theorem dX8_isThing_8 : decode cX8_isThing 8 = .ok (.iconst 1, 1) := by decide +kernel
theorem dX8_isThing_9 : decode cX8_isThing 9 = .ok (.isub, 1) := by decide +kernel
theorem dX8_isThing_10 : decode cX8_isThing 10 = .ok (.invokestatic 47, 3) := by decide +kernel
theorem dX8_isThing_13 : decode cX8_isThing 13 = .ok (.ireturn, 1) := by decide +kernel
theorem dX8_isYear_0 : decode cX8_isYear 0 = .ok (.iload_n 0, 1) := by decide +kernel
theorem dX8_isYear_1 : decode cX8_isYear 1 = .ok (.iconst 0, 1) := by decide +kernel
theorem dX8_isYear_2 : decode cX8_isYear 2 = .ok (.bipush 11, 2) := by decide +kernel
theorem dX8_isYear_4 : decode cX8_isYear 4 = .ok (.invokestatic 47, 3) := by decide +kernel
theorem dX8_isYear_7 : decode cX8_isYear 7 = .ok (.ireturn, 1) := by decide +kernel
theorem dX8_at_0 : decode cX8_at 0 = .ok (.bipush 28, 2) := by decide +kernel
theorem dX8_at_2 : decode cX8_at 2 = .ok (.bipush 12, 2) := by decide +kernel
theorem dX8_at_4 : decode cX8_at 4 = .ok (.iload_n 0, 1) := by decide +kernel
theorem dX8_at_5 : decode cX8_at 5 = .ok (.imul, 1) := by decide +kernel
theorem dX8_at_6 : decode cX8_at 6 = .ok (.iadd, 1) := by decide +kernel
theorem dX8_at_7 : decode cX8_at 7 = .ok (.iload_n 1, 1) := by decide +kernel
theorem dX8_at_8 : decode cX8_at 8 = .ok (.iadd, 1) := by decide +kernel
theorem dX8_at_9 : decode cX8_at 9 = .ok (.ireturn, 1) := by decide +kernel
theorem dX8_bits_0 : decode cX8_bits 0 = .ok (.iconst 0, 1) := by decide +kernel
theorem dX8_bits_1 : decode cX8_bits 1 = .ok (.istore_n 1, 1) := by decide +kernel
theorem dX8_bits_2 : decode cX8_bits 2 = .ok (.iconst 0, 1) := by decide +kernel
theorem dX8_bits_3 : decode cX8_bits 3 = .ok (.istore_n 2, 1) := by decide +kernel
theorem dX8_bits_4 : decode cX8_bits 4 = .ok (.iload_n 2, 1) := by decide +kernel
theorem dX8_bits_5 : decode cX8_bits 5 = .ok (.bipush 12, 2) := by decide +kernel
theorem dX8_bits_7 : decode cX8_bits 7 = .ok (.if_icmp .ge 17, 3) := by decide +kernel
theorem dX8_bits_10 : decode cX8_bits 10 = .ok (.iload_n 1, 1) := by decide +kernel
theorem dX8_bits_11 : decode cX8_bits 11 = .ok (.iload_n 0, 1) := by decide +kernel
theorem dX8_bits_12 : decode cX8_bits 12 = .ok (.iload_n 2, 1) := by decide +kernel
theorem dX8_bits_13 : decode cX8_bits 13 = .ok (.ishr, 1) := by decide +kernel
theorem dX8_bits_14 : decode cX8_bits 14 = .ok (.iconst 1, 1) := by decide +kernel
theorem dX8_bits_15 : decode cX8_bits 15 = .ok (.iand, 1) := by decide +kernel
theorem dX8_bits_16 : decode cX8_bits 16 = .ok (.iadd, 1) := by decide +kernel
theorem dX8_bits_17 : decode cX8_bits 17 = .ok (.istore_n 1, 1) := by decide +kernel
theorem dX8_bits_18 : decode cX8_bits 18 = .ok (.iinc 2 1, 3) := by decide +kernel
theorem dX8_bits_21 : decode cX8_bits 21 = .ok (.goto (-17), 3) := by decide +kernel
theorem dX8_bits_24 : decode cX8_bits 24 = .ok (.iload_n 1, 1) := by decide +kernel
theorem dX8_bits_25 : decode cX8_bits 25 = .ok (.ireturn, 1) := by decide +kernel
theorem dX8_cost_0 : decode cX8_cost 0 = .ok (.aload_n 0, 1) := by decide +kernel
theorem dX8_cost_1 : decode cX8_cost 1 = .ok (.iconst 4, 1) := by decide +kernel
theorem dX8_cost_2 : decode cX8_cost 2 = .ok (.iload_n 1, 1) := by decide +kernel
theorem dX8_cost_3 : decode cX8_cost 3 = .ok (.iadd, 1) := by decide +kernel
theorem dX8_cost_4 : decode cX8_cost 4 = .ok (.iaload, 1) := by decide +kernel
theorem dX8_cost_5 : decode cX8_cost 5 = .ok (.iconst 4, 1) := by decide +kernel
theorem dX8_cost_6 : decode cX8_cost 6 = .ok (.if_icmp .ne 14, 3) := by decide +kernel
theorem dX8_cost_9 : decode cX8_cost 9 = .ok (.iconst 1, 1) := by decide +kernel
theorem dX8_cost_10 : decode cX8_cost 10 = .ok (.aload_n 0, 1) := by decide +kernel
theorem dX8_cost_11 : decode cX8_cost 11 = .ok (.bipush 12, 2) := by decide +kernel
theorem dX8_cost_13 : decode cX8_cost 13 = .ok (.iload_n 1, 1) := by decide +kernel
theorem dX8_cost_14 : decode cX8_cost 14 = .ok (.iadd, 1) := by decide +kernel
theorem dX8_cost_15 : decode cX8_cost 15 = .ok (.iaload, 1) := by decide +kernel
theorem dX8_cost_16 : decode cX8_cost 16 = .ok (.iadd, 1) := by decide +kernel
theorem dX8_cost_17 : decode cX8_cost 17 = .ok (.goto 4, 3) := by decide +kernel
theorem dX8_cost_20 : decode cX8_cost 20 = .ok (.iconst 1, 1) := by decide +kernel
theorem dX8_cost_21 : decode cX8_cost 21 = .ok (.ireturn, 1) := by decide +kernel
theorem dX8_reach_0 : decode cX8_reach 0 = .ok (.iconst 0, 1) := by decide +kernel
theorem dX8_reach_1 : decode cX8_reach 1 = .ok (.iload_n 2, 1) := by decide +kernel
theorem dX8_reach_2 : decode cX8_reach 2 = .ok (.iconst 5, 1) := by decide +kernel
theorem dX8_reach_3 : decode cX8_reach 3 = .ok (.idiv, 1) := by decide +kernel
theorem dX8_reach_4 : decode cX8_reach 4 = .ok (.iload_n 3, 1) := by decide +kernel
theorem dX8_reach_5 : decode cX8_reach 5 = .ok (.isub, 1) := by decide +kernel
theorem dX8_reach_6 : decode cX8_reach 6 = .ok (.invokestatic 51, 3) := by decide +kernel
theorem dX8_reach_9 : decode cX8_reach 9 = .ok (.istore 4, 2) := by decide +kernel
theorem dX8_reach_11 : decode cX8_reach 11 = .ok (.aload_n 0, 1) := by decide +kernel
theorem dX8_reach_12 : decode cX8_reach 12 = .ok (.iconst 4, 1) := by decide +kernel
theorem dX8_reach_13 : decode cX8_reach 13 = .ok (.iload_n 1, 1) := by decide +kernel
theorem dX8_reach_14 : decode cX8_reach 14 = .ok (.iadd, 1) := by decide +kernel
theorem dX8_reach_15 : decode cX8_reach 15 = .ok (.iaload, 1) := by decide +kernel
theorem dX8_reach_16 : decode cX8_reach 16 = .ok (.istore 5, 2) := by decide +kernel
theorem dX8_reach_18 : decode cX8_reach 18 = .ok (.iload 5, 2) := by decide +kernel
theorem dX8_reach_20 : decode cX8_reach 20 = .ok (.iconst 2, 1) := by decide +kernel
theorem dX8_reach_21 : decode cX8_reach 21 = .ok (.if_icmp .eq 9, 3) := by decide +kernel
theorem dX8_reach_24 : decode cX8_reach 24 = .ok (.iload 5, 2) := by decide +kernel
theorem dX8_reach_26 : decode cX8_reach 26 = .ok (.iconst 5, 1) := by decide +kernel
theorem dX8_reach_27 : decode cX8_reach 27 = .ok (.if_icmp .ne 15, 3) := by decide +kernel
theorem dX8_reach_30 : decode cX8_reach 30 = .ok (.iload 4, 2) := by decide +kernel
theorem dX8_reach_32 : decode cX8_reach 32 = .ok (.aload_n 0, 1) := by decide +kernel
theorem dX8_reach_33 : decode cX8_reach 33 = .ok (.bipush 12, 2) := by decide +kernel
theorem dX8_reach_35 : decode cX8_reach 35 = .ok (.iload_n 1, 1) := by decide +kernel
theorem dX8_reach_36 : decode cX8_reach 36 = .ok (.iadd, 1) := by decide +kernel
theorem dX8_reach_37 : decode cX8_reach 37 = .ok (.iaload, 1) := by decide +kernel
theorem dX8_reach_38 : decode cX8_reach 38 = .ok (.iadd, 1) := by decide +kernel
theorem dX8_reach_39 : decode cX8_reach 39 = .ok (.goto 18, 3) := by decide +kernel
theorem dX8_reach_42 : decode cX8_reach 42 = .ok (.iload 5, 2) := by decide +kernel
theorem dX8_reach_44 : decode cX8_reach 44 = .ok (.iconst 4, 1) := by decide +kernel
theorem dX8_reach_45 : decode cX8_reach 45 = .ok (.if_icmp .ne 10, 3) := by decide +kernel
theorem dX8_reach_48 : decode cX8_reach 48 = .ok (.iload 4, 2) := by decide +kernel
theorem dX8_reach_50 : decode cX8_reach 50 = .ok (.iconst 2, 1) := by decide +kernel
theorem dX8_reach_51 : decode cX8_reach 51 = .ok (.idiv, 1) := by decide +kernel
theorem dX8_reach_52 : decode cX8_reach 52 = .ok (.goto 5, 3) := by decide +kernel
theorem dX8_reach_55 : decode cX8_reach 55 = .ok (.iload 4, 2) := by decide +kernel
theorem dX8_reach_57 : decode cX8_reach 57 = .ok (.ireturn, 1) := by decide +kernel
theorem dX8_counts_0 : decode cX8_counts 0 = .ok (.aload_n 0, 1) := by decide +kernel
theorem dX8_counts_1 : decode cX8_counts 1 = .ok (.iload_n 1, 1) := by decide +kernel
theorem dX8_counts_2 : decode cX8_counts 2 = .ok (.iload_n 2, 1) := by decide +kernel
theorem dX8_counts_3 : decode cX8_counts 3 = .ok (.invokestatic 55, 3) := by decide +kernel
theorem dX8_counts_6 : decode cX8_counts 6 = .ok (.iaload, 1) := by decide +kernel
theorem dX8_counts_7 : decode cX8_counts 7 = .ok (.istore_n 3, 1) := by decide +kernel
theorem dX8_counts_8 : decode cX8_counts 8 = .ok (.aload_n 0, 1) := by decide +kernel
theorem dX8_counts_9 : decode cX8_counts 9 = .ok (.iconst 4, 1) := by decide +kernel
theorem dX8_counts_10 : decode cX8_counts 10 = .ok (.iload_n 1, 1) := by decide +kernel
theorem dX8_counts_11 : decode cX8_counts 11 = .ok (.iadd, 1) := by decide +kernel
theorem dX8_counts_12 : decode cX8_counts 12 = .ok (.iaload, 1) := by decide +kernel
theorem dX8_counts_13 : decode cX8_counts 13 = .ok (.istore 4, 2) := by decide +kernel
theorem dX8_counts_15 : decode cX8_counts 15 = .ok (.iload 4, 2) := by decide +kernel
theorem dX8_counts_17 : decode cX8_counts 17 = .ok (.iconst 5, 1) := by decide +kernel
theorem dX8_counts_18 : decode cX8_counts 18 = .ok (.if_icmp .ne 8, 3) := by decide +kernel
theorem dX8_counts_21 : decode cX8_counts 21 = .ok (.iload_n 3, 1) := by decide +kernel
theorem dX8_counts_22 : decode cX8_counts 22 = .ok (.ineg, 1) := by decide +kernel
theorem dX8_counts_23 : decode cX8_counts 23 = .ok (.goto 27, 3) := by decide +kernel
theorem dX8_counts_26 : decode cX8_counts 26 = .ok (.iload 4, 2) := by decide +kernel
theorem dX8_counts_28 : decode cX8_counts 28 = .ok (.iconst 3, 1) := by decide +kernel
theorem dX8_counts_29 : decode cX8_counts 29 = .ok (.if_icmp .ne 20, 3) := by decide +kernel
theorem dX8_counts_32 : decode cX8_counts 32 = .ok (.iload_n 3, 1) := by decide +kernel
theorem dX8_counts_33 : decode cX8_counts 33 = .ok (.aload_n 0, 1) := by decide +kernel
theorem dX8_counts_34 : decode cX8_counts 34 = .ok (.bipush 12, 2) := by decide +kernel
theorem dX8_counts_36 : decode cX8_counts 36 = .ok (.iload_n 1, 1) := by decide +kernel
theorem dX8_counts_37 : decode cX8_counts 37 = .ok (.iadd, 1) := by decide +kernel
theorem dX8_counts_38 : decode cX8_counts 38 = .ok (.iaload, 1) := by decide +kernel
theorem dX8_counts_39 : decode cX8_counts 39 = .ok (.aload_n 0, 1) := by decide +kernel
theorem dX8_counts_40 : decode cX8_counts 40 = .ok (.iconst 1, 1) := by decide +kernel
theorem dX8_counts_41 : decode cX8_counts 41 = .ok (.iaload, 1) := by decide +kernel
theorem dX8_counts_42 : decode cX8_counts 42 = .ok (.iload_n 2, 1) := by decide +kernel
theorem dX8_counts_43 : decode cX8_counts 43 = .ok (.isub, 1) := by decide +kernel
theorem dX8_counts_44 : decode cX8_counts 44 = .ok (.imul, 1) := by decide +kernel
theorem dX8_counts_45 : decode cX8_counts 45 = .ok (.isub, 1) := by decide +kernel
theorem dX8_counts_46 : decode cX8_counts 46 = .ok (.goto 4, 3) := by decide +kernel
theorem dX8_counts_49 : decode cX8_counts 49 = .ok (.iload_n 3, 1) := by decide +kernel
theorem dX8_counts_50 : decode cX8_counts 50 = .ok (.ireturn, 1) := by decide +kernel
theorem dX8_yearBy_0 : decode cX8_yearBy 0 = .ok (.aload_n 0, 1) := by decide +kernel
theorem dX8_yearBy_1 : decode cX8_yearBy 1 = .ok (.iconst 4, 1) := by decide +kernel
theorem dX8_yearBy_2 : decode cX8_yearBy 2 = .ok (.iload_n 1, 1) := by decide +kernel
theorem dX8_yearBy_3 : decode cX8_yearBy 3 = .ok (.iadd, 1) := by decide +kernel
theorem dX8_yearBy_4 : decode cX8_yearBy 4 = .ok (.iaload, 1) := by decide +kernel
theorem dX8_yearBy_5 : decode cX8_yearBy 5 = .ok (.iconst 1, 1) := by decide +kernel
theorem dX8_yearBy_6 : decode cX8_yearBy 6 = .ok (.if_icmp .eq 12, 3) := by decide +kernel
theorem dX8_yearBy_9 : decode cX8_yearBy 9 = .ok (.aload_n 0, 1) := by decide +kernel
theorem dX8_yearBy_10 : decode cX8_yearBy 10 = .ok (.iconst 4, 1) := by decide +kernel
theorem dX8_yearBy_11 : decode cX8_yearBy 11 = .ok (.iload_n 1, 1) := by decide +kernel
theorem dX8_yearBy_12 : decode cX8_yearBy 12 = .ok (.iadd, 1) := by decide +kernel
theorem dX8_yearBy_13 : decode cX8_yearBy 13 = .ok (.iaload, 1) := by decide +kernel
theorem dX8_yearBy_14 : decode cX8_yearBy 14 = .ok (.iconst 3, 1) := by decide +kernel
theorem dX8_yearBy_15 : decode cX8_yearBy 15 = .ok (.if_icmp .ne 7, 3) := by decide +kernel
theorem dX8_yearBy_18 : decode cX8_yearBy 18 = .ok (.iconst 1, 1) := by decide +kernel
theorem dX8_yearBy_19 : decode cX8_yearBy 19 = .ok (.goto 4, 3) := by decide +kernel
theorem dX8_yearBy_22 : decode cX8_yearBy 22 = .ok (.iconst 0, 1) := by decide +kernel
theorem dX8_yearBy_23 : decode cX8_yearBy 23 = .ok (.istore_n 3, 1) := by decide +kernel
theorem dX8_yearBy_24 : decode cX8_yearBy 24 = .ok (.aload_n 0, 1) := by decide +kernel
theorem dX8_yearBy_25 : decode cX8_yearBy 25 = .ok (.iconst 1, 1) := by decide +kernel
theorem dX8_yearBy_26 : decode cX8_yearBy 26 = .ok (.iaload, 1) := by decide +kernel
theorem dX8_yearBy_27 : decode cX8_yearBy 27 = .ok (.istore 4, 2) := by decide +kernel
theorem dX8_yearBy_29 : decode cX8_yearBy 29 = .ok (.aload_n 0, 1) := by decide +kernel
theorem dX8_yearBy_30 : decode cX8_yearBy 30 = .ok (.iconst 1, 1) := by decide +kernel
theorem dX8_yearBy_31 : decode cX8_yearBy 31 = .ok (.iaload, 1) := by decide +kernel
theorem dX8_yearBy_32 : decode cX8_yearBy 32 = .ok (.iconst 1, 1) := by decide +kernel
theorem dX8_yearBy_33 : decode cX8_yearBy 33 = .ok (.isub, 1) := by decide +kernel
theorem dX8_yearBy_34 : decode cX8_yearBy 34 = .ok (.istore 5, 2) := by decide +kernel
theorem dX8_yearBy_36 : decode cX8_yearBy 36 = .ok (.iload 5, 2) := by decide +kernel
theorem dX8_yearBy_38 : decode cX8_yearBy 38 = .ok (.ifCond .lt 54, 3) := by decide +kernel
theorem dX8_yearBy_41 : decode cX8_yearBy 41 = .ok (.iload 5, 2) := by decide +kernel
theorem dX8_yearBy_43 : decode cX8_yearBy 43 = .ok (.aload_n 0, 1) := by decide +kernel
theorem dX8_yearBy_44 : decode cX8_yearBy 44 = .ok (.iconst 1, 1) := by decide +kernel
theorem dX8_yearBy_45 : decode cX8_yearBy 45 = .ok (.iaload, 1) := by decide +kernel
theorem dX8_yearBy_46 : decode cX8_yearBy 46 = .ok (.iload_n 2, 1) := by decide +kernel
theorem dX8_yearBy_47 : decode cX8_yearBy 47 = .ok (.isub, 1) := by decide +kernel
theorem dX8_yearBy_48 : decode cX8_yearBy 48 = .ok (.if_icmp .lt 44, 3) := by decide +kernel
theorem dX8_yearBy_51 : decode cX8_yearBy 51 = .ok (.aload_n 0, 1) := by decide +kernel
theorem dX8_yearBy_52 : decode cX8_yearBy 52 = .ok (.iload_n 1, 1) := by decide +kernel
theorem dX8_yearBy_53 : decode cX8_yearBy 53 = .ok (.iload 5, 2) := by decide +kernel
theorem dX8_yearBy_55 : decode cX8_yearBy 55 = .ok (.invokestatic 58, 3) := by decide +kernel
theorem dX8_yearBy_58 : decode cX8_yearBy 58 = .ok (.aload_n 0, 1) := by decide +kernel
theorem dX8_yearBy_59 : decode cX8_yearBy 59 = .ok (.iload_n 1, 1) := by decide +kernel
theorem dX8_yearBy_60 : decode cX8_yearBy 60 = .ok (.iload 4, 2) := by decide +kernel
theorem dX8_yearBy_62 : decode cX8_yearBy 62 = .ok (.invokestatic 58, 3) := by decide +kernel
theorem dX8_yearBy_65 : decode cX8_yearBy 65 = .ok (.isub, 1) := by decide +kernel
theorem dX8_yearBy_66 : decode cX8_yearBy 66 = .ok (.istore 6, 2) := by decide +kernel
theorem dX8_yearBy_68 : decode cX8_yearBy 68 = .ok (.iload 6, 2) := by decide +kernel
theorem dX8_yearBy_70 : decode cX8_yearBy 70 = .ok (.ifCond .gt 12, 3) := by decide +kernel
theorem dX8_yearBy_73 : decode cX8_yearBy 73 = .ok (.iload 6, 2) := by decide +kernel
theorem dX8_yearBy_75 : decode cX8_yearBy 75 = .ok (.ifCond .ne 11, 3) := by decide +kernel
theorem dX8_yearBy_78 : decode cX8_yearBy 78 = .ok (.iload_n 3, 1) := by decide +kernel
theorem dX8_yearBy_79 : decode cX8_yearBy 79 = .ok (.ifCond .eq 7, 3) := by decide +kernel
theorem dX8_yearBy_82 : decode cX8_yearBy 82 = .ok (.iload 5, 2) := by decide +kernel
theorem dX8_yearBy_84 : decode cX8_yearBy 84 = .ok (.istore 4, 2) := by decide +kernel
theorem dX8_yearBy_86 : decode cX8_yearBy 86 = .ok (.iinc 5 (-1), 3) := by decide +kernel
theorem dX8_yearBy_89 : decode cX8_yearBy 89 = .ok (.goto (-53), 3) := by decide +kernel
theorem dX8_yearBy_92 : decode cX8_yearBy 92 = .ok (.iload 4, 2) := by decide +kernel
theorem dX8_yearBy_94 : decode cX8_yearBy 94 = .ok (.ireturn, 1) := by decide +kernel
theorem dX8_yearOf_0 : decode cX8_yearOf 0 = .ok (.aload_n 0, 1) := by decide +kernel
theorem dX8_yearOf_1 : decode cX8_yearOf 1 = .ok (.iload_n 1, 1) := by decide +kernel
theorem dX8_yearOf_2 : decode cX8_yearOf 2 = .ok (.aload_n 0, 1) := by decide +kernel
theorem dX8_yearOf_3 : decode cX8_yearOf 3 = .ok (.iload_n 1, 1) := by decide +kernel
theorem dX8_yearOf_4 : decode cX8_yearOf 4 = .ok (.iload_n 2, 1) := by decide +kernel
theorem dX8_yearOf_5 : decode cX8_yearOf 5 = .ok (.iload_n 3, 1) := by decide +kernel
theorem dX8_yearOf_6 : decode cX8_yearOf 6 = .ok (.invokestatic 62, 3) := by decide +kernel
theorem dX8_yearOf_9 : decode cX8_yearOf 9 = .ok (.invokestatic 66, 3) := by decide +kernel
theorem dX8_yearOf_12 : decode cX8_yearOf 12 = .ok (.ireturn, 1) := by decide +kernel
theorem dX8_gladOf_0 : decode cX8_gladOf 0 = .ok (.aload_n 0, 1) := by decide +kernel
theorem dX8_gladOf_1 : decode cX8_gladOf 1 = .ok (.iload_n 1, 1) := by decide +kernel
theorem dX8_gladOf_2 : decode cX8_gladOf 2 = .ok (.aload_n 0, 1) := by decide +kernel
theorem dX8_gladOf_3 : decode cX8_gladOf 3 = .ok (.bipush 20, 2) := by decide +kernel
theorem dX8_gladOf_5 : decode cX8_gladOf 5 = .ok (.iload_n 1, 1) := by decide +kernel
theorem dX8_gladOf_6 : decode cX8_gladOf 6 = .ok (.iadd, 1) := by decide +kernel
theorem dX8_gladOf_7 : decode cX8_gladOf 7 = .ok (.iaload, 1) := by decide +kernel
theorem dX8_gladOf_8 : decode cX8_gladOf 8 = .ok (.ifCond .ge 9, 3) := by decide +kernel
theorem dX8_gladOf_11 : decode cX8_gladOf 11 = .ok (.aload_n 0, 1) := by decide +kernel
theorem dX8_gladOf_12 : decode cX8_gladOf 12 = .ok (.iconst 1, 1) := by decide +kernel
theorem dX8_gladOf_13 : decode cX8_gladOf 13 = .ok (.iaload, 1) := by decide +kernel
theorem dX8_gladOf_14 : decode cX8_gladOf 14 = .ok (.goto 9, 3) := by decide +kernel
theorem dX8_gladOf_17 : decode cX8_gladOf 17 = .ok (.aload_n 0, 1) := by decide +kernel
theorem dX8_gladOf_18 : decode cX8_gladOf 18 = .ok (.bipush 20, 2) := by decide +kernel
theorem dX8_gladOf_20 : decode cX8_gladOf 20 = .ok (.iload_n 1, 1) := by decide +kernel
theorem dX8_gladOf_21 : decode cX8_gladOf 21 = .ok (.iadd, 1) := by decide +kernel
theorem dX8_gladOf_22 : decode cX8_gladOf 22 = .ok (.iaload, 1) := by decide +kernel
theorem dX8_gladOf_23 : decode cX8_gladOf 23 = .ok (.invokestatic 55, 3) := by decide +kernel
theorem dX8_gladOf_26 : decode cX8_gladOf 26 = .ok (.iaload, 1) := by decide +kernel
theorem dX8_gladOf_27 : decode cX8_gladOf 27 = .ok (.ireturn, 1) := by decide +kernel
theorem dX8_gladAll_0 : decode cX8_gladAll 0 = .ok (.iconst 0, 1) := by decide +kernel
theorem dX8_gladAll_1 : decode cX8_gladAll 1 = .ok (.istore_n 1, 1) := by decide +kernel
theorem dX8_gladAll_2 : decode cX8_gladAll 2 = .ok (.iconst 0, 1) := by decide +kernel
theorem dX8_gladAll_3 : decode cX8_gladAll 3 = .ok (.istore_n 2, 1) := by decide +kernel
theorem dX8_gladAll_4 : decode cX8_gladAll 4 = .ok (.iload_n 2, 1) := by decide +kernel
theorem dX8_gladAll_5 : decode cX8_gladAll 5 = .ok (.aload_n 0, 1) := by decide +kernel
theorem dX8_gladAll_6 : decode cX8_gladAll 6 = .ok (.iconst 0, 1) := by decide +kernel
theorem dX8_gladAll_7 : decode cX8_gladAll 7 = .ok (.iaload, 1) := by decide +kernel
theorem dX8_gladAll_8 : decode cX8_gladAll 8 = .ok (.if_icmp .ge 17, 3) := by decide +kernel
theorem dX8_gladAll_11 : decode cX8_gladAll 11 = .ok (.iload_n 1, 1) := by decide +kernel
theorem dX8_gladAll_12 : decode cX8_gladAll 12 = .ok (.aload_n 0, 1) := by decide +kernel
theorem dX8_gladAll_13 : decode cX8_gladAll 13 = .ok (.iload_n 2, 1) := by decide +kernel
theorem dX8_gladAll_14 : decode cX8_gladAll 14 = .ok (.invokestatic 69, 3) := by decide +kernel
theorem dX8_gladAll_17 : decode cX8_gladAll 17 = .ok (.iadd, 1) := by decide +kernel
theorem dX8_gladAll_18 : decode cX8_gladAll 18 = .ok (.istore_n 1, 1) := by decide +kernel
theorem dX8_gladAll_19 : decode cX8_gladAll 19 = .ok (.iinc 2 1, 3) := by decide +kernel
theorem dX8_gladAll_22 : decode cX8_gladAll 22 = .ok (.goto (-18), 3) := by decide +kernel
theorem dX8_gladAll_25 : decode cX8_gladAll 25 = .ok (.iload_n 1, 1) := by decide +kernel
theorem dX8_gladAll_26 : decode cX8_gladAll 26 = .ok (.ireturn, 1) := by decide +kernel
theorem dX8_fewestOf_0 : decode cX8_fewestOf 0 = .ok (.iconst 0, 1) := by decide +kernel
theorem dX8_fewestOf_1 : decode cX8_fewestOf 1 = .ok (.istore_n 3, 1) := by decide +kernel
theorem dX8_fewestOf_2 : decode cX8_fewestOf 2 = .ok (.iload_n 3, 1) := by decide +kernel
theorem dX8_fewestOf_3 : decode cX8_fewestOf 3 = .ok (.bipush 99, 2) := by decide +kernel
theorem dX8_fewestOf_5 : decode cX8_fewestOf 5 = .ok (.if_icmp .gt 22, 3) := by decide +kernel
theorem dX8_fewestOf_8 : decode cX8_fewestOf 8 = .ok (.aload_n 0, 1) := by decide +kernel
theorem dX8_fewestOf_9 : decode cX8_fewestOf 9 = .ok (.iload_n 1, 1) := by decide +kernel
theorem dX8_fewestOf_10 : decode cX8_fewestOf 10 = .ok (.iload_n 3, 1) := by decide +kernel
theorem dX8_fewestOf_11 : decode cX8_fewestOf 11 = .ok (.iconst 0, 1) := by decide +kernel
theorem dX8_fewestOf_12 : decode cX8_fewestOf 12 = .ok (.invokestatic 73, 3) := by decide +kernel
theorem dX8_fewestOf_15 : decode cX8_fewestOf 15 = .ok (.iload_n 2, 1) := by decide +kernel
theorem dX8_fewestOf_16 : decode cX8_fewestOf 16 = .ok (.if_icmp .ne 5, 3) := by decide +kernel
theorem dX8_fewestOf_19 : decode cX8_fewestOf 19 = .ok (.iload_n 3, 1) := by decide +kernel
theorem dX8_fewestOf_20 : decode cX8_fewestOf 20 = .ok (.ireturn, 1) := by decide +kernel
theorem dX8_fewestOf_21 : decode cX8_fewestOf 21 = .ok (.iinc 3 1, 3) := by decide +kernel
theorem dX8_fewestOf_24 : decode cX8_fewestOf 24 = .ok (.goto (-22), 3) := by decide +kernel
theorem dX8_fewestOf_27 : decode cX8_fewestOf 27 = .ok (.bipush (-9), 2) := by decide +kernel
theorem dX8_fewestOf_29 : decode cX8_fewestOf 29 = .ok (.ireturn, 1) := by decide +kernel
theorem dX8_letter_0 : decode cX8_letter 0 = .ok (.iload_n 1, 1) := by decide +kernel
theorem dX8_letter_1 : decode cX8_letter 1 = .ok (.ifCond .ge 10, 3) := by decide +kernel
theorem dX8_letter_4 : decode cX8_letter 4 = .ok (.aload_n 0, 1) := by decide +kernel
theorem dX8_letter_5 : decode cX8_letter 5 = .ok (.bipush (-4), 2) := by decide +kernel
theorem dX8_letter_7 : decode cX8_letter 7 = .ok (.invokevirtual 41, 3) := by decide +kernel
theorem dX8_letter_10 : decode cX8_letter 10 = .ok (.ireturn, 1) := by decide +kernel
theorem dX8_letter_11 : decode cX8_letter 11 = .ok (.iload_n 1, 1) := by decide +kernel
theorem dX8_letter_12 : decode cX8_letter 12 = .ok (.sipush 255, 3) := by decide +kernel
theorem dX8_letter_15 : decode cX8_letter 15 = .ok (.if_icmp .gt 12, 3) := by decide +kernel
theorem dX8_letter_18 : decode cX8_letter 18 = .ok (.aload_n 0, 1) := by decide +kernel
theorem dX8_letter_19 : decode cX8_letter 19 = .ok (.getfield 76, 3) := by decide +kernel
theorem dX8_letter_22 : decode cX8_letter 22 = .ok (.bipush 96, 2) := by decide +kernel
theorem dX8_letter_24 : decode cX8_letter 24 = .ok (.if_icmp .ne 10, 3) := by decide +kernel
theorem dX8_letter_27 : decode cX8_letter 27 = .ok (.aload_n 0, 1) := by decide +kernel
theorem dX8_letter_28 : decode cX8_letter 28 = .ok (.bipush (-6), 2) := by decide +kernel
theorem dX8_letter_30 : decode cX8_letter 30 = .ok (.invokevirtual 41, 3) := by decide +kernel
theorem dX8_letter_33 : decode cX8_letter 33 = .ok (.ireturn, 1) := by decide +kernel
theorem dX8_letter_34 : decode cX8_letter 34 = .ok (.aload_n 0, 1) := by decide +kernel
theorem dX8_letter_35 : decode cX8_letter 35 = .ok (.getfield 22, 3) := by decide +kernel
theorem dX8_letter_38 : decode cX8_letter 38 = .ok (.aload_n 0, 1) := by decide +kernel
theorem dX8_letter_39 : decode cX8_letter 39 = .ok (.getfield 76, 3) := by decide +kernel
theorem dX8_letter_42 : decode cX8_letter 42 = .ok (.iload_n 1, 1) := by decide +kernel
theorem dX8_letter_43 : decode cX8_letter 43 = .ok (.iastore, 1) := by decide +kernel
theorem dX8_letter_44 : decode cX8_letter 44 = .ok (.aload_n 0, 1) := by decide +kernel
theorem dX8_letter_45 : decode cX8_letter 45 = .ok (.dup, 1) := by decide +kernel
theorem dX8_letter_46 : decode cX8_letter 46 = .ok (.getfield 76, 3) := by decide +kernel
theorem dX8_letter_49 : decode cX8_letter 49 = .ok (.iconst 1, 1) := by decide +kernel
theorem dX8_letter_50 : decode cX8_letter 50 = .ok (.iadd, 1) := by decide +kernel
theorem dX8_letter_51 : decode cX8_letter 51 = .ok (.putfield 76, 3) := by decide +kernel
theorem dX8_letter_54 : decode cX8_letter 54 = .ok (.aload_n 0, 1) := by decide +kernel
theorem dX8_letter_55 : decode cX8_letter 55 = .ok (.getfield 76, 3) := by decide +kernel
theorem dX8_letter_58 : decode cX8_letter 58 = .ok (.ireturn, 1) := by decide +kernel
theorem dX8_here_0 : decode cX8_here 0 = .ok (.aload_n 0, 1) := by decide +kernel
theorem dX8_here_1 : decode cX8_here 1 = .ok (.getfield 80, 3) := by decide +kernel
theorem dX8_here_4 : decode cX8_here 4 = .ok (.aload_n 0, 1) := by decide +kernel
theorem dX8_here_5 : decode cX8_here 5 = .ok (.getfield 76, 3) := by decide +kernel
theorem dX8_here_8 : decode cX8_here 8 = .ok (.if_icmp .ge 15, 3) := by decide +kernel
theorem dX8_here_11 : decode cX8_here 11 = .ok (.aload_n 0, 1) := by decide +kernel
theorem dX8_here_12 : decode cX8_here 12 = .ok (.getfield 22, 3) := by decide +kernel
theorem dX8_here_15 : decode cX8_here 15 = .ok (.aload_n 0, 1) := by decide +kernel
theorem dX8_here_16 : decode cX8_here 16 = .ok (.getfield 80, 3) := by decide +kernel
theorem dX8_here_19 : decode cX8_here 19 = .ok (.iaload, 1) := by decide +kernel
theorem dX8_here_20 : decode cX8_here 20 = .ok (.goto 4, 3) := by decide +kernel
theorem dX8_here_23 : decode cX8_here 23 = .ok (.iconst (-1), 1) := by decide +kernel
theorem dX8_here_24 : decode cX8_here 24 = .ok (.ireturn, 1) := by decide +kernel
theorem dX8_readsNumber_0 : decode cX8_readsNumber 0 = .ok (.aload_n 0, 1) := by decide +kernel
theorem dX8_readsNumber_1 : decode cX8_readsNumber 1 = .ok (.getfield 31, 3) := by decide +kernel
theorem dX8_readsNumber_4 : decode cX8_readsNumber 4 = .ok (.iload_n 1, 1) := by decide +kernel
theorem dX8_readsNumber_5 : decode cX8_readsNumber 5 = .ok (.iconst 0, 1) := by decide +kernel
theorem dX8_readsNumber_6 : decode cX8_readsNumber 6 = .ok (.iastore, 1) := by decide +kernel
theorem dX8_readsNumber_7 : decode cX8_readsNumber 7 = .ok (.iconst 0, 1) := by decide +kernel
theorem dX8_readsNumber_8 : decode cX8_readsNumber 8 = .ok (.istore_n 3, 1) := by decide +kernel
theorem dX8_readsNumber_9 : decode cX8_readsNumber 9 = .ok (.iload_n 3, 1) := by decide +kernel
theorem dX8_readsNumber_10 : decode cX8_readsNumber 10 = .ok (.iload_n 2, 1) := by decide +kernel
theorem dX8_readsNumber_11 : decode cX8_readsNumber 11 = .ok (.if_icmp .ge 58, 3) := by decide +kernel
theorem dX8_readsNumber_14 : decode cX8_readsNumber 14 = .ok (.aload_n 0, 1) := by decide +kernel
theorem dX8_readsNumber_15 : decode cX8_readsNumber 15 = .ok (.invokevirtual 83, 3) := by decide +kernel
theorem dX8_readsNumber_18 : decode cX8_readsNumber 18 = .ok (.bipush 48, 2) := by decide +kernel
theorem dX8_readsNumber_20 : decode cX8_readsNumber 20 = .ok (.bipush 57, 2) := by decide +kernel
theorem dX8_readsNumber_22 : decode cX8_readsNumber 22 = .ok (.invokestatic 47, 3) := by decide +kernel
theorem dX8_readsNumber_25 : decode cX8_readsNumber 25 = .ok (.ifCond .ne 5, 3) := by decide +kernel
theorem dX8_readsNumber_28 : decode cX8_readsNumber 28 = .ok (.iconst 0, 1) := by decide +kernel
theorem dX8_readsNumber_29 : decode cX8_readsNumber 29 = .ok (.ireturn, 1) := by decide +kernel
theorem dX8_readsNumber_30 : decode cX8_readsNumber 30 = .ok (.aload_n 0, 1) := by decide +kernel
theorem dX8_readsNumber_31 : decode cX8_readsNumber 31 = .ok (.getfield 31, 3) := by decide +kernel
theorem dX8_readsNumber_34 : decode cX8_readsNumber 34 = .ok (.iload_n 1, 1) := by decide +kernel
theorem dX8_readsNumber_35 : decode cX8_readsNumber 35 = .ok (.bipush 10, 2) := by decide +kernel
theorem dX8_readsNumber_37 : decode cX8_readsNumber 37 = .ok (.aload_n 0, 1) := by decide +kernel
theorem dX8_readsNumber_38 : decode cX8_readsNumber 38 = .ok (.getfield 31, 3) := by decide +kernel
theorem dX8_readsNumber_41 : decode cX8_readsNumber 41 = .ok (.iload_n 1, 1) := by decide +kernel
theorem dX8_readsNumber_42 : decode cX8_readsNumber 42 = .ok (.iaload, 1) := by decide +kernel
theorem dX8_readsNumber_43 : decode cX8_readsNumber 43 = .ok (.imul, 1) := by decide +kernel
theorem dX8_readsNumber_44 : decode cX8_readsNumber 44 = .ok (.aload_n 0, 1) := by decide +kernel
theorem dX8_readsNumber_45 : decode cX8_readsNumber 45 = .ok (.invokevirtual 83, 3) := by decide +kernel
theorem dX8_readsNumber_48 : decode cX8_readsNumber 48 = .ok (.iadd, 1) := by decide +kernel
theorem dX8_readsNumber_49 : decode cX8_readsNumber 49 = .ok (.bipush 48, 2) := by decide +kernel
theorem dX8_readsNumber_51 : decode cX8_readsNumber 51 = .ok (.isub, 1) := by decide +kernel
theorem dX8_readsNumber_52 : decode cX8_readsNumber 52 = .ok (.iastore, 1) := by decide +kernel
theorem dX8_readsNumber_53 : decode cX8_readsNumber 53 = .ok (.aload_n 0, 1) := by decide +kernel
theorem dX8_readsNumber_54 : decode cX8_readsNumber 54 = .ok (.dup, 1) := by decide +kernel
theorem dX8_readsNumber_55 : decode cX8_readsNumber 55 = .ok (.getfield 80, 3) := by decide +kernel
theorem dX8_readsNumber_58 : decode cX8_readsNumber 58 = .ok (.iconst 1, 1) := by decide +kernel
theorem dX8_readsNumber_59 : decode cX8_readsNumber 59 = .ok (.iadd, 1) := by decide +kernel
theorem dX8_readsNumber_60 : decode cX8_readsNumber 60 = .ok (.putfield 80, 3) := by decide +kernel
theorem dX8_readsNumber_63 : decode cX8_readsNumber 63 = .ok (.iinc 3 1, 3) := by decide +kernel
theorem dX8_readsNumber_66 : decode cX8_readsNumber 66 = .ok (.goto (-57), 3) := by decide +kernel
theorem dX8_readsNumber_69 : decode cX8_readsNumber 69 = .ok (.iconst 1, 1) := by decide +kernel
theorem dX8_readsNumber_70 : decode cX8_readsNumber 70 = .ok (.ireturn, 1) := by decide +kernel
theorem dX8_kindBy_0 : decode cX8_kindBy 0 = .ok (.iload_n 0, 1) := by decide +kernel
theorem dX8_kindBy_1 : decode cX8_kindBy 1 = .ok (.lookupswitch 71 #[(99, 61), (100, 63), (102, 67), (112, 65), (116, 59), (119, 69)], 59) := by decide +kernel
theorem dX8_kindBy_60 : decode cX8_kindBy 60 = .ok (.iconst 0, 1) := by decide +kernel
theorem dX8_kindBy_61 : decode cX8_kindBy 61 = .ok (.ireturn, 1) := by decide +kernel
theorem dX8_kindBy_62 : decode cX8_kindBy 62 = .ok (.iconst 1, 1) := by decide +kernel
theorem dX8_kindBy_63 : decode cX8_kindBy 63 = .ok (.ireturn, 1) := by decide +kernel
theorem dX8_kindBy_64 : decode cX8_kindBy 64 = .ok (.iconst 2, 1) := by decide +kernel
theorem dX8_kindBy_65 : decode cX8_kindBy 65 = .ok (.ireturn, 1) := by decide +kernel
theorem dX8_kindBy_66 : decode cX8_kindBy 66 = .ok (.iconst 3, 1) := by decide +kernel
theorem dX8_kindBy_67 : decode cX8_kindBy 67 = .ok (.ireturn, 1) := by decide +kernel
theorem dX8_kindBy_68 : decode cX8_kindBy 68 = .ok (.iconst 4, 1) := by decide +kernel
theorem dX8_kindBy_69 : decode cX8_kindBy 69 = .ok (.ireturn, 1) := by decide +kernel
theorem dX8_kindBy_70 : decode cX8_kindBy 70 = .ok (.iconst 5, 1) := by decide +kernel
theorem dX8_kindBy_71 : decode cX8_kindBy 71 = .ok (.ireturn, 1) := by decide +kernel
theorem dX8_kindBy_72 : decode cX8_kindBy 72 = .ok (.bipush (-9), 2) := by decide +kernel
theorem dX8_kindBy_74 : decode cX8_kindBy 74 = .ok (.ireturn, 1) := by decide +kernel
theorem dX8_readsKind_0 : decode cX8_readsKind 0 = .ok (.aload_n 0, 1) := by decide +kernel
theorem dX8_readsKind_1 : decode cX8_readsKind 1 = .ok (.getfield 31, 3) := by decide +kernel
theorem dX8_readsKind_4 : decode cX8_readsKind 4 = .ok (.iconst 0, 1) := by decide +kernel
theorem dX8_readsKind_5 : decode cX8_readsKind 5 = .ok (.aload_n 0, 1) := by decide +kernel
theorem dX8_readsKind_6 : decode cX8_readsKind 6 = .ok (.invokevirtual 83, 3) := by decide +kernel
theorem dX8_readsKind_9 : decode cX8_readsKind 9 = .ok (.invokestatic 87, 3) := by decide +kernel
theorem dX8_readsKind_12 : decode cX8_readsKind 12 = .ok (.iastore, 1) := by decide +kernel
theorem dX8_readsKind_13 : decode cX8_readsKind 13 = .ok (.aload_n 0, 1) := by decide +kernel
theorem dX8_readsKind_14 : decode cX8_readsKind 14 = .ok (.dup, 1) := by decide +kernel
theorem dX8_readsKind_15 : decode cX8_readsKind 15 = .ok (.getfield 80, 3) := by decide +kernel
theorem dX8_readsKind_18 : decode cX8_readsKind 18 = .ok (.aload_n 0, 1) := by decide +kernel
theorem dX8_readsKind_19 : decode cX8_readsKind 19 = .ok (.getfield 31, 3) := by decide +kernel
theorem dX8_readsKind_22 : decode cX8_readsKind 22 = .ok (.iconst 0, 1) := by decide +kernel
theorem dX8_readsKind_23 : decode cX8_readsKind 23 = .ok (.iaload, 1) := by decide +kernel
theorem dX8_readsKind_24 : decode cX8_readsKind 24 = .ok (.ifCond .ge 7, 3) := by decide +kernel
theorem dX8_readsKind_27 : decode cX8_readsKind 27 = .ok (.iconst 0, 1) := by decide +kernel
theorem dX8_readsKind_28 : decode cX8_readsKind 28 = .ok (.goto 4, 3) := by decide +kernel
theorem dX8_readsKind_31 : decode cX8_readsKind 31 = .ok (.iconst 1, 1) := by decide +kernel
theorem dX8_readsKind_32 : decode cX8_readsKind 32 = .ok (.iadd, 1) := by decide +kernel
theorem dX8_readsKind_33 : decode cX8_readsKind 33 = .ok (.putfield 80, 3) := by decide +kernel
theorem dX8_readsKind_36 : decode cX8_readsKind 36 = .ok (.aload_n 0, 1) := by decide +kernel
theorem dX8_readsKind_37 : decode cX8_readsKind 37 = .ok (.getfield 31, 3) := by decide +kernel
theorem dX8_readsKind_40 : decode cX8_readsKind 40 = .ok (.iconst 0, 1) := by decide +kernel
theorem dX8_readsKind_41 : decode cX8_readsKind 41 = .ok (.iaload, 1) := by decide +kernel
theorem dX8_readsKind_42 : decode cX8_readsKind 42 = .ok (.ifCond .lt 7, 3) := by decide +kernel
theorem dX8_readsKind_45 : decode cX8_readsKind 45 = .ok (.iconst 1, 1) := by decide +kernel
theorem dX8_readsKind_46 : decode cX8_readsKind 46 = .ok (.goto 4, 3) := by decide +kernel
theorem dX8_readsKind_49 : decode cX8_readsKind 49 = .ok (.iconst 0, 1) := by decide +kernel
theorem dX8_readsKind_50 : decode cX8_readsKind 50 = .ok (.ireturn, 1) := by decide +kernel
theorem dX8_readsStatement_0 : decode cX8_readsStatement 0 = .ok (.aload_n 0, 1) := by decide +kernel
theorem dX8_readsStatement_1 : decode cX8_readsStatement 1 = .ok (.invokevirtual 83, 3) := by decide +kernel
theorem dX8_readsStatement_4 : decode cX8_readsStatement 4 = .ok (.istore_n 1, 1) := by decide +kernel
theorem dX8_readsStatement_5 : decode cX8_readsStatement 5 = .ok (.aload_n 0, 1) := by decide +kernel
theorem dX8_readsStatement_6 : decode cX8_readsStatement 6 = .ok (.dup, 1) := by decide +kernel
theorem dX8_readsStatement_7 : decode cX8_readsStatement 7 = .ok (.getfield 80, 3) := by decide +kernel
theorem dX8_readsStatement_10 : decode cX8_readsStatement 10 = .ok (.iconst 1, 1) := by decide +kernel
theorem dX8_readsStatement_11 : decode cX8_readsStatement 11 = .ok (.iadd, 1) := by decide +kernel
theorem dX8_readsStatement_12 : decode cX8_readsStatement 12 = .ok (.putfield 80, 3) := by decide +kernel
theorem dX8_readsStatement_15 : decode cX8_readsStatement 15 = .ok (.iload_n 1, 1) := by decide +kernel
theorem dX8_readsStatement_16 : decode cX8_readsStatement 16 = .ok (.tableswitch 295 100 121 #[222, 295, 295, 129, 232, 295, 295, 295, 295, 295, 295, 295, 295, 295, 295, 259, 104, 295, 177, 295, 295, 222], 104) := by decide +kernel
theorem dX8_readsStatement_120 : decode cX8_readsStatement 120 = .ok (.aload_n 0, 1) := by decide +kernel
theorem dX8_readsStatement_121 : decode cX8_readsStatement 121 = .ok (.invokevirtual 90, 3) := by decide +kernel
theorem dX8_readsStatement_124 : decode cX8_readsStatement 124 = .ok (.ifCond .eq 16, 3) := by decide +kernel
theorem dX8_readsStatement_127 : decode cX8_readsStatement 127 = .ok (.aload_n 0, 1) := by decide +kernel
theorem dX8_readsStatement_128 : decode cX8_readsStatement 128 = .ok (.iconst 1, 1) := by decide +kernel
theorem dX8_readsStatement_129 : decode cX8_readsStatement 129 = .ok (.iconst 1, 1) := by decide +kernel
theorem dX8_readsStatement_130 : decode cX8_readsStatement 130 = .ok (.invokevirtual 94, 3) := by decide +kernel
theorem dX8_readsStatement_133 : decode cX8_readsStatement 133 = .ok (.ifCond .eq 7, 3) := by decide +kernel
theorem dX8_readsStatement_136 : decode cX8_readsStatement 136 = .ok (.iconst 1, 1) := by decide +kernel
theorem dX8_readsStatement_137 : decode cX8_readsStatement 137 = .ok (.goto 4, 3) := by decide +kernel
theorem dX8_readsStatement_140 : decode cX8_readsStatement 140 = .ok (.iconst 0, 1) := by decide +kernel
theorem dX8_readsStatement_141 : decode cX8_readsStatement 141 = .ok (.istore_n 2, 1) := by decide +kernel
theorem dX8_readsStatement_142 : decode cX8_readsStatement 142 = .ok (.goto 181, 3) := by decide +kernel
theorem dX8_readsStatement_145 : decode cX8_readsStatement 145 = .ok (.aload_n 0, 1) := by decide +kernel
theorem dX8_readsStatement_146 : decode cX8_readsStatement 146 = .ok (.iconst 0, 1) := by decide +kernel
theorem dX8_readsStatement_147 : decode cX8_readsStatement 147 = .ok (.iconst 1, 1) := by decide +kernel
theorem dX8_readsStatement_148 : decode cX8_readsStatement 148 = .ok (.invokevirtual 94, 3) := by decide +kernel
theorem dX8_readsStatement_151 : decode cX8_readsStatement 151 = .ok (.ifCond .eq 25, 3) := by decide +kernel
theorem dX8_readsStatement_154 : decode cX8_readsStatement 154 = .ok (.aload_n 0, 1) := by decide +kernel
theorem dX8_readsStatement_155 : decode cX8_readsStatement 155 = .ok (.iconst 1, 1) := by decide +kernel
theorem dX8_readsStatement_156 : decode cX8_readsStatement 156 = .ok (.iconst 2, 1) := by decide +kernel
theorem dX8_readsStatement_157 : decode cX8_readsStatement 157 = .ok (.invokevirtual 94, 3) := by decide +kernel
theorem dX8_readsStatement_160 : decode cX8_readsStatement 160 = .ok (.ifCond .eq 16, 3) := by decide +kernel
theorem dX8_readsStatement_163 : decode cX8_readsStatement 163 = .ok (.aload_n 0, 1) := by decide +kernel
theorem dX8_readsStatement_164 : decode cX8_readsStatement 164 = .ok (.iconst 3, 1) := by decide +kernel
theorem dX8_readsStatement_165 : decode cX8_readsStatement 165 = .ok (.iconst 2, 1) := by decide +kernel
theorem dX8_readsStatement_166 : decode cX8_readsStatement 166 = .ok (.invokevirtual 94, 3) := by decide +kernel
theorem dX8_readsStatement_169 : decode cX8_readsStatement 169 = .ok (.ifCond .eq 7, 3) := by decide +kernel
theorem dX8_readsStatement_172 : decode cX8_readsStatement 172 = .ok (.iconst 1, 1) := by decide +kernel
theorem dX8_readsStatement_173 : decode cX8_readsStatement 173 = .ok (.goto 4, 3) := by decide +kernel
theorem dX8_readsStatement_176 : decode cX8_readsStatement 176 = .ok (.iconst 0, 1) := by decide +kernel
theorem dX8_readsStatement_177 : decode cX8_readsStatement 177 = .ok (.istore_n 2, 1) := by decide +kernel
theorem dX8_readsStatement_178 : decode cX8_readsStatement 178 = .ok (.aload_n 0, 1) := by decide +kernel
theorem dX8_readsStatement_179 : decode cX8_readsStatement 179 = .ok (.getfield 31, 3) := by decide +kernel
theorem dX8_readsStatement_182 : decode cX8_readsStatement 182 = .ok (.iconst 2, 1) := by decide +kernel
theorem dX8_readsStatement_183 : decode cX8_readsStatement 183 = .ok (.aload_n 0, 1) := by decide +kernel
theorem dX8_readsStatement_184 : decode cX8_readsStatement 184 = .ok (.getfield 31, 3) := by decide +kernel
theorem dX8_readsStatement_187 : decode cX8_readsStatement 187 = .ok (.iconst 1, 1) := by decide +kernel
theorem dX8_readsStatement_188 : decode cX8_readsStatement 188 = .ok (.iaload, 1) := by decide +kernel
theorem dX8_readsStatement_189 : decode cX8_readsStatement 189 = .ok (.iastore, 1) := by decide +kernel
theorem dX8_readsStatement_190 : decode cX8_readsStatement 190 = .ok (.goto 133, 3) := by decide +kernel
theorem dX8_readsStatement_193 : decode cX8_readsStatement 193 = .ok (.aload_n 0, 1) := by decide +kernel
theorem dX8_readsStatement_194 : decode cX8_readsStatement 194 = .ok (.iconst 0, 1) := by decide +kernel
theorem dX8_readsStatement_195 : decode cX8_readsStatement 195 = .ok (.iconst 1, 1) := by decide +kernel
theorem dX8_readsStatement_196 : decode cX8_readsStatement 196 = .ok (.invokevirtual 94, 3) := by decide +kernel
theorem dX8_readsStatement_199 : decode cX8_readsStatement 199 = .ok (.ifCond .eq 34, 3) := by decide +kernel
theorem dX8_readsStatement_202 : decode cX8_readsStatement 202 = .ok (.aload_n 0, 1) := by decide +kernel
theorem dX8_readsStatement_203 : decode cX8_readsStatement 203 = .ok (.iconst 1, 1) := by decide +kernel
theorem dX8_readsStatement_204 : decode cX8_readsStatement 204 = .ok (.iconst 2, 1) := by decide +kernel
theorem dX8_readsStatement_205 : decode cX8_readsStatement 205 = .ok (.invokevirtual 94, 3) := by decide +kernel
theorem dX8_readsStatement_208 : decode cX8_readsStatement 208 = .ok (.ifCond .eq 25, 3) := by decide +kernel
theorem dX8_readsStatement_211 : decode cX8_readsStatement 211 = .ok (.aload_n 0, 1) := by decide +kernel
theorem dX8_readsStatement_212 : decode cX8_readsStatement 212 = .ok (.iconst 2, 1) := by decide +kernel
theorem dX8_readsStatement_213 : decode cX8_readsStatement 213 = .ok (.iconst 2, 1) := by decide +kernel
theorem dX8_readsStatement_214 : decode cX8_readsStatement 214 = .ok (.invokevirtual 94, 3) := by decide +kernel
theorem dX8_readsStatement_217 : decode cX8_readsStatement 217 = .ok (.ifCond .eq 16, 3) := by decide +kernel
theorem dX8_readsStatement_220 : decode cX8_readsStatement 220 = .ok (.aload_n 0, 1) := by decide +kernel
theorem dX8_readsStatement_221 : decode cX8_readsStatement 221 = .ok (.iconst 3, 1) := by decide +kernel
theorem dX8_readsStatement_222 : decode cX8_readsStatement 222 = .ok (.iconst 2, 1) := by decide +kernel
theorem dX8_readsStatement_223 : decode cX8_readsStatement 223 = .ok (.invokevirtual 94, 3) := by decide +kernel
theorem dX8_readsStatement_226 : decode cX8_readsStatement 226 = .ok (.ifCond .eq 7, 3) := by decide +kernel
theorem dX8_readsStatement_229 : decode cX8_readsStatement 229 = .ok (.iconst 1, 1) := by decide +kernel
theorem dX8_readsStatement_230 : decode cX8_readsStatement 230 = .ok (.goto 4, 3) := by decide +kernel
theorem dX8_readsStatement_233 : decode cX8_readsStatement 233 = .ok (.iconst 0, 1) := by decide +kernel
theorem dX8_readsStatement_234 : decode cX8_readsStatement 234 = .ok (.istore_n 2, 1) := by decide +kernel
theorem dX8_readsStatement_235 : decode cX8_readsStatement 235 = .ok (.goto 88, 3) := by decide +kernel
theorem dX8_readsStatement_238 : decode cX8_readsStatement 238 = .ok (.aload_n 0, 1) := by decide +kernel
theorem dX8_readsStatement_239 : decode cX8_readsStatement 239 = .ok (.iconst 0, 1) := by decide +kernel
theorem dX8_readsStatement_240 : decode cX8_readsStatement 240 = .ok (.iconst 2, 1) := by decide +kernel
theorem dX8_readsStatement_241 : decode cX8_readsStatement 241 = .ok (.invokevirtual 94, 3) := by decide +kernel
theorem dX8_readsStatement_244 : decode cX8_readsStatement 244 = .ok (.istore_n 2, 1) := by decide +kernel
theorem dX8_readsStatement_245 : decode cX8_readsStatement 245 = .ok (.goto 78, 3) := by decide +kernel
theorem dX8_readsStatement_248 : decode cX8_readsStatement 248 = .ok (.aload_n 0, 1) := by decide +kernel
theorem dX8_readsStatement_249 : decode cX8_readsStatement 249 = .ok (.iconst 0, 1) := by decide +kernel
theorem dX8_readsStatement_250 : decode cX8_readsStatement 250 = .ok (.iconst 1, 1) := by decide +kernel
theorem dX8_readsStatement_251 : decode cX8_readsStatement 251 = .ok (.invokevirtual 94, 3) := by decide +kernel
theorem dX8_readsStatement_254 : decode cX8_readsStatement 254 = .ok (.ifCond .eq 16, 3) := by decide +kernel
theorem dX8_readsStatement_257 : decode cX8_readsStatement 257 = .ok (.aload_n 0, 1) := by decide +kernel
theorem dX8_readsStatement_258 : decode cX8_readsStatement 258 = .ok (.iconst 1, 1) := by decide +kernel
theorem dX8_readsStatement_259 : decode cX8_readsStatement 259 = .ok (.iconst 1, 1) := by decide +kernel
theorem dX8_readsStatement_260 : decode cX8_readsStatement 260 = .ok (.invokevirtual 94, 3) := by decide +kernel
theorem dX8_readsStatement_263 : decode cX8_readsStatement 263 = .ok (.ifCond .eq 7, 3) := by decide +kernel
theorem dX8_readsStatement_266 : decode cX8_readsStatement 266 = .ok (.iconst 1, 1) := by decide +kernel
theorem dX8_readsStatement_267 : decode cX8_readsStatement 267 = .ok (.goto 4, 3) := by decide +kernel
theorem dX8_readsStatement_270 : decode cX8_readsStatement 270 = .ok (.iconst 0, 1) := by decide +kernel
theorem dX8_readsStatement_271 : decode cX8_readsStatement 271 = .ok (.istore_n 2, 1) := by decide +kernel
theorem dX8_readsStatement_272 : decode cX8_readsStatement 272 = .ok (.goto 51, 3) := by decide +kernel
theorem dX8_readsStatement_275 : decode cX8_readsStatement 275 = .ok (.aload_n 0, 1) := by decide +kernel
theorem dX8_readsStatement_276 : decode cX8_readsStatement 276 = .ok (.iconst 0, 1) := by decide +kernel
theorem dX8_readsStatement_277 : decode cX8_readsStatement 277 = .ok (.iconst 1, 1) := by decide +kernel
theorem dX8_readsStatement_278 : decode cX8_readsStatement 278 = .ok (.invokevirtual 94, 3) := by decide +kernel
theorem dX8_readsStatement_281 : decode cX8_readsStatement 281 = .ok (.ifCond .eq 25, 3) := by decide +kernel
theorem dX8_readsStatement_284 : decode cX8_readsStatement 284 = .ok (.aload_n 0, 1) := by decide +kernel
theorem dX8_readsStatement_285 : decode cX8_readsStatement 285 = .ok (.iconst 1, 1) := by decide +kernel
theorem dX8_readsStatement_286 : decode cX8_readsStatement 286 = .ok (.iconst 2, 1) := by decide +kernel
theorem dX8_readsStatement_287 : decode cX8_readsStatement 287 = .ok (.invokevirtual 94, 3) := by decide +kernel
theorem dX8_readsStatement_290 : decode cX8_readsStatement 290 = .ok (.ifCond .eq 16, 3) := by decide +kernel
theorem dX8_readsStatement_293 : decode cX8_readsStatement 293 = .ok (.aload_n 0, 1) := by decide +kernel
theorem dX8_readsStatement_294 : decode cX8_readsStatement 294 = .ok (.iconst 2, 1) := by decide +kernel
theorem dX8_readsStatement_295 : decode cX8_readsStatement 295 = .ok (.iconst 1, 1) := by decide +kernel
theorem dX8_readsStatement_296 : decode cX8_readsStatement 296 = .ok (.invokevirtual 94, 3) := by decide +kernel
theorem dX8_readsStatement_299 : decode cX8_readsStatement 299 = .ok (.ifCond .eq 7, 3) := by decide +kernel
theorem dX8_readsStatement_302 : decode cX8_readsStatement 302 = .ok (.iconst 1, 1) := by decide +kernel
theorem dX8_readsStatement_303 : decode cX8_readsStatement 303 = .ok (.goto 4, 3) := by decide +kernel
theorem dX8_readsStatement_306 : decode cX8_readsStatement 306 = .ok (.iconst 0, 1) := by decide +kernel
theorem dX8_readsStatement_307 : decode cX8_readsStatement 307 = .ok (.istore_n 2, 1) := by decide +kernel
theorem dX8_readsStatement_308 : decode cX8_readsStatement 308 = .ok (.goto 15, 3) := by decide +kernel
theorem dX8_readsStatement_311 : decode cX8_readsStatement 311 = .ok (.aload_n 0, 1) := by decide +kernel
theorem dX8_readsStatement_312 : decode cX8_readsStatement 312 = .ok (.dup, 1) := by decide +kernel
theorem dX8_readsStatement_313 : decode cX8_readsStatement 313 = .ok (.getfield 80, 3) := by decide +kernel
theorem dX8_readsStatement_316 : decode cX8_readsStatement 316 = .ok (.iconst 1, 1) := by decide +kernel
theorem dX8_readsStatement_317 : decode cX8_readsStatement 317 = .ok (.isub, 1) := by decide +kernel
theorem dX8_readsStatement_318 : decode cX8_readsStatement 318 = .ok (.putfield 80, 3) := by decide +kernel
theorem dX8_readsStatement_321 : decode cX8_readsStatement 321 = .ok (.iconst 0, 1) := by decide +kernel
theorem dX8_readsStatement_322 : decode cX8_readsStatement 322 = .ok (.ireturn, 1) := by decide +kernel
theorem dX8_readsStatement_323 : decode cX8_readsStatement 323 = .ok (.iload_n 2, 1) := by decide +kernel
theorem dX8_readsStatement_324 : decode cX8_readsStatement 324 = .ok (.ifCond .eq 12, 3) := by decide +kernel
theorem dX8_readsStatement_327 : decode cX8_readsStatement 327 = .ok (.aload_n 0, 1) := by decide +kernel
theorem dX8_readsStatement_328 : decode cX8_readsStatement 328 = .ok (.invokevirtual 83, 3) := by decide +kernel
theorem dX8_readsStatement_331 : decode cX8_readsStatement 331 = .ok (.bipush 59, 2) := by decide +kernel
theorem dX8_readsStatement_333 : decode cX8_readsStatement 333 = .ok (.if_icmp .eq 5, 3) := by decide +kernel
theorem dX8_readsStatement_336 : decode cX8_readsStatement 336 = .ok (.iconst 0, 1) := by decide +kernel
theorem dX8_readsStatement_337 : decode cX8_readsStatement 337 = .ok (.ireturn, 1) := by decide +kernel
theorem dX8_readsStatement_338 : decode cX8_readsStatement 338 = .ok (.aload_n 0, 1) := by decide +kernel
theorem dX8_readsStatement_339 : decode cX8_readsStatement 339 = .ok (.dup, 1) := by decide +kernel
theorem dX8_readsStatement_340 : decode cX8_readsStatement 340 = .ok (.getfield 80, 3) := by decide +kernel
theorem dX8_readsStatement_343 : decode cX8_readsStatement 343 = .ok (.iconst 1, 1) := by decide +kernel
theorem dX8_readsStatement_344 : decode cX8_readsStatement 344 = .ok (.iadd, 1) := by decide +kernel
theorem dX8_readsStatement_345 : decode cX8_readsStatement 345 = .ok (.putfield 80, 3) := by decide +kernel
theorem dX8_readsStatement_348 : decode cX8_readsStatement 348 = .ok (.iconst 1, 1) := by decide +kernel
theorem dX8_readsStatement_349 : decode cX8_readsStatement 349 = .ok (.ireturn, 1) := by decide +kernel
theorem dX8_turnsHalves_0 : decode cX8_turnsHalves 0 = .ok (.aload_n 0, 1) := by decide +kernel
theorem dX8_turnsHalves_1 : decode cX8_turnsHalves 1 = .ok (.getfield 9, 3) := by decide +kernel
theorem dX8_turnsHalves_4 : decode cX8_turnsHalves 4 = .ok (.bipush 124, 2) := by decide +kernel
theorem dX8_turnsHalves_6 : decode cX8_turnsHalves 6 = .ok (.iload_n 1, 1) := by decide +kernel
theorem dX8_turnsHalves_7 : decode cX8_turnsHalves 7 = .ok (.iadd, 1) := by decide +kernel
theorem dX8_turnsHalves_8 : decode cX8_turnsHalves 8 = .ok (.dup2, 1) := by decide +kernel
theorem dX8_turnsHalves_9 : decode cX8_turnsHalves 9 = .ok (.iaload, 1) := by decide +kernel
theorem dX8_turnsHalves_10 : decode cX8_turnsHalves 10 = .ok (.iconst 1, 1) := by decide +kernel
theorem dX8_turnsHalves_11 : decode cX8_turnsHalves 11 = .ok (.iload_n 2, 1) := by decide +kernel
theorem dX8_turnsHalves_12 : decode cX8_turnsHalves 12 = .ok (.ishl, 1) := by decide +kernel
theorem dX8_turnsHalves_13 : decode cX8_turnsHalves 13 = .ok (.ixor, 1) := by decide +kernel
theorem dX8_turnsHalves_14 : decode cX8_turnsHalves 14 = .ok (.iastore, 1) := by decide +kernel
theorem dX8_turnsHalves_15 : decode cX8_turnsHalves 15 = .ok (.aload_n 0, 1) := by decide +kernel
theorem dX8_turnsHalves_16 : decode cX8_turnsHalves 16 = .ok (.getfield 9, 3) := by decide +kernel
theorem dX8_turnsHalves_19 : decode cX8_turnsHalves 19 = .ok (.bipush 124, 2) := by decide +kernel
theorem dX8_turnsHalves_21 : decode cX8_turnsHalves 21 = .ok (.iload_n 2, 1) := by decide +kernel
theorem dX8_turnsHalves_22 : decode cX8_turnsHalves 22 = .ok (.iadd, 1) := by decide +kernel
theorem dX8_turnsHalves_23 : decode cX8_turnsHalves 23 = .ok (.dup2, 1) := by decide +kernel
theorem dX8_turnsHalves_24 : decode cX8_turnsHalves 24 = .ok (.iaload, 1) := by decide +kernel
theorem dX8_turnsHalves_25 : decode cX8_turnsHalves 25 = .ok (.iconst 1, 1) := by decide +kernel
theorem dX8_turnsHalves_26 : decode cX8_turnsHalves 26 = .ok (.iload_n 1, 1) := by decide +kernel
theorem dX8_turnsHalves_27 : decode cX8_turnsHalves 27 = .ok (.ishl, 1) := by decide +kernel
theorem dX8_turnsHalves_28 : decode cX8_turnsHalves 28 = .ok (.ixor, 1) := by decide +kernel
theorem dX8_turnsHalves_29 : decode cX8_turnsHalves 29 = .ok (.iastore, 1) := by decide +kernel
theorem dX8_turnsHalves_30 : decode cX8_turnsHalves 30 = .ok (.return_, 1) := by decide +kernel
theorem dX8_canGlue_0 : decode cX8_canGlue 0 = .ok (.aload_n 0, 1) := by decide +kernel
theorem dX8_canGlue_1 : decode cX8_canGlue 1 = .ok (.getfield 9, 3) := by decide +kernel
theorem dX8_canGlue_4 : decode cX8_canGlue 4 = .ok (.bipush 20, 2) := by decide +kernel
theorem dX8_canGlue_6 : decode cX8_canGlue 6 = .ok (.iload_n 1, 1) := by decide +kernel
theorem dX8_canGlue_7 : decode cX8_canGlue 7 = .ok (.iadd, 1) := by decide +kernel
theorem dX8_canGlue_8 : decode cX8_canGlue 8 = .ok (.iaload, 1) := by decide +kernel
theorem dX8_canGlue_9 : decode cX8_canGlue 9 = .ok (.ifCond .ge 24, 3) := by decide +kernel
theorem dX8_canGlue_12 : decode cX8_canGlue 12 = .ok (.aload_n 0, 1) := by decide +kernel
theorem dX8_canGlue_13 : decode cX8_canGlue 13 = .ok (.getfield 9, 3) := by decide +kernel
theorem dX8_canGlue_16 : decode cX8_canGlue 16 = .ok (.iconst 2, 1) := by decide +kernel
theorem dX8_canGlue_17 : decode cX8_canGlue 17 = .ok (.iaload, 1) := by decide +kernel
theorem dX8_canGlue_18 : decode cX8_canGlue 18 = .ok (.aload_n 0, 1) := by decide +kernel
theorem dX8_canGlue_19 : decode cX8_canGlue 19 = .ok (.getfield 9, 3) := by decide +kernel
theorem dX8_canGlue_22 : decode cX8_canGlue 22 = .ok (.iload_n 1, 1) := by decide +kernel
theorem dX8_canGlue_23 : decode cX8_canGlue 23 = .ok (.invokestatic 98, 3) := by decide +kernel
theorem dX8_canGlue_26 : decode cX8_canGlue 26 = .ok (.if_icmp .lt 7, 3) := by decide +kernel
theorem dX8_canGlue_29 : decode cX8_canGlue 29 = .ok (.iconst 1, 1) := by decide +kernel
theorem dX8_canGlue_30 : decode cX8_canGlue 30 = .ok (.goto 4, 3) := by decide +kernel
theorem dX8_canGlue_33 : decode cX8_canGlue 33 = .ok (.iconst 0, 1) := by decide +kernel
theorem dX8_canGlue_34 : decode cX8_canGlue 34 = .ok (.ireturn, 1) := by decide +kernel
theorem dX8_gluesTo_0 : decode cX8_gluesTo 0 = .ok (.aload_n 0, 1) := by decide +kernel
theorem dX8_gluesTo_1 : decode cX8_gluesTo 1 = .ok (.getfield 9, 3) := by decide +kernel
theorem dX8_gluesTo_4 : decode cX8_gluesTo 4 = .ok (.bipush 20, 2) := by decide +kernel
theorem dX8_gluesTo_6 : decode cX8_gluesTo 6 = .ok (.iload_n 1, 1) := by decide +kernel
theorem dX8_gluesTo_7 : decode cX8_gluesTo 7 = .ok (.iadd, 1) := by decide +kernel
theorem dX8_gluesTo_8 : decode cX8_gluesTo 8 = .ok (.aload_n 0, 1) := by decide +kernel
theorem dX8_gluesTo_9 : decode cX8_gluesTo 9 = .ok (.getfield 9, 3) := by decide +kernel
theorem dX8_gluesTo_12 : decode cX8_gluesTo 12 = .ok (.iload_n 1, 1) := by decide +kernel
theorem dX8_gluesTo_13 : decode cX8_gluesTo 13 = .ok (.iload_n 2, 1) := by decide +kernel
theorem dX8_gluesTo_14 : decode cX8_gluesTo 14 = .ok (.iload_n 3, 1) := by decide +kernel
theorem dX8_gluesTo_15 : decode cX8_gluesTo 15 = .ok (.invokestatic 73, 3) := by decide +kernel
theorem dX8_gluesTo_18 : decode cX8_gluesTo 18 = .ok (.iastore, 1) := by decide +kernel
theorem dX8_gluesTo_19 : decode cX8_gluesTo 19 = .ok (.aload_n 0, 1) := by decide +kernel
theorem dX8_gluesTo_20 : decode cX8_gluesTo 20 = .ok (.getfield 9, 3) := by decide +kernel
theorem dX8_gluesTo_23 : decode cX8_gluesTo 23 = .ok (.iconst 2, 1) := by decide +kernel
theorem dX8_gluesTo_24 : decode cX8_gluesTo 24 = .ok (.dup2, 1) := by decide +kernel
theorem dX8_gluesTo_25 : decode cX8_gluesTo 25 = .ok (.iaload, 1) := by decide +kernel
theorem dX8_gluesTo_26 : decode cX8_gluesTo 26 = .ok (.aload_n 0, 1) := by decide +kernel
theorem dX8_gluesTo_27 : decode cX8_gluesTo 27 = .ok (.getfield 9, 3) := by decide +kernel
theorem dX8_gluesTo_30 : decode cX8_gluesTo 30 = .ok (.iload_n 1, 1) := by decide +kernel
theorem dX8_gluesTo_31 : decode cX8_gluesTo 31 = .ok (.invokestatic 98, 3) := by decide +kernel
theorem dX8_gluesTo_34 : decode cX8_gluesTo 34 = .ok (.isub, 1) := by decide +kernel
theorem dX8_gluesTo_35 : decode cX8_gluesTo 35 = .ok (.iastore, 1) := by decide +kernel
theorem dX8_gluesTo_36 : decode cX8_gluesTo 36 = .ok (.aload_n 0, 1) := by decide +kernel
theorem dX8_gluesTo_37 : decode cX8_gluesTo 37 = .ok (.getfield 9, 3) := by decide +kernel
theorem dX8_gluesTo_40 : decode cX8_gluesTo 40 = .ok (.bipush 20, 2) := by decide +kernel
theorem dX8_gluesTo_42 : decode cX8_gluesTo 42 = .ok (.iload_n 1, 1) := by decide +kernel
theorem dX8_gluesTo_43 : decode cX8_gluesTo 43 = .ok (.iadd, 1) := by decide +kernel
theorem dX8_gluesTo_44 : decode cX8_gluesTo 44 = .ok (.iaload, 1) := by decide +kernel
theorem dX8_gluesTo_45 : decode cX8_gluesTo 45 = .ok (.ireturn, 1) := by decide +kernel
theorem dX8_isDone_0 : decode cX8_isDone 0 = .ok (.aload_n 0, 1) := by decide +kernel
theorem dX8_isDone_1 : decode cX8_isDone 1 = .ok (.getfield 31, 3) := by decide +kernel
theorem dX8_isDone_4 : decode cX8_isDone 4 = .ok (.iconst 0, 1) := by decide +kernel
theorem dX8_isDone_5 : decode cX8_isDone 5 = .ok (.iaload, 1) := by decide +kernel
theorem dX8_isDone_6 : decode cX8_isDone 6 = .ok (.istore_n 2, 1) := by decide +kernel
theorem dX8_isDone_7 : decode cX8_isDone 7 = .ok (.aload_n 0, 1) := by decide +kernel
theorem dX8_isDone_8 : decode cX8_isDone 8 = .ok (.getfield 31, 3) := by decide +kernel
theorem dX8_isDone_11 : decode cX8_isDone 11 = .ok (.iconst 1, 1) := by decide +kernel
theorem dX8_isDone_12 : decode cX8_isDone 12 = .ok (.iaload, 1) := by decide +kernel
theorem dX8_isDone_13 : decode cX8_isDone 13 = .ok (.istore_n 3, 1) := by decide +kernel
theorem dX8_isDone_14 : decode cX8_isDone 14 = .ok (.iload_n 1, 1) := by decide +kernel
theorem dX8_isDone_15 : decode cX8_isDone 15 = .ok (.lookupswitch 298 #[(100, 289), (103, 175), (104, 258), (116, 57), (118, 175), (121, 246)], 57) := by decide +kernel
theorem dX8_isDone_72 : decode cX8_isDone 72 = .ok (.aload_n 0, 1) := by decide +kernel
theorem dX8_isDone_73 : decode cX8_isDone 73 = .ok (.getfield 9, 3) := by decide +kernel
theorem dX8_isDone_76 : decode cX8_isDone 76 = .ok (.iconst 0, 1) := by decide +kernel
theorem dX8_isDone_77 : decode cX8_isDone 77 = .ok (.iaload, 1) := by decide +kernel
theorem dX8_isDone_78 : decode cX8_isDone 78 = .ok (.bipush 8, 2) := by decide +kernel
theorem dX8_isDone_80 : decode cX8_isDone 80 = .ok (.if_icmp .ne 5, 3) := by decide +kernel
theorem dX8_isDone_83 : decode cX8_isDone 83 = .ok (.iconst 0, 1) := by decide +kernel
theorem dX8_isDone_84 : decode cX8_isDone 84 = .ok (.ireturn, 1) := by decide +kernel
theorem dX8_isDone_85 : decode cX8_isDone 85 = .ok (.aload_n 0, 1) := by decide +kernel
theorem dX8_isDone_86 : decode cX8_isDone 86 = .ok (.getfield 9, 3) := by decide +kernel
theorem dX8_isDone_89 : decode cX8_isDone 89 = .ok (.iconst 4, 1) := by decide +kernel
theorem dX8_isDone_90 : decode cX8_isDone 90 = .ok (.aload_n 0, 1) := by decide +kernel
theorem dX8_isDone_91 : decode cX8_isDone 91 = .ok (.getfield 9, 3) := by decide +kernel
theorem dX8_isDone_94 : decode cX8_isDone 94 = .ok (.iconst 0, 1) := by decide +kernel
theorem dX8_isDone_95 : decode cX8_isDone 95 = .ok (.iaload, 1) := by decide +kernel
theorem dX8_isDone_96 : decode cX8_isDone 96 = .ok (.iadd, 1) := by decide +kernel
theorem dX8_isDone_97 : decode cX8_isDone 97 = .ok (.iload_n 2, 1) := by decide +kernel
theorem dX8_isDone_98 : decode cX8_isDone 98 = .ok (.iastore, 1) := by decide +kernel
theorem dX8_isDone_99 : decode cX8_isDone 99 = .ok (.aload_n 0, 1) := by decide +kernel
theorem dX8_isDone_100 : decode cX8_isDone 100 = .ok (.getfield 9, 3) := by decide +kernel
theorem dX8_isDone_103 : decode cX8_isDone 103 = .ok (.bipush 12, 2) := by decide +kernel
theorem dX8_isDone_105 : decode cX8_isDone 105 = .ok (.aload_n 0, 1) := by decide +kernel
theorem dX8_isDone_106 : decode cX8_isDone 106 = .ok (.getfield 9, 3) := by decide +kernel
theorem dX8_isDone_109 : decode cX8_isDone 109 = .ok (.iconst 0, 1) := by decide +kernel
theorem dX8_isDone_110 : decode cX8_isDone 110 = .ok (.iaload, 1) := by decide +kernel
theorem dX8_isDone_111 : decode cX8_isDone 111 = .ok (.iadd, 1) := by decide +kernel
theorem dX8_isDone_112 : decode cX8_isDone 112 = .ok (.iload_n 3, 1) := by decide +kernel
theorem dX8_isDone_113 : decode cX8_isDone 113 = .ok (.iastore, 1) := by decide +kernel
theorem dX8_isDone_114 : decode cX8_isDone 114 = .ok (.aload_n 0, 1) := by decide +kernel
theorem dX8_isDone_115 : decode cX8_isDone 115 = .ok (.getfield 9, 3) := by decide +kernel
theorem dX8_isDone_118 : decode cX8_isDone 118 = .ok (.bipush 20, 2) := by decide +kernel
theorem dX8_isDone_120 : decode cX8_isDone 120 = .ok (.aload_n 0, 1) := by decide +kernel
theorem dX8_isDone_121 : decode cX8_isDone 121 = .ok (.getfield 9, 3) := by decide +kernel
theorem dX8_isDone_124 : decode cX8_isDone 124 = .ok (.iconst 0, 1) := by decide +kernel
theorem dX8_isDone_125 : decode cX8_isDone 125 = .ok (.iaload, 1) := by decide +kernel
theorem dX8_isDone_126 : decode cX8_isDone 126 = .ok (.iadd, 1) := by decide +kernel
theorem dX8_isDone_127 : decode cX8_isDone 127 = .ok (.bipush (-9), 2) := by decide +kernel
theorem dX8_isDone_129 : decode cX8_isDone 129 = .ok (.iastore, 1) := by decide +kernel
theorem dX8_isDone_130 : decode cX8_isDone 130 = .ok (.iconst 0, 1) := by decide +kernel
theorem dX8_isDone_131 : decode cX8_isDone 131 = .ok (.istore 4, 2) := by decide +kernel
theorem dX8_isDone_133 : decode cX8_isDone 133 = .ok (.iload 4, 2) := by decide +kernel
theorem dX8_isDone_135 : decode cX8_isDone 135 = .ok (.bipush 12, 2) := by decide +kernel
theorem dX8_isDone_137 : decode cX8_isDone 137 = .ok (.if_icmp .ge 26, 3) := by decide +kernel
theorem dX8_isDone_140 : decode cX8_isDone 140 = .ok (.aload_n 0, 1) := by decide +kernel
theorem dX8_isDone_141 : decode cX8_isDone 141 = .ok (.getfield 9, 3) := by decide +kernel
theorem dX8_isDone_144 : decode cX8_isDone 144 = .ok (.aload_n 0, 1) := by decide +kernel
theorem dX8_isDone_145 : decode cX8_isDone 145 = .ok (.getfield 9, 3) := by decide +kernel
theorem dX8_isDone_148 : decode cX8_isDone 148 = .ok (.iconst 0, 1) := by decide +kernel
theorem dX8_isDone_149 : decode cX8_isDone 149 = .ok (.iaload, 1) := by decide +kernel
theorem dX8_isDone_150 : decode cX8_isDone 150 = .ok (.iload 4, 2) := by decide +kernel
theorem dX8_isDone_152 : decode cX8_isDone 152 = .ok (.invokestatic 55, 3) := by decide +kernel
theorem dX8_isDone_155 : decode cX8_isDone 155 = .ok (.iconst 0, 1) := by decide +kernel
theorem dX8_isDone_156 : decode cX8_isDone 156 = .ok (.iastore, 1) := by decide +kernel
theorem dX8_isDone_157 : decode cX8_isDone 157 = .ok (.iinc 4 1, 3) := by decide +kernel
theorem dX8_isDone_160 : decode cX8_isDone 160 = .ok (.goto (-27), 3) := by decide +kernel
theorem dX8_isDone_163 : decode cX8_isDone 163 = .ok (.aload_n 0, 1) := by decide +kernel
theorem dX8_isDone_164 : decode cX8_isDone 164 = .ok (.getfield 9, 3) := by decide +kernel
theorem dX8_isDone_167 : decode cX8_isDone 167 = .ok (.bipush 124, 2) := by decide +kernel
theorem dX8_isDone_169 : decode cX8_isDone 169 = .ok (.aload_n 0, 1) := by decide +kernel
theorem dX8_isDone_170 : decode cX8_isDone 170 = .ok (.getfield 9, 3) := by decide +kernel
theorem dX8_isDone_173 : decode cX8_isDone 173 = .ok (.iconst 0, 1) := by decide +kernel
theorem dX8_isDone_174 : decode cX8_isDone 174 = .ok (.iaload, 1) := by decide +kernel
theorem dX8_isDone_175 : decode cX8_isDone 175 = .ok (.iadd, 1) := by decide +kernel
theorem dX8_isDone_176 : decode cX8_isDone 176 = .ok (.iconst 0, 1) := by decide +kernel
theorem dX8_isDone_177 : decode cX8_isDone 177 = .ok (.iastore, 1) := by decide +kernel
theorem dX8_isDone_178 : decode cX8_isDone 178 = .ok (.aload_n 0, 1) := by decide +kernel
theorem dX8_isDone_179 : decode cX8_isDone 179 = .ok (.getfield 9, 3) := by decide +kernel
theorem dX8_isDone_182 : decode cX8_isDone 182 = .ok (.iconst 0, 1) := by decide +kernel
theorem dX8_isDone_183 : decode cX8_isDone 183 = .ok (.dup2, 1) := by decide +kernel
theorem dX8_isDone_184 : decode cX8_isDone 184 = .ok (.iaload, 1) := by decide +kernel
theorem dX8_isDone_185 : decode cX8_isDone 185 = .ok (.iconst 1, 1) := by decide +kernel
theorem dX8_isDone_186 : decode cX8_isDone 186 = .ok (.iadd, 1) := by decide +kernel
theorem dX8_isDone_187 : decode cX8_isDone 187 = .ok (.iastore, 1) := by decide +kernel
theorem dX8_isDone_188 : decode cX8_isDone 188 = .ok (.iconst 1, 1) := by decide +kernel
theorem dX8_isDone_189 : decode cX8_isDone 189 = .ok (.ireturn, 1) := by decide +kernel
theorem dX8_isDone_190 : decode cX8_isDone 190 = .ok (.aload_n 0, 1) := by decide +kernel
theorem dX8_isDone_191 : decode cX8_isDone 191 = .ok (.iload_n 2, 1) := by decide +kernel
theorem dX8_isDone_192 : decode cX8_isDone 192 = .ok (.invokevirtual 101, 3) := by decide +kernel
theorem dX8_isDone_195 : decode cX8_isDone 195 = .ok (.ifCond .eq 25, 3) := by decide +kernel
theorem dX8_isDone_198 : decode cX8_isDone 198 = .ok (.iload_n 3, 1) := by decide +kernel
theorem dX8_isDone_199 : decode cX8_isDone 199 = .ok (.aload_n 0, 1) := by decide +kernel
theorem dX8_isDone_200 : decode cX8_isDone 200 = .ok (.getfield 31, 3) := by decide +kernel
theorem dX8_isDone_203 : decode cX8_isDone 203 = .ok (.iconst 2, 1) := by decide +kernel
theorem dX8_isDone_204 : decode cX8_isDone 204 = .ok (.iaload, 1) := by decide +kernel
theorem dX8_isDone_205 : decode cX8_isDone 205 = .ok (.if_icmp .gt 15, 3) := by decide +kernel
theorem dX8_isDone_208 : decode cX8_isDone 208 = .ok (.aload_n 0, 1) := by decide +kernel
theorem dX8_isDone_209 : decode cX8_isDone 209 = .ok (.getfield 31, 3) := by decide +kernel
theorem dX8_isDone_212 : decode cX8_isDone 212 = .ok (.iconst 2, 1) := by decide +kernel
theorem dX8_isDone_213 : decode cX8_isDone 213 = .ok (.iaload, 1) := by decide +kernel
theorem dX8_isDone_214 : decode cX8_isDone 214 = .ok (.invokestatic 105, 3) := by decide +kernel
theorem dX8_isDone_217 : decode cX8_isDone 217 = .ok (.ifCond .ne 5, 3) := by decide +kernel
theorem dX8_isDone_220 : decode cX8_isDone 220 = .ok (.iconst 0, 1) := by decide +kernel
theorem dX8_isDone_221 : decode cX8_isDone 221 = .ok (.ireturn, 1) := by decide +kernel
theorem dX8_isDone_222 : decode cX8_isDone 222 = .ok (.iload_n 3, 1) := by decide +kernel
theorem dX8_isDone_223 : decode cX8_isDone 223 = .ok (.istore 4, 2) := by decide +kernel
theorem dX8_isDone_225 : decode cX8_isDone 225 = .ok (.iload 4, 2) := by decide +kernel
theorem dX8_isDone_227 : decode cX8_isDone 227 = .ok (.aload_n 0, 1) := by decide +kernel
theorem dX8_isDone_228 : decode cX8_isDone 228 = .ok (.getfield 31, 3) := by decide +kernel
theorem dX8_isDone_231 : decode cX8_isDone 231 = .ok (.iconst 2, 1) := by decide +kernel
theorem dX8_isDone_232 : decode cX8_isDone 232 = .ok (.iaload, 1) := by decide +kernel
theorem dX8_isDone_233 : decode cX8_isDone 233 = .ok (.if_icmp .gt 26, 3) := by decide +kernel
theorem dX8_isDone_236 : decode cX8_isDone 236 = .ok (.aload_n 0, 1) := by decide +kernel
theorem dX8_isDone_237 : decode cX8_isDone 237 = .ok (.getfield 9, 3) := by decide +kernel
theorem dX8_isDone_240 : decode cX8_isDone 240 = .ok (.iload_n 2, 1) := by decide +kernel
theorem dX8_isDone_241 : decode cX8_isDone 241 = .ok (.iload 4, 2) := by decide +kernel
theorem dX8_isDone_243 : decode cX8_isDone 243 = .ok (.invokestatic 55, 3) := by decide +kernel
theorem dX8_isDone_246 : decode cX8_isDone 246 = .ok (.aload_n 0, 1) := by decide +kernel
theorem dX8_isDone_247 : decode cX8_isDone 247 = .ok (.getfield 31, 3) := by decide +kernel
theorem dX8_isDone_250 : decode cX8_isDone 250 = .ok (.iconst 3, 1) := by decide +kernel
theorem dX8_isDone_251 : decode cX8_isDone 251 = .ok (.iaload, 1) := by decide +kernel
theorem dX8_isDone_252 : decode cX8_isDone 252 = .ok (.iastore, 1) := by decide +kernel
theorem dX8_isDone_253 : decode cX8_isDone 253 = .ok (.iinc 4 1, 3) := by decide +kernel
theorem dX8_isDone_256 : decode cX8_isDone 256 = .ok (.goto (-31), 3) := by decide +kernel
theorem dX8_isDone_259 : decode cX8_isDone 259 = .ok (.iconst 1, 1) := by decide +kernel
theorem dX8_isDone_260 : decode cX8_isDone 260 = .ok (.ireturn, 1) := by decide +kernel
theorem dX8_isDone_261 : decode cX8_isDone 261 = .ok (.aload_n 0, 1) := by decide +kernel
theorem dX8_isDone_262 : decode cX8_isDone 262 = .ok (.getfield 9, 3) := by decide +kernel
theorem dX8_isDone_265 : decode cX8_isDone 265 = .ok (.iconst 1, 1) := by decide +kernel
theorem dX8_isDone_266 : decode cX8_isDone 266 = .ok (.iload_n 2, 1) := by decide +kernel
theorem dX8_isDone_267 : decode cX8_isDone 267 = .ok (.iastore, 1) := by decide +kernel
theorem dX8_isDone_268 : decode cX8_isDone 268 = .ok (.iload_n 2, 1) := by decide +kernel
theorem dX8_isDone_269 : decode cX8_isDone 269 = .ok (.invokestatic 105, 3) := by decide +kernel
theorem dX8_isDone_272 : decode cX8_isDone 272 = .ok (.ireturn, 1) := by decide +kernel
theorem dX8_isDone_273 : decode cX8_isDone 273 = .ok (.aload_n 0, 1) := by decide +kernel
theorem dX8_isDone_274 : decode cX8_isDone 274 = .ok (.iload_n 2, 1) := by decide +kernel
theorem dX8_isDone_275 : decode cX8_isDone 275 = .ok (.invokevirtual 101, 3) := by decide +kernel
theorem dX8_isDone_278 : decode cX8_isDone 278 = .ok (.ifCond .eq 16, 3) := by decide +kernel
theorem dX8_isDone_281 : decode cX8_isDone 281 = .ok (.aload_n 0, 1) := by decide +kernel
theorem dX8_isDone_282 : decode cX8_isDone 282 = .ok (.iload_n 3, 1) := by decide +kernel
theorem dX8_isDone_283 : decode cX8_isDone 283 = .ok (.invokevirtual 101, 3) := by decide +kernel
theorem dX8_isDone_286 : decode cX8_isDone 286 = .ok (.ifCond .eq 8, 3) := by decide +kernel
theorem dX8_isDone_289 : decode cX8_isDone 289 = .ok (.iload_n 2, 1) := by decide +kernel
theorem dX8_isDone_290 : decode cX8_isDone 290 = .ok (.iload_n 3, 1) := by decide +kernel
theorem dX8_isDone_291 : decode cX8_isDone 291 = .ok (.if_icmp .ne 5, 3) := by decide +kernel
theorem dX8_isDone_294 : decode cX8_isDone 294 = .ok (.iconst 0, 1) := by decide +kernel
theorem dX8_isDone_295 : decode cX8_isDone 295 = .ok (.ireturn, 1) := by decide +kernel
theorem dX8_isDone_296 : decode cX8_isDone 296 = .ok (.aload_n 0, 1) := by decide +kernel
theorem dX8_isDone_297 : decode cX8_isDone 297 = .ok (.iload_n 2, 1) := by decide +kernel
theorem dX8_isDone_298 : decode cX8_isDone 298 = .ok (.iload_n 3, 1) := by decide +kernel
theorem dX8_isDone_299 : decode cX8_isDone 299 = .ok (.invokevirtual 108, 3) := by decide +kernel
theorem dX8_isDone_302 : decode cX8_isDone 302 = .ok (.iconst 1, 1) := by decide +kernel
theorem dX8_isDone_303 : decode cX8_isDone 303 = .ok (.ireturn, 1) := by decide +kernel
theorem dX8_isDone_304 : decode cX8_isDone 304 = .ok (.aload_n 0, 1) := by decide +kernel
theorem dX8_isDone_305 : decode cX8_isDone 305 = .ok (.getfield 9, 3) := by decide +kernel
theorem dX8_isDone_308 : decode cX8_isDone 308 = .ok (.iconst 2, 1) := by decide +kernel
theorem dX8_isDone_309 : decode cX8_isDone 309 = .ok (.iload_n 2, 1) := by decide +kernel
theorem dX8_isDone_310 : decode cX8_isDone 310 = .ok (.iastore, 1) := by decide +kernel
theorem dX8_isDone_311 : decode cX8_isDone 311 = .ok (.iconst 1, 1) := by decide +kernel
theorem dX8_isDone_312 : decode cX8_isDone 312 = .ok (.ireturn, 1) := by decide +kernel
theorem dX8_isDone_313 : decode cX8_isDone 313 = .ok (.aload_n 0, 1) := by decide +kernel
theorem dX8_isDone_314 : decode cX8_isDone 314 = .ok (.iload_n 2, 1) := by decide +kernel
theorem dX8_isDone_315 : decode cX8_isDone 315 = .ok (.invokevirtual 101, 3) := by decide +kernel
theorem dX8_isDone_318 : decode cX8_isDone 318 = .ok (.ifCond .eq 11, 3) := by decide +kernel
theorem dX8_isDone_321 : decode cX8_isDone 321 = .ok (.aload_n 0, 1) := by decide +kernel
theorem dX8_isDone_322 : decode cX8_isDone 322 = .ok (.iload_n 2, 1) := by decide +kernel
theorem dX8_isDone_323 : decode cX8_isDone 323 = .ok (.invokevirtual 112, 3) := by decide +kernel
theorem dX8_isDone_326 : decode cX8_isDone 326 = .ok (.ifCond .ne 5, 3) := by decide +kernel
theorem dX8_isDone_329 : decode cX8_isDone 329 = .ok (.iconst 0, 1) := by decide +kernel
theorem dX8_isDone_330 : decode cX8_isDone 330 = .ok (.ireturn, 1) := by decide +kernel
theorem dX8_isDone_331 : decode cX8_isDone 331 = .ok (.aload_n 0, 1) := by decide +kernel
theorem dX8_isDone_332 : decode cX8_isDone 332 = .ok (.iload_n 2, 1) := by decide +kernel
theorem dX8_isDone_333 : decode cX8_isDone 333 = .ok (.iload_n 3, 1) := by decide +kernel
theorem dX8_isDone_334 : decode cX8_isDone 334 = .ok (.aload_n 0, 1) := by decide +kernel
theorem dX8_isDone_335 : decode cX8_isDone 335 = .ok (.getfield 31, 3) := by decide +kernel
theorem dX8_isDone_338 : decode cX8_isDone 338 = .ok (.iconst 2, 1) := by decide +kernel
theorem dX8_isDone_339 : decode cX8_isDone 339 = .ok (.iaload, 1) := by decide +kernel
theorem dX8_isDone_340 : decode cX8_isDone 340 = .ok (.invokevirtual 115, 3) := by decide +kernel
theorem dX8_isDone_343 : decode cX8_isDone 343 = .ok (.istore 4, 2) := by decide +kernel
theorem dX8_isDone_345 : decode cX8_isDone 345 = .ok (.iconst 1, 1) := by decide +kernel
theorem dX8_isDone_346 : decode cX8_isDone 346 = .ok (.ireturn, 1) := by decide +kernel
theorem dX8_shop_0 : decode cX8_shop 0 = .ok (.aload_n 0, 1) := by decide +kernel
theorem dX8_shop_1 : decode cX8_shop 1 = .ok (.iconst 0, 1) := by decide +kernel
theorem dX8_shop_2 : decode cX8_shop 2 = .ok (.putfield 80, 3) := by decide +kernel
theorem dX8_shop_5 : decode cX8_shop 5 = .ok (.iconst 0, 1) := by decide +kernel
theorem dX8_shop_6 : decode cX8_shop 6 = .ok (.istore_n 1, 1) := by decide +kernel
theorem dX8_shop_7 : decode cX8_shop 7 = .ok (.bipush (-9), 2) := by decide +kernel
theorem dX8_shop_9 : decode cX8_shop 9 = .ok (.istore_n 2, 1) := by decide +kernel
theorem dX8_shop_10 : decode cX8_shop 10 = .ok (.aload_n 0, 1) := by decide +kernel
theorem dX8_shop_11 : decode cX8_shop 11 = .ok (.invokevirtual 119, 3) := by decide +kernel
theorem dX8_shop_14 : decode cX8_shop 14 = .ok (.ifCond .ne 12, 3) := by decide +kernel
theorem dX8_shop_17 : decode cX8_shop 17 = .ok (.sipush (-1000), 3) := by decide +kernel
theorem dX8_shop_20 : decode cX8_shop 20 = .ok (.aload_n 0, 1) := by decide +kernel
theorem dX8_shop_21 : decode cX8_shop 21 = .ok (.getfield 80, 3) := by decide +kernel
theorem dX8_shop_24 : decode cX8_shop 24 = .ok (.isub, 1) := by decide +kernel
theorem dX8_shop_25 : decode cX8_shop 25 = .ok (.istore_n 2, 1) := by decide +kernel
theorem dX8_shop_26 : decode cX8_shop 26 = .ok (.iinc 1 1, 3) := by decide +kernel
theorem dX8_shop_29 : decode cX8_shop 29 = .ok (.iload_n 2, 1) := by decide +kernel
theorem dX8_shop_30 : decode cX8_shop 30 = .ok (.bipush (-9), 2) := by decide +kernel
theorem dX8_shop_32 : decode cX8_shop 32 = .ok (.if_icmp .ne 14, 3) := by decide +kernel
theorem dX8_shop_35 : decode cX8_shop 35 = .ok (.aload_n 0, 1) := by decide +kernel
theorem dX8_shop_36 : decode cX8_shop 36 = .ok (.getfield 80, 3) := by decide +kernel
theorem dX8_shop_39 : decode cX8_shop 39 = .ok (.aload_n 0, 1) := by decide +kernel
theorem dX8_shop_40 : decode cX8_shop 40 = .ok (.getfield 76, 3) := by decide +kernel
theorem dX8_shop_43 : decode cX8_shop 43 = .ok (.if_icmp .lt (-33), 3) := by decide +kernel
theorem dX8_shop_46 : decode cX8_shop 46 = .ok (.aload_n 0, 1) := by decide +kernel
theorem dX8_shop_47 : decode cX8_shop 47 = .ok (.getfield 9, 3) := by decide +kernel
theorem dX8_shop_50 : decode cX8_shop 50 = .ok (.aload_n 0, 1) := by decide +kernel
theorem dX8_shop_51 : decode cX8_shop 51 = .ok (.getfield 19, 3) := by decide +kernel
theorem dX8_shop_54 : decode cX8_shop 54 = .ok (.invokestatic 122, 3) := by decide +kernel
theorem dX8_shop_57 : decode cX8_shop 57 = .ok (.aload_n 0, 1) := by decide +kernel
theorem dX8_shop_58 : decode cX8_shop 58 = .ok (.iconst 0, 1) := by decide +kernel
theorem dX8_shop_59 : decode cX8_shop 59 = .ok (.putfield 80, 3) := by decide +kernel
theorem dX8_shop_62 : decode cX8_shop 62 = .ok (.iload_n 2, 1) := by decide +kernel
theorem dX8_shop_63 : decode cX8_shop 63 = .ok (.bipush (-9), 2) := by decide +kernel
theorem dX8_shop_65 : decode cX8_shop 65 = .ok (.if_icmp .ne 63, 3) := by decide +kernel
theorem dX8_shop_68 : decode cX8_shop 68 = .ok (.aload_n 0, 1) := by decide +kernel
theorem dX8_shop_69 : decode cX8_shop 69 = .ok (.getfield 80, 3) := by decide +kernel
theorem dX8_shop_72 : decode cX8_shop 72 = .ok (.aload_n 0, 1) := by decide +kernel
theorem dX8_shop_73 : decode cX8_shop 73 = .ok (.getfield 76, 3) := by decide +kernel
theorem dX8_shop_76 : decode cX8_shop 76 = .ok (.if_icmp .ge 52, 3) := by decide +kernel
theorem dX8_shop_79 : decode cX8_shop 79 = .ok (.aload_n 0, 1) := by decide +kernel
theorem dX8_shop_80 : decode cX8_shop 80 = .ok (.getfield 80, 3) := by decide +kernel
theorem dX8_shop_83 : decode cX8_shop 83 = .ok (.istore_n 3, 1) := by decide +kernel
theorem dX8_shop_84 : decode cX8_shop 84 = .ok (.aload_n 0, 1) := by decide +kernel
theorem dX8_shop_85 : decode cX8_shop 85 = .ok (.invokevirtual 83, 3) := by decide +kernel
theorem dX8_shop_88 : decode cX8_shop 88 = .ok (.istore 4, 2) := by decide +kernel
theorem dX8_shop_90 : decode cX8_shop 90 = .ok (.aload_n 0, 1) := by decide +kernel
theorem dX8_shop_91 : decode cX8_shop 91 = .ok (.invokevirtual 119, 3) := by decide +kernel
theorem dX8_shop_94 : decode cX8_shop 94 = .ok (.istore 5, 2) := by decide +kernel
theorem dX8_shop_96 : decode cX8_shop 96 = .ok (.aload_n 0, 1) := by decide +kernel
theorem dX8_shop_97 : decode cX8_shop 97 = .ok (.iload 4, 2) := by decide +kernel
theorem dX8_shop_99 : decode cX8_shop 99 = .ok (.invokevirtual 126, 3) := by decide +kernel
theorem dX8_shop_102 : decode cX8_shop 102 = .ok (.ifCond .eq 6, 3) := by decide +kernel
theorem dX8_shop_105 : decode cX8_shop 105 = .ok (.goto (-43), 3) := by decide +kernel
theorem dX8_shop_108 : decode cX8_shop 108 = .ok (.sipush (-2000), 3) := by decide +kernel
theorem dX8_shop_111 : decode cX8_shop 111 = .ok (.iload_n 3, 1) := by decide +kernel
theorem dX8_shop_112 : decode cX8_shop 112 = .ok (.isub, 1) := by decide +kernel
theorem dX8_shop_113 : decode cX8_shop 113 = .ok (.istore_n 2, 1) := by decide +kernel
theorem dX8_shop_114 : decode cX8_shop 114 = .ok (.aload_n 0, 1) := by decide +kernel
theorem dX8_shop_115 : decode cX8_shop 115 = .ok (.getfield 19, 3) := by decide +kernel
theorem dX8_shop_118 : decode cX8_shop 118 = .ok (.aload_n 0, 1) := by decide +kernel
theorem dX8_shop_119 : decode cX8_shop 119 = .ok (.getfield 9, 3) := by decide +kernel
theorem dX8_shop_122 : decode cX8_shop 122 = .ok (.invokestatic 122, 3) := by decide +kernel
theorem dX8_shop_125 : decode cX8_shop 125 = .ok (.goto (-63), 3) := by decide +kernel
theorem dX8_shop_128 : decode cX8_shop 128 = .ok (.aload_n 0, 1) := by decide +kernel
theorem dX8_shop_129 : decode cX8_shop 129 = .ok (.iconst 0, 1) := by decide +kernel
theorem dX8_shop_130 : decode cX8_shop 130 = .ok (.putfield 76, 3) := by decide +kernel
theorem dX8_shop_133 : decode cX8_shop 133 = .ok (.iload_n 2, 1) := by decide +kernel
theorem dX8_shop_134 : decode cX8_shop 134 = .ok (.bipush (-9), 2) := by decide +kernel
theorem dX8_shop_136 : decode cX8_shop 136 = .ok (.if_icmp .ne 7, 3) := by decide +kernel
theorem dX8_shop_139 : decode cX8_shop 139 = .ok (.iload_n 1, 1) := by decide +kernel
theorem dX8_shop_140 : decode cX8_shop 140 = .ok (.goto 4, 3) := by decide +kernel
theorem dX8_shop_143 : decode cX8_shop 143 = .ok (.iload_n 2, 1) := by decide +kernel
theorem dX8_shop_144 : decode cX8_shop 144 = .ok (.ireturn, 1) := by decide +kernel
theorem dX8_thing_0 : decode cX8_thing 0 = .ok (.aload_n 0, 1) := by decide +kernel
theorem dX8_thing_1 : decode cX8_thing 1 = .ok (.iload_n 1, 1) := by decide +kernel
theorem dX8_thing_2 : decode cX8_thing 2 = .ok (.invokevirtual 101, 3) := by decide +kernel
theorem dX8_thing_5 : decode cX8_thing 5 = .ok (.ifCond .ne 9, 3) := by decide +kernel
theorem dX8_thing_8 : decode cX8_thing 8 = .ok (.aload_n 0, 1) := by decide +kernel
theorem dX8_thing_9 : decode cX8_thing 9 = .ok (.iconst (-1), 1) := by decide +kernel
theorem dX8_thing_10 : decode cX8_thing 10 = .ok (.invokevirtual 41, 3) := by decide +kernel
theorem dX8_thing_13 : decode cX8_thing 13 = .ok (.ireturn, 1) := by decide +kernel
theorem dX8_thing_14 : decode cX8_thing 14 = .ok (.iload_n 2, 1) := by decide +kernel
theorem dX8_thing_15 : decode cX8_thing 15 = .ok (.tableswitch 80 0 4 #[33, 42, 52, 62, 71], 33) := by decide +kernel
theorem dX8_thing_48 : decode cX8_thing 48 = .ok (.aload_n 0, 1) := by decide +kernel
theorem dX8_thing_49 : decode cX8_thing 49 = .ok (.getfield 9, 3) := by decide +kernel
theorem dX8_thing_52 : decode cX8_thing 52 = .ok (.iconst 4, 1) := by decide +kernel
theorem dX8_thing_53 : decode cX8_thing 53 = .ok (.iload_n 1, 1) := by decide +kernel
theorem dX8_thing_54 : decode cX8_thing 54 = .ok (.iadd, 1) := by decide +kernel
theorem dX8_thing_55 : decode cX8_thing 55 = .ok (.iaload, 1) := by decide +kernel
theorem dX8_thing_56 : decode cX8_thing 56 = .ok (.ireturn, 1) := by decide +kernel
theorem dX8_thing_57 : decode cX8_thing 57 = .ok (.aload_n 0, 1) := by decide +kernel
theorem dX8_thing_58 : decode cX8_thing 58 = .ok (.getfield 9, 3) := by decide +kernel
theorem dX8_thing_61 : decode cX8_thing 61 = .ok (.bipush 12, 2) := by decide +kernel
theorem dX8_thing_63 : decode cX8_thing 63 = .ok (.iload_n 1, 1) := by decide +kernel
theorem dX8_thing_64 : decode cX8_thing 64 = .ok (.iadd, 1) := by decide +kernel
theorem dX8_thing_65 : decode cX8_thing 65 = .ok (.iaload, 1) := by decide +kernel
theorem dX8_thing_66 : decode cX8_thing 66 = .ok (.ireturn, 1) := by decide +kernel
theorem dX8_thing_67 : decode cX8_thing 67 = .ok (.aload_n 0, 1) := by decide +kernel
theorem dX8_thing_68 : decode cX8_thing 68 = .ok (.getfield 9, 3) := by decide +kernel
theorem dX8_thing_71 : decode cX8_thing 71 = .ok (.bipush 20, 2) := by decide +kernel
theorem dX8_thing_73 : decode cX8_thing 73 = .ok (.iload_n 1, 1) := by decide +kernel
theorem dX8_thing_74 : decode cX8_thing 74 = .ok (.iadd, 1) := by decide +kernel
theorem dX8_thing_75 : decode cX8_thing 75 = .ok (.iaload, 1) := by decide +kernel
theorem dX8_thing_76 : decode cX8_thing 76 = .ok (.ireturn, 1) := by decide +kernel
theorem dX8_thing_77 : decode cX8_thing 77 = .ok (.aload_n 0, 1) := by decide +kernel
theorem dX8_thing_78 : decode cX8_thing 78 = .ok (.getfield 9, 3) := by decide +kernel
theorem dX8_thing_81 : decode cX8_thing 81 = .ok (.iload_n 1, 1) := by decide +kernel
theorem dX8_thing_82 : decode cX8_thing 82 = .ok (.invokestatic 69, 3) := by decide +kernel
theorem dX8_thing_85 : decode cX8_thing 85 = .ok (.ireturn, 1) := by decide +kernel
theorem dX8_thing_86 : decode cX8_thing 86 = .ok (.aload_n 0, 1) := by decide +kernel
theorem dX8_thing_87 : decode cX8_thing 87 = .ok (.getfield 9, 3) := by decide +kernel
theorem dX8_thing_90 : decode cX8_thing 90 = .ok (.iload_n 1, 1) := by decide +kernel
theorem dX8_thing_91 : decode cX8_thing 91 = .ok (.invokestatic 98, 3) := by decide +kernel
theorem dX8_thing_94 : decode cX8_thing 94 = .ok (.ireturn, 1) := by decide +kernel
theorem dX8_thing_95 : decode cX8_thing 95 = .ok (.aload_n 0, 1) := by decide +kernel
theorem dX8_thing_96 : decode cX8_thing 96 = .ok (.bipush (-2), 2) := by decide +kernel
theorem dX8_thing_98 : decode cX8_thing 98 = .ok (.invokevirtual 41, 3) := by decide +kernel
theorem dX8_thing_101 : decode cX8_thing 101 = .ok (.ireturn, 1) := by decide +kernel
theorem dX8_glad_0 : decode cX8_glad 0 = .ok (.aload_n 0, 1) := by decide +kernel
theorem dX8_glad_1 : decode cX8_glad 1 = .ok (.iload_n 1, 1) := by decide +kernel
theorem dX8_glad_2 : decode cX8_glad 2 = .ok (.invokevirtual 101, 3) := by decide +kernel
theorem dX8_glad_5 : decode cX8_glad 5 = .ok (.ifCond .eq 23, 3) := by decide +kernel
theorem dX8_glad_8 : decode cX8_glad 8 = .ok (.iload_n 2, 1) := by decide +kernel
theorem dX8_glad_9 : decode cX8_glad 9 = .ok (.invokestatic 105, 3) := by decide +kernel
theorem dX8_glad_12 : decode cX8_glad 12 = .ok (.ifCond .eq 16, 3) := by decide +kernel
theorem dX8_glad_15 : decode cX8_glad 15 = .ok (.aload_n 0, 1) := by decide +kernel
theorem dX8_glad_16 : decode cX8_glad 16 = .ok (.getfield 9, 3) := by decide +kernel
theorem dX8_glad_19 : decode cX8_glad 19 = .ok (.iload_n 1, 1) := by decide +kernel
theorem dX8_glad_20 : decode cX8_glad 20 = .ok (.iload_n 2, 1) := by decide +kernel
theorem dX8_glad_21 : decode cX8_glad 21 = .ok (.invokestatic 55, 3) := by decide +kernel
theorem dX8_glad_24 : decode cX8_glad 24 = .ok (.iaload, 1) := by decide +kernel
theorem dX8_glad_25 : decode cX8_glad 25 = .ok (.goto 8, 3) := by decide +kernel
theorem dX8_glad_28 : decode cX8_glad 28 = .ok (.aload_n 0, 1) := by decide +kernel
theorem dX8_glad_29 : decode cX8_glad 29 = .ok (.iconst (-1), 1) := by decide +kernel
theorem dX8_glad_30 : decode cX8_glad 30 = .ok (.invokevirtual 41, 3) := by decide +kernel
theorem dX8_glad_33 : decode cX8_glad 33 = .ok (.ireturn, 1) := by decide +kernel
theorem dX8_areTwo_0 : decode cX8_areTwo 0 = .ok (.aload_n 0, 1) := by decide +kernel
theorem dX8_areTwo_1 : decode cX8_areTwo 1 = .ok (.iload_n 1, 1) := by decide +kernel
theorem dX8_areTwo_2 : decode cX8_areTwo 2 = .ok (.invokevirtual 101, 3) := by decide +kernel
theorem dX8_areTwo_5 : decode cX8_areTwo 5 = .ok (.ifCond .eq 20, 3) := by decide +kernel
theorem dX8_areTwo_8 : decode cX8_areTwo 8 = .ok (.aload_n 0, 1) := by decide +kernel
theorem dX8_areTwo_9 : decode cX8_areTwo 9 = .ok (.iload_n 2, 1) := by decide +kernel
theorem dX8_areTwo_10 : decode cX8_areTwo 10 = .ok (.invokevirtual 101, 3) := by decide +kernel
theorem dX8_areTwo_13 : decode cX8_areTwo 13 = .ok (.ifCond .eq 12, 3) := by decide +kernel
theorem dX8_areTwo_16 : decode cX8_areTwo 16 = .ok (.iload_n 1, 1) := by decide +kernel
theorem dX8_areTwo_17 : decode cX8_areTwo 17 = .ok (.iload_n 2, 1) := by decide +kernel
theorem dX8_areTwo_18 : decode cX8_areTwo 18 = .ok (.if_icmp .eq 7, 3) := by decide +kernel
theorem dX8_areTwo_21 : decode cX8_areTwo 21 = .ok (.iconst 1, 1) := by decide +kernel
theorem dX8_areTwo_22 : decode cX8_areTwo 22 = .ok (.goto 4, 3) := by decide +kernel
theorem dX8_areTwo_25 : decode cX8_areTwo 25 = .ok (.iconst 0, 1) := by decide +kernel
theorem dX8_areTwo_26 : decode cX8_areTwo 26 = .ok (.ireturn, 1) := by decide +kernel
theorem dX8_halves_0 : decode cX8_halves 0 = .ok (.aload_n 0, 1) := by decide +kernel
theorem dX8_halves_1 : decode cX8_halves 1 = .ok (.iload_n 1, 1) := by decide +kernel
theorem dX8_halves_2 : decode cX8_halves 2 = .ok (.iload_n 2, 1) := by decide +kernel
theorem dX8_halves_3 : decode cX8_halves 3 = .ok (.invokevirtual 129, 3) := by decide +kernel
theorem dX8_halves_6 : decode cX8_halves 6 = .ok (.ifCond .eq 19, 3) := by decide +kernel
theorem dX8_halves_9 : decode cX8_halves 9 = .ok (.aload_n 0, 1) := by decide +kernel
theorem dX8_halves_10 : decode cX8_halves 10 = .ok (.getfield 9, 3) := by decide +kernel
theorem dX8_halves_13 : decode cX8_halves 13 = .ok (.bipush 124, 2) := by decide +kernel
theorem dX8_halves_15 : decode cX8_halves 15 = .ok (.iload_n 1, 1) := by decide +kernel
theorem dX8_halves_16 : decode cX8_halves 16 = .ok (.iadd, 1) := by decide +kernel
theorem dX8_halves_17 : decode cX8_halves 17 = .ok (.iaload, 1) := by decide +kernel
theorem dX8_halves_18 : decode cX8_halves 18 = .ok (.iload_n 2, 1) := by decide +kernel
theorem dX8_halves_19 : decode cX8_halves 19 = .ok (.ishr, 1) := by decide +kernel
theorem dX8_halves_20 : decode cX8_halves 20 = .ok (.iconst 1, 1) := by decide +kernel
theorem dX8_halves_21 : decode cX8_halves 21 = .ok (.iand, 1) := by decide +kernel
theorem dX8_halves_22 : decode cX8_halves 22 = .ok (.goto 8, 3) := by decide +kernel
theorem dX8_halves_25 : decode cX8_halves 25 = .ok (.aload_n 0, 1) := by decide +kernel
theorem dX8_halves_26 : decode cX8_halves 26 = .ok (.iconst (-1), 1) := by decide +kernel
theorem dX8_halves_27 : decode cX8_halves 27 = .ok (.invokevirtual 41, 3) := by decide +kernel
theorem dX8_halves_30 : decode cX8_halves 30 = .ok (.ireturn, 1) := by decide +kernel
theorem dX8_turn_0 : decode cX8_turn 0 = .ok (.aload_n 0, 1) := by decide +kernel
theorem dX8_turn_1 : decode cX8_turn 1 = .ok (.iload_n 1, 1) := by decide +kernel
theorem dX8_turn_2 : decode cX8_turn 2 = .ok (.invokevirtual 101, 3) := by decide +kernel
theorem dX8_turn_5 : decode cX8_turn 5 = .ok (.ifCond .ne 9, 3) := by decide +kernel
theorem dX8_turn_8 : decode cX8_turn 8 = .ok (.aload_n 0, 1) := by decide +kernel
theorem dX8_turn_9 : decode cX8_turn 9 = .ok (.iconst (-1), 1) := by decide +kernel
theorem dX8_turn_10 : decode cX8_turn 10 = .ok (.invokevirtual 41, 3) := by decide +kernel
theorem dX8_turn_13 : decode cX8_turn 13 = .ok (.ireturn, 1) := by decide +kernel
theorem dX8_turn_14 : decode cX8_turn 14 = .ok (.iload_n 2, 1) := by decide +kernel
theorem dX8_turn_15 : decode cX8_turn 15 = .ok (.iconst 0, 1) := by decide +kernel
theorem dX8_turn_16 : decode cX8_turn 16 = .ok (.iconst 5, 1) := by decide +kernel
theorem dX8_turn_17 : decode cX8_turn 17 = .ok (.invokestatic 47, 3) := by decide +kernel
theorem dX8_turn_20 : decode cX8_turn 20 = .ok (.ifCond .ne 10, 3) := by decide +kernel
theorem dX8_turn_23 : decode cX8_turn 23 = .ok (.aload_n 0, 1) := by decide +kernel
theorem dX8_turn_24 : decode cX8_turn 24 = .ok (.bipush (-2), 2) := by decide +kernel
theorem dX8_turn_26 : decode cX8_turn 26 = .ok (.invokevirtual 41, 3) := by decide +kernel
theorem dX8_turn_29 : decode cX8_turn 29 = .ok (.ireturn, 1) := by decide +kernel
theorem dX8_turn_30 : decode cX8_turn 30 = .ok (.iload_n 3, 1) := by decide +kernel
theorem dX8_turn_31 : decode cX8_turn 31 = .ok (.ifCond .ge 10, 3) := by decide +kernel
theorem dX8_turn_34 : decode cX8_turn 34 = .ok (.aload_n 0, 1) := by decide +kernel
theorem dX8_turn_35 : decode cX8_turn 35 = .ok (.bipush (-4), 2) := by decide +kernel
theorem dX8_turn_37 : decode cX8_turn 37 = .ok (.invokevirtual 41, 3) := by decide +kernel
theorem dX8_turn_40 : decode cX8_turn 40 = .ok (.ireturn, 1) := by decide +kernel
theorem dX8_turn_41 : decode cX8_turn 41 = .ok (.iload_n 3, 1) := by decide +kernel
theorem dX8_turn_42 : decode cX8_turn 42 = .ok (.bipush 9, 2) := by decide +kernel
theorem dX8_turn_44 : decode cX8_turn 44 = .ok (.if_icmp .le 10, 3) := by decide +kernel
theorem dX8_turn_47 : decode cX8_turn 47 = .ok (.aload_n 0, 1) := by decide +kernel
theorem dX8_turn_48 : decode cX8_turn 48 = .ok (.bipush (-6), 2) := by decide +kernel
theorem dX8_turn_50 : decode cX8_turn 50 = .ok (.invokevirtual 41, 3) := by decide +kernel
theorem dX8_turn_53 : decode cX8_turn 53 = .ok (.ireturn, 1) := by decide +kernel
theorem dX8_turn_54 : decode cX8_turn 54 = .ok (.bipush 10, 2) := by decide +kernel
theorem dX8_turn_56 : decode cX8_turn 56 = .ok (.aload_n 0, 1) := by decide +kernel
theorem dX8_turn_57 : decode cX8_turn 57 = .ok (.getfield 9, 3) := by decide +kernel
theorem dX8_turn_60 : decode cX8_turn 60 = .ok (.iconst 4, 1) := by decide +kernel
theorem dX8_turn_61 : decode cX8_turn 61 = .ok (.iload_n 1, 1) := by decide +kernel
theorem dX8_turn_62 : decode cX8_turn 62 = .ok (.iadd, 1) := by decide +kernel
theorem dX8_turn_63 : decode cX8_turn 63 = .ok (.iaload, 1) := by decide +kernel
theorem dX8_turn_64 : decode cX8_turn 64 = .ok (.imul, 1) := by decide +kernel
theorem dX8_turn_65 : decode cX8_turn 65 = .ok (.aload_n 0, 1) := by decide +kernel
theorem dX8_turn_66 : decode cX8_turn 66 = .ok (.getfield 9, 3) := by decide +kernel
theorem dX8_turn_69 : decode cX8_turn 69 = .ok (.bipush 12, 2) := by decide +kernel
theorem dX8_turn_71 : decode cX8_turn 71 = .ok (.iload_n 1, 1) := by decide +kernel
theorem dX8_turn_72 : decode cX8_turn 72 = .ok (.iadd, 1) := by decide +kernel
theorem dX8_turn_73 : decode cX8_turn 73 = .ok (.iaload, 1) := by decide +kernel
theorem dX8_turn_74 : decode cX8_turn 74 = .ok (.iadd, 1) := by decide +kernel
theorem dX8_turn_75 : decode cX8_turn 75 = .ok (.istore 4, 2) := by decide +kernel
theorem dX8_turn_77 : decode cX8_turn 77 = .ok (.aload_n 0, 1) := by decide +kernel
theorem dX8_turn_78 : decode cX8_turn 78 = .ok (.getfield 9, 3) := by decide +kernel
theorem dX8_turn_81 : decode cX8_turn 81 = .ok (.iconst 4, 1) := by decide +kernel
theorem dX8_turn_82 : decode cX8_turn 82 = .ok (.iload_n 1, 1) := by decide +kernel
theorem dX8_turn_83 : decode cX8_turn 83 = .ok (.iadd, 1) := by decide +kernel
theorem dX8_turn_84 : decode cX8_turn 84 = .ok (.iload_n 2, 1) := by decide +kernel
theorem dX8_turn_85 : decode cX8_turn 85 = .ok (.iastore, 1) := by decide +kernel
theorem dX8_turn_86 : decode cX8_turn 86 = .ok (.aload_n 0, 1) := by decide +kernel
theorem dX8_turn_87 : decode cX8_turn 87 = .ok (.getfield 9, 3) := by decide +kernel
theorem dX8_turn_90 : decode cX8_turn 90 = .ok (.bipush 12, 2) := by decide +kernel
theorem dX8_turn_92 : decode cX8_turn 92 = .ok (.iload_n 1, 1) := by decide +kernel
theorem dX8_turn_93 : decode cX8_turn 93 = .ok (.iadd, 1) := by decide +kernel
theorem dX8_turn_94 : decode cX8_turn 94 = .ok (.iload_n 3, 1) := by decide +kernel
theorem dX8_turn_95 : decode cX8_turn 95 = .ok (.iastore, 1) := by decide +kernel
theorem dX8_turn_96 : decode cX8_turn 96 = .ok (.iload 4, 2) := by decide +kernel
theorem dX8_turn_98 : decode cX8_turn 98 = .ok (.ireturn, 1) := by decide +kernel
theorem dX8_makes_0 : decode cX8_makes 0 = .ok (.aload_n 0, 1) := by decide +kernel
theorem dX8_makes_1 : decode cX8_makes 1 = .ok (.iload_n 1, 1) := by decide +kernel
theorem dX8_makes_2 : decode cX8_makes 2 = .ok (.invokevirtual 101, 3) := by decide +kernel
theorem dX8_makes_5 : decode cX8_makes 5 = .ok (.ifCond .eq 10, 3) := by decide +kernel
theorem dX8_makes_8 : decode cX8_makes 8 = .ok (.iload_n 2, 1) := by decide +kernel
theorem dX8_makes_9 : decode cX8_makes 9 = .ok (.invokestatic 105, 3) := by decide +kernel
theorem dX8_makes_12 : decode cX8_makes 12 = .ok (.ifCond .ne 9, 3) := by decide +kernel
theorem dX8_makes_15 : decode cX8_makes 15 = .ok (.aload_n 0, 1) := by decide +kernel
theorem dX8_makes_16 : decode cX8_makes 16 = .ok (.iconst (-1), 1) := by decide +kernel
theorem dX8_makes_17 : decode cX8_makes 17 = .ok (.invokevirtual 41, 3) := by decide +kernel
theorem dX8_makes_20 : decode cX8_makes 20 = .ok (.ireturn, 1) := by decide +kernel
theorem dX8_makes_21 : decode cX8_makes 21 = .ok (.iload_n 3, 1) := by decide +kernel
theorem dX8_makes_22 : decode cX8_makes 22 = .ok (.ifCond .ge 10, 3) := by decide +kernel
theorem dX8_makes_25 : decode cX8_makes 25 = .ok (.aload_n 0, 1) := by decide +kernel
theorem dX8_makes_26 : decode cX8_makes 26 = .ok (.bipush (-4), 2) := by decide +kernel
theorem dX8_makes_28 : decode cX8_makes 28 = .ok (.invokevirtual 41, 3) := by decide +kernel
theorem dX8_makes_31 : decode cX8_makes 31 = .ok (.ireturn, 1) := by decide +kernel
theorem dX8_makes_32 : decode cX8_makes 32 = .ok (.iload_n 3, 1) := by decide +kernel
theorem dX8_makes_33 : decode cX8_makes 33 = .ok (.bipush 99, 2) := by decide +kernel
theorem dX8_makes_35 : decode cX8_makes 35 = .ok (.if_icmp .le 10, 3) := by decide +kernel
theorem dX8_makes_38 : decode cX8_makes 38 = .ok (.aload_n 0, 1) := by decide +kernel
theorem dX8_makes_39 : decode cX8_makes 39 = .ok (.bipush (-6), 2) := by decide +kernel
theorem dX8_makes_41 : decode cX8_makes 41 = .ok (.invokevirtual 41, 3) := by decide +kernel
theorem dX8_makes_44 : decode cX8_makes 44 = .ok (.ireturn, 1) := by decide +kernel
theorem dX8_makes_45 : decode cX8_makes 45 = .ok (.aload_n 0, 1) := by decide +kernel
theorem dX8_makes_46 : decode cX8_makes 46 = .ok (.getfield 9, 3) := by decide +kernel
theorem dX8_makes_49 : decode cX8_makes 49 = .ok (.iload_n 1, 1) := by decide +kernel
theorem dX8_makes_50 : decode cX8_makes 50 = .ok (.iload_n 2, 1) := by decide +kernel
theorem dX8_makes_51 : decode cX8_makes 51 = .ok (.invokestatic 55, 3) := by decide +kernel
theorem dX8_makes_54 : decode cX8_makes 54 = .ok (.iaload, 1) := by decide +kernel
theorem dX8_makes_55 : decode cX8_makes 55 = .ok (.istore 4, 2) := by decide +kernel
theorem dX8_makes_57 : decode cX8_makes 57 = .ok (.aload_n 0, 1) := by decide +kernel
theorem dX8_makes_58 : decode cX8_makes 58 = .ok (.getfield 9, 3) := by decide +kernel
theorem dX8_makes_61 : decode cX8_makes 61 = .ok (.iload_n 1, 1) := by decide +kernel
theorem dX8_makes_62 : decode cX8_makes 62 = .ok (.iload_n 2, 1) := by decide +kernel
theorem dX8_makes_63 : decode cX8_makes 63 = .ok (.invokestatic 55, 3) := by decide +kernel
theorem dX8_makes_66 : decode cX8_makes 66 = .ok (.iload_n 3, 1) := by decide +kernel
theorem dX8_makes_67 : decode cX8_makes 67 = .ok (.iastore, 1) := by decide +kernel
theorem dX8_makes_68 : decode cX8_makes 68 = .ok (.iload 4, 2) := by decide +kernel
theorem dX8_makes_70 : decode cX8_makes 70 = .ok (.ireturn, 1) := by decide +kernel
theorem dX8_pairs_0 : decode cX8_pairs 0 = .ok (.aload_n 0, 1) := by decide +kernel
theorem dX8_pairs_1 : decode cX8_pairs 1 = .ok (.iload_n 1, 1) := by decide +kernel
theorem dX8_pairs_2 : decode cX8_pairs 2 = .ok (.iload_n 2, 1) := by decide +kernel
theorem dX8_pairs_3 : decode cX8_pairs 3 = .ok (.invokevirtual 129, 3) := by decide +kernel
theorem dX8_pairs_6 : decode cX8_pairs 6 = .ok (.ifCond .ne 9, 3) := by decide +kernel
theorem dX8_pairs_9 : decode cX8_pairs 9 = .ok (.aload_n 0, 1) := by decide +kernel
theorem dX8_pairs_10 : decode cX8_pairs 10 = .ok (.iconst (-1), 1) := by decide +kernel
theorem dX8_pairs_11 : decode cX8_pairs 11 = .ok (.invokevirtual 41, 3) := by decide +kernel
theorem dX8_pairs_14 : decode cX8_pairs 14 = .ok (.ireturn, 1) := by decide +kernel
theorem dX8_pairs_15 : decode cX8_pairs 15 = .ok (.aload_n 0, 1) := by decide +kernel
theorem dX8_pairs_16 : decode cX8_pairs 16 = .ok (.iload_n 1, 1) := by decide +kernel
theorem dX8_pairs_17 : decode cX8_pairs 17 = .ok (.iload_n 2, 1) := by decide +kernel
theorem dX8_pairs_18 : decode cX8_pairs 18 = .ok (.invokevirtual 108, 3) := by decide +kernel
theorem dX8_pairs_21 : decode cX8_pairs 21 = .ok (.aload_n 0, 1) := by decide +kernel
theorem dX8_pairs_22 : decode cX8_pairs 22 = .ok (.getfield 9, 3) := by decide +kernel
theorem dX8_pairs_25 : decode cX8_pairs 25 = .ok (.bipush 124, 2) := by decide +kernel
theorem dX8_pairs_27 : decode cX8_pairs 27 = .ok (.iload_n 1, 1) := by decide +kernel
theorem dX8_pairs_28 : decode cX8_pairs 28 = .ok (.iadd, 1) := by decide +kernel
theorem dX8_pairs_29 : decode cX8_pairs 29 = .ok (.iaload, 1) := by decide +kernel
theorem dX8_pairs_30 : decode cX8_pairs 30 = .ok (.iload_n 2, 1) := by decide +kernel
theorem dX8_pairs_31 : decode cX8_pairs 31 = .ok (.ishr, 1) := by decide +kernel
theorem dX8_pairs_32 : decode cX8_pairs 32 = .ok (.iconst 1, 1) := by decide +kernel
theorem dX8_pairs_33 : decode cX8_pairs 33 = .ok (.iand, 1) := by decide +kernel
theorem dX8_pairs_34 : decode cX8_pairs 34 = .ok (.ireturn, 1) := by decide +kernel
theorem dX8_now_0 : decode cX8_now 0 = .ok (.iload_n 1, 1) := by decide +kernel
theorem dX8_now_1 : decode cX8_now 1 = .ok (.invokestatic 105, 3) := by decide +kernel
theorem dX8_now_4 : decode cX8_now 4 = .ok (.ifCond .ne 9, 3) := by decide +kernel
theorem dX8_now_7 : decode cX8_now 7 = .ok (.aload_n 0, 1) := by decide +kernel
theorem dX8_now_8 : decode cX8_now 8 = .ok (.iconst (-1), 1) := by decide +kernel
theorem dX8_now_9 : decode cX8_now 9 = .ok (.invokevirtual 41, 3) := by decide +kernel
theorem dX8_now_12 : decode cX8_now 12 = .ok (.ireturn, 1) := by decide +kernel
theorem dX8_now_13 : decode cX8_now 13 = .ok (.aload_n 0, 1) := by decide +kernel
theorem dX8_now_14 : decode cX8_now 14 = .ok (.getfield 9, 3) := by decide +kernel
theorem dX8_now_17 : decode cX8_now 17 = .ok (.iconst 1, 1) := by decide +kernel
theorem dX8_now_18 : decode cX8_now 18 = .ok (.iaload, 1) := by decide +kernel
theorem dX8_now_19 : decode cX8_now 19 = .ok (.istore_n 2, 1) := by decide +kernel
theorem dX8_now_20 : decode cX8_now 20 = .ok (.aload_n 0, 1) := by decide +kernel
theorem dX8_now_21 : decode cX8_now 21 = .ok (.getfield 9, 3) := by decide +kernel
theorem dX8_now_24 : decode cX8_now 24 = .ok (.iconst 1, 1) := by decide +kernel
theorem dX8_now_25 : decode cX8_now 25 = .ok (.iload_n 1, 1) := by decide +kernel
theorem dX8_now_26 : decode cX8_now 26 = .ok (.iastore, 1) := by decide +kernel
theorem dX8_now_27 : decode cX8_now 27 = .ok (.iload_n 2, 1) := by decide +kernel
theorem dX8_now_28 : decode cX8_now 28 = .ok (.ireturn, 1) := by decide +kernel
theorem dX8_hands_0 : decode cX8_hands 0 = .ok (.iload_n 1, 1) := by decide +kernel
theorem dX8_hands_1 : decode cX8_hands 1 = .ok (.iconst 1, 1) := by decide +kernel
theorem dX8_hands_2 : decode cX8_hands 2 = .ok (.if_icmp .ge 10, 3) := by decide +kernel
theorem dX8_hands_5 : decode cX8_hands 5 = .ok (.aload_n 0, 1) := by decide +kernel
theorem dX8_hands_6 : decode cX8_hands 6 = .ok (.bipush (-4), 2) := by decide +kernel
theorem dX8_hands_8 : decode cX8_hands 8 = .ok (.invokevirtual 41, 3) := by decide +kernel
theorem dX8_hands_11 : decode cX8_hands 11 = .ok (.ireturn, 1) := by decide +kernel
theorem dX8_hands_12 : decode cX8_hands 12 = .ok (.iload_n 1, 1) := by decide +kernel
theorem dX8_hands_13 : decode cX8_hands 13 = .ok (.iconst 4, 1) := by decide +kernel
theorem dX8_hands_14 : decode cX8_hands 14 = .ok (.if_icmp .le 10, 3) := by decide +kernel
theorem dX8_hands_17 : decode cX8_hands 17 = .ok (.aload_n 0, 1) := by decide +kernel
theorem dX8_hands_18 : decode cX8_hands 18 = .ok (.bipush (-6), 2) := by decide +kernel
theorem dX8_hands_20 : decode cX8_hands 20 = .ok (.invokevirtual 41, 3) := by decide +kernel
theorem dX8_hands_23 : decode cX8_hands 23 = .ok (.ireturn, 1) := by decide +kernel
theorem dX8_hands_24 : decode cX8_hands 24 = .ok (.aload_n 0, 1) := by decide +kernel
theorem dX8_hands_25 : decode cX8_hands 25 = .ok (.getfield 9, 3) := by decide +kernel
theorem dX8_hands_28 : decode cX8_hands 28 = .ok (.iconst 3, 1) := by decide +kernel
theorem dX8_hands_29 : decode cX8_hands 29 = .ok (.iaload, 1) := by decide +kernel
theorem dX8_hands_30 : decode cX8_hands 30 = .ok (.istore_n 2, 1) := by decide +kernel
theorem dX8_hands_31 : decode cX8_hands 31 = .ok (.aload_n 0, 1) := by decide +kernel
theorem dX8_hands_32 : decode cX8_hands 32 = .ok (.getfield 9, 3) := by decide +kernel
theorem dX8_hands_35 : decode cX8_hands 35 = .ok (.iconst 3, 1) := by decide +kernel
theorem dX8_hands_36 : decode cX8_hands 36 = .ok (.iload_n 1, 1) := by decide +kernel
theorem dX8_hands_37 : decode cX8_hands 37 = .ok (.iastore, 1) := by decide +kernel
theorem dX8_hands_38 : decode cX8_hands 38 = .ok (.iload_n 2, 1) := by decide +kernel
theorem dX8_hands_39 : decode cX8_hands 39 = .ok (.ireturn, 1) := by decide +kernel
theorem dX8_pours_0 : decode cX8_pours 0 = .ok (.iload_n 1, 1) := by decide +kernel
theorem dX8_pours_1 : decode cX8_pours 1 = .ok (.ifCond .ge 10, 3) := by decide +kernel
theorem dX8_pours_4 : decode cX8_pours 4 = .ok (.aload_n 0, 1) := by decide +kernel
theorem dX8_pours_5 : decode cX8_pours 5 = .ok (.bipush (-4), 2) := by decide +kernel
theorem dX8_pours_7 : decode cX8_pours 7 = .ok (.invokevirtual 41, 3) := by decide +kernel
theorem dX8_pours_10 : decode cX8_pours 10 = .ok (.ireturn, 1) := by decide +kernel
theorem dX8_pours_11 : decode cX8_pours 11 = .ok (.iload_n 1, 1) := by decide +kernel
theorem dX8_pours_12 : decode cX8_pours 12 = .ok (.bipush 99, 2) := by decide +kernel
theorem dX8_pours_14 : decode cX8_pours 14 = .ok (.if_icmp .le 10, 3) := by decide +kernel
theorem dX8_pours_17 : decode cX8_pours 17 = .ok (.aload_n 0, 1) := by decide +kernel
theorem dX8_pours_18 : decode cX8_pours 18 = .ok (.bipush (-6), 2) := by decide +kernel
theorem dX8_pours_20 : decode cX8_pours 20 = .ok (.invokevirtual 41, 3) := by decide +kernel
theorem dX8_pours_23 : decode cX8_pours 23 = .ok (.ireturn, 1) := by decide +kernel
theorem dX8_pours_24 : decode cX8_pours 24 = .ok (.aload_n 0, 1) := by decide +kernel
theorem dX8_pours_25 : decode cX8_pours 25 = .ok (.getfield 9, 3) := by decide +kernel
theorem dX8_pours_28 : decode cX8_pours 28 = .ok (.iconst 2, 1) := by decide +kernel
theorem dX8_pours_29 : decode cX8_pours 29 = .ok (.iaload, 1) := by decide +kernel
theorem dX8_pours_30 : decode cX8_pours 30 = .ok (.istore_n 2, 1) := by decide +kernel
theorem dX8_pours_31 : decode cX8_pours 31 = .ok (.aload_n 0, 1) := by decide +kernel
theorem dX8_pours_32 : decode cX8_pours 32 = .ok (.getfield 9, 3) := by decide +kernel
theorem dX8_pours_35 : decode cX8_pours 35 = .ok (.iconst 2, 1) := by decide +kernel
theorem dX8_pours_36 : decode cX8_pours 36 = .ok (.iload_n 1, 1) := by decide +kernel
theorem dX8_pours_37 : decode cX8_pours 37 = .ok (.iastore, 1) := by decide +kernel
theorem dX8_pours_38 : decode cX8_pours 38 = .ok (.iload_n 2, 1) := by decide +kernel
theorem dX8_pours_39 : decode cX8_pours 39 = .ok (.ireturn, 1) := by decide +kernel
theorem dX8_wrongGlue_0 : decode cX8_wrongGlue 0 = .ok (.aload_n 0, 1) := by decide +kernel
theorem dX8_wrongGlue_1 : decode cX8_wrongGlue 1 = .ok (.iload_n 1, 1) := by decide +kernel
theorem dX8_wrongGlue_2 : decode cX8_wrongGlue 2 = .ok (.invokevirtual 101, 3) := by decide +kernel
theorem dX8_wrongGlue_5 : decode cX8_wrongGlue 5 = .ok (.ifCond .ne 7, 3) := by decide +kernel
theorem dX8_wrongGlue_8 : decode cX8_wrongGlue 8 = .ok (.iconst (-1), 1) := by decide +kernel
theorem dX8_wrongGlue_9 : decode cX8_wrongGlue 9 = .ok (.goto 34, 3) := by decide +kernel
theorem dX8_wrongGlue_12 : decode cX8_wrongGlue 12 = .ok (.iload_n 2, 1) := by decide +kernel
theorem dX8_wrongGlue_13 : decode cX8_wrongGlue 13 = .ok (.ifCond .lt 7, 3) := by decide +kernel
theorem dX8_wrongGlue_16 : decode cX8_wrongGlue 16 = .ok (.iload_n 3, 1) := by decide +kernel
theorem dX8_wrongGlue_17 : decode cX8_wrongGlue 17 = .ok (.ifCond .ge 8, 3) := by decide +kernel
theorem dX8_wrongGlue_20 : decode cX8_wrongGlue 20 = .ok (.bipush (-4), 2) := by decide +kernel
theorem dX8_wrongGlue_22 : decode cX8_wrongGlue 22 = .ok (.goto 21, 3) := by decide +kernel
theorem dX8_wrongGlue_25 : decode cX8_wrongGlue 25 = .ok (.iload_n 2, 1) := by decide +kernel
theorem dX8_wrongGlue_26 : decode cX8_wrongGlue 26 = .ok (.bipush 99, 2) := by decide +kernel
theorem dX8_wrongGlue_28 : decode cX8_wrongGlue 28 = .ok (.if_icmp .gt 9, 3) := by decide +kernel
theorem dX8_wrongGlue_31 : decode cX8_wrongGlue 31 = .ok (.iload_n 3, 1) := by decide +kernel
theorem dX8_wrongGlue_32 : decode cX8_wrongGlue 32 = .ok (.bipush 9, 2) := by decide +kernel
theorem dX8_wrongGlue_34 : decode cX8_wrongGlue 34 = .ok (.if_icmp .le 8, 3) := by decide +kernel
theorem dX8_wrongGlue_37 : decode cX8_wrongGlue 37 = .ok (.bipush (-6), 2) := by decide +kernel
theorem dX8_wrongGlue_39 : decode cX8_wrongGlue 39 = .ok (.goto 4, 3) := by decide +kernel
theorem dX8_wrongGlue_42 : decode cX8_wrongGlue 42 = .ok (.iconst 0, 1) := by decide +kernel
theorem dX8_wrongGlue_43 : decode cX8_wrongGlue 43 = .ok (.ireturn, 1) := by decide +kernel
theorem dX8_glues_0 : decode cX8_glues 0 = .ok (.aload_n 0, 1) := by decide +kernel
theorem dX8_glues_1 : decode cX8_glues 1 = .ok (.iload_n 1, 1) := by decide +kernel
theorem dX8_glues_2 : decode cX8_glues 2 = .ok (.iload_n 2, 1) := by decide +kernel
theorem dX8_glues_3 : decode cX8_glues 3 = .ok (.iload_n 3, 1) := by decide +kernel
theorem dX8_glues_4 : decode cX8_glues 4 = .ok (.invokevirtual 132, 3) := by decide +kernel
theorem dX8_glues_7 : decode cX8_glues 7 = .ok (.istore 4, 2) := by decide +kernel
theorem dX8_glues_9 : decode cX8_glues 9 = .ok (.iload 4, 2) := by decide +kernel
theorem dX8_glues_11 : decode cX8_glues 11 = .ok (.ifCond .ne 15, 3) := by decide +kernel
theorem dX8_glues_14 : decode cX8_glues 14 = .ok (.aload_n 0, 1) := by decide +kernel
theorem dX8_glues_15 : decode cX8_glues 15 = .ok (.iload_n 1, 1) := by decide +kernel
theorem dX8_glues_16 : decode cX8_glues 16 = .ok (.invokevirtual 112, 3) := by decide +kernel
theorem dX8_glues_19 : decode cX8_glues 19 = .ok (.ifCond .ne 7, 3) := by decide +kernel
theorem dX8_glues_22 : decode cX8_glues 22 = .ok (.bipush (-3), 2) := by decide +kernel
theorem dX8_glues_24 : decode cX8_glues 24 = .ok (.istore 4, 2) := by decide +kernel
theorem dX8_glues_26 : decode cX8_glues 26 = .ok (.iload 4, 2) := by decide +kernel
theorem dX8_glues_28 : decode cX8_glues 28 = .ok (.ifCond .eq 12, 3) := by decide +kernel
theorem dX8_glues_31 : decode cX8_glues 31 = .ok (.aload_n 0, 1) := by decide +kernel
theorem dX8_glues_32 : decode cX8_glues 32 = .ok (.iload 4, 2) := by decide +kernel
theorem dX8_glues_34 : decode cX8_glues 34 = .ok (.invokevirtual 41, 3) := by decide +kernel
theorem dX8_glues_37 : decode cX8_glues 37 = .ok (.goto 10, 3) := by decide +kernel
theorem dX8_glues_40 : decode cX8_glues 40 = .ok (.aload_n 0, 1) := by decide +kernel
theorem dX8_glues_41 : decode cX8_glues 41 = .ok (.iload_n 1, 1) := by decide +kernel
theorem dX8_glues_42 : decode cX8_glues 42 = .ok (.iload_n 2, 1) := by decide +kernel
theorem dX8_glues_43 : decode cX8_glues 43 = .ok (.iload_n 3, 1) := by decide +kernel
theorem dX8_glues_44 : decode cX8_glues 44 = .ok (.invokevirtual 115, 3) := by decide +kernel
theorem dX8_glues_47 : decode cX8_glues 47 = .ok (.ireturn, 1) := by decide +kernel
theorem dX8_washes_0 : decode cX8_washes 0 = .ok (.aload_n 0, 1) := by decide +kernel
theorem dX8_washes_1 : decode cX8_washes 1 = .ok (.iload_n 1, 1) := by decide +kernel
theorem dX8_washes_2 : decode cX8_washes 2 = .ok (.invokevirtual 101, 3) := by decide +kernel
theorem dX8_washes_5 : decode cX8_washes 5 = .ok (.ifCond .ne 9, 3) := by decide +kernel
theorem dX8_washes_8 : decode cX8_washes 8 = .ok (.aload_n 0, 1) := by decide +kernel
theorem dX8_washes_9 : decode cX8_washes 9 = .ok (.iconst (-1), 1) := by decide +kernel
theorem dX8_washes_10 : decode cX8_washes 10 = .ok (.invokevirtual 41, 3) := by decide +kernel
theorem dX8_washes_13 : decode cX8_washes 13 = .ok (.ireturn, 1) := by decide +kernel
theorem dX8_washes_14 : decode cX8_washes 14 = .ok (.aload_n 0, 1) := by decide +kernel
theorem dX8_washes_15 : decode cX8_washes 15 = .ok (.getfield 9, 3) := by decide +kernel
theorem dX8_washes_18 : decode cX8_washes 18 = .ok (.bipush 20, 2) := by decide +kernel
theorem dX8_washes_20 : decode cX8_washes 20 = .ok (.iload_n 1, 1) := by decide +kernel
theorem dX8_washes_21 : decode cX8_washes 21 = .ok (.iadd, 1) := by decide +kernel
theorem dX8_washes_22 : decode cX8_washes 22 = .ok (.iaload, 1) := by decide +kernel
theorem dX8_washes_23 : decode cX8_washes 23 = .ok (.istore_n 2, 1) := by decide +kernel
theorem dX8_washes_24 : decode cX8_washes 24 = .ok (.iload_n 2, 1) := by decide +kernel
theorem dX8_washes_25 : decode cX8_washes 25 = .ok (.ifCond .ge 10, 3) := by decide +kernel
theorem dX8_washes_28 : decode cX8_washes 28 = .ok (.aload_n 0, 1) := by decide +kernel
theorem dX8_washes_29 : decode cX8_washes 29 = .ok (.bipush (-3), 2) := by decide +kernel
theorem dX8_washes_31 : decode cX8_washes 31 = .ok (.invokevirtual 41, 3) := by decide +kernel
theorem dX8_washes_34 : decode cX8_washes 34 = .ok (.ireturn, 1) := by decide +kernel
theorem dX8_washes_35 : decode cX8_washes 35 = .ok (.aload_n 0, 1) := by decide +kernel
theorem dX8_washes_36 : decode cX8_washes 36 = .ok (.getfield 9, 3) := by decide +kernel
theorem dX8_washes_39 : decode cX8_washes 39 = .ok (.bipush 20, 2) := by decide +kernel
theorem dX8_washes_41 : decode cX8_washes 41 = .ok (.iload_n 1, 1) := by decide +kernel
theorem dX8_washes_42 : decode cX8_washes 42 = .ok (.iadd, 1) := by decide +kernel
theorem dX8_washes_43 : decode cX8_washes 43 = .ok (.bipush (-9), 2) := by decide +kernel
theorem dX8_washes_45 : decode cX8_washes 45 = .ok (.iastore, 1) := by decide +kernel
theorem dX8_washes_46 : decode cX8_washes 46 = .ok (.iload_n 2, 1) := by decide +kernel
theorem dX8_washes_47 : decode cX8_washes 47 = .ok (.ireturn, 1) := by decide +kernel
theorem dX8_would_0 : decode cX8_would 0 = .ok (.aload_n 0, 1) := by decide +kernel
theorem dX8_would_1 : decode cX8_would 1 = .ok (.iload_n 1, 1) := by decide +kernel
theorem dX8_would_2 : decode cX8_would 2 = .ok (.iload_n 2, 1) := by decide +kernel
theorem dX8_would_3 : decode cX8_would 3 = .ok (.iload_n 3, 1) := by decide +kernel
theorem dX8_would_4 : decode cX8_would 4 = .ok (.invokevirtual 132, 3) := by decide +kernel
theorem dX8_would_7 : decode cX8_would 7 = .ok (.istore 5, 2) := by decide +kernel
theorem dX8_would_9 : decode cX8_would 9 = .ok (.iload 5, 2) := by decide +kernel
theorem dX8_would_11 : decode cX8_would 11 = .ok (.ifCond .ne 17, 3) := by decide +kernel
theorem dX8_would_14 : decode cX8_would 14 = .ok (.iload 4, 2) := by decide +kernel
theorem dX8_would_16 : decode cX8_would 16 = .ok (.iconst 0, 1) := by decide +kernel
theorem dX8_would_17 : decode cX8_would 17 = .ok (.iconst 2, 1) := by decide +kernel
theorem dX8_would_18 : decode cX8_would 18 = .ok (.invokestatic 47, 3) := by decide +kernel
theorem dX8_would_21 : decode cX8_would 21 = .ok (.ifCond .ne 7, 3) := by decide +kernel
theorem dX8_would_24 : decode cX8_would 24 = .ok (.bipush (-2), 2) := by decide +kernel
theorem dX8_would_26 : decode cX8_would 26 = .ok (.istore 5, 2) := by decide +kernel
theorem dX8_would_28 : decode cX8_would 28 = .ok (.iload 5, 2) := by decide +kernel
theorem dX8_would_30 : decode cX8_would 30 = .ok (.ifCond .eq 10, 3) := by decide +kernel
theorem dX8_would_33 : decode cX8_would 33 = .ok (.aload_n 0, 1) := by decide +kernel
theorem dX8_would_34 : decode cX8_would 34 = .ok (.iload 5, 2) := by decide +kernel
theorem dX8_would_36 : decode cX8_would 36 = .ok (.invokevirtual 41, 3) := by decide +kernel
theorem dX8_would_39 : decode cX8_would 39 = .ok (.ireturn, 1) := by decide +kernel
theorem dX8_would_40 : decode cX8_would 40 = .ok (.aload_n 0, 1) := by decide +kernel
theorem dX8_would_41 : decode cX8_would 41 = .ok (.getfield 9, 3) := by decide +kernel
theorem dX8_would_44 : decode cX8_would 44 = .ok (.iload_n 1, 1) := by decide +kernel
theorem dX8_would_45 : decode cX8_would 45 = .ok (.iload_n 2, 1) := by decide +kernel
theorem dX8_would_46 : decode cX8_would 46 = .ok (.iload_n 3, 1) := by decide +kernel
theorem dX8_would_47 : decode cX8_would 47 = .ok (.invokestatic 73, 3) := by decide +kernel
theorem dX8_would_50 : decode cX8_would 50 = .ok (.istore 6, 2) := by decide +kernel
theorem dX8_would_52 : decode cX8_would 52 = .ok (.iload 4, 2) := by decide +kernel
theorem dX8_would_54 : decode cX8_would 54 = .ok (.ifCond .ne 8, 3) := by decide +kernel
theorem dX8_would_57 : decode cX8_would 57 = .ok (.iload 6, 2) := by decide +kernel
theorem dX8_would_59 : decode cX8_would 59 = .ok (.goto 33, 3) := by decide +kernel
theorem dX8_would_62 : decode cX8_would 62 = .ok (.iload 4, 2) := by decide +kernel
theorem dX8_would_64 : decode cX8_would 64 = .ok (.iconst 1, 1) := by decide +kernel
theorem dX8_would_65 : decode cX8_would 65 = .ok (.if_icmp .ne 16, 3) := by decide +kernel
theorem dX8_would_68 : decode cX8_would 68 = .ok (.aload_n 0, 1) := by decide +kernel
theorem dX8_would_69 : decode cX8_would 69 = .ok (.getfield 9, 3) := by decide +kernel
theorem dX8_would_72 : decode cX8_would 72 = .ok (.iload_n 1, 1) := by decide +kernel
theorem dX8_would_73 : decode cX8_would 73 = .ok (.iload_n 2, 1) := by decide +kernel
theorem dX8_would_74 : decode cX8_would 74 = .ok (.iload_n 3, 1) := by decide +kernel
theorem dX8_would_75 : decode cX8_would 75 = .ok (.invokestatic 62, 3) := by decide +kernel
theorem dX8_would_78 : decode cX8_would 78 = .ok (.goto 14, 3) := by decide +kernel
theorem dX8_would_81 : decode cX8_would 81 = .ok (.aload_n 0, 1) := by decide +kernel
theorem dX8_would_82 : decode cX8_would 82 = .ok (.getfield 9, 3) := by decide +kernel
theorem dX8_would_85 : decode cX8_would 85 = .ok (.iload_n 1, 1) := by decide +kernel
theorem dX8_would_86 : decode cX8_would 86 = .ok (.iload 6, 2) := by decide +kernel
theorem dX8_would_88 : decode cX8_would 88 = .ok (.invokestatic 55, 3) := by decide +kernel
theorem dX8_would_91 : decode cX8_would 91 = .ok (.iaload, 1) := by decide +kernel
theorem dX8_would_92 : decode cX8_would 92 = .ok (.ireturn, 1) := by decide +kernel
theorem dX8_canOf_0 : decode cX8_canOf 0 = .ok (.iconst 0, 1) := by decide +kernel
theorem dX8_canOf_1 : decode cX8_canOf 1 = .ok (.istore_n 2, 1) := by decide +kernel
theorem dX8_canOf_2 : decode cX8_canOf 2 = .ok (.iconst 0, 1) := by decide +kernel
theorem dX8_canOf_3 : decode cX8_canOf 3 = .ok (.istore_n 3, 1) := by decide +kernel
theorem dX8_canOf_4 : decode cX8_canOf 4 = .ok (.iload_n 3, 1) := by decide +kernel
theorem dX8_canOf_5 : decode cX8_canOf 5 = .ok (.bipush 99, 2) := by decide +kernel
theorem dX8_canOf_7 : decode cX8_canOf 7 = .ok (.if_icmp .gt 21, 3) := by decide +kernel
theorem dX8_canOf_10 : decode cX8_canOf 10 = .ok (.iload_n 2, 1) := by decide +kernel
theorem dX8_canOf_11 : decode cX8_canOf 11 = .ok (.iconst 1, 1) := by decide +kernel
theorem dX8_canOf_12 : decode cX8_canOf 12 = .ok (.aload_n 0, 1) := by decide +kernel
theorem dX8_canOf_13 : decode cX8_canOf 13 = .ok (.iload_n 1, 1) := by decide +kernel
theorem dX8_canOf_14 : decode cX8_canOf 14 = .ok (.iload_n 3, 1) := by decide +kernel
theorem dX8_canOf_15 : decode cX8_canOf 15 = .ok (.iconst 0, 1) := by decide +kernel
theorem dX8_canOf_16 : decode cX8_canOf 16 = .ok (.invokestatic 73, 3) := by decide +kernel
theorem dX8_canOf_19 : decode cX8_canOf 19 = .ok (.ishl, 1) := by decide +kernel
theorem dX8_canOf_20 : decode cX8_canOf 20 = .ok (.ior, 1) := by decide +kernel
theorem dX8_canOf_21 : decode cX8_canOf 21 = .ok (.istore_n 2, 1) := by decide +kernel
theorem dX8_canOf_22 : decode cX8_canOf 22 = .ok (.iinc 3 5, 3) := by decide +kernel
theorem dX8_canOf_25 : decode cX8_canOf 25 = .ok (.goto (-21), 3) := by decide +kernel
theorem dX8_canOf_28 : decode cX8_canOf 28 = .ok (.iload_n 2, 1) := by decide +kernel
theorem dX8_canOf_29 : decode cX8_canOf 29 = .ok (.ireturn, 1) := by decide +kernel
theorem dX8_can_0 : decode cX8_can 0 = .ok (.aload_n 0, 1) := by decide +kernel
theorem dX8_can_1 : decode cX8_can 1 = .ok (.iload_n 1, 1) := by decide +kernel
theorem dX8_can_2 : decode cX8_can 2 = .ok (.invokevirtual 101, 3) := by decide +kernel
theorem dX8_can_5 : decode cX8_can 5 = .ok (.ifCond .eq 14, 3) := by decide +kernel
theorem dX8_can_8 : decode cX8_can 8 = .ok (.aload_n 0, 1) := by decide +kernel
theorem dX8_can_9 : decode cX8_can 9 = .ok (.getfield 9, 3) := by decide +kernel
theorem dX8_can_12 : decode cX8_can 12 = .ok (.iload_n 1, 1) := by decide +kernel
theorem dX8_can_13 : decode cX8_can 13 = .ok (.invokestatic 135, 3) := by decide +kernel
theorem dX8_can_16 : decode cX8_can 16 = .ok (.goto 8, 3) := by decide +kernel
theorem dX8_can_19 : decode cX8_can 19 = .ok (.aload_n 0, 1) := by decide +kernel
theorem dX8_can_20 : decode cX8_can 20 = .ok (.iconst (-1), 1) := by decide +kernel
theorem dX8_can_21 : decode cX8_can 21 = .ok (.invokevirtual 41, 3) := by decide +kernel
theorem dX8_can_24 : decode cX8_can 24 = .ok (.ireturn, 1) := by decide +kernel
theorem dX8_fewest_0 : decode cX8_fewest 0 = .ok (.aload_n 0, 1) := by decide +kernel
theorem dX8_fewest_1 : decode cX8_fewest 1 = .ok (.iload_n 1, 1) := by decide +kernel
theorem dX8_fewest_2 : decode cX8_fewest 2 = .ok (.invokevirtual 101, 3) := by decide +kernel
theorem dX8_fewest_5 : decode cX8_fewest 5 = .ok (.ifCond .eq 22, 3) := by decide +kernel
theorem dX8_fewest_8 : decode cX8_fewest 8 = .ok (.iload_n 2, 1) := by decide +kernel
theorem dX8_fewest_9 : decode cX8_fewest 9 = .ok (.invokestatic 105, 3) := by decide +kernel
theorem dX8_fewest_12 : decode cX8_fewest 12 = .ok (.ifCond .eq 15, 3) := by decide +kernel
theorem dX8_fewest_15 : decode cX8_fewest 15 = .ok (.aload_n 0, 1) := by decide +kernel
theorem dX8_fewest_16 : decode cX8_fewest 16 = .ok (.getfield 9, 3) := by decide +kernel
theorem dX8_fewest_19 : decode cX8_fewest 19 = .ok (.iload_n 1, 1) := by decide +kernel
theorem dX8_fewest_20 : decode cX8_fewest 20 = .ok (.iload_n 2, 1) := by decide +kernel
theorem dX8_fewest_21 : decode cX8_fewest 21 = .ok (.invokestatic 138, 3) := by decide +kernel
theorem dX8_fewest_24 : decode cX8_fewest 24 = .ok (.goto 8, 3) := by decide +kernel
theorem dX8_fewest_27 : decode cX8_fewest 27 = .ok (.aload_n 0, 1) := by decide +kernel
theorem dX8_fewest_28 : decode cX8_fewest 28 = .ok (.iconst (-1), 1) := by decide +kernel
theorem dX8_fewest_29 : decode cX8_fewest 29 = .ok (.invokevirtual 41, 3) := by decide +kernel
theorem dX8_fewest_32 : decode cX8_fewest 32 = .ok (.ireturn, 1) := by decide +kernel
theorem dX8_gladness_0 : decode cX8_gladness 0 = .ok (.aload_n 0, 1) := by decide +kernel
theorem dX8_gladness_1 : decode cX8_gladness 1 = .ok (.getfield 9, 3) := by decide +kernel
theorem dX8_gladness_4 : decode cX8_gladness 4 = .ok (.invokestatic 141, 3) := by decide +kernel
theorem dX8_gladness_7 : decode cX8_gladness 7 = .ok (.ireturn, 1) := by decide +kernel
theorem dX8_doAgree_0 : decode cX8_doAgree 0 = .ok (.aload_n 1, 1) := by decide +kernel
theorem dX8_doAgree_1 : decode cX8_doAgree 1 = .ok (.bipush 20, 2) := by decide +kernel
theorem dX8_doAgree_3 : decode cX8_doAgree 3 = .ok (.iload_n 2, 1) := by decide +kernel
theorem dX8_doAgree_4 : decode cX8_doAgree 4 = .ok (.iadd, 1) := by decide +kernel
theorem dX8_doAgree_5 : decode cX8_doAgree 5 = .ok (.iaload, 1) := by decide +kernel
theorem dX8_doAgree_6 : decode cX8_doAgree 6 = .ok (.ifCond .lt 22, 3) := by decide +kernel
theorem dX8_doAgree_9 : decode cX8_doAgree 9 = .ok (.aload_n 1, 1) := by decide +kernel
theorem dX8_doAgree_10 : decode cX8_doAgree 10 = .ok (.bipush 20, 2) := by decide +kernel
theorem dX8_doAgree_12 : decode cX8_doAgree 12 = .ok (.iload_n 2, 1) := by decide +kernel
theorem dX8_doAgree_13 : decode cX8_doAgree 13 = .ok (.iadd, 1) := by decide +kernel
theorem dX8_doAgree_14 : decode cX8_doAgree 14 = .ok (.iaload, 1) := by decide +kernel
theorem dX8_doAgree_15 : decode cX8_doAgree 15 = .ok (.aload_n 1, 1) := by decide +kernel
theorem dX8_doAgree_16 : decode cX8_doAgree 16 = .ok (.bipush 20, 2) := by decide +kernel
theorem dX8_doAgree_18 : decode cX8_doAgree 18 = .ok (.iload_n 3, 1) := by decide +kernel
theorem dX8_doAgree_19 : decode cX8_doAgree 19 = .ok (.iadd, 1) := by decide +kernel
theorem dX8_doAgree_20 : decode cX8_doAgree 20 = .ok (.iaload, 1) := by decide +kernel
theorem dX8_doAgree_21 : decode cX8_doAgree 21 = .ok (.if_icmp .ne 7, 3) := by decide +kernel
theorem dX8_doAgree_24 : decode cX8_doAgree 24 = .ok (.iconst 1, 1) := by decide +kernel
theorem dX8_doAgree_25 : decode cX8_doAgree 25 = .ok (.goto 4, 3) := by decide +kernel
theorem dX8_doAgree_28 : decode cX8_doAgree 28 = .ok (.iconst 0, 1) := by decide +kernel
theorem dX8_doAgree_29 : decode cX8_doAgree 29 = .ok (.ireturn, 1) := by decide +kernel
theorem dX8_agreeMany_0 : decode cX8_agreeMany 0 = .ok (.iconst 0, 1) := by decide +kernel
theorem dX8_agreeMany_1 : decode cX8_agreeMany 1 = .ok (.istore_n 2, 1) := by decide +kernel
theorem dX8_agreeMany_2 : decode cX8_agreeMany 2 = .ok (.iconst 0, 1) := by decide +kernel
theorem dX8_agreeMany_3 : decode cX8_agreeMany 3 = .ok (.istore_n 3, 1) := by decide +kernel
theorem dX8_agreeMany_4 : decode cX8_agreeMany 4 = .ok (.iload_n 3, 1) := by decide +kernel
theorem dX8_agreeMany_5 : decode cX8_agreeMany 5 = .ok (.aload_n 1, 1) := by decide +kernel
theorem dX8_agreeMany_6 : decode cX8_agreeMany 6 = .ok (.iconst 0, 1) := by decide +kernel
theorem dX8_agreeMany_7 : decode cX8_agreeMany 7 = .ok (.iaload, 1) := by decide +kernel
theorem dX8_agreeMany_8 : decode cX8_agreeMany 8 = .ok (.if_icmp .ge 62, 3) := by decide +kernel
theorem dX8_agreeMany_11 : decode cX8_agreeMany 11 = .ok (.iload_n 3, 1) := by decide +kernel
theorem dX8_agreeMany_12 : decode cX8_agreeMany 12 = .ok (.iconst 1, 1) := by decide +kernel
theorem dX8_agreeMany_13 : decode cX8_agreeMany 13 = .ok (.iadd, 1) := by decide +kernel
theorem dX8_agreeMany_14 : decode cX8_agreeMany 14 = .ok (.istore 4, 2) := by decide +kernel
theorem dX8_agreeMany_16 : decode cX8_agreeMany 16 = .ok (.iload 4, 2) := by decide +kernel
theorem dX8_agreeMany_18 : decode cX8_agreeMany 18 = .ok (.aload_n 1, 1) := by decide +kernel
theorem dX8_agreeMany_19 : decode cX8_agreeMany 19 = .ok (.iconst 0, 1) := by decide +kernel
theorem dX8_agreeMany_20 : decode cX8_agreeMany 20 = .ok (.iaload, 1) := by decide +kernel
theorem dX8_agreeMany_21 : decode cX8_agreeMany 21 = .ok (.if_icmp .ge 43, 3) := by decide +kernel
theorem dX8_agreeMany_24 : decode cX8_agreeMany 24 = .ok (.iload_n 2, 1) := by decide +kernel
theorem dX8_agreeMany_25 : decode cX8_agreeMany 25 = .ok (.aload_n 1, 1) := by decide +kernel
theorem dX8_agreeMany_26 : decode cX8_agreeMany 26 = .ok (.bipush 124, 2) := by decide +kernel
theorem dX8_agreeMany_28 : decode cX8_agreeMany 28 = .ok (.iload_n 3, 1) := by decide +kernel
theorem dX8_agreeMany_29 : decode cX8_agreeMany 29 = .ok (.iadd, 1) := by decide +kernel
theorem dX8_agreeMany_30 : decode cX8_agreeMany 30 = .ok (.iaload, 1) := by decide +kernel
theorem dX8_agreeMany_31 : decode cX8_agreeMany 31 = .ok (.iload 4, 2) := by decide +kernel
theorem dX8_agreeMany_33 : decode cX8_agreeMany 33 = .ok (.ishr, 1) := by decide +kernel
theorem dX8_agreeMany_34 : decode cX8_agreeMany 34 = .ok (.iconst 1, 1) := by decide +kernel
theorem dX8_agreeMany_35 : decode cX8_agreeMany 35 = .ok (.iand, 1) := by decide +kernel
theorem dX8_agreeMany_36 : decode cX8_agreeMany 36 = .ok (.iconst 1, 1) := by decide +kernel
theorem dX8_agreeMany_37 : decode cX8_agreeMany 37 = .ok (.if_icmp .ne 18, 3) := by decide +kernel
theorem dX8_agreeMany_40 : decode cX8_agreeMany 40 = .ok (.aload_n 0, 1) := by decide +kernel
theorem dX8_agreeMany_41 : decode cX8_agreeMany 41 = .ok (.aload_n 1, 1) := by decide +kernel
theorem dX8_agreeMany_42 : decode cX8_agreeMany 42 = .ok (.iload_n 3, 1) := by decide +kernel
theorem dX8_agreeMany_43 : decode cX8_agreeMany 43 = .ok (.iload 4, 2) := by decide +kernel
theorem dX8_agreeMany_45 : decode cX8_agreeMany 45 = .ok (.invokevirtual 145, 3) := by decide +kernel
theorem dX8_agreeMany_48 : decode cX8_agreeMany 48 = .ok (.ifCond .eq 7, 3) := by decide +kernel
theorem dX8_agreeMany_51 : decode cX8_agreeMany 51 = .ok (.iconst 1, 1) := by decide +kernel
theorem dX8_agreeMany_52 : decode cX8_agreeMany 52 = .ok (.goto 4, 3) := by decide +kernel
theorem dX8_agreeMany_55 : decode cX8_agreeMany 55 = .ok (.iconst 0, 1) := by decide +kernel
theorem dX8_agreeMany_56 : decode cX8_agreeMany 56 = .ok (.iadd, 1) := by decide +kernel
theorem dX8_agreeMany_57 : decode cX8_agreeMany 57 = .ok (.istore_n 2, 1) := by decide +kernel
theorem dX8_agreeMany_58 : decode cX8_agreeMany 58 = .ok (.iinc 4 1, 3) := by decide +kernel
theorem dX8_agreeMany_61 : decode cX8_agreeMany 61 = .ok (.goto (-45), 3) := by decide +kernel
theorem dX8_agreeMany_64 : decode cX8_agreeMany 64 = .ok (.iinc 3 1, 3) := by decide +kernel
theorem dX8_agreeMany_67 : decode cX8_agreeMany 67 = .ok (.goto (-63), 3) := by decide +kernel
theorem dX8_agreeMany_70 : decode cX8_agreeMany 70 = .ok (.iload_n 2, 1) := by decide +kernel
theorem dX8_agreeMany_71 : decode cX8_agreeMany 71 = .ok (.ireturn, 1) := by decide +kernel
theorem dX8_agree_0 : decode cX8_agree 0 = .ok (.iload_n 1, 1) := by decide +kernel
theorem dX8_agree_1 : decode cX8_agree 1 = .ok (.iconst 0, 1) := by decide +kernel
theorem dX8_agree_2 : decode cX8_agree 2 = .ok (.iconst 1, 1) := by decide +kernel
theorem dX8_agree_3 : decode cX8_agree 3 = .ok (.invokestatic 47, 3) := by decide +kernel
theorem dX8_agree_6 : decode cX8_agree 6 = .ok (.ifCond .ne 10, 3) := by decide +kernel
theorem dX8_agree_9 : decode cX8_agree 9 = .ok (.aload_n 0, 1) := by decide +kernel
theorem dX8_agree_10 : decode cX8_agree 10 = .ok (.bipush (-2), 2) := by decide +kernel
theorem dX8_agree_12 : decode cX8_agree 12 = .ok (.invokevirtual 41, 3) := by decide +kernel
theorem dX8_agree_15 : decode cX8_agree 15 = .ok (.ireturn, 1) := by decide +kernel
theorem dX8_agree_16 : decode cX8_agree 16 = .ok (.iload_n 1, 1) := by decide +kernel
theorem dX8_agree_17 : decode cX8_agree 17 = .ok (.ifCond .ne 12, 3) := by decide +kernel
theorem dX8_agree_20 : decode cX8_agree 20 = .ok (.aload_n 0, 1) := by decide +kernel
theorem dX8_agree_21 : decode cX8_agree 21 = .ok (.aload_n 0, 1) := by decide +kernel
theorem dX8_agree_22 : decode cX8_agree 22 = .ok (.getfield 9, 3) := by decide +kernel
theorem dX8_agree_25 : decode cX8_agree 25 = .ok (.invokevirtual 149, 3) := by decide +kernel
theorem dX8_agree_28 : decode cX8_agree 28 = .ok (.ireturn, 1) := by decide +kernel
theorem dX8_agree_29 : decode cX8_agree 29 = .ok (.iconst 0, 1) := by decide +kernel
theorem dX8_agree_30 : decode cX8_agree 30 = .ok (.istore_n 2, 1) := by decide +kernel
theorem dX8_agree_31 : decode cX8_agree 31 = .ok (.iload_n 2, 1) := by decide +kernel
theorem dX8_agree_32 : decode cX8_agree 32 = .ok (.aload_n 0, 1) := by decide +kernel
theorem dX8_agree_33 : decode cX8_agree 33 = .ok (.getfield 9, 3) := by decide +kernel
theorem dX8_agree_36 : decode cX8_agree 36 = .ok (.iconst 0, 1) := by decide +kernel
theorem dX8_agree_37 : decode cX8_agree 37 = .ok (.iaload, 1) := by decide +kernel
theorem dX8_agree_38 : decode cX8_agree 38 = .ok (.if_icmp .ge 66, 3) := by decide +kernel
theorem dX8_agree_41 : decode cX8_agree 41 = .ok (.iload_n 2, 1) := by decide +kernel
theorem dX8_agree_42 : decode cX8_agree 42 = .ok (.iconst 1, 1) := by decide +kernel
theorem dX8_agree_43 : decode cX8_agree 43 = .ok (.iadd, 1) := by decide +kernel
theorem dX8_agree_44 : decode cX8_agree 44 = .ok (.istore_n 3, 1) := by decide +kernel
theorem dX8_agree_45 : decode cX8_agree 45 = .ok (.iload_n 3, 1) := by decide +kernel
theorem dX8_agree_46 : decode cX8_agree 46 = .ok (.aload_n 0, 1) := by decide +kernel
theorem dX8_agree_47 : decode cX8_agree 47 = .ok (.getfield 9, 3) := by decide +kernel
theorem dX8_agree_50 : decode cX8_agree 50 = .ok (.iconst 0, 1) := by decide +kernel
theorem dX8_agree_51 : decode cX8_agree 51 = .ok (.iaload, 1) := by decide +kernel
theorem dX8_agree_52 : decode cX8_agree 52 = .ok (.if_icmp .ge 46, 3) := by decide +kernel
theorem dX8_agree_55 : decode cX8_agree 55 = .ok (.aload_n 0, 1) := by decide +kernel
theorem dX8_agree_56 : decode cX8_agree 56 = .ok (.getfield 9, 3) := by decide +kernel
theorem dX8_agree_59 : decode cX8_agree 59 = .ok (.bipush 124, 2) := by decide +kernel
theorem dX8_agree_61 : decode cX8_agree 61 = .ok (.iload_n 2, 1) := by decide +kernel
theorem dX8_agree_62 : decode cX8_agree 62 = .ok (.iadd, 1) := by decide +kernel
theorem dX8_agree_63 : decode cX8_agree 63 = .ok (.iaload, 1) := by decide +kernel
theorem dX8_agree_64 : decode cX8_agree 64 = .ok (.iload_n 3, 1) := by decide +kernel
theorem dX8_agree_65 : decode cX8_agree 65 = .ok (.ishr, 1) := by decide +kernel
theorem dX8_agree_66 : decode cX8_agree 66 = .ok (.iconst 1, 1) := by decide +kernel
theorem dX8_agree_67 : decode cX8_agree 67 = .ok (.iand, 1) := by decide +kernel
theorem dX8_agree_68 : decode cX8_agree 68 = .ok (.iconst 1, 1) := by decide +kernel
theorem dX8_agree_69 : decode cX8_agree 69 = .ok (.if_icmp .ne 23, 3) := by decide +kernel
theorem dX8_agree_72 : decode cX8_agree 72 = .ok (.aload_n 0, 1) := by decide +kernel
theorem dX8_agree_73 : decode cX8_agree 73 = .ok (.aload_n 0, 1) := by decide +kernel
theorem dX8_agree_74 : decode cX8_agree 74 = .ok (.getfield 9, 3) := by decide +kernel
theorem dX8_agree_77 : decode cX8_agree 77 = .ok (.iload_n 2, 1) := by decide +kernel
theorem dX8_agree_78 : decode cX8_agree 78 = .ok (.iload_n 3, 1) := by decide +kernel
theorem dX8_agree_79 : decode cX8_agree 79 = .ok (.invokevirtual 145, 3) := by decide +kernel
theorem dX8_agree_82 : decode cX8_agree 82 = .ok (.ifCond .ne 10, 3) := by decide +kernel
theorem dX8_agree_85 : decode cX8_agree 85 = .ok (.bipush 10, 2) := by decide +kernel
theorem dX8_agree_87 : decode cX8_agree 87 = .ok (.iload_n 2, 1) := by decide +kernel
theorem dX8_agree_88 : decode cX8_agree 88 = .ok (.imul, 1) := by decide +kernel
theorem dX8_agree_89 : decode cX8_agree 89 = .ok (.iload_n 3, 1) := by decide +kernel
theorem dX8_agree_90 : decode cX8_agree 90 = .ok (.iadd, 1) := by decide +kernel
theorem dX8_agree_91 : decode cX8_agree 91 = .ok (.ireturn, 1) := by decide +kernel
theorem dX8_agree_92 : decode cX8_agree 92 = .ok (.iinc 3 1, 3) := by decide +kernel
theorem dX8_agree_95 : decode cX8_agree 95 = .ok (.goto (-50), 3) := by decide +kernel
theorem dX8_agree_98 : decode cX8_agree 98 = .ok (.iinc 2 1, 3) := by decide +kernel
theorem dX8_agree_101 : decode cX8_agree 101 = .ok (.goto (-70), 3) := by decide +kernel
theorem dX8_agree_104 : decode cX8_agree 104 = .ok (.bipush (-9), 2) := by decide +kernel
theorem dX8_agree_106 : decode cX8_agree 106 = .ok (.ireturn, 1) := by decide +kernel
theorem dX8_mostBy_0 : decode cX8_mostBy 0 = .ok (.iconst (-1), 1) := by decide +kernel
theorem dX8_mostBy_1 : decode cX8_mostBy 1 = .ok (.istore_n 3, 1) := by decide +kernel
theorem dX8_mostBy_2 : decode cX8_mostBy 2 = .ok (.iconst 0, 1) := by decide +kernel
theorem dX8_mostBy_3 : decode cX8_mostBy 3 = .ok (.istore 4, 2) := by decide +kernel
theorem dX8_mostBy_5 : decode cX8_mostBy 5 = .ok (.iload 4, 2) := by decide +kernel
theorem dX8_mostBy_7 : decode cX8_mostBy 7 = .ok (.iconst 1, 1) := by decide +kernel
theorem dX8_mostBy_8 : decode cX8_mostBy 8 = .ok (.aload_n 1, 1) := by decide +kernel
theorem dX8_mostBy_9 : decode cX8_mostBy 9 = .ok (.iconst 0, 1) := by decide +kernel
theorem dX8_mostBy_10 : decode cX8_mostBy 10 = .ok (.iaload, 1) := by decide +kernel
theorem dX8_mostBy_11 : decode cX8_mostBy 11 = .ok (.ishl, 1) := by decide +kernel
theorem dX8_mostBy_12 : decode cX8_mostBy 12 = .ok (.if_icmp .ge 184, 3) := by decide +kernel
theorem dX8_mostBy_15 : decode cX8_mostBy 15 = .ok (.iload_n 2, 1) := by decide +kernel
theorem dX8_mostBy_16 : decode cX8_mostBy 16 = .ok (.istore 5, 2) := by decide +kernel
theorem dX8_mostBy_18 : decode cX8_mostBy 18 = .ok (.iconst 0, 1) := by decide +kernel
theorem dX8_mostBy_19 : decode cX8_mostBy 19 = .ok (.istore 6, 2) := by decide +kernel
theorem dX8_mostBy_21 : decode cX8_mostBy 21 = .ok (.iconst 1, 1) := by decide +kernel
theorem dX8_mostBy_22 : decode cX8_mostBy 22 = .ok (.istore 7, 2) := by decide +kernel
theorem dX8_mostBy_24 : decode cX8_mostBy 24 = .ok (.iconst 0, 1) := by decide +kernel
theorem dX8_mostBy_25 : decode cX8_mostBy 25 = .ok (.istore 8, 2) := by decide +kernel
theorem dX8_mostBy_27 : decode cX8_mostBy 27 = .ok (.iload 8, 2) := by decide +kernel
theorem dX8_mostBy_29 : decode cX8_mostBy 29 = .ok (.aload_n 1, 1) := by decide +kernel
theorem dX8_mostBy_30 : decode cX8_mostBy 30 = .ok (.iconst 0, 1) := by decide +kernel
theorem dX8_mostBy_31 : decode cX8_mostBy 31 = .ok (.iaload, 1) := by decide +kernel
theorem dX8_mostBy_32 : decode cX8_mostBy 32 = .ok (.if_icmp .ge 130, 3) := by decide +kernel
theorem dX8_mostBy_35 : decode cX8_mostBy 35 = .ok (.iload 4, 2) := by decide +kernel
theorem dX8_mostBy_37 : decode cX8_mostBy 37 = .ok (.iload 8, 2) := by decide +kernel
theorem dX8_mostBy_39 : decode cX8_mostBy 39 = .ok (.ishr, 1) := by decide +kernel
theorem dX8_mostBy_40 : decode cX8_mostBy 40 = .ok (.iconst 1, 1) := by decide +kernel
theorem dX8_mostBy_41 : decode cX8_mostBy 41 = .ok (.iand, 1) := by decide +kernel
theorem dX8_mostBy_42 : decode cX8_mostBy 42 = .ok (.ifCond .ne 17, 3) := by decide +kernel
theorem dX8_mostBy_45 : decode cX8_mostBy 45 = .ok (.iload 6, 2) := by decide +kernel
theorem dX8_mostBy_47 : decode cX8_mostBy 47 = .ok (.aload_n 1, 1) := by decide +kernel
theorem dX8_mostBy_48 : decode cX8_mostBy 48 = .ok (.iload 8, 2) := by decide +kernel
theorem dX8_mostBy_50 : decode cX8_mostBy 50 = .ok (.invokestatic 69, 3) := by decide +kernel
theorem dX8_mostBy_53 : decode cX8_mostBy 53 = .ok (.iadd, 1) := by decide +kernel
theorem dX8_mostBy_54 : decode cX8_mostBy 54 = .ok (.istore 6, 2) := by decide +kernel
theorem dX8_mostBy_56 : decode cX8_mostBy 56 = .ok (.goto 100, 3) := by decide +kernel
theorem dX8_mostBy_59 : decode cX8_mostBy 59 = .ok (.iload 7, 2) := by decide +kernel
theorem dX8_mostBy_61 : decode cX8_mostBy 61 = .ok (.aload_n 1, 1) := by decide +kernel
theorem dX8_mostBy_62 : decode cX8_mostBy 62 = .ok (.bipush 20, 2) := by decide +kernel
theorem dX8_mostBy_64 : decode cX8_mostBy 64 = .ok (.iload 8, 2) := by decide +kernel
theorem dX8_mostBy_66 : decode cX8_mostBy 66 = .ok (.iadd, 1) := by decide +kernel
theorem dX8_mostBy_67 : decode cX8_mostBy 67 = .ok (.iaload, 1) := by decide +kernel
theorem dX8_mostBy_68 : decode cX8_mostBy 68 = .ok (.ifCond .ge 7, 3) := by decide +kernel
theorem dX8_mostBy_71 : decode cX8_mostBy 71 = .ok (.iconst 1, 1) := by decide +kernel
theorem dX8_mostBy_72 : decode cX8_mostBy 72 = .ok (.goto 4, 3) := by decide +kernel
theorem dX8_mostBy_75 : decode cX8_mostBy 75 = .ok (.iconst 0, 1) := by decide +kernel
theorem dX8_mostBy_76 : decode cX8_mostBy 76 = .ok (.iand, 1) := by decide +kernel
theorem dX8_mostBy_77 : decode cX8_mostBy 77 = .ok (.istore 7, 2) := by decide +kernel
theorem dX8_mostBy_79 : decode cX8_mostBy 79 = .ok (.iload 5, 2) := by decide +kernel
theorem dX8_mostBy_81 : decode cX8_mostBy 81 = .ok (.aload_n 1, 1) := by decide +kernel
theorem dX8_mostBy_82 : decode cX8_mostBy 82 = .ok (.iload 8, 2) := by decide +kernel
theorem dX8_mostBy_84 : decode cX8_mostBy 84 = .ok (.invokestatic 98, 3) := by decide +kernel
theorem dX8_mostBy_87 : decode cX8_mostBy 87 = .ok (.isub, 1) := by decide +kernel
theorem dX8_mostBy_88 : decode cX8_mostBy 88 = .ok (.istore 5, 2) := by decide +kernel
theorem dX8_mostBy_90 : decode cX8_mostBy 90 = .ok (.aload_n 1, 1) := by decide +kernel
theorem dX8_mostBy_91 : decode cX8_mostBy 91 = .ok (.iload 8, 2) := by decide +kernel
theorem dX8_mostBy_93 : decode cX8_mostBy 93 = .ok (.invokestatic 135, 3) := by decide +kernel
theorem dX8_mostBy_96 : decode cX8_mostBy 96 = .ok (.istore 9, 2) := by decide +kernel
theorem dX8_mostBy_98 : decode cX8_mostBy 98 = .ok (.iconst 0, 1) := by decide +kernel
theorem dX8_mostBy_99 : decode cX8_mostBy 99 = .ok (.istore 10, 2) := by decide +kernel
theorem dX8_mostBy_101 : decode cX8_mostBy 101 = .ok (.iconst 0, 1) := by decide +kernel
theorem dX8_mostBy_102 : decode cX8_mostBy 102 = .ok (.istore 11, 2) := by decide +kernel
theorem dX8_mostBy_104 : decode cX8_mostBy 104 = .ok (.iload 11, 2) := by decide +kernel
theorem dX8_mostBy_106 : decode cX8_mostBy 106 = .ok (.bipush 12, 2) := by decide +kernel
theorem dX8_mostBy_108 : decode cX8_mostBy 108 = .ok (.if_icmp .ge 41, 3) := by decide +kernel
theorem dX8_mostBy_111 : decode cX8_mostBy 111 = .ok (.iload 9, 2) := by decide +kernel
theorem dX8_mostBy_113 : decode cX8_mostBy 113 = .ok (.iload 11, 2) := by decide +kernel
theorem dX8_mostBy_115 : decode cX8_mostBy 115 = .ok (.ishr, 1) := by decide +kernel
theorem dX8_mostBy_116 : decode cX8_mostBy 116 = .ok (.iconst 1, 1) := by decide +kernel
theorem dX8_mostBy_117 : decode cX8_mostBy 117 = .ok (.iand, 1) := by decide +kernel
theorem dX8_mostBy_118 : decode cX8_mostBy 118 = .ok (.iconst 1, 1) := by decide +kernel
theorem dX8_mostBy_119 : decode cX8_mostBy 119 = .ok (.if_icmp .ne 20, 3) := by decide +kernel
theorem dX8_mostBy_122 : decode cX8_mostBy 122 = .ok (.iload 10, 2) := by decide +kernel
theorem dX8_mostBy_124 : decode cX8_mostBy 124 = .ok (.aload_n 1, 1) := by decide +kernel
theorem dX8_mostBy_125 : decode cX8_mostBy 125 = .ok (.iload 8, 2) := by decide +kernel
theorem dX8_mostBy_127 : decode cX8_mostBy 127 = .ok (.iload 11, 2) := by decide +kernel
theorem dX8_mostBy_129 : decode cX8_mostBy 129 = .ok (.invokestatic 55, 3) := by decide +kernel
theorem dX8_mostBy_132 : decode cX8_mostBy 132 = .ok (.iaload, 1) := by decide +kernel
theorem dX8_mostBy_133 : decode cX8_mostBy 133 = .ok (.invokestatic 51, 3) := by decide +kernel
theorem dX8_mostBy_136 : decode cX8_mostBy 136 = .ok (.goto 5, 3) := by decide +kernel
theorem dX8_mostBy_139 : decode cX8_mostBy 139 = .ok (.iload 10, 2) := by decide +kernel
theorem dX8_mostBy_141 : decode cX8_mostBy 141 = .ok (.istore 10, 2) := by decide +kernel
theorem dX8_mostBy_143 : decode cX8_mostBy 143 = .ok (.iinc 11 1, 3) := by decide +kernel
theorem dX8_mostBy_146 : decode cX8_mostBy 146 = .ok (.goto (-42), 3) := by decide +kernel
theorem dX8_mostBy_149 : decode cX8_mostBy 149 = .ok (.iload 6, 2) := by decide +kernel
theorem dX8_mostBy_151 : decode cX8_mostBy 151 = .ok (.iload 10, 2) := by decide +kernel
theorem dX8_mostBy_153 : decode cX8_mostBy 153 = .ok (.iadd, 1) := by decide +kernel
theorem dX8_mostBy_154 : decode cX8_mostBy 154 = .ok (.istore 6, 2) := by decide +kernel
theorem dX8_mostBy_156 : decode cX8_mostBy 156 = .ok (.iinc 8 1, 3) := by decide +kernel
theorem dX8_mostBy_159 : decode cX8_mostBy 159 = .ok (.goto (-132), 3) := by decide +kernel
theorem dX8_mostBy_162 : decode cX8_mostBy 162 = .ok (.iload 7, 2) := by decide +kernel
theorem dX8_mostBy_164 : decode cX8_mostBy 164 = .ok (.ifCond .eq 26, 3) := by decide +kernel
theorem dX8_mostBy_167 : decode cX8_mostBy 167 = .ok (.iload 5, 2) := by decide +kernel
theorem dX8_mostBy_169 : decode cX8_mostBy 169 = .ok (.ifCond .lt 21, 3) := by decide +kernel
theorem dX8_mostBy_172 : decode cX8_mostBy 172 = .ok (.iload 6, 2) := by decide +kernel
theorem dX8_mostBy_174 : decode cX8_mostBy 174 = .ok (.iload_n 3, 1) := by decide +kernel
theorem dX8_mostBy_175 : decode cX8_mostBy 175 = .ok (.if_icmp .gt 6, 3) := by decide +kernel
theorem dX8_mostBy_178 : decode cX8_mostBy 178 = .ok (.goto 12, 3) := by decide +kernel
theorem dX8_mostBy_181 : decode cX8_mostBy 181 = .ok (.iload 6, 2) := by decide +kernel
theorem dX8_mostBy_183 : decode cX8_mostBy 183 = .ok (.istore_n 3, 1) := by decide +kernel
theorem dX8_mostBy_184 : decode cX8_mostBy 184 = .ok (.aload_n 0, 1) := by decide +kernel
theorem dX8_mostBy_185 : decode cX8_mostBy 185 = .ok (.iload 4, 2) := by decide +kernel
theorem dX8_mostBy_187 : decode cX8_mostBy 187 = .ok (.putfield 152, 3) := by decide +kernel
theorem dX8_mostBy_190 : decode cX8_mostBy 190 = .ok (.iinc 4 1, 3) := by decide +kernel
theorem dX8_mostBy_193 : decode cX8_mostBy 193 = .ok (.goto (-188), 3) := by decide +kernel
theorem dX8_mostBy_196 : decode cX8_mostBy 196 = .ok (.iload_n 3, 1) := by decide +kernel
theorem dX8_mostBy_197 : decode cX8_mostBy 197 = .ok (.ireturn, 1) := by decide +kernel
theorem dX8_most__0 : decode cX8_most_ 0 = .ok (.iload_n 1, 1) := by decide +kernel
theorem dX8_most__1 : decode cX8_most_ 1 = .ok (.iconst 0, 1) := by decide +kernel
theorem dX8_most__2 : decode cX8_most_ 2 = .ok (.iconst 1, 1) := by decide +kernel
theorem dX8_most__3 : decode cX8_most_ 3 = .ok (.invokestatic 47, 3) := by decide +kernel
theorem dX8_most__6 : decode cX8_most_ 6 = .ok (.ifCond .ne 10, 3) := by decide +kernel
theorem dX8_most__9 : decode cX8_most_ 9 = .ok (.aload_n 0, 1) := by decide +kernel
theorem dX8_most__10 : decode cX8_most_ 10 = .ok (.bipush (-2), 2) := by decide +kernel
theorem dX8_most__12 : decode cX8_most_ 12 = .ok (.invokevirtual 41, 3) := by decide +kernel
theorem dX8_most__15 : decode cX8_most_ 15 = .ok (.ireturn, 1) := by decide +kernel
theorem dX8_most__16 : decode cX8_most_ 16 = .ok (.aload_n 0, 1) := by decide +kernel
theorem dX8_most__17 : decode cX8_most_ 17 = .ok (.aload_n 0, 1) := by decide +kernel
theorem dX8_most__18 : decode cX8_most_ 18 = .ok (.getfield 9, 3) := by decide +kernel
theorem dX8_most__21 : decode cX8_most_ 21 = .ok (.aload_n 0, 1) := by decide +kernel
theorem dX8_most__22 : decode cX8_most_ 22 = .ok (.getfield 9, 3) := by decide +kernel
theorem dX8_most__25 : decode cX8_most_ 25 = .ok (.iconst 2, 1) := by decide +kernel
theorem dX8_most__26 : decode cX8_most_ 26 = .ok (.iaload, 1) := by decide +kernel
theorem dX8_most__27 : decode cX8_most_ 27 = .ok (.invokevirtual 155, 3) := by decide +kernel
theorem dX8_most__30 : decode cX8_most_ 30 = .ok (.istore_n 2, 1) := by decide +kernel
theorem dX8_most__31 : decode cX8_most_ 31 = .ok (.iload_n 1, 1) := by decide +kernel
theorem dX8_most__32 : decode cX8_most_ 32 = .ok (.ifCond .ne 7, 3) := by decide +kernel
theorem dX8_most__35 : decode cX8_most_ 35 = .ok (.iload_n 2, 1) := by decide +kernel
theorem dX8_most__36 : decode cX8_most_ 36 = .ok (.goto 7, 3) := by decide +kernel
theorem dX8_most__39 : decode cX8_most_ 39 = .ok (.aload_n 0, 1) := by decide +kernel
theorem dX8_most__40 : decode cX8_most_ 40 = .ok (.getfield 152, 3) := by decide +kernel
theorem dX8_most__43 : decode cX8_most_ 43 = .ok (.ireturn, 1) := by decide +kernel
theorem dX8_byMinutes_0 : decode cX8_byMinutes 0 = .ok (.iload_n 1, 1) := by decide +kernel
theorem dX8_byMinutes_1 : decode cX8_byMinutes 1 = .ok (.ifCond .ge 10, 3) := by decide +kernel
theorem dX8_byMinutes_4 : decode cX8_byMinutes 4 = .ok (.aload_n 0, 1) := by decide +kernel
theorem dX8_byMinutes_5 : decode cX8_byMinutes 5 = .ok (.bipush (-4), 2) := by decide +kernel
theorem dX8_byMinutes_7 : decode cX8_byMinutes 7 = .ok (.invokevirtual 41, 3) := by decide +kernel
theorem dX8_byMinutes_10 : decode cX8_byMinutes 10 = .ok (.ireturn, 1) := by decide +kernel
theorem dX8_byMinutes_11 : decode cX8_byMinutes 11 = .ok (.iload_n 1, 1) := by decide +kernel
theorem dX8_byMinutes_12 : decode cX8_byMinutes 12 = .ok (.bipush 99, 2) := by decide +kernel
theorem dX8_byMinutes_14 : decode cX8_byMinutes 14 = .ok (.if_icmp .le 10, 3) := by decide +kernel
theorem dX8_byMinutes_17 : decode cX8_byMinutes 17 = .ok (.aload_n 0, 1) := by decide +kernel
theorem dX8_byMinutes_18 : decode cX8_byMinutes 18 = .ok (.bipush (-6), 2) := by decide +kernel
theorem dX8_byMinutes_20 : decode cX8_byMinutes 20 = .ok (.invokevirtual 41, 3) := by decide +kernel
theorem dX8_byMinutes_23 : decode cX8_byMinutes 23 = .ok (.ireturn, 1) := by decide +kernel
theorem dX8_byMinutes_24 : decode cX8_byMinutes 24 = .ok (.iconst 0, 1) := by decide +kernel
theorem dX8_byMinutes_25 : decode cX8_byMinutes 25 = .ok (.istore_n 2, 1) := by decide +kernel
theorem dX8_byMinutes_26 : decode cX8_byMinutes 26 = .ok (.iload_n 2, 1) := by decide +kernel
theorem dX8_byMinutes_27 : decode cX8_byMinutes 27 = .ok (.iload_n 1, 1) := by decide +kernel
theorem dX8_byMinutes_28 : decode cX8_byMinutes 28 = .ok (.if_icmp .gt 16, 3) := by decide +kernel
theorem dX8_byMinutes_31 : decode cX8_byMinutes 31 = .ok (.aload_n 0, 1) := by decide +kernel
theorem dX8_byMinutes_32 : decode cX8_byMinutes 32 = .ok (.getfield 34, 3) := by decide +kernel
theorem dX8_byMinutes_35 : decode cX8_byMinutes 35 = .ok (.iload_n 2, 1) := by decide +kernel
theorem dX8_byMinutes_36 : decode cX8_byMinutes 36 = .ok (.iconst 0, 1) := by decide +kernel
theorem dX8_byMinutes_37 : decode cX8_byMinutes 37 = .ok (.iastore, 1) := by decide +kernel
theorem dX8_byMinutes_38 : decode cX8_byMinutes 38 = .ok (.iinc 2 1, 3) := by decide +kernel
theorem dX8_byMinutes_41 : decode cX8_byMinutes 41 = .ok (.goto (-15), 3) := by decide +kernel
theorem dX8_byMinutes_44 : decode cX8_byMinutes 44 = .ok (.iconst 0, 1) := by decide +kernel
theorem dX8_byMinutes_45 : decode cX8_byMinutes 45 = .ok (.istore_n 2, 1) := by decide +kernel
theorem dX8_byMinutes_46 : decode cX8_byMinutes 46 = .ok (.iload_n 2, 1) := by decide +kernel
theorem dX8_byMinutes_47 : decode cX8_byMinutes 47 = .ok (.aload_n 0, 1) := by decide +kernel
theorem dX8_byMinutes_48 : decode cX8_byMinutes 48 = .ok (.getfield 9, 3) := by decide +kernel
theorem dX8_byMinutes_51 : decode cX8_byMinutes 51 = .ok (.iconst 0, 1) := by decide +kernel
theorem dX8_byMinutes_52 : decode cX8_byMinutes 52 = .ok (.iaload, 1) := by decide +kernel
theorem dX8_byMinutes_53 : decode cX8_byMinutes 53 = .ok (.if_icmp .ge 140, 3) := by decide +kernel
theorem dX8_byMinutes_56 : decode cX8_byMinutes 56 = .ok (.iconst 0, 1) := by decide +kernel
theorem dX8_byMinutes_57 : decode cX8_byMinutes 57 = .ok (.istore_n 3, 1) := by decide +kernel
theorem dX8_byMinutes_58 : decode cX8_byMinutes 58 = .ok (.iload_n 3, 1) := by decide +kernel
theorem dX8_byMinutes_59 : decode cX8_byMinutes 59 = .ok (.iload_n 1, 1) := by decide +kernel
theorem dX8_byMinutes_60 : decode cX8_byMinutes 60 = .ok (.if_icmp .gt 102, 3) := by decide +kernel
theorem dX8_byMinutes_63 : decode cX8_byMinutes 63 = .ok (.aload_n 0, 1) := by decide +kernel
theorem dX8_byMinutes_64 : decode cX8_byMinutes 64 = .ok (.getfield 37, 3) := by decide +kernel
theorem dX8_byMinutes_67 : decode cX8_byMinutes 67 = .ok (.iload_n 3, 1) := by decide +kernel
theorem dX8_byMinutes_68 : decode cX8_byMinutes 68 = .ok (.aload_n 0, 1) := by decide +kernel
theorem dX8_byMinutes_69 : decode cX8_byMinutes 69 = .ok (.getfield 34, 3) := by decide +kernel
theorem dX8_byMinutes_72 : decode cX8_byMinutes 72 = .ok (.iload_n 3, 1) := by decide +kernel
theorem dX8_byMinutes_73 : decode cX8_byMinutes 73 = .ok (.iaload, 1) := by decide +kernel
theorem dX8_byMinutes_74 : decode cX8_byMinutes 74 = .ok (.aload_n 0, 1) := by decide +kernel
theorem dX8_byMinutes_75 : decode cX8_byMinutes 75 = .ok (.getfield 9, 3) := by decide +kernel
theorem dX8_byMinutes_78 : decode cX8_byMinutes 78 = .ok (.iload_n 2, 1) := by decide +kernel
theorem dX8_byMinutes_79 : decode cX8_byMinutes 79 = .ok (.invokestatic 69, 3) := by decide +kernel
theorem dX8_byMinutes_82 : decode cX8_byMinutes 82 = .ok (.iadd, 1) := by decide +kernel
theorem dX8_byMinutes_83 : decode cX8_byMinutes 83 = .ok (.iastore, 1) := by decide +kernel
theorem dX8_byMinutes_84 : decode cX8_byMinutes 84 = .ok (.iconst 0, 1) := by decide +kernel
theorem dX8_byMinutes_85 : decode cX8_byMinutes 85 = .ok (.istore 4, 2) := by decide +kernel
theorem dX8_byMinutes_87 : decode cX8_byMinutes 87 = .ok (.iload 4, 2) := by decide +kernel
theorem dX8_byMinutes_89 : decode cX8_byMinutes 89 = .ok (.iload_n 3, 1) := by decide +kernel
theorem dX8_byMinutes_90 : decode cX8_byMinutes 90 = .ok (.if_icmp .gt 66, 3) := by decide +kernel
theorem dX8_byMinutes_93 : decode cX8_byMinutes 93 = .ok (.aload_n 0, 1) := by decide +kernel
theorem dX8_byMinutes_94 : decode cX8_byMinutes 94 = .ok (.getfield 9, 3) := by decide +kernel
theorem dX8_byMinutes_97 : decode cX8_byMinutes 97 = .ok (.bipush 20, 2) := by decide +kernel
theorem dX8_byMinutes_99 : decode cX8_byMinutes 99 = .ok (.iload_n 2, 1) := by decide +kernel
theorem dX8_byMinutes_100 : decode cX8_byMinutes 100 = .ok (.iadd, 1) := by decide +kernel
theorem dX8_byMinutes_101 : decode cX8_byMinutes 101 = .ok (.iaload, 1) := by decide +kernel
theorem dX8_byMinutes_102 : decode cX8_byMinutes 102 = .ok (.ifCond .ge 54, 3) := by decide +kernel
theorem dX8_byMinutes_105 : decode cX8_byMinutes 105 = .ok (.aload_n 0, 1) := by decide +kernel
theorem dX8_byMinutes_106 : decode cX8_byMinutes 106 = .ok (.getfield 37, 3) := by decide +kernel
theorem dX8_byMinutes_109 : decode cX8_byMinutes 109 = .ok (.iload_n 3, 1) := by decide +kernel
theorem dX8_byMinutes_110 : decode cX8_byMinutes 110 = .ok (.aload_n 0, 1) := by decide +kernel
theorem dX8_byMinutes_111 : decode cX8_byMinutes 111 = .ok (.getfield 37, 3) := by decide +kernel
theorem dX8_byMinutes_114 : decode cX8_byMinutes 114 = .ok (.iload_n 3, 1) := by decide +kernel
theorem dX8_byMinutes_115 : decode cX8_byMinutes 115 = .ok (.iaload, 1) := by decide +kernel
theorem dX8_byMinutes_116 : decode cX8_byMinutes 116 = .ok (.aload_n 0, 1) := by decide +kernel
theorem dX8_byMinutes_117 : decode cX8_byMinutes 117 = .ok (.getfield 34, 3) := by decide +kernel
theorem dX8_byMinutes_120 : decode cX8_byMinutes 120 = .ok (.iload_n 3, 1) := by decide +kernel
theorem dX8_byMinutes_121 : decode cX8_byMinutes 121 = .ok (.iload 4, 2) := by decide +kernel
theorem dX8_byMinutes_123 : decode cX8_byMinutes 123 = .ok (.isub, 1) := by decide +kernel
theorem dX8_byMinutes_124 : decode cX8_byMinutes 124 = .ok (.iaload, 1) := by decide +kernel
theorem dX8_byMinutes_125 : decode cX8_byMinutes 125 = .ok (.aload_n 0, 1) := by decide +kernel
theorem dX8_byMinutes_126 : decode cX8_byMinutes 126 = .ok (.getfield 9, 3) := by decide +kernel
theorem dX8_byMinutes_129 : decode cX8_byMinutes 129 = .ok (.iload_n 2, 1) := by decide +kernel
theorem dX8_byMinutes_130 : decode cX8_byMinutes 130 = .ok (.aload_n 0, 1) := by decide +kernel
theorem dX8_byMinutes_131 : decode cX8_byMinutes 131 = .ok (.getfield 9, 3) := by decide +kernel
theorem dX8_byMinutes_134 : decode cX8_byMinutes 134 = .ok (.iload_n 2, 1) := by decide +kernel
theorem dX8_byMinutes_135 : decode cX8_byMinutes 135 = .ok (.iload 4, 2) := by decide +kernel
theorem dX8_byMinutes_137 : decode cX8_byMinutes 137 = .ok (.iconst 0, 1) := by decide +kernel
theorem dX8_byMinutes_138 : decode cX8_byMinutes 138 = .ok (.invokestatic 73, 3) := by decide +kernel
theorem dX8_byMinutes_141 : decode cX8_byMinutes 141 = .ok (.invokestatic 55, 3) := by decide +kernel
theorem dX8_byMinutes_144 : decode cX8_byMinutes 144 = .ok (.iaload, 1) := by decide +kernel
theorem dX8_byMinutes_145 : decode cX8_byMinutes 145 = .ok (.iadd, 1) := by decide +kernel
theorem dX8_byMinutes_146 : decode cX8_byMinutes 146 = .ok (.invokestatic 51, 3) := by decide +kernel
theorem dX8_byMinutes_149 : decode cX8_byMinutes 149 = .ok (.iastore, 1) := by decide +kernel
theorem dX8_byMinutes_150 : decode cX8_byMinutes 150 = .ok (.iinc 4 1, 3) := by decide +kernel
theorem dX8_byMinutes_153 : decode cX8_byMinutes 153 = .ok (.goto (-66), 3) := by decide +kernel
theorem dX8_byMinutes_156 : decode cX8_byMinutes 156 = .ok (.iinc 3 1, 3) := by decide +kernel
theorem dX8_byMinutes_159 : decode cX8_byMinutes 159 = .ok (.goto (-101), 3) := by decide +kernel
theorem dX8_byMinutes_162 : decode cX8_byMinutes 162 = .ok (.iconst 0, 1) := by decide +kernel
theorem dX8_byMinutes_163 : decode cX8_byMinutes 163 = .ok (.istore_n 3, 1) := by decide +kernel
theorem dX8_byMinutes_164 : decode cX8_byMinutes 164 = .ok (.iload_n 3, 1) := by decide +kernel
theorem dX8_byMinutes_165 : decode cX8_byMinutes 165 = .ok (.iload_n 1, 1) := by decide +kernel
theorem dX8_byMinutes_166 : decode cX8_byMinutes 166 = .ok (.if_icmp .gt 21, 3) := by decide +kernel
theorem dX8_byMinutes_169 : decode cX8_byMinutes 169 = .ok (.aload_n 0, 1) := by decide +kernel
theorem dX8_byMinutes_170 : decode cX8_byMinutes 170 = .ok (.getfield 34, 3) := by decide +kernel
theorem dX8_byMinutes_173 : decode cX8_byMinutes 173 = .ok (.iload_n 3, 1) := by decide +kernel
theorem dX8_byMinutes_174 : decode cX8_byMinutes 174 = .ok (.aload_n 0, 1) := by decide +kernel
theorem dX8_byMinutes_175 : decode cX8_byMinutes 175 = .ok (.getfield 37, 3) := by decide +kernel
theorem dX8_byMinutes_178 : decode cX8_byMinutes 178 = .ok (.iload_n 3, 1) := by decide +kernel
theorem dX8_byMinutes_179 : decode cX8_byMinutes 179 = .ok (.iaload, 1) := by decide +kernel
theorem dX8_byMinutes_180 : decode cX8_byMinutes 180 = .ok (.iastore, 1) := by decide +kernel
theorem dX8_byMinutes_181 : decode cX8_byMinutes 181 = .ok (.iinc 3 1, 3) := by decide +kernel
theorem dX8_byMinutes_184 : decode cX8_byMinutes 184 = .ok (.goto (-20), 3) := by decide +kernel
theorem dX8_byMinutes_187 : decode cX8_byMinutes 187 = .ok (.iinc 2 1, 3) := by decide +kernel
theorem dX8_byMinutes_190 : decode cX8_byMinutes 190 = .ok (.goto (-144), 3) := by decide +kernel
theorem dX8_byMinutes_193 : decode cX8_byMinutes 193 = .ok (.aload_n 0, 1) := by decide +kernel
theorem dX8_byMinutes_194 : decode cX8_byMinutes 194 = .ok (.getfield 34, 3) := by decide +kernel
theorem dX8_byMinutes_197 : decode cX8_byMinutes 197 = .ok (.iload_n 1, 1) := by decide +kernel
theorem dX8_byMinutes_198 : decode cX8_byMinutes 198 = .ok (.iaload, 1) := by decide +kernel
theorem dX8_byMinutes_199 : decode cX8_byMinutes 199 = .ok (.ireturn, 1) := by decide +kernel
theorem dX8_fewDrops_0 : decode cX8_fewDrops 0 = .ok (.aload_n 0, 1) := by decide +kernel
theorem dX8_fewDrops_1 : decode cX8_fewDrops 1 = .ok (.aload_n 0, 1) := by decide +kernel
theorem dX8_fewDrops_2 : decode cX8_fewDrops 2 = .ok (.getfield 9, 3) := by decide +kernel
theorem dX8_fewDrops_5 : decode cX8_fewDrops 5 = .ok (.bipush 99, 2) := by decide +kernel
theorem dX8_fewDrops_7 : decode cX8_fewDrops 7 = .ok (.invokevirtual 155, 3) := by decide +kernel
theorem dX8_fewDrops_10 : decode cX8_fewDrops 10 = .ok (.istore_n 1, 1) := by decide +kernel
theorem dX8_fewDrops_11 : decode cX8_fewDrops 11 = .ok (.iconst 0, 1) := by decide +kernel
theorem dX8_fewDrops_12 : decode cX8_fewDrops 12 = .ok (.istore_n 2, 1) := by decide +kernel
theorem dX8_fewDrops_13 : decode cX8_fewDrops 13 = .ok (.iload_n 2, 1) := by decide +kernel
theorem dX8_fewDrops_14 : decode cX8_fewDrops 14 = .ok (.bipush 99, 2) := by decide +kernel
theorem dX8_fewDrops_16 : decode cX8_fewDrops 16 = .ok (.if_icmp .gt 24, 3) := by decide +kernel
theorem dX8_fewDrops_19 : decode cX8_fewDrops 19 = .ok (.aload_n 0, 1) := by decide +kernel
theorem dX8_fewDrops_20 : decode cX8_fewDrops 20 = .ok (.aload_n 0, 1) := by decide +kernel
theorem dX8_fewDrops_21 : decode cX8_fewDrops 21 = .ok (.getfield 9, 3) := by decide +kernel
theorem dX8_fewDrops_24 : decode cX8_fewDrops 24 = .ok (.iload_n 2, 1) := by decide +kernel
theorem dX8_fewDrops_25 : decode cX8_fewDrops 25 = .ok (.invokevirtual 155, 3) := by decide +kernel
theorem dX8_fewDrops_28 : decode cX8_fewDrops 28 = .ok (.iload_n 1, 1) := by decide +kernel
theorem dX8_fewDrops_29 : decode cX8_fewDrops 29 = .ok (.if_icmp .ne 5, 3) := by decide +kernel
theorem dX8_fewDrops_32 : decode cX8_fewDrops 32 = .ok (.iload_n 2, 1) := by decide +kernel
theorem dX8_fewDrops_33 : decode cX8_fewDrops 33 = .ok (.ireturn, 1) := by decide +kernel
theorem dX8_fewDrops_34 : decode cX8_fewDrops 34 = .ok (.iinc 2 1, 3) := by decide +kernel
theorem dX8_fewDrops_37 : decode cX8_fewDrops 37 = .ok (.goto (-24), 3) := by decide +kernel
theorem dX8_fewDrops_40 : decode cX8_fewDrops 40 = .ok (.bipush (-9), 2) := by decide +kernel
theorem dX8_fewDrops_42 : decode cX8_fewDrops 42 = .ok (.ireturn, 1) := by decide +kernel
theorem dX8_together_0 : decode cX8_together 0 = .ok (.aload_n 0, 1) := by decide +kernel
theorem dX8_together_1 : decode cX8_together 1 = .ok (.iload_n 1, 1) := by decide +kernel
theorem dX8_together_2 : decode cX8_together 2 = .ok (.iload_n 2, 1) := by decide +kernel
theorem dX8_together_3 : decode cX8_together 3 = .ok (.invokevirtual 129, 3) := by decide +kernel
theorem dX8_together_6 : decode cX8_together 6 = .ok (.ifCond .ne 9, 3) := by decide +kernel
theorem dX8_together_9 : decode cX8_together 9 = .ok (.aload_n 0, 1) := by decide +kernel
theorem dX8_together_10 : decode cX8_together 10 = .ok (.iconst (-1), 1) := by decide +kernel
theorem dX8_together_11 : decode cX8_together 11 = .ok (.invokevirtual 41, 3) := by decide +kernel
theorem dX8_together_14 : decode cX8_together 14 = .ok (.ireturn, 1) := by decide +kernel
theorem dX8_together_15 : decode cX8_together 15 = .ok (.iload_n 3, 1) := by decide +kernel
theorem dX8_together_16 : decode cX8_together 16 = .ok (.iconst 0, 1) := by decide +kernel
theorem dX8_together_17 : decode cX8_together 17 = .ok (.iconst 1, 1) := by decide +kernel
theorem dX8_together_18 : decode cX8_together 18 = .ok (.invokestatic 47, 3) := by decide +kernel
theorem dX8_together_21 : decode cX8_together 21 = .ok (.ifCond .ne 10, 3) := by decide +kernel
theorem dX8_together_24 : decode cX8_together 24 = .ok (.aload_n 0, 1) := by decide +kernel
theorem dX8_together_25 : decode cX8_together 25 = .ok (.bipush (-2), 2) := by decide +kernel
theorem dX8_together_27 : decode cX8_together 27 = .ok (.invokevirtual 41, 3) := by decide +kernel
theorem dX8_together_30 : decode cX8_together 30 = .ok (.ireturn, 1) := by decide +kernel
theorem dX8_together_31 : decode cX8_together 31 = .ok (.aload_n 0, 1) := by decide +kernel
theorem dX8_together_32 : decode cX8_together 32 = .ok (.getfield 9, 3) := by decide +kernel
theorem dX8_together_35 : decode cX8_together 35 = .ok (.bipush 20, 2) := by decide +kernel
theorem dX8_together_37 : decode cX8_together 37 = .ok (.iload_n 1, 1) := by decide +kernel
theorem dX8_together_38 : decode cX8_together 38 = .ok (.iadd, 1) := by decide +kernel
theorem dX8_together_39 : decode cX8_together 39 = .ok (.iaload, 1) := by decide +kernel
theorem dX8_together_40 : decode cX8_together 40 = .ok (.ifCond .ge 15, 3) := by decide +kernel
theorem dX8_together_43 : decode cX8_together 43 = .ok (.aload_n 0, 1) := by decide +kernel
theorem dX8_together_44 : decode cX8_together 44 = .ok (.getfield 9, 3) := by decide +kernel
theorem dX8_together_47 : decode cX8_together 47 = .ok (.bipush 20, 2) := by decide +kernel
theorem dX8_together_49 : decode cX8_together 49 = .ok (.iload_n 2, 1) := by decide +kernel
theorem dX8_together_50 : decode cX8_together 50 = .ok (.iadd, 1) := by decide +kernel
theorem dX8_together_51 : decode cX8_together 51 = .ok (.iaload, 1) := by decide +kernel
theorem dX8_together_52 : decode cX8_together 52 = .ok (.ifCond .lt 10, 3) := by decide +kernel
theorem dX8_together_55 : decode cX8_together 55 = .ok (.aload_n 0, 1) := by decide +kernel
theorem dX8_together_56 : decode cX8_together 56 = .ok (.bipush (-3), 2) := by decide +kernel
theorem dX8_together_58 : decode cX8_together 58 = .ok (.invokevirtual 41, 3) := by decide +kernel
theorem dX8_together_61 : decode cX8_together 61 = .ok (.ireturn, 1) := by decide +kernel
theorem dX8_together_62 : decode cX8_together 62 = .ok (.bipush (-9), 2) := by decide +kernel
theorem dX8_together_64 : decode cX8_together 64 = .ok (.istore 4, 2) := by decide +kernel
theorem dX8_together_66 : decode cX8_together 66 = .ok (.ldc 40, 2) := by decide +kernel
theorem dX8_together_68 : decode cX8_together 68 = .ok (.istore 5, 2) := by decide +kernel
theorem dX8_together_70 : decode cX8_together 70 = .ok (.iconst 0, 1) := by decide +kernel
theorem dX8_together_71 : decode cX8_together 71 = .ok (.istore 6, 2) := by decide +kernel
theorem dX8_together_73 : decode cX8_together 73 = .ok (.iload 6, 2) := by decide +kernel
theorem dX8_together_75 : decode cX8_together 75 = .ok (.bipush 12, 2) := by decide +kernel
theorem dX8_together_77 : decode cX8_together 77 = .ok (.if_icmp .ge 67, 3) := by decide +kernel
theorem dX8_together_80 : decode cX8_together 80 = .ok (.aload_n 0, 1) := by decide +kernel
theorem dX8_together_81 : decode cX8_together 81 = .ok (.getfield 9, 3) := by decide +kernel
theorem dX8_together_84 : decode cX8_together 84 = .ok (.iload_n 1, 1) := by decide +kernel
theorem dX8_together_85 : decode cX8_together 85 = .ok (.iload 6, 2) := by decide +kernel
theorem dX8_together_87 : decode cX8_together 87 = .ok (.invokestatic 138, 3) := by decide +kernel
theorem dX8_together_90 : decode cX8_together 90 = .ok (.istore 7, 2) := by decide +kernel
theorem dX8_together_92 : decode cX8_together 92 = .ok (.aload_n 0, 1) := by decide +kernel
theorem dX8_together_93 : decode cX8_together 93 = .ok (.getfield 9, 3) := by decide +kernel
theorem dX8_together_96 : decode cX8_together 96 = .ok (.iload_n 2, 1) := by decide +kernel
theorem dX8_together_97 : decode cX8_together 97 = .ok (.iload 6, 2) := by decide +kernel
theorem dX8_together_99 : decode cX8_together 99 = .ok (.invokestatic 138, 3) := by decide +kernel
theorem dX8_together_102 : decode cX8_together 102 = .ok (.istore 8, 2) := by decide +kernel
theorem dX8_together_104 : decode cX8_together 104 = .ok (.iload 7, 2) := by decide +kernel
theorem dX8_together_106 : decode cX8_together 106 = .ok (.ifCond .lt 32, 3) := by decide +kernel
theorem dX8_together_109 : decode cX8_together 109 = .ok (.iload 8, 2) := by decide +kernel
theorem dX8_together_111 : decode cX8_together 111 = .ok (.ifCond .lt 27, 3) := by decide +kernel
theorem dX8_together_114 : decode cX8_together 114 = .ok (.iload 7, 2) := by decide +kernel
theorem dX8_together_116 : decode cX8_together 116 = .ok (.iload 8, 2) := by decide +kernel
theorem dX8_together_118 : decode cX8_together 118 = .ok (.iadd, 1) := by decide +kernel
theorem dX8_together_119 : decode cX8_together 119 = .ok (.iload 5, 2) := by decide +kernel
theorem dX8_together_121 : decode cX8_together 121 = .ok (.if_icmp .lt 6, 3) := by decide +kernel
theorem dX8_together_124 : decode cX8_together 124 = .ok (.goto 14, 3) := by decide +kernel
theorem dX8_together_127 : decode cX8_together 127 = .ok (.iload 6, 2) := by decide +kernel
theorem dX8_together_129 : decode cX8_together 129 = .ok (.istore 4, 2) := by decide +kernel
theorem dX8_together_131 : decode cX8_together 131 = .ok (.iload 7, 2) := by decide +kernel
theorem dX8_together_133 : decode cX8_together 133 = .ok (.iload 8, 2) := by decide +kernel
theorem dX8_together_135 : decode cX8_together 135 = .ok (.iadd, 1) := by decide +kernel
theorem dX8_together_136 : decode cX8_together 136 = .ok (.istore 5, 2) := by decide +kernel
theorem dX8_together_138 : decode cX8_together 138 = .ok (.iinc 6 1, 3) := by decide +kernel
theorem dX8_together_141 : decode cX8_together 141 = .ok (.goto (-68), 3) := by decide +kernel
theorem dX8_together_144 : decode cX8_together 144 = .ok (.iload 4, 2) := by decide +kernel
theorem dX8_together_146 : decode cX8_together 146 = .ok (.ifCond .lt 8, 3) := by decide +kernel
theorem dX8_together_149 : decode cX8_together 149 = .ok (.iload_n 3, 1) := by decide +kernel
theorem dX8_together_150 : decode cX8_together 150 = .ok (.iconst 1, 1) := by decide +kernel
theorem dX8_together_151 : decode cX8_together 151 = .ok (.if_icmp .ne 8, 3) := by decide +kernel
theorem dX8_together_154 : decode cX8_together 154 = .ok (.iload 4, 2) := by decide +kernel
theorem dX8_together_156 : decode cX8_together 156 = .ok (.goto 5, 3) := by decide +kernel
theorem dX8_together_159 : decode cX8_together 159 = .ok (.iload 5, 2) := by decide +kernel
theorem dX8_together_161 : decode cX8_together 161 = .ok (.ireturn, 1) := by decide +kernel
theorem dX8_gladdest_0 : decode cX8_gladdest 0 = .ok (.aload_n 0, 1) := by decide +kernel
theorem dX8_gladdest_1 : decode cX8_gladdest 1 = .ok (.getfield 9, 3) := by decide +kernel
theorem dX8_gladdest_4 : decode cX8_gladdest 4 = .ok (.iconst 1, 1) := by decide +kernel
theorem dX8_gladdest_5 : decode cX8_gladdest 5 = .ok (.iaload, 1) := by decide +kernel
theorem dX8_gladdest_6 : decode cX8_gladdest 6 = .ok (.istore_n 2, 1) := by decide +kernel
theorem dX8_gladdest_7 : decode cX8_gladdest 7 = .ok (.aload_n 0, 1) := by decide +kernel
theorem dX8_gladdest_8 : decode cX8_gladdest 8 = .ok (.getfield 9, 3) := by decide +kernel
theorem dX8_gladdest_11 : decode cX8_gladdest 11 = .ok (.iconst 1, 1) := by decide +kernel
theorem dX8_gladdest_12 : decode cX8_gladdest 12 = .ok (.iaload, 1) := by decide +kernel
theorem dX8_gladdest_13 : decode cX8_gladdest 13 = .ok (.istore_n 3, 1) := by decide +kernel
theorem dX8_gladdest_14 : decode cX8_gladdest 14 = .ok (.iload_n 3, 1) := by decide +kernel
theorem dX8_gladdest_15 : decode cX8_gladdest 15 = .ok (.ifCond .lt 34, 3) := by decide +kernel
theorem dX8_gladdest_18 : decode cX8_gladdest 18 = .ok (.aload_n 0, 1) := by decide +kernel
theorem dX8_gladdest_19 : decode cX8_gladdest 19 = .ok (.getfield 9, 3) := by decide +kernel
theorem dX8_gladdest_22 : decode cX8_gladdest 22 = .ok (.iload_n 1, 1) := by decide +kernel
theorem dX8_gladdest_23 : decode cX8_gladdest 23 = .ok (.iload_n 3, 1) := by decide +kernel
theorem dX8_gladdest_24 : decode cX8_gladdest 24 = .ok (.invokestatic 55, 3) := by decide +kernel
theorem dX8_gladdest_27 : decode cX8_gladdest 27 = .ok (.iaload, 1) := by decide +kernel
theorem dX8_gladdest_28 : decode cX8_gladdest 28 = .ok (.aload_n 0, 1) := by decide +kernel
theorem dX8_gladdest_29 : decode cX8_gladdest 29 = .ok (.getfield 9, 3) := by decide +kernel
theorem dX8_gladdest_32 : decode cX8_gladdest 32 = .ok (.iload_n 1, 1) := by decide +kernel
theorem dX8_gladdest_33 : decode cX8_gladdest 33 = .ok (.iload_n 2, 1) := by decide +kernel
theorem dX8_gladdest_34 : decode cX8_gladdest 34 = .ok (.invokestatic 55, 3) := by decide +kernel
theorem dX8_gladdest_37 : decode cX8_gladdest 37 = .ok (.iaload, 1) := by decide +kernel
theorem dX8_gladdest_38 : decode cX8_gladdest 38 = .ok (.if_icmp .le 5, 3) := by decide +kernel
theorem dX8_gladdest_41 : decode cX8_gladdest 41 = .ok (.iload_n 3, 1) := by decide +kernel
theorem dX8_gladdest_42 : decode cX8_gladdest 42 = .ok (.istore_n 2, 1) := by decide +kernel
theorem dX8_gladdest_43 : decode cX8_gladdest 43 = .ok (.iinc 3 (-1), 3) := by decide +kernel
theorem dX8_gladdest_46 : decode cX8_gladdest 46 = .ok (.goto (-32), 3) := by decide +kernel
theorem dX8_gladdest_49 : decode cX8_gladdest 49 = .ok (.iload_n 2, 1) := by decide +kernel
theorem dX8_gladdest_50 : decode cX8_gladdest 50 = .ok (.ireturn, 1) := by decide +kernel
theorem dX8_queue_0 : decode cX8_queue 0 = .ok (.iload_n 1, 1) := by decide +kernel
theorem dX8_queue_1 : decode cX8_queue 1 = .ok (.iconst (-1), 1) := by decide +kernel
theorem dX8_queue_2 : decode cX8_queue 2 = .ok (.if_icmp .eq 17, 3) := by decide +kernel
theorem dX8_queue_5 : decode cX8_queue 5 = .ok (.aload_n 0, 1) := by decide +kernel
theorem dX8_queue_6 : decode cX8_queue 6 = .ok (.iload_n 1, 1) := by decide +kernel
theorem dX8_queue_7 : decode cX8_queue 7 = .ok (.invokevirtual 101, 3) := by decide +kernel
theorem dX8_queue_10 : decode cX8_queue 10 = .ok (.ifCond .ne 9, 3) := by decide +kernel
theorem dX8_queue_13 : decode cX8_queue 13 = .ok (.aload_n 0, 1) := by decide +kernel
theorem dX8_queue_14 : decode cX8_queue 14 = .ok (.iconst (-1), 1) := by decide +kernel
theorem dX8_queue_15 : decode cX8_queue 15 = .ok (.invokevirtual 41, 3) := by decide +kernel
theorem dX8_queue_18 : decode cX8_queue 18 = .ok (.ireturn, 1) := by decide +kernel
theorem dX8_queue_19 : decode cX8_queue 19 = .ok (.aload_n 0, 1) := by decide +kernel
theorem dX8_queue_20 : decode cX8_queue 20 = .ok (.getfield 34, 3) := by decide +kernel
theorem dX8_queue_23 : decode cX8_queue 23 = .ok (.astore_n 2, 1) := by decide +kernel
theorem dX8_queue_24 : decode cX8_queue 24 = .ok (.iconst 0, 1) := by decide +kernel
theorem dX8_queue_25 : decode cX8_queue 25 = .ok (.istore_n 3, 1) := by decide +kernel
theorem dX8_queue_26 : decode cX8_queue 26 = .ok (.iload_n 3, 1) := by decide +kernel
theorem dX8_queue_27 : decode cX8_queue 27 = .ok (.iconst 4, 1) := by decide +kernel
theorem dX8_queue_28 : decode cX8_queue 28 = .ok (.if_icmp .ge 13, 3) := by decide +kernel
theorem dX8_queue_31 : decode cX8_queue 31 = .ok (.aload_n 2, 1) := by decide +kernel
theorem dX8_queue_32 : decode cX8_queue 32 = .ok (.iload_n 3, 1) := by decide +kernel
theorem dX8_queue_33 : decode cX8_queue 33 = .ok (.iconst 0, 1) := by decide +kernel
theorem dX8_queue_34 : decode cX8_queue 34 = .ok (.iastore, 1) := by decide +kernel
theorem dX8_queue_35 : decode cX8_queue 35 = .ok (.iinc 3 1, 3) := by decide +kernel
theorem dX8_queue_38 : decode cX8_queue 38 = .ok (.goto (-12), 3) := by decide +kernel
theorem dX8_queue_41 : decode cX8_queue 41 = .ok (.iconst 0, 1) := by decide +kernel
theorem dX8_queue_42 : decode cX8_queue 42 = .ok (.istore_n 3, 1) := by decide +kernel
theorem dX8_queue_43 : decode cX8_queue 43 = .ok (.bipush (-9), 2) := by decide +kernel
theorem dX8_queue_45 : decode cX8_queue 45 = .ok (.istore 4, 2) := by decide +kernel
theorem dX8_queue_47 : decode cX8_queue 47 = .ok (.iconst 0, 1) := by decide +kernel
theorem dX8_queue_48 : decode cX8_queue 48 = .ok (.istore 5, 2) := by decide +kernel
theorem dX8_queue_50 : decode cX8_queue 50 = .ok (.iload 5, 2) := by decide +kernel
theorem dX8_queue_52 : decode cX8_queue 52 = .ok (.aload_n 0, 1) := by decide +kernel
theorem dX8_queue_53 : decode cX8_queue 53 = .ok (.getfield 9, 3) := by decide +kernel
theorem dX8_queue_56 : decode cX8_queue 56 = .ok (.iconst 0, 1) := by decide +kernel
theorem dX8_queue_57 : decode cX8_queue 57 = .ok (.iaload, 1) := by decide +kernel
theorem dX8_queue_58 : decode cX8_queue 58 = .ok (.if_icmp .ge 120, 3) := by decide +kernel
theorem dX8_queue_61 : decode cX8_queue 61 = .ok (.aload_n 0, 1) := by decide +kernel
theorem dX8_queue_62 : decode cX8_queue 62 = .ok (.getfield 9, 3) := by decide +kernel
theorem dX8_queue_65 : decode cX8_queue 65 = .ok (.bipush 20, 2) := by decide +kernel
theorem dX8_queue_67 : decode cX8_queue 67 = .ok (.iload 5, 2) := by decide +kernel
theorem dX8_queue_69 : decode cX8_queue 69 = .ok (.iadd, 1) := by decide +kernel
theorem dX8_queue_70 : decode cX8_queue 70 = .ok (.iaload, 1) := by decide +kernel
theorem dX8_queue_71 : decode cX8_queue 71 = .ok (.ifCond .lt 8, 3) := by decide +kernel
theorem dX8_queue_74 : decode cX8_queue 74 = .ok (.bipush (-9), 2) := by decide +kernel
theorem dX8_queue_76 : decode cX8_queue 76 = .ok (.goto 18, 3) := by decide +kernel
theorem dX8_queue_79 : decode cX8_queue 79 = .ok (.aload_n 0, 1) := by decide +kernel
theorem dX8_queue_80 : decode cX8_queue 80 = .ok (.getfield 9, 3) := by decide +kernel
theorem dX8_queue_83 : decode cX8_queue 83 = .ok (.iload 5, 2) := by decide +kernel
theorem dX8_queue_85 : decode cX8_queue 85 = .ok (.aload_n 0, 1) := by decide +kernel
theorem dX8_queue_86 : decode cX8_queue 86 = .ok (.iload 5, 2) := by decide +kernel
theorem dX8_queue_88 : decode cX8_queue 88 = .ok (.invokevirtual 158, 3) := by decide +kernel
theorem dX8_queue_91 : decode cX8_queue 91 = .ok (.invokestatic 138, 3) := by decide +kernel
theorem dX8_queue_94 : decode cX8_queue 94 = .ok (.istore 6, 2) := by decide +kernel
theorem dX8_queue_96 : decode cX8_queue 96 = .ok (.iload 6, 2) := by decide +kernel
theorem dX8_queue_98 : decode cX8_queue 98 = .ok (.ifCond .ge 6, 3) := by decide +kernel
theorem dX8_queue_101 : decode cX8_queue 101 = .ok (.goto 71, 3) := by decide +kernel
theorem dX8_queue_104 : decode cX8_queue 104 = .ok (.iconst 0, 1) := by decide +kernel
theorem dX8_queue_105 : decode cX8_queue 105 = .ok (.istore 7, 2) := by decide +kernel
theorem dX8_queue_107 : decode cX8_queue 107 = .ok (.iconst 1, 1) := by decide +kernel
theorem dX8_queue_108 : decode cX8_queue 108 = .ok (.istore 8, 2) := by decide +kernel
theorem dX8_queue_110 : decode cX8_queue 110 = .ok (.iload 8, 2) := by decide +kernel
theorem dX8_queue_112 : decode cX8_queue 112 = .ok (.aload_n 0, 1) := by decide +kernel
theorem dX8_queue_113 : decode cX8_queue 113 = .ok (.getfield 9, 3) := by decide +kernel
theorem dX8_queue_116 : decode cX8_queue 116 = .ok (.iconst 3, 1) := by decide +kernel
theorem dX8_queue_117 : decode cX8_queue 117 = .ok (.iaload, 1) := by decide +kernel
theorem dX8_queue_118 : decode cX8_queue 118 = .ok (.if_icmp .ge 24, 3) := by decide +kernel
theorem dX8_queue_121 : decode cX8_queue 121 = .ok (.aload_n 2, 1) := by decide +kernel
theorem dX8_queue_122 : decode cX8_queue 122 = .ok (.iload 8, 2) := by decide +kernel
theorem dX8_queue_124 : decode cX8_queue 124 = .ok (.iaload, 1) := by decide +kernel
theorem dX8_queue_125 : decode cX8_queue 125 = .ok (.aload_n 2, 1) := by decide +kernel
theorem dX8_queue_126 : decode cX8_queue 126 = .ok (.iload 7, 2) := by decide +kernel
theorem dX8_queue_128 : decode cX8_queue 128 = .ok (.iaload, 1) := by decide +kernel
theorem dX8_queue_129 : decode cX8_queue 129 = .ok (.if_icmp .ge 7, 3) := by decide +kernel
theorem dX8_queue_132 : decode cX8_queue 132 = .ok (.iload 8, 2) := by decide +kernel
theorem dX8_queue_134 : decode cX8_queue 134 = .ok (.istore 7, 2) := by decide +kernel
theorem dX8_queue_136 : decode cX8_queue 136 = .ok (.iinc 8 1, 3) := by decide +kernel
theorem dX8_queue_139 : decode cX8_queue 139 = .ok (.goto (-29), 3) := by decide +kernel
theorem dX8_queue_142 : decode cX8_queue 142 = .ok (.iload 5, 2) := by decide +kernel
theorem dX8_queue_144 : decode cX8_queue 144 = .ok (.iload_n 1, 1) := by decide +kernel
theorem dX8_queue_145 : decode cX8_queue 145 = .ok (.if_icmp .ne 9, 3) := by decide +kernel
theorem dX8_queue_148 : decode cX8_queue 148 = .ok (.aload_n 2, 1) := by decide +kernel
theorem dX8_queue_149 : decode cX8_queue 149 = .ok (.iload 7, 2) := by decide +kernel
theorem dX8_queue_151 : decode cX8_queue 151 = .ok (.iaload, 1) := by decide +kernel
theorem dX8_queue_152 : decode cX8_queue 152 = .ok (.istore 4, 2) := by decide +kernel
theorem dX8_queue_154 : decode cX8_queue 154 = .ok (.aload_n 2, 1) := by decide +kernel
theorem dX8_queue_155 : decode cX8_queue 155 = .ok (.iload 7, 2) := by decide +kernel
theorem dX8_queue_157 : decode cX8_queue 157 = .ok (.dup2, 1) := by decide +kernel
theorem dX8_queue_158 : decode cX8_queue 158 = .ok (.iaload, 1) := by decide +kernel
theorem dX8_queue_159 : decode cX8_queue 159 = .ok (.iload 6, 2) := by decide +kernel
theorem dX8_queue_161 : decode cX8_queue 161 = .ok (.iadd, 1) := by decide +kernel
theorem dX8_queue_162 : decode cX8_queue 162 = .ok (.iastore, 1) := by decide +kernel
theorem dX8_queue_163 : decode cX8_queue 163 = .ok (.iload_n 3, 1) := by decide +kernel
theorem dX8_queue_164 : decode cX8_queue 164 = .ok (.aload_n 2, 1) := by decide +kernel
theorem dX8_queue_165 : decode cX8_queue 165 = .ok (.iload 7, 2) := by decide +kernel
theorem dX8_queue_167 : decode cX8_queue 167 = .ok (.iaload, 1) := by decide +kernel
theorem dX8_queue_168 : decode cX8_queue 168 = .ok (.invokestatic 51, 3) := by decide +kernel
theorem dX8_queue_171 : decode cX8_queue 171 = .ok (.istore_n 3, 1) := by decide +kernel
theorem dX8_queue_172 : decode cX8_queue 172 = .ok (.iinc 5 1, 3) := by decide +kernel
theorem dX8_queue_175 : decode cX8_queue 175 = .ok (.goto (-125), 3) := by decide +kernel
theorem dX8_queue_178 : decode cX8_queue 178 = .ok (.iload_n 1, 1) := by decide +kernel
theorem dX8_queue_179 : decode cX8_queue 179 = .ok (.ifCond .ge 7, 3) := by decide +kernel
theorem dX8_queue_182 : decode cX8_queue 182 = .ok (.iload_n 3, 1) := by decide +kernel
theorem dX8_queue_183 : decode cX8_queue 183 = .ok (.goto 5, 3) := by decide +kernel
theorem dX8_queue_186 : decode cX8_queue 186 = .ok (.iload 4, 2) := by decide +kernel
theorem dX8_queue_188 : decode cX8_queue 188 = .ok (.ireturn, 1) := by decide +kernel
theorem dX8_oneMore_0 : decode cX8_oneMore 0 = .ok (.aload_n 0, 1) := by decide +kernel
theorem dX8_oneMore_1 : decode cX8_oneMore 1 = .ok (.getfield 9, 3) := by decide +kernel
theorem dX8_oneMore_4 : decode cX8_oneMore 4 = .ok (.aload_n 0, 1) := by decide +kernel
theorem dX8_oneMore_5 : decode cX8_oneMore 5 = .ok (.getfield 13, 3) := by decide +kernel
theorem dX8_oneMore_8 : decode cX8_oneMore 8 = .ok (.invokestatic 122, 3) := by decide +kernel
theorem dX8_oneMore_11 : decode cX8_oneMore 11 = .ok (.aload_n 0, 1) := by decide +kernel
theorem dX8_oneMore_12 : decode cX8_oneMore 12 = .ok (.getfield 13, 3) := by decide +kernel
theorem dX8_oneMore_15 : decode cX8_oneMore 15 = .ok (.iconst 1, 1) := by decide +kernel
theorem dX8_oneMore_16 : decode cX8_oneMore 16 = .ok (.bipush 11, 2) := by decide +kernel
theorem dX8_oneMore_18 : decode cX8_oneMore 18 = .ok (.aload_n 0, 1) := by decide +kernel
theorem dX8_oneMore_19 : decode cX8_oneMore 19 = .ok (.getfield 9, 3) := by decide +kernel
theorem dX8_oneMore_22 : decode cX8_oneMore 22 = .ok (.iconst 1, 1) := by decide +kernel
theorem dX8_oneMore_23 : decode cX8_oneMore 23 = .ok (.iaload, 1) := by decide +kernel
theorem dX8_oneMore_24 : decode cX8_oneMore 24 = .ok (.iconst 1, 1) := by decide +kernel
theorem dX8_oneMore_25 : decode cX8_oneMore 25 = .ok (.iadd, 1) := by decide +kernel
theorem dX8_oneMore_26 : decode cX8_oneMore 26 = .ok (.invokestatic 161, 3) := by decide +kernel
theorem dX8_oneMore_29 : decode cX8_oneMore 29 = .ok (.iastore, 1) := by decide +kernel
theorem dX8_oneMore_30 : decode cX8_oneMore 30 = .ok (.aload_n 0, 1) := by decide +kernel
theorem dX8_oneMore_31 : decode cX8_oneMore 31 = .ok (.getfield 13, 3) := by decide +kernel
theorem dX8_oneMore_34 : decode cX8_oneMore 34 = .ok (.invokestatic 141, 3) := by decide +kernel
theorem dX8_oneMore_37 : decode cX8_oneMore 37 = .ok (.ireturn, 1) := by decide +kernel
theorem dX8_bestYear_0 : decode cX8_bestYear 0 = .ok (.iconst 0, 1) := by decide +kernel
theorem dX8_bestYear_1 : decode cX8_bestYear 1 = .ok (.istore_n 1, 1) := by decide +kernel
theorem dX8_bestYear_2 : decode cX8_bestYear 2 = .ok (.iconst (-1), 1) := by decide +kernel
theorem dX8_bestYear_3 : decode cX8_bestYear 3 = .ok (.istore_n 2, 1) := by decide +kernel
theorem dX8_bestYear_4 : decode cX8_bestYear 4 = .ok (.iconst 0, 1) := by decide +kernel
theorem dX8_bestYear_5 : decode cX8_bestYear 5 = .ok (.istore_n 3, 1) := by decide +kernel
theorem dX8_bestYear_6 : decode cX8_bestYear 6 = .ok (.iload_n 3, 1) := by decide +kernel
theorem dX8_bestYear_7 : decode cX8_bestYear 7 = .ok (.bipush 12, 2) := by decide +kernel
theorem dX8_bestYear_9 : decode cX8_bestYear 9 = .ok (.if_icmp .ge 57, 3) := by decide +kernel
theorem dX8_bestYear_12 : decode cX8_bestYear 12 = .ok (.aload_n 0, 1) := by decide +kernel
theorem dX8_bestYear_13 : decode cX8_bestYear 13 = .ok (.getfield 9, 3) := by decide +kernel
theorem dX8_bestYear_16 : decode cX8_bestYear 16 = .ok (.aload_n 0, 1) := by decide +kernel
theorem dX8_bestYear_17 : decode cX8_bestYear 17 = .ok (.getfield 13, 3) := by decide +kernel
theorem dX8_bestYear_20 : decode cX8_bestYear 20 = .ok (.invokestatic 122, 3) := by decide +kernel
theorem dX8_bestYear_23 : decode cX8_bestYear 23 = .ok (.aload_n 0, 1) := by decide +kernel
theorem dX8_bestYear_24 : decode cX8_bestYear 24 = .ok (.getfield 13, 3) := by decide +kernel
theorem dX8_bestYear_27 : decode cX8_bestYear 27 = .ok (.iconst 1, 1) := by decide +kernel
theorem dX8_bestYear_28 : decode cX8_bestYear 28 = .ok (.iload_n 3, 1) := by decide +kernel
theorem dX8_bestYear_29 : decode cX8_bestYear 29 = .ok (.iastore, 1) := by decide +kernel
theorem dX8_bestYear_30 : decode cX8_bestYear 30 = .ok (.aload_n 0, 1) := by decide +kernel
theorem dX8_bestYear_31 : decode cX8_bestYear 31 = .ok (.aload_n 0, 1) := by decide +kernel
theorem dX8_bestYear_32 : decode cX8_bestYear 32 = .ok (.getfield 13, 3) := by decide +kernel
theorem dX8_bestYear_35 : decode cX8_bestYear 35 = .ok (.aload_n 0, 1) := by decide +kernel
theorem dX8_bestYear_36 : decode cX8_bestYear 36 = .ok (.getfield 13, 3) := by decide +kernel
theorem dX8_bestYear_39 : decode cX8_bestYear 39 = .ok (.iconst 2, 1) := by decide +kernel
theorem dX8_bestYear_40 : decode cX8_bestYear 40 = .ok (.iaload, 1) := by decide +kernel
theorem dX8_bestYear_41 : decode cX8_bestYear 41 = .ok (.invokevirtual 155, 3) := by decide +kernel
theorem dX8_bestYear_44 : decode cX8_bestYear 44 = .ok (.istore 4, 2) := by decide +kernel
theorem dX8_bestYear_46 : decode cX8_bestYear 46 = .ok (.iload 4, 2) := by decide +kernel
theorem dX8_bestYear_48 : decode cX8_bestYear 48 = .ok (.iload_n 2, 1) := by decide +kernel
theorem dX8_bestYear_49 : decode cX8_bestYear 49 = .ok (.if_icmp .gt 6, 3) := by decide +kernel
theorem dX8_bestYear_52 : decode cX8_bestYear 52 = .ok (.goto 8, 3) := by decide +kernel
theorem dX8_bestYear_55 : decode cX8_bestYear 55 = .ok (.iload_n 3, 1) := by decide +kernel
theorem dX8_bestYear_56 : decode cX8_bestYear 56 = .ok (.istore_n 1, 1) := by decide +kernel
theorem dX8_bestYear_57 : decode cX8_bestYear 57 = .ok (.iload 4, 2) := by decide +kernel
theorem dX8_bestYear_59 : decode cX8_bestYear 59 = .ok (.istore_n 2, 1) := by decide +kernel
theorem dX8_bestYear_60 : decode cX8_bestYear 60 = .ok (.iinc 3 1, 3) := by decide +kernel
theorem dX8_bestYear_63 : decode cX8_bestYear 63 = .ok (.goto (-57), 3) := by decide +kernel
theorem dX8_bestYear_66 : decode cX8_bestYear 66 = .ok (.iload_n 1, 1) := by decide +kernel
theorem dX8_bestYear_67 : decode cX8_bestYear 67 = .ok (.ireturn, 1) := by decide +kernel
theorem dX8_waterOf_0 : decode cX8_waterOf 0 = .ok (.aload_n 0, 1) := by decide +kernel
theorem dX8_waterOf_1 : decode cX8_waterOf 1 = .ok (.getfield 9, 3) := by decide +kernel
theorem dX8_waterOf_4 : decode cX8_waterOf 4 = .ok (.iload_n 1, 1) := by decide +kernel
theorem dX8_waterOf_5 : decode cX8_waterOf 5 = .ok (.aload_n 0, 1) := by decide +kernel
theorem dX8_waterOf_6 : decode cX8_waterOf 6 = .ok (.getfield 9, 3) := by decide +kernel
theorem dX8_waterOf_9 : decode cX8_waterOf 9 = .ok (.iconst 1, 1) := by decide +kernel
theorem dX8_waterOf_10 : decode cX8_waterOf 10 = .ok (.iaload, 1) := by decide +kernel
theorem dX8_waterOf_11 : decode cX8_waterOf 11 = .ok (.invokestatic 55, 3) := by decide +kernel
theorem dX8_waterOf_14 : decode cX8_waterOf 14 = .ok (.iaload, 1) := by decide +kernel
theorem dX8_waterOf_15 : decode cX8_waterOf 15 = .ok (.aload_n 0, 1) := by decide +kernel
theorem dX8_waterOf_16 : decode cX8_waterOf 16 = .ok (.getfield 9, 3) := by decide +kernel
theorem dX8_waterOf_19 : decode cX8_waterOf 19 = .ok (.iload_n 1, 1) := by decide +kernel
theorem dX8_waterOf_20 : decode cX8_waterOf 20 = .ok (.invokestatic 69, 3) := by decide +kernel
theorem dX8_waterOf_23 : decode cX8_waterOf 23 = .ok (.isub, 1) := by decide +kernel
theorem dX8_waterOf_24 : decode cX8_waterOf 24 = .ok (.ireturn, 1) := by decide +kernel
theorem dX8_water_0 : decode cX8_water 0 = .ok (.aload_n 0, 1) := by decide +kernel
theorem dX8_water_1 : decode cX8_water 1 = .ok (.iload_n 1, 1) := by decide +kernel
theorem dX8_water_2 : decode cX8_water 2 = .ok (.invokevirtual 101, 3) := by decide +kernel
theorem dX8_water_5 : decode cX8_water 5 = .ok (.ifCond .ne 9, 3) := by decide +kernel
theorem dX8_water_8 : decode cX8_water 8 = .ok (.aload_n 0, 1) := by decide +kernel
theorem dX8_water_9 : decode cX8_water 9 = .ok (.iconst (-1), 1) := by decide +kernel
theorem dX8_water_10 : decode cX8_water 10 = .ok (.invokevirtual 164, 3) := by decide +kernel
theorem dX8_water_13 : decode cX8_water 13 = .ok (.ireturn, 1) := by decide +kernel
theorem dX8_water_14 : decode cX8_water 14 = .ok (.aload_n 0, 1) := by decide +kernel
theorem dX8_water_15 : decode cX8_water 15 = .ok (.getfield 9, 3) := by decide +kernel
theorem dX8_water_18 : decode cX8_water 18 = .ok (.bipush 20, 2) := by decide +kernel
theorem dX8_water_20 : decode cX8_water 20 = .ok (.iload_n 1, 1) := by decide +kernel
theorem dX8_water_21 : decode cX8_water 21 = .ok (.iadd, 1) := by decide +kernel
theorem dX8_water_22 : decode cX8_water 22 = .ok (.iaload, 1) := by decide +kernel
theorem dX8_water_23 : decode cX8_water 23 = .ok (.ifCond .ge 12, 3) := by decide +kernel
theorem dX8_water_26 : decode cX8_water 26 = .ok (.aload_n 0, 1) := by decide +kernel
theorem dX8_water_27 : decode cX8_water 27 = .ok (.bipush (-3), 2) := by decide +kernel
theorem dX8_water_29 : decode cX8_water 29 = .ok (.invokevirtual 164, 3) := by decide +kernel
theorem dX8_water_32 : decode cX8_water 32 = .ok (.goto 8, 3) := by decide +kernel
theorem dX8_water_35 : decode cX8_water 35 = .ok (.aload_n 0, 1) := by decide +kernel
theorem dX8_water_36 : decode cX8_water 36 = .ok (.iload_n 1, 1) := by decide +kernel
theorem dX8_water_37 : decode cX8_water 37 = .ok (.invokevirtual 167, 3) := by decide +kernel
theorem dX8_water_40 : decode cX8_water 40 = .ok (.ireturn, 1) := by decide +kernel
theorem dX8_bestWash_0 : decode cX8_bestWash 0 = .ok (.bipush (-9), 2) := by decide +kernel
theorem dX8_bestWash_2 : decode cX8_bestWash 2 = .ok (.istore_n 1, 1) := by decide +kernel
theorem dX8_bestWash_3 : decode cX8_bestWash 3 = .ok (.iconst 0, 1) := by decide +kernel
theorem dX8_bestWash_4 : decode cX8_bestWash 4 = .ok (.istore_n 2, 1) := by decide +kernel
theorem dX8_bestWash_5 : decode cX8_bestWash 5 = .ok (.iconst 0, 1) := by decide +kernel
theorem dX8_bestWash_6 : decode cX8_bestWash 6 = .ok (.istore_n 3, 1) := by decide +kernel
theorem dX8_bestWash_7 : decode cX8_bestWash 7 = .ok (.iload_n 3, 1) := by decide +kernel
theorem dX8_bestWash_8 : decode cX8_bestWash 8 = .ok (.aload_n 0, 1) := by decide +kernel
theorem dX8_bestWash_9 : decode cX8_bestWash 9 = .ok (.getfield 9, 3) := by decide +kernel
theorem dX8_bestWash_12 : decode cX8_bestWash 12 = .ok (.iconst 0, 1) := by decide +kernel
theorem dX8_bestWash_13 : decode cX8_bestWash 13 = .ok (.iaload, 1) := by decide +kernel
theorem dX8_bestWash_14 : decode cX8_bestWash 14 = .ok (.if_icmp .ge 29, 3) := by decide +kernel
theorem dX8_bestWash_17 : decode cX8_bestWash 17 = .ok (.aload_n 0, 1) := by decide +kernel
theorem dX8_bestWash_18 : decode cX8_bestWash 18 = .ok (.iload_n 3, 1) := by decide +kernel
theorem dX8_bestWash_19 : decode cX8_bestWash 19 = .ok (.invokevirtual 167, 3) := by decide +kernel
theorem dX8_bestWash_22 : decode cX8_bestWash 22 = .ok (.iload_n 2, 1) := by decide +kernel
theorem dX8_bestWash_23 : decode cX8_bestWash 23 = .ok (.if_icmp .gt 6, 3) := by decide +kernel
theorem dX8_bestWash_26 : decode cX8_bestWash 26 = .ok (.goto 11, 3) := by decide +kernel
theorem dX8_bestWash_29 : decode cX8_bestWash 29 = .ok (.iload_n 3, 1) := by decide +kernel
theorem dX8_bestWash_30 : decode cX8_bestWash 30 = .ok (.istore_n 1, 1) := by decide +kernel
theorem dX8_bestWash_31 : decode cX8_bestWash 31 = .ok (.aload_n 0, 1) := by decide +kernel
theorem dX8_bestWash_32 : decode cX8_bestWash 32 = .ok (.iload_n 3, 1) := by decide +kernel
theorem dX8_bestWash_33 : decode cX8_bestWash 33 = .ok (.invokevirtual 167, 3) := by decide +kernel
theorem dX8_bestWash_36 : decode cX8_bestWash 36 = .ok (.istore_n 2, 1) := by decide +kernel
theorem dX8_bestWash_37 : decode cX8_bestWash 37 = .ok (.iinc 3 1, 3) := by decide +kernel
theorem dX8_bestWash_40 : decode cX8_bestWash 40 = .ok (.goto (-33), 3) := by decide +kernel
theorem dX8_bestWash_43 : decode cX8_bestWash 43 = .ok (.iload_n 1, 1) := by decide +kernel
theorem dX8_bestWash_44 : decode cX8_bestWash 44 = .ok (.ireturn, 1) := by decide +kernel
theorem dX8_sour_0 : decode cX8_sour 0 = .ok (.iconst 0, 1) := by decide +kernel
theorem dX8_sour_1 : decode cX8_sour 1 = .ok (.istore_n 1, 1) := by decide +kernel
theorem dX8_sour_2 : decode cX8_sour 2 = .ok (.iconst 0, 1) := by decide +kernel
theorem dX8_sour_3 : decode cX8_sour 3 = .ok (.istore_n 2, 1) := by decide +kernel
theorem dX8_sour_4 : decode cX8_sour 4 = .ok (.iload_n 2, 1) := by decide +kernel
theorem dX8_sour_5 : decode cX8_sour 5 = .ok (.aload_n 0, 1) := by decide +kernel
theorem dX8_sour_6 : decode cX8_sour 6 = .ok (.getfield 9, 3) := by decide +kernel
theorem dX8_sour_9 : decode cX8_sour 9 = .ok (.iconst 0, 1) := by decide +kernel
theorem dX8_sour_10 : decode cX8_sour 10 = .ok (.iaload, 1) := by decide +kernel
theorem dX8_sour_11 : decode cX8_sour 11 = .ok (.if_icmp .ge 27, 3) := by decide +kernel
theorem dX8_sour_14 : decode cX8_sour 14 = .ok (.iload_n 1, 1) := by decide +kernel
theorem dX8_sour_15 : decode cX8_sour 15 = .ok (.aload_n 0, 1) := by decide +kernel
theorem dX8_sour_16 : decode cX8_sour 16 = .ok (.iload_n 2, 1) := by decide +kernel
theorem dX8_sour_17 : decode cX8_sour 17 = .ok (.invokevirtual 167, 3) := by decide +kernel
theorem dX8_sour_20 : decode cX8_sour 20 = .ok (.ifCond .le 9, 3) := by decide +kernel
theorem dX8_sour_23 : decode cX8_sour 23 = .ok (.iconst 1, 1) := by decide +kernel
theorem dX8_sour_24 : decode cX8_sour 24 = .ok (.iload_n 2, 1) := by decide +kernel
theorem dX8_sour_25 : decode cX8_sour 25 = .ok (.ishl, 1) := by decide +kernel
theorem dX8_sour_26 : decode cX8_sour 26 = .ok (.goto 4, 3) := by decide +kernel
theorem dX8_sour_29 : decode cX8_sour 29 = .ok (.iconst 0, 1) := by decide +kernel
theorem dX8_sour_30 : decode cX8_sour 30 = .ok (.ior, 1) := by decide +kernel
theorem dX8_sour_31 : decode cX8_sour 31 = .ok (.istore_n 1, 1) := by decide +kernel
theorem dX8_sour_32 : decode cX8_sour 32 = .ok (.iinc 2 1, 3) := by decide +kernel
theorem dX8_sour_35 : decode cX8_sour 35 = .ok (.goto (-31), 3) := by decide +kernel
theorem dX8_sour_38 : decode cX8_sour 38 = .ok (.iload_n 1, 1) := by decide +kernel
theorem dX8_sour_39 : decode cX8_sour 39 = .ok (.ireturn, 1) := by decide +kernel
theorem dX8_regret_0 : decode cX8_regret 0 = .ok (.aload_n 0, 1) := by decide +kernel
theorem dX8_regret_1 : decode cX8_regret 1 = .ok (.iload_n 1, 1) := by decide +kernel
theorem dX8_regret_2 : decode cX8_regret 2 = .ok (.invokevirtual 101, 3) := by decide +kernel
theorem dX8_regret_5 : decode cX8_regret 5 = .ok (.ifCond .eq 33, 3) := by decide +kernel
theorem dX8_regret_8 : decode cX8_regret 8 = .ok (.iconst 0, 1) := by decide +kernel
theorem dX8_regret_9 : decode cX8_regret 9 = .ok (.aload_n 0, 1) := by decide +kernel
theorem dX8_regret_10 : decode cX8_regret 10 = .ok (.getfield 9, 3) := by decide +kernel
theorem dX8_regret_13 : decode cX8_regret 13 = .ok (.iload_n 1, 1) := by decide +kernel
theorem dX8_regret_14 : decode cX8_regret 14 = .ok (.aload_n 0, 1) := by decide +kernel
theorem dX8_regret_15 : decode cX8_regret 15 = .ok (.iload_n 1, 1) := by decide +kernel
theorem dX8_regret_16 : decode cX8_regret 16 = .ok (.invokevirtual 158, 3) := by decide +kernel
theorem dX8_regret_19 : decode cX8_regret 19 = .ok (.invokestatic 55, 3) := by decide +kernel
theorem dX8_regret_22 : decode cX8_regret 22 = .ok (.iaload, 1) := by decide +kernel
theorem dX8_regret_23 : decode cX8_regret 23 = .ok (.aload_n 0, 1) := by decide +kernel
theorem dX8_regret_24 : decode cX8_regret 24 = .ok (.getfield 9, 3) := by decide +kernel
theorem dX8_regret_27 : decode cX8_regret 27 = .ok (.iload_n 1, 1) := by decide +kernel
theorem dX8_regret_28 : decode cX8_regret 28 = .ok (.invokestatic 69, 3) := by decide +kernel
theorem dX8_regret_31 : decode cX8_regret 31 = .ok (.isub, 1) := by decide +kernel
theorem dX8_regret_32 : decode cX8_regret 32 = .ok (.invokestatic 51, 3) := by decide +kernel
theorem dX8_regret_35 : decode cX8_regret 35 = .ok (.goto 8, 3) := by decide +kernel
theorem dX8_regret_38 : decode cX8_regret 38 = .ok (.aload_n 0, 1) := by decide +kernel
theorem dX8_regret_39 : decode cX8_regret 39 = .ok (.iconst (-1), 1) := by decide +kernel
theorem dX8_regret_40 : decode cX8_regret 40 = .ok (.invokevirtual 41, 3) := by decide +kernel
theorem dX8_regret_43 : decode cX8_regret 43 = .ok (.ireturn, 1) := by decide +kernel
theorem dX8_two_0 : decode cX8_two 0 = .ok (.aload_n 0, 1) := by decide +kernel
theorem dX8_two_1 : decode cX8_two 1 = .ok (.iload_n 1, 1) := by decide +kernel
theorem dX8_two_2 : decode cX8_two 2 = .ok (.iload_n 2, 1) := by decide +kernel
theorem dX8_two_3 : decode cX8_two 3 = .ok (.iconst 0, 1) := by decide +kernel
theorem dX8_two_4 : decode cX8_two 4 = .ok (.invokevirtual 132, 3) := by decide +kernel
theorem dX8_two_7 : decode cX8_two 7 = .ok (.istore_n 3, 1) := by decide +kernel
theorem dX8_two_8 : decode cX8_two 8 = .ok (.iload_n 3, 1) := by decide +kernel
theorem dX8_two_9 : decode cX8_two 9 = .ok (.ifCond .eq 9, 3) := by decide +kernel
theorem dX8_two_12 : decode cX8_two 12 = .ok (.aload_n 0, 1) := by decide +kernel
theorem dX8_two_13 : decode cX8_two 13 = .ok (.iload_n 3, 1) := by decide +kernel
theorem dX8_two_14 : decode cX8_two 14 = .ok (.invokevirtual 41, 3) := by decide +kernel
theorem dX8_two_17 : decode cX8_two 17 = .ok (.ireturn, 1) := by decide +kernel
theorem dX8_two_18 : decode cX8_two 18 = .ok (.iconst 0, 1) := by decide +kernel
theorem dX8_two_19 : decode cX8_two 19 = .ok (.istore 4, 2) := by decide +kernel
theorem dX8_two_21 : decode cX8_two 21 = .ok (.iload 4, 2) := by decide +kernel
theorem dX8_two_23 : decode cX8_two 23 = .ok (.iconst 5, 1) := by decide +kernel
theorem dX8_two_24 : decode cX8_two 24 = .ok (.if_icmp .ge 120, 3) := by decide +kernel
theorem dX8_two_27 : decode cX8_two 27 = .ok (.iconst 0, 1) := by decide +kernel
theorem dX8_two_28 : decode cX8_two 28 = .ok (.istore 5, 2) := by decide +kernel
theorem dX8_two_30 : decode cX8_two 30 = .ok (.iload 5, 2) := by decide +kernel
theorem dX8_two_32 : decode cX8_two 32 = .ok (.iconst 5, 1) := by decide +kernel
theorem dX8_two_33 : decode cX8_two 33 = .ok (.if_icmp .ge 105, 3) := by decide +kernel
theorem dX8_two_36 : decode cX8_two 36 = .ok (.aload_n 0, 1) := by decide +kernel
theorem dX8_two_37 : decode cX8_two 37 = .ok (.getfield 9, 3) := by decide +kernel
theorem dX8_two_40 : decode cX8_two 40 = .ok (.iload_n 1, 1) := by decide +kernel
theorem dX8_two_41 : decode cX8_two 41 = .ok (.iload_n 2, 1) := by decide +kernel
theorem dX8_two_42 : decode cX8_two 42 = .ok (.iload 4, 2) := by decide +kernel
theorem dX8_two_44 : decode cX8_two 44 = .ok (.iload 5, 2) := by decide +kernel
theorem dX8_two_46 : decode cX8_two 46 = .ok (.iadd, 1) := by decide +kernel
theorem dX8_two_47 : decode cX8_two 47 = .ok (.invokestatic 73, 3) := by decide +kernel
theorem dX8_two_50 : decode cX8_two 50 = .ok (.istore 6, 2) := by decide +kernel
theorem dX8_two_52 : decode cX8_two 52 = .ok (.iconst 1, 1) := by decide +kernel
theorem dX8_two_53 : decode cX8_two 53 = .ok (.istore 7, 2) := by decide +kernel
theorem dX8_two_55 : decode cX8_two 55 = .ok (.iconst 0, 1) := by decide +kernel
theorem dX8_two_56 : decode cX8_two 56 = .ok (.istore 8, 2) := by decide +kernel
theorem dX8_two_58 : decode cX8_two 58 = .ok (.iload 8, 2) := by decide +kernel
theorem dX8_two_60 : decode cX8_two 60 = .ok (.iconst 5, 1) := by decide +kernel
theorem dX8_two_61 : decode cX8_two 61 = .ok (.if_icmp .ge 57, 3) := by decide +kernel
theorem dX8_two_64 : decode cX8_two 64 = .ok (.iload 7, 2) := by decide +kernel
theorem dX8_two_66 : decode cX8_two 66 = .ok (.aload_n 0, 1) := by decide +kernel
theorem dX8_two_67 : decode cX8_two 67 = .ok (.getfield 9, 3) := by decide +kernel
theorem dX8_two_70 : decode cX8_two 70 = .ok (.iload_n 1, 1) := by decide +kernel
theorem dX8_two_71 : decode cX8_two 71 = .ok (.iload_n 2, 1) := by decide +kernel
theorem dX8_two_72 : decode cX8_two 72 = .ok (.iload 8, 2) := by decide +kernel
theorem dX8_two_74 : decode cX8_two 74 = .ok (.iload 5, 2) := by decide +kernel
theorem dX8_two_76 : decode cX8_two 76 = .ok (.iadd, 1) := by decide +kernel
theorem dX8_two_77 : decode cX8_two 77 = .ok (.invokestatic 73, 3) := by decide +kernel
theorem dX8_two_80 : decode cX8_two 80 = .ok (.iload 6, 2) := by decide +kernel
theorem dX8_two_82 : decode cX8_two 82 = .ok (.if_icmp .gt 26, 3) := by decide +kernel
theorem dX8_two_85 : decode cX8_two 85 = .ok (.aload_n 0, 1) := by decide +kernel
theorem dX8_two_86 : decode cX8_two 86 = .ok (.getfield 9, 3) := by decide +kernel
theorem dX8_two_89 : decode cX8_two 89 = .ok (.iload_n 1, 1) := by decide +kernel
theorem dX8_two_90 : decode cX8_two 90 = .ok (.iload_n 2, 1) := by decide +kernel
theorem dX8_two_91 : decode cX8_two 91 = .ok (.iload 4, 2) := by decide +kernel
theorem dX8_two_93 : decode cX8_two 93 = .ok (.iload 8, 2) := by decide +kernel
theorem dX8_two_95 : decode cX8_two 95 = .ok (.iadd, 1) := by decide +kernel
theorem dX8_two_96 : decode cX8_two 96 = .ok (.invokestatic 73, 3) := by decide +kernel
theorem dX8_two_99 : decode cX8_two 99 = .ok (.iload 6, 2) := by decide +kernel
theorem dX8_two_101 : decode cX8_two 101 = .ok (.if_icmp .lt 7, 3) := by decide +kernel
theorem dX8_two_104 : decode cX8_two 104 = .ok (.iconst 1, 1) := by decide +kernel
theorem dX8_two_105 : decode cX8_two 105 = .ok (.goto 4, 3) := by decide +kernel
theorem dX8_two_108 : decode cX8_two 108 = .ok (.iconst 0, 1) := by decide +kernel
theorem dX8_two_109 : decode cX8_two 109 = .ok (.iand, 1) := by decide +kernel
theorem dX8_two_110 : decode cX8_two 110 = .ok (.istore 7, 2) := by decide +kernel
theorem dX8_two_112 : decode cX8_two 112 = .ok (.iinc 8 1, 3) := by decide +kernel
theorem dX8_two_115 : decode cX8_two 115 = .ok (.goto (-57), 3) := by decide +kernel
theorem dX8_two_118 : decode cX8_two 118 = .ok (.iload 7, 2) := by decide +kernel
theorem dX8_two_120 : decode cX8_two 120 = .ok (.ifCond .eq 12, 3) := by decide +kernel
theorem dX8_two_123 : decode cX8_two 123 = .ok (.bipush 10, 2) := by decide +kernel
theorem dX8_two_125 : decode cX8_two 125 = .ok (.iload 4, 2) := by decide +kernel
theorem dX8_two_127 : decode cX8_two 127 = .ok (.imul, 1) := by decide +kernel
theorem dX8_two_128 : decode cX8_two 128 = .ok (.iload 5, 2) := by decide +kernel
theorem dX8_two_130 : decode cX8_two 130 = .ok (.iadd, 1) := by decide +kernel
theorem dX8_two_131 : decode cX8_two 131 = .ok (.ireturn, 1) := by decide +kernel
theorem dX8_two_132 : decode cX8_two 132 = .ok (.iinc 5 1, 3) := by decide +kernel
theorem dX8_two_135 : decode cX8_two 135 = .ok (.goto (-105), 3) := by decide +kernel
theorem dX8_two_138 : decode cX8_two 138 = .ok (.iinc 4 1, 3) := by decide +kernel
theorem dX8_two_141 : decode cX8_two 141 = .ok (.goto (-120), 3) := by decide +kernel
theorem dX8_two_144 : decode cX8_two 144 = .ok (.bipush (-9), 2) := by decide +kernel
theorem dX8_two_146 : decode cX8_two 146 = .ok (.ireturn, 1) := by decide +kernel
theorem dX8_gcd_0 : decode cX8_gcd 0 = .ok (.lload_n 0, 1) := by decide +kernel
theorem dX8_gcd_1 : decode cX8_gcd 1 = .ok (.lstore 4, 2) := by decide +kernel
theorem dX8_gcd_3 : decode cX8_gcd 3 = .ok (.lload_n 2, 1) := by decide +kernel
theorem dX8_gcd_4 : decode cX8_gcd 4 = .ok (.lstore 6, 2) := by decide +kernel
theorem dX8_gcd_6 : decode cX8_gcd 6 = .ok (.lload 6, 2) := by decide +kernel
theorem dX8_gcd_8 : decode cX8_gcd 8 = .ok (.lconst 0, 1) := by decide +kernel
theorem dX8_gcd_9 : decode cX8_gcd 9 = .ok (.lcmp, 1) := by decide +kernel
theorem dX8_gcd_10 : decode cX8_gcd 10 = .ok (.ifCond .eq 21, 3) := by decide +kernel
theorem dX8_gcd_13 : decode cX8_gcd 13 = .ok (.lload 4, 2) := by decide +kernel
theorem dX8_gcd_15 : decode cX8_gcd 15 = .ok (.lload 6, 2) := by decide +kernel
theorem dX8_gcd_17 : decode cX8_gcd 17 = .ok (.lrem, 1) := by decide +kernel
theorem dX8_gcd_18 : decode cX8_gcd 18 = .ok (.lstore 8, 2) := by decide +kernel
theorem dX8_gcd_20 : decode cX8_gcd 20 = .ok (.lload 6, 2) := by decide +kernel
theorem dX8_gcd_22 : decode cX8_gcd 22 = .ok (.lstore 4, 2) := by decide +kernel
theorem dX8_gcd_24 : decode cX8_gcd 24 = .ok (.lload 8, 2) := by decide +kernel
theorem dX8_gcd_26 : decode cX8_gcd 26 = .ok (.lstore 6, 2) := by decide +kernel
theorem dX8_gcd_28 : decode cX8_gcd 28 = .ok (.goto (-22), 3) := by decide +kernel
theorem dX8_gcd_31 : decode cX8_gcd 31 = .ok (.lload 4, 2) := by decide +kernel
theorem dX8_gcd_33 : decode cX8_gcd 33 = .ok (.lreturn, 1) := by decide +kernel
theorem dX8_partOf_0 : decode cX8_partOf 0 = .ok (.lload_n 0, 1) := by decide +kernel
theorem dX8_partOf_1 : decode cX8_partOf 1 = .ok (.lconst 0, 1) := by decide +kernel
theorem dX8_partOf_2 : decode cX8_partOf 2 = .ok (.lcmp, 1) := by decide +kernel
theorem dX8_partOf_3 : decode cX8_partOf 3 = .ok (.ifCond .ne 7, 3) := by decide +kernel
theorem dX8_partOf_6 : decode cX8_partOf 6 = .ok (.iload 4, 2) := by decide +kernel
theorem dX8_partOf_8 : decode cX8_partOf 8 = .ok (.i2l, 1) := by decide +kernel
theorem dX8_partOf_9 : decode cX8_partOf 9 = .ok (.lreturn, 1) := by decide +kernel
theorem dX8_partOf_10 : decode cX8_partOf 10 = .ok (.iload 4, 2) := by decide +kernel
theorem dX8_partOf_12 : decode cX8_partOf 12 = .ok (.ifCond .ne 7, 3) := by decide +kernel
theorem dX8_partOf_15 : decode cX8_partOf 15 = .ok (.lload_n 0, 1) := by decide +kernel
theorem dX8_partOf_16 : decode cX8_partOf 16 = .ok (.goto 4, 3) := by decide +kernel
theorem dX8_partOf_19 : decode cX8_partOf 19 = .ok (.lload_n 2, 1) := by decide +kernel
theorem dX8_partOf_20 : decode cX8_partOf 20 = .ok (.lload_n 0, 1) := by decide +kernel
theorem dX8_partOf_21 : decode cX8_partOf 21 = .ok (.lload_n 2, 1) := by decide +kernel
theorem dX8_partOf_22 : decode cX8_partOf 22 = .ok (.invokestatic 170, 3) := by decide +kernel
theorem dX8_partOf_25 : decode cX8_partOf 25 = .ok (.ldiv, 1) := by decide +kernel
theorem dX8_partOf_26 : decode cX8_partOf 26 = .ok (.lreturn, 1) := by decide +kernel
theorem dX8_slips_0 : decode cX8_slips 0 = .ok (.lconst 0, 1) := by decide +kernel
theorem dX8_slips_1 : decode cX8_slips 1 = .ok (.lstore 5, 2) := by decide +kernel
theorem dX8_slips_3 : decode cX8_slips 3 = .ok (.iconst 0, 1) := by decide +kernel
theorem dX8_slips_4 : decode cX8_slips 4 = .ok (.istore 7, 2) := by decide +kernel
theorem dX8_slips_6 : decode cX8_slips 6 = .ok (.iload 7, 2) := by decide +kernel
theorem dX8_slips_8 : decode cX8_slips 8 = .ok (.iconst 1, 1) := by decide +kernel
theorem dX8_slips_9 : decode cX8_slips 9 = .ok (.iload_n 2, 1) := by decide +kernel
theorem dX8_slips_10 : decode cX8_slips 10 = .ok (.ishl, 1) := by decide +kernel
theorem dX8_slips_11 : decode cX8_slips 11 = .ok (.if_icmp .ge 101, 3) := by decide +kernel
theorem dX8_slips_14 : decode cX8_slips 14 = .ok (.lconst 1, 1) := by decide +kernel
theorem dX8_slips_15 : decode cX8_slips 15 = .ok (.lstore 8, 2) := by decide +kernel
theorem dX8_slips_17 : decode cX8_slips 17 = .ok (.iload 7, 2) := by decide +kernel
theorem dX8_slips_19 : decode cX8_slips 19 = .ok (.invokestatic 174, 3) := by decide +kernel
theorem dX8_slips_22 : decode cX8_slips 22 = .ok (.istore 10, 2) := by decide +kernel
theorem dX8_slips_24 : decode cX8_slips 24 = .ok (.iload 10, 2) := by decide +kernel
theorem dX8_slips_26 : decode cX8_slips 26 = .ok (.iload_n 2, 1) := by decide +kernel
theorem dX8_slips_27 : decode cX8_slips 27 = .ok (.if_icmp .ge 18, 3) := by decide +kernel
theorem dX8_slips_30 : decode cX8_slips 30 = .ok (.lload 8, 2) := by decide +kernel
theorem dX8_slips_32 : decode cX8_slips 32 = .ok (.iload_n 3, 1) := by decide +kernel
theorem dX8_slips_33 : decode cX8_slips 33 = .ok (.iconst 1, 1) := by decide +kernel
theorem dX8_slips_34 : decode cX8_slips 34 = .ok (.isub, 1) := by decide +kernel
theorem dX8_slips_35 : decode cX8_slips 35 = .ok (.i2l, 1) := by decide +kernel
theorem dX8_slips_36 : decode cX8_slips 36 = .ok (.lmul, 1) := by decide +kernel
theorem dX8_slips_37 : decode cX8_slips 37 = .ok (.lstore 8, 2) := by decide +kernel
theorem dX8_slips_39 : decode cX8_slips 39 = .ok (.iinc 10 1, 3) := by decide +kernel
theorem dX8_slips_42 : decode cX8_slips 42 = .ok (.goto (-18), 3) := by decide +kernel
theorem dX8_slips_45 : decode cX8_slips 45 = .ok (.aload_n 0, 1) := by decide +kernel
theorem dX8_slips_46 : decode cX8_slips 46 = .ok (.getfield 9, 3) := by decide +kernel
theorem dX8_slips_49 : decode cX8_slips 49 = .ok (.iload_n 1, 1) := by decide +kernel
theorem dX8_slips_50 : decode cX8_slips 50 = .ok (.iconst 5, 1) := by decide +kernel
theorem dX8_slips_51 : decode cX8_slips 51 = .ok (.iload_n 2, 1) := by decide +kernel
theorem dX8_slips_52 : decode cX8_slips 52 = .ok (.iload 7, 2) := by decide +kernel
theorem dX8_slips_54 : decode cX8_slips 54 = .ok (.invokestatic 174, 3) := by decide +kernel
theorem dX8_slips_57 : decode cX8_slips 57 = .ok (.isub, 1) := by decide +kernel
theorem dX8_slips_58 : decode cX8_slips 58 = .ok (.imul, 1) := by decide +kernel
theorem dX8_slips_59 : decode cX8_slips 59 = .ok (.iconst 0, 1) := by decide +kernel
theorem dX8_slips_60 : decode cX8_slips 60 = .ok (.invokestatic 73, 3) := by decide +kernel
theorem dX8_slips_63 : decode cX8_slips 63 = .ok (.istore 10, 2) := by decide +kernel
theorem dX8_slips_65 : decode cX8_slips 65 = .ok (.lload 5, 2) := by decide +kernel
theorem dX8_slips_67 : decode cX8_slips 67 = .ok (.iload 4, 2) := by decide +kernel
theorem dX8_slips_69 : decode cX8_slips 69 = .ok (.ifCond .ge 21, 3) := by decide +kernel
theorem dX8_slips_72 : decode cX8_slips 72 = .ok (.lload 8, 2) := by decide +kernel
theorem dX8_slips_74 : decode cX8_slips 74 = .ok (.aload_n 0, 1) := by decide +kernel
theorem dX8_slips_75 : decode cX8_slips 75 = .ok (.getfield 9, 3) := by decide +kernel
theorem dX8_slips_78 : decode cX8_slips 78 = .ok (.iload_n 1, 1) := by decide +kernel
theorem dX8_slips_79 : decode cX8_slips 79 = .ok (.iload 10, 2) := by decide +kernel
theorem dX8_slips_81 : decode cX8_slips 81 = .ok (.invokestatic 55, 3) := by decide +kernel
theorem dX8_slips_84 : decode cX8_slips 84 = .ok (.iaload, 1) := by decide +kernel
theorem dX8_slips_85 : decode cX8_slips 85 = .ok (.i2l, 1) := by decide +kernel
theorem dX8_slips_86 : decode cX8_slips 86 = .ok (.lmul, 1) := by decide +kernel
theorem dX8_slips_87 : decode cX8_slips 87 = .ok (.goto 16, 3) := by decide +kernel
theorem dX8_slips_90 : decode cX8_slips 90 = .ok (.iload 10, 2) := by decide +kernel
theorem dX8_slips_92 : decode cX8_slips 92 = .ok (.iload 4, 2) := by decide +kernel
theorem dX8_slips_94 : decode cX8_slips 94 = .ok (.if_icmp .ne 8, 3) := by decide +kernel
theorem dX8_slips_97 : decode cX8_slips 97 = .ok (.lload 8, 2) := by decide +kernel
theorem dX8_slips_99 : decode cX8_slips 99 = .ok (.goto 4, 3) := by decide +kernel
theorem dX8_slips_102 : decode cX8_slips 102 = .ok (.lconst 0, 1) := by decide +kernel
theorem dX8_slips_103 : decode cX8_slips 103 = .ok (.ladd, 1) := by decide +kernel
theorem dX8_slips_104 : decode cX8_slips 104 = .ok (.lstore 5, 2) := by decide +kernel
theorem dX8_slips_106 : decode cX8_slips 106 = .ok (.iinc 7 1, 3) := by decide +kernel
theorem dX8_slips_109 : decode cX8_slips 109 = .ok (.goto (-103), 3) := by decide +kernel
theorem dX8_slips_112 : decode cX8_slips 112 = .ok (.lload 5, 2) := by decide +kernel
theorem dX8_slips_114 : decode cX8_slips 114 = .ok (.lreturn, 1) := by decide +kernel
theorem dX8_power_0 : decode cX8_power 0 = .ok (.lconst 1, 1) := by decide +kernel
theorem dX8_power_1 : decode cX8_power 1 = .ok (.lstore_n 2, 1) := by decide +kernel
theorem dX8_power_2 : decode cX8_power 2 = .ok (.iconst 0, 1) := by decide +kernel
theorem dX8_power_3 : decode cX8_power 3 = .ok (.istore 4, 2) := by decide +kernel
theorem dX8_power_5 : decode cX8_power 5 = .ok (.iload 4, 2) := by decide +kernel
theorem dX8_power_7 : decode cX8_power 7 = .ok (.iload_n 1, 1) := by decide +kernel
theorem dX8_power_8 : decode cX8_power 8 = .ok (.if_icmp .ge 14, 3) := by decide +kernel
theorem dX8_power_11 : decode cX8_power 11 = .ok (.lload_n 2, 1) := by decide +kernel
theorem dX8_power_12 : decode cX8_power 12 = .ok (.iload_n 0, 1) := by decide +kernel
theorem dX8_power_13 : decode cX8_power 13 = .ok (.i2l, 1) := by decide +kernel
theorem dX8_power_14 : decode cX8_power 14 = .ok (.lmul, 1) := by decide +kernel
theorem dX8_power_15 : decode cX8_power 15 = .ok (.lstore_n 2, 1) := by decide +kernel
theorem dX8_power_16 : decode cX8_power 16 = .ok (.iinc 4 1, 3) := by decide +kernel
theorem dX8_power_19 : decode cX8_power 19 = .ok (.goto (-14), 3) := by decide +kernel
theorem dX8_power_22 : decode cX8_power 22 = .ok (.lload_n 2, 1) := by decide +kernel
theorem dX8_power_23 : decode cX8_power 23 = .ok (.lreturn, 1) := by decide +kernel
theorem dX8_slip_0 : decode cX8_slip 0 = .ok (.aload_n 0, 1) := by decide +kernel
theorem dX8_slip_1 : decode cX8_slip 1 = .ok (.iload_n 1, 1) := by decide +kernel
theorem dX8_slip_2 : decode cX8_slip 2 = .ok (.invokevirtual 101, 3) := by decide +kernel
theorem dX8_slip_5 : decode cX8_slip 5 = .ok (.ifCond .eq 11, 3) := by decide +kernel
theorem dX8_slip_8 : decode cX8_slip 8 = .ok (.iload 4, 2) := by decide +kernel
theorem dX8_slip_10 : decode cX8_slip 10 = .ok (.invokestatic 105, 3) := by decide +kernel
theorem dX8_slip_13 : decode cX8_slip 13 = .ok (.ifCond .ne 9, 3) := by decide +kernel
theorem dX8_slip_16 : decode cX8_slip 16 = .ok (.aload_n 0, 1) := by decide +kernel
theorem dX8_slip_17 : decode cX8_slip 17 = .ok (.iconst (-1), 1) := by decide +kernel
theorem dX8_slip_18 : decode cX8_slip 18 = .ok (.invokevirtual 177, 3) := by decide +kernel
theorem dX8_slip_21 : decode cX8_slip 21 = .ok (.lreturn, 1) := by decide +kernel
theorem dX8_slip_22 : decode cX8_slip 22 = .ok (.iload_n 2, 1) := by decide +kernel
theorem dX8_slip_23 : decode cX8_slip 23 = .ok (.ifCond .lt 8, 3) := by decide +kernel
theorem dX8_slip_26 : decode cX8_slip 26 = .ok (.iload_n 3, 1) := by decide +kernel
theorem dX8_slip_27 : decode cX8_slip 27 = .ok (.iconst 2, 1) := by decide +kernel
theorem dX8_slip_28 : decode cX8_slip 28 = .ok (.if_icmp .ge 10, 3) := by decide +kernel
theorem dX8_slip_31 : decode cX8_slip 31 = .ok (.aload_n 0, 1) := by decide +kernel
theorem dX8_slip_32 : decode cX8_slip 32 = .ok (.bipush (-4), 2) := by decide +kernel
theorem dX8_slip_34 : decode cX8_slip 34 = .ok (.invokevirtual 177, 3) := by decide +kernel
theorem dX8_slip_37 : decode cX8_slip 37 = .ok (.lreturn, 1) := by decide +kernel
theorem dX8_slip_38 : decode cX8_slip 38 = .ok (.iload_n 2, 1) := by decide +kernel
theorem dX8_slip_39 : decode cX8_slip 39 = .ok (.bipush 8, 2) := by decide +kernel
theorem dX8_slip_41 : decode cX8_slip 41 = .ok (.if_icmp .gt 9, 3) := by decide +kernel
theorem dX8_slip_44 : decode cX8_slip 44 = .ok (.iload_n 3, 1) := by decide +kernel
theorem dX8_slip_45 : decode cX8_slip 45 = .ok (.bipush 20, 2) := by decide +kernel
theorem dX8_slip_47 : decode cX8_slip 47 = .ok (.if_icmp .le 10, 3) := by decide +kernel
theorem dX8_slip_50 : decode cX8_slip 50 = .ok (.aload_n 0, 1) := by decide +kernel
theorem dX8_slip_51 : decode cX8_slip 51 = .ok (.bipush (-6), 2) := by decide +kernel
theorem dX8_slip_53 : decode cX8_slip 53 = .ok (.invokevirtual 177, 3) := by decide +kernel
theorem dX8_slip_56 : decode cX8_slip 56 = .ok (.lreturn, 1) := by decide +kernel
theorem dX8_slip_57 : decode cX8_slip 57 = .ok (.iload 5, 2) := by decide +kernel
theorem dX8_slip_59 : decode cX8_slip 59 = .ok (.iconst 0, 1) := by decide +kernel
theorem dX8_slip_60 : decode cX8_slip 60 = .ok (.iconst 1, 1) := by decide +kernel
theorem dX8_slip_61 : decode cX8_slip 61 = .ok (.invokestatic 47, 3) := by decide +kernel
theorem dX8_slip_64 : decode cX8_slip 64 = .ok (.ifCond .ne 10, 3) := by decide +kernel
theorem dX8_slip_67 : decode cX8_slip 67 = .ok (.aload_n 0, 1) := by decide +kernel
theorem dX8_slip_68 : decode cX8_slip 68 = .ok (.bipush (-2), 2) := by decide +kernel
theorem dX8_slip_70 : decode cX8_slip 70 = .ok (.invokevirtual 177, 3) := by decide +kernel
theorem dX8_slip_73 : decode cX8_slip 73 = .ok (.lreturn, 1) := by decide +kernel
theorem dX8_slip_74 : decode cX8_slip 74 = .ok (.aload_n 0, 1) := by decide +kernel
theorem dX8_slip_75 : decode cX8_slip 75 = .ok (.iload_n 1, 1) := by decide +kernel
theorem dX8_slip_76 : decode cX8_slip 76 = .ok (.iload_n 2, 1) := by decide +kernel
theorem dX8_slip_77 : decode cX8_slip 77 = .ok (.iload_n 3, 1) := by decide +kernel
theorem dX8_slip_78 : decode cX8_slip 78 = .ok (.iload 4, 2) := by decide +kernel
theorem dX8_slip_80 : decode cX8_slip 80 = .ok (.invokevirtual 181, 3) := by decide +kernel
theorem dX8_slip_83 : decode cX8_slip 83 = .ok (.iload_n 3, 1) := by decide +kernel
theorem dX8_slip_84 : decode cX8_slip 84 = .ok (.iload_n 2, 1) := by decide +kernel
theorem dX8_slip_85 : decode cX8_slip 85 = .ok (.invokestatic 185, 3) := by decide +kernel
theorem dX8_slip_88 : decode cX8_slip 88 = .ok (.iload 5, 2) := by decide +kernel
theorem dX8_slip_90 : decode cX8_slip 90 = .ok (.invokestatic 189, 3) := by decide +kernel
theorem dX8_slip_93 : decode cX8_slip 93 = .ok (.lreturn, 1) := by decide +kernel
theorem dX8_mean_0 : decode cX8_mean 0 = .ok (.aload_n 0, 1) := by decide +kernel
theorem dX8_mean_1 : decode cX8_mean 1 = .ok (.iload_n 1, 1) := by decide +kernel
theorem dX8_mean_2 : decode cX8_mean 2 = .ok (.invokevirtual 101, 3) := by decide +kernel
theorem dX8_mean_5 : decode cX8_mean 5 = .ok (.ifCond .ne 9, 3) := by decide +kernel
theorem dX8_mean_8 : decode cX8_mean 8 = .ok (.aload_n 0, 1) := by decide +kernel
theorem dX8_mean_9 : decode cX8_mean 9 = .ok (.iconst (-1), 1) := by decide +kernel
theorem dX8_mean_10 : decode cX8_mean 10 = .ok (.invokevirtual 177, 3) := by decide +kernel
theorem dX8_mean_13 : decode cX8_mean 13 = .ok (.lreturn, 1) := by decide +kernel
theorem dX8_mean_14 : decode cX8_mean 14 = .ok (.iload_n 2, 1) := by decide +kernel
theorem dX8_mean_15 : decode cX8_mean 15 = .ok (.ifCond .lt 8, 3) := by decide +kernel
theorem dX8_mean_18 : decode cX8_mean 18 = .ok (.iload_n 3, 1) := by decide +kernel
theorem dX8_mean_19 : decode cX8_mean 19 = .ok (.iconst 2, 1) := by decide +kernel
theorem dX8_mean_20 : decode cX8_mean 20 = .ok (.if_icmp .ge 10, 3) := by decide +kernel
theorem dX8_mean_23 : decode cX8_mean 23 = .ok (.aload_n 0, 1) := by decide +kernel
theorem dX8_mean_24 : decode cX8_mean 24 = .ok (.bipush (-4), 2) := by decide +kernel
theorem dX8_mean_26 : decode cX8_mean 26 = .ok (.invokevirtual 177, 3) := by decide +kernel
theorem dX8_mean_29 : decode cX8_mean 29 = .ok (.lreturn, 1) := by decide +kernel
theorem dX8_mean_30 : decode cX8_mean 30 = .ok (.iload_n 2, 1) := by decide +kernel
theorem dX8_mean_31 : decode cX8_mean 31 = .ok (.bipush 8, 2) := by decide +kernel
theorem dX8_mean_33 : decode cX8_mean 33 = .ok (.if_icmp .gt 9, 3) := by decide +kernel
theorem dX8_mean_36 : decode cX8_mean 36 = .ok (.iload_n 3, 1) := by decide +kernel
theorem dX8_mean_37 : decode cX8_mean 37 = .ok (.bipush 20, 2) := by decide +kernel
theorem dX8_mean_39 : decode cX8_mean 39 = .ok (.if_icmp .le 10, 3) := by decide +kernel
theorem dX8_mean_42 : decode cX8_mean 42 = .ok (.aload_n 0, 1) := by decide +kernel
theorem dX8_mean_43 : decode cX8_mean 43 = .ok (.bipush (-6), 2) := by decide +kernel
theorem dX8_mean_45 : decode cX8_mean 45 = .ok (.invokevirtual 177, 3) := by decide +kernel
theorem dX8_mean_48 : decode cX8_mean 48 = .ok (.lreturn, 1) := by decide +kernel
theorem dX8_mean_49 : decode cX8_mean 49 = .ok (.iload 4, 2) := by decide +kernel
theorem dX8_mean_51 : decode cX8_mean 51 = .ok (.iconst 0, 1) := by decide +kernel
theorem dX8_mean_52 : decode cX8_mean 52 = .ok (.iconst 1, 1) := by decide +kernel
theorem dX8_mean_53 : decode cX8_mean 53 = .ok (.invokestatic 47, 3) := by decide +kernel
theorem dX8_mean_56 : decode cX8_mean 56 = .ok (.ifCond .ne 10, 3) := by decide +kernel
theorem dX8_mean_59 : decode cX8_mean 59 = .ok (.aload_n 0, 1) := by decide +kernel
theorem dX8_mean_60 : decode cX8_mean 60 = .ok (.bipush (-2), 2) := by decide +kernel
theorem dX8_mean_62 : decode cX8_mean 62 = .ok (.invokevirtual 177, 3) := by decide +kernel
theorem dX8_mean_65 : decode cX8_mean 65 = .ok (.lreturn, 1) := by decide +kernel
theorem dX8_mean_66 : decode cX8_mean 66 = .ok (.aload_n 0, 1) := by decide +kernel
theorem dX8_mean_67 : decode cX8_mean 67 = .ok (.iload_n 1, 1) := by decide +kernel
theorem dX8_mean_68 : decode cX8_mean 68 = .ok (.iload_n 2, 1) := by decide +kernel
theorem dX8_mean_69 : decode cX8_mean 69 = .ok (.iload_n 3, 1) := by decide +kernel
theorem dX8_mean_70 : decode cX8_mean 70 = .ok (.iconst (-1), 1) := by decide +kernel
theorem dX8_mean_71 : decode cX8_mean 71 = .ok (.invokevirtual 181, 3) := by decide +kernel
theorem dX8_mean_74 : decode cX8_mean 74 = .ok (.iload_n 3, 1) := by decide +kernel
theorem dX8_mean_75 : decode cX8_mean 75 = .ok (.iload_n 2, 1) := by decide +kernel
theorem dX8_mean_76 : decode cX8_mean 76 = .ok (.invokestatic 185, 3) := by decide +kernel
theorem dX8_mean_79 : decode cX8_mean 79 = .ok (.iload 4, 2) := by decide +kernel
theorem dX8_mean_81 : decode cX8_mean 81 = .ok (.invokestatic 189, 3) := by decide +kernel
theorem dX8_mean_84 : decode cX8_mean 84 = .ok (.lreturn, 1) := by decide +kernel
theorem dX8_whatWas_0 : decode cX8_whatWas 0 = .ok (.aload_n 0, 1) := by decide +kernel
theorem dX8_whatWas_1 : decode cX8_whatWas 1 = .ok (.iload_n 1, 1) := by decide +kernel
theorem dX8_whatWas_2 : decode cX8_whatWas 2 = .ok (.invokevirtual 101, 3) := by decide +kernel
theorem dX8_whatWas_5 : decode cX8_whatWas 5 = .ok (.ifCond .ne 9, 3) := by decide +kernel
theorem dX8_whatWas_8 : decode cX8_whatWas 8 = .ok (.aload_n 0, 1) := by decide +kernel
theorem dX8_whatWas_9 : decode cX8_whatWas 9 = .ok (.iconst (-1), 1) := by decide +kernel
theorem dX8_whatWas_10 : decode cX8_whatWas 10 = .ok (.invokevirtual 41, 3) := by decide +kernel
theorem dX8_whatWas_13 : decode cX8_whatWas 13 = .ok (.ireturn, 1) := by decide +kernel
theorem dX8_whatWas_14 : decode cX8_whatWas 14 = .ok (.iload_n 2, 1) := by decide +kernel
theorem dX8_whatWas_15 : decode cX8_whatWas 15 = .ok (.iconst 0, 1) := by decide +kernel
theorem dX8_whatWas_16 : decode cX8_whatWas 16 = .ok (.iconst 1, 1) := by decide +kernel
theorem dX8_whatWas_17 : decode cX8_whatWas 17 = .ok (.invokestatic 47, 3) := by decide +kernel
theorem dX8_whatWas_20 : decode cX8_whatWas 20 = .ok (.ifCond .ne 10, 3) := by decide +kernel
theorem dX8_whatWas_23 : decode cX8_whatWas 23 = .ok (.aload_n 0, 1) := by decide +kernel
theorem dX8_whatWas_24 : decode cX8_whatWas 24 = .ok (.bipush (-2), 2) := by decide +kernel
theorem dX8_whatWas_26 : decode cX8_whatWas 26 = .ok (.invokevirtual 41, 3) := by decide +kernel
theorem dX8_whatWas_29 : decode cX8_whatWas 29 = .ok (.ireturn, 1) := by decide +kernel
theorem dX8_whatWas_30 : decode cX8_whatWas 30 = .ok (.iconst 0, 1) := by decide +kernel
theorem dX8_whatWas_31 : decode cX8_whatWas 31 = .ok (.istore_n 3, 1) := by decide +kernel
theorem dX8_whatWas_32 : decode cX8_whatWas 32 = .ok (.iconst 0, 1) := by decide +kernel
theorem dX8_whatWas_33 : decode cX8_whatWas 33 = .ok (.istore 4, 2) := by decide +kernel
theorem dX8_whatWas_35 : decode cX8_whatWas 35 = .ok (.iload 4, 2) := by decide +kernel
theorem dX8_whatWas_37 : decode cX8_whatWas 37 = .ok (.iload_n 2, 1) := by decide +kernel
theorem dX8_whatWas_38 : decode cX8_whatWas 38 = .ok (.ifCond .ne 8, 3) := by decide +kernel
theorem dX8_whatWas_41 : decode cX8_whatWas 41 = .ok (.bipush 6, 2) := by decide +kernel
theorem dX8_whatWas_43 : decode cX8_whatWas 43 = .ok (.goto 5, 3) := by decide +kernel
theorem dX8_whatWas_46 : decode cX8_whatWas 46 = .ok (.bipush 10, 2) := by decide +kernel
theorem dX8_whatWas_48 : decode cX8_whatWas 48 = .ok (.if_icmp .ge 109, 3) := by decide +kernel
theorem dX8_whatWas_51 : decode cX8_whatWas 51 = .ok (.aload_n 0, 1) := by decide +kernel
theorem dX8_whatWas_52 : decode cX8_whatWas 52 = .ok (.getfield 9, 3) := by decide +kernel
theorem dX8_whatWas_55 : decode cX8_whatWas 55 = .ok (.aload_n 0, 1) := by decide +kernel
theorem dX8_whatWas_56 : decode cX8_whatWas 56 = .ok (.getfield 13, 3) := by decide +kernel
theorem dX8_whatWas_59 : decode cX8_whatWas 59 = .ok (.invokestatic 122, 3) := by decide +kernel
theorem dX8_whatWas_62 : decode cX8_whatWas 62 = .ok (.aload_n 0, 1) := by decide +kernel
theorem dX8_whatWas_63 : decode cX8_whatWas 63 = .ok (.getfield 13, 3) := by decide +kernel
theorem dX8_whatWas_66 : decode cX8_whatWas 66 = .ok (.iload_n 2, 1) := by decide +kernel
theorem dX8_whatWas_67 : decode cX8_whatWas 67 = .ok (.ifCond .ne 7, 3) := by decide +kernel
theorem dX8_whatWas_70 : decode cX8_whatWas 70 = .ok (.iconst 4, 1) := by decide +kernel
theorem dX8_whatWas_71 : decode cX8_whatWas 71 = .ok (.goto 5, 3) := by decide +kernel
theorem dX8_whatWas_74 : decode cX8_whatWas 74 = .ok (.bipush 12, 2) := by decide +kernel
theorem dX8_whatWas_76 : decode cX8_whatWas 76 = .ok (.iload_n 1, 1) := by decide +kernel
theorem dX8_whatWas_77 : decode cX8_whatWas 77 = .ok (.iadd, 1) := by decide +kernel
theorem dX8_whatWas_78 : decode cX8_whatWas 78 = .ok (.iload 4, 2) := by decide +kernel
theorem dX8_whatWas_80 : decode cX8_whatWas 80 = .ok (.iastore, 1) := by decide +kernel
theorem dX8_whatWas_81 : decode cX8_whatWas 81 = .ok (.iconst 1, 1) := by decide +kernel
theorem dX8_whatWas_82 : decode cX8_whatWas 82 = .ok (.istore 5, 2) := by decide +kernel
theorem dX8_whatWas_84 : decode cX8_whatWas 84 = .ok (.iconst 0, 1) := by decide +kernel
theorem dX8_whatWas_85 : decode cX8_whatWas 85 = .ok (.istore 6, 2) := by decide +kernel
theorem dX8_whatWas_87 : decode cX8_whatWas 87 = .ok (.iload 6, 2) := by decide +kernel
theorem dX8_whatWas_89 : decode cX8_whatWas 89 = .ok (.aload_n 0, 1) := by decide +kernel
theorem dX8_whatWas_90 : decode cX8_whatWas 90 = .ok (.getfield 193, 3) := by decide +kernel
theorem dX8_whatWas_93 : decode cX8_whatWas 93 = .ok (.if_icmp .ge 42, 3) := by decide +kernel
theorem dX8_whatWas_96 : decode cX8_whatWas 96 = .ok (.iload 5, 2) := by decide +kernel
theorem dX8_whatWas_98 : decode cX8_whatWas 98 = .ok (.aload_n 0, 1) := by decide +kernel
theorem dX8_whatWas_99 : decode cX8_whatWas 99 = .ok (.getfield 13, 3) := by decide +kernel
theorem dX8_whatWas_102 : decode cX8_whatWas 102 = .ok (.iload_n 1, 1) := by decide +kernel
theorem dX8_whatWas_103 : decode cX8_whatWas 103 = .ok (.iconst 5, 1) := by decide +kernel
theorem dX8_whatWas_104 : decode cX8_whatWas 104 = .ok (.iload 6, 2) := by decide +kernel
theorem dX8_whatWas_106 : decode cX8_whatWas 106 = .ok (.imul, 1) := by decide +kernel
theorem dX8_whatWas_107 : decode cX8_whatWas 107 = .ok (.iconst 0, 1) := by decide +kernel
theorem dX8_whatWas_108 : decode cX8_whatWas 108 = .ok (.invokestatic 73, 3) := by decide +kernel
theorem dX8_whatWas_111 : decode cX8_whatWas 111 = .ok (.aload_n 0, 1) := by decide +kernel
theorem dX8_whatWas_112 : decode cX8_whatWas 112 = .ok (.getfield 25, 3) := by decide +kernel
theorem dX8_whatWas_115 : decode cX8_whatWas 115 = .ok (.iload 6, 2) := by decide +kernel
theorem dX8_whatWas_117 : decode cX8_whatWas 117 = .ok (.iaload, 1) := by decide +kernel
theorem dX8_whatWas_118 : decode cX8_whatWas 118 = .ok (.if_icmp .ne 7, 3) := by decide +kernel
theorem dX8_whatWas_121 : decode cX8_whatWas 121 = .ok (.iconst 1, 1) := by decide +kernel
theorem dX8_whatWas_122 : decode cX8_whatWas 122 = .ok (.goto 4, 3) := by decide +kernel
theorem dX8_whatWas_125 : decode cX8_whatWas 125 = .ok (.iconst 0, 1) := by decide +kernel
theorem dX8_whatWas_126 : decode cX8_whatWas 126 = .ok (.iand, 1) := by decide +kernel
theorem dX8_whatWas_127 : decode cX8_whatWas 127 = .ok (.istore 5, 2) := by decide +kernel
theorem dX8_whatWas_129 : decode cX8_whatWas 129 = .ok (.iinc 6 1, 3) := by decide +kernel
theorem dX8_whatWas_132 : decode cX8_whatWas 132 = .ok (.goto (-45), 3) := by decide +kernel
theorem dX8_whatWas_135 : decode cX8_whatWas 135 = .ok (.iload_n 3, 1) := by decide +kernel
theorem dX8_whatWas_136 : decode cX8_whatWas 136 = .ok (.iload 5, 2) := by decide +kernel
theorem dX8_whatWas_138 : decode cX8_whatWas 138 = .ok (.ifCond .eq 10, 3) := by decide +kernel
theorem dX8_whatWas_141 : decode cX8_whatWas 141 = .ok (.iconst 1, 1) := by decide +kernel
theorem dX8_whatWas_142 : decode cX8_whatWas 142 = .ok (.iload 4, 2) := by decide +kernel
theorem dX8_whatWas_144 : decode cX8_whatWas 144 = .ok (.ishl, 1) := by decide +kernel
theorem dX8_whatWas_145 : decode cX8_whatWas 145 = .ok (.goto 4, 3) := by decide +kernel
theorem dX8_whatWas_148 : decode cX8_whatWas 148 = .ok (.iconst 0, 1) := by decide +kernel
theorem dX8_whatWas_149 : decode cX8_whatWas 149 = .ok (.ior, 1) := by decide +kernel
theorem dX8_whatWas_150 : decode cX8_whatWas 150 = .ok (.istore_n 3, 1) := by decide +kernel
theorem dX8_whatWas_151 : decode cX8_whatWas 151 = .ok (.iinc 4 1, 3) := by decide +kernel
theorem dX8_whatWas_154 : decode cX8_whatWas 154 = .ok (.goto (-119), 3) := by decide +kernel
theorem dX8_whatWas_157 : decode cX8_whatWas 157 = .ok (.iload_n 3, 1) := by decide +kernel
theorem dX8_whatWas_158 : decode cX8_whatWas 158 = .ok (.ireturn, 1) := by decide +kernel
theorem dX8_mended_0 : decode cX8_mended 0 = .ok (.aload_n 0, 1) := by decide +kernel
theorem dX8_mended_1 : decode cX8_mended 1 = .ok (.iload_n 1, 1) := by decide +kernel
theorem dX8_mended_2 : decode cX8_mended 2 = .ok (.invokevirtual 101, 3) := by decide +kernel
theorem dX8_mended_5 : decode cX8_mended 5 = .ok (.ifCond .eq 10, 3) := by decide +kernel
theorem dX8_mended_8 : decode cX8_mended 8 = .ok (.iload_n 2, 1) := by decide +kernel
theorem dX8_mended_9 : decode cX8_mended 9 = .ok (.invokestatic 105, 3) := by decide +kernel
theorem dX8_mended_12 : decode cX8_mended 12 = .ok (.ifCond .ne 9, 3) := by decide +kernel
theorem dX8_mended_15 : decode cX8_mended 15 = .ok (.aload_n 0, 1) := by decide +kernel
theorem dX8_mended_16 : decode cX8_mended 16 = .ok (.iconst (-1), 1) := by decide +kernel
theorem dX8_mended_17 : decode cX8_mended 17 = .ok (.invokevirtual 41, 3) := by decide +kernel
theorem dX8_mended_20 : decode cX8_mended 20 = .ok (.ireturn, 1) := by decide +kernel
theorem dX8_mended_21 : decode cX8_mended 21 = .ok (.iload_n 3, 1) := by decide +kernel
theorem dX8_mended_22 : decode cX8_mended 22 = .ok (.ifCond .ge 10, 3) := by decide +kernel
theorem dX8_mended_25 : decode cX8_mended 25 = .ok (.aload_n 0, 1) := by decide +kernel
theorem dX8_mended_26 : decode cX8_mended 26 = .ok (.bipush (-4), 2) := by decide +kernel
theorem dX8_mended_28 : decode cX8_mended 28 = .ok (.invokevirtual 41, 3) := by decide +kernel
theorem dX8_mended_31 : decode cX8_mended 31 = .ok (.ireturn, 1) := by decide +kernel
theorem dX8_mended_32 : decode cX8_mended 32 = .ok (.iload_n 3, 1) := by decide +kernel
theorem dX8_mended_33 : decode cX8_mended 33 = .ok (.bipush 99, 2) := by decide +kernel
theorem dX8_mended_35 : decode cX8_mended 35 = .ok (.if_icmp .le 10, 3) := by decide +kernel
theorem dX8_mended_38 : decode cX8_mended 38 = .ok (.aload_n 0, 1) := by decide +kernel
theorem dX8_mended_39 : decode cX8_mended 39 = .ok (.bipush (-6), 2) := by decide +kernel
theorem dX8_mended_41 : decode cX8_mended 41 = .ok (.invokevirtual 41, 3) := by decide +kernel
theorem dX8_mended_44 : decode cX8_mended 44 = .ok (.ireturn, 1) := by decide +kernel
theorem dX8_mended_45 : decode cX8_mended 45 = .ok (.aload_n 0, 1) := by decide +kernel
theorem dX8_mended_46 : decode cX8_mended 46 = .ok (.getfield 9, 3) := by decide +kernel
theorem dX8_mended_49 : decode cX8_mended 49 = .ok (.aload_n 0, 1) := by decide +kernel
theorem dX8_mended_50 : decode cX8_mended 50 = .ok (.getfield 13, 3) := by decide +kernel
theorem dX8_mended_53 : decode cX8_mended 53 = .ok (.invokestatic 122, 3) := by decide +kernel
theorem dX8_mended_56 : decode cX8_mended 56 = .ok (.iconst 0, 1) := by decide +kernel
theorem dX8_mended_57 : decode cX8_mended 57 = .ok (.istore 4, 2) := by decide +kernel
theorem dX8_mended_59 : decode cX8_mended 59 = .ok (.iload 4, 2) := by decide +kernel
theorem dX8_mended_61 : decode cX8_mended 61 = .ok (.bipush 99, 2) := by decide +kernel
theorem dX8_mended_63 : decode cX8_mended 63 = .ok (.if_icmp .gt 38, 3) := by decide +kernel
theorem dX8_mended_66 : decode cX8_mended 66 = .ok (.aload_n 0, 1) := by decide +kernel
theorem dX8_mended_67 : decode cX8_mended 67 = .ok (.getfield 13, 3) := by decide +kernel
theorem dX8_mended_70 : decode cX8_mended 70 = .ok (.iload_n 1, 1) := by decide +kernel
theorem dX8_mended_71 : decode cX8_mended 71 = .ok (.iload_n 2, 1) := by decide +kernel
theorem dX8_mended_72 : decode cX8_mended 72 = .ok (.invokestatic 55, 3) := by decide +kernel
theorem dX8_mended_75 : decode cX8_mended 75 = .ok (.iload 4, 2) := by decide +kernel
theorem dX8_mended_77 : decode cX8_mended 77 = .ok (.iastore, 1) := by decide +kernel
theorem dX8_mended_78 : decode cX8_mended 78 = .ok (.aload_n 0, 1) := by decide +kernel
theorem dX8_mended_79 : decode cX8_mended 79 = .ok (.getfield 13, 3) := by decide +kernel
theorem dX8_mended_82 : decode cX8_mended 82 = .ok (.iload_n 1, 1) := by decide +kernel
theorem dX8_mended_83 : decode cX8_mended 83 = .ok (.iload_n 3, 1) := by decide +kernel
theorem dX8_mended_84 : decode cX8_mended 84 = .ok (.iconst 0, 1) := by decide +kernel
theorem dX8_mended_85 : decode cX8_mended 85 = .ok (.invokestatic 73, 3) := by decide +kernel
theorem dX8_mended_88 : decode cX8_mended 88 = .ok (.iload_n 2, 1) := by decide +kernel
theorem dX8_mended_89 : decode cX8_mended 89 = .ok (.if_icmp .ne 6, 3) := by decide +kernel
theorem dX8_mended_92 : decode cX8_mended 92 = .ok (.iload 4, 2) := by decide +kernel
theorem dX8_mended_94 : decode cX8_mended 94 = .ok (.ireturn, 1) := by decide +kernel
theorem dX8_mended_95 : decode cX8_mended 95 = .ok (.iinc 4 1, 3) := by decide +kernel
theorem dX8_mended_98 : decode cX8_mended 98 = .ok (.goto (-39), 3) := by decide +kernel
theorem dX8_mended_101 : decode cX8_mended 101 = .ok (.bipush (-9), 2) := by decide +kernel
theorem dX8_mended_103 : decode cX8_mended 103 = .ok (.ireturn, 1) := by decide +kernel
theorem dX8_row_0 : decode cX8_row 0 = .ok (.iload_n 1, 1) := by decide +kernel
theorem dX8_row_1 : decode cX8_row 1 = .ok (.ifCond .ge 10, 3) := by decide +kernel
theorem dX8_row_4 : decode cX8_row 4 = .ok (.aload_n 0, 1) := by decide +kernel
theorem dX8_row_5 : decode cX8_row 5 = .ok (.bipush (-4), 2) := by decide +kernel
theorem dX8_row_7 : decode cX8_row 7 = .ok (.invokevirtual 41, 3) := by decide +kernel
theorem dX8_row_10 : decode cX8_row 10 = .ok (.ireturn, 1) := by decide +kernel
theorem dX8_row_11 : decode cX8_row 11 = .ok (.iload_n 1, 1) := by decide +kernel
theorem dX8_row_12 : decode cX8_row 12 = .ok (.bipush 99, 2) := by decide +kernel
theorem dX8_row_14 : decode cX8_row 14 = .ok (.if_icmp .gt 12, 3) := by decide +kernel
theorem dX8_row_17 : decode cX8_row 17 = .ok (.aload_n 0, 1) := by decide +kernel
theorem dX8_row_18 : decode cX8_row 18 = .ok (.getfield 193, 3) := by decide +kernel
theorem dX8_row_21 : decode cX8_row 21 = .ok (.bipush 16, 2) := by decide +kernel
theorem dX8_row_23 : decode cX8_row 23 = .ok (.if_icmp .ne 10, 3) := by decide +kernel
theorem dX8_row_26 : decode cX8_row 26 = .ok (.aload_n 0, 1) := by decide +kernel
theorem dX8_row_27 : decode cX8_row 27 = .ok (.bipush (-6), 2) := by decide +kernel
theorem dX8_row_29 : decode cX8_row 29 = .ok (.invokevirtual 41, 3) := by decide +kernel
theorem dX8_row_32 : decode cX8_row 32 = .ok (.ireturn, 1) := by decide +kernel
theorem dX8_row_33 : decode cX8_row 33 = .ok (.aload_n 0, 1) := by decide +kernel
theorem dX8_row_34 : decode cX8_row 34 = .ok (.getfield 25, 3) := by decide +kernel
theorem dX8_row_37 : decode cX8_row 37 = .ok (.aload_n 0, 1) := by decide +kernel
theorem dX8_row_38 : decode cX8_row 38 = .ok (.getfield 193, 3) := by decide +kernel
theorem dX8_row_41 : decode cX8_row 41 = .ok (.iload_n 1, 1) := by decide +kernel
theorem dX8_row_42 : decode cX8_row 42 = .ok (.iastore, 1) := by decide +kernel
theorem dX8_row_43 : decode cX8_row 43 = .ok (.aload_n 0, 1) := by decide +kernel
theorem dX8_row_44 : decode cX8_row 44 = .ok (.dup, 1) := by decide +kernel
theorem dX8_row_45 : decode cX8_row 45 = .ok (.getfield 193, 3) := by decide +kernel
theorem dX8_row_48 : decode cX8_row 48 = .ok (.iconst 1, 1) := by decide +kernel
theorem dX8_row_49 : decode cX8_row 49 = .ok (.iadd, 1) := by decide +kernel
theorem dX8_row_50 : decode cX8_row 50 = .ok (.putfield 193, 3) := by decide +kernel
theorem dX8_row_53 : decode cX8_row 53 = .ok (.aload_n 0, 1) := by decide +kernel
theorem dX8_row_54 : decode cX8_row 54 = .ok (.getfield 193, 3) := by decide +kernel
theorem dX8_row_57 : decode cX8_row 57 = .ok (.ireturn, 1) := by decide +kernel
theorem dX8_judge_0 : decode cX8_judge 0 = .ok (.aload_n 0, 1) := by decide +kernel
theorem dX8_judge_1 : decode cX8_judge 1 = .ok (.iload_n 1, 1) := by decide +kernel
theorem dX8_judge_2 : decode cX8_judge 2 = .ok (.invokevirtual 101, 3) := by decide +kernel
theorem dX8_judge_5 : decode cX8_judge 5 = .ok (.ifCond .ne 9, 3) := by decide +kernel
theorem dX8_judge_8 : decode cX8_judge 8 = .ok (.aload_n 0, 1) := by decide +kernel
theorem dX8_judge_9 : decode cX8_judge 9 = .ok (.iconst (-1), 1) := by decide +kernel
theorem dX8_judge_10 : decode cX8_judge 10 = .ok (.invokevirtual 41, 3) := by decide +kernel
theorem dX8_judge_13 : decode cX8_judge 13 = .ok (.ireturn, 1) := by decide +kernel
theorem dX8_judge_14 : decode cX8_judge 14 = .ok (.aload_n 0, 1) := by decide +kernel
theorem dX8_judge_15 : decode cX8_judge 15 = .ok (.getfield 193, 3) := by decide +kernel
theorem dX8_judge_18 : decode cX8_judge 18 = .ok (.istore_n 2, 1) := by decide +kernel
theorem dX8_judge_19 : decode cX8_judge 19 = .ok (.aload_n 0, 1) := by decide +kernel
theorem dX8_judge_20 : decode cX8_judge 20 = .ok (.iconst 0, 1) := by decide +kernel
theorem dX8_judge_21 : decode cX8_judge 21 = .ok (.putfield 193, 3) := by decide +kernel
theorem dX8_judge_24 : decode cX8_judge 24 = .ok (.iconst 0, 1) := by decide +kernel
theorem dX8_judge_25 : decode cX8_judge 25 = .ok (.istore_n 3, 1) := by decide +kernel
theorem dX8_judge_26 : decode cX8_judge 26 = .ok (.iload_n 3, 1) := by decide +kernel
theorem dX8_judge_27 : decode cX8_judge 27 = .ok (.iload_n 2, 1) := by decide +kernel
theorem dX8_judge_28 : decode cX8_judge 28 = .ok (.if_icmp .ge 36, 3) := by decide +kernel
theorem dX8_judge_31 : decode cX8_judge 31 = .ok (.iload_n 3, 1) := by decide +kernel
theorem dX8_judge_32 : decode cX8_judge 32 = .ok (.bipush 12, 2) := by decide +kernel
theorem dX8_judge_34 : decode cX8_judge 34 = .ok (.if_icmp .ge 22, 3) := by decide +kernel
theorem dX8_judge_37 : decode cX8_judge 37 = .ok (.aload_n 0, 1) := by decide +kernel
theorem dX8_judge_38 : decode cX8_judge 38 = .ok (.getfield 9, 3) := by decide +kernel
theorem dX8_judge_41 : decode cX8_judge 41 = .ok (.iload_n 1, 1) := by decide +kernel
theorem dX8_judge_42 : decode cX8_judge 42 = .ok (.iload_n 3, 1) := by decide +kernel
theorem dX8_judge_43 : decode cX8_judge 43 = .ok (.invokestatic 55, 3) := by decide +kernel
theorem dX8_judge_46 : decode cX8_judge 46 = .ok (.iaload, 1) := by decide +kernel
theorem dX8_judge_47 : decode cX8_judge 47 = .ok (.aload_n 0, 1) := by decide +kernel
theorem dX8_judge_48 : decode cX8_judge 48 = .ok (.getfield 25, 3) := by decide +kernel
theorem dX8_judge_51 : decode cX8_judge 51 = .ok (.iload_n 3, 1) := by decide +kernel
theorem dX8_judge_52 : decode cX8_judge 52 = .ok (.iaload, 1) := by decide +kernel
theorem dX8_judge_53 : decode cX8_judge 53 = .ok (.if_icmp .eq 5, 3) := by decide +kernel
theorem dX8_judge_56 : decode cX8_judge 56 = .ok (.iload_n 3, 1) := by decide +kernel
theorem dX8_judge_57 : decode cX8_judge 57 = .ok (.ireturn, 1) := by decide +kernel
theorem dX8_judge_58 : decode cX8_judge 58 = .ok (.iinc 3 1, 3) := by decide +kernel
theorem dX8_judge_61 : decode cX8_judge 61 = .ok (.goto (-35), 3) := by decide +kernel
theorem dX8_judge_64 : decode cX8_judge 64 = .ok (.bipush (-9), 2) := by decide +kernel
theorem dX8_judge_66 : decode cX8_judge 66 = .ok (.ireturn, 1) := by decide +kernel
theorem dX8_clear_0 : decode cX8_clear 0 = .ok (.aload_n 0, 1) := by decide +kernel
theorem dX8_clear_1 : decode cX8_clear 1 = .ok (.getfield 193, 3) := by decide +kernel
theorem dX8_clear_4 : decode cX8_clear 4 = .ok (.istore_n 1, 1) := by decide +kernel
theorem dX8_clear_5 : decode cX8_clear 5 = .ok (.aload_n 0, 1) := by decide +kernel
theorem dX8_clear_6 : decode cX8_clear 6 = .ok (.iconst 0, 1) := by decide +kernel
theorem dX8_clear_7 : decode cX8_clear 7 = .ok (.putfield 193, 3) := by decide +kernel
theorem dX8_clear_10 : decode cX8_clear 10 = .ok (.iload_n 1, 1) := by decide +kernel
theorem dX8_clear_11 : decode cX8_clear 11 = .ok (.ireturn, 1) := by decide +kernel
theorem dX8_drawn_0 : decode cX8_drawn 0 = .ok (.aload_n 0, 1) := by decide +kernel
theorem dX8_drawn_1 : decode cX8_drawn 1 = .ok (.aload_n 0, 1) := by decide +kernel
theorem dX8_drawn_2 : decode cX8_drawn 2 = .ok (.getfield 196, 3) := by decide +kernel
theorem dX8_drawn_5 : decode cX8_drawn 5 = .ok (.ldc 199, 2) := by decide +kernel
theorem dX8_drawn_7 : decode cX8_drawn 7 = .ok (.imul, 1) := by decide +kernel
theorem dX8_drawn_8 : decode cX8_drawn 8 = .ok (.ldc 200, 2) := by decide +kernel
theorem dX8_drawn_10 : decode cX8_drawn 10 = .ok (.iadd, 1) := by decide +kernel
theorem dX8_drawn_11 : decode cX8_drawn 11 = .ok (.putfield 196, 3) := by decide +kernel
theorem dX8_drawn_14 : decode cX8_drawn 14 = .ok (.aload_n 0, 1) := by decide +kernel
theorem dX8_drawn_15 : decode cX8_drawn 15 = .ok (.getfield 196, 3) := by decide +kernel
theorem dX8_drawn_18 : decode cX8_drawn 18 = .ok (.ldc 201, 2) := by decide +kernel
theorem dX8_drawn_20 : decode cX8_drawn 20 = .ok (.iand, 1) := by decide +kernel
theorem dX8_drawn_21 : decode cX8_drawn 21 = .ok (.sipush 256, 3) := by decide +kernel
theorem dX8_drawn_24 : decode cX8_drawn 24 = .ok (.idiv, 1) := by decide +kernel
theorem dX8_drawn_25 : decode cX8_drawn 25 = .ok (.iload_n 1, 1) := by decide +kernel
theorem dX8_drawn_26 : decode cX8_drawn 26 = .ok (.irem, 1) := by decide +kernel
theorem dX8_drawn_27 : decode cX8_drawn 27 = .ok (.ireturn, 1) := by decide +kernel
theorem dX8_lots_0 : decode cX8_lots 0 = .ok (.iload_n 1, 1) := by decide +kernel
theorem dX8_lots_1 : decode cX8_lots 1 = .ok (.iconst 1, 1) := by decide +kernel
theorem dX8_lots_2 : decode cX8_lots 2 = .ok (.if_icmp .ge 10, 3) := by decide +kernel
theorem dX8_lots_5 : decode cX8_lots 5 = .ok (.aload_n 0, 1) := by decide +kernel
theorem dX8_lots_6 : decode cX8_lots 6 = .ok (.bipush (-4), 2) := by decide +kernel
theorem dX8_lots_8 : decode cX8_lots 8 = .ok (.invokevirtual 41, 3) := by decide +kernel
theorem dX8_lots_11 : decode cX8_lots 11 = .ok (.ireturn, 1) := by decide +kernel
theorem dX8_lots_12 : decode cX8_lots 12 = .ok (.iload_n 1, 1) := by decide +kernel
theorem dX8_lots_13 : decode cX8_lots 13 = .ok (.bipush 20, 2) := by decide +kernel
theorem dX8_lots_15 : decode cX8_lots 15 = .ok (.if_icmp .le 10, 3) := by decide +kernel
theorem dX8_lots_18 : decode cX8_lots 18 = .ok (.aload_n 0, 1) := by decide +kernel
theorem dX8_lots_19 : decode cX8_lots 19 = .ok (.bipush (-6), 2) := by decide +kernel
theorem dX8_lots_21 : decode cX8_lots 21 = .ok (.invokevirtual 41, 3) := by decide +kernel
theorem dX8_lots_24 : decode cX8_lots 24 = .ok (.ireturn, 1) := by decide +kernel
theorem dX8_lots_25 : decode cX8_lots 25 = .ok (.iload_n 3, 1) := by decide +kernel
theorem dX8_lots_26 : decode cX8_lots 26 = .ok (.iconst 0, 1) := by decide +kernel
theorem dX8_lots_27 : decode cX8_lots 27 = .ok (.iconst 1, 1) := by decide +kernel
theorem dX8_lots_28 : decode cX8_lots 28 = .ok (.invokestatic 47, 3) := by decide +kernel
theorem dX8_lots_31 : decode cX8_lots 31 = .ok (.ifCond .ne 10, 3) := by decide +kernel
theorem dX8_lots_34 : decode cX8_lots 34 = .ok (.aload_n 0, 1) := by decide +kernel
theorem dX8_lots_35 : decode cX8_lots 35 = .ok (.bipush (-2), 2) := by decide +kernel
theorem dX8_lots_37 : decode cX8_lots 37 = .ok (.invokevirtual 41, 3) := by decide +kernel
theorem dX8_lots_40 : decode cX8_lots 40 = .ok (.ireturn, 1) := by decide +kernel
theorem dX8_lots_41 : decode cX8_lots 41 = .ok (.aload_n 0, 1) := by decide +kernel
theorem dX8_lots_42 : decode cX8_lots 42 = .ok (.iload_n 2, 1) := by decide +kernel
theorem dX8_lots_43 : decode cX8_lots 43 = .ok (.putfield 196, 3) := by decide +kernel
theorem dX8_lots_46 : decode cX8_lots 46 = .ok (.iconst 0, 1) := by decide +kernel
theorem dX8_lots_47 : decode cX8_lots 47 = .ok (.istore 4, 2) := by decide +kernel
theorem dX8_lots_49 : decode cX8_lots 49 = .ok (.iconst 0, 1) := by decide +kernel
theorem dX8_lots_50 : decode cX8_lots 50 = .ok (.istore 5, 2) := by decide +kernel
theorem dX8_lots_52 : decode cX8_lots 52 = .ok (.iload 5, 2) := by decide +kernel
theorem dX8_lots_54 : decode cX8_lots 54 = .ok (.iload_n 1, 1) := by decide +kernel
theorem dX8_lots_55 : decode cX8_lots 55 = .ok (.if_icmp .ge 117, 3) := by decide +kernel
theorem dX8_lots_58 : decode cX8_lots 58 = .ok (.aload_n 0, 1) := by decide +kernel
theorem dX8_lots_59 : decode cX8_lots 59 = .ok (.getfield 9, 3) := by decide +kernel
theorem dX8_lots_62 : decode cX8_lots 62 = .ok (.aload_n 0, 1) := by decide +kernel
theorem dX8_lots_63 : decode cX8_lots 63 = .ok (.getfield 13, 3) := by decide +kernel
theorem dX8_lots_66 : decode cX8_lots 66 = .ok (.invokestatic 122, 3) := by decide +kernel
theorem dX8_lots_69 : decode cX8_lots 69 = .ok (.iconst 0, 1) := by decide +kernel
theorem dX8_lots_70 : decode cX8_lots 70 = .ok (.istore 6, 2) := by decide +kernel
theorem dX8_lots_72 : decode cX8_lots 72 = .ok (.iload 6, 2) := by decide +kernel
theorem dX8_lots_74 : decode cX8_lots 74 = .ok (.aload_n 0, 1) := by decide +kernel
theorem dX8_lots_75 : decode cX8_lots 75 = .ok (.getfield 13, 3) := by decide +kernel
theorem dX8_lots_78 : decode cX8_lots 78 = .ok (.iconst 0, 1) := by decide +kernel
theorem dX8_lots_79 : decode cX8_lots 79 = .ok (.iaload, 1) := by decide +kernel
theorem dX8_lots_80 : decode cX8_lots 80 = .ok (.if_icmp .ge 59, 3) := by decide +kernel
theorem dX8_lots_83 : decode cX8_lots 83 = .ok (.aload_n 0, 1) := by decide +kernel
theorem dX8_lots_84 : decode cX8_lots 84 = .ok (.getfield 13, 3) := by decide +kernel
theorem dX8_lots_87 : decode cX8_lots 87 = .ok (.bipush 20, 2) := by decide +kernel
theorem dX8_lots_89 : decode cX8_lots 89 = .ok (.iload 6, 2) := by decide +kernel
theorem dX8_lots_91 : decode cX8_lots 91 = .ok (.iadd, 1) := by decide +kernel
theorem dX8_lots_92 : decode cX8_lots 92 = .ok (.iaload, 1) := by decide +kernel
theorem dX8_lots_93 : decode cX8_lots 93 = .ok (.ifCond .lt 6, 3) := by decide +kernel
theorem dX8_lots_96 : decode cX8_lots 96 = .ok (.goto 37, 3) := by decide +kernel
theorem dX8_lots_99 : decode cX8_lots 99 = .ok (.aload_n 0, 1) := by decide +kernel
theorem dX8_lots_100 : decode cX8_lots 100 = .ok (.bipush 60, 2) := by decide +kernel
theorem dX8_lots_102 : decode cX8_lots 102 = .ok (.invokevirtual 202, 3) := by decide +kernel
theorem dX8_lots_105 : decode cX8_lots 105 = .ok (.istore 7, 2) := by decide +kernel
theorem dX8_lots_107 : decode cX8_lots 107 = .ok (.aload_n 0, 1) := by decide +kernel
theorem dX8_lots_108 : decode cX8_lots 108 = .ok (.getfield 13, 3) := by decide +kernel
theorem dX8_lots_111 : decode cX8_lots 111 = .ok (.bipush 20, 2) := by decide +kernel
theorem dX8_lots_113 : decode cX8_lots 113 = .ok (.iload 6, 2) := by decide +kernel
theorem dX8_lots_115 : decode cX8_lots 115 = .ok (.iadd, 1) := by decide +kernel
theorem dX8_lots_116 : decode cX8_lots 116 = .ok (.aload_n 0, 1) := by decide +kernel
theorem dX8_lots_117 : decode cX8_lots 117 = .ok (.getfield 13, 3) := by decide +kernel
theorem dX8_lots_120 : decode cX8_lots 120 = .ok (.iload 6, 2) := by decide +kernel
theorem dX8_lots_122 : decode cX8_lots 122 = .ok (.iload 7, 2) := by decide +kernel
theorem dX8_lots_124 : decode cX8_lots 124 = .ok (.aload_n 0, 1) := by decide +kernel
theorem dX8_lots_125 : decode cX8_lots 125 = .ok (.iconst 4, 1) := by decide +kernel
theorem dX8_lots_126 : decode cX8_lots 126 = .ok (.invokevirtual 202, 3) := by decide +kernel
theorem dX8_lots_129 : decode cX8_lots 129 = .ok (.invokestatic 73, 3) := by decide +kernel
theorem dX8_lots_132 : decode cX8_lots 132 = .ok (.iastore, 1) := by decide +kernel
theorem dX8_lots_133 : decode cX8_lots 133 = .ok (.iinc 6 1, 3) := by decide +kernel
theorem dX8_lots_136 : decode cX8_lots 136 = .ok (.goto (-64), 3) := by decide +kernel
theorem dX8_lots_139 : decode cX8_lots 139 = .ok (.iload 4, 2) := by decide +kernel
theorem dX8_lots_141 : decode cX8_lots 141 = .ok (.iload_n 3, 1) := by decide +kernel
theorem dX8_lots_142 : decode cX8_lots 142 = .ok (.ifCond .ne 13, 3) := by decide +kernel
theorem dX8_lots_145 : decode cX8_lots 145 = .ok (.aload_n 0, 1) := by decide +kernel
theorem dX8_lots_146 : decode cX8_lots 146 = .ok (.getfield 13, 3) := by decide +kernel
theorem dX8_lots_149 : decode cX8_lots 149 = .ok (.invokestatic 141, 3) := by decide +kernel
theorem dX8_lots_152 : decode cX8_lots 152 = .ok (.goto 11, 3) := by decide +kernel
theorem dX8_lots_155 : decode cX8_lots 155 = .ok (.aload_n 0, 1) := by decide +kernel
theorem dX8_lots_156 : decode cX8_lots 156 = .ok (.aload_n 0, 1) := by decide +kernel
theorem dX8_lots_157 : decode cX8_lots 157 = .ok (.getfield 13, 3) := by decide +kernel
theorem dX8_lots_160 : decode cX8_lots 160 = .ok (.invokevirtual 149, 3) := by decide +kernel
theorem dX8_lots_163 : decode cX8_lots 163 = .ok (.iadd, 1) := by decide +kernel
theorem dX8_lots_164 : decode cX8_lots 164 = .ok (.istore 4, 2) := by decide +kernel
theorem dX8_lots_166 : decode cX8_lots 166 = .ok (.iinc 5 1, 3) := by decide +kernel
theorem dX8_lots_169 : decode cX8_lots 169 = .ok (.goto (-117), 3) := by decide +kernel
theorem dX8_lots_172 : decode cX8_lots 172 = .ok (.iload 4, 2) := by decide +kernel
theorem dX8_lots_174 : decode cX8_lots 174 = .ok (.ireturn, 1) := by decide +kernel
theorem dX8_image_0 : decode cX8_image 0 = .ok (.aload_n 0, 1) := by decide +kernel
theorem dX8_image_1 : decode cX8_image 1 = .ok (.getfield 9, 3) := by decide +kernel
theorem dX8_image_4 : decode cX8_image 4 = .ok (.aload_n 0, 1) := by decide +kernel
theorem dX8_image_5 : decode cX8_image 5 = .ok (.getfield 16, 3) := by decide +kernel
theorem dX8_image_8 : decode cX8_image 8 = .ok (.invokestatic 122, 3) := by decide +kernel
theorem dX8_image_11 : decode cX8_image 11 = .ok (.aload_n 0, 1) := by decide +kernel
theorem dX8_image_12 : decode cX8_image 12 = .ok (.iconst 1, 1) := by decide +kernel
theorem dX8_image_13 : decode cX8_image 13 = .ok (.putfield 205, 3) := by decide +kernel
theorem dX8_image_16 : decode cX8_image 16 = .ok (.aload_n 0, 1) := by decide +kernel
theorem dX8_image_17 : decode cX8_image 17 = .ok (.getfield 9, 3) := by decide +kernel
theorem dX8_image_20 : decode cX8_image 20 = .ok (.iconst 1, 1) := by decide +kernel
theorem dX8_image_21 : decode cX8_image 21 = .ok (.iaload, 1) := by decide +kernel
theorem dX8_image_22 : decode cX8_image 22 = .ok (.ireturn, 1) := by decide +kernel
theorem dX8_on_0 : decode cX8_on 0 = .ok (.aload_n 0, 1) := by decide +kernel
theorem dX8_on_1 : decode cX8_on 1 = .ok (.getfield 205, 3) := by decide +kernel
theorem dX8_on_4 : decode cX8_on 4 = .ok (.ifCond .ne 10, 3) := by decide +kernel
theorem dX8_on_7 : decode cX8_on 7 = .ok (.aload_n 0, 1) := by decide +kernel
theorem dX8_on_8 : decode cX8_on 8 = .ok (.bipush (-3), 2) := by decide +kernel
theorem dX8_on_10 : decode cX8_on 10 = .ok (.invokevirtual 41, 3) := by decide +kernel
theorem dX8_on_13 : decode cX8_on 13 = .ok (.ireturn, 1) := by decide +kernel
theorem dX8_on_14 : decode cX8_on 14 = .ok (.aload_n 0, 1) := by decide +kernel
theorem dX8_on_15 : decode cX8_on 15 = .ok (.getfield 16, 3) := by decide +kernel
theorem dX8_on_18 : decode cX8_on 18 = .ok (.aload_n 0, 1) := by decide +kernel
theorem dX8_on_19 : decode cX8_on 19 = .ok (.getfield 9, 3) := by decide +kernel
theorem dX8_on_22 : decode cX8_on 22 = .ok (.invokestatic 122, 3) := by decide +kernel
theorem dX8_on_25 : decode cX8_on 25 = .ok (.aload_n 0, 1) := by decide +kernel
theorem dX8_on_26 : decode cX8_on 26 = .ok (.getfield 9, 3) := by decide +kernel
theorem dX8_on_29 : decode cX8_on 29 = .ok (.iconst 1, 1) := by decide +kernel
theorem dX8_on_30 : decode cX8_on 30 = .ok (.iaload, 1) := by decide +kernel
theorem dX8_on_31 : decode cX8_on 31 = .ok (.ireturn, 1) := by decide +kernel
theorem dX8_count_0 : decode cX8_count 0 = .ok (.iload_n 1, 1) := by decide +kernel
theorem dX8_count_1 : decode cX8_count 1 = .ok (.bipush 11, 2) := by decide +kernel
theorem dX8_count_3 : decode cX8_count 3 = .ok (.bipush 16, 2) := by decide +kernel
theorem dX8_count_5 : decode cX8_count 5 = .ok (.invokestatic 47, 3) := by decide +kernel
theorem dX8_count_8 : decode cX8_count 8 = .ok (.ifCond .eq 13, 3) := by decide +kernel
theorem dX8_count_11 : decode cX8_count 11 = .ok (.aload_n 0, 1) := by decide +kernel
theorem dX8_count_12 : decode cX8_count 12 = .ok (.getfield 28, 3) := by decide +kernel
theorem dX8_count_15 : decode cX8_count 15 = .ok (.iload_n 1, 1) := by decide +kernel
theorem dX8_count_16 : decode cX8_count 16 = .ok (.bipush 10, 2) := by decide +kernel
theorem dX8_count_18 : decode cX8_count 18 = .ok (.isub, 1) := by decide +kernel
theorem dX8_count_19 : decode cX8_count 19 = .ok (.iaload, 1) := by decide +kernel
theorem dX8_count_20 : decode cX8_count 20 = .ok (.ireturn, 1) := by decide +kernel
theorem dX8_count_21 : decode cX8_count 21 = .ok (.iconst 0, 1) := by decide +kernel
theorem dX8_count_22 : decode cX8_count 22 = .ok (.istore_n 2, 1) := by decide +kernel
theorem dX8_count_23 : decode cX8_count 23 = .ok (.iload_n 1, 1) := by decide +kernel
theorem dX8_count_24 : decode cX8_count 24 = .ok (.tableswitch 144 0 7 #[48, 48, 48, 48, 55, 97, 134, 139], 48) := by decide +kernel
theorem dX8_count_72 : decode cX8_count 72 = .ok (.aload_n 0, 1) := by decide +kernel
theorem dX8_count_73 : decode cX8_count 73 = .ok (.getfield 9, 3) := by decide +kernel
theorem dX8_count_76 : decode cX8_count 76 = .ok (.iload_n 1, 1) := by decide +kernel
theorem dX8_count_77 : decode cX8_count 77 = .ok (.iaload, 1) := by decide +kernel
theorem dX8_count_78 : decode cX8_count 78 = .ok (.ireturn, 1) := by decide +kernel
theorem dX8_count_79 : decode cX8_count 79 = .ok (.iconst 0, 1) := by decide +kernel
theorem dX8_count_80 : decode cX8_count 80 = .ok (.istore_n 3, 1) := by decide +kernel
theorem dX8_count_81 : decode cX8_count 81 = .ok (.iload_n 3, 1) := by decide +kernel
theorem dX8_count_82 : decode cX8_count 82 = .ok (.aload_n 0, 1) := by decide +kernel
theorem dX8_count_83 : decode cX8_count 83 = .ok (.getfield 9, 3) := by decide +kernel
theorem dX8_count_86 : decode cX8_count 86 = .ok (.iconst 0, 1) := by decide +kernel
theorem dX8_count_87 : decode cX8_count 87 = .ok (.iaload, 1) := by decide +kernel
theorem dX8_count_88 : decode cX8_count 88 = .ok (.if_icmp .ge 31, 3) := by decide +kernel
theorem dX8_count_91 : decode cX8_count 91 = .ok (.iload_n 2, 1) := by decide +kernel
theorem dX8_count_92 : decode cX8_count 92 = .ok (.aload_n 0, 1) := by decide +kernel
theorem dX8_count_93 : decode cX8_count 93 = .ok (.getfield 9, 3) := by decide +kernel
theorem dX8_count_96 : decode cX8_count 96 = .ok (.bipush 20, 2) := by decide +kernel
theorem dX8_count_98 : decode cX8_count 98 = .ok (.iload_n 3, 1) := by decide +kernel
theorem dX8_count_99 : decode cX8_count 99 = .ok (.iadd, 1) := by decide +kernel
theorem dX8_count_100 : decode cX8_count 100 = .ok (.iaload, 1) := by decide +kernel
theorem dX8_count_101 : decode cX8_count 101 = .ok (.ifCond .lt 9, 3) := by decide +kernel
theorem dX8_count_104 : decode cX8_count 104 = .ok (.iconst 1, 1) := by decide +kernel
theorem dX8_count_105 : decode cX8_count 105 = .ok (.iload_n 3, 1) := by decide +kernel
theorem dX8_count_106 : decode cX8_count 106 = .ok (.ishl, 1) := by decide +kernel
theorem dX8_count_107 : decode cX8_count 107 = .ok (.goto 4, 3) := by decide +kernel
theorem dX8_count_110 : decode cX8_count 110 = .ok (.iconst 0, 1) := by decide +kernel
theorem dX8_count_111 : decode cX8_count 111 = .ok (.ior, 1) := by decide +kernel
theorem dX8_count_112 : decode cX8_count 112 = .ok (.istore_n 2, 1) := by decide +kernel
theorem dX8_count_113 : decode cX8_count 113 = .ok (.iinc 3 1, 3) := by decide +kernel
theorem dX8_count_116 : decode cX8_count 116 = .ok (.goto (-35), 3) := by decide +kernel
theorem dX8_count_119 : decode cX8_count 119 = .ok (.iload_n 2, 1) := by decide +kernel
theorem dX8_count_120 : decode cX8_count 120 = .ok (.ireturn, 1) := by decide +kernel
theorem dX8_count_121 : decode cX8_count 121 = .ok (.iconst 0, 1) := by decide +kernel
theorem dX8_count_122 : decode cX8_count 122 = .ok (.istore_n 3, 1) := by decide +kernel
theorem dX8_count_123 : decode cX8_count 123 = .ok (.iload_n 3, 1) := by decide +kernel
theorem dX8_count_124 : decode cX8_count 124 = .ok (.aload_n 0, 1) := by decide +kernel
theorem dX8_count_125 : decode cX8_count 125 = .ok (.getfield 9, 3) := by decide +kernel
theorem dX8_count_128 : decode cX8_count 128 = .ok (.iconst 0, 1) := by decide +kernel
theorem dX8_count_129 : decode cX8_count 129 = .ok (.iaload, 1) := by decide +kernel
theorem dX8_count_130 : decode cX8_count 130 = .ok (.if_icmp .ge 24, 3) := by decide +kernel
theorem dX8_count_133 : decode cX8_count 133 = .ok (.iload_n 2, 1) := by decide +kernel
theorem dX8_count_134 : decode cX8_count 134 = .ok (.aload_n 0, 1) := by decide +kernel
theorem dX8_count_135 : decode cX8_count 135 = .ok (.getfield 9, 3) := by decide +kernel
theorem dX8_count_138 : decode cX8_count 138 = .ok (.bipush 124, 2) := by decide +kernel
theorem dX8_count_140 : decode cX8_count 140 = .ok (.iload_n 3, 1) := by decide +kernel
theorem dX8_count_141 : decode cX8_count 141 = .ok (.iadd, 1) := by decide +kernel
theorem dX8_count_142 : decode cX8_count 142 = .ok (.iaload, 1) := by decide +kernel
theorem dX8_count_143 : decode cX8_count 143 = .ok (.invokestatic 174, 3) := by decide +kernel
theorem dX8_count_146 : decode cX8_count 146 = .ok (.iadd, 1) := by decide +kernel
theorem dX8_count_147 : decode cX8_count 147 = .ok (.istore_n 2, 1) := by decide +kernel
theorem dX8_count_148 : decode cX8_count 148 = .ok (.iinc 3 1, 3) := by decide +kernel
theorem dX8_count_151 : decode cX8_count 151 = .ok (.goto (-28), 3) := by decide +kernel
theorem dX8_count_154 : decode cX8_count 154 = .ok (.iload_n 2, 1) := by decide +kernel
theorem dX8_count_155 : decode cX8_count 155 = .ok (.iconst 2, 1) := by decide +kernel
theorem dX8_count_156 : decode cX8_count 156 = .ok (.idiv, 1) := by decide +kernel
theorem dX8_count_157 : decode cX8_count 157 = .ok (.ireturn, 1) := by decide +kernel
theorem dX8_count_158 : decode cX8_count 158 = .ok (.aload_n 0, 1) := by decide +kernel
theorem dX8_count_159 : decode cX8_count 159 = .ok (.getfield 193, 3) := by decide +kernel
theorem dX8_count_162 : decode cX8_count 162 = .ok (.ireturn, 1) := by decide +kernel
theorem dX8_count_163 : decode cX8_count 163 = .ok (.aload_n 0, 1) := by decide +kernel
theorem dX8_count_164 : decode cX8_count 164 = .ok (.getfield 76, 3) := by decide +kernel
theorem dX8_count_167 : decode cX8_count 167 = .ok (.ireturn, 1) := by decide +kernel
theorem dX8_count_168 : decode cX8_count 168 = .ok (.bipush (-9), 2) := by decide +kernel
theorem dX8_count_170 : decode cX8_count 170 = .ok (.ireturn, 1) := by decide +kernel
end
section
-- ===== printed by wip/whole/gen.py: what each method does, as a function (none: it would throw, or the count of rounds is used up) =====
def f_X3_at (q0 : Nat) (a1 : Int32) (S : St) : Option Nat :=
  (if (a1 &&& 7) < 0 ∨ 8 ≤ (a1 &&& 7).toNatClampNeg then none else some ((q0 + 1) + 2 + 2 * (a1 &&& 7).toNatClampNeg))
def f_X6_isSet (q0 : Nat) (S : St) : Option Int32 :=
  (if (S.1 q0 2) = (-9) then some 0 else some 1)
def f_X6_gladIn (q0 : Nat) (a1 : Int32) (S : St) : Option Int32 :=
  (if a1 < 0 then some 0 else (if a1 < 12 then (if a1 < 0 ∨ 12 ≤ a1.toNatClampNeg then none else some (S.1 (q0 + 1) a1.toNatClampNeg)) else some 0))
def f_X6_gladdestYear_L6 (n : Nat) (q0 : Nat) (x2 : Int32) (x3 : Int32) (S : St) (k31 : Int32 → Option Int32) : Option Int32 :=
  match n with
  | 0 => none
  | n + 1 => (if x3 < 0 then k31 x2 else (f_X6_gladIn q0 x3 S).bind fun v2 => (f_X6_gladIn q0 x2 S).bind fun v3 => (if v2 ≤ v3 then f_X6_gladdestYear_L6 n q0 x2 (x3 + (-1)) S k31 else f_X6_gladdestYear_L6 n q0 x3 (x3 + (-1)) S k31))
def f_X6_gladdestYear (q0 : Nat) (a1 : Int32) (S : St) : Option Int32 :=
  f_X6_gladdestYear_L6 2000 q0 a1 (a1 - 1) S (fun (y5 : Int32) => some y5)
def f_X6_reach (q0 : Nat) (a1 : Int32) (a2 : Int32) (S : St) : Option Int32 :=
  (if (S.1 q0 0) = 2 then some ((if 0 < ((a1 / 5) - a2) then (a1 / 5) - a2 else 0) + (S.1 q0 1)) else (if (S.1 q0 0) = 5 then some ((if 0 < ((a1 / 5) - a2) then (a1 / 5) - a2 else 0) + (S.1 q0 1)) else (if (S.1 q0 0) = 4 then some ((if 0 < ((a1 / 5) - a2) then (a1 / 5) - a2 else 0) / 2) else some (if 0 < ((a1 / 5) - a2) then (a1 / 5) - a2 else 0))))
def f_X6_counts (q0 : Nat) (a1 : Int32) (a2 : Int32) (S : St) : Option Int32 :=
  (if (S.1 q0 0) = 5 then (f_X6_gladIn q0 a1 S).bind fun v5 => some (-v5) else (if (S.1 q0 0) = 3 then (f_X6_gladIn q0 a1 S).bind fun v4 => some (v4 - ((S.1 q0 1) * (a2 - a1))) else (f_X6_gladIn q0 a1 S).bind fun v3 => some v3))
def f_X6_yearBy_L53 (n : Nat) (q0 : Nat) (x3 : Int32) (x4 : Int32) (x5 : Int32) (x6 : Int32) (x7 : Int32) (x8 : Int32) (S : St) (k102 : Int32 → Option Int32) : Option Int32 :=
  match n with
  | 0 => none
  | n + 1 => (if x8 < x5 then k102 x6 else (f_X6_counts q0 x8 x3 S).bind fun v5 => (if x7 < v5 then f_X6_yearBy_L53 n q0 x3 x4 x5 x8 v5 (x8 + (-1)) S k102 else (if x4 = 0 then f_X6_yearBy_L53 n q0 x3 x4 x5 x6 x7 (x8 + (-1)) S k102 else (if v5 = x7 then f_X6_yearBy_L53 n q0 x3 x4 x5 x8 v5 (x8 + (-1)) S k102 else f_X6_yearBy_L53 n q0 x3 x4 x5 x6 x7 (x8 + (-1)) S k102))))
def f_X6_yearBy (q0 : Nat) (a1 : Int32) (a2 : Int32) (a3 : Int32) (S : St) : Option Int32 :=
  (if (S.1 q0 0) = 1 then (f_X6_reach q0 a1 a2 S).bind fun v2 => (f_X6_counts q0 a3 a3 S).bind fun v3 => f_X6_yearBy_L53 2000 q0 a3 1 (if 0 < (a3 - v2) then a3 - v2 else 0) a3 v3 (a3 - 1) S (fun (y9 : Int32) => some y9) else (if (S.1 q0 0) = 3 then (f_X6_reach q0 a1 a2 S).bind fun v14 => (f_X6_counts q0 a3 a3 S).bind fun v15 => f_X6_yearBy_L53 2000 q0 a3 1 (if 0 < (a3 - v14) then a3 - v14 else 0) a3 v15 (a3 - 1) S (fun (y16 : Int32) => some y16) else (f_X6_reach q0 a1 a2 S).bind fun v11 => (f_X6_counts q0 a3 a3 S).bind fun v12 => f_X6_yearBy_L53 2000 q0 a3 0 (if 0 < (a3 - v11) then a3 - v11 else 0) a3 v12 (a3 - 1) S (fun (y13 : Int32) => some y13)))
def f_X6_fewestFor_L2 (n : Nat) (q0 : Nat) (x1 : Int32) (x2 : Int32) (x3 : Int32) (S : St) (k21 : Int32 → Option Int32) (k31 : Unit → Option Int32) : Option Int32 :=
  match n with
  | 0 => none
  | n + 1 => (if 19 < x3 then k31 () else (f_X6_yearBy q0 (x3 * 5) 0 x2 S).bind fun v2 => (if v2 = x1 then k21 x3 else f_X6_fewestFor_L2 n q0 x1 x2 (x3 + 1) S k21 k31))
def f_X6_fewestFor (q0 : Nat) (a1 : Int32) (a2 : Int32) (S : St) : Option Int32 :=
  f_X6_fewestFor_L2 2000 q0 a1 a2 0 S (fun (y4 : Int32) => some (y4 * 5)) (fun _ : Unit => some (-9))
def f_X0_begin_L5 (n : Nat) (x1 : Int32) (x2 : Int32) (x3 : Int32) (x4 : Int32) (S : St) (k42 : Int32 → Option (Int32 × St)) : Option (Int32 × St) :=
  match n with
  | 0 => none
  | n + 1 => (if x2 ≤ x4 then k42 x3 else (if 4 ≤ x4 then k42 x3 else (if x4 < 0 ∨ 4 ≤ x4.toNatClampNeg then none else (if x3 < 0 ∨ 4 ≤ x3.toNatClampNeg then none else (if (S.1 69 x3.toNatClampNeg) ≤ (S.1 69 x4.toNatClampNeg) then f_X0_begin_L5 n x1 x2 x3 (x4 + 1) S k42 else f_X0_begin_L5 n x1 x2 x4 (x4 + 1) S k42)))))
def f_X0_begin (a1 : Int32) (a2 : Int32) (S : St) : Option (Int32 × St) :=
  f_X0_begin_L5 2000 a1 a2 0 1 S (fun (y6 : Int32) => (if y6 < 0 ∨ 4 ≤ y6.toNatClampNeg then none else (if y6 < 0 ∨ 4 ≤ y6.toNatClampNeg then none else (if y6 < 0 ∨ 4 ≤ y6.toNatClampNeg then none else some (S.1 69 y6.toNatClampNeg, (up (up S 69 y6.toNatClampNeg ((S.1 69 y6.toNatClampNeg) + a1)) 67 2 (if ((up S 69 y6.toNatClampNeg ((S.1 69 y6.toNatClampNeg) + a1)).1 67 2) < ((up S 69 y6.toNatClampNeg ((S.1 69 y6.toNatClampNeg) + a1)).1 69 y6.toNatClampNeg) then (up S 69 y6.toNatClampNeg ((S.1 69 y6.toNatClampNeg) + a1)).1 69 y6.toNatClampNeg else (up S 69 y6.toNatClampNeg ((S.1 69 y6.toNatClampNeg) + a1)).1 67 2)))))))
def f_X0_arrange_L7 (n : Nat) (q1 : Nat) (x2 : Int32) (S : St) (k25 : St → Option St) : Option St :=
  match n with
  | 0 => none
  | n + 1 => (if 4 ≤ x2 then k25 S else (if x2 < 0 ∨ 4 ≤ x2.toNatClampNeg then none else f_X0_arrange_L7 n q1 (x2 + 1) (up S 69 x2.toNatClampNeg 0) k25))
def f_X0_arrange_L27 (n : Nat) (q1 : Nat) (x2 : Int32) (S : St) (k111 : St → Option St) : Option St :=
  match n with
  | 0 => none
  | n + 1 => (if (S.1 q1 0) ≤ x2 then k111 S else (if 8 ≤ x2 then k111 S else (f_X3_at q1 x2 S).bind fun v6 => (f_X6_isSet v6 S).bind fun v7 => (if v7 = 0 then (f_X6_gladdestYear v6 (S.1 q1 1) S).bind fun v9 => (f_X6_fewestFor v6 v9 (S.1 q1 1) S).bind fun v10 => (if v10 = (-9) then (if x2 < 0 ∨ 8 ≤ x2.toNatClampNeg then none else f_X0_arrange_L27 n q1 (x2 + 1) (up S 68 x2.toNatClampNeg (-9)) k111) else (f_X0_begin v10 (S.1 q1 3) S).bind fun z12 => (if x2 < 0 ∨ 8 ≤ x2.toNatClampNeg then none else f_X0_arrange_L27 n q1 (x2 + 1) (up z12.2 68 x2.toNatClampNeg z12.1) k111)) else (if x2 < 0 ∨ 8 ≤ x2.toNatClampNeg then none else f_X0_arrange_L27 n q1 (x2 + 1) (up S 68 x2.toNatClampNeg (-9)) k111))))
def f_X0_arrange (q1 : Nat) (S : St) : Option St :=
  f_X0_arrange_L7 2000 q1 0 (up S 67 2 0) (fun (S3 : St) => f_X0_arrange_L27 2000 q1 0 S3 (fun (S17 : St) => some S17))
def f_X0_beginOf (a1 : Int32) (S : St) : Option Int32 :=
  (if a1 < 0 then some (-9) else (if a1 < 8 then (if a1 < 0 ∨ 8 ≤ a1.toNatClampNeg then none else some (S.1 68 a1.toNatClampNeg)) else some (-9)))
def f_X3_setBits_L4 (n : Nat) (q0 : Nat) (x1 : Int32) (x2 : Int32) (S : St) (k35 : Int32 → Option Int32) : Option Int32 :=
  match n with
  | 0 => none
  | n + 1 => (if (S.1 q0 0) ≤ x2 then k35 x1 else (f_X3_at q0 x2 S).bind fun v2 => (f_X6_isSet v2 S).bind fun v3 => (if v3 = 0 then f_X3_setBits_L4 n q0 x1 (x2 + 1) S k35 else f_X3_setBits_L4 n q0 (x1 ||| (1 <<< (x2 &&& 31))) (x2 + 1) S k35))
def f_X3_setBits (q0 : Nat) (S : St) : Option Int32 :=
  f_X3_setBits_L4 2000 q0 0 0 S (fun (y5 : Int32) => some y5)
def f_X6_howGlad (q0 : Nat) (a1 : Int32) (S : St) : Option Int32 :=
  (f_X6_isSet q0 S).bind fun v1 => (if v1 = 0 then (f_X6_gladIn q0 a1 S).bind fun v3 => some v3 else (f_X6_gladIn q0 (S.1 q0 2) S).bind fun v4 => some v4)
def f_X3_gladTogether_L4 (n : Nat) (q0 : Nat) (x1 : Int32) (x2 : Int32) (x3 : Int32) (S : St) (k30 : Int32 → Option Int32) : Option Int32 :=
  match n with
  | 0 => none
  | n + 1 => (if (S.1 q0 0) ≤ x3 then k30 x2 else (f_X3_at q0 x3 S).bind fun v2 => (f_X6_howGlad v2 x1 S).bind fun v3 => f_X3_gladTogether_L4 n q0 x1 (x2 + v3) (x3 + 1) S k30)
def f_X3_gladTogether (q0 : Nat) (a1 : Int32) (S : St) : Option Int32 :=
  f_X3_gladTogether_L4 2000 q0 a1 0 0 S (fun (y4 : Int32) => some y4)
def f_X6_gladdestBy_L4 (n : Nat) (q0 : Nat) (x1 : Int32) (x2 : Int32) (x3 : Int32) (S : St) (k34 : Int32 → Option Int32) : Option Int32 :=
  match n with
  | 0 => none
  | n + 1 => (if 19 < x3 then k34 x2 else (f_X6_yearBy q0 (x3 * 5) 0 x1 S).bind fun v2 => (f_X6_gladIn q0 v2 S).bind fun v3 => f_X6_gladdestBy_L4 n q0 x1 (if x2 < v3 then v3 else x2) (x3 + 1) S k34)
def f_X6_gladdestBy (q0 : Nat) (a1 : Int32) (S : St) : Option Int32 :=
  f_X6_gladdestBy_L4 2000 q0 a1 0 0 S (fun (y4 : Int32) => some y4)
def f_X6_cost (q0 : Nat) (S : St) : Option Int32 :=
  (if (S.1 q0 0) = 4 then some (1 + (S.1 q0 1)) else some 1)
def f_X1_weigh_L29 (n : Nat) (q1 : Nat) (x2 : Int32) (x3 : Int32) (S : St) (k86 : St → Option St) : Option St :=
  match n with
  | 0 => none
  | n + 1 => (if (S.1 q1 0) ≤ x3 then k86 S else (if 8 ≤ x3 then k86 S else (f_X3_at q1 x3 S).bind fun v5 => (f_X6_gladdestBy v5 x2 S).bind fun v6 => (f_X6_gladIn v5 x2 S).bind fun v7 => (if x3 < 0 ∨ 8 ≤ x3.toNatClampNeg then none else (f_X6_cost v5 (up S 65 x3.toNatClampNeg (v6 - v7))).bind fun v9 => (if x3 < 0 ∨ 8 ≤ x3.toNatClampNeg then none else f_X1_weigh_L29 n q1 x2 (x3 + 1) (up (up S 65 x3.toNatClampNeg (v6 - v7)) 66 x3.toNatClampNeg v9) k86))))
def f_X1_weigh (q1 : Nat) (a2 : Int32) (S : St) : Option St :=
  (f_X3_setBits q1 S).bind fun v1 => (f_X3_gladTogether q1 a2 (up (up S 64 2 v1) 64 3 (1 <<< (((up S 64 2 v1).1 q1 0) &&& 31)))).bind fun v2 => f_X1_weigh_L29 2000 q1 a2 0 (up (up (up S 64 2 v1) 64 3 (1 <<< (((up S 64 2 v1).1 q1 0) &&& 31))) 64 4 v2) (fun (S11 : St) => some S11)
def f_X1_sumOver_L4 (n : Nat) (x0 : Int32) (q1 : Nat) (x2 : Int32) (x3 : Int32) (S : St) (k35 : Int32 → Option Int32) : Option Int32 :=
  match n with
  | 0 => none
  | n + 1 => (if 8 ≤ x3 then k35 x2 else (if ((x0 >>> (x3 &&& 31)) &&& 1) = 1 then (if x3 < 0 ∨ 8 ≤ x3.toNatClampNeg then none else f_X1_sumOver_L4 n x0 q1 (x2 + (S.1 q1 x3.toNatClampNeg)) (x3 + 1) S k35) else f_X1_sumOver_L4 n x0 q1 (x2 + 0) (x3 + 1) S k35))
def f_X1_sumOver (a0 : Int32) (q1 : Nat) (S : St) : Option Int32 :=
  f_X1_sumOver_L4 2000 a0 q1 0 0 S (fun (y4 : Int32) => some y4)
def f_X1_gainOf (a1 : Int32) (S : St) : Option Int32 :=
  (f_X1_sumOver a1 65 S).bind fun v1 => some v1
def f_X1_bestBits_L7 (n : Nat) (x1 : Int32) (x2 : Int32) (x3 : Int32) (x4 : Int32) (S : St) (k65 : Int32 → Option Int32) : Option Int32 :=
  match n with
  | 0 => none
  | n + 1 => (if (S.1 64 3) ≤ x4 then k65 x2 else (if (x4 &&& (S.1 64 2)) = 0 then (f_X1_gainOf x4 S).bind fun v3 => (if v3 ≤ x3 then f_X1_bestBits_L7 n x1 x2 x3 (x4 + 1) S k65 else (f_X1_sumOver x4 66 S).bind fun v5 => (if x1 < v5 then f_X1_bestBits_L7 n x1 x2 x3 (x4 + 1) S k65 else (f_X1_gainOf x4 S).bind fun v7 => f_X1_bestBits_L7 n x1 x4 v7 (x4 + 1) S k65)) else f_X1_bestBits_L7 n x1 x2 x3 (x4 + 1) S k65))
def f_X1_bestBits (a1 : Int32) (S : St) : Option Int32 :=
  f_X1_bestBits_L7 2000 a1 0 0 0 S (fun (y8 : Int32) => some y8)
def f_X1_fewestFor_L5 (n : Nat) (x1 : Int32) (x2 : Int32) (x3 : Int32) (S : St) (k50 : Int32 → Option Int32) : Option Int32 :=
  match n with
  | 0 => none
  | n + 1 => (if (S.1 64 3) ≤ x3 then k50 x2 else (if (x3 &&& (S.1 64 2)) = 0 then (f_X1_gainOf x3 S).bind fun v3 => (if v3 = x1 then (f_X1_sumOver x3 66 S).bind fun v5 => f_X1_fewestFor_L5 n x1 (if v5 < x2 then v5 else x2) (x3 + 1) S k50 else f_X1_fewestFor_L5 n x1 x2 (x3 + 1) S k50) else f_X1_fewestFor_L5 n x1 x2 (x3 + 1) S k50))
def f_X1_fewestFor (a1 : Int32) (S : St) : Option Int32 :=
  f_X1_fewestFor_L5 2000 a1 99 0 S (fun (y6 : Int32) => some y6)
def f_X2_isFull  (S : St) : Option Int32 :=
  (if (S.1 62 1) < 16 then some 0 else some 1)
def f_X2_put (a1 : Int32) (S : St) : Option St :=
  (f_X2_isFull S).bind fun v1 => (if v1 = 0 then (if (S.1 62 1) < 0 ∨ 16 ≤ (S.1 62 1).toNatClampNeg then none else some (up (up S 63 (S.1 62 1).toNatClampNeg a1) 62 1 (((up S 63 (S.1 62 1).toNatClampNeg a1).1 62 1) + 1))) else some S)
def f_X2_tellsYearsOf_L2 (n : Nat) (q1 : Nat) (x2 : Int32) (x3 : Int32) (S : St) (k34 : Unit → Option Int32) (k42 : Unit → Option Int32) : Option Int32 :=
  match n with
  | 0 => none
  | n + 1 => (if (S.1 62 1) ≤ x3 then k42 () else (if 16 ≤ x3 then k42 () else (if x3 < 0 ∨ 16 ≤ x3.toNatClampNeg then none else (f_X6_yearBy q1 (x3 * 5) 0 x2 S).bind fun v4 => (if (S.1 63 x3.toNatClampNeg) = v4 then f_X2_tellsYearsOf_L2 n q1 x2 (x3 + 1) S k34 k42 else k34 ()))))
def f_X2_tellsYearsOf (q1 : Nat) (a2 : Int32) (S : St) : Option Int32 :=
  f_X2_tellsYearsOf_L2 2000 q1 a2 0 S (fun _ : Unit => some 0) (fun _ : Unit => some 1)
def f_X7_noYear (a0 : Int32)  : Option Int32 :=
  (if a0 < 0 then some 1 else (if a0 < 12 then some 0 else some 1))
def f_X2_firstNotGladOf_L2 (n : Nat) (q1 : Nat) (x2 : Int32) (S : St) (k37 : Int32 → Option Int32) (k45 : Unit → Option Int32) : Option Int32 :=
  match n with
  | 0 => none
  | n + 1 => (if (S.1 62 1) ≤ x2 then k45 () else (if 16 ≤ x2 then k45 () else (f_X7_noYear x2).bind fun v3 => (if v3 = 0 then (if x2 < 0 ∨ 16 ≤ x2.toNatClampNeg then none else (f_X6_gladIn q1 x2 S).bind fun v6 => (if (S.1 63 x2.toNatClampNeg) = v6 then f_X2_firstNotGladOf_L2 n q1 (x2 + 1) S k37 k45 else k37 x2)) else k37 x2)))
def f_X2_firstNotGladOf (q1 : Nat) (S : St) : Option Int32 :=
  f_X2_firstNotGladOf_L2 2000 q1 0 S (fun (y8 : Int32) => some y8) (fun _ : Unit => some (-9))
def f_X6_copyFrom (q0 : Nat) (q1 : Nat) (S : St) : Option St :=
  (if q1 + 1 = q0 + 1 then none else some (upc (up (up (up S q0 0 (S.1 q1 0)) q0 1 ((up S q0 0 (S.1 q1 0)).1 q1 1)) q0 2 ((up (up S q0 0 (S.1 q1 0)) q0 1 ((up S q0 0 (S.1 q1 0)).1 q1 1)).1 q1 2)) (q1 + 1) (q0 + 1) 0 0 12))
def f_X3_copyFrom_L34 (n : Nat) (q0 : Nat) (q1 : Nat) (x2 : Int32) (S : St) (k73 : St → Option St) : Option St :=
  match n with
  | 0 => none
  | n + 1 => (if 8 ≤ x2 then k73 S else (if x2 < 0 ∨ 8 ≤ x2.toNatClampNeg then none else (if x2 < 0 ∨ 8 ≤ x2.toNatClampNeg then none else (f_X6_copyFrom ((q0 + 1) + 2 + 2 * x2.toNatClampNeg) ((q1 + 1) + 2 + 2 * x2.toNatClampNeg) S).bind fun S4 => (if x2 < 0 ∨ 8 ≤ x2.toNatClampNeg then none else (if x2 < 0 ∨ 8 ≤ x2.toNatClampNeg then none else f_X3_copyFrom_L34 n q0 q1 (x2 + 1) (up S4 (q0 + 2) x2.toNatClampNeg (S4.1 (q1 + 2) x2.toNatClampNeg)) k73)))))
def f_X3_copyFrom (q0 : Nat) (q1 : Nat) (S : St) : Option St :=
  f_X3_copyFrom_L34 2000 q0 q1 0 (up (up (up (up S q0 0 (S.1 q1 0)) q0 1 ((up S q0 0 (S.1 q1 0)).1 q1 1)) q0 2 ((up (up S q0 0 (S.1 q1 0)) q0 1 ((up S q0 0 (S.1 q1 0)).1 q1 1)).1 q1 2)) q0 3 ((up (up (up S q0 0 (S.1 q1 0)) q0 1 ((up S q0 0 (S.1 q1 0)).1 q1 1)) q0 2 ((up (up S q0 0 (S.1 q1 0)) q0 1 ((up S q0 0 (S.1 q1 0)).1 q1 1)).1 q1 2)).1 q1 3)) (fun (S7 : St) => some S7)
def f_X3_lacks (q0 : Nat) (a1 : Int32) (S : St) : Option Int32 :=
  (if a1 < 0 then some 1 else (if (S.1 q0 0) ≤ a1 then some 1 else (if a1 < 8 then some 0 else some 1)))
def f_X3_lacksTwo (q0 : Nat) (a1 : Int32) (a2 : Int32) (S : St) : Option Int32 :=
  (f_X3_lacks q0 a1 S).bind fun v1 => (if v1 = 0 then (f_X3_lacks q0 a2 S).bind fun v3 => (if v3 = 0 then (if a1 = a2 then some 1 else some 0) else some 1) else some 1)
def f_X6_begin_L18 (n : Nat) (q0 : Nat) (x3 : Int32) (S : St) (k37 : St → Option St) : Option St :=
  match n with
  | 0 => none
  | n + 1 => (if 12 ≤ x3 then k37 S else (if x3 < 0 ∨ 12 ≤ x3.toNatClampNeg then none else f_X6_begin_L18 n q0 (x3 + 1) (up S (q0 + 1) x3.toNatClampNeg 0) k37))
def f_X6_begin (q0 : Nat) (a1 : Int32) (a2 : Int32) (S : St) : Option St :=
  f_X6_begin_L18 2000 q0 0 (up (up (up S q0 0 a1) q0 1 a2) q0 2 (-9)) (fun (S3 : St) => some S3)
def f_X3_add (q0 : Nat) (a1 : Int32) (a2 : Int32) (S : St) : Option (Int32 × St) :=
  (if (S.1 q0 0) < 8 then (f_X3_at q0 (S.1 q0 0) S).bind fun v2 => (f_X6_begin v2 a1 a2 S).bind fun S3 => some (1, (up S3 q0 0 ((S3.1 q0 0) + 1))) else some (0, S))
def f_X6_makeGlad (q0 : Nat) (a1 : Int32) (a2 : Int32) (S : St) : Option St :=
  (if a1 < 0 then some S else (if 12 ≤ a1 then some S else (if a1 < 0 ∨ 12 ≤ a1.toNatClampNeg then none else some (up S (q0 + 1) a1.toNatClampNeg a2))))
def f_X3_makeGlad_L32 (n : Nat) (q0 : Nat) (x1 : Int32) (x3 : Int32) (x4 : Int32) (x5 : Int32) (S : St) (k56 : St → Option (Int32 × St)) : Option (Int32 × St) :=
  match n with
  | 0 => none
  | n + 1 => (if x3 < x5 then k56 S else (f_X3_at q0 x1 S).bind fun v9 => (f_X6_makeGlad v9 x5 x4 S).bind fun S10 => f_X3_makeGlad_L32 n q0 x1 x3 x4 (x5 + 1) S10 k56)
def f_X3_makeGlad (q0 : Nat) (a1 : Int32) (a2 : Int32) (a3 : Int32) (a4 : Int32) (S : St) : Option (Int32 × St) :=
  (f_X3_lacks q0 a1 S).bind fun v1 => (if v1 = 0 then (f_X7_noYear a2).bind fun v3 => (if v3 = 0 then (f_X7_noYear a3).bind fun v5 => (if v5 = 0 then (if a2 ≤ a3 then f_X3_makeGlad_L32 2000 q0 a1 a3 a4 a2 S (fun (S11 : St) => some (1, S11)) else some (0, S)) else some (0, S)) else some (0, S)) else some (0, S))
def f_X3_moveTo (q0 : Nat) (a1 : Int32) (S : St) : Option (Int32 × St) :=
  (f_X7_noYear a1).bind fun v1 => (if v1 = 0 then some (1, (up S q0 1 a1)) else some (0, S))
def f_X3_areHalves (q0 : Nat) (a1 : Int32) (a2 : Int32) (S : St) : Option Int32 :=
  (f_X3_lacksTwo q0 a1 a2 S).bind fun v1 => (if v1 = 0 then (if a1 < 0 ∨ 8 ≤ a1.toNatClampNeg then none else (if (((S.1 (q0 + 2) a1.toNatClampNeg) >>> (a2 &&& 31)) &&& 1) = 1 then some 1 else some 0)) else some 0)
def f_X3_turnHalves (q0 : Nat) (a1 : Int32) (a2 : Int32) (S : St) : Option (Int32 × St) :=
  (f_X3_lacksTwo q0 a1 a2 S).bind fun v1 => (if v1 = 0 then (if a1 < 0 ∨ 8 ≤ a1.toNatClampNeg then none else (if a1 < 0 ∨ 8 ≤ a1.toNatClampNeg then none else (if a2 < 0 ∨ 8 ≤ a2.toNatClampNeg then none else (if a2 < 0 ∨ 8 ≤ a2.toNatClampNeg then none else some (1, (up (up S (q0 + 2) a1.toNatClampNeg ((S.1 (q0 + 2) a1.toNatClampNeg) ^^^ (1 <<< (a2 &&& 31)))) (q0 + 2) a2.toNatClampNeg (((up S (q0 + 2) a1.toNatClampNeg ((S.1 (q0 + 2) a1.toNatClampNeg) ^^^ (1 <<< (a2 &&& 31)))).1 (q0 + 2) a2.toNatClampNeg) ^^^ (1 <<< (a1 &&& 31))))))))) else some (0, S))
def f_X3_glue (q0 : Nat) (a1 : Int32) (a2 : Int32) (a3 : Int32) (S : St) : Option (Int32 × St) :=
  (f_X3_lacks q0 a1 S).bind fun v1 => (if v1 = 0 then (f_X3_at q0 a1 S).bind fun v3 => (f_X6_isSet v3 S).bind fun v4 => (if v4 = 0 then (f_X3_at q0 a1 S).bind fun v6 => (f_X6_cost v6 S).bind fun v7 => (if v7 ≤ (S.1 q0 2) then (f_X3_at q0 a1 S).bind fun v9 => (f_X6_cost v9 S).bind fun v10 => (f_X3_at q0 a1 (up S q0 2 ((S.1 q0 2) - v10))).bind fun v11 => (f_X3_at q0 a1 (up S q0 2 ((S.1 q0 2) - v10))).bind fun v12 => (f_X6_yearBy v12 a2 a3 ((up S q0 2 ((S.1 q0 2) - v10)).1 q0 1) (up S q0 2 ((S.1 q0 2) - v10))).bind fun v13 => some (1, (up (up S q0 2 ((S.1 q0 2) - v10)) v11 2 v13)) else some (0, S)) else some (0, S)) else some (0, S))
def f_X3_countHalves_L16 (n : Nat) (q0 : Nat) (x1 : Int32) (x2 : Int32) (x3 : Int32) (S : St) (k47 : Int32 → Option Int32) : Option Int32 :=
  match n with
  | 0 => none
  | n + 1 => (if (S.1 q0 0) ≤ x3 then k47 x1 else (f_X3_areHalves q0 x2 x3 S).bind fun v3 => (if v3 = 0 then f_X3_countHalves_L16 n q0 (x1 + 0) x2 (x3 + 1) S k47 else f_X3_countHalves_L16 n q0 (x1 + 1) x2 (x3 + 1) S k47))
def f_X3_countHalves_L4 (n : Nat) (q0 : Nat) (x1 : Int32) (x2 : Int32) (S : St) (k53 : Int32 → Option Int32) : Option Int32 :=
  match n with
  | 0 => none
  | n + 1 => (if (S.1 q0 0) ≤ x2 then k53 x1 else f_X3_countHalves_L16 2000 q0 x1 x2 (x2 + 1) S (fun (y5 : Int32) => f_X3_countHalves_L4 n q0 y5 (x2 + 1) S k53))
def f_X3_countHalves (q0 : Nat) (S : St) : Option Int32 :=
  f_X3_countHalves_L4 2000 q0 0 0 S (fun (y6 : Int32) => some y6)
def f_X3_setInOneYear (q0 : Nat) (a1 : Int32) (a2 : Int32) (S : St) : Option Int32 :=
  (f_X3_at q0 a1 S).bind fun v1 => (f_X6_isSet v1 S).bind fun v2 => (if v2 = 0 then some 0 else (f_X3_at q0 a1 S).bind fun v4 => (f_X3_at q0 a2 S).bind fun v5 => (if (S.1 v4 2) = (S.1 v5 2) then some 1 else some 0))
def f_X3_countAgreeing_L16 (n : Nat) (q0 : Nat) (x1 : Int32) (x2 : Int32) (x3 : Int32) (S : St) (k56 : Int32 → Option Int32) : Option Int32 :=
  match n with
  | 0 => none
  | n + 1 => (if (S.1 q0 0) ≤ x3 then k56 x1 else (f_X3_areHalves q0 x2 x3 S).bind fun v3 => (if v3 = 0 then f_X3_countAgreeing_L16 n q0 (x1 + 0) x2 (x3 + 1) S k56 else (f_X3_setInOneYear q0 x2 x3 S).bind fun v5 => (if v5 = 0 then f_X3_countAgreeing_L16 n q0 (x1 + 0) x2 (x3 + 1) S k56 else f_X3_countAgreeing_L16 n q0 (x1 + 1) x2 (x3 + 1) S k56)))
def f_X3_countAgreeing_L4 (n : Nat) (q0 : Nat) (x1 : Int32) (x2 : Int32) (S : St) (k62 : Int32 → Option Int32) : Option Int32 :=
  match n with
  | 0 => none
  | n + 1 => (if (S.1 q0 0) ≤ x2 then k62 x1 else f_X3_countAgreeing_L16 2000 q0 x1 x2 (x2 + 1) S (fun (y7 : Int32) => f_X3_countAgreeing_L4 n q0 y7 (x2 + 1) S k62))
def f_X3_countAgreeing (q0 : Nat) (S : St) : Option Int32 :=
  f_X3_countAgreeing_L4 2000 q0 0 0 S (fun (y8 : Int32) => some y8)
def f_X3_firstApart_L14 (n : Nat) (q0 : Nat) (x1 : Int32) (x2 : Int32) (S : St) (k40 : Int32 → Option Int32) (k53 : Unit → Option Int32) : Option Int32 :=
  match n with
  | 0 => none
  | n + 1 => (if (S.1 q0 0) ≤ x2 then k53 () else (f_X3_areHalves q0 x1 x2 S).bind fun v3 => (if v3 = 0 then f_X3_firstApart_L14 n q0 x1 (x2 + 1) S k40 k53 else (f_X3_setInOneYear q0 x1 x2 S).bind fun v5 => (if v5 = 0 then k40 x2 else f_X3_firstApart_L14 n q0 x1 (x2 + 1) S k40 k53)))
def f_X3_firstApart_L2 (n : Nat) (q0 : Nat) (x1 : Int32) (S : St) (k40 : Int32 → Int32 → Option Int32) (k59 : Unit → Option Int32) : Option Int32 :=
  match n with
  | 0 => none
  | n + 1 => (if (S.1 q0 0) ≤ x1 then k59 () else f_X3_firstApart_L14 2000 q0 x1 (x1 + 1) S (fun (y7 : Int32) => k40 x1 y7) (fun _ : Unit => f_X3_firstApart_L2 n q0 (x1 + 1) S k40 k59))
def f_X3_firstApart (q0 : Nat) (S : St) : Option Int32 :=
  f_X3_firstApart_L2 2000 q0 0 S (fun (y8 : Int32) (y9 : Int32) => some ((10 * y8) + y9)) (fun _ : Unit => some (-9))
def f_X4_weigh_L2 (n : Nat) (x1 : Int32) (x2 : Int32) (x3 : Int32) (S : St) (k21 : St → Option St) : Option St :=
  match n with
  | 0 => none
  | n + 1 => (if 8 < x3 then k21 S else (if x3 < 0 ∨ 9 ≤ x3.toNatClampNeg then none else f_X4_weigh_L2 n x1 x2 (x3 + 1) (upL S x3.toNatClampNeg 0) k21))
def f_X4_weigh_L39 (n : Nat) (x1 : Int32) (x2 : Int32) (x3 : Int32) (x4 : Int32) (S : St) (k74 : St → Option St) : Option St :=
  match n with
  | 0 => none
  | n + 1 => (if x4 ≤ 0 then k74 S else (if x4 < 0 ∨ 9 ≤ x4.toNatClampNeg then none else (if (x4 - 1) < 0 ∨ 9 ≤ (x4 - 1).toNatClampNeg then none else (if x4 < 0 ∨ 9 ≤ x4.toNatClampNeg then none else f_X4_weigh_L39 n x1 x2 x3 (x4 + (-1)) (upL S x4.toNatClampNeg ((S.2 x4.toNatClampNeg) + ((S.2 (x4 - 1).toNatClampNeg) * ((x2 - 1).toInt64)))) k74))))
def f_X4_weigh_L30 (n : Nat) (x1 : Int32) (x2 : Int32) (x3 : Int32) (S : St) (k80 : St → Option St) : Option St :=
  match n with
  | 0 => none
  | n + 1 => (if x1 ≤ x3 then k80 S else f_X4_weigh_L39 2000 x1 x2 x3 8 S (fun (S9 : St) => f_X4_weigh_L30 n x1 x2 (x3 + 1) S9 k80))
def f_X4_weigh (a1 : Int32) (a2 : Int32) (S : St) : Option St :=
  f_X4_weigh_L2 2000 a1 a2 1 S (fun (S3 : St) => f_X4_weigh_L30 2000 a1 a2 0 (upL S3 0 1) (fun (S10 : St) => some S10))
def f_X4_allWays_L4 (n : Nat) (x1 : Int64) (x3 : Int32) (S : St) (k25 : Int64 → Option Int64) : Option Int64 :=
  match n with
  | 0 => none
  | n + 1 => (if 8 < x3 then k25 x1 else (if x3 < 0 ∨ 9 ≤ x3.toNatClampNeg then none else f_X4_allWays_L4 n (x1 + (S.2 x3.toNatClampNeg)) (x3 + 1) S k25))
def f_X4_allWays  (S : St) : Option Int64 :=
  f_X4_allWays_L4 2000 0 0 S (fun (y3 : Int64) => some y3)
def f_X4_waysInto_L6 (n : Nat) (q1 : Nat) (x2 : Int32) (x3 : Int32) (x4 : Int64) (x6 : Int32) (S : St) (k49 : Int64 → Option Int64) : Option Int64 :=
  match n with
  | 0 => none
  | n + 1 => (if 8 < x6 then k49 x4 else (f_X6_yearBy q1 (x6 * 5) 0 x3 S).bind fun v2 => (if v2 = x2 then (if x6 < 0 ∨ 9 ≤ x6.toNatClampNeg then none else f_X4_waysInto_L6 n q1 x2 x3 (x4 + (S.2 x6.toNatClampNeg)) (x6 + 1) S k49) else f_X4_waysInto_L6 n q1 x2 x3 (x4 + 0) (x6 + 1) S k49))
def f_X4_waysInto (q1 : Nat) (a2 : Int32) (a3 : Int32) (S : St) : Option Int64 :=
  f_X4_waysInto_L6 2000 q1 a2 a3 0 0 S (fun (y5 : Int64) => some y5)
def f_X4_gladOfAll_L5 (n : Nat) (q1 : Nat) (x2 : Int32) (x3 : Int64) (x5 : Int32) (S : St) (k44 : Int64 → Option Int64) : Option Int64 :=
  match n with
  | 0 => none
  | n + 1 => (if 8 < x5 then k44 x3 else (if x5 < 0 ∨ 9 ≤ x5.toNatClampNeg then none else (f_X6_yearBy q1 (x5 * 5) 0 x2 S).bind fun v3 => (f_X6_gladIn q1 v3 S).bind fun v4 => f_X4_gladOfAll_L5 n q1 x2 (x3 + ((S.2 x5.toNatClampNeg) * v4.toInt64)) (x5 + 1) S k44))
def f_X4_gladOfAll (q1 : Nat) (a2 : Int32) (S : St) : Option Int64 :=
  f_X4_gladOfAll_L5 2000 q1 a2 0 0 S (fun (y5 : Int64) => some y5)
def f_X5_isFull  (S : St) : Option Int32 :=
  (if (S.1 60 1) < 96 then some 0 else some 1)
def f_X5_put (a1 : Int32) (S : St) : Option St :=
  (f_X5_isFull S).bind fun v1 => (if v1 = 0 then (if (S.1 60 1) < 0 ∨ 96 ≤ (S.1 60 1).toNatClampNeg then none else some (up (up S 61 (S.1 60 1).toNatClampNeg a1) 60 1 (((up S 61 (S.1 60 1).toNatClampNeg a1).1 60 1) + 1))) else some S)
def f_X5_letterAt (a1 : Int32) (S : St) : Option Int32 :=
  (if a1 < 0 then some (-1) else (if (S.1 60 1) ≤ a1 then some (-1) else (if a1 < 96 then (if a1 < 0 ∨ 96 ≤ a1.toNatClampNeg then none else some (S.1 61 a1.toNatClampNeg)) else some (-1))))
def f_X5_isDigit (a1 : Int32) (S : St) : Option Int32 :=
  (f_X5_letterAt a1 S).bind fun v1 => (if v1 < 48 then some 0 else (f_X5_letterAt a1 S).bind fun v3 => (if 57 < v3 then some 0 else some 1))
/-- the place of a letter among "tcdpfw"; -1: none -/
def zix (c : Int32) : Int32 := if c = 116 then 0 else if c = 99 then 1 else if c = 100 then 2 else if c = 112 then 3 else if c = 102 then 4 else if c = 119 then 5 else -1
def f_X5_kindAt (a1 : Int32) (S : St) : Option Int32 := (f_X5_letterAt a1 S).bind fun v1 => some (zix (v1.toUInt32 % 65536).toInt32)

def f_X5_number_L5 (n : Nat) (x1 : Int32) (x2 : Int32) (x3 : Int32) (x4 : Int32) (S : St) (k34 : Int32 → Option Int32) : Option Int32 :=
  match n with
  | 0 => none
  | n + 1 => (if x2 ≤ x4 then k34 x3 else (f_X5_letterAt (x1 + x4) S).bind fun v2 => f_X5_number_L5 n x1 x2 (((10 * x3) + v2) - 48) (x4 + 1) S k34)
def f_X5_number (a1 : Int32) (a2 : Int32) (S : St) : Option Int32 :=
  f_X5_number_L5 2000 a1 a2 0 0 S (fun (y3 : Int32) => some y3)
def f_X5_partsOf (a1 : Int32) (S : St) : Option Int32 :=
  (f_X5_letterAt a1 S).bind fun v1 => (if v1 = 100 then some 2 else (if v1 = 103 then some 5 else (if v1 = 104 then some 2 else (if v1 = 115 then some 4 else (if v1 = 116 then some 2 else (if v1 = 118 then some 7 else (if v1 = 121 then some 2 else some 0)))))))
def f_X5_behindStatement (a1 : Int32) (S : St) : Option Int32 :=
  (f_X5_partsOf a1 S).bind fun v1 => some ((a1 + v1) + 2)
def f_X5_misfitOfStatement_L39 (n : Nat) (x1 : Int32) (x2 : Int32) (x3 : Int32) (S : St) (k54 : Int32 → Option Int32) (k62 : Int32 → Option Int32) : Option Int32 :=
  match n with
  | 0 => none
  | n + 1 => (if (x1 + x2) < x3 then k62 x3 else (f_X5_isDigit x3 S).bind fun v6 => (if v6 = 0 then k54 x3 else f_X5_misfitOfStatement_L39 n x1 x2 (x3 + 1) S k54 k62))
def f_X5_misfitOfStatement (a1 : Int32) (S : St) : Option Int32 :=
  (f_X5_partsOf a1 S).bind fun v1 => (if v1 = 0 then some a1 else (f_X5_letterAt a1 S).bind fun v3 => (if v3 = 116 then (f_X5_kindAt (a1 + 1) S).bind fun v12 => (if 0 ≤ v12 then f_X5_misfitOfStatement_L39 2000 a1 v1 ((a1 + 1) + 1) S (fun (y14 : Int32) => some y14) (fun (y15 : Int32) => (f_X5_letterAt y15 S).bind fun v16 => (if v16 = 59 then some (-9) else some y15)) else some (a1 + 1)) else f_X5_misfitOfStatement_L39 2000 a1 v1 (a1 + 1) S (fun (y8 : Int32) => some y8) (fun (y9 : Int32) => (f_X5_letterAt y9 S).bind fun v10 => (if v10 = 59 then some (-9) else some y9))))
def f_X5_firstMisfit_L13 (n : Nat) (x1 : Int32) (x2 : Int32) (S : St) (k39 : Int32 → Option Int32) (k53 : Unit → Option Int32) : Option Int32 :=
  match n with
  | 0 => none
  | n + 1 => (if 96 ≤ x2 then k53 () else (if (S.1 60 1) ≤ x1 then k53 () else (f_X5_misfitOfStatement x1 S).bind fun v4 => (if v4 = (-9) then (f_X5_behindStatement x1 S).bind fun v6 => f_X5_firstMisfit_L13 n v6 (x2 + 1) S k39 k53 else k39 v4)))
def f_X5_firstMisfit  (S : St) : Option Int32 :=
  (if (S.1 60 1) = 0 then some 0 else f_X5_firstMisfit_L13 2000 0 0 S (fun (y7 : Int32) => some y7) (fun _ : Unit => some (-9)))
def f_X6_moreIfWashed (q0 : Nat) (a1 : Int32) (S : St) : Option Int32 :=
  (f_X6_gladIn q0 a1 S).bind fun v1 => (f_X6_howGlad q0 a1 S).bind fun v2 => some (v1 - v2)
def f_X7_refuse (a1 : Int32) (S : St) : Option (Int32 × St) :=
  (if 0 ≤ a1 then some (a1, S) else (if a1 < (-6) then some (a1, S) else (if (-a1) < 0 ∨ 7 ≤ (-a1).toNatClampNeg then none else (if (-a1) < 0 ∨ 7 ≤ (-a1).toNatClampNeg then none else some (a1, (up S 73 (-a1).toNatClampNeg ((S.1 73 (-a1).toNatClampNeg) + 1)))))))
def f_X7_letter (a1 : Int32) (S : St) : Option (Int32 × St) :=
  (if 0 ≤ a1 then (if 255 < a1 then (f_X7_refuse (-6) S).bind fun z3 => some (z3.1, z3.2) else (f_X5_isFull S).bind fun v4 => (if v4 = 0 then (f_X5_put a1 S).bind fun S6 => some (S6.1 60 1, S6) else (f_X7_refuse (-6) S).bind fun z7 => some (z7.1, z7.2))) else (f_X7_refuse (-4) S).bind fun z8 => some (z8.1, z8.2))
def f_X7_tellStatement (a1 : Int32) (S : St) : Option (Int32 × St) :=
  (f_X5_number (a1 + 1) 1 S).bind fun v1 => (f_X5_letterAt a1 S).bind fun v2 => (if v2 = 100 then (f_X5_number (a1 + 1) 2 S).bind fun v4 => some (1, (up S 39 2 v4)) else (if v2 = 103 then (f_X5_number (a1 + 2) 2 S).bind fun v6 => (f_X5_number (a1 + 2) 2 S).bind fun v7 => (f_X5_number (a1 + 4) 2 S).bind fun v8 => (f_X3_makeGlad 39 v1 v6 v7 v8 S).bind fun z9 => some (z9.1, z9.2) else (if v2 = 104 then (f_X5_number (a1 + 2) 1 S).bind fun v11 => (f_X3_turnHalves 39 v1 v11 S).bind fun z12 => some (z12.1, z12.2) else (if v2 = 115 then (f_X5_number (a1 + 2) 2 S).bind fun v14 => (f_X5_number (a1 + 4) 1 S).bind fun v15 => (f_X3_glue 39 v1 v14 v15 S).bind fun z16 => some (z16.1, z16.2) else (if v2 = 116 then (f_X5_kindAt (a1 + 1) S).bind fun v18 => (f_X5_number (a1 + 2) 1 S).bind fun v19 => (f_X3_add 39 v18 v19 S).bind fun z20 => some (z20.1, z20.2) else (if v2 = 118 then (f_X5_number (a1 + 2) 2 S).bind fun v22 => (f_X5_number (a1 + 4) 2 S).bind fun v23 => (f_X5_number (a1 + 6) 2 S).bind fun v24 => (f_X3_makeGlad 39 v1 v22 v23 v24 S).bind fun z25 => some (z25.1, z25.2) else (if v2 = 121 then (f_X5_number (a1 + 1) 2 S).bind fun v27 => (f_X3_moveTo 39 v27 S).bind fun z28 => some (z28.1, z28.2) else some (0, S))))))))
def f_X7_tellTrial_L15 (n : Nat) (x1 : Int32) (x2 : Int32) (S : St) (k40 : Int32 → St → Option (Int32 × St)) (k61 : Int32 → St → Option (Int32 × St)) : Option (Int32 × St) :=
  match n with
  | 0 => none
  | n + 1 => (if 96 ≤ x1 then k61 x1 S else (if (S.1 60 1) ≤ x2 then k61 x1 S else (f_X7_tellStatement x2 S).bind fun z4 => (if z4.1 = 0 then k40 x2 z4.2 else (f_X5_behindStatement x2 z4.2).bind fun v6 => f_X7_tellTrial_L15 n (x1 + 1) v6 z4.2 k40 k61)))
def f_X7_tellTrial  (S : St) : Option (Int32 × St) :=
  (f_X3_copyFrom 39 1 S).bind fun S1 => f_X7_tellTrial_L15 2000 0 0 S1 (fun (y7 : Int32) (S8 : St) => some ((-2000) - y7, S8)) (fun (y9 : Int32) (S10 : St) => some (y9, S10))
def f_X7_shop  (S : St) : Option (Int32 × St) :=
  (f_X5_firstMisfit S).bind fun v1 => (if v1 = (-9) then (f_X7_tellTrial S).bind fun z5 => (if z5.1 ≤ 0 then some (z5.1, (up z5.2 60 1 0)) else (f_X3_copyFrom 1 39 z5.2).bind fun S7 => some (z5.1, (up S7 60 1 0))) else (if ((-1000) - v1) ≤ 0 then some ((-1000) - v1, (up S 60 1 0)) else (f_X3_copyFrom 1 39 S).bind fun S4 => some ((-1000) - v1, (up S4 60 1 0))))
def f_X7_thing (a1 : Int32) (a2 : Int32) (S : St) : Option (Int32 × St) :=
  (f_X3_lacks 1 a1 S).bind fun v1 => (if v1 = 0 then (f_X3_at 1 a1 S).bind fun v3 => (if a2 = 0 then some (S.1 v3 0, S) else (if a2 = 1 then some (S.1 v3 1, S) else (if a2 = 2 then some (S.1 v3 2, S) else (if a2 = 3 then (f_X6_howGlad v3 (S.1 1 1) S).bind fun v8 => some (v8, S) else (if a2 = 4 then (f_X6_cost v3 S).bind fun v10 => some (v10, S) else (f_X7_refuse (-2) S).bind fun z11 => some (z11.1, z11.2)))))) else (f_X7_refuse (-1) S).bind fun z12 => some (z12.1, z12.2))
def f_X7_glad (a1 : Int32) (a2 : Int32) (S : St) : Option (Int32 × St) :=
  (f_X3_lacks 1 a1 S).bind fun v1 => (if v1 = 0 then (f_X7_noYear a2).bind fun v4 => (if v4 = 0 then (f_X3_at 1 a1 S).bind fun v6 => (f_X6_gladIn v6 a2 S).bind fun v7 => some (v7, S) else (f_X7_refuse (-1) S).bind fun z8 => some (z8.1, z8.2)) else (f_X7_refuse (-1) S).bind fun z3 => some (z3.1, z3.2))
def f_X7_halves (a1 : Int32) (a2 : Int32) (S : St) : Option (Int32 × St) :=
  (f_X3_lacksTwo 1 a1 a2 S).bind fun v1 => (if v1 = 0 then (f_X3_areHalves 1 a1 a2 S).bind fun v3 => (if v3 = 0 then some (0, S) else some (1, S)) else (f_X7_refuse (-1) S).bind fun z5 => some (z5.1, z5.2))
def f_X7_outside (a0 : Int32) (a1 : Int32) (a2 : Int32)  : Option Int32 :=
  (if a1 ≤ a0 then (if a0 ≤ a2 then some 0 else some (-6)) else some (-4))
def f_X7_turn (a1 : Int32) (a2 : Int32) (a3 : Int32) (S : St) : Option (Int32 × St) :=
  (f_X3_lacks 1 a1 S).bind fun v1 => (if v1 = 0 then (if a2 < 0 then (f_X7_refuse (-2) S).bind fun z4 => some (z4.1, z4.2) else (if a2 ≤ 5 then (f_X7_outside a3 0 9).bind fun v6 => (if v6 = 0 then (f_X3_at 1 a1 S).bind fun v8 => some ((10 * (S.1 v8 0)) + (S.1 v8 1), (up (up S v8 0 a2) v8 1 a3)) else (f_X7_refuse v6 S).bind fun z9 => some (z9.1, z9.2)) else (f_X7_refuse (-2) S).bind fun z10 => some (z10.1, z10.2))) else (f_X7_refuse (-1) S).bind fun z11 => some (z11.1, z11.2))
def f_X7_makes (a1 : Int32) (a2 : Int32) (a3 : Int32) (S : St) : Option (Int32 × St) :=
  (f_X3_lacks 1 a1 S).bind fun v1 => (if v1 = 0 then (f_X7_noYear a2).bind fun v4 => (if v4 = 0 then (f_X7_outside a3 0 99).bind fun v6 => (if v6 = 0 then (f_X3_at 1 a1 S).bind fun v8 => (f_X6_gladIn v8 a2 S).bind fun v9 => (f_X6_makeGlad v8 a2 a3 S).bind fun S10 => some (v9, S10) else (f_X7_refuse v6 S).bind fun z11 => some (z11.1, z11.2)) else (f_X7_refuse (-1) S).bind fun z12 => some (z12.1, z12.2)) else (f_X7_refuse (-1) S).bind fun z3 => some (z3.1, z3.2))
def f_X7_pairs (a1 : Int32) (a2 : Int32) (S : St) : Option (Int32 × St) :=
  (f_X3_lacksTwo 1 a1 a2 S).bind fun v1 => (if v1 = 0 then (f_X3_turnHalves 1 a1 a2 S).bind fun z3 => (f_X3_areHalves 1 a1 a2 z3.2).bind fun v4 => (if v4 = 0 then some (0, z3.2) else some (1, z3.2)) else (f_X7_refuse (-1) S).bind fun z6 => some (z6.1, z6.2))
def f_X7_now (a1 : Int32) (S : St) : Option (Int32 × St) :=
  (f_X7_noYear a1).bind fun v1 => (if v1 = 0 then some (S.1 1 1, (up S 1 1 a1)) else (f_X7_refuse (-1) S).bind fun z3 => some (z3.1, z3.2))
def f_X7_hands (a1 : Int32) (S : St) : Option (Int32 × St) :=
  (f_X7_outside a1 1 4).bind fun v1 => (if v1 = 0 then some (S.1 1 3, (up S 1 3 a1)) else (f_X7_refuse v1 S).bind fun z3 => some (z3.1, z3.2))
def f_X7_pours (a1 : Int32) (S : St) : Option (Int32 × St) :=
  (f_X7_outside a1 0 99).bind fun v1 => (if v1 = 0 then some (S.1 1 2, (up S 1 2 a1)) else (f_X7_refuse v1 S).bind fun z3 => some (z3.1, z3.2))
def f_X7_heldRefusal (a1 : Int32) (a2 : Int32) (a3 : Int32) (S : St) : Option Int32 :=
  (f_X3_lacks 1 a1 S).bind fun v1 => (if v1 = 0 then (if a2 < 0 then some (-4) else (if 0 ≤ a3 then (if 99 < a2 then some (-6) else (if a3 ≤ 9 then some 0 else some (-6))) else some (-4))) else some (-1))
def f_X7_glues (a1 : Int32) (a2 : Int32) (a3 : Int32) (S : St) : Option (Int32 × St) :=
  (f_X7_heldRefusal a1 a2 a3 S).bind fun v1 => (if v1 = 0 then (f_X3_glue 1 a1 a2 a3 S).bind fun z3 => (if z3.1 = 0 then (f_X7_refuse (-3) z3.2).bind fun z6 => some (z6.1, z6.2) else (f_X3_at 1 a1 z3.2).bind fun v5 => some (z3.2.1 v5 2, z3.2)) else (f_X7_refuse v1 S).bind fun z7 => some (z7.1, z7.2))
def f_X7_washes (a1 : Int32) (S : St) : Option (Int32 × St) :=
  (f_X3_lacks 1 a1 S).bind fun v1 => (if v1 = 0 then (f_X3_at 1 a1 S).bind fun v3 => (f_X6_isSet v3 S).bind fun v4 => (if v4 = 0 then (f_X7_refuse (-3) S).bind fun z6 => some (z6.1, z6.2) else some (S.1 v3 2, (up S v3 2 (-9)))) else (f_X7_refuse (-1) S).bind fun z7 => some (z7.1, z7.2))
def f_X7_would (a1 : Int32) (a2 : Int32) (a3 : Int32) (a4 : Int32) (S : St) : Option (Int32 × St) :=
  (f_X7_heldRefusal a1 a2 a3 S).bind fun v1 => (if v1 = 0 then (if a4 < 0 then (f_X7_refuse (-2) S).bind fun z4 => some (z4.1, z4.2) else (if a4 ≤ 2 then (f_X3_at 1 a1 S).bind fun v6 => (if a4 = 1 then (f_X6_reach v6 a2 a3 S).bind fun v11 => some (v11, S) else (f_X6_yearBy v6 a2 a3 (S.1 1 1) S).bind fun v8 => (if a4 = 0 then some (v8, S) else (f_X6_gladIn v6 v8 S).bind fun v10 => some (v10, S))) else (f_X7_refuse (-2) S).bind fun z12 => some (z12.1, z12.2))) else (f_X7_refuse v1 S).bind fun z13 => some (z13.1, z13.2))
def f_X7_can_L21 (n : Nat) (x1 : Int32) (x2 : Int32) (x3 : Int32) (S : St) (k60 : Int32 → Option (Int32 × St)) : Option (Int32 × St) :=
  match n with
  | 0 => none
  | n + 1 => (if 19 < x3 then k60 x2 else (f_X3_at 1 x1 S).bind fun v4 => (f_X6_yearBy v4 (x3 * 5) 0 (S.1 1 1) S).bind fun v5 => f_X7_can_L21 n x1 (x2 ||| (1 <<< (v5 &&& 31))) (x3 + 1) S k60)
def f_X7_can (a1 : Int32) (S : St) : Option (Int32 × St) :=
  (f_X3_lacks 1 a1 S).bind fun v1 => (if v1 = 0 then f_X7_can_L21 2000 a1 0 0 S (fun (y6 : Int32) => some (y6, S)) else (f_X7_refuse (-1) S).bind fun z7 => some (z7.1, z7.2))
def f_X7_fewest (a1 : Int32) (a2 : Int32) (S : St) : Option (Int32 × St) :=
  (f_X3_lacks 1 a1 S).bind fun v1 => (if v1 = 0 then (f_X7_noYear a2).bind fun v4 => (if v4 = 0 then (f_X3_at 1 a1 S).bind fun v6 => (f_X6_fewestFor v6 a2 (S.1 1 1) S).bind fun v7 => some (v7, S) else (f_X7_refuse (-1) S).bind fun z8 => some (z8.1, z8.2)) else (f_X7_refuse (-1) S).bind fun z3 => some (z3.1, z3.2))
def f_X7_gladness  (S : St) : Option Int32 :=
  (f_X3_gladTogether 1 (S.1 1 1) S).bind fun v1 => some v1
def f_X7_notOneOfTwo (a0 : Int32)  : Option Int32 :=
  (if a0 < 0 then some 1 else (if a0 ≤ 1 then some 0 else some 1))
def f_X7_agree (a1 : Int32) (S : St) : Option (Int32 × St) :=
  (f_X7_notOneOfTwo a1).bind fun v1 => (if v1 = 0 then (if a1 = 0 then (f_X3_countAgreeing 1 S).bind fun v5 => some (v5, S) else (f_X3_firstApart 1 S).bind fun v4 => some (v4, S)) else (f_X7_refuse (-2) S).bind fun z6 => some (z6.1, z6.2))
def f_X7_most (a1 : Int32) (S : St) : Option (Int32 × St) :=
  (f_X7_notOneOfTwo a1).bind fun v1 => (if v1 = 0 then (f_X1_weigh 1 (S.1 1 1) S).bind fun S3 => (f_X1_bestBits (S3.1 1 2) S3).bind fun v4 => (if a1 = 0 then (f_X1_gainOf v4 S3).bind fun v6 => some ((S3.1 64 4) + v6, S3) else some (v4, S3)) else (f_X7_refuse (-2) S).bind fun z7 => some (z7.1, z7.2))
def f_X7_spendSteps_L29 (n : Nat) (q1 : Nat) (x2 : Int32) (x3 : Int32) (x4 : Int32) (S : St) (k87 : Int32 → Option St) : Option St :=
  match n with
  | 0 => none
  | n + 1 => (if x2 < x4 then k87 x3 else (f_X6_isSet q1 S).bind fun v5 => (if v5 = 0 then (f_X6_yearBy q1 (x4 * 5) 0 (S.1 1 1) S).bind fun v7 => (if (x2 - x4) < 0 ∨ 20 ≤ (x2 - x4).toNatClampNeg then none else (f_X6_gladIn q1 v7 S).bind fun v9 => f_X7_spendSteps_L29 n q1 x2 (if x3 < ((S.1 72 (x2 - x4).toNatClampNeg) + v9) then (S.1 72 (x2 - x4).toNatClampNeg) + v9 else x3) (x4 + 1) S k87) else k87 x3))
def f_X7_spendSteps_L3 (n : Nat) (q1 : Nat) (x2 : Int32) (S : St) (k100 : St → Option St) : Option St :=
  match n with
  | 0 => none
  | n + 1 => (if x2 < 0 then k100 S else (if x2 < 0 ∨ 20 ≤ x2.toNatClampNeg then none else (f_X6_howGlad q1 (S.1 1 1) S).bind fun v3 => f_X7_spendSteps_L29 2000 q1 x2 ((S.1 72 x2.toNatClampNeg) + v3) 0 S (fun (y10 : Int32) => (if x2 < 0 ∨ 20 ≤ x2.toNatClampNeg then none else f_X7_spendSteps_L3 n q1 (x2 + (-1)) (up S 72 x2.toNatClampNeg y10) k100))))
def f_X7_spendSteps (q1 : Nat) (S : St) : Option St :=
  f_X7_spendSteps_L3 2000 q1 19 S (fun (S12 : St) => some S12)
def f_X7_byMinutes_L20 (n : Nat) (x1 : Int32) (x3 : Int32) (S : St) (k39 : St → Option (Int32 × St)) : Option (Int32 × St) :=
  match n with
  | 0 => none
  | n + 1 => (if 19 < x3 then k39 S else (if x3 < 0 ∨ 20 ≤ x3.toNatClampNeg then none else f_X7_byMinutes_L20 n x1 (x3 + 1) (up S 72 x3.toNatClampNeg 0) k39))
def f_X7_byMinutes_L41 (n : Nat) (x1 : Int32) (x3 : Int32) (S : St) (k70 : St → Option (Int32 × St)) : Option (Int32 × St) :=
  match n with
  | 0 => none
  | n + 1 => (if (S.1 1 0) ≤ x3 then k70 S else (f_X3_at 1 x3 S).bind fun v7 => (f_X7_spendSteps v7 S).bind fun S8 => f_X7_byMinutes_L41 n x1 (x3 + 1) S8 k70)
def f_X7_byMinutes (a1 : Int32) (S : St) : Option (Int32 × St) :=
  (f_X7_outside a1 0 99).bind fun v1 => (if v1 = 0 then f_X7_byMinutes_L20 2000 a1 0 S (fun (S5 : St) => f_X7_byMinutes_L41 2000 a1 0 S5 (fun (S9 : St) => (if (a1 / 5) < 0 ∨ 20 ≤ (a1 / 5).toNatClampNeg then none else some (S9.1 72 (a1 / 5).toNatClampNeg, S9)))) else (f_X7_refuse v1 S).bind fun z11 => some (z11.1, z11.2))
def f_X7_fewDrops  (S : St) : Option (Int32 × St) :=
  (f_X1_weigh 1 (S.1 1 1) S).bind fun S1 => (f_X1_bestBits 99 S1).bind fun v2 => (f_X1_gainOf v2 S1).bind fun v3 => (f_X1_fewestFor v3 S1).bind fun v4 => some (v4, S1)
def f_X7_minutesOfBoth (q1 : Nat) (q2 : Nat) (a3 : Int32) (S : St) : Option Int32 :=
  (f_X6_fewestFor q1 a3 (S.1 1 1) S).bind fun v1 => (f_X6_fewestFor q2 a3 (S.1 1 1) S).bind fun v2 => (if v1 = (-9) then some (-9) else (if v2 = (-9) then some (-9) else some (v1 + v2)))
def f_X7_together_L78 (n : Nat) (x1 : Int32) (x2 : Int32) (x3 : Int32) (x4 : Int32) (x5 : Int32) (x6 : Int32) (S : St) (k144 : Int32 → Int32 → Option (Int32 × St)) : Option (Int32 × St) :=
  match n with
  | 0 => none
  | n + 1 => (if 12 ≤ x6 then k144 x4 x5 else (f_X3_at 1 x1 S).bind fun v13 => (f_X3_at 1 x2 S).bind fun v14 => (f_X7_minutesOfBoth v13 v14 x6 S).bind fun v15 => (if v15 = (-9) then f_X7_together_L78 n x1 x2 x3 x4 x5 (x6 + 1) S k144 else (if x4 = (-9) then f_X7_together_L78 n x1 x2 x3 v15 x6 (x6 + 1) S k144 else (if x4 ≤ v15 then f_X7_together_L78 n x1 x2 x3 x4 x5 (x6 + 1) S k144 else f_X7_together_L78 n x1 x2 x3 v15 x6 (x6 + 1) S k144))))
def f_X7_together (a1 : Int32) (a2 : Int32) (a3 : Int32) (S : St) : Option (Int32 × St) :=
  (f_X3_lacksTwo 1 a1 a2 S).bind fun v1 => (if v1 = 0 then (f_X7_notOneOfTwo a3).bind fun v3 => (if v3 = 0 then (f_X3_at 1 a1 S).bind fun v5 => (f_X6_isSet v5 S).bind fun v6 => (if v6 = 0 then (f_X3_at 1 a2 S).bind fun v9 => (f_X6_isSet v9 S).bind fun v10 => (if v10 = 0 then f_X7_together_L78 2000 a1 a2 a3 (-9) (-9) 0 S (fun (y19 : Int32) (y20 : Int32) => (if a3 = 0 then some (y19, S) else some (y20, S))) else (f_X7_refuse (-3) S).bind fun z22 => some (z22.1, z22.2)) else (f_X7_refuse (-3) S).bind fun z8 => some (z8.1, z8.2)) else (f_X7_refuse (-2) S).bind fun z23 => some (z23.1, z23.2)) else (f_X7_refuse (-1) S).bind fun z24 => some (z24.1, z24.2))
def f_X7_queue (a1 : Int32) (S : St) : Option (Int32 × St) :=
  (if a1 = (-1) then (f_X0_arrange 1 S).bind fun S2 => (if a1 = (-1) then some (S2.1 67 2, S2) else (f_X0_beginOf a1 S2).bind fun v4 => some (v4, S2)) else (f_X3_lacks 1 a1 S).bind fun v5 => (if v5 = 0 then (f_X0_arrange 1 S).bind fun S7 => (if a1 = (-1) then some (S7.1 67 2, S7) else (f_X0_beginOf a1 S7).bind fun v9 => some (v9, S7)) else (f_X7_refuse (-1) S).bind fun z10 => some (z10.1, z10.2)))
def f_X7_oneMore  (S : St) : Option Int32 :=
  (f_X3_gladTogether 1 (if 11 < ((S.1 1 1) + 1) then 11 else (S.1 1 1) + 1) S).bind fun v1 => some v1
def f_X7_bestYear_L6 (n : Nat) (x1 : Int32) (x2 : Int32) (x3 : Int32) (S : St) (k72 : Int32 → St → Option (Int32 × St)) : Option (Int32 × St) :=
  match n with
  | 0 => none
  | n + 1 => (if 12 ≤ x3 then k72 x1 S else (f_X1_weigh 1 x3 S).bind fun S2 => (f_X1_bestBits (S2.1 1 2) S2).bind fun v3 => (f_X1_gainOf v3 S2).bind fun v4 => (if ((S2.1 64 4) + v4) ≤ x2 then f_X7_bestYear_L6 n x1 x2 (x3 + 1) S2 k72 else f_X7_bestYear_L6 n x3 ((S2.1 64 4) + v4) (x3 + 1) S2 k72))
def f_X7_bestYear  (S : St) : Option (Int32 × St) :=
  f_X7_bestYear_L6 2000 0 (-1) 0 S (fun (y6 : Int32) (S7 : St) => some (y6, S7))
def f_X7_water (a1 : Int32) (S : St) : Option (Int32 × St) :=
  (f_X3_lacks 1 a1 S).bind fun v1 => (if v1 = 0 then (f_X3_at 1 a1 S).bind fun v3 => (f_X6_isSet v3 S).bind fun v4 => (if v4 = 0 then (f_X7_refuse (-3) S).bind fun z7 => some (1000000000 - z7.1, z7.2) else (f_X6_moreIfWashed v3 (S.1 1 1) S).bind fun v6 => some (v6, S)) else (f_X7_refuse (-1) S).bind fun z8 => some (1000000000 - z8.1, z8.2))
def f_X7_bestWash_L7 (n : Nat) (x1 : Int32) (x2 : Int32) (x3 : Int32) (S : St) (k55 : Int32 → Option Int32) : Option Int32 :=
  match n with
  | 0 => none
  | n + 1 => (if (S.1 1 0) ≤ x3 then k55 x1 else (f_X3_at 1 x3 S).bind fun v2 => (f_X6_moreIfWashed v2 (S.1 1 1) S).bind fun v3 => (if v3 ≤ x2 then f_X7_bestWash_L7 n x1 x2 (x3 + 1) S k55 else f_X7_bestWash_L7 n x3 v3 (x3 + 1) S k55))
def f_X7_bestWash  (S : St) : Option Int32 :=
  f_X7_bestWash_L7 2000 (-9) 0 0 S (fun (y5 : Int32) => some y5)
def f_X7_sour_L4 (n : Nat) (x1 : Int32) (x2 : Int32) (S : St) (k48 : Int32 → Option Int32) : Option Int32 :=
  match n with
  | 0 => none
  | n + 1 => (if (S.1 1 0) ≤ x2 then k48 x1 else (f_X3_at 1 x2 S).bind fun v2 => (f_X6_moreIfWashed v2 (S.1 1 1) S).bind fun v3 => (if v3 ≤ 0 then f_X7_sour_L4 n x1 (x2 + 1) S k48 else f_X7_sour_L4 n (x1 ||| (1 <<< (x2 &&& 31))) (x2 + 1) S k48))
def f_X7_sour  (S : St) : Option Int32 :=
  f_X7_sour_L4 2000 0 0 S (fun (y5 : Int32) => some y5)
def f_X7_regret (a1 : Int32) (S : St) : Option (Int32 × St) :=
  (f_X3_lacks 1 a1 S).bind fun v1 => (if v1 = 0 then (f_X3_at 1 a1 S).bind fun v3 => (f_X6_gladdestYear v3 (S.1 1 1) S).bind fun v4 => (f_X6_gladIn v3 v4 S).bind fun v5 => (f_X6_howGlad v3 (S.1 1 1) S).bind fun v6 => some (if 0 < (v5 - v6) then v5 - v6 else 0, S) else (f_X7_refuse (-1) S).bind fun z7 => some (z7.1, z7.2))
def f_X7_bothContent_L21 (n : Nat) (q1 : Nat) (x2 : Int32) (x3 : Int32) (x4 : Int32) (x5 : Int32) (x6 : Int32) (S : St) (k70 : Unit → Option Int32) (k78 : Unit → Option Int32) : Option Int32 :=
  match n with
  | 0 => none
  | n + 1 => (if 4 < x6 then k78 () else (f_X6_yearBy q1 x2 (x6 + x4) (S.1 1 1) S).bind fun v3 => (if x5 < v3 then k70 () else (f_X6_yearBy q1 x2 (x3 + x6) (S.1 1 1) S).bind fun v5 => (if x5 ≤ v5 then f_X7_bothContent_L21 n q1 x2 x3 x4 x5 (x6 + 1) S k70 k78 else k70 ())))
def f_X7_bothContent (q1 : Nat) (a2 : Int32) (a3 : Int32) (a4 : Int32) (S : St) : Option Int32 :=
  (f_X6_yearBy q1 a2 (a3 + a4) (S.1 1 1) S).bind fun v1 => f_X7_bothContent_L21 2000 q1 a2 a3 a4 v1 0 S (fun _ : Unit => some 0) (fun _ : Unit => some 1)
def f_X7_two_L47 (n : Nat) (x1 : Int32) (x2 : Int32) (x4 : Int32) (x5 : Int32) (S : St) (k73 : Int32 → Option (Int32 × St)) (k88 : Unit → Option (Int32 × St)) : Option (Int32 × St) :=
  match n with
  | 0 => none
  | n + 1 => (if 4 < x5 then k88 () else (f_X3_at 1 x1 S).bind fun v7 => (f_X7_bothContent v7 x2 x4 x5 S).bind fun v8 => (if v8 = 0 then f_X7_two_L47 n x1 x2 x4 (x5 + 1) S k73 k88 else k73 x5))
def f_X7_two_L38 (n : Nat) (x1 : Int32) (x2 : Int32) (x4 : Int32) (S : St) (k73 : Int32 → Int32 → Option (Int32 × St)) (k94 : Unit → Option (Int32 × St)) : Option (Int32 × St) :=
  match n with
  | 0 => none
  | n + 1 => (if 4 < x4 then k94 () else f_X7_two_L47 2000 x1 x2 x4 0 S (fun (y10 : Int32) => k73 x4 y10) (fun _ : Unit => f_X7_two_L38 n x1 x2 (x4 + 1) S k73 k94))
def f_X7_two (a1 : Int32) (a2 : Int32) (S : St) : Option (Int32 × St) :=
  (f_X3_lacks 1 a1 S).bind fun v1 => (if v1 = 0 then (f_X7_outside a2 0 99).bind fun v3 => (if v3 = 0 then f_X7_two_L38 2000 a1 a2 0 S (fun (y11 : Int32) (y12 : Int32) => some ((10 * y11) + y12, S)) (fun _ : Unit => some ((-9), S)) else (f_X7_refuse v3 S).bind fun z13 => some (z13.1, z13.2)) else (f_X7_refuse (-1) S).bind fun z14 => some (z14.1, z14.2))
def f_X7_slipRefusal (a0 : Int32) (a1 : Int32) (a2 : Int32)  : Option Int32 :=
  (if a0 < 0 then some (-4) else (if 2 ≤ a1 then (if 8 < a0 then some (-6) else (if a1 ≤ 20 then (f_X7_notOneOfTwo a2).bind fun v5 => (if v5 = 0 then some 0 else some (-2)) else some (-6))) else some (-4)))
def f_X7_commonDivisor_L9 (n : Nat) (x4 : Int64) (x6 : Int64) (x8 : Int32) (k45 : Int64 → Option Int64) : Option Int64 :=
  match n with
  | 0 => none
  | n + 1 => (if 1000 ≤ x8 then k45 x4 else (if (lg_cmp x6 0) = 0 then k45 x4 else (if x6 = 0 then none else f_X7_commonDivisor_L9 n x6 (x4 - x4 / x6 * x6) (x8 + 1) k45)))
def f_X7_commonDivisor (a0 : Int64) (a2 : Int64)  : Option Int64 :=
  f_X7_commonDivisor_L9 2000 a0 a2 0 (fun (y4 : Int64) => some y4)
def f_X7_partOf (a0 : Int64) (a2 : Int64) (a4 : Int32)  : Option Int64 :=
  (f_X7_commonDivisor a0 a2).bind fun v1 => (if 0 ≤ (lg_cmp v1 1) then (if a4 = 0 then (if v1 = 0 then none else some (a0 / v1)) else (if v1 = 0 then none else some (a2 / v1))) else some 0)
def f_X7_slip (a1 : Int32) (a2 : Int32) (a3 : Int32) (a4 : Int32) (a5 : Int32) (S : St) : Option (Int64 × St) :=
  (f_X3_lacks 1 a1 S).bind fun v1 => (if v1 = 0 then (f_X7_noYear a4).bind fun v4 => (if v4 = 0 then (f_X7_slipRefusal a2 a3 a5).bind fun v6 => (if v6 = 0 then (f_X4_weigh a2 a3 S).bind fun S8 => (f_X3_at 1 a1 S8).bind fun v9 => (f_X4_waysInto v9 a4 (S8.1 1 1) S8).bind fun v10 => (f_X4_allWays S8).bind fun v11 => (f_X7_partOf v10 v11 a5).bind fun v12 => some (v12, S8) else (f_X7_refuse v6 S).bind fun z13 => some (4000000000000000000 - z13.1.toInt64, z13.2)) else (f_X7_refuse (-1) S).bind fun z14 => some (4000000000000000000 - z14.1.toInt64, z14.2)) else (f_X7_refuse (-1) S).bind fun z3 => some (4000000000000000000 - z3.1.toInt64, z3.2))
def f_X7_mean (a1 : Int32) (a2 : Int32) (a3 : Int32) (a4 : Int32) (S : St) : Option (Int64 × St) :=
  (f_X3_lacks 1 a1 S).bind fun v1 => (if v1 = 0 then (f_X7_slipRefusal a2 a3 a4).bind fun v3 => (if v3 = 0 then (f_X4_weigh a2 a3 S).bind fun S5 => (f_X3_at 1 a1 S5).bind fun v6 => (f_X4_gladOfAll v6 (S5.1 1 1) S5).bind fun v7 => (f_X4_allWays S5).bind fun v8 => (f_X7_partOf v7 v8 a4).bind fun v9 => some (v9, S5) else (f_X7_refuse v3 S).bind fun z10 => some (4000000000000000000 - z10.1.toInt64, z10.2)) else (f_X7_refuse (-1) S).bind fun z11 => some (4000000000000000000 - z11.1.toInt64, z11.2))
def f_X7_whatWas_L63 (n : Nat) (x2 : Int32) (x3 : Int32) (x4 : Int32) (x5 : Int32) (S : St) (k130 : Int32 → St → Option (Int32 × St)) : Option (Int32 × St) :=
  match n with
  | 0 => none
  | n + 1 => (if x3 < x5 then k130 x4 S else (if x2 = 0 then (f_X2_tellsYearsOf 58 ((up S 58 0 x5).1 1 1) (up S 58 0 x5)).bind fun v12 => (if v12 = 0 then f_X7_whatWas_L63 n x2 x3 x4 (x5 + 1) (up S 58 0 x5) k130 else f_X7_whatWas_L63 n x2 x3 (x4 ||| (1 <<< (x5 &&& 31))) (x5 + 1) (up S 58 0 x5) k130) else (f_X2_tellsYearsOf 58 ((up S 58 1 x5).1 1 1) (up S 58 1 x5)).bind fun v10 => (if v10 = 0 then f_X7_whatWas_L63 n x2 x3 x4 (x5 + 1) (up S 58 1 x5) k130 else f_X7_whatWas_L63 n x2 x3 (x4 ||| (1 <<< (x5 &&& 31))) (x5 + 1) (up S 58 1 x5) k130)))
def f_X7_whatWas (a1 : Int32) (a2 : Int32) (S : St) : Option (Int32 × St) :=
  (f_X3_lacks 1 a1 S).bind fun v1 => (if v1 = 0 then (f_X7_notOneOfTwo a2).bind fun v3 => (if v3 = 0 then (f_X3_at 1 a1 S).bind fun v5 => (f_X6_copyFrom 58 v5 S).bind fun S6 => (if a2 = 0 then f_X7_whatWas_L63 2000 a2 5 0 0 S6 (fun (y16 : Int32) (S17 : St) => some (y16, S17)) else f_X7_whatWas_L63 2000 a2 9 0 0 S6 (fun (y14 : Int32) (S15 : St) => some (y14, S15))) else (f_X7_refuse (-2) S).bind fun z18 => some (z18.1, z18.2)) else (f_X7_refuse (-1) S).bind fun z19 => some (z19.1, z19.2))
def f_X7_mended_L63 (n : Nat) (x2 : Int32) (x3 : Int32) (x5 : Int32) (S : St) (k100 : Int32 → St → Option (Int32 × St)) (k109 : St → Option (Int32 × St)) : Option (Int32 × St) :=
  match n with
  | 0 => none
  | n + 1 => (if 99 < x5 then k109 S else (f_X6_makeGlad 58 x2 x5 S).bind fun S11 => (f_X6_yearBy 58 x3 0 (S11.1 1 1) S11).bind fun v12 => (if v12 = x2 then k100 x5 S11 else f_X7_mended_L63 n x2 x3 (x5 + 1) S11 k100 k109))
def f_X7_mended (a1 : Int32) (a2 : Int32) (a3 : Int32) (S : St) : Option (Int32 × St) :=
  (f_X3_lacks 1 a1 S).bind fun v1 => (if v1 = 0 then (f_X7_noYear a2).bind fun v4 => (if v4 = 0 then (f_X7_outside a3 0 99).bind fun v6 => (if v6 = 0 then (f_X3_at 1 a1 S).bind fun v8 => (f_X6_copyFrom 58 v8 S).bind fun S9 => f_X7_mended_L63 2000 a2 a3 0 S9 (fun (y14 : Int32) (S15 : St) => some (y14, S15)) (fun (S16 : St) => some ((-9), S16)) else (f_X7_refuse v6 S).bind fun z17 => some (z17.1, z17.2)) else (f_X7_refuse (-1) S).bind fun z18 => some (z18.1, z18.2)) else (f_X7_refuse (-1) S).bind fun z3 => some (z3.1, z3.2))
def f_X7_row (a1 : Int32) (S : St) : Option (Int32 × St) :=
  (if 0 ≤ a1 then (if 99 < a1 then (f_X7_refuse (-6) S).bind fun z3 => some (z3.1, z3.2) else (f_X2_isFull S).bind fun v4 => (if v4 = 0 then (f_X2_put a1 S).bind fun S6 => some (S6.1 62 1, S6) else (f_X7_refuse (-6) S).bind fun z7 => some (z7.1, z7.2))) else (f_X7_refuse (-4) S).bind fun z8 => some (z8.1, z8.2))
def f_X7_judge (a1 : Int32) (S : St) : Option (Int32 × St) :=
  (f_X3_lacks 1 a1 S).bind fun v1 => (if v1 = 0 then (f_X3_at 1 a1 S).bind fun v3 => (f_X2_firstNotGladOf v3 S).bind fun v4 => some (v4, (up S 62 1 0)) else (f_X7_refuse (-1) S).bind fun z5 => some (z5.1, z5.2))
def f_X7_clear  (S : St) : Option (Int32 × St) :=
  some (S.1 62 1, (up S 62 1 0))
def f_X7_draw (a1 : Int32) (S : St) : Option (Int32 × St) :=
  (if 1 ≤ a1 then (if a1 = 0 then none else some (((((up S 0 12 (((S.1 0 12) * 1664525) + 1013904223)).1 0 12) &&& 2147483647) / 256) - ((((up S 0 12 (((S.1 0 12) * 1664525) + 1013904223)).1 0 12) &&& 2147483647) / 256) / a1 * a1, (up S 0 12 (((S.1 0 12) * 1664525) + 1013904223)))) else some (0, (up S 0 12 (((S.1 0 12) * 1664525) + 1013904223))))
def f_X7_glueByLot_L13 (n : Nat) (x1 : Int32) (S : St) (k78 : St → Option St) : Option St :=
  match n with
  | 0 => none
  | n + 1 => (if (S.1 39 0) ≤ x1 then k78 S else (f_X3_at 39 x1 S).bind fun v3 => (f_X6_isSet v3 S).bind fun v4 => (if v4 = 0 then (f_X7_draw 60 S).bind fun z6 => (f_X7_draw 4 z6.2).bind fun z7 => (f_X6_yearBy v3 z6.1 z7.1 (z7.2.1 39 1) z7.2).bind fun v8 => f_X7_glueByLot_L13 n (x1 + 1) (up z7.2 v3 2 v8) k78 else f_X7_glueByLot_L13 n (x1 + 1) S k78))
def f_X7_glueByLot  (S : St) : Option St :=
  (f_X3_copyFrom 39 1 S).bind fun S1 => f_X7_glueByLot_L13 2000 0 S1 (fun (S9 : St) => some S9)
def f_X7_lots_L46 (n : Nat) (x1 : Int32) (x3 : Int32) (x5 : Int32) (x6 : Int32) (S : St) (k95 : Int32 → St → Option (Int32 × St)) : Option (Int32 × St) :=
  match n with
  | 0 => none
  | n + 1 => (if x1 ≤ x6 then k95 x5 S else (f_X7_glueByLot S).bind fun S6 => (if x3 = 0 then (f_X3_gladTogether 39 (S6.1 39 1) S6).bind fun v9 => f_X7_lots_L46 n x1 x3 (x5 + v9) (x6 + 1) S6 k95 else (f_X3_countAgreeing 39 S6).bind fun v8 => f_X7_lots_L46 n x1 x3 (x5 + v8) (x6 + 1) S6 k95))
def f_X7_lots (a1 : Int32) (a2 : Int32) (a3 : Int32) (S : St) : Option (Int32 × St) :=
  (f_X7_outside a1 1 20).bind fun v1 => (if v1 = 0 then (f_X7_notOneOfTwo a3).bind fun v3 => (if v3 = 0 then f_X7_lots_L46 2000 a1 a3 0 0 (up S 0 12 a2) (fun (y10 : Int32) (S11 : St) => some (y10, S11)) else (f_X7_refuse (-2) S).bind fun z12 => some (z12.1, z12.2)) else (f_X7_refuse v1 S).bind fun z13 => some (z13.1, z13.2))
def f_X7_image  (S : St) : Option (Int32 × St) :=
  (f_X3_copyFrom 20 1 S).bind fun S1 => some ((up S1 0 11 1).1 1 1, (up S1 0 11 1))
def f_X7_on  (S : St) : Option (Int32 × St) :=
  (if (S.1 0 11) = 0 then (f_X7_refuse (-3) S).bind fun z3 => some (z3.1, z3.2) else (f_X3_copyFrom 1 20 S).bind fun S2 => some (S2.1 1 1, S2))
def f_X7_count (a1 : Int32) (S : St) : Option Int32 :=
  (if a1 < 11 then (if a1 = 0 then some (S.1 1 0) else (if a1 = 1 then some (S.1 1 1) else (if a1 = 2 then some (S.1 1 2) else (if a1 = 3 then some (S.1 1 3) else (if a1 = 4 then (f_X3_setBits 1 S).bind fun v7 => some v7 else (if a1 = 5 then (f_X3_countHalves 1 S).bind fun v9 => some v9 else (if a1 = 6 then some (S.1 62 1) else (if a1 = 7 then some (S.1 60 1) else some (-9))))))))) else (if 16 < a1 then (if a1 = 0 then some (S.1 1 0) else (if a1 = 1 then some (S.1 1 1) else (if a1 = 2 then some (S.1 1 2) else (if a1 = 3 then some (S.1 1 3) else (if a1 = 4 then (f_X3_setBits 1 S).bind fun v18 => some v18 else (if a1 = 5 then (f_X3_countHalves 1 S).bind fun v20 => some v20 else (if a1 = 6 then some (S.1 62 1) else (if a1 = 7 then some (S.1 60 1) else some (-9))))))))) else (if (a1 - 10) < 0 ∨ 7 ≤ (a1 - 10).toNatClampNeg then none else some (S.1 73 (a1 - 10).toNatClampNeg))))
def f_X8_isIn (a0 : Int32) (a1 : Int32) (a2 : Int32)  : Option Int32 :=
  (if a0 < a1 then some 0 else (if a2 < a0 then some 0 else some 1))
def f_X8_least (a0 : Int32) (a1 : Int32)  : Option Int32 :=
  (if a1 ≤ a0 then some a1 else some a0)
def f_X8_most (a0 : Int32) (a1 : Int32)  : Option Int32 :=
  (if a0 ≤ a1 then some a1 else some a0)
def f_X8_lays_L2 (n : Nat) (q0 : Nat) (q1 : Nat) (x2 : Int32) (S : St) (k21 : St → Option St) : Option St :=
  match n with
  | 0 => none
  | n + 1 => (if 132 ≤ x2 then k21 S else (if x2 < 0 ∨ 132 ≤ x2.toNatClampNeg then none else (if x2 < 0 ∨ 132 ≤ x2.toNatClampNeg then none else f_X8_lays_L2 n q0 q1 (x2 + 1) (up S q1 x2.toNatClampNeg (S.1 q0 x2.toNatClampNeg)) k21)))
def f_X8_lays (q0 : Nat) (q1 : Nat) (S : St) : Option St :=
  f_X8_lays_L2 2000 q0 q1 0 S (fun (S4 : St) => some S4)
def f_X8_no (a1 : Int32) (S : St) : Option (Int32 × St) :=
  (if (-a1) < 0 ∨ 7 ≤ (-a1).toNatClampNeg then none else (if (-a1) < 0 ∨ 7 ≤ (-a1).toNatClampNeg then none else some (a1, (up S 81 (-a1).toNatClampNeg ((S.1 81 (-a1).toNatClampNeg) + 1)))))
def f_X8_noFar (a1 : Int32) (S : St) : Option (Int32 × St) :=
  (f_X8_no a1 S).bind fun z1 => some (1000000000 - z1.1, z1.2)
def f_X8_noWide (a1 : Int32) (S : St) : Option (Int64 × St) :=
  (f_X8_no a1 S).bind fun z1 => some (4000000000000000000 - z1.1.toInt64, z1.2)
def f_X8_isThing (a1 : Int32) (S : St) : Option Int32 :=
  (f_X8_isIn a1 0 ((S.1 75 0) - 1)).bind fun v1 => some v1
def f_X8_isYear (a0 : Int32)  : Option Int32 :=
  (f_X8_isIn a0 0 11).bind fun v1 => some v1
def f_X8_at (a0 : Int32) (a1 : Int32)  : Option Int32 :=
  some ((28 + (12 * a0)) + a1)
def f_X8_bits_L4 (n : Nat) (x0 : Int32) (x1 : Int32) (x2 : Int32) (k24 : Int32 → Option Int32) : Option Int32 :=
  match n with
  | 0 => none
  | n + 1 => (if 12 ≤ x2 then k24 x1 else f_X8_bits_L4 n x0 (x1 + ((x0 >>> (x2 &&& 31)) &&& 1)) (x2 + 1) k24)
def f_X8_bits (a0 : Int32)  : Option Int32 :=
  f_X8_bits_L4 2000 a0 0 0 (fun (y2 : Int32) => some y2)
def f_X8_cost (q0 : Nat) (a1 : Int32) (S : St) : Option Int32 :=
  (if (4 + a1) < 0 ∨ 132 ≤ (4 + a1).toNatClampNeg then none else (if (S.1 q0 (4 + a1).toNatClampNeg) = 4 then (if (12 + a1) < 0 ∨ 132 ≤ (12 + a1).toNatClampNeg then none else some (1 + (S.1 q0 (12 + a1).toNatClampNeg))) else some 1))
def f_X8_reach (q0 : Nat) (a1 : Int32) (a2 : Int32) (a3 : Int32) (S : St) : Option Int32 :=
  (f_X8_most 0 ((a2 / 5) - a3)).bind fun v1 => (if (4 + a1) < 0 ∨ 132 ≤ (4 + a1).toNatClampNeg then none else (if (S.1 q0 (4 + a1).toNatClampNeg) = 2 then (if (12 + a1) < 0 ∨ 132 ≤ (12 + a1).toNatClampNeg then none else some (v1 + (S.1 q0 (12 + a1).toNatClampNeg))) else (if (S.1 q0 (4 + a1).toNatClampNeg) = 5 then (if (12 + a1) < 0 ∨ 132 ≤ (12 + a1).toNatClampNeg then none else some (v1 + (S.1 q0 (12 + a1).toNatClampNeg))) else (if (S.1 q0 (4 + a1).toNatClampNeg) = 4 then some (v1 / 2) else some v1))))
def f_X8_counts (q0 : Nat) (a1 : Int32) (a2 : Int32) (S : St) : Option Int32 :=
  (f_X8_at a1 a2).bind fun v1 => (if v1 < 0 ∨ 132 ≤ v1.toNatClampNeg then none else (if (4 + a1) < 0 ∨ 132 ≤ (4 + a1).toNatClampNeg then none else (if (S.1 q0 (4 + a1).toNatClampNeg) = 5 then some (-(S.1 q0 v1.toNatClampNeg)) else (if (S.1 q0 (4 + a1).toNatClampNeg) = 3 then (if (12 + a1) < 0 ∨ 132 ≤ (12 + a1).toNatClampNeg then none else some ((S.1 q0 v1.toNatClampNeg) - ((S.1 q0 (12 + a1).toNatClampNeg) * ((S.1 q0 1) - a2)))) else some (S.1 q0 v1.toNatClampNeg)))))
def f_X8_yearBy_L36 (n : Nat) (q0 : Nat) (x1 : Int32) (x2 : Int32) (x3 : Int32) (x4 : Int32) (x5 : Int32) (S : St) (k92 : Int32 → Option Int32) : Option Int32 :=
  match n with
  | 0 => none
  | n + 1 => (if x5 < 0 then k92 x4 else (if x5 < ((S.1 q0 1) - x2) then k92 x4 else (f_X8_counts q0 x1 x5 S).bind fun v5 => (f_X8_counts q0 x1 x4 S).bind fun v6 => (if 0 < (v5 - v6) then f_X8_yearBy_L36 n q0 x1 x2 x3 x5 (x5 + (-1)) S k92 else (if (v5 - v6) = 0 then (if x3 = 0 then f_X8_yearBy_L36 n q0 x1 x2 x3 x4 (x5 + (-1)) S k92 else f_X8_yearBy_L36 n q0 x1 x2 x3 x5 (x5 + (-1)) S k92) else f_X8_yearBy_L36 n q0 x1 x2 x3 x4 (x5 + (-1)) S k92))))
def f_X8_yearBy (q0 : Nat) (a1 : Int32) (a2 : Int32) (S : St) : Option Int32 :=
  (if (4 + a1) < 0 ∨ 132 ≤ (4 + a1).toNatClampNeg then none else (if (S.1 q0 (4 + a1).toNatClampNeg) = 1 then f_X8_yearBy_L36 2000 q0 a1 a2 1 (S.1 q0 1) ((S.1 q0 1) - 1) S (fun (y10 : Int32) => some y10) else (if (4 + a1) < 0 ∨ 132 ≤ (4 + a1).toNatClampNeg then none else (if (S.1 q0 (4 + a1).toNatClampNeg) = 3 then f_X8_yearBy_L36 2000 q0 a1 a2 1 (S.1 q0 1) ((S.1 q0 1) - 1) S (fun (y14 : Int32) => some y14) else f_X8_yearBy_L36 2000 q0 a1 a2 0 (S.1 q0 1) ((S.1 q0 1) - 1) S (fun (y13 : Int32) => some y13)))))
def f_X8_yearOf (q0 : Nat) (a1 : Int32) (a2 : Int32) (a3 : Int32) (S : St) : Option Int32 :=
  (f_X8_reach q0 a1 a2 a3 S).bind fun v1 => (f_X8_yearBy q0 a1 v1 S).bind fun v2 => some v2
def f_X8_gladOf (q0 : Nat) (a1 : Int32) (S : St) : Option Int32 :=
  (if (20 + a1) < 0 ∨ 132 ≤ (20 + a1).toNatClampNeg then none else (if 0 ≤ (S.1 q0 (20 + a1).toNatClampNeg) then (if (20 + a1) < 0 ∨ 132 ≤ (20 + a1).toNatClampNeg then none else (f_X8_at a1 (S.1 q0 (20 + a1).toNatClampNeg)).bind fun v4 => (if v4 < 0 ∨ 132 ≤ v4.toNatClampNeg then none else some (S.1 q0 v4.toNatClampNeg))) else (f_X8_at a1 (S.1 q0 1)).bind fun v6 => (if v6 < 0 ∨ 132 ≤ v6.toNatClampNeg then none else some (S.1 q0 v6.toNatClampNeg))))
def f_X8_gladAll_L4 (n : Nat) (q0 : Nat) (x1 : Int32) (x2 : Int32) (S : St) (k25 : Int32 → Option Int32) : Option Int32 :=
  match n with
  | 0 => none
  | n + 1 => (if (S.1 q0 0) ≤ x2 then k25 x1 else (f_X8_gladOf q0 x2 S).bind fun v2 => f_X8_gladAll_L4 n q0 (x1 + v2) (x2 + 1) S k25)
def f_X8_gladAll (q0 : Nat) (S : St) : Option Int32 :=
  f_X8_gladAll_L4 2000 q0 0 0 S (fun (y3 : Int32) => some y3)
def f_X8_fewestOf_L2 (n : Nat) (q0 : Nat) (x1 : Int32) (x2 : Int32) (x3 : Int32) (S : St) (k19 : Int32 → Option Int32) (k27 : Unit → Option Int32) : Option Int32 :=
  match n with
  | 0 => none
  | n + 1 => (if 99 < x3 then k27 () else (f_X8_yearOf q0 x1 x3 0 S).bind fun v2 => (if v2 = x2 then k19 x3 else f_X8_fewestOf_L2 n q0 x1 x2 (x3 + 1) S k19 k27))
def f_X8_fewestOf (q0 : Nat) (a1 : Int32) (a2 : Int32) (S : St) : Option Int32 :=
  f_X8_fewestOf_L2 2000 q0 a1 a2 0 S (fun (y4 : Int32) => some y4) (fun _ : Unit => some (-9))
def f_X8_letter (a1 : Int32) (S : St) : Option (Int32 × St) :=
  (if 0 ≤ a1 then (if 255 < a1 then (f_X8_no (-6) S).bind fun z3 => some (z3.1, z3.2) else (if (S.1 74 8) = 96 then (f_X8_no (-6) S).bind fun z6 => some (z6.1, z6.2) else (if (S.1 74 8) < 0 ∨ 96 ≤ (S.1 74 8).toNatClampNeg then none else some ((up (up S 79 (S.1 74 8).toNatClampNeg a1) 74 8 (((up S 79 (S.1 74 8).toNatClampNeg a1).1 74 8) + 1)).1 74 8, (up (up S 79 (S.1 74 8).toNatClampNeg a1) 74 8 (((up S 79 (S.1 74 8).toNatClampNeg a1).1 74 8) + 1)))))) else (f_X8_no (-4) S).bind fun z7 => some (z7.1, z7.2))
def f_X8_here  (S : St) : Option Int32 :=
  (if (S.1 74 8) ≤ (S.1 74 10) then some (-1) else (if (S.1 74 10) < 0 ∨ 96 ≤ (S.1 74 10).toNatClampNeg then none else some (S.1 79 (S.1 74 10).toNatClampNeg)))
def f_X8_readsNumber_L9 (n : Nat) (x1 : Int32) (x2 : Int32) (x3 : Int32) (S : St) (k28 : St → Option (Int32 × St)) (k69 : St → Option (Int32 × St)) : Option (Int32 × St) :=
  match n with
  | 0 => none
  | n + 1 => (if x2 ≤ x3 then k69 S else (f_X8_here S).bind fun v3 => (f_X8_isIn v3 48 57).bind fun v4 => (if v4 = 0 then k28 S else (if x1 < 0 ∨ 4 ≤ x1.toNatClampNeg then none else (f_X8_here S).bind fun v7 => (if x1 < 0 ∨ 4 ≤ x1.toNatClampNeg then none else f_X8_readsNumber_L9 n x1 x2 (x3 + 1) (up (up S 82 x1.toNatClampNeg (((10 * (S.1 82 x1.toNatClampNeg)) + v7) - 48)) 74 10 (((up S 82 x1.toNatClampNeg (((10 * (S.1 82 x1.toNatClampNeg)) + v7) - 48)).1 74 10) + 1)) k28 k69))))
def f_X8_readsNumber (a1 : Int32) (a2 : Int32) (S : St) : Option (Int32 × St) :=
  (if a1 < 0 ∨ 4 ≤ a1.toNatClampNeg then none else f_X8_readsNumber_L9 2000 a1 a2 0 (up S 82 a1.toNatClampNeg 0) (fun (S9 : St) => some (0, S9)) (fun (S10 : St) => some (1, S10)))
def f_X8_kindBy (a0 : Int32)  : Option Int32 :=
  (if a0 = 99 then some 1 else (if a0 = 100 then some 2 else (if a0 = 102 then some 4 else (if a0 = 112 then some 3 else (if a0 = 116 then some 0 else (if a0 = 119 then some 5 else some (-9)))))))
def f_X8_readsKind  (S : St) : Option (Int32 × St) :=
  (f_X8_here S).bind fun v1 => (f_X8_kindBy v1).bind fun v2 => (if 0 ≤ ((up S 82 0 v2).1 82 0) then (if ((up (up S 82 0 v2) 74 10 (((up S 82 0 v2).1 74 10) + 1)).1 82 0) < 0 then some (0, (up (up S 82 0 v2) 74 10 (((up S 82 0 v2).1 74 10) + 1))) else some (1, (up (up S 82 0 v2) 74 10 (((up S 82 0 v2).1 74 10) + 1)))) else (if ((up (up S 82 0 v2) 74 10 (((up S 82 0 v2).1 74 10) + 0)).1 82 0) < 0 then some (0, (up (up S 82 0 v2) 74 10 (((up S 82 0 v2).1 74 10) + 0))) else some (1, (up (up S 82 0 v2) 74 10 (((up S 82 0 v2).1 74 10) + 0)))))
def f_X8_readsStatement  (S : St) : Option (Int32 × St) :=
  (f_X8_here S).bind fun v1 => (if v1 = 100 then (f_X8_readsNumber 0 2 (up S 74 10 ((S.1 74 10) + 1))).bind fun z3 => (if z3.1 = 0 then some (0, z3.2) else (f_X8_here z3.2).bind fun v5 => (if v5 = 59 then some (1, (up z3.2 74 10 ((z3.2.1 74 10) + 1))) else some (0, z3.2))) else (if v1 = 103 then (f_X8_readsNumber 0 1 (up S 74 10 ((S.1 74 10) + 1))).bind fun z8 => (if z8.1 = 0 then some (0, (up z8.2 82 2 (z8.2.1 82 1))) else (f_X8_readsNumber 1 2 z8.2).bind fun z11 => (if z11.1 = 0 then some (0, (up z11.2 82 2 (z11.2.1 82 1))) else (f_X8_readsNumber 3 2 z11.2).bind fun z14 => (if z14.1 = 0 then some (0, (up z14.2 82 2 (z14.2.1 82 1))) else (f_X8_here (up z14.2 82 2 (z14.2.1 82 1))).bind fun v18 => (if v18 = 59 then some (1, (up (up z14.2 82 2 (z14.2.1 82 1)) 74 10 (((up z14.2 82 2 (z14.2.1 82 1)).1 74 10) + 1))) else some (0, (up z14.2 82 2 (z14.2.1 82 1))))))) else (if v1 = 104 then (f_X8_readsNumber 0 1 (up S 74 10 ((S.1 74 10) + 1))).bind fun z21 => (if z21.1 = 0 then some (0, z21.2) else (f_X8_readsNumber 1 1 z21.2).bind fun z24 => (if z24.1 = 0 then some (0, z24.2) else (f_X8_here z24.2).bind fun v28 => (if v28 = 59 then some (1, (up z24.2 74 10 ((z24.2.1 74 10) + 1))) else some (0, z24.2)))) else (if v1 = 115 then (f_X8_readsNumber 0 1 (up S 74 10 ((S.1 74 10) + 1))).bind fun z31 => (if z31.1 = 0 then some (0, z31.2) else (f_X8_readsNumber 1 2 z31.2).bind fun z34 => (if z34.1 = 0 then some (0, z34.2) else (f_X8_readsNumber 2 1 z34.2).bind fun z37 => (if z37.1 = 0 then some (0, z37.2) else (f_X8_here z37.2).bind fun v41 => (if v41 = 59 then some (1, (up z37.2 74 10 ((z37.2.1 74 10) + 1))) else some (0, z37.2))))) else (if v1 = 116 then (f_X8_readsKind (up S 74 10 ((S.1 74 10) + 1))).bind fun z44 => (if z44.1 = 0 then some (0, z44.2) else (f_X8_readsNumber 1 1 z44.2).bind fun z47 => (if z47.1 = 0 then some (0, z47.2) else (f_X8_here z47.2).bind fun v51 => (if v51 = 59 then some (1, (up z47.2 74 10 ((z47.2.1 74 10) + 1))) else some (0, z47.2)))) else (if v1 = 118 then (f_X8_readsNumber 0 1 (up S 74 10 ((S.1 74 10) + 1))).bind fun z54 => (if z54.1 = 0 then some (0, z54.2) else (f_X8_readsNumber 1 2 z54.2).bind fun z57 => (if z57.1 = 0 then some (0, z57.2) else (f_X8_readsNumber 2 2 z57.2).bind fun z60 => (if z60.1 = 0 then some (0, z60.2) else (f_X8_readsNumber 3 2 z60.2).bind fun z63 => (if z63.1 = 0 then some (0, z63.2) else (f_X8_here z63.2).bind fun v67 => (if v67 = 59 then some (1, (up z63.2 74 10 ((z63.2.1 74 10) + 1))) else some (0, z63.2)))))) else (if v1 = 121 then (f_X8_readsNumber 0 2 (up S 74 10 ((S.1 74 10) + 1))).bind fun z70 => (if z70.1 = 0 then some (0, z70.2) else (f_X8_here z70.2).bind fun v72 => (if v72 = 59 then some (1, (up z70.2 74 10 ((z70.2.1 74 10) + 1))) else some (0, z70.2))) else some (0, (up (up S 74 10 ((S.1 74 10) + 1)) 74 10 (((up S 74 10 ((S.1 74 10) + 1)).1 74 10) - 1))))))))))
def f_X8_turnsHalves (a1 : Int32) (a2 : Int32) (S : St) : Option St :=
  (if (124 + a1) < 0 ∨ 132 ≤ (124 + a1).toNatClampNeg then none else (if (124 + a1) < 0 ∨ 132 ≤ (124 + a1).toNatClampNeg then none else (if (124 + a2) < 0 ∨ 132 ≤ (124 + a2).toNatClampNeg then none else (if (124 + a2) < 0 ∨ 132 ≤ (124 + a2).toNatClampNeg then none else some (up (up S 75 (124 + a1).toNatClampNeg ((S.1 75 (124 + a1).toNatClampNeg) ^^^ (1 <<< (a2 &&& 31)))) 75 (124 + a2).toNatClampNeg (((up S 75 (124 + a1).toNatClampNeg ((S.1 75 (124 + a1).toNatClampNeg) ^^^ (1 <<< (a2 &&& 31)))).1 75 (124 + a2).toNatClampNeg) ^^^ (1 <<< (a1 &&& 31))))))))
def f_X8_canGlue (a1 : Int32) (S : St) : Option Int32 :=
  (if (20 + a1) < 0 ∨ 132 ≤ (20 + a1).toNatClampNeg then none else (if 0 ≤ (S.1 75 (20 + a1).toNatClampNeg) then some 0 else (f_X8_cost 75 a1 S).bind fun v3 => (if (S.1 75 2) < v3 then some 0 else some 1)))
def f_X8_gluesTo (a1 : Int32) (a2 : Int32) (a3 : Int32) (S : St) : Option (Int32 × St) :=
  (f_X8_yearOf 75 a1 a2 a3 S).bind fun v1 => (if (20 + a1) < 0 ∨ 132 ≤ (20 + a1).toNatClampNeg then none else (f_X8_cost 75 a1 (up S 75 (20 + a1).toNatClampNeg v1)).bind fun v3 => (if (20 + a1) < 0 ∨ 132 ≤ (20 + a1).toNatClampNeg then none else some ((up (up S 75 (20 + a1).toNatClampNeg v1) 75 2 (((up S 75 (20 + a1).toNatClampNeg v1).1 75 2) - v3)).1 75 (20 + a1).toNatClampNeg, (up (up S 75 (20 + a1).toNatClampNeg v1) 75 2 (((up S 75 (20 + a1).toNatClampNeg v1).1 75 2) - v3)))))
def f_X8_isDone_L225 (n : Nat) (x2 : Int32) (x4 : Int32) (S : St) (k259 : St → Option (Int32 × St)) : Option (Int32 × St) :=
  match n with
  | 0 => none
  | n + 1 => (if (S.1 82 2) < x4 then k259 S else (f_X8_at x2 x4).bind fun v9 => (if v9 < 0 ∨ 132 ≤ v9.toNatClampNeg then none else f_X8_isDone_L225 n x2 (x4 + 1) (up S 75 v9.toNatClampNeg (S.1 82 3)) k259))
def f_X8_isDone_L133 (n : Nat) (x4 : Int32) (S : St) (k163 : St → Option (Int32 × St)) : Option (Int32 × St) :=
  match n with
  | 0 => none
  | n + 1 => (if 12 ≤ x4 then k163 S else (f_X8_at (S.1 75 0) x4).bind fun v25 => (if v25 < 0 ∨ 132 ≤ v25.toNatClampNeg then none else f_X8_isDone_L133 n (x4 + 1) (up S 75 v25.toNatClampNeg 0) k163))
def f_X8_isDone (a1 : Int32) (S : St) : Option (Int32 × St) :=
  (if a1 = 100 then some (1, (up S 75 2 (S.1 82 0))) else (if a1 = 103 then (f_X8_isThing (S.1 82 0) S).bind fun v3 => (if v3 = 0 then some (0, S) else (if (S.1 82 2) < (S.1 82 1) then some (0, S) else (f_X8_isYear (S.1 82 2)).bind fun v6 => (if v6 = 0 then some (0, S) else f_X8_isDone_L225 2000 (S.1 82 0) (S.1 82 1) S (fun (S11 : St) => some (1, S11))))) else (if a1 = 104 then (f_X8_isThing (S.1 82 0) S).bind fun v13 => (if v13 = 0 then some (0, S) else (f_X8_isThing (S.1 82 1) S).bind fun v15 => (if v15 = 0 then some (0, S) else (if (S.1 82 0) = (S.1 82 1) then some (0, S) else (f_X8_turnsHalves (S.1 82 0) (S.1 82 1) S).bind fun S18 => some (1, S18)))) else (if a1 = 116 then (if (S.1 75 0) = 8 then some (0, S) else (if (4 + (S.1 75 0)) < 0 ∨ 132 ≤ (4 + (S.1 75 0)).toNatClampNeg then none else (if (12 + ((up S 75 (4 + (S.1 75 0)).toNatClampNeg (S.1 82 0)).1 75 0)) < 0 ∨ 132 ≤ (12 + ((up S 75 (4 + (S.1 75 0)).toNatClampNeg (S.1 82 0)).1 75 0)).toNatClampNeg then none else (if (20 + ((up (up S 75 (4 + (S.1 75 0)).toNatClampNeg (S.1 82 0)) 75 (12 + ((up S 75 (4 + (S.1 75 0)).toNatClampNeg (S.1 82 0)).1 75 0)).toNatClampNeg (S.1 82 1)).1 75 0)) < 0 ∨ 132 ≤ (20 + ((up (up S 75 (4 + (S.1 75 0)).toNatClampNeg (S.1 82 0)) 75 (12 + ((up S 75 (4 + (S.1 75 0)).toNatClampNeg (S.1 82 0)).1 75 0)).toNatClampNeg (S.1 82 1)).1 75 0)).toNatClampNeg then none else f_X8_isDone_L133 2000 0 (up (up (up S 75 (4 + (S.1 75 0)).toNatClampNeg (S.1 82 0)) 75 (12 + ((up S 75 (4 + (S.1 75 0)).toNatClampNeg (S.1 82 0)).1 75 0)).toNatClampNeg (S.1 82 1)) 75 (20 + ((up (up S 75 (4 + (S.1 75 0)).toNatClampNeg (S.1 82 0)) 75 (12 + ((up S 75 (4 + (S.1 75 0)).toNatClampNeg (S.1 82 0)).1 75 0)).toNatClampNeg (S.1 82 1)).1 75 0)).toNatClampNeg (-9)) (fun (S27 : St) => (if (124 + (S27.1 75 0)) < 0 ∨ 132 ≤ (124 + (S27.1 75 0)).toNatClampNeg then none else some (1, (up (up S27 75 (124 + (S27.1 75 0)).toNatClampNeg 0) 75 0 (((up S27 75 (124 + (S27.1 75 0)).toNatClampNeg 0).1 75 0) + 1))))))))) else (if a1 = 118 then (f_X8_isThing (S.1 82 0) S).bind fun v30 => (if v30 = 0 then some (0, S) else (if (S.1 82 2) < (S.1 82 1) then some (0, S) else (f_X8_isYear (S.1 82 2)).bind fun v33 => (if v33 = 0 then some (0, S) else f_X8_isDone_L225 2000 (S.1 82 0) (S.1 82 1) S (fun (S35 : St) => some (1, S35))))) else (if a1 = 121 then (f_X8_isYear (S.1 82 0)).bind fun v37 => some (v37, (up S 75 1 (S.1 82 0))) else (f_X8_isThing (S.1 82 0) S).bind fun v38 => (if v38 = 0 then some (0, S) else (f_X8_canGlue (S.1 82 0) S).bind fun v40 => (if v40 = 0 then some (0, S) else (f_X8_gluesTo (S.1 82 0) (S.1 82 1) (S.1 82 2) S).bind fun z42 => some (1, z42.2)))))))))
def f_X8_shop_L10 (n : Nat) (x1 : Int32) (x2 : Int32) (S : St) (k46 : Int32 → Int32 → St → Option (Int32 × St)) : Option (Int32 × St) :=
  match n with
  | 0 => none
  | n + 1 => (f_X8_readsStatement S).bind fun z1 => (if z1.1 = 0 then (if ((-1000) - (z1.2.1 74 10)) = (-9) then (if (z1.2.1 74 10) < (z1.2.1 74 8) then f_X8_shop_L10 n (x1 + 1) ((-1000) - (z1.2.1 74 10)) z1.2 k46 else k46 (x1 + 1) ((-1000) - (z1.2.1 74 10)) z1.2) else k46 (x1 + 1) ((-1000) - (z1.2.1 74 10)) z1.2) else (if x2 = (-9) then (if (z1.2.1 74 10) < (z1.2.1 74 8) then f_X8_shop_L10 n (x1 + 1) x2 z1.2 k46 else k46 (x1 + 1) x2 z1.2) else k46 (x1 + 1) x2 z1.2))
def f_X8_shop_L62 (n : Nat) (x1 : Int32) (x2 : Int32) (S : St) (k128 : Int32 → St → Option (Int32 × St)) : Option (Int32 × St) :=
  match n with
  | 0 => none
  | n + 1 => (if x2 = (-9) then (if (S.1 74 8) ≤ (S.1 74 10) then k128 x2 S else (f_X8_here S).bind fun v13 => (f_X8_readsStatement S).bind fun z14 => (f_X8_isDone v13 z14.2).bind fun z15 => (if z15.1 = 0 then (f_X8_lays 78 75 z15.2).bind fun S17 => f_X8_shop_L62 n x1 ((-2000) - (S.1 74 10)) S17 k128 else f_X8_shop_L62 n x1 x2 z15.2 k128)) else k128 x2 S)
def f_X8_shop  (S : St) : Option (Int32 × St) :=
  f_X8_shop_L10 2000 0 (-9) (up S 74 10 0) (fun (y7 : Int32) (y8 : Int32) (S9 : St) => (f_X8_lays 75 78 S9).bind fun S10 => f_X8_shop_L62 2000 y7 y8 (up S10 74 10 0) (fun (y18 : Int32) (S19 : St) => (if y18 = (-9) then some (y7, (up S19 74 8 0)) else some (y18, (up S19 74 8 0)))))
def f_X8_thing (a1 : Int32) (a2 : Int32) (S : St) : Option (Int32 × St) :=
  (f_X8_isThing a1 S).bind fun v1 => (if v1 = 0 then (f_X8_no (-1) S).bind fun z14 => some (z14.1, z14.2) else (if a2 = 0 then (if (4 + a1) < 0 ∨ 132 ≤ (4 + a1).toNatClampNeg then none else some (S.1 75 (4 + a1).toNatClampNeg, S)) else (if a2 = 1 then (if (12 + a1) < 0 ∨ 132 ≤ (12 + a1).toNatClampNeg then none else some (S.1 75 (12 + a1).toNatClampNeg, S)) else (if a2 = 2 then (if (20 + a1) < 0 ∨ 132 ≤ (20 + a1).toNatClampNeg then none else some (S.1 75 (20 + a1).toNatClampNeg, S)) else (if a2 = 3 then (f_X8_gladOf 75 a1 S).bind fun v10 => some (v10, S) else (if a2 = 4 then (f_X8_cost 75 a1 S).bind fun v12 => some (v12, S) else (f_X8_no (-2) S).bind fun z13 => some (z13.1, z13.2)))))))
def f_X8_glad (a1 : Int32) (a2 : Int32) (S : St) : Option (Int32 × St) :=
  (f_X8_isThing a1 S).bind fun v1 => (if v1 = 0 then (f_X8_no (-1) S).bind fun z3 => some (z3.1, z3.2) else (f_X8_isYear a2).bind fun v4 => (if v4 = 0 then (f_X8_no (-1) S).bind fun z6 => some (z6.1, z6.2) else (f_X8_at a1 a2).bind fun v7 => (if v7 < 0 ∨ 132 ≤ v7.toNatClampNeg then none else some (S.1 75 v7.toNatClampNeg, S))))
def f_X8_areTwo (a1 : Int32) (a2 : Int32) (S : St) : Option Int32 :=
  (f_X8_isThing a1 S).bind fun v1 => (if v1 = 0 then some 0 else (f_X8_isThing a2 S).bind fun v3 => (if v3 = 0 then some 0 else (if a1 = a2 then some 0 else some 1)))
def f_X8_halves (a1 : Int32) (a2 : Int32) (S : St) : Option (Int32 × St) :=
  (f_X8_areTwo a1 a2 S).bind fun v1 => (if v1 = 0 then (f_X8_no (-1) S).bind fun z3 => some (z3.1, z3.2) else (if (124 + a1) < 0 ∨ 132 ≤ (124 + a1).toNatClampNeg then none else some (((S.1 75 (124 + a1).toNatClampNeg) >>> (a2 &&& 31)) &&& 1, S)))
def f_X8_turn (a1 : Int32) (a2 : Int32) (a3 : Int32) (S : St) : Option (Int32 × St) :=
  (f_X8_isThing a1 S).bind fun v1 => (if v1 = 0 then (f_X8_no (-1) S).bind fun z14 => some (z14.1, z14.2) else (f_X8_isIn a2 0 5).bind fun v3 => (if v3 = 0 then (f_X8_no (-2) S).bind fun z13 => some (z13.1, z13.2) else (if 0 ≤ a3 then (if a3 ≤ 9 then (if (4 + a1) < 0 ∨ 132 ≤ (4 + a1).toNatClampNeg then none else (if (12 + a1) < 0 ∨ 132 ≤ (12 + a1).toNatClampNeg then none else (if (4 + a1) < 0 ∨ 132 ≤ (4 + a1).toNatClampNeg then none else (if (12 + a1) < 0 ∨ 132 ≤ (12 + a1).toNatClampNeg then none else some ((10 * (S.1 75 (4 + a1).toNatClampNeg)) + (S.1 75 (12 + a1).toNatClampNeg), (up (up S 75 (4 + a1).toNatClampNeg a2) 75 (12 + a1).toNatClampNeg a3)))))) else (f_X8_no (-6) S).bind fun z11 => some (z11.1, z11.2)) else (f_X8_no (-4) S).bind fun z12 => some (z12.1, z12.2))))
def f_X8_makes (a1 : Int32) (a2 : Int32) (a3 : Int32) (S : St) : Option (Int32 × St) :=
  (f_X8_isThing a1 S).bind fun v1 => (if v1 = 0 then (f_X8_no (-1) S).bind fun z3 => some (z3.1, z3.2) else (f_X8_isYear a2).bind fun v4 => (if v4 = 0 then (f_X8_no (-1) S).bind fun z14 => some (z14.1, z14.2) else (if 0 ≤ a3 then (if a3 ≤ 99 then (f_X8_at a1 a2).bind fun v8 => (if v8 < 0 ∨ 132 ≤ v8.toNatClampNeg then none else (f_X8_at a1 a2).bind fun v10 => (if v10 < 0 ∨ 132 ≤ v10.toNatClampNeg then none else some (S.1 75 v8.toNatClampNeg, (up S 75 v10.toNatClampNeg a3)))) else (f_X8_no (-6) S).bind fun z12 => some (z12.1, z12.2)) else (f_X8_no (-4) S).bind fun z13 => some (z13.1, z13.2))))
def f_X8_pairs (a1 : Int32) (a2 : Int32) (S : St) : Option (Int32 × St) :=
  (f_X8_areTwo a1 a2 S).bind fun v1 => (if v1 = 0 then (f_X8_no (-1) S).bind fun z5 => some (z5.1, z5.2) else (f_X8_turnsHalves a1 a2 S).bind fun S3 => (if (124 + a1) < 0 ∨ 132 ≤ (124 + a1).toNatClampNeg then none else some (((S3.1 75 (124 + a1).toNatClampNeg) >>> (a2 &&& 31)) &&& 1, S3)))
def f_X8_now (a1 : Int32) (S : St) : Option (Int32 × St) :=
  (f_X8_isYear a1).bind fun v1 => (if v1 = 0 then (f_X8_no (-1) S).bind fun z3 => some (z3.1, z3.2) else some (S.1 75 1, (up S 75 1 a1)))
def f_X8_hands (a1 : Int32) (S : St) : Option (Int32 × St) :=
  (if 1 ≤ a1 then (if a1 ≤ 4 then some (S.1 75 3, (up S 75 3 a1)) else (f_X8_no (-6) S).bind fun z3 => some (z3.1, z3.2)) else (f_X8_no (-4) S).bind fun z4 => some (z4.1, z4.2))
def f_X8_pours (a1 : Int32) (S : St) : Option (Int32 × St) :=
  (if 0 ≤ a1 then (if a1 ≤ 99 then some (S.1 75 2, (up S 75 2 a1)) else (f_X8_no (-6) S).bind fun z3 => some (z3.1, z3.2)) else (f_X8_no (-4) S).bind fun z4 => some (z4.1, z4.2))
def f_X8_wrongGlue (a1 : Int32) (a2 : Int32) (a3 : Int32) (S : St) : Option Int32 :=
  (f_X8_isThing a1 S).bind fun v1 => (if v1 = 0 then some (-1) else (if a2 < 0 then some (-4) else (if 0 ≤ a3 then (if 99 < a2 then some (-6) else (if a3 ≤ 9 then some 0 else some (-6))) else some (-4))))
def f_X8_glues (a1 : Int32) (a2 : Int32) (a3 : Int32) (S : St) : Option (Int32 × St) :=
  (f_X8_wrongGlue a1 a2 a3 S).bind fun v1 => (if v1 = 0 then (f_X8_canGlue a1 S).bind fun v6 => (if v6 = 0 then (f_X8_no (-3) S).bind fun z12 => some (z12.1, z12.2) else (if v1 = 0 then (f_X8_gluesTo a1 a2 a3 S).bind fun z9 => some (z9.1, z9.2) else (f_X8_no v1 S).bind fun z10 => some (z10.1, z10.2))) else (if v1 = 0 then (f_X8_gluesTo a1 a2 a3 S).bind fun z4 => some (z4.1, z4.2) else (f_X8_no v1 S).bind fun z5 => some (z5.1, z5.2)))
def f_X8_washes (a1 : Int32) (S : St) : Option (Int32 × St) :=
  (f_X8_isThing a1 S).bind fun v1 => (if v1 = 0 then (f_X8_no (-1) S).bind fun z7 => some (z7.1, z7.2) else (if (20 + a1) < 0 ∨ 132 ≤ (20 + a1).toNatClampNeg then none else (if 0 ≤ (S.1 75 (20 + a1).toNatClampNeg) then (if (20 + a1) < 0 ∨ 132 ≤ (20 + a1).toNatClampNeg then none else some (S.1 75 (20 + a1).toNatClampNeg, (up S 75 (20 + a1).toNatClampNeg (-9)))) else (f_X8_no (-3) S).bind fun z6 => some (z6.1, z6.2))))
def f_X8_would (a1 : Int32) (a2 : Int32) (a3 : Int32) (a4 : Int32) (S : St) : Option (Int32 × St) :=
  (f_X8_wrongGlue a1 a2 a3 S).bind fun v1 => (if v1 = 0 then (f_X8_isIn a4 0 2).bind fun v11 => (if v11 = 0 then (f_X8_no (-2) S).bind fun z22 => some (z22.1, z22.2) else (if v1 = 0 then (f_X8_yearOf 75 a1 a2 a3 S).bind fun v14 => (if a4 = 0 then some (v14, S) else (if a4 = 1 then (f_X8_reach 75 a1 a2 a3 S).bind fun v19 => some (v19, S) else (f_X8_at a1 v14).bind fun v17 => (if v17 < 0 ∨ 132 ≤ v17.toNatClampNeg then none else some (S.1 75 v17.toNatClampNeg, S)))) else (f_X8_no v1 S).bind fun z20 => some (z20.1, z20.2))) else (if v1 = 0 then (f_X8_yearOf 75 a1 a2 a3 S).bind fun v4 => (if a4 = 0 then some (v4, S) else (if a4 = 1 then (f_X8_reach 75 a1 a2 a3 S).bind fun v9 => some (v9, S) else (f_X8_at a1 v4).bind fun v7 => (if v7 < 0 ∨ 132 ≤ v7.toNatClampNeg then none else some (S.1 75 v7.toNatClampNeg, S)))) else (f_X8_no v1 S).bind fun z10 => some (z10.1, z10.2)))
def f_X8_canOf_L4 (n : Nat) (q0 : Nat) (x1 : Int32) (x2 : Int32) (x3 : Int32) (S : St) (k28 : Int32 → Option Int32) : Option Int32 :=
  match n with
  | 0 => none
  | n + 1 => (if 99 < x3 then k28 x2 else (f_X8_yearOf q0 x1 x3 0 S).bind fun v2 => f_X8_canOf_L4 n q0 x1 (x2 ||| (1 <<< (v2 &&& 31))) (x3 + 5) S k28)
def f_X8_canOf (q0 : Nat) (a1 : Int32) (S : St) : Option Int32 :=
  f_X8_canOf_L4 2000 q0 a1 0 0 S (fun (y3 : Int32) => some y3)
def f_X8_can (a1 : Int32) (S : St) : Option (Int32 × St) :=
  (f_X8_isThing a1 S).bind fun v1 => (if v1 = 0 then (f_X8_no (-1) S).bind fun z3 => some (z3.1, z3.2) else (f_X8_canOf 75 a1 S).bind fun v4 => some (v4, S))
def f_X8_fewest (a1 : Int32) (a2 : Int32) (S : St) : Option (Int32 × St) :=
  (f_X8_isThing a1 S).bind fun v1 => (if v1 = 0 then (f_X8_no (-1) S).bind fun z3 => some (z3.1, z3.2) else (f_X8_isYear a2).bind fun v4 => (if v4 = 0 then (f_X8_no (-1) S).bind fun z6 => some (z6.1, z6.2) else (f_X8_fewestOf 75 a1 a2 S).bind fun v7 => some (v7, S)))
def f_X8_gladness  (S : St) : Option Int32 :=
  (f_X8_gladAll 75 S).bind fun v1 => some v1
def f_X8_doAgree (q1 : Nat) (a2 : Int32) (a3 : Int32) (S : St) : Option Int32 :=
  (if (20 + a2) < 0 ∨ 132 ≤ (20 + a2).toNatClampNeg then none else (if (S.1 q1 (20 + a2).toNatClampNeg) < 0 then some 0 else (if (20 + a2) < 0 ∨ 132 ≤ (20 + a2).toNatClampNeg then none else (if (20 + a3) < 0 ∨ 132 ≤ (20 + a3).toNatClampNeg then none else (if (S.1 q1 (20 + a2).toNatClampNeg) = (S.1 q1 (20 + a3).toNatClampNeg) then some 1 else some 0)))))
def f_X8_agreeMany_L16 (n : Nat) (q1 : Nat) (x2 : Int32) (x3 : Int32) (x4 : Int32) (S : St) (k64 : Int32 → Option Int32) : Option Int32 :=
  match n with
  | 0 => none
  | n + 1 => (if (S.1 q1 0) ≤ x4 then k64 x2 else (if (124 + x3) < 0 ∨ 132 ≤ (124 + x3).toNatClampNeg then none else (if (((S.1 q1 (124 + x3).toNatClampNeg) >>> (x4 &&& 31)) &&& 1) = 1 then (f_X8_doAgree q1 x3 x4 S).bind fun v5 => (if v5 = 0 then f_X8_agreeMany_L16 n q1 (x2 + 0) x3 (x4 + 1) S k64 else f_X8_agreeMany_L16 n q1 (x2 + 1) x3 (x4 + 1) S k64) else f_X8_agreeMany_L16 n q1 (x2 + 0) x3 (x4 + 1) S k64)))
def f_X8_agreeMany_L4 (n : Nat) (q1 : Nat) (x2 : Int32) (x3 : Int32) (S : St) (k70 : Int32 → Option Int32) : Option Int32 :=
  match n with
  | 0 => none
  | n + 1 => (if (S.1 q1 0) ≤ x3 then k70 x2 else f_X8_agreeMany_L16 2000 q1 x2 x3 (x3 + 1) S (fun (y7 : Int32) => f_X8_agreeMany_L4 n q1 y7 (x3 + 1) S k70))
def f_X8_agreeMany (q1 : Nat) (S : St) : Option Int32 :=
  f_X8_agreeMany_L4 2000 q1 0 0 S (fun (y8 : Int32) => some y8)
def f_X8_agree_L45 (n : Nat) (x2 : Int32) (x3 : Int32) (S : St) (k85 : Int32 → Option (Int32 × St)) (k98 : Unit → Option (Int32 × St)) : Option (Int32 × St) :=
  match n with
  | 0 => none
  | n + 1 => (if (S.1 75 0) ≤ x3 then k98 () else (if (124 + x2) < 0 ∨ 132 ≤ (124 + x2).toNatClampNeg then none else (if (((S.1 75 (124 + x2).toNatClampNeg) >>> (x3 &&& 31)) &&& 1) = 1 then (f_X8_doAgree 75 x2 x3 S).bind fun v8 => (if v8 = 0 then k85 x3 else f_X8_agree_L45 n x2 (x3 + 1) S k85 k98) else f_X8_agree_L45 n x2 (x3 + 1) S k85 k98)))
def f_X8_agree_L31 (n : Nat) (x2 : Int32) (S : St) (k85 : Int32 → Int32 → Option (Int32 × St)) (k104 : Unit → Option (Int32 × St)) : Option (Int32 × St) :=
  match n with
  | 0 => none
  | n + 1 => (if (S.1 75 0) ≤ x2 then k104 () else f_X8_agree_L45 2000 x2 (x2 + 1) S (fun (y10 : Int32) => k85 x2 y10) (fun _ : Unit => f_X8_agree_L31 n (x2 + 1) S k85 k104))
def f_X8_agree (a1 : Int32) (S : St) : Option (Int32 × St) :=
  (f_X8_isIn a1 0 1).bind fun v1 => (if v1 = 0 then (f_X8_no (-2) S).bind fun z14 => some (z14.1, z14.2) else (if a1 = 0 then (f_X8_agreeMany 75 S).bind fun v13 => some (v13, S) else f_X8_agree_L31 2000 0 S (fun (y11 : Int32) (y12 : Int32) => some ((10 * y11) + y12, S)) (fun _ : Unit => some ((-9), S))))
def f_X8_mostBy_L104 (n : Nat) (q1 : Nat) (x2 : Int32) (x3 : Int32) (x4 : Int32) (x5 : Int32) (x6 : Int32) (x7 : Int32) (x8 : Int32) (x9 : Int32) (x10 : Int32) (x11 : Int32) (S : St) (k149 : Int32 → Option (Int32 × St)) : Option (Int32 × St) :=
  match n with
  | 0 => none
  | n + 1 => (if 12 ≤ x11 then k149 x10 else (if ((x9 >>> (x11 &&& 31)) &&& 1) = 1 then (f_X8_at x8 x11).bind fun v10 => (if v10 < 0 ∨ 132 ≤ v10.toNatClampNeg then none else (f_X8_most x10 (S.1 q1 v10.toNatClampNeg)).bind fun v12 => f_X8_mostBy_L104 n q1 x2 x3 x4 x5 x6 x7 x8 x9 v12 (x11 + 1) S k149) else f_X8_mostBy_L104 n q1 x2 x3 x4 x5 x6 x7 x8 x9 x10 (x11 + 1) S k149))
def f_X8_mostBy_L27 (n : Nat) (q1 : Nat) (x2 : Int32) (x3 : Int32) (x4 : Int32) (x5 : Int32) (x6 : Int32) (x7 : Int32) (x8 : Int32) (S : St) (k162 : Int32 → Int32 → Int32 → Option (Int32 × St)) : Option (Int32 × St) :=
  match n with
  | 0 => none
  | n + 1 => (if (S.1 q1 0) ≤ x8 then k162 x5 x6 x7 else (if ((x4 >>> (x8 &&& 31)) &&& 1) = 0 then (f_X8_gladOf q1 x8 S).bind fun v17 => f_X8_mostBy_L27 n q1 x2 x3 x4 x5 (x6 + v17) x7 (x8 + 1) S k162 else (if (20 + x8) < 0 ∨ 132 ≤ (20 + x8).toNatClampNeg then none else (if 0 ≤ (S.1 q1 (20 + x8).toNatClampNeg) then (f_X8_cost q1 x8 S).bind fun v6 => (f_X8_canOf q1 x8 S).bind fun v7 => f_X8_mostBy_L104 2000 q1 x2 x3 x4 (x5 - v6) x6 (x7 &&& 0) x8 v7 0 0 S (fun (y13 : Int32) => f_X8_mostBy_L27 n q1 x2 x3 x4 (x5 - v6) (x6 + y13) (x7 &&& 0) (x8 + 1) S k162) else (f_X8_cost q1 x8 S).bind fun v14 => (f_X8_canOf q1 x8 S).bind fun v15 => f_X8_mostBy_L104 2000 q1 x2 x3 x4 (x5 - v14) x6 (x7 &&& 1) x8 v15 0 0 S (fun (y16 : Int32) => f_X8_mostBy_L27 n q1 x2 x3 x4 (x5 - v14) (x6 + y16) (x7 &&& 1) (x8 + 1) S k162)))))
def f_X8_mostBy_L5 (n : Nat) (q1 : Nat) (x2 : Int32) (x3 : Int32) (x4 : Int32) (S : St) (k196 : Int32 → St → Option (Int32 × St)) : Option (Int32 × St) :=
  match n with
  | 0 => none
  | n + 1 => (if (1 <<< ((S.1 q1 0) &&& 31)) ≤ x4 then k196 x3 S else f_X8_mostBy_L27 2000 q1 x2 x3 x4 x2 0 1 0 S (fun (y18 : Int32) (y19 : Int32) (y20 : Int32) => (if y20 = 0 then f_X8_mostBy_L5 n q1 x2 x3 (x4 + 1) S k196 else (if y18 < 0 then f_X8_mostBy_L5 n q1 x2 x3 (x4 + 1) S k196 else (if x3 < y19 then f_X8_mostBy_L5 n q1 x2 y19 (x4 + 1) (up S 74 12 x4) k196 else f_X8_mostBy_L5 n q1 x2 x3 (x4 + 1) S k196)))))
def f_X8_mostBy (q1 : Nat) (a2 : Int32) (S : St) : Option (Int32 × St) :=
  f_X8_mostBy_L5 2000 q1 a2 (-1) 0 S (fun (y24 : Int32) (S25 : St) => some (y24, S25))
def f_X8_most_ (a1 : Int32) (S : St) : Option (Int32 × St) :=
  (f_X8_isIn a1 0 1).bind fun v1 => (if v1 = 0 then (f_X8_no (-2) S).bind fun z5 => some (z5.1, z5.2) else (f_X8_mostBy 75 (S.1 75 2) S).bind fun z3 => (if a1 = 0 then some (z3.1, z3.2) else some (z3.2.1 74 12, z3.2)))
def f_X8_byMinutes_L26 (n : Nat) (x1 : Int32) (x2 : Int32) (S : St) (k44 : St → Option (Int32 × St)) : Option (Int32 × St) :=
  match n with
  | 0 => none
  | n + 1 => (if x1 < x2 then k44 S else (if x2 < 0 ∨ 100 ≤ x2.toNatClampNeg then none else f_X8_byMinutes_L26 n x1 (x2 + 1) (up S 83 x2.toNatClampNeg 0) k44))
def f_X8_byMinutes_L87 (n : Nat) (x1 : Int32) (x2 : Int32) (x3 : Int32) (x4 : Int32) (S : St) (k156 : St → Option (Int32 × St)) : Option (Int32 × St) :=
  match n with
  | 0 => none
  | n + 1 => (if x3 < x4 then k156 S else (if (20 + x2) < 0 ∨ 132 ≤ (20 + x2).toNatClampNeg then none else (if 0 ≤ (S.1 75 (20 + x2).toNatClampNeg) then k156 S else (if x3 < 0 ∨ 100 ≤ x3.toNatClampNeg then none else (if (x3 - x4) < 0 ∨ 100 ≤ (x3 - x4).toNatClampNeg then none else (f_X8_yearOf 75 x2 x4 0 S).bind fun v16 => (f_X8_at x2 v16).bind fun v17 => (if v17 < 0 ∨ 132 ≤ v17.toNatClampNeg then none else (f_X8_most (S.1 84 x3.toNatClampNeg) ((S.1 83 (x3 - x4).toNatClampNeg) + (S.1 75 v17.toNatClampNeg))).bind fun v19 => (if x3 < 0 ∨ 100 ≤ x3.toNatClampNeg then none else f_X8_byMinutes_L87 n x1 x2 x3 (x4 + 1) (up S 84 x3.toNatClampNeg v19) k156)))))))
def f_X8_byMinutes_L58 (n : Nat) (x1 : Int32) (x2 : Int32) (x3 : Int32) (S : St) (k162 : St → Option (Int32 × St)) : Option (Int32 × St) :=
  match n with
  | 0 => none
  | n + 1 => (if x1 < x3 then k162 S else (if x3 < 0 ∨ 100 ≤ x3.toNatClampNeg then none else (f_X8_gladOf 75 x2 S).bind fun v9 => (if x3 < 0 ∨ 100 ≤ x3.toNatClampNeg then none else f_X8_byMinutes_L87 2000 x1 x2 x3 0 (up S 84 x3.toNatClampNeg ((S.1 83 x3.toNatClampNeg) + v9)) (fun (S21 : St) => f_X8_byMinutes_L58 n x1 x2 (x3 + 1) S21 k162))))
def f_X8_byMinutes_L164 (n : Nat) (x1 : Int32) (x2 : Int32) (x3 : Int32) (S : St) (k187 : St → Option (Int32 × St)) : Option (Int32 × St) :=
  match n with
  | 0 => none
  | n + 1 => (if x1 < x3 then k187 S else (if x3 < 0 ∨ 100 ≤ x3.toNatClampNeg then none else (if x3 < 0 ∨ 100 ≤ x3.toNatClampNeg then none else f_X8_byMinutes_L164 n x1 x2 (x3 + 1) (up S 83 x3.toNatClampNeg (S.1 84 x3.toNatClampNeg)) k187)))
def f_X8_byMinutes_L46 (n : Nat) (x1 : Int32) (x2 : Int32) (S : St) (k193 : St → Option (Int32 × St)) : Option (Int32 × St) :=
  match n with
  | 0 => none
  | n + 1 => (if (S.1 75 0) ≤ x2 then k193 S else f_X8_byMinutes_L58 2000 x1 x2 0 S (fun (S22 : St) => f_X8_byMinutes_L164 2000 x1 x2 0 S22 (fun (S26 : St) => f_X8_byMinutes_L46 n x1 (x2 + 1) S26 k193)))
def f_X8_byMinutes (a1 : Int32) (S : St) : Option (Int32 × St) :=
  (if 0 ≤ a1 then (if a1 ≤ 99 then f_X8_byMinutes_L26 2000 a1 0 S (fun (S5 : St) => f_X8_byMinutes_L46 2000 a1 0 S5 (fun (S27 : St) => (if a1 < 0 ∨ 100 ≤ a1.toNatClampNeg then none else some (S27.1 83 a1.toNatClampNeg, S27)))) else (f_X8_no (-6) S).bind fun z29 => some (z29.1, z29.2)) else (f_X8_no (-4) S).bind fun z30 => some (z30.1, z30.2))
def f_X8_fewDrops_L13 (n : Nat) (x1 : Int32) (x2 : Int32) (S : St) (k32 : Int32 → St → Option (Int32 × St)) (k40 : St → Option (Int32 × St)) : Option (Int32 × St) :=
  match n with
  | 0 => none
  | n + 1 => (if 99 < x2 then k40 S else (f_X8_mostBy 75 x2 S).bind fun z3 => (if z3.1 = x1 then k32 x2 z3.2 else f_X8_fewDrops_L13 n x1 (x2 + 1) z3.2 k32 k40))
def f_X8_fewDrops  (S : St) : Option (Int32 × St) :=
  (f_X8_mostBy 75 99 S).bind fun z1 => f_X8_fewDrops_L13 2000 z1.1 0 z1.2 (fun (y5 : Int32) (S6 : St) => some (y5, S6)) (fun (S7 : St) => some ((-9), S7))
def f_X8_together_L73 (n : Nat) (x1 : Int32) (x2 : Int32) (x3 : Int32) (x4 : Int32) (x5 : Int32) (x6 : Int32) (S : St) (k144 : Int32 → Int32 → Option (Int32 × St)) : Option (Int32 × St) :=
  match n with
  | 0 => none
  | n + 1 => (if 12 ≤ x6 then k144 x4 x5 else (f_X8_fewestOf 75 x1 x6 S).bind fun v11 => (f_X8_fewestOf 75 x2 x6 S).bind fun v12 => (if v11 < 0 then f_X8_together_L73 n x1 x2 x3 x4 x5 (x6 + 1) S k144 else (if v12 < 0 then f_X8_together_L73 n x1 x2 x3 x4 x5 (x6 + 1) S k144 else (if (v11 + v12) < x5 then f_X8_together_L73 n x1 x2 x3 x6 (v11 + v12) (x6 + 1) S k144 else f_X8_together_L73 n x1 x2 x3 x4 x5 (x6 + 1) S k144))))
def f_X8_together (a1 : Int32) (a2 : Int32) (a3 : Int32) (S : St) : Option (Int32 × St) :=
  (f_X8_areTwo a1 a2 S).bind fun v1 => (if v1 = 0 then (f_X8_no (-1) S).bind fun z22 => some (z22.1, z22.2) else (f_X8_isIn a3 0 1).bind fun v3 => (if v3 = 0 then (f_X8_no (-2) S).bind fun z21 => some (z21.1, z21.2) else (if (20 + a1) < 0 ∨ 132 ≤ (20 + a1).toNatClampNeg then none else (if 0 ≤ (S.1 75 (20 + a1).toNatClampNeg) then (f_X8_no (-3) S).bind fun z7 => some (z7.1, z7.2) else (if (20 + a2) < 0 ∨ 132 ≤ (20 + a2).toNatClampNeg then none else (if (S.1 75 (20 + a2).toNatClampNeg) < 0 then f_X8_together_L73 2000 a1 a2 a3 (-9) 1000000000 0 S (fun (y16 : Int32) (y17 : Int32) => (if y16 < 0 then some (y16, S) else (if a3 = 1 then some (y16, S) else some (y17, S)))) else (f_X8_no (-3) S).bind fun z20 => some (z20.1, z20.2)))))))
def f_X8_gladdest_L14 (n : Nat) (x1 : Int32) (x2 : Int32) (x3 : Int32) (S : St) (k49 : Int32 → Option Int32) : Option Int32 :=
  match n with
  | 0 => none
  | n + 1 => (if x3 < 0 then k49 x2 else (f_X8_at x1 x3).bind fun v2 => (if v2 < 0 ∨ 132 ≤ v2.toNatClampNeg then none else (f_X8_at x1 x2).bind fun v4 => (if v4 < 0 ∨ 132 ≤ v4.toNatClampNeg then none else (if (S.1 75 v2.toNatClampNeg) ≤ (S.1 75 v4.toNatClampNeg) then f_X8_gladdest_L14 n x1 x2 (x3 + (-1)) S k49 else f_X8_gladdest_L14 n x1 x3 (x3 + (-1)) S k49))))
def f_X8_gladdest (a1 : Int32) (S : St) : Option Int32 :=
  f_X8_gladdest_L14 2000 a1 (S.1 75 1) (S.1 75 1) S (fun (y7 : Int32) => some y7)
def f_X8_queue_L26 (n : Nat) (x1 : Int32) (x3 : Int32) (S : St) (k41 : St → Option (Int32 × St)) : Option (Int32 × St) :=
  match n with
  | 0 => none
  | n + 1 => (if 4 ≤ x3 then k41 S else (if x3 < 0 ∨ 100 ≤ x3.toNatClampNeg then none else f_X8_queue_L26 n x1 (x3 + 1) (up S 83 x3.toNatClampNeg 0) k41))
def f_X8_queue_L110 (n : Nat) (x1 : Int32) (x3 : Int32) (x4 : Int32) (x5 : Int32) (x6 : Int32) (x7 : Int32) (x8 : Int32) (S : St) (k142 : Int32 → Option (Int32 × St)) : Option (Int32 × St) :=
  match n with
  | 0 => none
  | n + 1 => (if (S.1 75 3) ≤ x8 then k142 x7 else (if x8 < 0 ∨ 100 ≤ x8.toNatClampNeg then none else (if x7 < 0 ∨ 100 ≤ x7.toNatClampNeg then none else (if (S.1 83 x7.toNatClampNeg) ≤ (S.1 83 x8.toNatClampNeg) then f_X8_queue_L110 n x1 x3 x4 x5 x6 x7 (x8 + 1) S k142 else f_X8_queue_L110 n x1 x3 x4 x5 x6 x8 (x8 + 1) S k142))))
def f_X8_queue_L50 (n : Nat) (x1 : Int32) (x3 : Int32) (x4 : Int32) (x5 : Int32) (S : St) (k178 : Int32 → Int32 → St → Option (Int32 × St)) : Option (Int32 × St) :=
  match n with
  | 0 => none
  | n + 1 => (if (S.1 75 0) ≤ x5 then k178 x3 x4 S else (if (20 + x5) < 0 ∨ 132 ≤ (20 + x5).toNatClampNeg then none else (if (S.1 75 (20 + x5).toNatClampNeg) < 0 then (f_X8_gladdest x5 S).bind fun v8 => (f_X8_fewestOf 75 x5 v8 S).bind fun v9 => (if 0 ≤ v9 then f_X8_queue_L110 2000 x1 x3 x4 x5 v9 0 1 S (fun (y15 : Int32) => (if x5 = x1 then (if y15 < 0 ∨ 100 ≤ y15.toNatClampNeg then none else (if y15 < 0 ∨ 100 ≤ y15.toNatClampNeg then none else (if y15 < 0 ∨ 100 ≤ y15.toNatClampNeg then none else (if y15 < 0 ∨ 100 ≤ y15.toNatClampNeg then none else (f_X8_most x3 ((up S 83 y15.toNatClampNeg ((S.1 83 y15.toNatClampNeg) + v9)).1 83 y15.toNatClampNeg)).bind fun v25 => f_X8_queue_L50 n x1 v25 (S.1 83 y15.toNatClampNeg) (x5 + 1) (up S 83 y15.toNatClampNeg ((S.1 83 y15.toNatClampNeg) + v9)) k178)))) else (if y15 < 0 ∨ 100 ≤ y15.toNatClampNeg then none else (if y15 < 0 ∨ 100 ≤ y15.toNatClampNeg then none else (if y15 < 0 ∨ 100 ≤ y15.toNatClampNeg then none else (f_X8_most x3 ((up S 83 y15.toNatClampNeg ((S.1 83 y15.toNatClampNeg) + v9)).1 83 y15.toNatClampNeg)).bind fun v20 => f_X8_queue_L50 n x1 v20 x4 (x5 + 1) (up S 83 y15.toNatClampNeg ((S.1 83 y15.toNatClampNeg) + v9)) k178))))) else f_X8_queue_L50 n x1 x3 x4 (x5 + 1) S k178) else f_X8_queue_L50 n x1 x3 x4 (x5 + 1) S k178)))
def f_X8_queue (a1 : Int32) (S : St) : Option (Int32 × St) :=
  (if a1 = (-1) then f_X8_queue_L26 2000 a1 0 S (fun (S4 : St) => f_X8_queue_L50 2000 a1 0 (-9) 0 S4 (fun (y27 : Int32) (y28 : Int32) (S29 : St) => (if 0 ≤ a1 then some (y28, S29) else some (y27, S29)))) else (f_X8_isThing a1 S).bind fun v31 => (if v31 = 0 then (f_X8_no (-1) S).bind fun z38 => some (z38.1, z38.2) else f_X8_queue_L26 2000 a1 0 S (fun (S33 : St) => f_X8_queue_L50 2000 a1 0 (-9) 0 S33 (fun (y34 : Int32) (y35 : Int32) (S36 : St) => (if 0 ≤ a1 then some (y35, S36) else some (y34, S36))))))
def f_X8_oneMore  (S : St) : Option (Int32 × St) :=
  (f_X8_lays 75 76 S).bind fun S1 => (f_X8_least 11 ((S1.1 75 1) + 1)).bind fun v2 => (f_X8_gladAll 76 (up S1 76 1 v2)).bind fun v3 => some (v3, (up S1 76 1 v2))
def f_X8_bestYear_L6 (n : Nat) (x1 : Int32) (x2 : Int32) (x3 : Int32) (S : St) (k66 : Int32 → St → Option (Int32 × St)) : Option (Int32 × St) :=
  match n with
  | 0 => none
  | n + 1 => (if 12 ≤ x3 then k66 x1 S else (f_X8_lays 75 76 S).bind fun S2 => (f_X8_mostBy 76 ((up S2 76 1 x3).1 76 2) (up S2 76 1 x3)).bind fun z3 => (if x2 < z3.1 then f_X8_bestYear_L6 n x3 z3.1 (x3 + 1) z3.2 k66 else f_X8_bestYear_L6 n x1 x2 (x3 + 1) z3.2 k66))
def f_X8_bestYear  (S : St) : Option (Int32 × St) :=
  f_X8_bestYear_L6 2000 0 (-1) 0 S (fun (y5 : Int32) (S6 : St) => some (y5, S6))
def f_X8_waterOf (a1 : Int32) (S : St) : Option Int32 :=
  (f_X8_at a1 (S.1 75 1)).bind fun v1 => (if v1 < 0 ∨ 132 ≤ v1.toNatClampNeg then none else (f_X8_gladOf 75 a1 S).bind fun v3 => some ((S.1 75 v1.toNatClampNeg) - v3))
def f_X8_water (a1 : Int32) (S : St) : Option (Int32 × St) :=
  (f_X8_isThing a1 S).bind fun v1 => (if v1 = 0 then (f_X8_noFar (-1) S).bind fun z7 => some (z7.1, z7.2) else (if (20 + a1) < 0 ∨ 132 ≤ (20 + a1).toNatClampNeg then none else (if 0 ≤ (S.1 75 (20 + a1).toNatClampNeg) then (f_X8_waterOf a1 S).bind fun v5 => some (v5, S) else (f_X8_noFar (-3) S).bind fun z6 => some (z6.1, z6.2))))
def f_X8_bestWash_L7 (n : Nat) (x1 : Int32) (x2 : Int32) (x3 : Int32) (S : St) (k43 : Int32 → Option Int32) : Option Int32 :=
  match n with
  | 0 => none
  | n + 1 => (if (S.1 75 0) ≤ x3 then k43 x1 else (f_X8_waterOf x3 S).bind fun v2 => (if x2 < v2 then (f_X8_waterOf x3 S).bind fun v4 => f_X8_bestWash_L7 n x3 v4 (x3 + 1) S k43 else f_X8_bestWash_L7 n x1 x2 (x3 + 1) S k43))
def f_X8_bestWash  (S : St) : Option Int32 :=
  f_X8_bestWash_L7 2000 (-9) 0 0 S (fun (y5 : Int32) => some y5)
def f_X8_sour_L4 (n : Nat) (x1 : Int32) (x2 : Int32) (S : St) (k38 : Int32 → Option Int32) : Option Int32 :=
  match n with
  | 0 => none
  | n + 1 => (if (S.1 75 0) ≤ x2 then k38 x1 else (f_X8_waterOf x2 S).bind fun v2 => (if v2 ≤ 0 then f_X8_sour_L4 n (x1 ||| 0) (x2 + 1) S k38 else f_X8_sour_L4 n (x1 ||| (1 <<< (x2 &&& 31))) (x2 + 1) S k38))
def f_X8_sour  (S : St) : Option Int32 :=
  f_X8_sour_L4 2000 0 0 S (fun (y4 : Int32) => some y4)
def f_X8_regret (a1 : Int32) (S : St) : Option (Int32 × St) :=
  (f_X8_isThing a1 S).bind fun v1 => (if v1 = 0 then (f_X8_no (-1) S).bind fun z3 => some (z3.1, z3.2) else (f_X8_gladdest a1 S).bind fun v4 => (f_X8_at a1 v4).bind fun v5 => (if v5 < 0 ∨ 132 ≤ v5.toNatClampNeg then none else (f_X8_gladOf 75 a1 S).bind fun v7 => (f_X8_most 0 ((S.1 75 v5.toNatClampNeg) - v7)).bind fun v8 => some (v8, S)))
def f_X8_two_L58 (n : Nat) (x1 : Int32) (x2 : Int32) (x4 : Int32) (x5 : Int32) (x6 : Int32) (x7 : Int32) (x8 : Int32) (S : St) (k118 : Int32 → Option (Int32 × St)) : Option (Int32 × St) :=
  match n with
  | 0 => none
  | n + 1 => (if 5 ≤ x8 then k118 x7 else (f_X8_yearOf 75 x1 x2 (x8 + x5) S).bind fun v7 => (if x6 < v7 then f_X8_two_L58 n x1 x2 x4 x5 x6 (x7 &&& 0) (x8 + 1) S k118 else (f_X8_yearOf 75 x1 x2 (x4 + x8) S).bind fun v9 => (if v9 < x6 then f_X8_two_L58 n x1 x2 x4 x5 x6 (x7 &&& 0) (x8 + 1) S k118 else f_X8_two_L58 n x1 x2 x4 x5 x6 (x7 &&& 1) (x8 + 1) S k118)))
def f_X8_two_L30 (n : Nat) (x1 : Int32) (x2 : Int32) (x4 : Int32) (x5 : Int32) (S : St) (k123 : Int32 → Option (Int32 × St)) (k138 : Unit → Option (Int32 × St)) : Option (Int32 × St) :=
  match n with
  | 0 => none
  | n + 1 => (if 5 ≤ x5 then k138 () else (f_X8_yearOf 75 x1 x2 (x4 + x5) S).bind fun v5 => f_X8_two_L58 2000 x1 x2 x4 x5 v5 1 0 S (fun (y11 : Int32) => (if y11 = 0 then f_X8_two_L30 n x1 x2 x4 (x5 + 1) S k123 k138 else k123 x5)))
def f_X8_two_L21 (n : Nat) (x1 : Int32) (x2 : Int32) (x4 : Int32) (S : St) (k123 : Int32 → Int32 → Option (Int32 × St)) (k144 : Unit → Option (Int32 × St)) : Option (Int32 × St) :=
  match n with
  | 0 => none
  | n + 1 => (if 5 ≤ x4 then k144 () else f_X8_two_L30 2000 x1 x2 x4 0 S (fun (y13 : Int32) => k123 x4 y13) (fun _ : Unit => f_X8_two_L21 n x1 x2 (x4 + 1) S k123 k144))
def f_X8_two (a1 : Int32) (a2 : Int32) (S : St) : Option (Int32 × St) :=
  (f_X8_wrongGlue a1 a2 0 S).bind fun v1 => (if v1 = 0 then f_X8_two_L21 2000 a1 a2 0 S (fun (y14 : Int32) (y15 : Int32) => some ((10 * y14) + y15, S)) (fun _ : Unit => some ((-9), S)) else (f_X8_no v1 S).bind fun z16 => some (z16.1, z16.2))
def f_X8_gcd_L6 (n : Nat) (x4 : Int64) (x6 : Int64) (k31 : Int64 → Option Int64) : Option Int64 :=
  match n with
  | 0 => none
  | n + 1 => (if (lg_cmp x6 0) = 0 then k31 x4 else (if x6 = 0 then none else f_X8_gcd_L6 n x6 (x4 - x4 / x6 * x6) k31))
def f_X8_gcd (a0 : Int64) (a2 : Int64)  : Option Int64 :=
  f_X8_gcd_L6 2000 a0 a2 (fun (y3 : Int64) => some y3)
def f_X8_partOf (a0 : Int64) (a2 : Int64) (a4 : Int32)  : Option Int64 :=
  (if (lg_cmp a0 0) = 0 then some a4.toInt64 else (if a4 = 0 then (f_X8_gcd a0 a2).bind fun v5 => (if v5 = 0 then none else some (a0 / v5)) else (f_X8_gcd a0 a2).bind fun v3 => (if v3 = 0 then none else some (a2 / v3))))
def f_X8_slips_L24 (n : Nat) (x1 : Int32) (x2 : Int32) (x3 : Int32) (x4 : Int32) (x5 : Int64) (x7 : Int32) (x8 : Int64) (x10 : Int32) (S : St) (k45 : Int64 → Option Int64) : Option Int64 :=
  match n with
  | 0 => none
  | n + 1 => (if x2 ≤ x10 then k45 x8 else f_X8_slips_L24 n x1 x2 x3 x4 x5 x7 (x8 * ((x3 - 1).toInt64)) (x10 + 1) S k45)
def f_X8_slips_L6 (n : Nat) (x1 : Int32) (x2 : Int32) (x3 : Int32) (x4 : Int32) (x5 : Int64) (x7 : Int32) (S : St) (k112 : Int64 → Option Int64) : Option Int64 :=
  match n with
  | 0 => none
  | n + 1 => (if (1 <<< (x2 &&& 31)) ≤ x7 then k112 x5 else (f_X8_bits x7).bind fun v2 => f_X8_slips_L24 2000 x1 x2 x3 x4 x5 x7 1 v2 S (fun (y4 : Int64) => (f_X8_bits x7).bind fun v5 => (f_X8_yearOf 75 x1 (5 * (x2 - v5)) 0 S).bind fun v6 => (if 0 ≤ x4 then (if v6 = x4 then f_X8_slips_L6 n x1 x2 x3 x4 (x5 + y4) (x7 + 1) S k112 else f_X8_slips_L6 n x1 x2 x3 x4 (x5 + 0) (x7 + 1) S k112) else (f_X8_at x1 v6).bind fun v9 => (if v9 < 0 ∨ 132 ≤ v9.toNatClampNeg then none else f_X8_slips_L6 n x1 x2 x3 x4 (x5 + (y4 * ((S.1 75 v9.toNatClampNeg).toInt64))) (x7 + 1) S k112))))
def f_X8_slips (a1 : Int32) (a2 : Int32) (a3 : Int32) (a4 : Int32) (S : St) : Option Int64 :=
  f_X8_slips_L6 2000 a1 a2 a3 a4 0 0 S (fun (y11 : Int64) => some y11)
def f_X8_power_L5 (n : Nat) (x0 : Int32) (x1 : Int32) (x2 : Int64) (x4 : Int32) (k22 : Int64 → Option Int64) : Option Int64 :=
  match n with
  | 0 => none
  | n + 1 => (if x1 ≤ x4 then k22 x2 else f_X8_power_L5 n x0 x1 (x2 * x0.toInt64) (x4 + 1) k22)
def f_X8_power (a0 : Int32) (a1 : Int32)  : Option Int64 :=
  f_X8_power_L5 2000 a0 a1 1 0 (fun (y2 : Int64) => some y2)
def f_X8_slip (a1 : Int32) (a2 : Int32) (a3 : Int32) (a4 : Int32) (a5 : Int32) (S : St) : Option (Int64 × St) :=
  (f_X8_isThing a1 S).bind fun v1 => (if v1 = 0 then (f_X8_noWide (-1) S).bind fun z3 => some (z3.1, z3.2) else (f_X8_isYear a4).bind fun v4 => (if v4 = 0 then (f_X8_noWide (-1) S).bind fun z20 => some (z20.1, z20.2) else (if a2 < 0 then (f_X8_noWide (-4) S).bind fun z7 => some (z7.1, z7.2) else (if 2 ≤ a3 then (if 8 < a2 then (f_X8_noWide (-6) S).bind fun z10 => some (z10.1, z10.2) else (if a3 ≤ 20 then (f_X8_isIn a5 0 1).bind fun v12 => (if v12 = 0 then (f_X8_noWide (-2) S).bind fun z17 => some (z17.1, z17.2) else (f_X8_slips a1 a2 a3 a4 S).bind fun v14 => (f_X8_power a3 a2).bind fun v15 => (f_X8_partOf v14 v15 a5).bind fun v16 => some (v16, S)) else (f_X8_noWide (-6) S).bind fun z18 => some (z18.1, z18.2))) else (f_X8_noWide (-4) S).bind fun z19 => some (z19.1, z19.2)))))
def f_X8_mean (a1 : Int32) (a2 : Int32) (a3 : Int32) (a4 : Int32) (S : St) : Option (Int64 × St) :=
  (f_X8_isThing a1 S).bind fun v1 => (if v1 = 0 then (f_X8_noWide (-1) S).bind fun z17 => some (z17.1, z17.2) else (if a2 < 0 then (f_X8_noWide (-4) S).bind fun z4 => some (z4.1, z4.2) else (if 2 ≤ a3 then (if 8 < a2 then (f_X8_noWide (-6) S).bind fun z7 => some (z7.1, z7.2) else (if a3 ≤ 20 then (f_X8_isIn a4 0 1).bind fun v9 => (if v9 = 0 then (f_X8_noWide (-2) S).bind fun z14 => some (z14.1, z14.2) else (f_X8_slips a1 a2 a3 (-1) S).bind fun v11 => (f_X8_power a3 a2).bind fun v12 => (f_X8_partOf v11 v12 a4).bind fun v13 => some (v13, S)) else (f_X8_noWide (-6) S).bind fun z15 => some (z15.1, z15.2))) else (f_X8_noWide (-4) S).bind fun z16 => some (z16.1, z16.2))))
def f_X8_whatWas_L87 (n : Nat) (x1 : Int32) (x2 : Int32) (x3 : Int32) (x4 : Int32) (x5 : Int32) (x6 : Int32) (S : St) (k135 : Int32 → Option (Int32 × St)) : Option (Int32 × St) :=
  match n with
  | 0 => none
  | n + 1 => (if (S.1 74 9) ≤ x6 then k135 x5 else (f_X8_yearOf 76 x1 (5 * x6) 0 S).bind fun v11 => (if x6 < 0 ∨ 16 ≤ x6.toNatClampNeg then none else (if v11 = (S.1 80 x6.toNatClampNeg) then f_X8_whatWas_L87 n x1 x2 x3 x4 (x5 &&& 1) (x6 + 1) S k135 else f_X8_whatWas_L87 n x1 x2 x3 x4 (x5 &&& 0) (x6 + 1) S k135)))
def f_X8_whatWas_L35 (n : Nat) (x1 : Int32) (x2 : Int32) (x3 : Int32) (x4 : Int32) (S : St) (k157 : Int32 → St → Option (Int32 × St)) : Option (Int32 × St) :=
  match n with
  | 0 => none
  | n + 1 => (if x2 = 0 then (if 6 ≤ x4 then k157 x3 S else (f_X8_lays 75 76 S).bind fun S20 => (if x2 = 0 then (if (4 + x1) < 0 ∨ 132 ≤ (4 + x1).toNatClampNeg then none else f_X8_whatWas_L87 2000 x1 x2 x3 x4 1 0 (up S20 76 (4 + x1).toNatClampNeg x4) (fun (y26 : Int32) => (if y26 = 0 then f_X8_whatWas_L35 n x1 x2 (x3 ||| 0) (x4 + 1) (up S20 76 (4 + x1).toNatClampNeg x4) k157 else f_X8_whatWas_L35 n x1 x2 (x3 ||| (1 <<< (x4 &&& 31))) (x4 + 1) (up S20 76 (4 + x1).toNatClampNeg x4) k157))) else (if (12 + x1) < 0 ∨ 132 ≤ (12 + x1).toNatClampNeg then none else f_X8_whatWas_L87 2000 x1 x2 x3 x4 1 0 (up S20 76 (12 + x1).toNatClampNeg x4) (fun (y23 : Int32) => (if y23 = 0 then f_X8_whatWas_L35 n x1 x2 (x3 ||| 0) (x4 + 1) (up S20 76 (12 + x1).toNatClampNeg x4) k157 else f_X8_whatWas_L35 n x1 x2 (x3 ||| (1 <<< (x4 &&& 31))) (x4 + 1) (up S20 76 (12 + x1).toNatClampNeg x4) k157))))) else (if 10 ≤ x4 then k157 x3 S else (f_X8_lays 75 76 S).bind fun S7 => (if x2 = 0 then (if (4 + x1) < 0 ∨ 132 ≤ (4 + x1).toNatClampNeg then none else f_X8_whatWas_L87 2000 x1 x2 x3 x4 1 0 (up S7 76 (4 + x1).toNatClampNeg x4) (fun (y17 : Int32) => (if y17 = 0 then f_X8_whatWas_L35 n x1 x2 (x3 ||| 0) (x4 + 1) (up S7 76 (4 + x1).toNatClampNeg x4) k157 else f_X8_whatWas_L35 n x1 x2 (x3 ||| (1 <<< (x4 &&& 31))) (x4 + 1) (up S7 76 (4 + x1).toNatClampNeg x4) k157))) else (if (12 + x1) < 0 ∨ 132 ≤ (12 + x1).toNatClampNeg then none else f_X8_whatWas_L87 2000 x1 x2 x3 x4 1 0 (up S7 76 (12 + x1).toNatClampNeg x4) (fun (y14 : Int32) => (if y14 = 0 then f_X8_whatWas_L35 n x1 x2 (x3 ||| 0) (x4 + 1) (up S7 76 (12 + x1).toNatClampNeg x4) k157 else f_X8_whatWas_L35 n x1 x2 (x3 ||| (1 <<< (x4 &&& 31))) (x4 + 1) (up S7 76 (12 + x1).toNatClampNeg x4) k157))))))
def f_X8_whatWas (a1 : Int32) (a2 : Int32) (S : St) : Option (Int32 × St) :=
  (f_X8_isThing a1 S).bind fun v1 => (if v1 = 0 then (f_X8_no (-1) S).bind fun z31 => some (z31.1, z31.2) else (f_X8_isIn a2 0 1).bind fun v3 => (if v3 = 0 then (f_X8_no (-2) S).bind fun z30 => some (z30.1, z30.2) else f_X8_whatWas_L35 2000 a1 a2 0 0 S (fun (y28 : Int32) (S29 : St) => some (y28, S29))))
def f_X8_mended_L59 (n : Nat) (x1 : Int32) (x2 : Int32) (x3 : Int32) (x4 : Int32) (S : St) (k92 : Int32 → St → Option (Int32 × St)) (k101 : St → Option (Int32 × St)) : Option (Int32 × St) :=
  match n with
  | 0 => none
  | n + 1 => (if 99 < x4 then k101 S else (f_X8_at x1 x2).bind fun v10 => (if v10 < 0 ∨ 132 ≤ v10.toNatClampNeg then none else (f_X8_yearOf 76 x1 x3 0 (up S 76 v10.toNatClampNeg x4)).bind fun v12 => (if v12 = x2 then k92 x4 (up S 76 v10.toNatClampNeg x4) else f_X8_mended_L59 n x1 x2 x3 (x4 + 1) (up S 76 v10.toNatClampNeg x4) k92 k101)))
def f_X8_mended (a1 : Int32) (a2 : Int32) (a3 : Int32) (S : St) : Option (Int32 × St) :=
  (f_X8_isThing a1 S).bind fun v1 => (if v1 = 0 then (f_X8_no (-1) S).bind fun z3 => some (z3.1, z3.2) else (f_X8_isYear a2).bind fun v4 => (if v4 = 0 then (f_X8_no (-1) S).bind fun z19 => some (z19.1, z19.2) else (if 0 ≤ a3 then (if a3 ≤ 99 then (f_X8_lays 75 76 S).bind fun S8 => f_X8_mended_L59 2000 a1 a2 a3 0 S8 (fun (y14 : Int32) (S15 : St) => some (y14, S15)) (fun (S16 : St) => some ((-9), S16)) else (f_X8_no (-6) S).bind fun z17 => some (z17.1, z17.2)) else (f_X8_no (-4) S).bind fun z18 => some (z18.1, z18.2))))
def f_X8_row (a1 : Int32) (S : St) : Option (Int32 × St) :=
  (if 0 ≤ a1 then (if 99 < a1 then (f_X8_no (-6) S).bind fun z3 => some (z3.1, z3.2) else (if (S.1 74 9) = 16 then (f_X8_no (-6) S).bind fun z6 => some (z6.1, z6.2) else (if (S.1 74 9) < 0 ∨ 16 ≤ (S.1 74 9).toNatClampNeg then none else some ((up (up S 80 (S.1 74 9).toNatClampNeg a1) 74 9 (((up S 80 (S.1 74 9).toNatClampNeg a1).1 74 9) + 1)).1 74 9, (up (up S 80 (S.1 74 9).toNatClampNeg a1) 74 9 (((up S 80 (S.1 74 9).toNatClampNeg a1).1 74 9) + 1)))))) else (f_X8_no (-4) S).bind fun z7 => some (z7.1, z7.2))
def f_X8_judge_L26 (n : Nat) (x1 : Int32) (x2 : Int32) (x3 : Int32) (S : St) (k56 : Int32 → Option (Int32 × St)) (k64 : Unit → Option (Int32 × St)) : Option (Int32 × St) :=
  match n with
  | 0 => none
  | n + 1 => (if x2 ≤ x3 then k64 () else (if 12 ≤ x3 then k56 x3 else (f_X8_at x1 x3).bind fun v5 => (if v5 < 0 ∨ 132 ≤ v5.toNatClampNeg then none else (if x3 < 0 ∨ 16 ≤ x3.toNatClampNeg then none else (if (S.1 75 v5.toNatClampNeg) = (S.1 80 x3.toNatClampNeg) then f_X8_judge_L26 n x1 x2 (x3 + 1) S k56 k64 else k56 x3)))))
def f_X8_judge (a1 : Int32) (S : St) : Option (Int32 × St) :=
  (f_X8_isThing a1 S).bind fun v1 => (if v1 = 0 then (f_X8_no (-1) S).bind fun z10 => some (z10.1, z10.2) else f_X8_judge_L26 2000 a1 (S.1 74 9) 0 (up S 74 9 0) (fun (y9 : Int32) => some (y9, (up S 74 9 0))) (fun _ : Unit => some ((-9), (up S 74 9 0))))
def f_X8_clear  (S : St) : Option (Int32 × St) :=
  some (S.1 74 9, (up S 74 9 0))
def f_X8_drawn (a1 : Int32) (S : St) : Option (Int32 × St) :=
  (if a1 = 0 then none else some (((((up S 74 15 (((S.1 74 15) * 1664525) + 1013904223)).1 74 15) &&& 2147483647) / 256) - ((((up S 74 15 (((S.1 74 15) * 1664525) + 1013904223)).1 74 15) &&& 2147483647) / 256) / a1 * a1, (up S 74 15 (((S.1 74 15) * 1664525) + 1013904223))))
def f_X8_lots_L72 (n : Nat) (x1 : Int32) (x3 : Int32) (x4 : Int32) (x5 : Int32) (x6 : Int32) (S : St) (k139 : St → Option (Int32 × St)) : Option (Int32 × St) :=
  match n with
  | 0 => none
  | n + 1 => (if (S.1 76 0) ≤ x6 then k139 S else (if (20 + x6) < 0 ∨ 132 ≤ (20 + x6).toNatClampNeg then none else (if (S.1 76 (20 + x6).toNatClampNeg) < 0 then (f_X8_drawn 60 S).bind fun z10 => (f_X8_drawn 4 z10.2).bind fun z11 => (f_X8_yearOf 76 x6 z10.1 z11.1 z11.2).bind fun v12 => (if (20 + x6) < 0 ∨ 132 ≤ (20 + x6).toNatClampNeg then none else f_X8_lots_L72 n x1 x3 x4 x5 (x6 + 1) (up z11.2 76 (20 + x6).toNatClampNeg v12) k139) else f_X8_lots_L72 n x1 x3 x4 x5 (x6 + 1) S k139)))
def f_X8_lots_L52 (n : Nat) (x1 : Int32) (x3 : Int32) (x4 : Int32) (x5 : Int32) (S : St) (k172 : Int32 → St → Option (Int32 × St)) : Option (Int32 × St) :=
  match n with
  | 0 => none
  | n + 1 => (if x1 ≤ x5 then k172 x4 S else (f_X8_lays 75 76 S).bind fun S6 => f_X8_lots_L72 2000 x1 x3 x4 x5 0 S6 (fun (S14 : St) => (if x3 = 0 then (f_X8_gladAll 76 S14).bind fun v17 => f_X8_lots_L52 n x1 x3 (x4 + v17) (x5 + 1) S14 k172 else (f_X8_agreeMany 76 S14).bind fun v16 => f_X8_lots_L52 n x1 x3 (x4 + v16) (x5 + 1) S14 k172)))
def f_X8_lots (a1 : Int32) (a2 : Int32) (a3 : Int32) (S : St) : Option (Int32 × St) :=
  (if 1 ≤ a1 then (if a1 ≤ 20 then (f_X8_isIn a3 0 1).bind fun v3 => (if v3 = 0 then (f_X8_no (-2) S).bind fun z20 => some (z20.1, z20.2) else f_X8_lots_L52 2000 a1 a3 0 0 (up S 74 15 a2) (fun (y18 : Int32) (S19 : St) => some (y18, S19))) else (f_X8_no (-6) S).bind fun z21 => some (z21.1, z21.2)) else (f_X8_no (-4) S).bind fun z22 => some (z22.1, z22.2))
def f_X8_image  (S : St) : Option (Int32 × St) :=
  (f_X8_lays 75 77 S).bind fun S1 => some ((up S1 74 4 1).1 75 1, (up S1 74 4 1))
def f_X8_on  (S : St) : Option (Int32 × St) :=
  (if (S.1 74 4) = 0 then (f_X8_no (-3) S).bind fun z3 => some (z3.1, z3.2) else (f_X8_lays 77 75 S).bind fun S2 => some (S2.1 75 1, S2))
def f_X8_count_L81 (n : Nat) (x2 : Int32) (x3 : Int32) (S : St) (k119 : Int32 → Option Int32) : Option Int32 :=
  match n with
  | 0 => none
  | n + 1 => (if (S.1 75 0) ≤ x3 then k119 x2 else (if (20 + x3) < 0 ∨ 132 ≤ (20 + x3).toNatClampNeg then none else (if (S.1 75 (20 + x3).toNatClampNeg) < 0 then f_X8_count_L81 n (x2 ||| 0) (x3 + 1) S k119 else f_X8_count_L81 n (x2 ||| (1 <<< (x3 &&& 31))) (x3 + 1) S k119)))
def f_X8_count_L123 (n : Nat) (x2 : Int32) (x3 : Int32) (S : St) (k154 : Int32 → Option Int32) : Option Int32 :=
  match n with
  | 0 => none
  | n + 1 => (if (S.1 75 0) ≤ x3 then k154 x2 else (if (124 + x3) < 0 ∨ 132 ≤ (124 + x3).toNatClampNeg then none else (f_X8_bits (S.1 75 (124 + x3).toNatClampNeg)).bind fun v19 => f_X8_count_L123 n (x2 + v19) (x3 + 1) S k154))
def f_X8_count (a1 : Int32) (S : St) : Option Int32 :=
  (f_X8_isIn a1 11 16).bind fun v1 => (if v1 = 0 then (if a1 = 0 then (if a1 < 0 ∨ 132 ≤ a1.toNatClampNeg then none else some (S.1 75 a1.toNatClampNeg)) else (if a1 = 1 then (if a1 < 0 ∨ 132 ≤ a1.toNatClampNeg then none else some (S.1 75 a1.toNatClampNeg)) else (if a1 = 2 then (if a1 < 0 ∨ 132 ≤ a1.toNatClampNeg then none else some (S.1 75 a1.toNatClampNeg)) else (if a1 = 3 then (if a1 < 0 ∨ 132 ≤ a1.toNatClampNeg then none else some (S.1 75 a1.toNatClampNeg)) else (if a1 = 4 then f_X8_count_L81 2000 0 0 S (fun (y15 : Int32) => some y15) else (if a1 = 5 then f_X8_count_L123 2000 0 0 S (fun (y20 : Int32) => some (y20 / 2)) else (if a1 = 6 then some (S.1 74 9) else (if a1 = 7 then some (S.1 74 8) else some (-9))))))))) else (if (a1 - 10) < 0 ∨ 7 ≤ (a1 - 10).toNatClampNeg then none else some (S.1 81 (a1 - 10).toNatClampNeg)))
-- ===== numbers of cells behind a call =====
theorem kd_at {q v : Nat} {a : Int32} {S : St} (hq : kd q = 3) (h : f_X3_at q a S = some v) : kd v = 6 := by
  rw [f_X3_at] at h
  obtain ⟨c, h⟩ := oi h
  obtain rfl := Option.some.inj h
  exact kd_sht hq (by omega)
end
section
-- ===== places that are written numbers =====
section ZK
variable {l : Launch} {y : MethodName} {M : zM} {pc : Nat} {lv : List (Nat × Value)} {st : List Value} {S : St} {w : Option Value} {S' : St}
theorem z_ialdK {q k0 j : Nat} {i : Int32} (d : decode M.2.1 pc = .ok (.iaload, 1)) (hk : kd q = k0) (hc : ¬ k0 < 9 ∧ k0 < 20) (hin : ¬ (i < 0 ∨ il k0 ≤ i.toNatClampNeg)) (hj : i.toNatClampNeg = j) (k : Z l y M (pc + 1) lv (.int (S.1 q j) :: st) S w S') : Z l y M pc lv (.int i :: .ref q :: st) S w S' := by
  subst hj
  exact z_iald d hk hc hin k
theorem z_iastK {q k0 j : Nat} {i x : Int32} (d : decode M.2.1 pc = .ok (.iastore, 1)) (hk : kd q = k0) (hc : ¬ k0 < 9 ∧ k0 < 20) (hin : ¬ (i < 0 ∨ il k0 ≤ i.toNatClampNeg)) (hj : i.toNatClampNeg = j) (k : Z l y M (pc + 1) lv st (up S q j x) w S') : Z l y M pc lv (.int x :: .int i :: .ref q :: st) S w S' := by
  subst hj
  exact z_iast d hk hc hin k
theorem z_laldK {q j : Nat} {i : Int32} (d : decode M.2.1 pc = .ok (.laload, 1)) (hk : kd q = 21) (hin : ¬ (i < 0 ∨ 9 ≤ i.toNatClampNeg)) (hj : i.toNatClampNeg = j) (k : Z l y M (pc + 1) lv (.long (S.2 j) :: st) S w S') : Z l y M pc lv (.int i :: .ref q :: st) S w S' := by
  subst hj
  exact z_lald d hk hin k
theorem z_lastK {q j : Nat} {i : Int32} {x : Int64} (d : decode M.2.1 pc = .ok (.lastore, 1)) (hk : kd q = 21) (hin : ¬ (i < 0 ∨ 9 ≤ i.toNatClampNeg)) (hj : i.toNatClampNeg = j) (k : Z l y M (pc + 1) lv st (upL S j x) w S') : Z l y M pc lv (.long x :: .int i :: .ref q :: st) S w S' := by
  subst hj
  exact z_last d hk hin k
theorem z_copyK {idx q0 q1 k0 j0 j1 j2 : Nat} {sp dp n : Int32} (d : decode M.2.1 pc = .ok (.invokestatic idx, 3)) (ml : zcp y.cls idx) (h0 : kd q0 = k0) (h1 : kd q1 = k0) (hc : ¬ k0 < 9 ∧ k0 < 20) (hne : q0 ≠ q1) (g1 : ¬ sp < 0) (g2 : ¬ dp < 0) (g3 : ¬ n < 0) (e0 : sp.toNatClampNeg = j0) (e1 : dp.toNatClampNeg = j1) (e2 : n.toNatClampNeg = j2) (g4 : j0 + j2 ≤ il k0) (g5 : j1 + j2 ≤ il k0) (hf : 1 ≤ M.2.2.2.2.1) (hcat : (st.map Value.category).sum + (nativeFrameWords "java/lang/System" "arraycopy" 5 + 11) ≤ M.2.2.2.2.2)
    (k : Z l y M (pc + 3) lv st (upc S q0 q1 j0 j1 j2) w S') : Z l y M pc lv (.int n :: .int dp :: .ref q1 :: .int sp :: .ref q0 :: st) S w S' := by
  subst e0
  subst e1
  subst e2
  exact z_copy d ml h0 h1 hc hne g1 g2 g3 g4 g5 hf hcat k
end ZK
-- ===== answers that are booleans =====
theorem b_X8_isIn {a b c z : Int32} (h : f_X8_isIn a b c = some z) : z = 0 ∨ z = 1 := by
  rw [f_X8_isIn] at h
  by_cases c1 : a < b
  · obtain rfl := Option.some.inj (ip c1 h); exact Or.inl rfl
  · replace h := ig c1 h
    by_cases c2 : c < a
    · obtain rfl := Option.some.inj (ip c2 h); exact Or.inl rfl
    · obtain rfl := Option.some.inj (ig c2 h); exact Or.inr rfl
theorem b_X8_isYear {a z : Int32} (h : f_X8_isYear a = some z) : z = 0 ∨ z = 1 := by
  rw [f_X8_isYear] at h
  obtain ⟨v, hv, h⟩ := ob h
  obtain rfl := Option.some.inj h
  exact b_X8_isIn hv
theorem b_X3_add {q : Nat} {a b : Int32} {S : St} {z : Int32 × St} (h : f_X3_add q a b S = some z) : z.1 = 0 ∨ z.1 = 1 := by
  rw [f_X3_add] at h
  by_cases c1 : S.1 q 0 < 8
  · obtain ⟨v, _, h⟩ := ob (ip c1 h)
    obtain ⟨T, _, h⟩ := ob h
    obtain rfl := Option.some.inj h
    exact Or.inr rfl
  · obtain rfl := Option.some.inj (ig c1 h); exact Or.inl rfl
theorem b_X3_moveTo {q : Nat} {a : Int32} {S : St} {z : Int32 × St} (h : f_X3_moveTo q a S = some z) : z.1 = 0 ∨ z.1 = 1 := by
  rw [f_X3_moveTo] at h
  obtain ⟨v, _, h⟩ := ob h
  by_cases c1 : v = 0
  · obtain rfl := Option.some.inj (ip c1 h); exact Or.inr rfl
  · obtain rfl := Option.some.inj (ig c1 h); exact Or.inl rfl
theorem b_X3_turnHalves {q : Nat} {a b : Int32} {S : St} {z : Int32 × St} (h : f_X3_turnHalves q a b S = some z) : z.1 = 0 ∨ z.1 = 1 := by
  rw [f_X3_turnHalves] at h
  obtain ⟨v, _, h⟩ := ob h
  by_cases c1 : v = 0
  · obtain ⟨_, h⟩ := oi (ip c1 h)
    obtain ⟨_, h⟩ := oi h
    obtain ⟨_, h⟩ := oi h
    obtain ⟨_, h⟩ := oi h
    obtain rfl := Option.some.inj h
    exact Or.inr rfl
  · obtain rfl := Option.some.inj (ig c1 h); exact Or.inl rfl
theorem b_X3_glue {q : Nat} {a b c : Int32} {S : St} {z : Int32 × St} (h : f_X3_glue q a b c S = some z) : z.1 = 0 ∨ z.1 = 1 := by
  rw [f_X3_glue] at h
  obtain ⟨v1, _, h⟩ := ob h
  by_cases c1 : v1 = 0
  · obtain ⟨v3, _, h⟩ := ob (ip c1 h)
    obtain ⟨v4, _, h⟩ := ob h
    by_cases c2 : v4 = 0
    · obtain ⟨v6, _, h⟩ := ob (ip c2 h)
      obtain ⟨v7, _, h⟩ := ob h
      by_cases c3 : v7 ≤ S.1 q 2
      · obtain ⟨v9, _, h⟩ := ob (ip c3 h)
        obtain ⟨v10, _, h⟩ := ob h
        obtain ⟨v11, _, h⟩ := ob h
        obtain ⟨v12, _, h⟩ := ob h
        obtain ⟨v13, _, h⟩ := ob h
        obtain rfl := Option.some.inj h
        exact Or.inr rfl
      · obtain rfl := Option.some.inj (ig c3 h); exact Or.inl rfl
    · obtain rfl := Option.some.inj (ig c2 h); exact Or.inl rfl
  · obtain rfl := Option.some.inj (ig c1 h); exact Or.inl rfl
theorem b_X3_makeGlad_L {q : Nat} {a b c : Int32} : ∀ (n : Nat) (x : Int32) (S : St) (z : Int32 × St), f_X3_makeGlad_L32 n q a b c x S (fun T => some (1, T)) = some z → z.1 = 0 ∨ z.1 = 1 := by
  intro n
  induction n with
  | zero => intro x S z h; rw [f_X3_makeGlad_L32] at h; cases h
  | succ n ih =>
    intro x S z h
    rw [f_X3_makeGlad_L32] at h
    by_cases c1 : b < x
    · obtain rfl := Option.some.inj (ip c1 h)
      exact Or.inr rfl
    · obtain ⟨v, _, h⟩ := ob (ig c1 h)
      obtain ⟨T, _, h⟩ := ob h
      exact ih _ _ _ h
theorem b_X3_makeGlad {q : Nat} {a b c d : Int32} {S : St} {z : Int32 × St} (h : f_X3_makeGlad q a b c d S = some z) : z.1 = 0 ∨ z.1 = 1 := by
  rw [f_X3_makeGlad] at h
  obtain ⟨v1, _, h⟩ := ob h
  by_cases c1 : v1 = 0
  · obtain ⟨v2, _, h⟩ := ob (ip c1 h)
    by_cases c2 : v2 = 0
    · obtain ⟨v3, _, h⟩ := ob (ip c2 h)
      by_cases c3 : v3 = 0
      · replace h := ip c3 h
        by_cases c4 : b ≤ c
        · exact b_X3_makeGlad_L _ _ _ _ (ip c4 h)
        · obtain rfl := Option.some.inj (ig c4 h); exact Or.inl rfl
      · obtain rfl := Option.some.inj (ig c3 h); exact Or.inl rfl
    · obtain rfl := Option.some.inj (ig c2 h); exact Or.inl rfl
  · obtain rfl := Option.some.inj (ig c1 h); exact Or.inl rfl
-- ===== by hand: the place of a letter =====
theorem t_X5_kindAt (l : Launch) {S : St} {a1 : Int32} {r : Int32} (h : f_X5_kindAt a1 S = some r) : CT l yX5_kindAt M_X5_kindAt [.ref 60, .int a1] S (some (.int r)) S := by
  sorry
end
section
set_option maxHeartbeats 2000000 in
set_option maxRecDepth 20000 in
theorem t_X3_at (l : Launch) {S : St} {q0 : Nat} (hq0 : kd q0 = 3) {a1 : Int32} {r : Nat} (h : f_X3_at q0 a1 S = some r) : CT l yX3_at M_X3_at [.ref q0, .int a1] S (some (.ref r)) S := by
  rw [f_X3_at] at h
  refine ct_of (lv := [(0, .ref q0), (1, .int a1)]) (by decide) rfl (Nat.le_of_ble_eq_true rfl) ?_
  refine z_aload_n 0 dX3_at_0 rfl ?_
  refine z_get (v := .ref (q0 + 1)) dX3_at_1 fl_3_20 hq0 rfl ?_
  refine z_iload_n 1 dX3_at_4 rfl ?_
  refine z_bipush (v := 7) dX3_at_5 rfl ?_
  refine z_iand dX3_at_7 ?_
  obtain ⟨c1, h⟩ := oi h
  refine z_aald dX3_at_8 (kd_sh1 hq0) c1 ?_
  obtain rfl := Option.some.inj h
  exact z_aret dX3_at_9 rfl
set_option maxHeartbeats 2000000 in
set_option maxRecDepth 20000 in
theorem t_X6_isSet (l : Launch) {S : St} {q0 : Nat} (hq0 : kd q0 = 6)  {r : Int32} (h : f_X6_isSet q0 S = some r) : CT l yX6_isSet M_X6_isSet [.ref q0] S (some (.int r)) S := by
  rw [f_X6_isSet] at h
  refine ct_of (lv := [(0, .ref q0)]) (by decide) rfl (Nat.le_of_ble_eq_true rfl) ?_
  refine z_aload_n 0 dX6_isSet_0 rfl ?_
  refine z_get (v := .int (S.1 q0 2)) dX6_isSet_1 fl_6_9 hq0 rfl ?_
  refine z_bipush (v := (-9)) dX6_isSet_4 rfl ?_
  refine z_icmp_eq (tgt := 13) dX6_isSet_6 (by decide) (fun c1 => ?_) (fun c1 => ?_)
  · replace h := ip c1 h
    refine z_iconst (v := 0) dX6_isSet_13 rfl ?_
    obtain rfl := Option.some.inj h
    exact z_iret dX6_isSet_14 rfl rfl
  · replace h := ig c1 h
    refine z_iconst (v := 1) dX6_isSet_9 rfl ?_
    refine z_goto (tgt := 14) dX6_isSet_10 (by decide) ?_
    obtain rfl := Option.some.inj h
    exact z_iret dX6_isSet_14 rfl rfl
set_option maxHeartbeats 2000000 in
set_option maxRecDepth 20000 in
theorem t_X6_gladIn (l : Launch) {S : St} {q0 : Nat} (hq0 : kd q0 = 6) {a1 : Int32} {r : Int32} (h : f_X6_gladIn q0 a1 S = some r) : CT l yX6_gladIn M_X6_gladIn [.ref q0, .int a1] S (some (.int r)) S := by
  rw [f_X6_gladIn] at h
  refine ct_of (lv := [(0, .ref q0), (1, .int a1)]) (by decide) rfl (Nat.le_of_ble_eq_true rfl) ?_
  refine z_iload_n 1 dX6_gladIn_0 rfl ?_
  refine z_if_lt (tgt := 10) dX6_gladIn_1 (by decide) (fun c1 => ?_) (fun c1 => ?_)
  · replace h := ip c1 h
    refine z_iconst (v := 0) dX6_gladIn_10 rfl ?_
    refine z_goto (tgt := 20) dX6_gladIn_11 (by decide) ?_
    obtain rfl := Option.some.inj h
    exact z_iret dX6_gladIn_20 rfl rfl
  · replace h := ig c1 h
    refine z_iload_n 1 dX6_gladIn_4 rfl ?_
    refine z_bipush (v := 12) dX6_gladIn_5 rfl ?_
    refine z_icmp_lt (tgt := 14) dX6_gladIn_7 (by decide) (fun c2 => ?_) (fun c2 => ?_)
    · replace h := ip c2 h
      refine z_aload_n 0 dX6_gladIn_14 rfl ?_
      refine z_get (v := .ref (q0 + 1)) dX6_gladIn_15 fl_6_15 hq0 rfl ?_
      refine z_iload_n 1 dX6_gladIn_18 rfl ?_
      obtain ⟨c3, h⟩ := oi h
      refine z_iald dX6_gladIn_19 (kd_th hq0) (by decide) c3 ?_
      obtain rfl := Option.some.inj h
      exact z_iret dX6_gladIn_20 rfl rfl
    · replace h := ig c2 h
      refine z_iconst (v := 0) dX6_gladIn_10 rfl ?_
      refine z_goto (tgt := 20) dX6_gladIn_11 (by decide) ?_
      obtain rfl := Option.some.inj h
      exact z_iret dX6_gladIn_20 rfl rfl
set_option maxHeartbeats 2000000 in
set_option maxRecDepth 20000 in
theorem t_X6_gladdestYear_L6 (l : Launch) {q0 : Nat} (hq0 : kd q0 = 6) : ∀ (n : Nat) (x2 : Int32) (x3 : Int32) (S : St) (k31 : Int32 → Option Int32) (r : Int32), f_X6_gladdestYear_L6 n q0 x2 x3 S k31 = some r → (∀ (e2 : Int32), k31 e2 = some r → Z l yX6_gladdestYear M_X6_gladdestYear 31 [(2, .int e2)] [] S (some (.int r)) S) → Z l yX6_gladdestYear M_X6_gladdestYear 6 [(0, .ref q0), (2, .int x2), (3, .int x3)] [] S (some (.int r)) S := by
  intro n
  induction n with
  | zero =>
    intro x2 x3 S k31 r h hk31
    exact absurd h (by rw [f_X6_gladdestYear_L6]; exact fun q => by cases q)
  | succ n ih =>
    intro x2 x3 S k31 r h hk31
    rw [f_X6_gladdestYear_L6] at h
    refine z_iload_n 2 dX6_gladdestYear_6 rfl ?_
    refine z_if_lt (tgt := 31) dX6_gladdestYear_7 (by decide) (fun c1 => ?_) (fun c1 => ?_)
    · replace h := ip c1 h
      refine z_sub (lv' := [(2, .int x2)]) [1] rfl ?_
      exact hk31 _ h
    · replace h := ig c1 h
      refine z_aload_n 0 dX6_gladdestYear_10 rfl ?_
      refine z_iload_n 2 dX6_gladdestYear_11 rfl ?_
      obtain ⟨v2, hv2, h⟩ := ob h
      refine z_callV (as := [.int x3]) dX6_gladdestYear_12 ml_6_35 mv_X6_gladIn (t_X6_gladIn l hq0 hv2) hq0 ⟨by decide, rfl⟩ rfl rfl (Nat.le_of_ble_eq_true rfl) ⟨Nat.le_of_ble_eq_true rfl, Nat.le_of_ble_eq_true rfl⟩ rfl ?_
      refine z_aload_n 0 dX6_gladdestYear_15 rfl ?_
      refine z_iload_n 1 dX6_gladdestYear_16 rfl ?_
      obtain ⟨v3, hv3, h⟩ := ob h
      refine z_callV (as := [.int x2]) dX6_gladdestYear_17 ml_6_35 mv_X6_gladIn (t_X6_gladIn l hq0 hv3) hq0 ⟨by decide, rfl⟩ rfl rfl (Nat.le_of_ble_eq_true rfl) ⟨Nat.le_of_ble_eq_true rfl, Nat.le_of_ble_eq_true rfl⟩ rfl ?_
      refine z_icmp_le (tgt := 25) dX6_gladdestYear_20 (by decide) (fun c4 => ?_) (fun c4 => ?_)
      · replace h := ip c4 h
        refine z_iinc (lv' := [(0, .ref q0), (2, .int x2), (3, .int (x3 + (-1)))]) (v := x3 + (-1)) 2 [1, 2, 0] dX6_gladdestYear_25 rfl rfl (Nat.le_of_ble_eq_true rfl) rfl ?_
        refine z_goto (tgt := 6) dX6_gladdestYear_28 (by decide) ?_
        refine z_sub (lv' := [(0, .ref q0), (2, .int x2), (3, .int (x3 + (-1)))]) [0, 1, 2] rfl ?_
        exact ih _ _ _ _ _ h hk31
      · replace h := ig c4 h
        refine z_iload_n 2 dX6_gladdestYear_23 rfl ?_
        refine z_istore_n (lv' := [(0, .ref q0), (2, .int x3), (3, .int x3)]) [1, 0, 2] dX6_gladdestYear_24 (Nat.le_of_ble_eq_true rfl) rfl ?_
        refine z_iinc (lv' := [(0, .ref q0), (2, .int x3), (3, .int (x3 + (-1)))]) (v := x3 + (-1)) 2 [1, 2, 0] dX6_gladdestYear_25 rfl rfl (Nat.le_of_ble_eq_true rfl) rfl ?_
        refine z_goto (tgt := 6) dX6_gladdestYear_28 (by decide) ?_
        refine z_sub (lv' := [(0, .ref q0), (2, .int x3), (3, .int (x3 + (-1)))]) [0, 1, 2] rfl ?_
        exact ih _ _ _ _ _ h hk31
set_option maxHeartbeats 2000000 in
set_option maxRecDepth 20000 in
theorem t_X6_gladdestYear (l : Launch) {S : St} {q0 : Nat} (hq0 : kd q0 = 6) {a1 : Int32} {r : Int32} (h : f_X6_gladdestYear q0 a1 S = some r) : CT l yX6_gladdestYear M_X6_gladdestYear [.ref q0, .int a1] S (some (.int r)) S := by
  rw [f_X6_gladdestYear] at h
  refine ct_of (lv := [(0, .ref q0), (1, .int a1)]) (by decide) rfl (Nat.le_of_ble_eq_true rfl) ?_
  refine z_iload_n 1 dX6_gladdestYear_0 rfl ?_
  refine z_istore_n (lv' := [(0, .ref q0), (1, .int a1), (2, .int a1)]) [1, 2, 0] dX6_gladdestYear_1 (Nat.le_of_ble_eq_true rfl) rfl ?_
  refine z_iload_n 1 dX6_gladdestYear_2 rfl ?_
  refine z_iconst (v := 1) dX6_gladdestYear_3 rfl ?_
  refine z_isub dX6_gladdestYear_4 ?_
  refine z_istore_n (lv' := [(0, .ref q0), (1, .int a1), (2, .int a1), (3, .int (a1 - 1))]) [1, 2, 3, 0] dX6_gladdestYear_5 (Nat.le_of_ble_eq_true rfl) rfl ?_
  refine z_sub (lv' := [(0, .ref q0), (2, .int a1), (3, .int (a1 - 1))]) [0, 2, 3] rfl ?_
  refine t_X6_gladdestYear_L6 l hq0 _ _ _ _ _ _ h ?_
  · intro y5 h
    refine z_iload_n 0 dX6_gladdestYear_31 rfl ?_
    obtain rfl := Option.some.inj h
    exact z_iret dX6_gladdestYear_32 rfl rfl
set_option maxHeartbeats 2000000 in
set_option maxRecDepth 20000 in
theorem t_X6_reach (l : Launch) {S : St} {q0 : Nat} (hq0 : kd q0 = 6) {a1 : Int32} {a2 : Int32} {r : Int32} (h : f_X6_reach q0 a1 a2 S = some r) : CT l yX6_reach M_X6_reach [.ref q0, .int a1, .int a2] S (some (.int r)) S := by
  rw [f_X6_reach] at h
  refine ct_of (lv := [(0, .ref q0), (1, .int a1), (2, .int a2)]) (by decide) rfl (Nat.le_of_ble_eq_true rfl) ?_
  refine z_iconst (v := 0) dX6_reach_0 rfl ?_
  refine z_iload_n 1 dX6_reach_1 rfl ?_
  refine z_iconst (v := 5) dX6_reach_2 rfl ?_
  refine z_idiv dX6_reach_3 (by decide) ?_
  refine z_iload_n 2 dX6_reach_4 rfl ?_
  refine z_isub dX6_reach_5 ?_
  refine z_max dX6_reach_6 mx_6_42 (Nat.le_of_ble_eq_true rfl) (Nat.le_of_ble_eq_true rfl) ?_
  refine z_istore_n (lv' := [(0, .ref q0), (1, .int a1), (2, .int a2), (3, .int (if 0 < ((a1 / 5) - a2) then (a1 / 5) - a2 else 0))]) [1, 2, 3, 0] dX6_reach_9 (Nat.le_of_ble_eq_true rfl) rfl ?_
  refine z_aload_n 0 dX6_reach_10 rfl ?_
  refine z_get (v := .int (S.1 q0 0)) dX6_reach_11 fl_6_19 hq0 rfl ?_
  refine z_iconst (v := 2) dX6_reach_14 rfl ?_
  refine z_icmp_eq (tgt := 26) dX6_reach_15 (by decide) (fun c1 => ?_) (fun c1 => ?_)
  · replace h := ip c1 h
    refine z_iload_n 3 dX6_reach_26 rfl ?_
    refine z_aload_n 0 dX6_reach_27 rfl ?_
    refine z_get (v := .int (S.1 q0 1)) dX6_reach_28 fl_6_22 hq0 rfl ?_
    refine z_iadd dX6_reach_31 ?_
    obtain rfl := Option.some.inj h
    exact z_iret dX6_reach_32 rfl rfl
  · replace h := ig c1 h
    refine z_aload_n 0 dX6_reach_18 rfl ?_
    refine z_get (v := .int (S.1 q0 0)) dX6_reach_19 fl_6_19 hq0 rfl ?_
    refine z_iconst (v := 5) dX6_reach_22 rfl ?_
    refine z_icmp_ne (tgt := 33) dX6_reach_23 (by decide) (fun c2 => ?_) (fun c2 => ?_)
    · replace h := ig c2 h
      refine z_aload_n 0 dX6_reach_33 rfl ?_
      refine z_get (v := .int (S.1 q0 0)) dX6_reach_34 fl_6_19 hq0 rfl ?_
      refine z_iconst (v := 4) dX6_reach_37 rfl ?_
      refine z_icmp_ne (tgt := 47) dX6_reach_38 (by decide) (fun c3 => ?_) (fun c3 => ?_)
      · replace h := ig c3 h
        refine z_iload_n 3 dX6_reach_47 rfl ?_
        obtain rfl := Option.some.inj h
        exact z_iret dX6_reach_48 rfl rfl
      · replace h := ip c3 h
        refine z_iload_n 3 dX6_reach_41 rfl ?_
        refine z_iconst (v := 2) dX6_reach_42 rfl ?_
        refine z_idiv dX6_reach_43 (by decide) ?_
        refine z_goto (tgt := 48) dX6_reach_44 (by decide) ?_
        obtain rfl := Option.some.inj h
        exact z_iret dX6_reach_48 rfl rfl
    · replace h := ip c2 h
      refine z_iload_n 3 dX6_reach_26 rfl ?_
      refine z_aload_n 0 dX6_reach_27 rfl ?_
      refine z_get (v := .int (S.1 q0 1)) dX6_reach_28 fl_6_22 hq0 rfl ?_
      refine z_iadd dX6_reach_31 ?_
      obtain rfl := Option.some.inj h
      exact z_iret dX6_reach_32 rfl rfl
set_option maxHeartbeats 2000000 in
set_option maxRecDepth 20000 in
theorem t_X6_counts (l : Launch) {S : St} {q0 : Nat} (hq0 : kd q0 = 6) {a1 : Int32} {a2 : Int32} {r : Int32} (h : f_X6_counts q0 a1 a2 S = some r) : CT l yX6_counts M_X6_counts [.ref q0, .int a1, .int a2] S (some (.int r)) S := by
  rw [f_X6_counts] at h
  refine ct_of (lv := [(0, .ref q0), (1, .int a1), (2, .int a2)]) (by decide) rfl (Nat.le_of_ble_eq_true rfl) ?_
  refine z_aload_n 0 dX6_counts_0 rfl ?_
  refine z_get (v := .int (S.1 q0 0)) dX6_counts_1 fl_6_19 hq0 rfl ?_
  refine z_iconst (v := 5) dX6_counts_4 rfl ?_
  refine z_icmp_ne (tgt := 15) dX6_counts_5 (by decide) (fun c1 => ?_) (fun c1 => ?_)
  · replace h := ig c1 h
    refine z_aload_n 0 dX6_counts_15 rfl ?_
    refine z_get (v := .int (S.1 q0 0)) dX6_counts_16 fl_6_19 hq0 rfl ?_
    refine z_iconst (v := 3) dX6_counts_19 rfl ?_
    refine z_icmp_ne (tgt := 40) dX6_counts_20 (by decide) (fun c2 => ?_) (fun c2 => ?_)
    · replace h := ig c2 h
      refine z_aload_n 0 dX6_counts_40 rfl ?_
      refine z_iload_n 1 dX6_counts_41 rfl ?_
      obtain ⟨v3, hv3, h⟩ := ob h
      refine z_callV (as := [.int a1]) dX6_counts_42 ml_6_35 mv_X6_gladIn (t_X6_gladIn l hq0 hv3) hq0 ⟨by decide, rfl⟩ rfl rfl (Nat.le_of_ble_eq_true rfl) ⟨Nat.le_of_ble_eq_true rfl, Nat.le_of_ble_eq_true rfl⟩ rfl ?_
      obtain rfl := Option.some.inj h
      exact z_iret dX6_counts_45 rfl rfl
    · replace h := ip c2 h
      refine z_aload_n 0 dX6_counts_23 rfl ?_
      refine z_iload_n 1 dX6_counts_24 rfl ?_
      obtain ⟨v4, hv4, h⟩ := ob h
      refine z_callV (as := [.int a1]) dX6_counts_25 ml_6_35 mv_X6_gladIn (t_X6_gladIn l hq0 hv4) hq0 ⟨by decide, rfl⟩ rfl rfl (Nat.le_of_ble_eq_true rfl) ⟨Nat.le_of_ble_eq_true rfl, Nat.le_of_ble_eq_true rfl⟩ rfl ?_
      refine z_aload_n 0 dX6_counts_28 rfl ?_
      refine z_get (v := .int (S.1 q0 1)) dX6_counts_29 fl_6_22 hq0 rfl ?_
      refine z_iload_n 2 dX6_counts_32 rfl ?_
      refine z_iload_n 1 dX6_counts_33 rfl ?_
      refine z_isub dX6_counts_34 ?_
      refine z_imul dX6_counts_35 ?_
      refine z_isub dX6_counts_36 ?_
      refine z_goto (tgt := 45) dX6_counts_37 (by decide) ?_
      obtain rfl := Option.some.inj h
      exact z_iret dX6_counts_45 rfl rfl
  · replace h := ip c1 h
    refine z_aload_n 0 dX6_counts_8 rfl ?_
    refine z_iload_n 1 dX6_counts_9 rfl ?_
    obtain ⟨v5, hv5, h⟩ := ob h
    refine z_callV (as := [.int a1]) dX6_counts_10 ml_6_35 mv_X6_gladIn (t_X6_gladIn l hq0 hv5) hq0 ⟨by decide, rfl⟩ rfl rfl (Nat.le_of_ble_eq_true rfl) ⟨Nat.le_of_ble_eq_true rfl, Nat.le_of_ble_eq_true rfl⟩ rfl ?_
    refine z_ineg dX6_counts_13 ?_
    obtain rfl := Option.some.inj h
    exact z_iret dX6_counts_14 rfl rfl
set_option maxHeartbeats 2000000 in
set_option maxRecDepth 20000 in
theorem t_X6_yearBy_L53 (l : Launch) {q0 : Nat} (hq0 : kd q0 = 6) : ∀ (n : Nat) (x3 : Int32) (x4 : Int32) (x5 : Int32) (x6 : Int32) (x7 : Int32) (x8 : Int32) (S : St) (k102 : Int32 → Option Int32) (r : Int32), f_X6_yearBy_L53 n q0 x3 x4 x5 x6 x7 x8 S k102 = some r → (∀ (e6 : Int32), k102 e6 = some r → Z l yX6_yearBy M_X6_yearBy 102 [(6, .int e6)] [] S (some (.int r)) S) → Z l yX6_yearBy M_X6_yearBy 53 [(0, .ref q0), (3, .int x3), (4, .int x4), (5, .int x5), (6, .int x6), (7, .int x7), (8, .int x8)] [] S (some (.int r)) S := by
  intro n
  induction n with
  | zero =>
    intro x3 x4 x5 x6 x7 x8 S k102 r h hk102
    exact absurd h (by rw [f_X6_yearBy_L53]; exact fun q => by cases q)
  | succ n ih =>
    intro x3 x4 x5 x6 x7 x8 S k102 r h hk102
    rw [f_X6_yearBy_L53] at h
    refine z_iload 6 dX6_yearBy_53 rfl ?_
    refine z_iload 3 dX6_yearBy_55 rfl ?_
    refine z_icmp_lt (tgt := 102) dX6_yearBy_57 (by decide) (fun c4 => ?_) (fun c4 => ?_)
    · replace h := ip c4 h
      refine z_sub (lv' := [(6, .int x6)]) [4] rfl ?_
      exact hk102 _ h
    · replace h := ig c4 h
      refine z_aload_n 0 dX6_yearBy_60 rfl ?_
      refine z_iload 6 dX6_yearBy_61 rfl ?_
      refine z_iload_n 1 dX6_yearBy_63 rfl ?_
      obtain ⟨v5, hv5, h⟩ := ob h
      refine z_callV (as := [.int x8, .int x3]) dX6_yearBy_64 ml_6_51 mv_X6_counts (t_X6_counts l hq0 hv5) hq0 ⟨by decide, rfl⟩ rfl rfl (Nat.le_of_ble_eq_true rfl) ⟨Nat.le_of_ble_eq_true rfl, Nat.le_of_ble_eq_true rfl⟩ rfl ?_
      refine z_istore (lv' := [(0, .ref q0), (3, .int x3), (4, .int x4), (5, .int x5), (6, .int x6), (7, .int x7), (8, .int x8), (9, .int v5)]) [1, 2, 3, 4, 5, 6, 7, 0] dX6_yearBy_67 (Nat.le_of_ble_eq_true rfl) rfl ?_
      refine z_iload 7 dX6_yearBy_69 rfl ?_
      refine z_iload 5 dX6_yearBy_71 rfl ?_
      refine z_icmp_gt (tgt := 88) dX6_yearBy_73 (by decide) (fun c6 => ?_) (fun c6 => ?_)
      · replace h := ip c6 h
        refine z_iload 6 dX6_yearBy_88 rfl ?_
        refine z_istore (lv' := [(0, .ref q0), (3, .int x3), (4, .int x4), (5, .int x5), (6, .int x8), (7, .int x7), (8, .int x8), (9, .int v5)]) [1, 2, 3, 4, 0, 5, 6, 7] dX6_yearBy_90 (Nat.le_of_ble_eq_true rfl) rfl ?_
        refine z_iload 7 dX6_yearBy_92 rfl ?_
        refine z_istore (lv' := [(0, .ref q0), (3, .int x3), (4, .int x4), (5, .int x5), (6, .int x8), (7, .int v5), (8, .int x8), (9, .int v5)]) [1, 2, 3, 4, 5, 0, 6, 7] dX6_yearBy_94 (Nat.le_of_ble_eq_true rfl) rfl ?_
        refine z_iinc (lv' := [(0, .ref q0), (3, .int x3), (4, .int x4), (5, .int x5), (6, .int x8), (7, .int v5), (8, .int (x8 + (-1))), (9, .int v5)]) (v := x8 + (-1)) 6 [1, 2, 3, 4, 5, 6, 0, 7] dX6_yearBy_96 rfl rfl (Nat.le_of_ble_eq_true rfl) rfl ?_
        refine z_goto (tgt := 53) dX6_yearBy_99 (by decide) ?_
        refine z_sub (lv' := [(0, .ref q0), (3, .int x3), (4, .int x4), (5, .int x5), (6, .int x8), (7, .int v5), (8, .int (x8 + (-1)))]) [0, 1, 2, 3, 4, 5, 6] rfl ?_
        exact ih _ _ _ _ _ _ _ _ _ h hk102
      · replace h := ig c6 h
        refine z_iload 2 dX6_yearBy_76 rfl ?_
        refine z_if_eq (tgt := 96) dX6_yearBy_78 (by decide) (fun c7 => ?_) (fun c7 => ?_)
        · replace h := ip c7 h
          refine z_iinc (lv' := [(0, .ref q0), (3, .int x3), (4, .int x4), (5, .int x5), (6, .int x6), (7, .int x7), (8, .int (x8 + (-1))), (9, .int v5)]) (v := x8 + (-1)) 6 [1, 2, 3, 4, 5, 6, 0, 7] dX6_yearBy_96 rfl rfl (Nat.le_of_ble_eq_true rfl) rfl ?_
          refine z_goto (tgt := 53) dX6_yearBy_99 (by decide) ?_
          refine z_sub (lv' := [(0, .ref q0), (3, .int x3), (4, .int x4), (5, .int x5), (6, .int x6), (7, .int x7), (8, .int (x8 + (-1)))]) [0, 1, 2, 3, 4, 5, 6] rfl ?_
          exact ih _ _ _ _ _ _ _ _ _ h hk102
        · replace h := ig c7 h
          refine z_iload 7 dX6_yearBy_81 rfl ?_
          refine z_iload 5 dX6_yearBy_83 rfl ?_
          refine z_icmp_ne (tgt := 96) dX6_yearBy_85 (by decide) (fun c8 => ?_) (fun c8 => ?_)
          · replace h := ig c8 h
            refine z_iinc (lv' := [(0, .ref q0), (3, .int x3), (4, .int x4), (5, .int x5), (6, .int x6), (7, .int x7), (8, .int (x8 + (-1))), (9, .int v5)]) (v := x8 + (-1)) 6 [1, 2, 3, 4, 5, 6, 0, 7] dX6_yearBy_96 rfl rfl (Nat.le_of_ble_eq_true rfl) rfl ?_
            refine z_goto (tgt := 53) dX6_yearBy_99 (by decide) ?_
            refine z_sub (lv' := [(0, .ref q0), (3, .int x3), (4, .int x4), (5, .int x5), (6, .int x6), (7, .int x7), (8, .int (x8 + (-1)))]) [0, 1, 2, 3, 4, 5, 6] rfl ?_
            exact ih _ _ _ _ _ _ _ _ _ h hk102
          · replace h := ip c8 h
            refine z_iload 6 dX6_yearBy_88 rfl ?_
            refine z_istore (lv' := [(0, .ref q0), (3, .int x3), (4, .int x4), (5, .int x5), (6, .int x8), (7, .int x7), (8, .int x8), (9, .int v5)]) [1, 2, 3, 4, 0, 5, 6, 7] dX6_yearBy_90 (Nat.le_of_ble_eq_true rfl) rfl ?_
            refine z_iload 7 dX6_yearBy_92 rfl ?_
            refine z_istore (lv' := [(0, .ref q0), (3, .int x3), (4, .int x4), (5, .int x5), (6, .int x8), (7, .int v5), (8, .int x8), (9, .int v5)]) [1, 2, 3, 4, 5, 0, 6, 7] dX6_yearBy_94 (Nat.le_of_ble_eq_true rfl) rfl ?_
            refine z_iinc (lv' := [(0, .ref q0), (3, .int x3), (4, .int x4), (5, .int x5), (6, .int x8), (7, .int v5), (8, .int (x8 + (-1))), (9, .int v5)]) (v := x8 + (-1)) 6 [1, 2, 3, 4, 5, 6, 0, 7] dX6_yearBy_96 rfl rfl (Nat.le_of_ble_eq_true rfl) rfl ?_
            refine z_goto (tgt := 53) dX6_yearBy_99 (by decide) ?_
            refine z_sub (lv' := [(0, .ref q0), (3, .int x3), (4, .int x4), (5, .int x5), (6, .int x8), (7, .int v5), (8, .int (x8 + (-1)))]) [0, 1, 2, 3, 4, 5, 6] rfl ?_
            exact ih _ _ _ _ _ _ _ _ _ h hk102
set_option maxHeartbeats 2000000 in
set_option maxRecDepth 20000 in
theorem t_X6_yearBy (l : Launch) {S : St} {q0 : Nat} (hq0 : kd q0 = 6) {a1 : Int32} {a2 : Int32} {a3 : Int32} {r : Int32} (h : f_X6_yearBy q0 a1 a2 a3 S = some r) : CT l yX6_yearBy M_X6_yearBy [.ref q0, .int a1, .int a2, .int a3] S (some (.int r)) S := by
  rw [f_X6_yearBy] at h
  refine ct_of (lv := [(0, .ref q0), (1, .int a1), (2, .int a2), (3, .int a3)]) (by decide) rfl (Nat.le_of_ble_eq_true rfl) ?_
  refine z_aload_n 0 dX6_yearBy_0 rfl ?_
  refine z_get (v := .int (S.1 q0 0)) dX6_yearBy_1 fl_6_19 hq0 rfl ?_
  refine z_iconst (v := 1) dX6_yearBy_4 rfl ?_
  refine z_icmp_eq (tgt := 16) dX6_yearBy_5 (by decide) (fun c1 => ?_) (fun c1 => ?_)
  · replace h := ip c1 h
    refine z_iconst (v := 1) dX6_yearBy_16 rfl ?_
    refine z_goto (tgt := 21) dX6_yearBy_17 (by decide) ?_
    refine z_istore (lv' := [(0, .ref q0), (1, .int a1), (2, .int a2), (3, .int a3), (4, .int 1)]) [1, 2, 3, 4, 0] dX6_yearBy_21 (Nat.le_of_ble_eq_true rfl) rfl ?_
    refine z_iconst (v := 0) dX6_yearBy_23 rfl ?_
    refine z_iload_n 3 dX6_yearBy_24 rfl ?_
    refine z_aload_n 0 dX6_yearBy_25 rfl ?_
    refine z_iload_n 1 dX6_yearBy_26 rfl ?_
    refine z_iload_n 2 dX6_yearBy_27 rfl ?_
    obtain ⟨v2, hv2, h⟩ := ob h
    refine z_callV (as := [.int a1, .int a2]) dX6_yearBy_28 ml_6_48 mv_X6_reach (t_X6_reach l hq0 hv2) hq0 ⟨by decide, rfl⟩ rfl rfl (Nat.le_of_ble_eq_true rfl) ⟨Nat.le_of_ble_eq_true rfl, Nat.le_of_ble_eq_true rfl⟩ rfl ?_
    refine z_isub dX6_yearBy_31 ?_
    refine z_max dX6_yearBy_32 mx_6_42 (Nat.le_of_ble_eq_true rfl) (Nat.le_of_ble_eq_true rfl) ?_
    refine z_istore (lv' := [(0, .ref q0), (1, .int a1), (2, .int a2), (3, .int a3), (4, .int 1), (5, .int (if 0 < (a3 - v2) then a3 - v2 else 0))]) [1, 2, 3, 4, 5, 0] dX6_yearBy_35 (Nat.le_of_ble_eq_true rfl) rfl ?_
    refine z_iload_n 3 dX6_yearBy_37 rfl ?_
    refine z_istore (lv' := [(0, .ref q0), (1, .int a1), (2, .int a2), (3, .int a3), (4, .int 1), (5, .int (if 0 < (a3 - v2) then a3 - v2 else 0)), (6, .int a3)]) [1, 2, 3, 4, 5, 6, 0] dX6_yearBy_38 (Nat.le_of_ble_eq_true rfl) rfl ?_
    refine z_aload_n 0 dX6_yearBy_40 rfl ?_
    refine z_iload_n 3 dX6_yearBy_41 rfl ?_
    refine z_iload_n 3 dX6_yearBy_42 rfl ?_
    obtain ⟨v3, hv3, h⟩ := ob h
    refine z_callV (as := [.int a3, .int a3]) dX6_yearBy_43 ml_6_51 mv_X6_counts (t_X6_counts l hq0 hv3) hq0 ⟨by decide, rfl⟩ rfl rfl (Nat.le_of_ble_eq_true rfl) ⟨Nat.le_of_ble_eq_true rfl, Nat.le_of_ble_eq_true rfl⟩ rfl ?_
    refine z_istore (lv' := [(0, .ref q0), (1, .int a1), (2, .int a2), (3, .int a3), (4, .int 1), (5, .int (if 0 < (a3 - v2) then a3 - v2 else 0)), (6, .int a3), (7, .int v3)]) [1, 2, 3, 4, 5, 6, 7, 0] dX6_yearBy_46 (Nat.le_of_ble_eq_true rfl) rfl ?_
    refine z_iload_n 3 dX6_yearBy_48 rfl ?_
    refine z_iconst (v := 1) dX6_yearBy_49 rfl ?_
    refine z_isub dX6_yearBy_50 ?_
    refine z_istore (lv' := [(0, .ref q0), (1, .int a1), (2, .int a2), (3, .int a3), (4, .int 1), (5, .int (if 0 < (a3 - v2) then a3 - v2 else 0)), (6, .int a3), (7, .int v3), (8, .int (a3 - 1))]) [1, 2, 3, 4, 5, 6, 7, 8, 0] dX6_yearBy_51 (Nat.le_of_ble_eq_true rfl) rfl ?_
    refine z_sub (lv' := [(0, .ref q0), (3, .int a3), (4, .int 1), (5, .int (if 0 < (a3 - v2) then a3 - v2 else 0)), (6, .int a3), (7, .int v3), (8, .int (a3 - 1))]) [0, 3, 4, 5, 6, 7, 8] rfl ?_
    refine t_X6_yearBy_L53 l hq0 _ _ _ _ _ _ _ _ _ _ h ?_
    · intro y9 h
      refine z_iload 0 dX6_yearBy_102 rfl ?_
      obtain rfl := Option.some.inj h
      exact z_iret dX6_yearBy_104 rfl rfl
  · replace h := ig c1 h
    refine z_aload_n 0 dX6_yearBy_8 rfl ?_
    refine z_get (v := .int (S.1 q0 0)) dX6_yearBy_9 fl_6_19 hq0 rfl ?_
    refine z_iconst (v := 3) dX6_yearBy_12 rfl ?_
    refine z_icmp_ne (tgt := 20) dX6_yearBy_13 (by decide) (fun c10 => ?_) (fun c10 => ?_)
    · replace h := ig c10 h
      refine z_iconst (v := 0) dX6_yearBy_20 rfl ?_
      refine z_istore (lv' := [(0, .ref q0), (1, .int a1), (2, .int a2), (3, .int a3), (4, .int 0)]) [1, 2, 3, 4, 0] dX6_yearBy_21 (Nat.le_of_ble_eq_true rfl) rfl ?_
      refine z_iconst (v := 0) dX6_yearBy_23 rfl ?_
      refine z_iload_n 3 dX6_yearBy_24 rfl ?_
      refine z_aload_n 0 dX6_yearBy_25 rfl ?_
      refine z_iload_n 1 dX6_yearBy_26 rfl ?_
      refine z_iload_n 2 dX6_yearBy_27 rfl ?_
      obtain ⟨v11, hv11, h⟩ := ob h
      refine z_callV (as := [.int a1, .int a2]) dX6_yearBy_28 ml_6_48 mv_X6_reach (t_X6_reach l hq0 hv11) hq0 ⟨by decide, rfl⟩ rfl rfl (Nat.le_of_ble_eq_true rfl) ⟨Nat.le_of_ble_eq_true rfl, Nat.le_of_ble_eq_true rfl⟩ rfl ?_
      refine z_isub dX6_yearBy_31 ?_
      refine z_max dX6_yearBy_32 mx_6_42 (Nat.le_of_ble_eq_true rfl) (Nat.le_of_ble_eq_true rfl) ?_
      refine z_istore (lv' := [(0, .ref q0), (1, .int a1), (2, .int a2), (3, .int a3), (4, .int 0), (5, .int (if 0 < (a3 - v11) then a3 - v11 else 0))]) [1, 2, 3, 4, 5, 0] dX6_yearBy_35 (Nat.le_of_ble_eq_true rfl) rfl ?_
      refine z_iload_n 3 dX6_yearBy_37 rfl ?_
      refine z_istore (lv' := [(0, .ref q0), (1, .int a1), (2, .int a2), (3, .int a3), (4, .int 0), (5, .int (if 0 < (a3 - v11) then a3 - v11 else 0)), (6, .int a3)]) [1, 2, 3, 4, 5, 6, 0] dX6_yearBy_38 (Nat.le_of_ble_eq_true rfl) rfl ?_
      refine z_aload_n 0 dX6_yearBy_40 rfl ?_
      refine z_iload_n 3 dX6_yearBy_41 rfl ?_
      refine z_iload_n 3 dX6_yearBy_42 rfl ?_
      obtain ⟨v12, hv12, h⟩ := ob h
      refine z_callV (as := [.int a3, .int a3]) dX6_yearBy_43 ml_6_51 mv_X6_counts (t_X6_counts l hq0 hv12) hq0 ⟨by decide, rfl⟩ rfl rfl (Nat.le_of_ble_eq_true rfl) ⟨Nat.le_of_ble_eq_true rfl, Nat.le_of_ble_eq_true rfl⟩ rfl ?_
      refine z_istore (lv' := [(0, .ref q0), (1, .int a1), (2, .int a2), (3, .int a3), (4, .int 0), (5, .int (if 0 < (a3 - v11) then a3 - v11 else 0)), (6, .int a3), (7, .int v12)]) [1, 2, 3, 4, 5, 6, 7, 0] dX6_yearBy_46 (Nat.le_of_ble_eq_true rfl) rfl ?_
      refine z_iload_n 3 dX6_yearBy_48 rfl ?_
      refine z_iconst (v := 1) dX6_yearBy_49 rfl ?_
      refine z_isub dX6_yearBy_50 ?_
      refine z_istore (lv' := [(0, .ref q0), (1, .int a1), (2, .int a2), (3, .int a3), (4, .int 0), (5, .int (if 0 < (a3 - v11) then a3 - v11 else 0)), (6, .int a3), (7, .int v12), (8, .int (a3 - 1))]) [1, 2, 3, 4, 5, 6, 7, 8, 0] dX6_yearBy_51 (Nat.le_of_ble_eq_true rfl) rfl ?_
      refine z_sub (lv' := [(0, .ref q0), (3, .int a3), (4, .int 0), (5, .int (if 0 < (a3 - v11) then a3 - v11 else 0)), (6, .int a3), (7, .int v12), (8, .int (a3 - 1))]) [0, 3, 4, 5, 6, 7, 8] rfl ?_
      refine t_X6_yearBy_L53 l hq0 _ _ _ _ _ _ _ _ _ _ h ?_
      · intro y13 h
        refine z_iload 0 dX6_yearBy_102 rfl ?_
        obtain rfl := Option.some.inj h
        exact z_iret dX6_yearBy_104 rfl rfl
    · replace h := ip c10 h
      refine z_iconst (v := 1) dX6_yearBy_16 rfl ?_
      refine z_goto (tgt := 21) dX6_yearBy_17 (by decide) ?_
      refine z_istore (lv' := [(0, .ref q0), (1, .int a1), (2, .int a2), (3, .int a3), (4, .int 1)]) [1, 2, 3, 4, 0] dX6_yearBy_21 (Nat.le_of_ble_eq_true rfl) rfl ?_
      refine z_iconst (v := 0) dX6_yearBy_23 rfl ?_
      refine z_iload_n 3 dX6_yearBy_24 rfl ?_
      refine z_aload_n 0 dX6_yearBy_25 rfl ?_
      refine z_iload_n 1 dX6_yearBy_26 rfl ?_
      refine z_iload_n 2 dX6_yearBy_27 rfl ?_
      obtain ⟨v14, hv14, h⟩ := ob h
      refine z_callV (as := [.int a1, .int a2]) dX6_yearBy_28 ml_6_48 mv_X6_reach (t_X6_reach l hq0 hv14) hq0 ⟨by decide, rfl⟩ rfl rfl (Nat.le_of_ble_eq_true rfl) ⟨Nat.le_of_ble_eq_true rfl, Nat.le_of_ble_eq_true rfl⟩ rfl ?_
      refine z_isub dX6_yearBy_31 ?_
      refine z_max dX6_yearBy_32 mx_6_42 (Nat.le_of_ble_eq_true rfl) (Nat.le_of_ble_eq_true rfl) ?_
      refine z_istore (lv' := [(0, .ref q0), (1, .int a1), (2, .int a2), (3, .int a3), (4, .int 1), (5, .int (if 0 < (a3 - v14) then a3 - v14 else 0))]) [1, 2, 3, 4, 5, 0] dX6_yearBy_35 (Nat.le_of_ble_eq_true rfl) rfl ?_
      refine z_iload_n 3 dX6_yearBy_37 rfl ?_
      refine z_istore (lv' := [(0, .ref q0), (1, .int a1), (2, .int a2), (3, .int a3), (4, .int 1), (5, .int (if 0 < (a3 - v14) then a3 - v14 else 0)), (6, .int a3)]) [1, 2, 3, 4, 5, 6, 0] dX6_yearBy_38 (Nat.le_of_ble_eq_true rfl) rfl ?_
      refine z_aload_n 0 dX6_yearBy_40 rfl ?_
      refine z_iload_n 3 dX6_yearBy_41 rfl ?_
      refine z_iload_n 3 dX6_yearBy_42 rfl ?_
      obtain ⟨v15, hv15, h⟩ := ob h
      refine z_callV (as := [.int a3, .int a3]) dX6_yearBy_43 ml_6_51 mv_X6_counts (t_X6_counts l hq0 hv15) hq0 ⟨by decide, rfl⟩ rfl rfl (Nat.le_of_ble_eq_true rfl) ⟨Nat.le_of_ble_eq_true rfl, Nat.le_of_ble_eq_true rfl⟩ rfl ?_
      refine z_istore (lv' := [(0, .ref q0), (1, .int a1), (2, .int a2), (3, .int a3), (4, .int 1), (5, .int (if 0 < (a3 - v14) then a3 - v14 else 0)), (6, .int a3), (7, .int v15)]) [1, 2, 3, 4, 5, 6, 7, 0] dX6_yearBy_46 (Nat.le_of_ble_eq_true rfl) rfl ?_
      refine z_iload_n 3 dX6_yearBy_48 rfl ?_
      refine z_iconst (v := 1) dX6_yearBy_49 rfl ?_
      refine z_isub dX6_yearBy_50 ?_
      refine z_istore (lv' := [(0, .ref q0), (1, .int a1), (2, .int a2), (3, .int a3), (4, .int 1), (5, .int (if 0 < (a3 - v14) then a3 - v14 else 0)), (6, .int a3), (7, .int v15), (8, .int (a3 - 1))]) [1, 2, 3, 4, 5, 6, 7, 8, 0] dX6_yearBy_51 (Nat.le_of_ble_eq_true rfl) rfl ?_
      refine z_sub (lv' := [(0, .ref q0), (3, .int a3), (4, .int 1), (5, .int (if 0 < (a3 - v14) then a3 - v14 else 0)), (6, .int a3), (7, .int v15), (8, .int (a3 - 1))]) [0, 3, 4, 5, 6, 7, 8] rfl ?_
      refine t_X6_yearBy_L53 l hq0 _ _ _ _ _ _ _ _ _ _ h ?_
      · intro y16 h
        refine z_iload 0 dX6_yearBy_102 rfl ?_
        obtain rfl := Option.some.inj h
        exact z_iret dX6_yearBy_104 rfl rfl
set_option maxHeartbeats 2000000 in
set_option maxRecDepth 20000 in
theorem t_X6_fewestFor_L2 (l : Launch) {q0 : Nat} (hq0 : kd q0 = 6) : ∀ (n : Nat) (x1 : Int32) (x2 : Int32) (x3 : Int32) (S : St) (k21 : Int32 → Option Int32) (k31 : Unit → Option Int32) (r : Int32), f_X6_fewestFor_L2 n q0 x1 x2 x3 S k21 k31 = some r → (∀ (e3 : Int32), k21 e3 = some r → Z l yX6_fewestFor M_X6_fewestFor 21 [(3, .int e3)] [] S (some (.int r)) S) → (k31 () = some r → Z l yX6_fewestFor M_X6_fewestFor 31 [] [] S (some (.int r)) S) → Z l yX6_fewestFor M_X6_fewestFor 2 [(0, .ref q0), (1, .int x1), (2, .int x2), (3, .int x3)] [] S (some (.int r)) S := by
  intro n
  induction n with
  | zero =>
    intro x1 x2 x3 S k21 k31 r h hk21 hk31
    exact absurd h (by rw [f_X6_fewestFor_L2]; exact fun q => by cases q)
  | succ n ih =>
    intro x1 x2 x3 S k21 k31 r h hk21 hk31
    rw [f_X6_fewestFor_L2] at h
    refine z_iload_n 3 dX6_fewestFor_2 rfl ?_
    refine z_bipush (v := 19) dX6_fewestFor_3 rfl ?_
    refine z_icmp_gt (tgt := 31) dX6_fewestFor_5 (by decide) (fun c1 => ?_) (fun c1 => ?_)
    · replace h := ip c1 h
      refine z_sub (lv' := []) [] rfl ?_
      exact hk31  h
    · replace h := ig c1 h
      refine z_aload_n 0 dX6_fewestFor_8 rfl ?_
      refine z_iload_n 3 dX6_fewestFor_9 rfl ?_
      refine z_iconst (v := 5) dX6_fewestFor_10 rfl ?_
      refine z_imul dX6_fewestFor_11 ?_
      refine z_iconst (v := 0) dX6_fewestFor_12 rfl ?_
      refine z_iload_n 2 dX6_fewestFor_13 rfl ?_
      obtain ⟨v2, hv2, h⟩ := ob h
      refine z_callV (as := [.int (x3 * 5), .int 0, .int x2]) dX6_fewestFor_14 ml_6_54 mv_X6_yearBy (t_X6_yearBy l hq0 hv2) hq0 ⟨by decide, rfl⟩ rfl rfl (Nat.le_of_ble_eq_true rfl) ⟨Nat.le_of_ble_eq_true rfl, Nat.le_of_ble_eq_true rfl⟩ rfl ?_
      refine z_iload_n 1 dX6_fewestFor_17 rfl ?_
      refine z_icmp_ne (tgt := 25) dX6_fewestFor_18 (by decide) (fun c3 => ?_) (fun c3 => ?_)
      · replace h := ig c3 h
        refine z_iinc (lv' := [(0, .ref q0), (1, .int x1), (2, .int x2), (3, .int (x3 + 1))]) (v := x3 + 1) 3 [1, 2, 3, 0] dX6_fewestFor_25 rfl rfl (Nat.le_of_ble_eq_true rfl) rfl ?_
        refine z_goto (tgt := 2) dX6_fewestFor_28 (by decide) ?_
        refine z_sub (lv' := [(0, .ref q0), (1, .int x1), (2, .int x2), (3, .int (x3 + 1))]) [0, 1, 2, 3] rfl ?_
        exact ih _ _ _ _ _ _ _ h hk21 hk31
      · replace h := ip c3 h
        refine z_sub (lv' := [(3, .int x3)]) [3] rfl ?_
        exact hk21 _ h
set_option maxHeartbeats 2000000 in
set_option maxRecDepth 20000 in
theorem t_X6_fewestFor (l : Launch) {S : St} {q0 : Nat} (hq0 : kd q0 = 6) {a1 : Int32} {a2 : Int32} {r : Int32} (h : f_X6_fewestFor q0 a1 a2 S = some r) : CT l yX6_fewestFor M_X6_fewestFor [.ref q0, .int a1, .int a2] S (some (.int r)) S := by
  rw [f_X6_fewestFor] at h
  refine ct_of (lv := [(0, .ref q0), (1, .int a1), (2, .int a2)]) (by decide) rfl (Nat.le_of_ble_eq_true rfl) ?_
  refine z_iconst (v := 0) dX6_fewestFor_0 rfl ?_
  refine z_istore_n (lv' := [(0, .ref q0), (1, .int a1), (2, .int a2), (3, .int 0)]) [1, 2, 3, 0] dX6_fewestFor_1 (Nat.le_of_ble_eq_true rfl) rfl ?_
  refine z_sub (lv' := [(0, .ref q0), (1, .int a1), (2, .int a2), (3, .int 0)]) [0, 1, 2, 3] rfl ?_
  refine t_X6_fewestFor_L2 l hq0 _ _ _ _ _ _ _ _ h ?_ ?_
  · intro y4 h
    refine z_iload_n 0 dX6_fewestFor_21 rfl ?_
    refine z_iconst (v := 5) dX6_fewestFor_22 rfl ?_
    refine z_imul dX6_fewestFor_23 ?_
    obtain rfl := Option.some.inj h
    exact z_iret dX6_fewestFor_24 rfl rfl
  · intro h
    refine z_bipush (v := (-9)) dX6_fewestFor_31 rfl ?_
    obtain rfl := Option.some.inj h
    exact z_iret dX6_fewestFor_33 rfl rfl
set_option maxHeartbeats 2000000 in
set_option maxRecDepth 20000 in
theorem t_X0_begin_L5 (l : Launch)   : ∀ (n : Nat) (x1 : Int32) (x2 : Int32) (x3 : Int32) (x4 : Int32) (S : St) (k42 : Int32 → Option (Int32 × St)) (r : (Int32 × St)), f_X0_begin_L5 n x1 x2 x3 x4 S k42 = some r → (∀ (e3 : Int32), k42 e3 = some r → Z l yX0_begin M_X0_begin 42 [(0, .ref 67), (1, .int x1), (3, .int e3)] [] S (some (.int r.1)) r.2) → Z l yX0_begin M_X0_begin 5 [(0, .ref 67), (1, .int x1), (2, .int x2), (3, .int x3), (4, .int x4)] [] S (some (.int r.1)) r.2 := by
  intro n
  induction n with
  | zero =>
    intro x1 x2 x3 x4 S k42 r h hk42
    exact absurd h (by rw [f_X0_begin_L5]; exact fun q => by cases q)
  | succ n ih =>
    intro x1 x2 x3 x4 S k42 r h hk42
    rw [f_X0_begin_L5] at h
    refine z_iload 4 dX0_begin_5 rfl ?_
    refine z_iload_n 2 dX0_begin_7 rfl ?_
    refine z_icmp_ge (tgt := 42) dX0_begin_8 (by decide) (fun c1 => ?_) (fun c1 => ?_)
    · replace h := ip c1 h
      refine z_sub (lv' := [(0, .ref 67), (1, .int x1), (3, .int x3)]) [0, 1, 3] rfl ?_
      exact hk42 _ h
    · replace h := ig c1 h
      refine z_iload 4 dX0_begin_11 rfl ?_
      refine z_iconst (v := 4) dX0_begin_13 rfl ?_
      refine z_icmp_ge (tgt := 42) dX0_begin_14 (by decide) (fun c2 => ?_) (fun c2 => ?_)
      · replace h := ip c2 h
        refine z_sub (lv' := [(0, .ref 67), (1, .int x1), (3, .int x3)]) [0, 1, 3] rfl ?_
        exact hk42 _ h
      · replace h := ig c2 h
        refine z_aload_n 0 dX0_begin_17 rfl ?_
        refine z_get (v := .ref 69) dX0_begin_18 fl_0_15 kdl_67 rfl ?_
        refine z_iload 4 dX0_begin_21 rfl ?_
        obtain ⟨c3, h⟩ := oi h
        refine z_iald dX0_begin_23 kdl_69 (by decide) c3 ?_
        refine z_aload_n 0 dX0_begin_24 rfl ?_
        refine z_get (v := .ref 69) dX0_begin_25 fl_0_15 kdl_67 rfl ?_
        refine z_iload_n 3 dX0_begin_28 rfl ?_
        obtain ⟨c4, h⟩ := oi h
        refine z_iald dX0_begin_29 kdl_69 (by decide) c4 ?_
        refine z_icmp_ge (tgt := 36) dX0_begin_30 (by decide) (fun c5 => ?_) (fun c5 => ?_)
        · replace h := ip c5 h
          refine z_iinc (lv' := [(0, .ref 67), (1, .int x1), (2, .int x2), (3, .int x3), (4, .int (x4 + 1))]) (v := x4 + 1) 4 [1, 2, 3, 4, 0] dX0_begin_36 rfl rfl (Nat.le_of_ble_eq_true rfl) rfl ?_
          refine z_goto (tgt := 5) dX0_begin_39 (by decide) ?_
          refine z_sub (lv' := [(0, .ref 67), (1, .int x1), (2, .int x2), (3, .int x3), (4, .int (x4 + 1))]) [0, 1, 2, 3, 4] rfl ?_
          exact ih _ _ _ _ _ _ _ h hk42
        · replace h := ig c5 h
          refine z_iload 4 dX0_begin_33 rfl ?_
          refine z_istore_n (lv' := [(0, .ref 67), (1, .int x1), (2, .int x2), (3, .int x4), (4, .int x4)]) [1, 2, 3, 0, 4] dX0_begin_35 (Nat.le_of_ble_eq_true rfl) rfl ?_
          refine z_iinc (lv' := [(0, .ref 67), (1, .int x1), (2, .int x2), (3, .int x4), (4, .int (x4 + 1))]) (v := x4 + 1) 4 [1, 2, 3, 4, 0] dX0_begin_36 rfl rfl (Nat.le_of_ble_eq_true rfl) rfl ?_
          refine z_goto (tgt := 5) dX0_begin_39 (by decide) ?_
          refine z_sub (lv' := [(0, .ref 67), (1, .int x1), (2, .int x2), (3, .int x4), (4, .int (x4 + 1))]) [0, 1, 2, 3, 4] rfl ?_
          exact ih _ _ _ _ _ _ _ h hk42
set_option maxHeartbeats 2000000 in
set_option maxRecDepth 20000 in
theorem t_X0_begin (l : Launch) {S : St}  {a1 : Int32} {a2 : Int32} {r : (Int32 × St)} (h : f_X0_begin a1 a2 S = some r) : CT l yX0_begin M_X0_begin [.ref 67, .int a1, .int a2] S (some (.int r.1)) r.2 := by
  rw [f_X0_begin] at h
  refine ct_of (lv := [(0, .ref 67), (1, .int a1), (2, .int a2)]) (by decide) rfl (Nat.le_of_ble_eq_true rfl) ?_
  refine z_iconst (v := 0) dX0_begin_0 rfl ?_
  refine z_istore_n (lv' := [(0, .ref 67), (1, .int a1), (2, .int a2), (3, .int 0)]) [1, 2, 3, 0] dX0_begin_1 (Nat.le_of_ble_eq_true rfl) rfl ?_
  refine z_iconst (v := 1) dX0_begin_2 rfl ?_
  refine z_istore (lv' := [(0, .ref 67), (1, .int a1), (2, .int a2), (3, .int 0), (4, .int 1)]) [1, 2, 3, 4, 0] dX0_begin_3 (Nat.le_of_ble_eq_true rfl) rfl ?_
  refine z_sub (lv' := [(0, .ref 67), (1, .int a1), (2, .int a2), (3, .int 0), (4, .int 1)]) [0, 1, 2, 3, 4] rfl ?_
  refine t_X0_begin_L5 l _ _ _ _ _ _ _ _ h ?_
  · intro y6 h
    refine z_aload_n 0 dX0_begin_42 rfl ?_
    refine z_get (v := .ref 69) dX0_begin_43 fl_0_15 kdl_67 rfl ?_
    refine z_iload_n 2 dX0_begin_46 rfl ?_
    obtain ⟨c7, h⟩ := oi h
    refine z_iald dX0_begin_47 kdl_69 (by decide) c7 ?_
    refine z_istore (lv' := [(0, .ref 67), (1, .int a1), (3, .int y6), (4, .int (S.1 69 y6.toNatClampNeg))]) [1, 2, 3, 0] dX0_begin_48 (Nat.le_of_ble_eq_true rfl) rfl ?_
    refine z_aload_n 0 dX0_begin_50 rfl ?_
    refine z_get (v := .ref 69) dX0_begin_51 fl_0_15 kdl_67 rfl ?_
    refine z_iload_n 2 dX0_begin_54 rfl ?_
    refine z_iload 3 dX0_begin_55 rfl ?_
    refine z_iload_n 1 dX0_begin_57 rfl ?_
    refine z_iadd dX0_begin_58 ?_
    obtain ⟨c8, h⟩ := oi h
    refine z_iast dX0_begin_59 kdl_69 (by decide) c8 ?_
    refine z_aload_n 0 dX0_begin_60 rfl ?_
    refine z_aload_n 0 dX0_begin_61 rfl ?_
    refine z_get (v := .int ((up S 69 y6.toNatClampNeg ((S.1 69 y6.toNatClampNeg) + a1)).1 67 2)) dX0_begin_62 fl_0_18 kdl_67 rfl ?_
    refine z_aload_n 0 dX0_begin_65 rfl ?_
    refine z_get (v := .ref 69) dX0_begin_66 fl_0_15 kdl_67 rfl ?_
    refine z_iload_n 2 dX0_begin_69 rfl ?_
    obtain ⟨c9, h⟩ := oi h
    refine z_iald dX0_begin_70 kdl_69 (by decide) c9 ?_
    refine z_max dX0_begin_71 mx_0_54 (Nat.le_of_ble_eq_true rfl) (Nat.le_of_ble_eq_true rfl) ?_
    refine z_put (fk := 2) dX0_begin_74 fl_0_18 fp_0_2 kdl_67 rfl rfl rfl (Nat.le_of_ble_eq_true rfl) ?_
    refine z_iload 3 dX0_begin_77 rfl ?_
    obtain rfl := Option.some.inj h
    exact z_iret dX0_begin_79 rfl rfl
set_option maxHeartbeats 2000000 in
set_option maxRecDepth 20000 in
theorem t_X0_arrange_L7 (l : Launch) {q1 : Nat} (hq1 : kd q1 = 3) : ∀ (n : Nat) (x2 : Int32) (S : St) (k25 : St → Option St) (r : St), f_X0_arrange_L7 n q1 x2 S k25 = some r → (∀ (T : St), k25 T = some r → Z l yX0_arrange M_X0_arrange 25 [(0, .ref 67), (1, .ref q1)] [] T none r) → Z l yX0_arrange M_X0_arrange 7 [(0, .ref 67), (1, .ref q1), (2, .int x2)] [] S none r := by
  intro n
  induction n with
  | zero =>
    intro x2 S k25 r h hk25
    exact absurd h (by rw [f_X0_arrange_L7]; exact fun q => by cases q)
  | succ n ih =>
    intro x2 S k25 r h hk25
    rw [f_X0_arrange_L7] at h
    refine z_iload_n 2 dX0_arrange_7 rfl ?_
    refine z_iconst (v := 4) dX0_arrange_8 rfl ?_
    refine z_icmp_ge (tgt := 25) dX0_arrange_9 (by decide) (fun c1 => ?_) (fun c1 => ?_)
    · replace h := ip c1 h
      refine z_sub (lv' := [(0, .ref 67), (1, .ref q1)]) [0, 1] rfl ?_
      exact hk25 _ h
    · replace h := ig c1 h
      refine z_aload_n 0 dX0_arrange_12 rfl ?_
      refine z_get (v := .ref 69) dX0_arrange_13 fl_0_15 kdl_67 rfl ?_
      refine z_iload_n 2 dX0_arrange_16 rfl ?_
      refine z_iconst (v := 0) dX0_arrange_17 rfl ?_
      obtain ⟨c2, h⟩ := oi h
      refine z_iast dX0_arrange_18 kdl_69 (by decide) c2 ?_
      refine z_iinc (lv' := [(0, .ref 67), (1, .ref q1), (2, .int (x2 + 1))]) (v := x2 + 1) 2 [1, 2, 0] dX0_arrange_19 rfl rfl (Nat.le_of_ble_eq_true rfl) rfl ?_
      refine z_goto (tgt := 7) dX0_arrange_22 (by decide) ?_
      refine z_sub (lv' := [(0, .ref 67), (1, .ref q1), (2, .int (x2 + 1))]) [0, 1, 2] rfl ?_
      exact ih _ _ _ _ h hk25
set_option maxHeartbeats 2000000 in
set_option maxRecDepth 20000 in
theorem t_X0_arrange_L27 (l : Launch) {q1 : Nat} (hq1 : kd q1 = 3) : ∀ (n : Nat) (x2 : Int32) (S : St) (k111 : St → Option St) (r : St), f_X0_arrange_L27 n q1 x2 S k111 = some r → (∀ (T : St), k111 T = some r → Z l yX0_arrange M_X0_arrange 111 [] [] T none r) → Z l yX0_arrange M_X0_arrange 27 [(0, .ref 67), (1, .ref q1), (2, .int x2)] [] S none r := by
  intro n
  induction n with
  | zero =>
    intro x2 S k111 r h hk111
    exact absurd h (by rw [f_X0_arrange_L27]; exact fun q => by cases q)
  | succ n ih =>
    intro x2 S k111 r h hk111
    rw [f_X0_arrange_L27] at h
    refine z_iload_n 2 dX0_arrange_27 rfl ?_
    refine z_aload_n 1 dX0_arrange_28 rfl ?_
    refine z_get (v := .int (S.1 q1 0)) dX0_arrange_29 fl_0_22 hq1 rfl ?_
    refine z_icmp_ge (tgt := 111) dX0_arrange_32 (by decide) (fun c4 => ?_) (fun c4 => ?_)
    · replace h := ip c4 h
      refine z_sub (lv' := []) [] rfl ?_
      exact hk111 _ h
    · replace h := ig c4 h
      refine z_iload_n 2 dX0_arrange_35 rfl ?_
      refine z_bipush (v := 8) dX0_arrange_36 rfl ?_
      refine z_icmp_ge (tgt := 111) dX0_arrange_38 (by decide) (fun c5 => ?_) (fun c5 => ?_)
      · replace h := ip c5 h
        refine z_sub (lv' := []) [] rfl ?_
        exact hk111 _ h
      · replace h := ig c5 h
        refine z_aload_n 1 dX0_arrange_41 rfl ?_
        refine z_iload_n 2 dX0_arrange_42 rfl ?_
        obtain ⟨v6, hv6, h⟩ := ob h
        refine z_callV (as := [.int x2]) dX0_arrange_43 ml_0_27 mv_X3_at (t_X3_at l hq1 hv6) hq1 ⟨by decide, rfl⟩ rfl rfl (Nat.le_of_ble_eq_true rfl) ⟨Nat.le_of_ble_eq_true rfl, Nat.le_of_ble_eq_true rfl⟩ rfl ?_
        refine z_astore_n (lv' := [(0, .ref 67), (1, .ref q1), (2, .int x2), (3, .ref v6)]) [1, 2, 3, 0] dX0_arrange_46 (Nat.le_of_ble_eq_true rfl) rfl ?_
        refine z_aload_n 3 dX0_arrange_47 rfl ?_
        obtain ⟨v7, hv7, h⟩ := ob h
        refine z_callV (as := []) dX0_arrange_48 ml_0_31 mv_X6_isSet (t_X6_isSet l (kd_at hq1 hv6) hv7) (kd_at hq1 hv6) ⟨by decide, rfl⟩ rfl rfl (Nat.le_of_ble_eq_true rfl) ⟨Nat.le_of_ble_eq_true rfl, Nat.le_of_ble_eq_true rfl⟩ rfl ?_
        refine z_if_eq (tgt := 59) dX0_arrange_51 (by decide) (fun c8 => ?_) (fun c8 => ?_)
        · replace h := ip c8 h
          refine z_aload_n 3 dX0_arrange_59 rfl ?_
          refine z_aload_n 3 dX0_arrange_60 rfl ?_
          refine z_aload_n 1 dX0_arrange_61 rfl ?_
          refine z_get (v := .int (S.1 q1 1)) dX0_arrange_62 fl_0_37 hq1 rfl ?_
          obtain ⟨v9, hv9, h⟩ := ob h
          refine z_callV (as := [.int (S.1 q1 1)]) dX0_arrange_65 ml_0_40 mv_X6_gladdestYear (t_X6_gladdestYear l (kd_at hq1 hv6) hv9) (kd_at hq1 hv6) ⟨by decide, rfl⟩ rfl rfl (Nat.le_of_ble_eq_true rfl) ⟨Nat.le_of_ble_eq_true rfl, Nat.le_of_ble_eq_true rfl⟩ rfl ?_
          refine z_aload_n 1 dX0_arrange_68 rfl ?_
          refine z_get (v := .int (S.1 q1 1)) dX0_arrange_69 fl_0_37 hq1 rfl ?_
          obtain ⟨v10, hv10, h⟩ := ob h
          refine z_callV (as := [.int v9, .int (S.1 q1 1)]) dX0_arrange_72 ml_0_44 mv_X6_fewestFor (t_X6_fewestFor l (kd_at hq1 hv6) hv10) (kd_at hq1 hv6) ⟨by decide, rfl⟩ rfl rfl (Nat.le_of_ble_eq_true rfl) ⟨Nat.le_of_ble_eq_true rfl, Nat.le_of_ble_eq_true rfl⟩ rfl ?_
          refine z_istore (lv' := [(0, .ref 67), (1, .ref q1), (2, .int x2), (3, .ref v6), (4, .int v10)]) [1, 2, 3, 4, 0] dX0_arrange_75 (Nat.le_of_ble_eq_true rfl) rfl ?_
          refine z_aload_n 0 dX0_arrange_77 rfl ?_
          refine z_get (v := .ref 68) dX0_arrange_78 fl_0_9 kdl_67 rfl ?_
          refine z_iload_n 2 dX0_arrange_81 rfl ?_
          refine z_iload 4 dX0_arrange_82 rfl ?_
          refine z_bipush (v := (-9)) dX0_arrange_84 rfl ?_
          refine z_icmp_ne (tgt := 94) dX0_arrange_86 (by decide) (fun c11 => ?_) (fun c11 => ?_)
          · replace h := ig c11 h
            refine z_aload_n 0 dX0_arrange_94 rfl ?_
            refine z_iload 4 dX0_arrange_95 rfl ?_
            refine z_aload_n 1 dX0_arrange_97 rfl ?_
            refine z_get (v := .int (S.1 q1 3)) dX0_arrange_98 fl_0_48 hq1 rfl ?_
            obtain ⟨z12, hz12, h⟩ := ob h
            refine z_callV (as := [.int v10, .int (S.1 q1 3)]) dX0_arrange_101 ml_0_51 mv_X0_begin (t_X0_begin l hz12) kdl_67 ⟨by decide, rfl⟩ rfl rfl (Nat.le_of_ble_eq_true rfl) ⟨Nat.le_of_ble_eq_true rfl, Nat.le_of_ble_eq_true rfl⟩ rfl ?_
            obtain ⟨c13, h⟩ := oi h
            refine z_iast dX0_arrange_104 kdl_68 (by decide) c13 ?_
            refine z_iinc (lv' := [(0, .ref 67), (1, .ref q1), (2, .int (x2 + 1)), (3, .ref v6), (4, .int v10)]) (v := x2 + 1) 2 [1, 2, 0, 3, 4] dX0_arrange_105 rfl rfl (Nat.le_of_ble_eq_true rfl) rfl ?_
            refine z_goto (tgt := 27) dX0_arrange_108 (by decide) ?_
            refine z_sub (lv' := [(0, .ref 67), (1, .ref q1), (2, .int (x2 + 1))]) [0, 1, 2] rfl ?_
            exact ih _ _ _ _ h hk111
          · replace h := ip c11 h
            refine z_bipush (v := (-9)) dX0_arrange_89 rfl ?_
            refine z_goto (tgt := 104) dX0_arrange_91 (by decide) ?_
            obtain ⟨c14, h⟩ := oi h
            refine z_iast dX0_arrange_104 kdl_68 (by decide) c14 ?_
            refine z_iinc (lv' := [(0, .ref 67), (1, .ref q1), (2, .int (x2 + 1)), (3, .ref v6), (4, .int v10)]) (v := x2 + 1) 2 [1, 2, 0, 3, 4] dX0_arrange_105 rfl rfl (Nat.le_of_ble_eq_true rfl) rfl ?_
            refine z_goto (tgt := 27) dX0_arrange_108 (by decide) ?_
            refine z_sub (lv' := [(0, .ref 67), (1, .ref q1), (2, .int (x2 + 1))]) [0, 1, 2] rfl ?_
            exact ih _ _ _ _ h hk111
        · replace h := ig c8 h
          refine z_bipush (v := (-9)) dX0_arrange_54 rfl ?_
          refine z_goto (tgt := 75) dX0_arrange_56 (by decide) ?_
          refine z_istore (lv' := [(0, .ref 67), (1, .ref q1), (2, .int x2), (3, .ref v6), (4, .int (-9))]) [1, 2, 3, 4, 0] dX0_arrange_75 (Nat.le_of_ble_eq_true rfl) rfl ?_
          refine z_aload_n 0 dX0_arrange_77 rfl ?_
          refine z_get (v := .ref 68) dX0_arrange_78 fl_0_9 kdl_67 rfl ?_
          refine z_iload_n 2 dX0_arrange_81 rfl ?_
          refine z_iload 4 dX0_arrange_82 rfl ?_
          refine z_bipush (v := (-9)) dX0_arrange_84 rfl ?_
          refine z_icmp_ne (tgt := 94) dX0_arrange_86 (by decide) (fun c15 => ?_) (fun c15 => ?_)
          · first | exact absurd c15 (by decide) | exact absurd rfl c15
          · refine z_bipush (v := (-9)) dX0_arrange_89 rfl ?_
            refine z_goto (tgt := 104) dX0_arrange_91 (by decide) ?_
            obtain ⟨c16, h⟩ := oi h
            refine z_iast dX0_arrange_104 kdl_68 (by decide) c16 ?_
            refine z_iinc (lv' := [(0, .ref 67), (1, .ref q1), (2, .int (x2 + 1)), (3, .ref v6), (4, .int (-9))]) (v := x2 + 1) 2 [1, 2, 0, 3, 4] dX0_arrange_105 rfl rfl (Nat.le_of_ble_eq_true rfl) rfl ?_
            refine z_goto (tgt := 27) dX0_arrange_108 (by decide) ?_
            refine z_sub (lv' := [(0, .ref 67), (1, .ref q1), (2, .int (x2 + 1))]) [0, 1, 2] rfl ?_
            exact ih _ _ _ _ h hk111
set_option maxHeartbeats 2000000 in
set_option maxRecDepth 20000 in
theorem t_X0_arrange (l : Launch) {S : St} {q1 : Nat} (hq1 : kd q1 = 3)  {r : St} (h : f_X0_arrange q1 S = some r) : CT l yX0_arrange M_X0_arrange [.ref 67, .ref q1] S none r := by
  rw [f_X0_arrange] at h
  refine ct_of (lv := [(0, .ref 67), (1, .ref q1)]) (by decide) rfl (Nat.le_of_ble_eq_true rfl) ?_
  refine z_aload_n 0 dX0_arrange_0 rfl ?_
  refine z_iconst (v := 0) dX0_arrange_1 rfl ?_
  refine z_put (fk := 2) dX0_arrange_2 fl_0_18 fp_0_2 kdl_67 rfl rfl rfl (Nat.le_of_ble_eq_true rfl) ?_
  refine z_iconst (v := 0) dX0_arrange_5 rfl ?_
  refine z_istore_n (lv' := [(0, .ref 67), (1, .ref q1), (2, .int 0)]) [1, 2, 0] dX0_arrange_6 (Nat.le_of_ble_eq_true rfl) rfl ?_
  refine z_sub (lv' := [(0, .ref 67), (1, .ref q1), (2, .int 0)]) [0, 1, 2] rfl ?_
  refine t_X0_arrange_L7 l hq1 _ _ _ _ _ h ?_
  · intro S3 h
    refine z_iconst (v := 0) dX0_arrange_25 rfl ?_
    refine z_istore_n (lv' := [(0, .ref 67), (1, .ref q1), (2, .int 0)]) [1, 2, 0] dX0_arrange_26 (Nat.le_of_ble_eq_true rfl) rfl ?_
    refine z_sub (lv' := [(0, .ref 67), (1, .ref q1), (2, .int 0)]) [0, 1, 2] rfl ?_
    refine t_X0_arrange_L27 l hq1 _ _ _ _ _ h ?_
    · intro S17 h
      obtain rfl := Option.some.inj h
      exact z_vret dX0_arrange_111 rfl
set_option maxHeartbeats 2000000 in
set_option maxRecDepth 20000 in
theorem t_X0_beginOf (l : Launch) {S : St}  {a1 : Int32} {r : Int32} (h : f_X0_beginOf a1 S = some r) : CT l yX0_beginOf M_X0_beginOf [.ref 67, .int a1] S (some (.int r)) S := by
  rw [f_X0_beginOf] at h
  refine ct_of (lv := [(0, .ref 67), (1, .int a1)]) (by decide) rfl (Nat.le_of_ble_eq_true rfl) ?_
  refine z_iload_n 1 dX0_beginOf_0 rfl ?_
  refine z_if_lt (tgt := 10) dX0_beginOf_1 (by decide) (fun c1 => ?_) (fun c1 => ?_)
  · replace h := ip c1 h
    refine z_bipush (v := (-9)) dX0_beginOf_10 rfl ?_
    refine z_goto (tgt := 21) dX0_beginOf_12 (by decide) ?_
    obtain rfl := Option.some.inj h
    exact z_iret dX0_beginOf_21 rfl rfl
  · replace h := ig c1 h
    refine z_iload_n 1 dX0_beginOf_4 rfl ?_
    refine z_bipush (v := 8) dX0_beginOf_5 rfl ?_
    refine z_icmp_lt (tgt := 15) dX0_beginOf_7 (by decide) (fun c2 => ?_) (fun c2 => ?_)
    · replace h := ip c2 h
      refine z_aload_n 0 dX0_beginOf_15 rfl ?_
      refine z_get (v := .ref 68) dX0_beginOf_16 fl_0_9 kdl_67 rfl ?_
      refine z_iload_n 1 dX0_beginOf_19 rfl ?_
      obtain ⟨c3, h⟩ := oi h
      refine z_iald dX0_beginOf_20 kdl_68 (by decide) c3 ?_
      obtain rfl := Option.some.inj h
      exact z_iret dX0_beginOf_21 rfl rfl
    · replace h := ig c2 h
      refine z_bipush (v := (-9)) dX0_beginOf_10 rfl ?_
      refine z_goto (tgt := 21) dX0_beginOf_12 (by decide) ?_
      obtain rfl := Option.some.inj h
      exact z_iret dX0_beginOf_21 rfl rfl
set_option maxHeartbeats 2000000 in
set_option maxRecDepth 20000 in
theorem t_X3_setBits_L4 (l : Launch) {q0 : Nat} (hq0 : kd q0 = 3) : ∀ (n : Nat) (x1 : Int32) (x2 : Int32) (S : St) (k35 : Int32 → Option Int32) (r : Int32), f_X3_setBits_L4 n q0 x1 x2 S k35 = some r → (∀ (e1 : Int32), k35 e1 = some r → Z l yX3_setBits M_X3_setBits 35 [(1, .int e1)] [] S (some (.int r)) S) → Z l yX3_setBits M_X3_setBits 4 [(0, .ref q0), (1, .int x1), (2, .int x2)] [] S (some (.int r)) S := by
  intro n
  induction n with
  | zero =>
    intro x1 x2 S k35 r h hk35
    exact absurd h (by rw [f_X3_setBits_L4]; exact fun q => by cases q)
  | succ n ih =>
    intro x1 x2 S k35 r h hk35
    rw [f_X3_setBits_L4] at h
    refine z_iload_n 2 dX3_setBits_4 rfl ?_
    refine z_aload_n 0 dX3_setBits_5 rfl ?_
    refine z_get (v := .int (S.1 q0 0)) dX3_setBits_6 fl_3_29 hq0 rfl ?_
    refine z_icmp_ge (tgt := 35) dX3_setBits_9 (by decide) (fun c1 => ?_) (fun c1 => ?_)
    · replace h := ip c1 h
      refine z_sub (lv' := [(1, .int x1)]) [1] rfl ?_
      exact hk35 _ h
    · replace h := ig c1 h
      refine z_aload_n 0 dX3_setBits_12 rfl ?_
      refine z_iload_n 2 dX3_setBits_13 rfl ?_
      obtain ⟨v2, hv2, h⟩ := ob h
      refine z_callV (as := [.int x2]) dX3_setBits_14 ml_3_43 mv_X3_at (t_X3_at l hq0 hv2) hq0 ⟨by decide, rfl⟩ rfl rfl (Nat.le_of_ble_eq_true rfl) ⟨Nat.le_of_ble_eq_true rfl, Nat.le_of_ble_eq_true rfl⟩ rfl ?_
      obtain ⟨v3, hv3, h⟩ := ob h
      refine z_callV (as := []) dX3_setBits_17 ml_3_61 mv_X6_isSet (t_X6_isSet l (kd_at hq0 hv2) hv3) (kd_at hq0 hv2) ⟨by decide, rfl⟩ rfl rfl (Nat.le_of_ble_eq_true rfl) ⟨Nat.le_of_ble_eq_true rfl, Nat.le_of_ble_eq_true rfl⟩ rfl ?_
      refine z_if_eq (tgt := 29) dX3_setBits_20 (by decide) (fun c4 => ?_) (fun c4 => ?_)
      · replace h := ip c4 h
        refine z_iinc (lv' := [(0, .ref q0), (1, .int x1), (2, .int (x2 + 1))]) (v := x2 + 1) 2 [1, 2, 0] dX3_setBits_29 rfl rfl (Nat.le_of_ble_eq_true rfl) rfl ?_
        refine z_goto (tgt := 4) dX3_setBits_32 (by decide) ?_
        refine z_sub (lv' := [(0, .ref q0), (1, .int x1), (2, .int (x2 + 1))]) [0, 1, 2] rfl ?_
        exact ih _ _ _ _ _ h hk35
      · replace h := ig c4 h
        refine z_iload_n 1 dX3_setBits_23 rfl ?_
        refine z_iconst (v := 1) dX3_setBits_24 rfl ?_
        refine z_iload_n 2 dX3_setBits_25 rfl ?_
        refine z_ishl dX3_setBits_26 ?_
        refine z_ior dX3_setBits_27 ?_
        refine z_istore_n (lv' := [(0, .ref q0), (1, .int (x1 ||| (1 <<< (x2 &&& 31)))), (2, .int x2)]) [1, 0, 2] dX3_setBits_28 (Nat.le_of_ble_eq_true rfl) rfl ?_
        refine z_iinc (lv' := [(0, .ref q0), (1, .int (x1 ||| (1 <<< (x2 &&& 31)))), (2, .int (x2 + 1))]) (v := x2 + 1) 2 [1, 2, 0] dX3_setBits_29 rfl rfl (Nat.le_of_ble_eq_true rfl) rfl ?_
        refine z_goto (tgt := 4) dX3_setBits_32 (by decide) ?_
        refine z_sub (lv' := [(0, .ref q0), (1, .int (x1 ||| (1 <<< (x2 &&& 31)))), (2, .int (x2 + 1))]) [0, 1, 2] rfl ?_
        exact ih _ _ _ _ _ h hk35
set_option maxHeartbeats 2000000 in
set_option maxRecDepth 20000 in
theorem t_X3_setBits (l : Launch) {S : St} {q0 : Nat} (hq0 : kd q0 = 3)  {r : Int32} (h : f_X3_setBits q0 S = some r) : CT l yX3_setBits M_X3_setBits [.ref q0] S (some (.int r)) S := by
  rw [f_X3_setBits] at h
  refine ct_of (lv := [(0, .ref q0)]) (by decide) rfl (Nat.le_of_ble_eq_true rfl) ?_
  refine z_iconst (v := 0) dX3_setBits_0 rfl ?_
  refine z_istore_n (lv' := [(0, .ref q0), (1, .int 0)]) [1, 0] dX3_setBits_1 (Nat.le_of_ble_eq_true rfl) rfl ?_
  refine z_iconst (v := 0) dX3_setBits_2 rfl ?_
  refine z_istore_n (lv' := [(0, .ref q0), (1, .int 0), (2, .int 0)]) [1, 2, 0] dX3_setBits_3 (Nat.le_of_ble_eq_true rfl) rfl ?_
  refine z_sub (lv' := [(0, .ref q0), (1, .int 0), (2, .int 0)]) [0, 1, 2] rfl ?_
  refine t_X3_setBits_L4 l hq0 _ _ _ _ _ _ h ?_
  · intro y5 h
    refine z_iload_n 0 dX3_setBits_35 rfl ?_
    obtain rfl := Option.some.inj h
    exact z_iret dX3_setBits_36 rfl rfl
set_option maxHeartbeats 2000000 in
set_option maxRecDepth 20000 in
theorem t_X6_howGlad (l : Launch) {S : St} {q0 : Nat} (hq0 : kd q0 = 6) {a1 : Int32} {r : Int32} (h : f_X6_howGlad q0 a1 S = some r) : CT l yX6_howGlad M_X6_howGlad [.ref q0, .int a1] S (some (.int r)) S := by
  rw [f_X6_howGlad] at h
  refine ct_of (lv := [(0, .ref q0), (1, .int a1)]) (by decide) rfl (Nat.le_of_ble_eq_true rfl) ?_
  refine z_aload_n 0 dX6_howGlad_0 rfl ?_
  refine z_aload_n 0 dX6_howGlad_1 rfl ?_
  obtain ⟨v1, hv1, h⟩ := ob h
  refine z_callV (as := []) dX6_howGlad_2 ml_6_31 mv_X6_isSet (t_X6_isSet l hq0 hv1) hq0 ⟨by decide, rfl⟩ rfl rfl (Nat.le_of_ble_eq_true rfl) ⟨Nat.le_of_ble_eq_true rfl, Nat.le_of_ble_eq_true rfl⟩ rfl ?_
  refine z_if_eq (tgt := 15) dX6_howGlad_5 (by decide) (fun c2 => ?_) (fun c2 => ?_)
  · replace h := ip c2 h
    refine z_iload_n 1 dX6_howGlad_15 rfl ?_
    obtain ⟨v3, hv3, h⟩ := ob h
    refine z_callV (as := [.int a1]) dX6_howGlad_16 ml_6_35 mv_X6_gladIn (t_X6_gladIn l hq0 hv3) hq0 ⟨by decide, rfl⟩ rfl rfl (Nat.le_of_ble_eq_true rfl) ⟨Nat.le_of_ble_eq_true rfl, Nat.le_of_ble_eq_true rfl⟩ rfl ?_
    obtain rfl := Option.some.inj h
    exact z_iret dX6_howGlad_19 rfl rfl
  · replace h := ig c2 h
    refine z_aload_n 0 dX6_howGlad_8 rfl ?_
    refine z_get (v := .int (S.1 q0 2)) dX6_howGlad_9 fl_6_9 hq0 rfl ?_
    refine z_goto (tgt := 16) dX6_howGlad_12 (by decide) ?_
    obtain ⟨v4, hv4, h⟩ := ob h
    refine z_callV (as := [.int (S.1 q0 2)]) dX6_howGlad_16 ml_6_35 mv_X6_gladIn (t_X6_gladIn l hq0 hv4) hq0 ⟨by decide, rfl⟩ rfl rfl (Nat.le_of_ble_eq_true rfl) ⟨Nat.le_of_ble_eq_true rfl, Nat.le_of_ble_eq_true rfl⟩ rfl ?_
    obtain rfl := Option.some.inj h
    exact z_iret dX6_howGlad_19 rfl rfl
set_option maxHeartbeats 2000000 in
set_option maxRecDepth 20000 in
theorem t_X3_gladTogether_L4 (l : Launch) {q0 : Nat} (hq0 : kd q0 = 3) : ∀ (n : Nat) (x1 : Int32) (x2 : Int32) (x3 : Int32) (S : St) (k30 : Int32 → Option Int32) (r : Int32), f_X3_gladTogether_L4 n q0 x1 x2 x3 S k30 = some r → (∀ (e2 : Int32), k30 e2 = some r → Z l yX3_gladTogether M_X3_gladTogether 30 [(2, .int e2)] [] S (some (.int r)) S) → Z l yX3_gladTogether M_X3_gladTogether 4 [(0, .ref q0), (1, .int x1), (2, .int x2), (3, .int x3)] [] S (some (.int r)) S := by
  intro n
  induction n with
  | zero =>
    intro x1 x2 x3 S k30 r h hk30
    exact absurd h (by rw [f_X3_gladTogether_L4]; exact fun q => by cases q)
  | succ n ih =>
    intro x1 x2 x3 S k30 r h hk30
    rw [f_X3_gladTogether_L4] at h
    refine z_iload_n 3 dX3_gladTogether_4 rfl ?_
    refine z_aload_n 0 dX3_gladTogether_5 rfl ?_
    refine z_get (v := .int (S.1 q0 0)) dX3_gladTogether_6 fl_3_29 hq0 rfl ?_
    refine z_icmp_ge (tgt := 30) dX3_gladTogether_9 (by decide) (fun c1 => ?_) (fun c1 => ?_)
    · replace h := ip c1 h
      refine z_sub (lv' := [(2, .int x2)]) [2] rfl ?_
      exact hk30 _ h
    · replace h := ig c1 h
      refine z_iload_n 2 dX3_gladTogether_12 rfl ?_
      refine z_aload_n 0 dX3_gladTogether_13 rfl ?_
      refine z_iload_n 3 dX3_gladTogether_14 rfl ?_
      obtain ⟨v2, hv2, h⟩ := ob h
      refine z_callV (as := [.int x3]) dX3_gladTogether_15 ml_3_43 mv_X3_at (t_X3_at l hq0 hv2) hq0 ⟨by decide, rfl⟩ rfl rfl (Nat.le_of_ble_eq_true rfl) ⟨Nat.le_of_ble_eq_true rfl, Nat.le_of_ble_eq_true rfl⟩ rfl ?_
      refine z_iload_n 1 dX3_gladTogether_18 rfl ?_
      obtain ⟨v3, hv3, h⟩ := ob h
      refine z_callV (as := [.int x1]) dX3_gladTogether_19 ml_3_76 mv_X6_howGlad (t_X6_howGlad l (kd_at hq0 hv2) hv3) (kd_at hq0 hv2) ⟨by decide, rfl⟩ rfl rfl (Nat.le_of_ble_eq_true rfl) ⟨Nat.le_of_ble_eq_true rfl, Nat.le_of_ble_eq_true rfl⟩ rfl ?_
      refine z_iadd dX3_gladTogether_22 ?_
      refine z_istore_n (lv' := [(0, .ref q0), (1, .int x1), (2, .int (x2 + v3)), (3, .int x3)]) [1, 2, 0, 3] dX3_gladTogether_23 (Nat.le_of_ble_eq_true rfl) rfl ?_
      refine z_iinc (lv' := [(0, .ref q0), (1, .int x1), (2, .int (x2 + v3)), (3, .int (x3 + 1))]) (v := x3 + 1) 3 [1, 2, 3, 0] dX3_gladTogether_24 rfl rfl (Nat.le_of_ble_eq_true rfl) rfl ?_
      refine z_goto (tgt := 4) dX3_gladTogether_27 (by decide) ?_
      refine z_sub (lv' := [(0, .ref q0), (1, .int x1), (2, .int (x2 + v3)), (3, .int (x3 + 1))]) [0, 1, 2, 3] rfl ?_
      exact ih _ _ _ _ _ _ h hk30
set_option maxHeartbeats 2000000 in
set_option maxRecDepth 20000 in
theorem t_X3_gladTogether (l : Launch) {S : St} {q0 : Nat} (hq0 : kd q0 = 3) {a1 : Int32} {r : Int32} (h : f_X3_gladTogether q0 a1 S = some r) : CT l yX3_gladTogether M_X3_gladTogether [.ref q0, .int a1] S (some (.int r)) S := by
  rw [f_X3_gladTogether] at h
  refine ct_of (lv := [(0, .ref q0), (1, .int a1)]) (by decide) rfl (Nat.le_of_ble_eq_true rfl) ?_
  refine z_iconst (v := 0) dX3_gladTogether_0 rfl ?_
  refine z_istore_n (lv' := [(0, .ref q0), (1, .int a1), (2, .int 0)]) [1, 2, 0] dX3_gladTogether_1 (Nat.le_of_ble_eq_true rfl) rfl ?_
  refine z_iconst (v := 0) dX3_gladTogether_2 rfl ?_
  refine z_istore_n (lv' := [(0, .ref q0), (1, .int a1), (2, .int 0), (3, .int 0)]) [1, 2, 3, 0] dX3_gladTogether_3 (Nat.le_of_ble_eq_true rfl) rfl ?_
  refine z_sub (lv' := [(0, .ref q0), (1, .int a1), (2, .int 0), (3, .int 0)]) [0, 1, 2, 3] rfl ?_
  refine t_X3_gladTogether_L4 l hq0 _ _ _ _ _ _ _ h ?_
  · intro y4 h
    refine z_iload_n 0 dX3_gladTogether_30 rfl ?_
    obtain rfl := Option.some.inj h
    exact z_iret dX3_gladTogether_31 rfl rfl
set_option maxHeartbeats 2000000 in
set_option maxRecDepth 20000 in
theorem t_X6_gladdestBy_L4 (l : Launch) {q0 : Nat} (hq0 : kd q0 = 6) : ∀ (n : Nat) (x1 : Int32) (x2 : Int32) (x3 : Int32) (S : St) (k34 : Int32 → Option Int32) (r : Int32), f_X6_gladdestBy_L4 n q0 x1 x2 x3 S k34 = some r → (∀ (e2 : Int32), k34 e2 = some r → Z l yX6_gladdestBy M_X6_gladdestBy 34 [(2, .int e2)] [] S (some (.int r)) S) → Z l yX6_gladdestBy M_X6_gladdestBy 4 [(0, .ref q0), (1, .int x1), (2, .int x2), (3, .int x3)] [] S (some (.int r)) S := by
  intro n
  induction n with
  | zero =>
    intro x1 x2 x3 S k34 r h hk34
    exact absurd h (by rw [f_X6_gladdestBy_L4]; exact fun q => by cases q)
  | succ n ih =>
    intro x1 x2 x3 S k34 r h hk34
    rw [f_X6_gladdestBy_L4] at h
    refine z_iload_n 3 dX6_gladdestBy_4 rfl ?_
    refine z_bipush (v := 19) dX6_gladdestBy_5 rfl ?_
    refine z_icmp_gt (tgt := 34) dX6_gladdestBy_7 (by decide) (fun c1 => ?_) (fun c1 => ?_)
    · replace h := ip c1 h
      refine z_sub (lv' := [(2, .int x2)]) [2] rfl ?_
      exact hk34 _ h
    · replace h := ig c1 h
      refine z_iload_n 2 dX6_gladdestBy_10 rfl ?_
      refine z_aload_n 0 dX6_gladdestBy_11 rfl ?_
      refine z_aload_n 0 dX6_gladdestBy_12 rfl ?_
      refine z_iload_n 3 dX6_gladdestBy_13 rfl ?_
      refine z_iconst (v := 5) dX6_gladdestBy_14 rfl ?_
      refine z_imul dX6_gladdestBy_15 ?_
      refine z_iconst (v := 0) dX6_gladdestBy_16 rfl ?_
      refine z_iload_n 1 dX6_gladdestBy_17 rfl ?_
      obtain ⟨v2, hv2, h⟩ := ob h
      refine z_callV (as := [.int (x3 * 5), .int 0, .int x1]) dX6_gladdestBy_18 ml_6_54 mv_X6_yearBy (t_X6_yearBy l hq0 hv2) hq0 ⟨by decide, rfl⟩ rfl rfl (Nat.le_of_ble_eq_true rfl) ⟨Nat.le_of_ble_eq_true rfl, Nat.le_of_ble_eq_true rfl⟩ rfl ?_
      obtain ⟨v3, hv3, h⟩ := ob h
      refine z_callV (as := [.int v2]) dX6_gladdestBy_21 ml_6_35 mv_X6_gladIn (t_X6_gladIn l hq0 hv3) hq0 ⟨by decide, rfl⟩ rfl rfl (Nat.le_of_ble_eq_true rfl) ⟨Nat.le_of_ble_eq_true rfl, Nat.le_of_ble_eq_true rfl⟩ rfl ?_
      refine z_max dX6_gladdestBy_24 mx_6_42 (Nat.le_of_ble_eq_true rfl) (Nat.le_of_ble_eq_true rfl) ?_
      refine z_istore_n (lv' := [(0, .ref q0), (1, .int x1), (2, .int (if x2 < v3 then v3 else x2)), (3, .int x3)]) [1, 2, 0, 3] dX6_gladdestBy_27 (Nat.le_of_ble_eq_true rfl) rfl ?_
      refine z_iinc (lv' := [(0, .ref q0), (1, .int x1), (2, .int (if x2 < v3 then v3 else x2)), (3, .int (x3 + 1))]) (v := x3 + 1) 3 [1, 2, 3, 0] dX6_gladdestBy_28 rfl rfl (Nat.le_of_ble_eq_true rfl) rfl ?_
      refine z_goto (tgt := 4) dX6_gladdestBy_31 (by decide) ?_
      refine z_sub (lv' := [(0, .ref q0), (1, .int x1), (2, .int (if x2 < v3 then v3 else x2)), (3, .int (x3 + 1))]) [0, 1, 2, 3] rfl ?_
      exact ih _ _ _ _ _ _ h hk34
set_option maxHeartbeats 2000000 in
set_option maxRecDepth 20000 in
theorem t_X6_gladdestBy (l : Launch) {S : St} {q0 : Nat} (hq0 : kd q0 = 6) {a1 : Int32} {r : Int32} (h : f_X6_gladdestBy q0 a1 S = some r) : CT l yX6_gladdestBy M_X6_gladdestBy [.ref q0, .int a1] S (some (.int r)) S := by
  rw [f_X6_gladdestBy] at h
  refine ct_of (lv := [(0, .ref q0), (1, .int a1)]) (by decide) rfl (Nat.le_of_ble_eq_true rfl) ?_
  refine z_iconst (v := 0) dX6_gladdestBy_0 rfl ?_
  refine z_istore_n (lv' := [(0, .ref q0), (1, .int a1), (2, .int 0)]) [1, 2, 0] dX6_gladdestBy_1 (Nat.le_of_ble_eq_true rfl) rfl ?_
  refine z_iconst (v := 0) dX6_gladdestBy_2 rfl ?_
  refine z_istore_n (lv' := [(0, .ref q0), (1, .int a1), (2, .int 0), (3, .int 0)]) [1, 2, 3, 0] dX6_gladdestBy_3 (Nat.le_of_ble_eq_true rfl) rfl ?_
  refine z_sub (lv' := [(0, .ref q0), (1, .int a1), (2, .int 0), (3, .int 0)]) [0, 1, 2, 3] rfl ?_
  refine t_X6_gladdestBy_L4 l hq0 _ _ _ _ _ _ _ h ?_
  · intro y4 h
    refine z_iload_n 0 dX6_gladdestBy_34 rfl ?_
    obtain rfl := Option.some.inj h
    exact z_iret dX6_gladdestBy_35 rfl rfl
set_option maxHeartbeats 2000000 in
set_option maxRecDepth 20000 in
theorem t_X6_cost (l : Launch) {S : St} {q0 : Nat} (hq0 : kd q0 = 6)  {r : Int32} (h : f_X6_cost q0 S = some r) : CT l yX6_cost M_X6_cost [.ref q0] S (some (.int r)) S := by
  rw [f_X6_cost] at h
  refine ct_of (lv := [(0, .ref q0)]) (by decide) rfl (Nat.le_of_ble_eq_true rfl) ?_
  refine z_aload_n 0 dX6_cost_0 rfl ?_
  refine z_get (v := .int (S.1 q0 0)) dX6_cost_1 fl_6_19 hq0 rfl ?_
  refine z_iconst (v := 4) dX6_cost_4 rfl ?_
  refine z_icmp_ne (tgt := 17) dX6_cost_5 (by decide) (fun c1 => ?_) (fun c1 => ?_)
  · replace h := ig c1 h
    refine z_iconst (v := 1) dX6_cost_17 rfl ?_
    obtain rfl := Option.some.inj h
    exact z_iret dX6_cost_18 rfl rfl
  · replace h := ip c1 h
    refine z_iconst (v := 1) dX6_cost_8 rfl ?_
    refine z_aload_n 0 dX6_cost_9 rfl ?_
    refine z_get (v := .int (S.1 q0 1)) dX6_cost_10 fl_6_22 hq0 rfl ?_
    refine z_iadd dX6_cost_13 ?_
    refine z_goto (tgt := 18) dX6_cost_14 (by decide) ?_
    obtain rfl := Option.some.inj h
    exact z_iret dX6_cost_18 rfl rfl
set_option maxHeartbeats 2000000 in
set_option maxRecDepth 20000 in
theorem t_X1_weigh_L29 (l : Launch) {q1 : Nat} (hq1 : kd q1 = 3) : ∀ (n : Nat) (x2 : Int32) (x3 : Int32) (S : St) (k86 : St → Option St) (r : St), f_X1_weigh_L29 n q1 x2 x3 S k86 = some r → (∀ (T : St), k86 T = some r → Z l yX1_weigh M_X1_weigh 86 [] [] T none r) → Z l yX1_weigh M_X1_weigh 29 [(0, .ref 64), (1, .ref q1), (2, .int x2), (3, .int x3)] [] S none r := by
  intro n
  induction n with
  | zero =>
    intro x2 x3 S k86 r h hk86
    exact absurd h (by rw [f_X1_weigh_L29]; exact fun q => by cases q)
  | succ n ih =>
    intro x2 x3 S k86 r h hk86
    rw [f_X1_weigh_L29] at h
    refine z_iload_n 3 dX1_weigh_29 rfl ?_
    refine z_aload_n 1 dX1_weigh_30 rfl ?_
    refine z_get (v := .int (S.1 q1 0)) dX1_weigh_31 fl_1_28 hq1 rfl ?_
    refine z_icmp_ge (tgt := 86) dX1_weigh_34 (by decide) (fun c3 => ?_) (fun c3 => ?_)
    · replace h := ip c3 h
      refine z_sub (lv' := []) [] rfl ?_
      exact hk86 _ h
    · replace h := ig c3 h
      refine z_iload_n 3 dX1_weigh_37 rfl ?_
      refine z_bipush (v := 8) dX1_weigh_38 rfl ?_
      refine z_icmp_ge (tgt := 86) dX1_weigh_40 (by decide) (fun c4 => ?_) (fun c4 => ?_)
      · replace h := ip c4 h
        refine z_sub (lv' := []) [] rfl ?_
        exact hk86 _ h
      · replace h := ig c4 h
        refine z_aload_n 1 dX1_weigh_43 rfl ?_
        refine z_iload_n 3 dX1_weigh_44 rfl ?_
        obtain ⟨v5, hv5, h⟩ := ob h
        refine z_callV (as := [.int x3]) dX1_weigh_45 ml_1_41 mv_X3_at (t_X3_at l hq1 hv5) hq1 ⟨by decide, rfl⟩ rfl rfl (Nat.le_of_ble_eq_true rfl) ⟨Nat.le_of_ble_eq_true rfl, Nat.le_of_ble_eq_true rfl⟩ rfl ?_
        refine z_astore (lv' := [(0, .ref 64), (1, .ref q1), (2, .int x2), (3, .int x3), (4, .ref v5)]) [1, 2, 3, 4, 0] dX1_weigh_48 (Nat.le_of_ble_eq_true rfl) rfl ?_
        refine z_aload_n 0 dX1_weigh_50 rfl ?_
        refine z_get (v := .ref 65) dX1_weigh_51 fl_1_9 kdl_64 rfl ?_
        refine z_iload_n 3 dX1_weigh_54 rfl ?_
        refine z_aload 4 dX1_weigh_55 rfl ?_
        refine z_iload_n 2 dX1_weigh_57 rfl ?_
        obtain ⟨v6, hv6, h⟩ := ob h
        refine z_callV (as := [.int x2]) dX1_weigh_58 ml_1_45 mv_X6_gladdestBy (t_X6_gladdestBy l (kd_at hq1 hv5) hv6) (kd_at hq1 hv5) ⟨by decide, rfl⟩ rfl rfl (Nat.le_of_ble_eq_true rfl) ⟨Nat.le_of_ble_eq_true rfl, Nat.le_of_ble_eq_true rfl⟩ rfl ?_
        refine z_aload 4 dX1_weigh_61 rfl ?_
        refine z_iload_n 2 dX1_weigh_63 rfl ?_
        obtain ⟨v7, hv7, h⟩ := ob h
        refine z_callV (as := [.int x2]) dX1_weigh_64 ml_1_50 mv_X6_gladIn (t_X6_gladIn l (kd_at hq1 hv5) hv7) (kd_at hq1 hv5) ⟨by decide, rfl⟩ rfl rfl (Nat.le_of_ble_eq_true rfl) ⟨Nat.le_of_ble_eq_true rfl, Nat.le_of_ble_eq_true rfl⟩ rfl ?_
        refine z_isub dX1_weigh_67 ?_
        obtain ⟨c8, h⟩ := oi h
        refine z_iast dX1_weigh_68 kdl_65 (by decide) c8 ?_
        refine z_aload_n 0 dX1_weigh_69 rfl ?_
        refine z_get (v := .ref 66) dX1_weigh_70 fl_1_15 kdl_64 rfl ?_
        refine z_iload_n 3 dX1_weigh_73 rfl ?_
        refine z_aload 4 dX1_weigh_74 rfl ?_
        obtain ⟨v9, hv9, h⟩ := ob h
        refine z_callV (as := []) dX1_weigh_76 ml_1_53 mv_X6_cost (t_X6_cost l (kd_at hq1 hv5) hv9) (kd_at hq1 hv5) ⟨by decide, rfl⟩ rfl rfl (Nat.le_of_ble_eq_true rfl) ⟨Nat.le_of_ble_eq_true rfl, Nat.le_of_ble_eq_true rfl⟩ rfl ?_
        obtain ⟨c10, h⟩ := oi h
        refine z_iast dX1_weigh_79 kdl_66 (by decide) c10 ?_
        refine z_iinc (lv' := [(0, .ref 64), (1, .ref q1), (2, .int x2), (3, .int (x3 + 1)), (4, .ref v5)]) (v := x3 + 1) 3 [1, 2, 3, 0, 4] dX1_weigh_80 rfl rfl (Nat.le_of_ble_eq_true rfl) rfl ?_
        refine z_goto (tgt := 29) dX1_weigh_83 (by decide) ?_
        refine z_sub (lv' := [(0, .ref 64), (1, .ref q1), (2, .int x2), (3, .int (x3 + 1))]) [0, 1, 2, 3] rfl ?_
        exact ih _ _ _ _ _ h hk86
set_option maxHeartbeats 2000000 in
set_option maxRecDepth 20000 in
theorem t_X1_weigh (l : Launch) {S : St} {q1 : Nat} (hq1 : kd q1 = 3) {a2 : Int32} {r : St} (h : f_X1_weigh q1 a2 S = some r) : CT l yX1_weigh M_X1_weigh [.ref 64, .ref q1, .int a2] S none r := by
  rw [f_X1_weigh] at h
  refine ct_of (lv := [(0, .ref 64), (1, .ref q1), (2, .int a2)]) (by decide) rfl (Nat.le_of_ble_eq_true rfl) ?_
  refine z_aload_n 0 dX1_weigh_0 rfl ?_
  refine z_aload_n 1 dX1_weigh_1 rfl ?_
  obtain ⟨v1, hv1, h⟩ := ob h
  refine z_callV (as := []) dX1_weigh_2 ml_1_18 mv_X3_setBits (t_X3_setBits l hq1 hv1) hq1 ⟨by decide, rfl⟩ rfl rfl (Nat.le_of_ble_eq_true rfl) ⟨Nat.le_of_ble_eq_true rfl, Nat.le_of_ble_eq_true rfl⟩ rfl ?_
  refine z_put (fk := 2) dX1_weigh_5 fl_1_24 fp_1_2 kdl_64 rfl rfl rfl (Nat.le_of_ble_eq_true rfl) ?_
  refine z_aload_n 0 dX1_weigh_8 rfl ?_
  refine z_iconst (v := 1) dX1_weigh_9 rfl ?_
  refine z_aload_n 1 dX1_weigh_10 rfl ?_
  refine z_get (v := .int ((up S 64 2 v1).1 q1 0)) dX1_weigh_11 fl_1_28 hq1 rfl ?_
  refine z_ishl dX1_weigh_14 ?_
  refine z_put (fk := 3) dX1_weigh_15 fl_1_31 fp_1_3 kdl_64 rfl rfl rfl (Nat.le_of_ble_eq_true rfl) ?_
  refine z_aload_n 0 dX1_weigh_18 rfl ?_
  refine z_aload_n 1 dX1_weigh_19 rfl ?_
  refine z_iload_n 2 dX1_weigh_20 rfl ?_
  obtain ⟨v2, hv2, h⟩ := ob h
  refine z_callV (as := [.int a2]) dX1_weigh_21 ml_1_34 mv_X3_gladTogether (t_X3_gladTogether l hq1 hv2) hq1 ⟨by decide, rfl⟩ rfl rfl (Nat.le_of_ble_eq_true rfl) ⟨Nat.le_of_ble_eq_true rfl, Nat.le_of_ble_eq_true rfl⟩ rfl ?_
  refine z_put (fk := 4) dX1_weigh_24 fl_1_38 fp_1_4 kdl_64 rfl rfl rfl (Nat.le_of_ble_eq_true rfl) ?_
  refine z_iconst (v := 0) dX1_weigh_27 rfl ?_
  refine z_istore_n (lv' := [(0, .ref 64), (1, .ref q1), (2, .int a2), (3, .int 0)]) [1, 2, 3, 0] dX1_weigh_28 (Nat.le_of_ble_eq_true rfl) rfl ?_
  refine z_sub (lv' := [(0, .ref 64), (1, .ref q1), (2, .int a2), (3, .int 0)]) [0, 1, 2, 3] rfl ?_
  refine t_X1_weigh_L29 l hq1 _ _ _ _ _ _ h ?_
  · intro S11 h
    obtain rfl := Option.some.inj h
    exact z_vret dX1_weigh_86 rfl
set_option maxHeartbeats 2000000 in
set_option maxRecDepth 20000 in
theorem t_X1_sumOver_L4 (l : Launch) {q1 : Nat} (hq1 : kd q1 = 10) : ∀ (n : Nat) (x0 : Int32) (x2 : Int32) (x3 : Int32) (S : St) (k35 : Int32 → Option Int32) (r : Int32), f_X1_sumOver_L4 n x0 q1 x2 x3 S k35 = some r → (∀ (e2 : Int32), k35 e2 = some r → Z l yX1_sumOver M_X1_sumOver 35 [(2, .int e2)] [] S (some (.int r)) S) → Z l yX1_sumOver M_X1_sumOver 4 [(0, .int x0), (1, .ref q1), (2, .int x2), (3, .int x3)] [] S (some (.int r)) S := by
  intro n
  induction n with
  | zero =>
    intro x0 x2 x3 S k35 r h hk35
    exact absurd h (by rw [f_X1_sumOver_L4]; exact fun q => by cases q)
  | succ n ih =>
    intro x0 x2 x3 S k35 r h hk35
    rw [f_X1_sumOver_L4] at h
    refine z_iload_n 3 dX1_sumOver_4 rfl ?_
    refine z_aload_n 1 dX1_sumOver_5 rfl ?_
    refine z_alen (v := 8) dX1_sumOver_6 hq1 (by decide) rfl ?_
    refine z_icmp_ge (tgt := 35) dX1_sumOver_7 (by decide) (fun c1 => ?_) (fun c1 => ?_)
    · replace h := ip c1 h
      refine z_sub (lv' := [(2, .int x2)]) [2] rfl ?_
      exact hk35 _ h
    · replace h := ig c1 h
      refine z_iload_n 2 dX1_sumOver_10 rfl ?_
      refine z_iload_n 0 dX1_sumOver_11 rfl ?_
      refine z_iload_n 3 dX1_sumOver_12 rfl ?_
      refine z_ishr dX1_sumOver_13 ?_
      refine z_iconst (v := 1) dX1_sumOver_14 rfl ?_
      refine z_iand dX1_sumOver_15 ?_
      refine z_iconst (v := 1) dX1_sumOver_16 rfl ?_
      refine z_icmp_ne (tgt := 26) dX1_sumOver_17 (by decide) (fun c2 => ?_) (fun c2 => ?_)
      · replace h := ig c2 h
        refine z_iconst (v := 0) dX1_sumOver_26 rfl ?_
        refine z_iadd dX1_sumOver_27 ?_
        refine z_istore_n (lv' := [(0, .int x0), (1, .ref q1), (2, .int (x2 + 0)), (3, .int x3)]) [1, 2, 0, 3] dX1_sumOver_28 (Nat.le_of_ble_eq_true rfl) rfl ?_
        refine z_iinc (lv' := [(0, .int x0), (1, .ref q1), (2, .int (x2 + 0)), (3, .int (x3 + 1))]) (v := x3 + 1) 3 [1, 2, 3, 0] dX1_sumOver_29 rfl rfl (Nat.le_of_ble_eq_true rfl) rfl ?_
        refine z_goto (tgt := 4) dX1_sumOver_32 (by decide) ?_
        refine z_sub (lv' := [(0, .int x0), (1, .ref q1), (2, .int (x2 + 0)), (3, .int (x3 + 1))]) [0, 1, 2, 3] rfl ?_
        exact ih _ _ _ _ _ _ h hk35
      · replace h := ip c2 h
        refine z_aload_n 1 dX1_sumOver_20 rfl ?_
        refine z_iload_n 3 dX1_sumOver_21 rfl ?_
        obtain ⟨c3, h⟩ := oi h
        refine z_iald dX1_sumOver_22 hq1 (by decide) c3 ?_
        refine z_goto (tgt := 27) dX1_sumOver_23 (by decide) ?_
        refine z_iadd dX1_sumOver_27 ?_
        refine z_istore_n (lv' := [(0, .int x0), (1, .ref q1), (2, .int (x2 + (S.1 q1 x3.toNatClampNeg))), (3, .int x3)]) [1, 2, 0, 3] dX1_sumOver_28 (Nat.le_of_ble_eq_true rfl) rfl ?_
        refine z_iinc (lv' := [(0, .int x0), (1, .ref q1), (2, .int (x2 + (S.1 q1 x3.toNatClampNeg))), (3, .int (x3 + 1))]) (v := x3 + 1) 3 [1, 2, 3, 0] dX1_sumOver_29 rfl rfl (Nat.le_of_ble_eq_true rfl) rfl ?_
        refine z_goto (tgt := 4) dX1_sumOver_32 (by decide) ?_
        refine z_sub (lv' := [(0, .int x0), (1, .ref q1), (2, .int (x2 + (S.1 q1 x3.toNatClampNeg))), (3, .int (x3 + 1))]) [0, 1, 2, 3] rfl ?_
        exact ih _ _ _ _ _ _ h hk35
set_option maxHeartbeats 2000000 in
set_option maxRecDepth 20000 in
theorem t_X1_sumOver (l : Launch) {S : St} {q1 : Nat} (hq1 : kd q1 = 10) {a0 : Int32} {r : Int32} (h : f_X1_sumOver a0 q1 S = some r) : CT l yX1_sumOver M_X1_sumOver [.int a0, .ref q1] S (some (.int r)) S := by
  rw [f_X1_sumOver] at h
  refine ct_of (lv := [(0, .int a0), (1, .ref q1)]) (by decide) rfl (Nat.le_of_ble_eq_true rfl) ?_
  refine z_iconst (v := 0) dX1_sumOver_0 rfl ?_
  refine z_istore_n (lv' := [(0, .int a0), (1, .ref q1), (2, .int 0)]) [1, 2, 0] dX1_sumOver_1 (Nat.le_of_ble_eq_true rfl) rfl ?_
  refine z_iconst (v := 0) dX1_sumOver_2 rfl ?_
  refine z_istore_n (lv' := [(0, .int a0), (1, .ref q1), (2, .int 0), (3, .int 0)]) [1, 2, 3, 0] dX1_sumOver_3 (Nat.le_of_ble_eq_true rfl) rfl ?_
  refine z_sub (lv' := [(0, .int a0), (1, .ref q1), (2, .int 0), (3, .int 0)]) [0, 1, 2, 3] rfl ?_
  refine t_X1_sumOver_L4 l hq1 _ _ _ _ _ _ _ h ?_
  · intro y4 h
    refine z_iload_n 0 dX1_sumOver_35 rfl ?_
    obtain rfl := Option.some.inj h
    exact z_iret dX1_sumOver_36 rfl rfl
set_option maxHeartbeats 2000000 in
set_option maxRecDepth 20000 in
theorem t_X1_gainOf (l : Launch) {S : St}  {a1 : Int32} {r : Int32} (h : f_X1_gainOf a1 S = some r) : CT l yX1_gainOf M_X1_gainOf [.ref 64, .int a1] S (some (.int r)) S := by
  rw [f_X1_gainOf] at h
  refine ct_of (lv := [(0, .ref 64), (1, .int a1)]) (by decide) rfl (Nat.le_of_ble_eq_true rfl) ?_
  refine z_iload_n 1 dX1_gainOf_0 rfl ?_
  refine z_aload_n 0 dX1_gainOf_1 rfl ?_
  refine z_get (v := .ref 65) dX1_gainOf_2 fl_1_9 kdl_64 rfl ?_
  obtain ⟨v1, hv1, h⟩ := ob h
  refine z_callS (as := [.int a1, .ref 65]) dX1_gainOf_5 ml_1_56 ms_X1_sumOver (t_X1_sumOver l kdl_65 hv1) rfl rfl (Nat.le_of_ble_eq_true rfl) ⟨Nat.le_of_ble_eq_true rfl, Nat.le_of_ble_eq_true rfl⟩ rfl ?_
  obtain rfl := Option.some.inj h
  exact z_iret dX1_gainOf_8 rfl rfl
set_option maxHeartbeats 2000000 in
set_option maxRecDepth 20000 in
theorem t_X1_bestBits_L7 (l : Launch)   : ∀ (n : Nat) (x1 : Int32) (x2 : Int32) (x3 : Int32) (x4 : Int32) (S : St) (k65 : Int32 → Option Int32) (r : Int32), f_X1_bestBits_L7 n x1 x2 x3 x4 S k65 = some r → (∀ (e2 : Int32), k65 e2 = some r → Z l yX1_bestBits M_X1_bestBits 65 [(2, .int e2)] [] S (some (.int r)) S) → Z l yX1_bestBits M_X1_bestBits 7 [(0, .ref 64), (1, .int x1), (2, .int x2), (3, .int x3), (4, .int x4)] [] S (some (.int r)) S := by
  intro n
  induction n with
  | zero =>
    intro x1 x2 x3 x4 S k65 r h hk65
    exact absurd h (by rw [f_X1_bestBits_L7]; exact fun q => by cases q)
  | succ n ih =>
    intro x1 x2 x3 x4 S k65 r h hk65
    rw [f_X1_bestBits_L7] at h
    refine z_iload 4 dX1_bestBits_7 rfl ?_
    refine z_aload_n 0 dX1_bestBits_9 rfl ?_
    refine z_get (v := .int (S.1 64 3)) dX1_bestBits_10 fl_1_31 kdl_64 rfl ?_
    refine z_icmp_ge (tgt := 65) dX1_bestBits_13 (by decide) (fun c1 => ?_) (fun c1 => ?_)
    · replace h := ip c1 h
      refine z_sub (lv' := [(2, .int x2)]) [2] rfl ?_
      exact hk65 _ h
    · replace h := ig c1 h
      refine z_iload 4 dX1_bestBits_16 rfl ?_
      refine z_aload_n 0 dX1_bestBits_18 rfl ?_
      refine z_get (v := .int (S.1 64 2)) dX1_bestBits_19 fl_1_24 kdl_64 rfl ?_
      refine z_iand dX1_bestBits_22 ?_
      refine z_if_ne (tgt := 59) dX1_bestBits_23 (by decide) (fun c2 => ?_) (fun c2 => ?_)
      · replace h := ig c2 h
        refine z_iinc (lv' := [(0, .ref 64), (1, .int x1), (2, .int x2), (3, .int x3), (4, .int (x4 + 1))]) (v := x4 + 1) 4 [1, 2, 3, 4, 0] dX1_bestBits_59 rfl rfl (Nat.le_of_ble_eq_true rfl) rfl ?_
        refine z_goto (tgt := 7) dX1_bestBits_62 (by decide) ?_
        refine z_sub (lv' := [(0, .ref 64), (1, .int x1), (2, .int x2), (3, .int x3), (4, .int (x4 + 1))]) [0, 1, 2, 3, 4] rfl ?_
        exact ih _ _ _ _ _ _ _ h hk65
      · replace h := ip c2 h
        refine z_aload_n 0 dX1_bestBits_26 rfl ?_
        refine z_iload 4 dX1_bestBits_27 rfl ?_
        obtain ⟨v3, hv3, h⟩ := ob h
        refine z_callV (as := [.int x4]) dX1_bestBits_29 ml_1_60 mv_X1_gainOf (t_X1_gainOf l hv3) kdl_64 ⟨by decide, rfl⟩ rfl rfl (Nat.le_of_ble_eq_true rfl) ⟨Nat.le_of_ble_eq_true rfl, Nat.le_of_ble_eq_true rfl⟩ rfl ?_
        refine z_iload_n 3 dX1_bestBits_32 rfl ?_
        refine z_icmp_le (tgt := 59) dX1_bestBits_33 (by decide) (fun c4 => ?_) (fun c4 => ?_)
        · replace h := ip c4 h
          refine z_iinc (lv' := [(0, .ref 64), (1, .int x1), (2, .int x2), (3, .int x3), (4, .int (x4 + 1))]) (v := x4 + 1) 4 [1, 2, 3, 4, 0] dX1_bestBits_59 rfl rfl (Nat.le_of_ble_eq_true rfl) rfl ?_
          refine z_goto (tgt := 7) dX1_bestBits_62 (by decide) ?_
          refine z_sub (lv' := [(0, .ref 64), (1, .int x1), (2, .int x2), (3, .int x3), (4, .int (x4 + 1))]) [0, 1, 2, 3, 4] rfl ?_
          exact ih _ _ _ _ _ _ _ h hk65
        · replace h := ig c4 h
          refine z_iload 4 dX1_bestBits_36 rfl ?_
          refine z_aload_n 0 dX1_bestBits_38 rfl ?_
          refine z_get (v := .ref 66) dX1_bestBits_39 fl_1_15 kdl_64 rfl ?_
          obtain ⟨v5, hv5, h⟩ := ob h
          refine z_callS (as := [.int x4, .ref 66]) dX1_bestBits_42 ml_1_56 ms_X1_sumOver (t_X1_sumOver l kdl_66 hv5) rfl rfl (Nat.le_of_ble_eq_true rfl) ⟨Nat.le_of_ble_eq_true rfl, Nat.le_of_ble_eq_true rfl⟩ rfl ?_
          refine z_iload_n 1 dX1_bestBits_45 rfl ?_
          refine z_icmp_gt (tgt := 59) dX1_bestBits_46 (by decide) (fun c6 => ?_) (fun c6 => ?_)
          · replace h := ip c6 h
            refine z_iinc (lv' := [(0, .ref 64), (1, .int x1), (2, .int x2), (3, .int x3), (4, .int (x4 + 1))]) (v := x4 + 1) 4 [1, 2, 3, 4, 0] dX1_bestBits_59 rfl rfl (Nat.le_of_ble_eq_true rfl) rfl ?_
            refine z_goto (tgt := 7) dX1_bestBits_62 (by decide) ?_
            refine z_sub (lv' := [(0, .ref 64), (1, .int x1), (2, .int x2), (3, .int x3), (4, .int (x4 + 1))]) [0, 1, 2, 3, 4] rfl ?_
            exact ih _ _ _ _ _ _ _ h hk65
          · replace h := ig c6 h
            refine z_iload 4 dX1_bestBits_49 rfl ?_
            refine z_istore_n (lv' := [(0, .ref 64), (1, .int x1), (2, .int x4), (3, .int x3), (4, .int x4)]) [1, 2, 0, 3, 4] dX1_bestBits_51 (Nat.le_of_ble_eq_true rfl) rfl ?_
            refine z_aload_n 0 dX1_bestBits_52 rfl ?_
            refine z_iload 4 dX1_bestBits_53 rfl ?_
            obtain ⟨v7, hv7, h⟩ := ob h
            refine z_callV (as := [.int x4]) dX1_bestBits_55 ml_1_60 mv_X1_gainOf (t_X1_gainOf l hv7) kdl_64 ⟨by decide, rfl⟩ rfl rfl (Nat.le_of_ble_eq_true rfl) ⟨Nat.le_of_ble_eq_true rfl, Nat.le_of_ble_eq_true rfl⟩ rfl ?_
            refine z_istore_n (lv' := [(0, .ref 64), (1, .int x1), (2, .int x4), (3, .int v7), (4, .int x4)]) [1, 2, 3, 0, 4] dX1_bestBits_58 (Nat.le_of_ble_eq_true rfl) rfl ?_
            refine z_iinc (lv' := [(0, .ref 64), (1, .int x1), (2, .int x4), (3, .int v7), (4, .int (x4 + 1))]) (v := x4 + 1) 4 [1, 2, 3, 4, 0] dX1_bestBits_59 rfl rfl (Nat.le_of_ble_eq_true rfl) rfl ?_
            refine z_goto (tgt := 7) dX1_bestBits_62 (by decide) ?_
            refine z_sub (lv' := [(0, .ref 64), (1, .int x1), (2, .int x4), (3, .int v7), (4, .int (x4 + 1))]) [0, 1, 2, 3, 4] rfl ?_
            exact ih _ _ _ _ _ _ _ h hk65
set_option maxHeartbeats 2000000 in
set_option maxRecDepth 20000 in
theorem t_X1_bestBits (l : Launch) {S : St}  {a1 : Int32} {r : Int32} (h : f_X1_bestBits a1 S = some r) : CT l yX1_bestBits M_X1_bestBits [.ref 64, .int a1] S (some (.int r)) S := by
  rw [f_X1_bestBits] at h
  refine ct_of (lv := [(0, .ref 64), (1, .int a1)]) (by decide) rfl (Nat.le_of_ble_eq_true rfl) ?_
  refine z_iconst (v := 0) dX1_bestBits_0 rfl ?_
  refine z_istore_n (lv' := [(0, .ref 64), (1, .int a1), (2, .int 0)]) [1, 2, 0] dX1_bestBits_1 (Nat.le_of_ble_eq_true rfl) rfl ?_
  refine z_iconst (v := 0) dX1_bestBits_2 rfl ?_
  refine z_istore_n (lv' := [(0, .ref 64), (1, .int a1), (2, .int 0), (3, .int 0)]) [1, 2, 3, 0] dX1_bestBits_3 (Nat.le_of_ble_eq_true rfl) rfl ?_
  refine z_iconst (v := 0) dX1_bestBits_4 rfl ?_
  refine z_istore (lv' := [(0, .ref 64), (1, .int a1), (2, .int 0), (3, .int 0), (4, .int 0)]) [1, 2, 3, 4, 0] dX1_bestBits_5 (Nat.le_of_ble_eq_true rfl) rfl ?_
  refine z_sub (lv' := [(0, .ref 64), (1, .int a1), (2, .int 0), (3, .int 0), (4, .int 0)]) [0, 1, 2, 3, 4] rfl ?_
  refine t_X1_bestBits_L7 l _ _ _ _ _ _ _ _ h ?_
  · intro y8 h
    refine z_iload_n 0 dX1_bestBits_65 rfl ?_
    obtain rfl := Option.some.inj h
    exact z_iret dX1_bestBits_66 rfl rfl
set_option maxHeartbeats 2000000 in
set_option maxRecDepth 20000 in
theorem t_X1_fewestFor_L5 (l : Launch)   : ∀ (n : Nat) (x1 : Int32) (x2 : Int32) (x3 : Int32) (S : St) (k50 : Int32 → Option Int32) (r : Int32), f_X1_fewestFor_L5 n x1 x2 x3 S k50 = some r → (∀ (e2 : Int32), k50 e2 = some r → Z l yX1_fewestFor M_X1_fewestFor 50 [(2, .int e2)] [] S (some (.int r)) S) → Z l yX1_fewestFor M_X1_fewestFor 5 [(0, .ref 64), (1, .int x1), (2, .int x2), (3, .int x3)] [] S (some (.int r)) S := by
  intro n
  induction n with
  | zero =>
    intro x1 x2 x3 S k50 r h hk50
    exact absurd h (by rw [f_X1_fewestFor_L5]; exact fun q => by cases q)
  | succ n ih =>
    intro x1 x2 x3 S k50 r h hk50
    rw [f_X1_fewestFor_L5] at h
    refine z_iload_n 3 dX1_fewestFor_5 rfl ?_
    refine z_aload_n 0 dX1_fewestFor_6 rfl ?_
    refine z_get (v := .int (S.1 64 3)) dX1_fewestFor_7 fl_1_31 kdl_64 rfl ?_
    refine z_icmp_ge (tgt := 50) dX1_fewestFor_10 (by decide) (fun c1 => ?_) (fun c1 => ?_)
    · replace h := ip c1 h
      refine z_sub (lv' := [(2, .int x2)]) [2] rfl ?_
      exact hk50 _ h
    · replace h := ig c1 h
      refine z_iload_n 3 dX1_fewestFor_13 rfl ?_
      refine z_aload_n 0 dX1_fewestFor_14 rfl ?_
      refine z_get (v := .int (S.1 64 2)) dX1_fewestFor_15 fl_1_24 kdl_64 rfl ?_
      refine z_iand dX1_fewestFor_18 ?_
      refine z_if_ne (tgt := 44) dX1_fewestFor_19 (by decide) (fun c2 => ?_) (fun c2 => ?_)
      · replace h := ig c2 h
        refine z_iinc (lv' := [(0, .ref 64), (1, .int x1), (2, .int x2), (3, .int (x3 + 1))]) (v := x3 + 1) 3 [1, 2, 3, 0] dX1_fewestFor_44 rfl rfl (Nat.le_of_ble_eq_true rfl) rfl ?_
        refine z_goto (tgt := 5) dX1_fewestFor_47 (by decide) ?_
        refine z_sub (lv' := [(0, .ref 64), (1, .int x1), (2, .int x2), (3, .int (x3 + 1))]) [0, 1, 2, 3] rfl ?_
        exact ih _ _ _ _ _ _ h hk50
      · replace h := ip c2 h
        refine z_aload_n 0 dX1_fewestFor_22 rfl ?_
        refine z_iload_n 3 dX1_fewestFor_23 rfl ?_
        obtain ⟨v3, hv3, h⟩ := ob h
        refine z_callV (as := [.int x3]) dX1_fewestFor_24 ml_1_60 mv_X1_gainOf (t_X1_gainOf l hv3) kdl_64 ⟨by decide, rfl⟩ rfl rfl (Nat.le_of_ble_eq_true rfl) ⟨Nat.le_of_ble_eq_true rfl, Nat.le_of_ble_eq_true rfl⟩ rfl ?_
        refine z_iload_n 1 dX1_fewestFor_27 rfl ?_
        refine z_icmp_ne (tgt := 44) dX1_fewestFor_28 (by decide) (fun c4 => ?_) (fun c4 => ?_)
        · replace h := ig c4 h
          refine z_iinc (lv' := [(0, .ref 64), (1, .int x1), (2, .int x2), (3, .int (x3 + 1))]) (v := x3 + 1) 3 [1, 2, 3, 0] dX1_fewestFor_44 rfl rfl (Nat.le_of_ble_eq_true rfl) rfl ?_
          refine z_goto (tgt := 5) dX1_fewestFor_47 (by decide) ?_
          refine z_sub (lv' := [(0, .ref 64), (1, .int x1), (2, .int x2), (3, .int (x3 + 1))]) [0, 1, 2, 3] rfl ?_
          exact ih _ _ _ _ _ _ h hk50
        · replace h := ip c4 h
          refine z_iload_n 2 dX1_fewestFor_31 rfl ?_
          refine z_iload_n 3 dX1_fewestFor_32 rfl ?_
          refine z_aload_n 0 dX1_fewestFor_33 rfl ?_
          refine z_get (v := .ref 66) dX1_fewestFor_34 fl_1_15 kdl_64 rfl ?_
          obtain ⟨v5, hv5, h⟩ := ob h
          refine z_callS (as := [.int x3, .ref 66]) dX1_fewestFor_37 ml_1_56 ms_X1_sumOver (t_X1_sumOver l kdl_66 hv5) rfl rfl (Nat.le_of_ble_eq_true rfl) ⟨Nat.le_of_ble_eq_true rfl, Nat.le_of_ble_eq_true rfl⟩ rfl ?_
          refine z_min dX1_fewestFor_40 mn_1_63 (by decide) (Nat.le_of_ble_eq_true rfl) ?_
          refine z_istore_n (lv' := [(0, .ref 64), (1, .int x1), (2, .int (if v5 < x2 then v5 else x2)), (3, .int x3)]) [1, 2, 0, 3] dX1_fewestFor_43 (Nat.le_of_ble_eq_true rfl) rfl ?_
          refine z_iinc (lv' := [(0, .ref 64), (1, .int x1), (2, .int (if v5 < x2 then v5 else x2)), (3, .int (x3 + 1))]) (v := x3 + 1) 3 [1, 2, 3, 0] dX1_fewestFor_44 rfl rfl (Nat.le_of_ble_eq_true rfl) rfl ?_
          refine z_goto (tgt := 5) dX1_fewestFor_47 (by decide) ?_
          refine z_sub (lv' := [(0, .ref 64), (1, .int x1), (2, .int (if v5 < x2 then v5 else x2)), (3, .int (x3 + 1))]) [0, 1, 2, 3] rfl ?_
          exact ih _ _ _ _ _ _ h hk50
set_option maxHeartbeats 2000000 in
set_option maxRecDepth 20000 in
theorem t_X1_fewestFor (l : Launch) {S : St}  {a1 : Int32} {r : Int32} (h : f_X1_fewestFor a1 S = some r) : CT l yX1_fewestFor M_X1_fewestFor [.ref 64, .int a1] S (some (.int r)) S := by
  rw [f_X1_fewestFor] at h
  refine ct_of (lv := [(0, .ref 64), (1, .int a1)]) (by decide) rfl (Nat.le_of_ble_eq_true rfl) ?_
  refine z_bipush (v := 99) dX1_fewestFor_0 rfl ?_
  refine z_istore_n (lv' := [(0, .ref 64), (1, .int a1), (2, .int 99)]) [1, 2, 0] dX1_fewestFor_2 (Nat.le_of_ble_eq_true rfl) rfl ?_
  refine z_iconst (v := 0) dX1_fewestFor_3 rfl ?_
  refine z_istore_n (lv' := [(0, .ref 64), (1, .int a1), (2, .int 99), (3, .int 0)]) [1, 2, 3, 0] dX1_fewestFor_4 (Nat.le_of_ble_eq_true rfl) rfl ?_
  refine z_sub (lv' := [(0, .ref 64), (1, .int a1), (2, .int 99), (3, .int 0)]) [0, 1, 2, 3] rfl ?_
  refine t_X1_fewestFor_L5 l _ _ _ _ _ _ _ h ?_
  · intro y6 h
    refine z_iload_n 0 dX1_fewestFor_50 rfl ?_
    obtain rfl := Option.some.inj h
    exact z_iret dX1_fewestFor_51 rfl rfl
set_option maxHeartbeats 2000000 in
set_option maxRecDepth 20000 in
theorem t_X2_isFull (l : Launch) {S : St}   {r : Int32} (h : f_X2_isFull S = some r) : CT l yX2_isFull M_X2_isFull [.ref 62] S (some (.int r)) S := by
  rw [f_X2_isFull] at h
  refine ct_of (lv := [(0, .ref 62)]) (by decide) rfl (Nat.le_of_ble_eq_true rfl) ?_
  refine z_aload_n 0 dX2_isFull_0 rfl ?_
  refine z_get (v := .int (S.1 62 1)) dX2_isFull_1 fl_2_15 kdl_62 rfl ?_
  refine z_bipush (v := 16) dX2_isFull_4 rfl ?_
  refine z_icmp_lt (tgt := 13) dX2_isFull_6 (by decide) (fun c1 => ?_) (fun c1 => ?_)
  · replace h := ip c1 h
    refine z_iconst (v := 0) dX2_isFull_13 rfl ?_
    obtain rfl := Option.some.inj h
    exact z_iret dX2_isFull_14 rfl rfl
  · replace h := ig c1 h
    refine z_iconst (v := 1) dX2_isFull_9 rfl ?_
    refine z_goto (tgt := 14) dX2_isFull_10 (by decide) ?_
    obtain rfl := Option.some.inj h
    exact z_iret dX2_isFull_14 rfl rfl
set_option maxHeartbeats 2000000 in
set_option maxRecDepth 20000 in
theorem t_X2_put (l : Launch) {S : St}  {a1 : Int32} {r : St} (h : f_X2_put a1 S = some r) : CT l yX2_put M_X2_put [.ref 62, .int a1] S none r := by
  rw [f_X2_put] at h
  refine ct_of (lv := [(0, .ref 62), (1, .int a1)]) (by decide) rfl (Nat.le_of_ble_eq_true rfl) ?_
  refine z_aload_n 0 dX2_put_0 rfl ?_
  obtain ⟨v1, hv1, h⟩ := ob h
  refine z_callV (as := []) dX2_put_1 ml_2_19 mv_X2_isFull (t_X2_isFull l hv1) kdl_62 ⟨by decide, rfl⟩ rfl rfl (Nat.le_of_ble_eq_true rfl) ⟨Nat.le_of_ble_eq_true rfl, Nat.le_of_ble_eq_true rfl⟩ rfl ?_
  refine z_if_ne (tgt := 27) dX2_put_4 (by decide) (fun c2 => ?_) (fun c2 => ?_)
  · replace h := ig c2 h
    obtain rfl := Option.some.inj h
    exact z_vret dX2_put_27 rfl
  · replace h := ip c2 h
    refine z_aload_n 0 dX2_put_7 rfl ?_
    refine z_get (v := .ref 63) dX2_put_8 fl_2_9 kdl_62 rfl ?_
    refine z_aload_n 0 dX2_put_11 rfl ?_
    refine z_get (v := .int (S.1 62 1)) dX2_put_12 fl_2_15 kdl_62 rfl ?_
    refine z_iload_n 1 dX2_put_15 rfl ?_
    obtain ⟨c3, h⟩ := oi h
    refine z_iast dX2_put_16 kdl_63 (by decide) c3 ?_
    refine z_aload_n 0 dX2_put_17 rfl ?_
    refine z_dup dX2_put_18 rfl ?_
    refine z_get (v := .int ((up S 63 (S.1 62 1).toNatClampNeg a1).1 62 1)) dX2_put_19 fl_2_15 kdl_62 rfl ?_
    refine z_iconst (v := 1) dX2_put_22 rfl ?_
    refine z_iadd dX2_put_23 ?_
    refine z_put (fk := 1) dX2_put_24 fl_2_15 fp_2_1 kdl_62 rfl rfl rfl (Nat.le_of_ble_eq_true rfl) ?_
    obtain rfl := Option.some.inj h
    exact z_vret dX2_put_27 rfl
set_option maxHeartbeats 2000000 in
set_option maxRecDepth 20000 in
theorem t_X2_tellsYearsOf_L2 (l : Launch) {q1 : Nat} (hq1 : kd q1 = 6) : ∀ (n : Nat) (x2 : Int32) (x3 : Int32) (S : St) (k34 : Unit → Option Int32) (k42 : Unit → Option Int32) (r : Int32), f_X2_tellsYearsOf_L2 n q1 x2 x3 S k34 k42 = some r → (k34 () = some r → Z l yX2_tellsYearsOf M_X2_tellsYearsOf 34 [] [] S (some (.int r)) S) → (k42 () = some r → Z l yX2_tellsYearsOf M_X2_tellsYearsOf 42 [] [] S (some (.int r)) S) → Z l yX2_tellsYearsOf M_X2_tellsYearsOf 2 [(0, .ref 62), (1, .ref q1), (2, .int x2), (3, .int x3)] [] S (some (.int r)) S := by
  intro n
  induction n with
  | zero =>
    intro x2 x3 S k34 k42 r h hk34 hk42
    exact absurd h (by rw [f_X2_tellsYearsOf_L2]; exact fun q => by cases q)
  | succ n ih =>
    intro x2 x3 S k34 k42 r h hk34 hk42
    rw [f_X2_tellsYearsOf_L2] at h
    refine z_iload_n 3 dX2_tellsYearsOf_2 rfl ?_
    refine z_aload_n 0 dX2_tellsYearsOf_3 rfl ?_
    refine z_get (v := .int (S.1 62 1)) dX2_tellsYearsOf_4 fl_2_15 kdl_62 rfl ?_
    refine z_icmp_ge (tgt := 42) dX2_tellsYearsOf_7 (by decide) (fun c1 => ?_) (fun c1 => ?_)
    · replace h := ip c1 h
      refine z_sub (lv' := []) [] rfl ?_
      exact hk42  h
    · replace h := ig c1 h
      refine z_iload_n 3 dX2_tellsYearsOf_10 rfl ?_
      refine z_bipush (v := 16) dX2_tellsYearsOf_11 rfl ?_
      refine z_icmp_ge (tgt := 42) dX2_tellsYearsOf_13 (by decide) (fun c2 => ?_) (fun c2 => ?_)
      · replace h := ip c2 h
        refine z_sub (lv' := []) [] rfl ?_
        exact hk42  h
      · replace h := ig c2 h
        refine z_aload_n 0 dX2_tellsYearsOf_16 rfl ?_
        refine z_get (v := .ref 63) dX2_tellsYearsOf_17 fl_2_9 kdl_62 rfl ?_
        refine z_iload_n 3 dX2_tellsYearsOf_20 rfl ?_
        obtain ⟨c3, h⟩ := oi h
        refine z_iald dX2_tellsYearsOf_21 kdl_63 (by decide) c3 ?_
        refine z_aload_n 1 dX2_tellsYearsOf_22 rfl ?_
        refine z_iload_n 3 dX2_tellsYearsOf_23 rfl ?_
        refine z_iconst (v := 5) dX2_tellsYearsOf_24 rfl ?_
        refine z_imul dX2_tellsYearsOf_25 ?_
        refine z_iconst (v := 0) dX2_tellsYearsOf_26 rfl ?_
        refine z_iload_n 2 dX2_tellsYearsOf_27 rfl ?_
        obtain ⟨v4, hv4, h⟩ := ob h
        refine z_callV (as := [.int (x3 * 5), .int 0, .int x2]) dX2_tellsYearsOf_28 ml_2_23 mv_X6_yearBy (t_X6_yearBy l hq1 hv4) hq1 ⟨by decide, rfl⟩ rfl rfl (Nat.le_of_ble_eq_true rfl) ⟨Nat.le_of_ble_eq_true rfl, Nat.le_of_ble_eq_true rfl⟩ rfl ?_
        refine z_icmp_eq (tgt := 36) dX2_tellsYearsOf_31 (by decide) (fun c5 => ?_) (fun c5 => ?_)
        · replace h := ip c5 h
          refine z_iinc (lv' := [(0, .ref 62), (1, .ref q1), (2, .int x2), (3, .int (x3 + 1))]) (v := x3 + 1) 3 [1, 2, 3, 0] dX2_tellsYearsOf_36 rfl rfl (Nat.le_of_ble_eq_true rfl) rfl ?_
          refine z_goto (tgt := 2) dX2_tellsYearsOf_39 (by decide) ?_
          refine z_sub (lv' := [(0, .ref 62), (1, .ref q1), (2, .int x2), (3, .int (x3 + 1))]) [0, 1, 2, 3] rfl ?_
          exact ih _ _ _ _ _ _ h hk34 hk42
        · replace h := ig c5 h
          refine z_sub (lv' := []) [] rfl ?_
          exact hk34  h
set_option maxHeartbeats 2000000 in
set_option maxRecDepth 20000 in
theorem t_X2_tellsYearsOf (l : Launch) {S : St} {q1 : Nat} (hq1 : kd q1 = 6) {a2 : Int32} {r : Int32} (h : f_X2_tellsYearsOf q1 a2 S = some r) : CT l yX2_tellsYearsOf M_X2_tellsYearsOf [.ref 62, .ref q1, .int a2] S (some (.int r)) S := by
  rw [f_X2_tellsYearsOf] at h
  refine ct_of (lv := [(0, .ref 62), (1, .ref q1), (2, .int a2)]) (by decide) rfl (Nat.le_of_ble_eq_true rfl) ?_
  refine z_iconst (v := 0) dX2_tellsYearsOf_0 rfl ?_
  refine z_istore_n (lv' := [(0, .ref 62), (1, .ref q1), (2, .int a2), (3, .int 0)]) [1, 2, 3, 0] dX2_tellsYearsOf_1 (Nat.le_of_ble_eq_true rfl) rfl ?_
  refine z_sub (lv' := [(0, .ref 62), (1, .ref q1), (2, .int a2), (3, .int 0)]) [0, 1, 2, 3] rfl ?_
  refine t_X2_tellsYearsOf_L2 l hq1 _ _ _ _ _ _ _ h ?_ ?_
  · intro h
    refine z_iconst (v := 0) dX2_tellsYearsOf_34 rfl ?_
    obtain rfl := Option.some.inj h
    exact z_iret dX2_tellsYearsOf_35 rfl rfl
  · intro h
    refine z_iconst (v := 1) dX2_tellsYearsOf_42 rfl ?_
    obtain rfl := Option.some.inj h
    exact z_iret dX2_tellsYearsOf_43 rfl rfl
set_option maxHeartbeats 2000000 in
set_option maxRecDepth 20000 in
theorem t_X7_noYear (l : Launch) (S : St)  {a0 : Int32} {r : Int32} (h : f_X7_noYear a0 = some r) : CT l yX7_noYear M_X7_noYear [.int a0] S (some (.int r)) S := by
  rw [f_X7_noYear] at h
  refine ct_of (lv := [(0, .int a0)]) (by decide) rfl (Nat.le_of_ble_eq_true rfl) ?_
  refine z_iload_n 0 dX7_noYear_0 rfl ?_
  refine z_if_lt (tgt := 10) dX7_noYear_1 (by decide) (fun c1 => ?_) (fun c1 => ?_)
  · replace h := ip c1 h
    refine z_iconst (v := 1) dX7_noYear_10 rfl ?_
    refine z_goto (tgt := 15) dX7_noYear_11 (by decide) ?_
    obtain rfl := Option.some.inj h
    exact z_iret dX7_noYear_15 rfl rfl
  · replace h := ig c1 h
    refine z_iload_n 0 dX7_noYear_4 rfl ?_
    refine z_bipush (v := 12) dX7_noYear_5 rfl ?_
    refine z_icmp_lt (tgt := 14) dX7_noYear_7 (by decide) (fun c2 => ?_) (fun c2 => ?_)
    · replace h := ip c2 h
      refine z_iconst (v := 0) dX7_noYear_14 rfl ?_
      obtain rfl := Option.some.inj h
      exact z_iret dX7_noYear_15 rfl rfl
    · replace h := ig c2 h
      refine z_iconst (v := 1) dX7_noYear_10 rfl ?_
      refine z_goto (tgt := 15) dX7_noYear_11 (by decide) ?_
      obtain rfl := Option.some.inj h
      exact z_iret dX7_noYear_15 rfl rfl
end
