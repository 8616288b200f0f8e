section
-- ===== PART A: goes FIRST, ahead of the names: the tables' words, and 'selects' of the private methods out of them =====
/-- a private method of a class that the tables say can be made, by its rows of tables_1 -/
def lw_okq (q : MethodName × Nat) : Prop := (q.1.cls ≠ "java/lang/invoke/MethodHandle" ∧ q.1.cls ≠ "java/lang/invoke/VarHandle") ∧ Cond.instantiable q.1.cls q.2 ∈ tables_1 ∧ Cond.privateMethod q.1 ∈ tables_1 ∧ Cond.instanceMethod q.1 ∈ tables_1
theorem lw_p0 : lw_okq (⟨"CliqueLabels", "saveState", "()V"⟩, 10) := ⟨⟨by decide +kernel, by decide +kernel⟩, List.mem_of_getElem? (i := 23) (by decide +kernel), List.mem_of_getElem? (i := 229) (by decide +kernel), List.mem_of_getElem? (i := 230) (by decide +kernel)⟩
theorem lw_p1 : lw_okq (⟨"CliqueLabels$EdgeText", "goesOn", "(II)Z"⟩, 2) := ⟨⟨by decide +kernel, by decide +kernel⟩, List.mem_of_getElem? (i := 101) (by decide +kernel), List.mem_of_getElem? (i := 273) (by decide +kernel), List.mem_of_getElem? (i := 274) (by decide +kernel)⟩
theorem lw_p2 : lw_okq (⟨"CliqueLabels", "searchGraph", "()V"⟩, 10) := ⟨⟨by decide +kernel, by decide +kernel⟩, List.mem_of_getElem? (i := 23) (by decide +kernel), List.mem_of_getElem? (i := 281) (by decide +kernel), List.mem_of_getElem? (i := 282) (by decide +kernel)⟩
theorem lw_p3 : lw_okq (⟨"CliqueLabels", "share", "()D"⟩, 10) := ⟨⟨by decide +kernel, by decide +kernel⟩, List.mem_of_getElem? (i := 23) (by decide +kernel), List.mem_of_getElem? (i := 306) (by decide +kernel), List.mem_of_getElem? (i := 307) (by decide +kernel)⟩
theorem lw_p4 : lw_okq (⟨"CliqueLabels$Bound", "raise", "(JJI)V"⟩, 4) := ⟨⟨by decide +kernel, by decide +kernel⟩, List.mem_of_getElem? (i := 147) (by decide +kernel), List.mem_of_getElem? (i := 343) (by decide +kernel), List.mem_of_getElem? (i := 344) (by decide +kernel)⟩
theorem lw_p5 : lw_okq (⟨"CliqueLabels", "numberOf", "(I)I"⟩, 10) := ⟨⟨by decide +kernel, by decide +kernel⟩, List.mem_of_getElem? (i := 23) (by decide +kernel), List.mem_of_getElem? (i := 364) (by decide +kernel), List.mem_of_getElem? (i := 365) (by decide +kernel)⟩
theorem lw_p6 : lw_okq (⟨"CliqueLabels", "takenSnapshots", "()I"⟩, 10) := ⟨⟨by decide +kernel, by decide +kernel⟩, List.mem_of_getElem? (i := 23) (by decide +kernel), List.mem_of_getElem? (i := 379) (by decide +kernel), List.mem_of_getElem? (i := 380) (by decide +kernel)⟩
theorem lw_p7 : lw_okq (⟨"CliqueLabels", "mixVertices", "(J)J"⟩, 10) := ⟨⟨by decide +kernel, by decide +kernel⟩, List.mem_of_getElem? (i := 23) (by decide +kernel), List.mem_of_getElem? (i := 387) (by decide +kernel), List.mem_of_getElem? (i := 388) (by decide +kernel)⟩
theorem lw_p8 : lw_okq (⟨"CliqueLabels", "propertyOf", "(II)I"⟩, 10) := ⟨⟨by decide +kernel, by decide +kernel⟩, List.mem_of_getElem? (i := 23) (by decide +kernel), List.mem_of_getElem? (i := 391) (by decide +kernel), List.mem_of_getElem? (i := 392) (by decide +kernel)⟩
theorem lw_p9 : lw_okq (⟨"CliqueLabels", "mixBounds", "(J)J"⟩, 10) := ⟨⟨by decide +kernel, by decide +kernel⟩, List.mem_of_getElem? (i := 23) (by decide +kernel), List.mem_of_getElem? (i := 397) (by decide +kernel), List.mem_of_getElem? (i := 398) (by decide +kernel)⟩
theorem lw_p10 : lw_okq (⟨"CliqueLabels", "whyNoBound", "(I)I"⟩, 10) := ⟨⟨by decide +kernel, by decide +kernel⟩, List.mem_of_getElem? (i := 23) (by decide +kernel), List.mem_of_getElem? (i := 405) (by decide +kernel), List.mem_of_getElem? (i := 406) (by decide +kernel)⟩
theorem lw_p11 : lw_okq (⟨"CliqueLabels$HandleSearch", "begins", "(II)I"⟩, 4) := ⟨⟨by decide +kernel, by decide +kernel⟩, List.mem_of_getElem? (i := 171) (by decide +kernel), List.mem_of_getElem? (i := 419) (by decide +kernel), List.mem_of_getElem? (i := 420) (by decide +kernel)⟩
theorem lw_p12 : lw_okq (⟨"CliqueLabels$HandleSearch", "goOn", "(II)V"⟩, 4) := ⟨⟨by decide +kernel, by decide +kernel⟩, List.mem_of_getElem? (i := 171) (by decide +kernel), List.mem_of_getElem? (i := 433) (by decide +kernel), List.mem_of_getElem? (i := 434) (by decide +kernel)⟩
theorem lw_p13 : lw_okq (⟨"java/lang/Throwable", "fillInStackTrace", "(I)Ljava/lang/Throwable;"⟩, 6) := ⟨⟨by decide +kernel, by decide +kernel⟩, List.mem_of_getElem? (i := 495) (by decide +kernel), List.mem_of_getElem? (i := 493) (by decide +kernel), List.mem_of_getElem? (i := 494) (by decide +kernel)⟩
theorem lw_p14 : lw_okq (⟨"CliqueLabels", "checkVertex", "(I)V"⟩, 10) := ⟨⟨by decide +kernel, by decide +kernel⟩, List.mem_of_getElem? (i := 23) (by decide +kernel), List.mem_of_getElem? (i := 537) (by decide +kernel), List.mem_of_getElem? (i := 538) (by decide +kernel)⟩
theorem lw_p15 : lw_okq (⟨"CliqueLabels", "checkTaken", "(I)V"⟩, 10) := ⟨⟨by decide +kernel, by decide +kernel⟩, List.mem_of_getElem? (i := 23) (by decide +kernel), List.mem_of_getElem? (i := 605) (by decide +kernel), List.mem_of_getElem? (i := 606) (by decide +kernel)⟩
def lw_privs_1 : List (MethodName × Nat) := [(⟨"CliqueLabels", "saveState", "()V"⟩, 10), (⟨"CliqueLabels$EdgeText", "goesOn", "(II)Z"⟩, 2), (⟨"CliqueLabels", "searchGraph", "()V"⟩, 10), (⟨"CliqueLabels", "share", "()D"⟩, 10), (⟨"CliqueLabels$Bound", "raise", "(JJI)V"⟩, 4), (⟨"CliqueLabels", "numberOf", "(I)I"⟩, 10), (⟨"CliqueLabels", "takenSnapshots", "()I"⟩, 10), (⟨"CliqueLabels", "mixVertices", "(J)J"⟩, 10), (⟨"CliqueLabels", "propertyOf", "(II)I"⟩, 10), (⟨"CliqueLabels", "mixBounds", "(J)J"⟩, 10), (⟨"CliqueLabels", "whyNoBound", "(I)I"⟩, 10), (⟨"CliqueLabels$HandleSearch", "begins", "(II)I"⟩, 4), (⟨"CliqueLabels$HandleSearch", "goOn", "(II)V"⟩, 4), (⟨"java/lang/Throwable", "fillInStackTrace", "(I)Ljava/lang/Throwable;"⟩, 6), (⟨"CliqueLabels", "checkVertex", "(I)V"⟩, 10), (⟨"CliqueLabels", "checkTaken", "(I)V"⟩, 10)]
theorem lw_r1 : ∀ q ∈ lw_privs_1, lw_okq q := List.forall_mem_cons.mpr ⟨lw_p0, List.forall_mem_cons.mpr ⟨lw_p1, List.forall_mem_cons.mpr ⟨lw_p2, List.forall_mem_cons.mpr ⟨lw_p3, List.forall_mem_cons.mpr ⟨lw_p4, List.forall_mem_cons.mpr ⟨lw_p5, List.forall_mem_cons.mpr ⟨lw_p6, List.forall_mem_cons.mpr ⟨lw_p7, List.forall_mem_cons.mpr ⟨lw_p8, List.forall_mem_cons.mpr ⟨lw_p9, List.forall_mem_cons.mpr ⟨lw_p10, List.forall_mem_cons.mpr ⟨lw_p11, List.forall_mem_cons.mpr ⟨lw_p12, List.forall_mem_cons.mpr ⟨lw_p13, List.forall_mem_cons.mpr ⟨lw_p14, List.forall_mem_cons.mpr ⟨lw_p15, fun _ h => absurd h List.not_mem_nil⟩⟩⟩⟩⟩⟩⟩⟩⟩⟩⟩⟩⟩⟩⟩⟩
theorem lw_p16 : lw_okq (⟨"CliqueLabels", "checkSnapshot", "(I)V"⟩, 10) := ⟨⟨by decide +kernel, by decide +kernel⟩, List.mem_of_getElem? (i := 23) (by decide +kernel), List.mem_of_getElem? (i := 609) (by decide +kernel), List.mem_of_getElem? (i := 610) (by decide +kernel)⟩
theorem lw_p17 : lw_okq (⟨"CliqueLabels", "checkPlace", "(I)V"⟩, 10) := ⟨⟨by decide +kernel, by decide +kernel⟩, List.mem_of_getElem? (i := 23) (by decide +kernel), List.mem_of_getElem? (i := 658) (by decide +kernel), List.mem_of_getElem? (i := 659) (by decide +kernel)⟩
theorem lw_p18 : lw_okq (⟨"CliqueLabelsModel", "empties", "(II)V"⟩, 18) := ⟨⟨by decide +kernel, by decide +kernel⟩, List.mem_of_getElem? (i := 819) (by decide +kernel), List.mem_of_getElem? (i := 825) (by decide +kernel), List.mem_of_getElem? (i := 826) (by decide +kernel)⟩
theorem lw_p19 : lw_okq (⟨"CliqueLabelsModel", "save", "()V"⟩, 18) := ⟨⟨by decide +kernel, by decide +kernel⟩, List.mem_of_getElem? (i := 819) (by decide +kernel), List.mem_of_getElem? (i := 895) (by decide +kernel), List.mem_of_getElem? (i := 896) (by decide +kernel)⟩
theorem lw_p20 : lw_okq (⟨"CliqueLabelsModel", "isVertex", "(I)Z"⟩, 18) := ⟨⟨by decide +kernel, by decide +kernel⟩, List.mem_of_getElem? (i := 819) (by decide +kernel), List.mem_of_getElem? (i := 903) (by decide +kernel), List.mem_of_getElem? (i := 904) (by decide +kernel)⟩
theorem lw_p21 : lw_okq (⟨"CliqueLabelsModel", "joins", "(IIZ)V"⟩, 18) := ⟨⟨by decide +kernel, by decide +kernel⟩, List.mem_of_getElem? (i := 819) (by decide +kernel), List.mem_of_getElem? (i := 907) (by decide +kernel), List.mem_of_getElem? (i := 908) (by decide +kernel)⟩
theorem lw_p22 : lw_okq (⟨"CliqueLabelsModel", "edges", "()I"⟩, 18) := ⟨⟨by decide +kernel, by decide +kernel⟩, List.mem_of_getElem? (i := 819) (by decide +kernel), List.mem_of_getElem? (i := 911) (by decide +kernel), List.mem_of_getElem? (i := 912) (by decide +kernel)⟩
theorem lw_p23 : lw_okq (⟨"CliqueLabelsModel", "weight", "(I)I"⟩, 18) := ⟨⟨by decide +kernel, by decide +kernel⟩, List.mem_of_getElem? (i := 819) (by decide +kernel), List.mem_of_getElem? (i := 922) (by decide +kernel), List.mem_of_getElem? (i := 923) (by decide +kernel)⟩
theorem lw_p24 : lw_okq (⟨"CliqueLabelsModel", "clearBehind", "()V"⟩, 18) := ⟨⟨by decide +kernel, by decide +kernel⟩, List.mem_of_getElem? (i := 819) (by decide +kernel), List.mem_of_getElem? (i := 940) (by decide +kernel), List.mem_of_getElem? (i := 941) (by decide +kernel)⟩
theorem lw_p25 : lw_okq (⟨"CliqueLabelsModel", "refusedSnapshot", "(I)I"⟩, 18) := ⟨⟨by decide +kernel, by decide +kernel⟩, List.mem_of_getElem? (i := 819) (by decide +kernel), List.mem_of_getElem? (i := 948) (by decide +kernel), List.mem_of_getElem? (i := 949) (by decide +kernel)⟩
theorem lw_p26 : lw_okq (⟨"CliqueLabelsModel", "layProduct", "(I)I"⟩, 18) := ⟨⟨by decide +kernel, by decide +kernel⟩, List.mem_of_getElem? (i := 819) (by decide +kernel), List.mem_of_getElem? (i := 955) (by decide +kernel), List.mem_of_getElem? (i := 956) (by decide +kernel)⟩
theorem lw_p27 : lw_okq (⟨"CliqueLabelsModel", "other", "(II)I"⟩, 18) := ⟨⟨by decide +kernel, by decide +kernel⟩, List.mem_of_getElem? (i := 819) (by decide +kernel), List.mem_of_getElem? (i := 959) (by decide +kernel), List.mem_of_getElem? (i := 960) (by decide +kernel)⟩
theorem lw_p28 : lw_okq (⟨"CliqueLabelsModel", "areJoined", "(II)Z"⟩, 18) := ⟨⟨by decide +kernel, by decide +kernel⟩, List.mem_of_getElem? (i := 819) (by decide +kernel), List.mem_of_getElem? (i := 963) (by decide +kernel), List.mem_of_getElem? (i := 964) (by decide +kernel)⟩
theorem lw_p29 : lw_okq (⟨"CliqueLabelsModel", "isPlace", "(I)Z"⟩, 18) := ⟨⟨by decide +kernel, by decide +kernel⟩, List.mem_of_getElem? (i := 819) (by decide +kernel), List.mem_of_getElem? (i := 977) (by decide +kernel), List.mem_of_getElem? (i := 978) (by decide +kernel)⟩
theorem lw_p30 : lw_okq (⟨"CliqueLabelsModel", "colorAll", "()I"⟩, 18) := ⟨⟨by decide +kernel, by decide +kernel⟩, List.mem_of_getElem? (i := 819) (by decide +kernel), List.mem_of_getElem? (i := 989) (by decide +kernel), List.mem_of_getElem? (i := 990) (by decide +kernel)⟩
theorem lw_p31 : lw_okq (⟨"CliqueLabelsModel", "colorBy", "(I)Z"⟩, 18) := ⟨⟨by decide +kernel, by decide +kernel⟩, List.mem_of_getElem? (i := 819) (by decide +kernel), List.mem_of_getElem? (i := 993) (by decide +kernel), List.mem_of_getElem? (i := 994) (by decide +kernel)⟩
def lw_privs_2 : List (MethodName × Nat) := [(⟨"CliqueLabels", "checkSnapshot", "(I)V"⟩, 10), (⟨"CliqueLabels", "checkPlace", "(I)V"⟩, 10), (⟨"CliqueLabelsModel", "empties", "(II)V"⟩, 18), (⟨"CliqueLabelsModel", "save", "()V"⟩, 18), (⟨"CliqueLabelsModel", "isVertex", "(I)Z"⟩, 18), (⟨"CliqueLabelsModel", "joins", "(IIZ)V"⟩, 18), (⟨"CliqueLabelsModel", "edges", "()I"⟩, 18), (⟨"CliqueLabelsModel", "weight", "(I)I"⟩, 18), (⟨"CliqueLabelsModel", "clearBehind", "()V"⟩, 18), (⟨"CliqueLabelsModel", "refusedSnapshot", "(I)I"⟩, 18), (⟨"CliqueLabelsModel", "layProduct", "(I)I"⟩, 18), (⟨"CliqueLabelsModel", "other", "(II)I"⟩, 18), (⟨"CliqueLabelsModel", "areJoined", "(II)Z"⟩, 18), (⟨"CliqueLabelsModel", "isPlace", "(I)Z"⟩, 18), (⟨"CliqueLabelsModel", "colorAll", "()I"⟩, 18), (⟨"CliqueLabelsModel", "colorBy", "(I)Z"⟩, 18)]
theorem lw_r2 : ∀ q ∈ lw_privs_2, lw_okq q := List.forall_mem_cons.mpr ⟨lw_p16, List.forall_mem_cons.mpr ⟨lw_p17, List.forall_mem_cons.mpr ⟨lw_p18, List.forall_mem_cons.mpr ⟨lw_p19, List.forall_mem_cons.mpr ⟨lw_p20, List.forall_mem_cons.mpr ⟨lw_p21, List.forall_mem_cons.mpr ⟨lw_p22, List.forall_mem_cons.mpr ⟨lw_p23, List.forall_mem_cons.mpr ⟨lw_p24, List.forall_mem_cons.mpr ⟨lw_p25, List.forall_mem_cons.mpr ⟨lw_p26, List.forall_mem_cons.mpr ⟨lw_p27, List.forall_mem_cons.mpr ⟨lw_p28, List.forall_mem_cons.mpr ⟨lw_p29, List.forall_mem_cons.mpr ⟨lw_p30, List.forall_mem_cons.mpr ⟨lw_p31, fun _ h => absurd h List.not_mem_nil⟩⟩⟩⟩⟩⟩⟩⟩⟩⟩⟩⟩⟩⟩⟩⟩
theorem lw_p32 : lw_okq (⟨"CliqueLabelsModel", "canStay", "(I)Z"⟩, 18) := ⟨⟨by decide +kernel, by decide +kernel⟩, List.mem_of_getElem? (i := 819) (by decide +kernel), List.mem_of_getElem? (i := 997) (by decide +kernel), List.mem_of_getElem? (i := 998) (by decide +kernel)⟩
theorem lw_p33 : lw_okq (⟨"CliqueLabelsModel", "layBest", "(I)Z"⟩, 18) := ⟨⟨by decide +kernel, by decide +kernel⟩, List.mem_of_getElem? (i := 819) (by decide +kernel), List.mem_of_getElem? (i := 1008) (by decide +kernel), List.mem_of_getElem? (i := 1009) (by decide +kernel)⟩
theorem lw_p34 : lw_okq (⟨"CliqueLabelsModel", "misfit", "()I"⟩, 18) := ⟨⟨by decide +kernel, by decide +kernel⟩, List.mem_of_getElem? (i := 819) (by decide +kernel), List.mem_of_getElem? (i := 1012) (by decide +kernel), List.mem_of_getElem? (i := 1013) (by decide +kernel)⟩
theorem lw_p35 : lw_okq (⟨"CliqueLabelsModel", "product", "(II)I"⟩, 18) := ⟨⟨by decide +kernel, by decide +kernel⟩, List.mem_of_getElem? (i := 819) (by decide +kernel), List.mem_of_getElem? (i := 1016) (by decide +kernel), List.mem_of_getElem? (i := 1017) (by decide +kernel)⟩
theorem lw_p36 : lw_okq (⟨"CliqueLabelsModel", "setHandle", "(II)V"⟩, 18) := ⟨⟨by decide +kernel, by decide +kernel⟩, List.mem_of_getElem? (i := 819) (by decide +kernel), List.mem_of_getElem? (i := 1020) (by decide +kernel), List.mem_of_getElem? (i := 1021) (by decide +kernel)⟩
theorem lw_p37 : lw_okq (⟨"CliqueLabelsModel", "unreached", "()I"⟩, 18) := ⟨⟨by decide +kernel, by decide +kernel⟩, List.mem_of_getElem? (i := 819) (by decide +kernel), List.mem_of_getElem? (i := 1024) (by decide +kernel), List.mem_of_getElem? (i := 1025) (by decide +kernel)⟩
theorem lw_p38 : lw_okq (⟨"CliqueLabelsModel", "byHandle", "(I)I"⟩, 18) := ⟨⟨by decide +kernel, by decide +kernel⟩, List.mem_of_getElem? (i := 819) (by decide +kernel), List.mem_of_getElem? (i := 1028) (by decide +kernel), List.mem_of_getElem? (i := 1029) (by decide +kernel)⟩
theorem lw_p39 : lw_okq (⟨"CliqueLabelsModel", "layBound", "()V"⟩, 18) := ⟨⟨by decide +kernel, by decide +kernel⟩, List.mem_of_getElem? (i := 819) (by decide +kernel), List.mem_of_getElem? (i := 1032) (by decide +kernel), List.mem_of_getElem? (i := 1033) (by decide +kernel)⟩
theorem lw_p40 : lw_okq (⟨"CliqueLabelsModel", "rightUpTo", "()I"⟩, 18) := ⟨⟨by decide +kernel, by decide +kernel⟩, List.mem_of_getElem? (i := 819) (by decide +kernel), List.mem_of_getElem? (i := 1051) (by decide +kernel), List.mem_of_getElem? (i := 1052) (by decide +kernel)⟩
theorem lw_p41 : lw_okq (⟨"CliqueLabelsModel", "canStand", "(I)Z"⟩, 18) := ⟨⟨by decide +kernel, by decide +kernel⟩, List.mem_of_getElem? (i := 819) (by decide +kernel), List.mem_of_getElem? (i := 1055) (by decide +kernel), List.mem_of_getElem? (i := 1056) (by decide +kernel)⟩
theorem lw_p42 : lw_okq (⟨"CliqueLabelsModel", "vertexNow", "(II)I"⟩, 18) := ⟨⟨by decide +kernel, by decide +kernel⟩, List.mem_of_getElem? (i := 819) (by decide +kernel), List.mem_of_getElem? (i := 1083) (by decide +kernel), List.mem_of_getElem? (i := 1084) (by decide +kernel)⟩
theorem lw_p43 : lw_okq (⟨"CliqueLabelsModel", "colorOf", "(I)I"⟩, 18) := ⟨⟨by decide +kernel, by decide +kernel⟩, List.mem_of_getElem? (i := 819) (by decide +kernel), List.mem_of_getElem? (i := 1087) (by decide +kernel), List.mem_of_getElem? (i := 1088) (by decide +kernel)⟩
theorem lw_p44 : lw_okq (⟨"CliqueLabelsModel", "heaviest", "(I)I"⟩, 18) := ⟨⟨by decide +kernel, by decide +kernel⟩, List.mem_of_getElem? (i := 819) (by decide +kernel), List.mem_of_getElem? (i := 1091) (by decide +kernel), List.mem_of_getElem? (i := 1092) (by decide +kernel)⟩
theorem lw_p45 : lw_okq (⟨"CliqueLabelsModel", "isClique", "(I)Z"⟩, 18) := ⟨⟨by decide +kernel, by decide +kernel⟩, List.mem_of_getElem? (i := 819) (by decide +kernel), List.mem_of_getElem? (i := 1095) (by decide +kernel), List.mem_of_getElem? (i := 1096) (by decide +kernel)⟩
theorem lw_p46 : lw_okq (⟨"CliqueLabelsModel", "weightOf", "(I)I"⟩, 18) := ⟨⟨by decide +kernel, by decide +kernel⟩, List.mem_of_getElem? (i := 819) (by decide +kernel), List.mem_of_getElem? (i := 1099) (by decide +kernel), List.mem_of_getElem? (i := 1100) (by decide +kernel)⟩
theorem lw_p47 : lw_okq (⟨"CliqueLabelsModel", "boundNow", "(I)J"⟩, 18) := ⟨⟨by decide +kernel, by decide +kernel⟩, List.mem_of_getElem? (i := 819) (by decide +kernel), List.mem_of_getElem? (i := 1111) (by decide +kernel), List.mem_of_getElem? (i := 1112) (by decide +kernel)⟩
def lw_privs_3 : List (MethodName × Nat) := [(⟨"CliqueLabelsModel", "canStay", "(I)Z"⟩, 18), (⟨"CliqueLabelsModel", "layBest", "(I)Z"⟩, 18), (⟨"CliqueLabelsModel", "misfit", "()I"⟩, 18), (⟨"CliqueLabelsModel", "product", "(II)I"⟩, 18), (⟨"CliqueLabelsModel", "setHandle", "(II)V"⟩, 18), (⟨"CliqueLabelsModel", "unreached", "()I"⟩, 18), (⟨"CliqueLabelsModel", "byHandle", "(I)I"⟩, 18), (⟨"CliqueLabelsModel", "layBound", "()V"⟩, 18), (⟨"CliqueLabelsModel", "rightUpTo", "()I"⟩, 18), (⟨"CliqueLabelsModel", "canStand", "(I)Z"⟩, 18), (⟨"CliqueLabelsModel", "vertexNow", "(II)I"⟩, 18), (⟨"CliqueLabelsModel", "colorOf", "(I)I"⟩, 18), (⟨"CliqueLabelsModel", "heaviest", "(I)I"⟩, 18), (⟨"CliqueLabelsModel", "isClique", "(I)Z"⟩, 18), (⟨"CliqueLabelsModel", "weightOf", "(I)I"⟩, 18), (⟨"CliqueLabelsModel", "boundNow", "(I)J"⟩, 18)]
theorem lw_r3 : ∀ q ∈ lw_privs_3, lw_okq q := List.forall_mem_cons.mpr ⟨lw_p32, List.forall_mem_cons.mpr ⟨lw_p33, List.forall_mem_cons.mpr ⟨lw_p34, List.forall_mem_cons.mpr ⟨lw_p35, List.forall_mem_cons.mpr ⟨lw_p36, List.forall_mem_cons.mpr ⟨lw_p37, List.forall_mem_cons.mpr ⟨lw_p38, List.forall_mem_cons.mpr ⟨lw_p39, List.forall_mem_cons.mpr ⟨lw_p40, List.forall_mem_cons.mpr ⟨lw_p41, List.forall_mem_cons.mpr ⟨lw_p42, List.forall_mem_cons.mpr ⟨lw_p43, List.forall_mem_cons.mpr ⟨lw_p44, List.forall_mem_cons.mpr ⟨lw_p45, List.forall_mem_cons.mpr ⟨lw_p46, List.forall_mem_cons.mpr ⟨lw_p47, fun _ h => absurd h List.not_mem_nil⟩⟩⟩⟩⟩⟩⟩⟩⟩⟩⟩⟩⟩⟩⟩⟩
theorem lw_p48 : lw_okq (⟨"CliqueLabelsModel", "reason", "()I"⟩, 18) := ⟨⟨by decide +kernel, by decide +kernel⟩, List.mem_of_getElem? (i := 819) (by decide +kernel), List.mem_of_getElem? (i := 1115) (by decide +kernel), List.mem_of_getElem? (i := 1116) (by decide +kernel)⟩
theorem lw_p49 : lw_okq (⟨"CliqueLabelsModel", "reasonNow", "(I)I"⟩, 18) := ⟨⟨by decide +kernel, by decide +kernel⟩, List.mem_of_getElem? (i := 819) (by decide +kernel), List.mem_of_getElem? (i := 1124) (by decide +kernel), List.mem_of_getElem? (i := 1125) (by decide +kernel)⟩
theorem lw_p50 : lw_okq (⟨"CliqueLabelsModel", "bestNow", "(II)J"⟩, 18) := ⟨⟨by decide +kernel, by decide +kernel⟩, List.mem_of_getElem? (i := 819) (by decide +kernel), List.mem_of_getElem? (i := 1136) (by decide +kernel), List.mem_of_getElem? (i := 1137) (by decide +kernel)⟩
theorem lw_p51 : lw_okq (⟨"CliqueLabelsModel", "counted", "(I)I"⟩, 18) := ⟨⟨by decide +kernel, by decide +kernel⟩, List.mem_of_getElem? (i := 819) (by decide +kernel), List.mem_of_getElem? (i := 1144) (by decide +kernel), List.mem_of_getElem? (i := 1145) (by decide +kernel)⟩
theorem lw_p52 : lw_okq (⟨"CliqueLabelsModel", "mostVertices", "()I"⟩, 18) := ⟨⟨by decide +kernel, by decide +kernel⟩, List.mem_of_getElem? (i := 819) (by decide +kernel), List.mem_of_getElem? (i := 1148) (by decide +kernel), List.mem_of_getElem? (i := 1149) (by decide +kernel)⟩
theorem lw_p53 : lw_okq (⟨"CliqueLabelsModel", "misfits", "()I"⟩, 18) := ⟨⟨by decide +kernel, by decide +kernel⟩, List.mem_of_getElem? (i := 819) (by decide +kernel), List.mem_of_getElem? (i := 1152) (by decide +kernel), List.mem_of_getElem? (i := 1153) (by decide +kernel)⟩
theorem lw_p54 : lw_okq (⟨"CliqueLabelsModel", "near", "()D"⟩, 18) := ⟨⟨by decide +kernel, by decide +kernel⟩, List.mem_of_getElem? (i := 819) (by decide +kernel), List.mem_of_getElem? (i := 1160) (by decide +kernel), List.mem_of_getElem? (i := 1161) (by decide +kernel)⟩
theorem lw_p55 : lw_okq (⟨"CliqueLabelsModel", "mix", "(J)V"⟩, 18) := ⟨⟨by decide +kernel, by decide +kernel⟩, List.mem_of_getElem? (i := 819) (by decide +kernel), List.mem_of_getElem? (i := 1169) (by decide +kernel), List.mem_of_getElem? (i := 1170) (by decide +kernel)⟩
theorem lw_p56 : lw_okq (⟨"CliqueLabelsModel", "mixVertex", "(I)V"⟩, 18) := ⟨⟨by decide +kernel, by decide +kernel⟩, List.mem_of_getElem? (i := 819) (by decide +kernel), List.mem_of_getElem? (i := 1174) (by decide +kernel), List.mem_of_getElem? (i := 1175) (by decide +kernel)⟩
def lw_privs_4 : List (MethodName × Nat) := [(⟨"CliqueLabelsModel", "reason", "()I"⟩, 18), (⟨"CliqueLabelsModel", "reasonNow", "(I)I"⟩, 18), (⟨"CliqueLabelsModel", "bestNow", "(II)J"⟩, 18), (⟨"CliqueLabelsModel", "counted", "(I)I"⟩, 18), (⟨"CliqueLabelsModel", "mostVertices", "()I"⟩, 18), (⟨"CliqueLabelsModel", "misfits", "()I"⟩, 18), (⟨"CliqueLabelsModel", "near", "()D"⟩, 18), (⟨"CliqueLabelsModel", "mix", "(J)V"⟩, 18), (⟨"CliqueLabelsModel", "mixVertex", "(I)V"⟩, 18)]
theorem lw_r4 : ∀ q ∈ lw_privs_4, lw_okq q := List.forall_mem_cons.mpr ⟨lw_p48, List.forall_mem_cons.mpr ⟨lw_p49, List.forall_mem_cons.mpr ⟨lw_p50, List.forall_mem_cons.mpr ⟨lw_p51, List.forall_mem_cons.mpr ⟨lw_p52, List.forall_mem_cons.mpr ⟨lw_p53, List.forall_mem_cons.mpr ⟨lw_p54, List.forall_mem_cons.mpr ⟨lw_p55, List.forall_mem_cons.mpr ⟨lw_p56, fun _ h => absurd h List.not_mem_nil⟩⟩⟩⟩⟩⟩⟩⟩⟩
def lw_privs : List (MethodName × Nat) := lw_privs_1 ++ (lw_privs_2 ++ (lw_privs_3 ++ (lw_privs_4)))
def lw_tbl : List Cond := k2_sels lw_privs ++ tables_1
theorem lw_privs_ok : ∀ q ∈ lw_privs, lw_okq q := by
  show ∀ q ∈ lw_privs_1 ++ (lw_privs_2 ++ (lw_privs_3 ++ (lw_privs_4))), lw_okq q
  exact List.forall_mem_append.mpr ⟨lw_r1, List.forall_mem_append.mpr ⟨lw_r2, List.forall_mem_append.mpr ⟨lw_r3, lw_r4⟩⟩⟩
/-- the streams that the claim lets the run draw from -/
abbrev lw_cs : List Choice := [Jvm.Choice.named "NaN.bits"]
theorem lw_bits : nanBits ∈ lw_cs := by first | decide | exact List.mem_cons_self | simp [lw_cs, nanBits]
-- ===== end of PART A; then your names; then what follows =====
end
section
/-! ===== BEGIN words of one list among another's, by their places ===== -/
theorem goodIn_r {big : List Cond} (ws : List Cond) (ps : List Nat) (hp : ws = ps.filterMap (fun i => big[i]?)) (h : ws.all goodWord = true) : GoodIn big ws := by
  intro w hw
  have h1 := List.all_eq_true.mp h w hw
  rw [hp] at hw
  obtain ⟨i, -, hi⟩ := List.mem_filterMap.mp hw
  have hm : w ∈ big := by first | exact List.mem_of_getElem? hi | exact List.getElem?_mem hi
  exact ⟨hm, good_of_word h1⟩
theorem goodIn_app {big a b : List Cond} (ha : GoodIn big a) (hb : GoodIn big b) : GoodIn big (a ++ b) := fun w h => (List.mem_append.mp h).elim (ha w) (hb w)
theorem goodIn_ca {big a b : List Cond} {c : Cond} (ha : GoodIn big (c :: a)) (hb : GoodIn big b) : GoodIn big (c :: (a ++ b)) := fun w h => (List.mem_cons.mp h).elim (fun e => ha w (List.mem_cons.mpr (Or.inl e))) (fun h => (List.mem_append.mp h).elim (fun h => ha w (List.mem_cons.mpr (Or.inr h))) (hb w))
theorem goodIn_sub {big ws : List Cond} (hm : ∀ w ∈ ws, w ∈ big) (h : ws.all goodWord = true) : GoodIn big ws := fun w hw => ⟨hm w hw, good_of_word (List.all_eq_true.mp h w hw)⟩
/-! ===== END ===== -/

/-! ===== BEGIN new T[n][m]: the outer array a place, the inner ones among the pooled ===== -/
/-- f, but v at every address of l -/
def vr_up {α : Type} (f : Nat → α) (l : List Nat) (v : α) : Nat → α := fun a => if a ∈ l then v else f a
theorem vr_up_in {α : Type} {f : Nat → α} {l : List Nat} {v : α} {a : Nat} (h : a ∈ l) : vr_up f l v a = v := if_pos h
theorem vr_up_ne {α : Type} {f : Nat → α} {l : List Nat} {v : α} {a : Nat} (h : a ∉ l) : vr_up f l v a = f a := if_neg h
theorem vr_rows {L l : List Nat} {f : Nat → va_E} {e : va_E} (h : ∀ a, a ∈ l → a ∉ L) : va_pl L f ++ l.map (fun a => (a, e)) = va_pl (L ++ l) (vr_up f l e) := by
  unfold va_pl
  rw [List.map_append]
  congr 1
  · apply List.map_congr_left
    intro a ha
    rw [vr_up_ne (fun q => h a q ha)]
  · apply List.map_congr_left
    intro a ha
    rw [vr_up_in ha]
theorem vr_lay {X rows : va_W} {x : Nat × va_E} {pl : va_W} {D : va_G} {cl : List vw_C} {H : Heap} (hP : va_P D cl (((X ++ pl) ++ [x]) ++ rows) H) : va_P D cl ((X ++ [x]) ++ (pl ++ rows)) H := by
  rw [List.append_assoc (X ++ pl)] at hP
  have h := va_P.swap hP
  rw [← List.append_assoc X] at h
  have h2 := va_P.swap h
  rw [List.append_assoc (X ++ [x])] at h2
  exact h2
theorem vr_layD {X rows : va_W} {x : Nat × va_E} {pl : va_W} {A : Nat → Prop} (hD : va_D A (((X ++ pl) ++ [x]) ++ rows)) : va_D A ((X ++ [x]) ++ (pl ++ rows)) := by
  rw [List.append_assoc (X ++ pl)] at hD
  have h := va_D.swap hD
  rw [← List.append_assoc X] at h
  have h2 := va_D.swap h
  rw [List.append_assoc (X ++ [x])] at h2
  exact h2
theorem vr_outer (c : ClassId) (N h0 : Nat) : ∀ i : Nat, Jvm.Free.Multi.outerC c N h0 i = arrV c N (fun j => va_rf (if j < i then some (h0 + 1 + j) else none))
  | 0 => by
    show ({ cls := c, slots := Array.replicate N .null, vm := .none } : Cell) = _
    rw [arrV_new]
    refine congrArg (arrV c N) (funext fun j => ?_)
    simp [va_rf]
  | i + 1 => by
    show (Jvm.Free.Multi.outerC c N h0 i).setSlot i (.ref (h0 + 1 + i)) = _
    rw [vr_outer c N h0 i, arrV_store]
    refine congrArg (arrV c N) (funext fun j => ?_)
    by_cases e : j = i
    · subst e
      simp [updV, va_rf]
    · by_cases h : j < i
      · simp [updV, e, h, Nat.lt_succ_of_lt h]
      · simp [updV, e, h, show ¬ j < i + 1 by omega]
/-- the array class over arrays of ty: the word of the tables, and that it stays (NAMES.whole uses it, the kit has it for objects alone) -/
def va_AOA (ty : FieldType) (U : State) : Prop := (Cond.arrayOver (.array ty)).before #[] U = true
theorem va_AOA.of {ty : FieldType} {A : Array Value} {U : State} (h : (Cond.arrayOver (.array ty)).before A U = true) : va_AOA ty U := h
theorem va_AOA.use {ty : FieldType} {A : Array Value} {U : State} (h : va_AOA ty U) : (Cond.arrayOver (.array ty)).before A U = true := h
section VGM
variable {p : Program} {l : Launch} {e : Env} {R : Room} {s : State} {m : MethodId} {args : Array Value} {below : List Frame} {meth : Method} {c : Code} {H : Heap} {locs : List Loc} {cells slots : Nat} {Q : State → Prop}
variable {cc : ByteArray} {pc : Nat} {ls : Array Slot} {rest : List Value} {D : va_G} {cl : List vw_C} {A : Nat → Prop} {a : Nat} {tys : List (ClassId × FieldType)} {ws : va_W} {H0 : Heap}
theorem va_mna {X : va_W} {L : List Nat} {f : Nat → va_E} {cc : ByteArray} (hexec : p.tables.exec = Jvm.exec) (hb : c.code = cc) {own : String} {index : Nat} {ty : FieldType} {cy : ClassId} (hown : s.vm.findClass own = some m.cls) (hclink : (Cond.classLink own index ("[" ++ (FieldType.array ty).toString)).before args s = true) (hover : va_AOA ty s) (harr : (Cond.arrayClass ty).before args s = true) (hcy : s.vm.findClass (FieldType.array ty).toString = some cy)
    (hK : va_K D cl tys s) (hP : va_P D cl (X ++ va_pl L f) H) (hD : va_D A (X ++ va_pl L f)) (hS : va_S A H0 H locs) (hA : ∀ q, H0.size ≤ q → A q) {n k : Int32} {N' K' : Nat} {z : vp_A} (hn : ¬ n < 0) (hk : ¬ k < 0) (hN : n.toNatClampNeg = N') (hM : k.toNatClampNeg = K')
    (hb1 : N' * 4 ≤ 536870912) (hb2 : K' * componentBytes ty ≤ 536870912) (hb3 : K' ≤ 536870912) (hdf : fits ty (defaultValue ty) = true) (hdd : (defaultValue ty).isDefault = true) (hcells : cells + (1 + N') ≤ R.cells) (hslots : slots + (N' + N' * K') ≤ R.slots) (hz : ∀ c : ClassId, Jvm.Free.Multi.innerC c K' (defaultValue ty) = vp_cell c z) (hdg : decode cc pc = .ok (.multianewarray index 2, 4))
    (kk : ∀ (q : Nat) (r : Nat → Nat) (cA : ClassId) (H1 : Heap), (∀ i j : Nat, i < N' → j < N' → r i = r j → i = j) → (∀ i : Nat, i < N' → r i ∉ L) → va_K D cl (tys ++ [(cA, .array ty)]) s →
      va_P D cl ((X ++ [(q, .inl (cA, N', .inr (.inr (.inr (.inr (fun i => if i < N' then some (r i) else none))))))]) ++ va_pl (L ++ (List.range N').map r) (vr_up f ((List.range N').map r) (.inl (cy, z)))) H1 → va_D A ((X ++ [(q, .inl (cA, N', .inr (.inr (.inr (.inr (fun i => if i < N' then some (r i) else none))))))]) ++ va_pl (L ++ (List.range N').map r) (vr_up f ((List.range N').map r) (.inl (cy, z)))) → va_S A H0 H1 locs →
      W p l e R s m args below meth c H1 locs (cells + 1 + N') (slots + N' + N' * K') Q (F0 m (pc + 4) ls (.ref q :: rest))) : W p l e R s m args below meth c H locs cells slots Q (F0 m pc ls (.int k :: .int n :: rest)) := by
  subst hN
  subst hM
  intro T hT Xs
  obtain ⟨vm₁, cA, comp, -, fA, fC, hO, -, X', step⟩ := Xs.multianewarray2F hexec hown hclink (va_AOA.use hover) harr (g := F0 m pc ls (.int k :: .int n :: rest)) rfl (by rw [hb]; exact hdg) rfl hn hk hb1 hb2 hb3 hdf hdd hcells hslots
  have ec : some cy = some comp := hcy.symm.trans fC
  cases ec
  generalize hF : Jvm.Free.Multi.fill (T.setVm vm₁) cA cy n.toNatClampNeg k.toNatClampNeg (defaultValue ty) n.toNatClampNeg = F at X' step
  have hTh : (T.setVm vm₁).heap = H := hT
  obtain ⟨f1, f2, -, -⟩ := Jvm.Free.Multi.fill_facts (T.setVm vm₁) cA cy n.toNatClampNeg k.toNatClampNeg (defaultValue ty) n.toNatClampNeg
  rw [hF, hTh] at f1 f2
  have hold : ∀ x : Nat, x < H.size → F.heap[x]? = H[x]? := fun x hx => by
    have := Jvm.Free.Multi.fill_old (T.setVm vm₁) cA cy n.toNatClampNeg k.toNatClampNeg (defaultValue ty) (a := x) (by rw [hTh]; exact hx) n.toNatClampNeg
    rw [hF, hTh] at this
    exact this
  have hrow : ∀ j : Nat, j < n.toNatClampNeg → F.heap[H.size + 1 + j]? = some (vp_cell cy z) := fun j hj => by
    have := Jvm.Free.Multi.fill_inner (T.setVm vm₁) cA cy n.toNatClampNeg k.toNatClampNeg (defaultValue ty) n.toNatClampNeg j hj
    rw [hF, hTh, hz] at this
    exact this
  have hout : Jvm.Free.Multi.outerC cA n.toNatClampNeg H.size n.toNatClampNeg = vp_cell cA (n.toNatClampNeg, .inr (.inr (.inr (.inr (fun i => if i < n.toNatClampNeg then some (H.size + 1 + i) else none))))) := by
    rw [vp_cell_q]
    exact vr_outer cA n.toNatClampNeg H.size n.toNatClampNeg
  rw [hout] at f2
  have hlt : ∀ a, a ∈ L → a < H.size := fun a ha => by
    obtain ⟨k9, hk9⟩ := va_pl_get (X := X) (f := f) ha
    exact (hP k9 _ hk9).lt
  have hnl : ∀ i : Nat, i < n.toNatClampNeg → H.size + 1 + i ∉ L := fun i _ h => by
    have := hlt _ h
    omega
  have hnm : ∀ a, a ∈ (List.range n.toNatClampNeg).map (fun i => H.size + 1 + i) → a ∉ L := fun a ha h => by
    obtain ⟨i, -, rfl⟩ := List.mem_map.mp ha
    have := hlt _ h
    omega
  have hP0 : va_P D cl (X ++ va_pl L f) F.heap := hP.kept (fun k9 x hx => hold x.1 ((hP k9 x hx).lt))
  have hP1 : va_P D cl ((X ++ va_pl L f) ++ [(H.size, .inl (cA, n.toNatClampNeg, .inr (.inr (.inr (.inr (fun i => if i < n.toNatClampNeg then some (H.size + 1 + i) else none))))))]) F.heap := hP0.app (fun k9 x hx => by
    have h0 : k9 < 1 := (List.getElem?_eq_some_iff.mp hx).1
    rw [show k9 = 0 by omega] at hx
    cases hx
    exact f2)
  have hP2 : va_P D cl (((X ++ va_pl L f) ++ [(H.size, .inl (cA, n.toNatClampNeg, .inr (.inr (.inr (.inr (fun i => if i < n.toNatClampNeg then some (H.size + 1 + i) else none))))))]) ++ ((List.range n.toNatClampNeg).map (fun i => H.size + 1 + i)).map (fun a => (a, .inl (cy, z)))) F.heap := hP1.app (fun k9 x hx => by
    obtain ⟨a, ha, rfl⟩ := List.mem_map.mp (List.mem_of_getElem? hx)
    obtain ⟨i, hi, rfl⟩ := List.mem_map.mp ha
    exact hrow i (List.mem_range.mp hi))
  have hD2 : va_D A (((X ++ va_pl L f) ++ [(H.size, .inl (cA, n.toNatClampNeg, .inr (.inr (.inr (.inr (fun i => if i < n.toNatClampNeg then some (H.size + 1 + i) else none))))))]) ++ ((List.range n.toNatClampNeg).map (fun i => H.size + 1 + i)).map (fun a => (a, .inl (cy, z)))) := by
    have hD1 := hD.push (e := .inl (cA, n.toNatClampNeg, .inr (.inr (.inr (.inr (fun i => if i < n.toNatClampNeg then some (H.size + 1 + i) else none)))))) hP rfl (hA _ hS.1)
    generalize hW1 : (X ++ va_pl L f) ++ [(H.size, .inl (cA, n.toNatClampNeg, .inr (.inr (.inr (.inr (fun i => if i < n.toNatClampNeg then some (H.size + 1 + i) else none))))))] = W1 at hD1 hP1 ⊢
    have hle : ∀ (k9 : Nat) (x : Nat × va_E), W1[k9]? = some x → x.1 ≤ H.size := fun k9 x hx => by
      rw [← hW1] at hx
      by_cases hl : k9 < (X ++ va_pl L f).length
      · rw [List.getElem?_append_left hl] at hx
        exact Nat.le_of_lt ((hP k9 x hx).lt)
      · rw [List.getElem?_append_right (by omega)] at hx
        have h0 : k9 - (X ++ va_pl L f).length < 1 := (List.getElem?_eq_some_iff.mp hx).1
        rw [show k9 - (X ++ va_pl L f).length = 0 by omega] at hx
        cases hx
        exact Nat.le_refl _
    have hr : ∀ (k9 : Nat) (x : Nat × va_E), (((List.range n.toNatClampNeg).map (fun i => H.size + 1 + i)).map (fun a => ((a, .inl (cy, z)) : Nat × va_E)))[k9]? = some x → x.1 = H.size + 1 + k9 := fun k9 x hx => by
      rw [List.getElem?_map, List.getElem?_map] at hx
      by_cases h9 : k9 < n.toNatClampNeg
      · rw [List.getElem?_range h9] at hx
        cases hx
        rfl
      · have hn0 : (List.range n.toNatClampNeg)[k9]? = none := List.getElem?_eq_none (by rw [List.length_range]; omega)
        rw [hn0] at hx
        cases hx
    refine ⟨fun i j x y hi hj hxy => ?_, fun k9 x hx => ?_⟩
    · by_cases h1 : i < W1.length <;> by_cases h2 : j < W1.length
      · rw [List.getElem?_append_left h1] at hi
        rw [List.getElem?_append_left h2] at hj
        exact hD1.1 i j x y hi hj hxy
      · rw [List.getElem?_append_left h1] at hi
        rw [List.getElem?_append_right (by omega)] at hj
        have := hle _ _ hi
        have := hr _ _ hj
        omega
      · rw [List.getElem?_append_right (by omega)] at hi
        rw [List.getElem?_append_left h2] at hj
        have := hle _ _ hj
        have := hr _ _ hi
        omega
      · rw [List.getElem?_append_right (by omega)] at hi hj
        have := hr _ _ hi
        have := hr _ _ hj
        omega
    · by_cases h1 : k9 < W1.length
      · rw [List.getElem?_append_left h1] at hx
        exact hD1.2 k9 x hx
      · rw [List.getElem?_append_right (by omega)] at hx
        have := hr _ _ hx
        exact hA _ (by have := hS.1; omega)
  have hAr : ArrOfT s cA (.array ty) := fun N9 z9 => by
    obtain ⟨-, k9, hk9, cm9, hkk9⟩ := (hO 0 0 0).1
    exact ⟨(fun q hq => by cases hq), k9, hk9, cm9, hkk9⟩
  have hK2 : va_K D cl (tys ++ [(cA, .array ty)]) s := ⟨hK.1, fun k9 x hx => by
    by_cases hl : k9 < tys.length
    · rw [List.getElem?_append_left hl] at hx
      exact hK.2 k9 x hx
    · rw [List.getElem?_append_right (by omega)] at hx
      have h0 : k9 - tys.length < 1 := (List.getElem?_eq_some_iff.mp hx).1
      rw [show k9 - tys.length = 0 by omega] at hx
      cases hx
      exact ⟨hAr, fA⟩⟩
  obtain ⟨t, a1, b1⟩ := kk H.size (fun i => H.size + 1 + i) cA F.heap (fun i j _ _ h => by have h9 : H.size + 1 + i = H.size + 1 + j := h; omega) hnl hK2 (by rw [← vr_rows hnm]; exact vr_lay hP2) (by rw [← vr_rows hnm]; exact vr_layD hD2) ⟨by rw [f1]; have := hS.1; omega, fun x h1 h2 => (hold x (Nat.lt_of_lt_of_le h1 hS.1)).trans (hS.2.1 x h1 h2), hS.2.2⟩ F rfl X'
  refine ⟨t, step t ?_, b1⟩
  have e : T.heap.size = H.size := by rw [hT]
  rw [e]
  exact a1
end VGM
/-! ===== END ===== -/

/-! ===== BEGIN exceptions that leave a method, and their catching by the caller (launches without stack traces) ===== -/
section VXA
/-! The laws vx_back, vx_callV, vx_callS, vx_callSW, vx_throw0, vx_throwS follow proofs of the library, with one case more: JvmDerived/Free/Laws.lean (Back.of_free), Shelf42/LK1.lean (callV, callS), Shelf/KitTraced.lean (throwNew0V, throwNewS). -/
/-- where a method has thrown q: the class by its name, the cell, what was written, the world -/
def vx_T (XC : String → State → State → Prop) (st : State) (q : Addr) (t : State) (mc ms : Nat) (free : Addr → Prop) : Prop :=
  ∃ (E : String) (ce : Cell) (L : List Loc), XC E st t ∧ t.heap[q]? = some ce ∧ ce.vm = .none ∧ st.vm.findClass E = some ce.cls ∧ st.WarmedH t.vm ∧ st.sameButNew ({ t with vm := st.vm } : State) L mc ms ∧ ∀ z ∈ L, free z.base
def vx_Q (Qc : Array Value → State → Outcome → State → Prop) (XC : String → State → State → Prop) (mc ms : Nat) (free : Addr → Prop) : Array Value → State → Outcome → State → Prop := fun a st o t =>
  (Qc a st o t ∧ ∃ L, FrameEnd st o t L mc ms ∧ ∀ q ∈ L, free q.base) ∨ ∃ q, o = .threw q ∧ vx_T XC st q t mc ms free
/-- a callee that returns or throws -/
def vx_Met (l : Launch) (y : MethodName) (ws : List Cond) (rm : Room) (Pc : Array Value → State → Prop) (Qc : Array Value → State → Outcome → State → Prop) (XC : String → State → State → Prop) (mc ms : Nat) (free : Addr → Prop) : Prop :=
  MetFree l y (headSpec ws rm) Pc (fun _ _ _ _ _ => True) (vx_Q Qc XC mc ms free)
def vx_Post (XC : String → State → State → Prop) (mc ms : Nat) (free : Addr → Prop) : Pt → Array Value → Addr → Pt → Prop := fun A a q B =>
  ∃ (g : JFrame) (mk : MethodId) (t : State) (L : List Loc) (E : String) (ce : Cell), B.U.heap = t.heap ∧ B.U.vm = t.vm ∧ XC E (A.U.calling g mk a) t ∧ t.heap[q]? = some ce ∧ ce.vm = .none ∧ A.U.vm.findClass E = some ce.cls ∧ B.locs = A.locs ++ L ∧ (∀ z ∈ L, free z.base) ∧ B.cells = A.cells + mc ∧ B.slots = A.slots + ms
def vx_Back (l : Launch) (R : Room) (p : Program) (e : Env) (below : List Frame) (s : State) (sargs : Array Value) (y : MethodName) (len W9 : Nat)
    (Pre : Pt → Array Value → Prop) (Post : Pt → Array Value → Option Value → Pt → Prop) (PostX : Pt → Array Value → Addr → Pt → Prop) : Prop :=
  ∀ (m : MethodId) (meth : Method) (c : Code) (A : Pt) (g : JFrame) (ig : Instr) (mk : MethodId) (a : Array Value),
    Stand p l e R s m sargs below meth c A.U A.locs A.cells A.slots → g.method = m → g.locals.size = c.maxLocals → decode c.code g.pc = .ok (ig, len) →
    2 * g.monitorRoom + (g.stack.map fun v => v.category).sum ≤ W9 → A.U.methodNamed? y = some mk → Pre A a →
    (∃ (v : Option Value) (B : Pt), Stand p l e R s m sargs below meth c B.U B.locs B.cells B.slots ∧ Post A a v B ∧
      Steps p.tables e below (doInvoke e (A.U.setTop g) [] mk a).1 (B.U.setTop { g with pc := g.pc + len, stack := v.toList ++ g.stack })) ∨
    (∃ (q : Addr) (B : Pt), Stand p l e R s m sargs below meth c B.U B.locs B.cells B.slots ∧ PostX A a q B ∧
      Steps p.tables e below (doInvoke e (A.U.setTop g) [] mk a).1 ((B.U.setTop g).pushFrame (.throwing q)))
section Payer
variable {l : Launch} {R : Room} {p : Program} {e : Env} {below : List Frame} {s : State} {sargs : Array Value} {y : MethodName} {len W9 : Nat}
theorem vx_back {ws : List Cond} {rm : Room} {Pc : Array Value → State → Prop} {Qc : Array Value → State → Outcome → State → Prop} {XC : String → State → State → Prop} {mc ms : Nat} {free : Addr → Prop} {bytes : ByteArray} {maxL : Nat} {ret : Option FieldType}
    (hM : vx_Met l y ws rm Pc Qc XC mc ms free) (hblind : FrameBlind Pc) (hrc : rm.cells = mc) (hrs : rm.slots = ms)
    (hframes : rm.frames + 1 ≤ R.frames) (hlocals : W9 + (maxL + 11) + rm.locals ≤ R.locals)
    (hws : ∀ w ∈ ws, ∀ a' U, s.WarmedH U.vm → w.before a' U = true) (hcode : Cond.code y bytes maxL ret ∈ ws) (hinit : ∀ a' U, s.WarmedH U.vm → (Cond.initialized y.cls).before a' U = true) :
    vx_Back l R p e below s sargs y len W9 (PreOf R mc ms Pc) (PostOf Qc mc ms free) (vx_Post XC mc ms free) := by
  intro m meth c A g ig mk a X hg hsize hdg hW hn hp
  have h1 : (headSpec ws rm).pre.before a A.U = true := atoms_intro fun w hw => hws w hw _ _ X.warmed
  have h2 : (Cond.code y bytes maxL ret).before a A.U = true := hws _ hcode _ _ X.warmed
  have h3 : (Cond.initialized y.cls).before a A.U = true := hinit _ _ X.warmed
  have h4 : A.cells + (headSpec ws rm).room.cells ≤ R.cells := by rw [show (headSpec ws rm).room.cells = mc from hrc]; exact hp.1
  have h5 : A.slots + (headSpec ws rm).room.slots ≤ R.slots := by rw [show (headSpec ws rm).room.slots = ms from hrs]; exact hp.2.1
  have hPc : Pc a (A.U.calling g mk a) := hblind _ _ _ _ hp.2.2
  obtain ⟨U, Ls, c0, s0⟩ := A
  dsimp only [Pt.U, Pt.locs, Pt.cells, Pt.slots] at h1 h2 h3 h4 h5 X hn hPc ⊢
  obtain ⟨methY, cY, hmY, hcY, -, hlY, -, -, -, -⟩ := Cond.code_spec hn h2
  obtain ⟨kY, hkY, -⟩ := className_of_methodNamed hn
  have hinitY : kY.init = .initialized := Cond.initialized_spec (findClass_of_methodNamed hn) hkY h3
  have h : At U g.method c below := by rw [hg]; exact X.here
  have hlocals9 : W9 + (maxL + 11) + (headSpec ws rm).room.locals ≤ R.locals := hlocals
  have happ : (headSpec ws rm).appliesLoose y e.platform (U.calling g mk a) = true :=
    Spec.appliesLoose_calling (g := g) h hdg hn hkY hinitY
      (X.room_calling (g := g) (R' := (headSpec ws rm).room) hsize hmY hcY hframes (by rw [hlY]; omega) h4 h5) h1
  obtain ⟨mid, hmid⟩ := h.above
  have hfr : (U.setTop g).frames = (.java g :: mid) ++ below := by rw [State.frames_setTop' g h.top, hmid]; rfl
  obtain ⟨o, s₂, hsteps, -, hend, hq⟩ := Steps.callFree hM p X.admits X.cas X.clock (acts := []) hfr happ hPc trivial
  have hq' : vx_Q Qc XC mc ms free a (U.calling g mk a) o s₂ := hq
  rw [State.frames_setTop' g h.top] at hend
  obtain ⟨g₀, hg0⟩ := Option.isSome_iff_exists.mp h.top
  obtain ⟨r, hr⟩ := State.topJava?_eq_some.mp hg0
  have hr' : (({ U with heap := s₂.heap, slotsUsed := s₂.slotsUsed } : State).setVm s₂.vm).frames = .java g₀ :: r := hr
  rcases hq' with ⟨hqc, L, hfe, hL⟩ | ⟨q, rfl, E, ce, L, hx, hce, hcv, hcl, hW₂, hsm, hL⟩
  · obtain ⟨⟨v, rfl⟩, hW₂, e2, q2, q3, q4, q5, q6⟩ := id hfe
    have e3 : s₂ = ({ (U.calling g mk a).setFrames s₂.frames with heap := s₂.heap, slotsUsed := s₂.slotsUsed } : State).setVm s₂.vm := by
      have : s₂ = ({ s₂ with vm := (U.calling g mk a).vm } : State).setVm s₂.vm := rfl
      rw [e2] at this
      exact this
    obtain ⟨c₂, i₂, len₂, hc₂, hd₂, hf₂⟩ := hend
    have hW' : U.WarmedH s₂.vm := hW₂
    have hcc : c₂ = c := by
      have h1 : s₂.code? g.method = U.code? g.method := by
        rw [State.code?_eq, State.code?_eq, hW'.alike.method?]
      exact Option.some.inj (hc₂.symm.trans (h1.trans h.code))
    subst hcc
    have hlen : len₂ = len := by rw [hdg] at hd₂; cases hd₂; rfl
    subst hlen
    have hs₂ : s₂ = (({ U with heap := s₂.heap, slotsUsed := s₂.slotsUsed } : State).setVm s₂.vm).setTop { g with pc := g.pc + len₂, stack := v.toList ++ g.stack } := by
      refine e3.trans ?_
      rw [hf₂, State.calling_eq h.top, State.setFrames_setFrames, State.setTop_of_frames _ hr', hr]
      rfl
    have hsame : U.sameButNew ({ U with heap := s₂.heap, slotsUsed := s₂.slotsUsed } : State) L mc ms := by
      refine ⟨?_, q2, q3, q4, q5, q6⟩
      obtain ⟨t, ht, -⟩ := State.frames_cons hr
      show ({ U with heap := s₂.heap, slotsUsed := s₂.slotsUsed } : State) = { U.setFrames U.frames with heap := s₂.heap, slotsUsed := s₂.slotsUsed }
      rw [State.setFrames_self ht]
    subst hg
    refine Or.inl ⟨v, ⟨(({ U with heap := s₂.heap, slotsUsed := s₂.slotsUsed } : State).setVm s₂.vm), Ls ++ L, c0 + mc, s0 + ms⟩,
      ⟨X.admits, X.cas, X.clock, X.frames, X.room, X.hears, X.method, X.code, (X.here.setHeapUsed s₂.heap s₂.slotsUsed).setVm hW'.alike, X.tail, State.WarmedH.trans X.warmed hW', X.limits, X.bytes, X.same.trans (hsame.setVm s.vm)⟩,
      ⟨g, mk, s₂, L, rfl, rfl, hqc, rfl, hL, rfl, rfl⟩, ?_⟩
    show Steps p.tables e below _ ((({ U with heap := s₂.heap, slotsUsed := s₂.slotsUsed } : State).setVm s₂.vm).setTop { g with pc := g.pc + len₂, stack := v.toList ++ g.stack })
    rw [← hs₂]
    exact hsteps
  · obtain ⟨e2, q2, q3, q4, q5, q6⟩ := id hsm
    have e3 : s₂ = ({ (U.calling g mk a).setFrames s₂.frames with heap := s₂.heap, slotsUsed := s₂.slotsUsed } : State).setVm s₂.vm := by
      have : s₂ = ({ s₂ with vm := (U.calling g mk a).vm } : State).setVm s₂.vm := rfl
      rw [e2] at this
      exact this
    have hf₂ : s₂.frames = .throwing q :: .java g :: U.frames.tail := hend
    have hW' : U.WarmedH s₂.vm := hW₂
    have hs₂ : s₂ = ((({ U with heap := s₂.heap, slotsUsed := s₂.slotsUsed } : State).setVm s₂.vm).setTop g).pushFrame (.throwing q) := by
      refine e3.trans ?_
      rw [hf₂, State.calling_eq h.top, State.setFrames_setFrames, State.pushFrame, State.frames_setTop _ hr', State.setTop_of_frames _ hr', State.setFrames_setFrames, hr]
      rfl
    have hsame : U.sameButNew ({ U with heap := s₂.heap, slotsUsed := s₂.slotsUsed } : State) L mc ms := by
      refine ⟨?_, q2, q3, q4, q5, q6⟩
      obtain ⟨t, ht, -⟩ := State.frames_cons hr
      show ({ U with heap := s₂.heap, slotsUsed := s₂.slotsUsed } : State) = { U.setFrames U.frames with heap := s₂.heap, slotsUsed := s₂.slotsUsed }
      rw [State.setFrames_self ht]
    subst hg
    refine Or.inr ⟨q, ⟨(({ U with heap := s₂.heap, slotsUsed := s₂.slotsUsed } : State).setVm s₂.vm), Ls ++ L, c0 + mc, s0 + ms⟩,
      ⟨X.admits, X.cas, X.clock, X.frames, X.room, X.hears, X.method, X.code, (X.here.setHeapUsed s₂.heap s₂.slotsUsed).setVm hW'.alike, X.tail, State.WarmedH.trans X.warmed hW', X.limits, X.bytes, X.same.trans (hsame.setVm s.vm)⟩,
      ⟨g, mk, s₂, L, E, ce, rfl, rfl, hx, hce, hcv, hcl, rfl, hL, rfl, rfl⟩, ?_⟩
    show Steps p.tables e below _ (((({ U with heap := s₂.heap, slotsUsed := s₂.slotsUsed } : State).setVm s₂.vm).setTop g).pushFrame (.throwing q))
    rw [← hs₂]
    exact hsteps
end Payer
section Calls
variable {p : Program} {l : Launch} {e : Env} {R : Room} {s : State} {m : MethodId} {args : Array Value} {below : List Frame} {meth : Method} {c : Code} {T : State} {locs : List Loc} {cells slots : Nat}
theorem vx_callV (X : Stand p l e R s m args below meth c T locs cells slots) (hexec : p.tables.exec = Jvm.exec) {own C : String} {index : Nat} {y : MethodName} {bytes : ByteArray} {maxL : Nat} {ret : Option FieldType}
    (hown : s.vm.findClass own = some m.cls) (hlink : (Cond.methodLink own index y).before args s = true) (hinst : (Cond.instanceMethod y).before args s = true) (hsel : (Cond.selects C y y).before args s = true)
    (hcode : (Cond.code y bytes maxL ret).before args s = true) (hy : y.cls ≠ "java/lang/invoke/MethodHandle" ∧ y.cls ≠ "java/lang/invoke/VarHandle")
    {W9 : Nat} {Pre : Pt → Array Value → Prop} {Post : Pt → Array Value → Option Value → Pt → Prop} {PostX : Pt → Array Value → Addr → Pt → Prop} (hK : vx_Back l R p e below s args y 3 W9 Pre Post PostX)
    {b : Addr} {cellB : Cell} (hcell : T.heap[b]? = some cellB) (hobj : cellB.vm.isStatics = false) (hcls : s.vm.findClass C = some cellB.cls)
    {g : JFrame} (hg : g.method = m) (hsize : g.locals.size = c.maxLocals) {argsL rest : List Value} (hlen : ∀ sig, parseMethodDescriptor y.desc = some sig → argsL.length = sig.parameters.length)
    (hstack : g.stack = argsL.reverse ++ .ref b :: rest) (hW : 2 * g.monitorRoom + (rest.map fun v => v.category).sum ≤ W9) (hdg : decode c.code g.pc = .ok (.invokevirtual index, 3))
    (hpre : ∀ vm₁, s.WarmedH vm₁ → Pre ⟨T.setVm vm₁, locs, cells, slots⟩ (Value.ref b :: argsL).toArray) :
    (∃ (v : Option Value) (vm₁ : Vm) (B : Pt), s.WarmedH vm₁ ∧ Stand p l e R s m args below meth c B.U B.locs B.cells B.slots ∧ Post ⟨T.setVm vm₁, locs, cells, slots⟩ (Value.ref b :: argsL).toArray v B ∧
      ∀ target, Steps p.tables e below (B.U.setTop { g with pc := g.pc + 3, stack := v.toList ++ rest }) target → Steps p.tables e below (T.setTop g) target) ∨
    (∃ (q : Addr) (vm₁ : Vm) (B : Pt), s.WarmedH vm₁ ∧ Stand p l e R s m args below meth c B.U B.locs B.cells B.slots ∧ PostX ⟨T.setVm vm₁, locs, cells, slots⟩ (Value.ref b :: argsL).toArray q B ∧
      Steps p.tables e below (T.setTop g) ((B.U.setTop { g with stack := rest }).pushFrame (.throwing q))) := by
  obtain ⟨mk, methM, hnamed, hmethM, hstM, habM⟩ := Cond.instanceMethod_spec hinst
  obtain ⟨methM', cM, hmethM', -, -, -, -, -, -, hsigM⟩ := Cond.code_spec hnamed hcode
  cases hmethM.symm.trans hmethM'
  obtain ⟨c2, r2, m2, q1, q2, q3, q4, kP, hkP, hkPi⟩ := Cond.selects_spec hsel
  cases hcls.symm.trans q1
  cases (State.methodFound?_of_named hnamed hy).symm.trans q2
  cases hnamed.symm.trans q3
  have hselP : selectMethod e.platform s.vm cellB.cls mk = .method mk := by rw [Launch.admits_selectMethod X.admits]; exact q4
  obtain ⟨vm₁, X₁, hstep₁⟩ := X.invokevirtual hexec hown hlink hnamed hmethM hstM hkP hkPi hy (a := b) (cell := cellB) hcell
    (fun z h => by rw [h] at hobj; cases hobj) hselP hmethM habM hkP hkPi (g := g) hg (argsL := argsL) (rest := rest) (hlen _ hsigM) hstack hdg
  rcases hK m meth c ⟨T.setVm vm₁, locs, cells, slots⟩ { g with stack := rest } (.invokevirtual index) mk (Value.ref b :: argsL).toArray X₁ hg hsize hdg hW (X₁.named hnamed) (hpre vm₁ X₁.warmed) with ⟨v, B, X', hpost, hsteps⟩ | ⟨q, B, X', hpost, hsteps⟩
  · exact Or.inl ⟨v, vm₁, B, X₁.warmed, X', hpost, fun target h => hstep₁ _ fun acts => by rw [doInvoke_state]; exact hsteps.trans h⟩
  · exact Or.inr ⟨q, vm₁, B, X₁.warmed, X', hpost, hstep₁ _ fun acts => by rw [doInvoke_state]; exact hsteps⟩
theorem vx_callS (X : Stand p l e R s m args below meth c T locs cells slots) (hexec : p.tables.exec = Jvm.exec) {own : String} {index : Nat} {y : MethodName} {bytes : ByteArray} {maxL : Nat} {ret : Option FieldType}
    (hown : s.vm.findClass own = some m.cls) (hlink : (Cond.methodLink own index y).before args s = true) (hstat : (Cond.static y).before args s = true) (hinit : (Cond.initialized y.cls).before args s = true)
    (hcode : (Cond.code y bytes maxL ret).before args s = true) (hy : y.cls ≠ "java/lang/invoke/MethodHandle" ∧ y.cls ≠ "java/lang/invoke/VarHandle")
    {W9 : Nat} {Pre : Pt → Array Value → Prop} {Post : Pt → Array Value → Option Value → Pt → Prop} {PostX : Pt → Array Value → Addr → Pt → Prop} (hK : vx_Back l R p e below s args y 3 W9 Pre Post PostX)
    {g : JFrame} (hg : g.method = m) (hsize : g.locals.size = c.maxLocals) {argsL rest : List Value} (hlen : ∀ sig, parseMethodDescriptor y.desc = some sig → argsL.length = sig.parameters.length)
    (hstack : g.stack = argsL.reverse ++ rest) (hW : 2 * g.monitorRoom + (rest.map fun v => v.category).sum ≤ W9) (hdg : decode c.code g.pc = .ok (.invokestatic index, 3))
    (hpre : ∀ vm₁, s.WarmedH vm₁ → Pre ⟨T.setVm vm₁, locs, cells, slots⟩ argsL.toArray) :
    (∃ (v : Option Value) (vm₁ : Vm) (B : Pt), s.WarmedH vm₁ ∧ Stand p l e R s m args below meth c B.U B.locs B.cells B.slots ∧ Post ⟨T.setVm vm₁, locs, cells, slots⟩ argsL.toArray v B ∧
      ∀ target, Steps p.tables e below (B.U.setTop { g with pc := g.pc + 3, stack := v.toList ++ rest }) target → Steps p.tables e below (T.setTop g) target) ∨
    (∃ (q : Addr) (vm₁ : Vm) (B : Pt), s.WarmedH vm₁ ∧ Stand p l e R s m args below meth c B.U B.locs B.cells B.slots ∧ PostX ⟨T.setVm vm₁, locs, cells, slots⟩ argsL.toArray q B ∧
      Steps p.tables e below (T.setTop g) ((B.U.setTop { g with stack := rest }).pushFrame (.throwing q))) := by
  obtain ⟨mk, hnamed⟩ := Cond.code_named hcode
  obtain ⟨methM, cM, hmethM, -, -, -, -, -, -, hsigM⟩ := Cond.code_spec hnamed hcode
  have hstatic : methM.isStatic = true := Cond.static_spec hnamed hmethM hstat
  obtain ⟨kP, hkP, -⟩ := className_of_methodNamed hnamed
  have hinitP : kP.init = .initialized := Cond.initialized_spec (findClass_of_methodNamed hnamed) hkP hinit
  obtain ⟨vm₁, X₁, hstep₁⟩ := X.invokestatic hexec hown hlink hnamed hmethM hstatic hkP hinitP hy (g := g) hg (argsL := argsL) (rest := rest) (hlen _ hsigM) hstack hdg
  rcases hK m meth c ⟨T.setVm vm₁, locs, cells, slots⟩ { g with stack := rest } (.invokestatic index) mk argsL.toArray X₁ hg hsize hdg hW (X₁.named hnamed) (hpre vm₁ X₁.warmed) with ⟨v, B, X', hpost, hsteps⟩ | ⟨q, B, X', hpost, hsteps⟩
  · exact Or.inl ⟨v, vm₁, B, X₁.warmed, X', hpost, fun target h => hstep₁ _ fun acts => by rw [doInvoke_state]; exact hsteps.trans h⟩
  · exact Or.inr ⟨q, vm₁, B, X₁.warmed, X', hpost, hstep₁ _ fun acts => by rw [doInvoke_state]; exact hsteps⟩
end Calls
theorem vx_cls {s : State} {T : State} {vm₁ : Vm} {E : String} {k : ClassId} (hW : s.WarmedH vm₁) (h : (T.setVm vm₁).vm.findClass E = some k) : s.vm.findClass E = some k := by
  have h1 : vm₁.findClass E = some k := h
  rw [hW.alike.findClass] at h1
  exact h1
/-- the method's frame g, with q thrown over it -/
def vx_W (p : Program) (l : Launch) (e : Env) (R : Room) (s : State) (m : MethodId) (args : Array Value) (below : List Frame) (meth : Method) (c : Code) (H : Heap) (locs : List Loc) (cells slots : Nat) (Q : State → Prop) (g : JFrame) (q : Addr) : Prop :=
  ∀ T : State, T.heap = H → Stand p l e R s m args below meth c T locs cells slots → ∃ t, Steps p.tables e below ((T.setTop g).pushFrame (.throwing q)) t ∧ Q t
def vx_Run (p : Program) (l : Launch) (e : Env) (R : Room) (s : State) (m : MethodId) (args : Array Value) (below : List Frame) (meth : Method) (c : Code) (H : Heap) (locs : List Loc) (cells slots mc ms : Nat) (g : JFrame) (rest : List Value) (Qa : State → Outcome → State → Prop) (XC : String → State → State → Prop) (free : Addr → Prop) : Prop :=
  ∀ T : State, T.heap = H → Stand p l e R s m args below meth c T locs cells slots →
    (∃ (v : Option Value) (st₀ t T' : State) (L : List Loc), st₀.heap = H ∧ Stand p l e R s m args below meth c T' (locs ++ L) (cells + mc) (slots + ms) ∧ (∀ q ∈ L, free q.base) ∧ T'.heap = t.heap ∧ T'.vm = t.vm ∧ Qa st₀ (.returned v) t ∧
      Goes p e below T g T' { g with pc := g.pc + 3, stack := v.toList ++ rest }) ∨
    (∃ (q : Addr) (st₀ t T' : State) (L : List Loc) (E : String) (ce : Cell), st₀.heap = H ∧ Stand p l e R s m args below meth c T' (locs ++ L) (cells + mc) (slots + ms) ∧ (∀ z ∈ L, free z.base) ∧ T'.heap = t.heap ∧ T'.vm = t.vm ∧ XC E st₀ t ∧ t.heap[q]? = some ce ∧ ce.vm = .none ∧ s.vm.findClass E = some ce.cls ∧
      Steps p.tables e below (T.setTop g) ((T'.setTop { g with stack := rest }).pushFrame (.throwing q)))
def vx_X {S : Type} (px : S → Prop) (B : String → S → State → Prop) (A : Nat → Prop) : String → State → State → Prop := fun E st t => ∃ u : S, px u ∧ B E u t ∧ va_F A st t
section Runs
variable {p : Program} {l : Launch} {e : Env} {R : Room} {s : State} {m : MethodId} {args : Array Value} {below : List Frame} {meth : Method} {c : Code} {H : Heap} {locs : List Loc} {cells slots : Nat}
variable {y : MethodName} {bytes cc : ByteArray} {maxL nL mc ms n index : Nat} {ret : Option FieldType} {ws : List Cond} {rm : Room} {Pc : Array Value → State → Prop} {Qc : Array Value → State → Outcome → State → Prop} {XC : String → State → State → Prop} {free : Addr → Prop} {Ts : List Cond} {own C : String} {b : Addr} {As rest : List Value} {g : JFrame}
theorem vx_callBack (cb : CallB R s args own index y bytes maxL ret ws rm mc ms n) (hM : vx_Met l y ws rm Pc Qc XC mc ms free) (hbl : FrameBlind Pc) : vx_Back l R p e below s args y 3 8 (PreOf R mc ms Pc) (PostOf Qc mc ms free) (vx_Post XC mc ms free) := by
  obtain ⟨hrc, hrs, hfr, hlo, hws, hcw, -, hini, -⟩ := cb
  exact vx_back (bytes := bytes) (maxL := maxL) (ret := ret) hM hbl hrc hrs hfr hlo hws hcw (fun a' U hW => word_at hW (Or.inl (by first | rfl | simp [Cond.onTables, Cond.keeps, Cond.steady])) hini)
theorem vx_runV (S : CallFix p m c cc nL s args Ts own) (hM : vx_Met l y ws rm Pc Qc XC mc ms free) (cw : CallW R s args own C index y bytes maxL ret ws rm mc ms n) (hp : PreV s H C b Pc As)
    (hg : g.method = m) (hn : As.length = n) (hsize : g.locals.size = nL) (hstack : g.stack = As.reverse ++ .ref b :: rest) (hW : 2 * g.monitorRoom + (rest.map fun v => v.category).sum ≤ 8) (hdg : decode cc g.pc = .ok (.invokevirtual index, 3)) (hf : cells + mc ≤ R.cells ∧ slots + ms ≤ R.slots) :
    vx_Run p l e R s m args below meth c H locs cells slots mc ms g rest (Qc (Value.ref b :: As).toArray) XC free := by
  have hK : vx_Back l R p e below s args y 3 8 (PreOf R mc ms Pc) (PostOf Qc mc ms free) (vx_Post XC mc ms free) := vx_callBack cw.1 hM hp.1
  obtain ⟨⟨-, -, -, -, -, -, hcode, -, hy, hlen, hl⟩, hin, hse⟩ := cw
  obtain ⟨hx, hb, hml, ho, -⟩ := S
  obtain ⟨-, ⟨cellB, hcB, hoB, hclB⟩, hPc⟩ := hp
  intro T hT X
  rcases vx_callV X hx (C := C) (bytes := bytes) (maxL := maxL) (ret := ret) ho hl hin hse hcode hy hK (by rw [hT]; exact hcB) hoB hclB hg (hsize.trans hml.symm) (argsL := As) (rest := rest) (fun sig h => hn.trans (hlen sig h)) hstack hW (by rw [hb]; exact hdg)
    (fun vm₁ hW₁ => ⟨hf.1, hf.2, hPc (T.setVm vm₁) hT hW₁⟩) with ⟨v, vm₁, ⟨U', l2, c2, s2⟩, hW₁, X', ⟨g', mk, t, L, e1, e2, hq, h1, hL, h2, h3⟩, st⟩ | ⟨q, vm₁, ⟨U', l2, c2, s2⟩, hW₁, X', ⟨g', mk, t, L, E, ce, e1, e2, hq, hce, hcv, hcl, h1, hL, h2, h3⟩, st⟩
  · dsimp only [Pt.U, Pt.locs, Pt.cells, Pt.slots] at X' e1 e2 h1 h2 h3 st
    subst h1; subst h2; subst h3
    exact Or.inl ⟨v, (T.setVm vm₁).calling g' mk (Value.ref b :: As).toArray, t, U', L, hT, X', hL, e1, e2, hq, st⟩
  · dsimp only [Pt.U, Pt.locs, Pt.cells, Pt.slots] at X' e1 e2 h1 h2 h3 st hcl
    subst h1; subst h2; subst h3
    exact Or.inr ⟨q, (T.setVm vm₁).calling g' mk (Value.ref b :: As).toArray, t, U', L, E, ce, hT, X', hL, e1, e2, hq, hce, hcv, vx_cls hW₁ hcl, st⟩
theorem vx_runS (S : CallFix p m c cc nL s args Ts own) (hM : vx_Met l y ws rm Pc Qc XC mc ms free) (cw : CallB R s args own index y bytes maxL ret ws rm mc ms n ∧ (Cond.static y).before args s = true) (hp : PreS s H Pc As)
    (hg : g.method = m) (hn : As.length = n) (hsize : g.locals.size = nL) (hstack : g.stack = As.reverse ++ rest) (hW : 2 * g.monitorRoom + (rest.map fun v => v.category).sum ≤ 8) (hdg : decode cc g.pc = .ok (.invokestatic index, 3)) (hf : cells + mc ≤ R.cells ∧ slots + ms ≤ R.slots) :
    vx_Run p l e R s m args below meth c H locs cells slots mc ms g rest (Qc As.toArray) XC free := by
  have hK : vx_Back l R p e below s args y 3 8 (PreOf R mc ms Pc) (PostOf Qc mc ms free) (vx_Post XC mc ms free) := vx_callBack cw.1 hM hp.1
  obtain ⟨⟨-, -, -, -, -, -, hcode, hini, hy, hlen, hl⟩, hstt⟩ := cw
  obtain ⟨hx, hb, hml, ho, -⟩ := S
  intro T hT X
  rcases vx_callS X hx (bytes := bytes) (maxL := maxL) (ret := ret) ho hl hstt hini hcode hy hK hg (hsize.trans hml.symm) (argsL := As) (rest := rest) (fun sig h => hn.trans (hlen sig h)) hstack hW (by rw [hb]; exact hdg)
    (fun vm₁ hW₁ => ⟨hf.1, hf.2, hp.2 (T.setVm vm₁) hT hW₁⟩) with ⟨v, vm₁, ⟨U', l2, c2, s2⟩, hW₁, X', ⟨g', mk, t, L, e1, e2, hq, h1, hL, h2, h3⟩, st⟩ | ⟨q, vm₁, ⟨U', l2, c2, s2⟩, hW₁, X', ⟨g', mk, t, L, E, ce, e1, e2, hq, hce, hcv, hcl, h1, hL, h2, h3⟩, st⟩
  · dsimp only [Pt.U, Pt.locs, Pt.cells, Pt.slots] at X' e1 e2 h1 h2 h3 st
    subst h1; subst h2; subst h3
    exact Or.inl ⟨v, (T.setVm vm₁).calling g' mk As.toArray, t, U', L, hT, X', hL, e1, e2, hq, st⟩
  · dsimp only [Pt.U, Pt.locs, Pt.cells, Pt.slots] at X' e1 e2 h1 h2 h3 st hcl
    subst h1; subst h2; subst h3
    exact Or.inr ⟨q, (T.setVm vm₁).calling g' mk As.toArray, t, U', L, E, ce, hT, X', hL, e1, e2, hq, hce, hcv, vx_cls hW₁ hcl, st⟩
end Runs
section Rows
variable {p : Program} {l : Launch} {e : Env} {R : Room} {s : State} {m : MethodId} {args : Array Value} {below : List Frame} {meth : Method} {c : Code} {H : Heap} {locs : List Loc} {cells slots : Nat} {Q : State → Prop}
variable {mc ms : Nat} {free : Addr → Prop} {A0 A1 : Nat → Prop} {H0 : Heap} {a : Array Value} {pc : Nat} {ls : Array Slot} {st0 rest : List Value}
theorem vx_keep {st₀ t T' : State} {L : List Loc} (h0 : st₀.heap = H) (e1 : T'.heap = t.heap) (hS : va_S A0 H0 H locs) (hA : ∀ q, q < H.size → A1 q → A0 q) (hf : ∀ q, free q → A0 q) (hL : ∀ q ∈ L, free q.base) (hF : va_F A1 st₀ t) :
    H.size ≤ T'.heap.size ∧ (∀ q : Nat, q < H.size → ¬ A1 q → T'.heap[q]? = H[q]?) ∧ va_S A0 H0 T'.heap (locs ++ L) := by
  obtain ⟨hz, hk⟩ := hF
  rw [h0] at hz hk
  exact ⟨by rw [e1]; exact hz, fun q h1 h2 => by rw [e1]; exact hk q h1 h2,
    ⟨Nat.le_trans hS.1 (by rw [e1]; exact hz), fun q h1 h2 => by rw [e1, hk q (Nat.lt_of_lt_of_le h1 hS.1) (fun z => h2 (hA q (Nat.lt_of_lt_of_le h1 hS.1) z))]; exact hS.2.1 q h1 h2, fun q hq => by
      rcases List.mem_append.mp hq with h | h
      · exact hS.2.2 q h
      · exact hf _ (hL q h)⟩⟩
theorem vx_calli {S SX : Type} {post : Int32 → S → Prop} {px : SX → Prop} {B : S → State → Prop} {BX : String → SX → State → Prop} {AX : Nat → Prop} (hr : vx_Run p l e R s m args below meth c H locs cells slots mc ms (F0 m pc ls st0) rest (va_Qi post B A1 a) (vx_X px BX AX) free) (hS : va_S A0 H0 H locs) (hA : ∀ q, q < H.size → A1 q → A0 q) (hf : ∀ q, free q → A0 q) (hAX : ∀ q, q < H.size → AX q → A0 q)
    (kx : ∀ (E : String) (ce : Cell) (q9 : Addr) (u : SX) (t : State) (H1 : Heap) (locs1 : List Loc), t.heap = H1 → s.vm.Alike t.vm → px u → BX E u t → H.size ≤ H1.size → (∀ q : Nat, q < H.size → ¬ AX q → H1[q]? = H[q]?) → va_S A0 H0 H1 locs1 → H1[q9]? = some ce → ce.vm = .none → s.vm.findClass E = some ce.cls → vx_W p l e R s m args below meth c H1 locs1 (cells + mc) (slots + ms) Q (F0 m pc ls rest) q9)
    (kk : ∀ (r : Int32) (u : S) (t : State) (H1 : Heap) (locs1 : List Loc), t.heap = H1 → s.vm.Alike t.vm → post r u → B u t → H.size ≤ H1.size → (∀ q : Nat, q < H.size → ¬ A1 q → H1[q]? = H[q]?) → va_S A0 H0 H1 locs1 → W p l e R s m args below meth c H1 locs1 (cells + mc) (slots + ms) Q (F0 m (pc + 3) ls (.int r :: rest))) : W p l e R s m args below meth c H locs cells slots Q (F0 m pc ls st0) := by
  intro T hT X
  rcases hr T hT X with ⟨v, st₀, t, T', L, h0, X', hL, e1, e2, ⟨⟨r, u, hv, hp, hb⟩, hF⟩, st⟩ | ⟨q, st₀, t, T', L, E, ce, h0, X', hL, e1, e2, ⟨u, hp, hb, hF⟩, hce, hcv, hcl, st⟩
  · cases hv
    obtain ⟨k1, k2, k3⟩ := vx_keep h0 e1 hS hA hf hL hF
    obtain ⟨t2, a1, b1⟩ := kk r u t T'.heap (locs ++ L) e1.symm (by rw [← e2]; exact X'.warmed.alike) hp hb k1 k2 k3 T' rfl X'
    exact ⟨t2, st t2 a1, b1⟩
  · obtain ⟨k1, k2, k3⟩ := vx_keep h0 e1 hS hAX hf hL hF
    obtain ⟨t2, a1, b1⟩ := kx E ce q u t T'.heap (locs ++ L) e1.symm (by rw [← e2]; exact X'.warmed.alike) hp hb k1 k2 k3 (by rw [e1]; exact hce) hcv hcl T' rfl X'
    exact ⟨t2, st.trans a1, b1⟩
theorem vx_calll {S SX : Type} {post : Int64 → S → Prop} {px : SX → Prop} {B : S → State → Prop} {BX : String → SX → State → Prop} {AX : Nat → Prop} (hr : vx_Run p l e R s m args below meth c H locs cells slots mc ms (F0 m pc ls st0) rest (va_Ql post B A1 a) (vx_X px BX AX) free) (hS : va_S A0 H0 H locs) (hA : ∀ q, q < H.size → A1 q → A0 q) (hf : ∀ q, free q → A0 q) (hAX : ∀ q, q < H.size → AX q → A0 q)
    (kx : ∀ (E : String) (ce : Cell) (q9 : Addr) (u : SX) (t : State) (H1 : Heap) (locs1 : List Loc), t.heap = H1 → s.vm.Alike t.vm → px u → BX E u t → H.size ≤ H1.size → (∀ q : Nat, q < H.size → ¬ AX q → H1[q]? = H[q]?) → va_S A0 H0 H1 locs1 → H1[q9]? = some ce → ce.vm = .none → s.vm.findClass E = some ce.cls → vx_W p l e R s m args below meth c H1 locs1 (cells + mc) (slots + ms) Q (F0 m pc ls rest) q9)
    (kk : ∀ (r : Int64) (u : S) (t : State) (H1 : Heap) (locs1 : List Loc), t.heap = H1 → s.vm.Alike t.vm → post r u → B u t → H.size ≤ H1.size → (∀ q : Nat, q < H.size → ¬ A1 q → H1[q]? = H[q]?) → va_S A0 H0 H1 locs1 → W p l e R s m args below meth c H1 locs1 (cells + mc) (slots + ms) Q (F0 m (pc + 3) ls (.long r :: rest))) : W p l e R s m args below meth c H locs cells slots Q (F0 m pc ls st0) := by
  intro T hT X
  rcases hr T hT X with ⟨v, st₀, t, T', L, h0, X', hL, e1, e2, ⟨⟨r, u, hv, hp, hb⟩, hF⟩, st⟩ | ⟨q, st₀, t, T', L, E, ce, h0, X', hL, e1, e2, ⟨u, hp, hb, hF⟩, hce, hcv, hcl, st⟩
  · cases hv
    obtain ⟨k1, k2, k3⟩ := vx_keep h0 e1 hS hA hf hL hF
    obtain ⟨t2, a1, b1⟩ := kk r u t T'.heap (locs ++ L) e1.symm (by rw [← e2]; exact X'.warmed.alike) hp hb k1 k2 k3 T' rfl X'
    exact ⟨t2, st t2 a1, b1⟩
  · obtain ⟨k1, k2, k3⟩ := vx_keep h0 e1 hS hAX hf hL hF
    obtain ⟨t2, a1, b1⟩ := kx E ce q u t T'.heap (locs ++ L) e1.symm (by rw [← e2]; exact X'.warmed.alike) hp hb k1 k2 k3 (by rw [e1]; exact hce) hcv hcl T' rfl X'
    exact ⟨t2, st.trans a1, b1⟩
theorem vx_callf {S SX : Type} {post : UInt32 → S → Prop} {px : SX → Prop} {B : S → State → Prop} {BX : String → SX → State → Prop} {AX : Nat → Prop} (hr : vx_Run p l e R s m args below meth c H locs cells slots mc ms (F0 m pc ls st0) rest (va_Qf post B A1 a) (vx_X px BX AX) free) (hS : va_S A0 H0 H locs) (hA : ∀ q, q < H.size → A1 q → A0 q) (hf : ∀ q, free q → A0 q) (hAX : ∀ q, q < H.size → AX q → A0 q)
    (kx : ∀ (E : String) (ce : Cell) (q9 : Addr) (u : SX) (t : State) (H1 : Heap) (locs1 : List Loc), t.heap = H1 → s.vm.Alike t.vm → px u → BX E u t → H.size ≤ H1.size → (∀ q : Nat, q < H.size → ¬ AX q → H1[q]? = H[q]?) → va_S A0 H0 H1 locs1 → H1[q9]? = some ce → ce.vm = .none → s.vm.findClass E = some ce.cls → vx_W p l e R s m args below meth c H1 locs1 (cells + mc) (slots + ms) Q (F0 m pc ls rest) q9)
    (kk : ∀ (r : UInt32) (u : S) (t : State) (H1 : Heap) (locs1 : List Loc), t.heap = H1 → s.vm.Alike t.vm → post r u → B u t → H.size ≤ H1.size → (∀ q : Nat, q < H.size → ¬ A1 q → H1[q]? = H[q]?) → va_S A0 H0 H1 locs1 → W p l e R s m args below meth c H1 locs1 (cells + mc) (slots + ms) Q (F0 m (pc + 3) ls (.float r :: rest))) : W p l e R s m args below meth c H locs cells slots Q (F0 m pc ls st0) := by
  intro T hT X
  rcases hr T hT X with ⟨v, st₀, t, T', L, h0, X', hL, e1, e2, ⟨⟨r, u, hv, hp, hb⟩, hF⟩, st⟩ | ⟨q, st₀, t, T', L, E, ce, h0, X', hL, e1, e2, ⟨u, hp, hb, hF⟩, hce, hcv, hcl, st⟩
  · cases hv
    obtain ⟨k1, k2, k3⟩ := vx_keep h0 e1 hS hA hf hL hF
    obtain ⟨t2, a1, b1⟩ := kk r u t T'.heap (locs ++ L) e1.symm (by rw [← e2]; exact X'.warmed.alike) hp hb k1 k2 k3 T' rfl X'
    exact ⟨t2, st t2 a1, b1⟩
  · obtain ⟨k1, k2, k3⟩ := vx_keep h0 e1 hS hAX hf hL hF
    obtain ⟨t2, a1, b1⟩ := kx E ce q u t T'.heap (locs ++ L) e1.symm (by rw [← e2]; exact X'.warmed.alike) hp hb k1 k2 k3 (by rw [e1]; exact hce) hcv hcl T' rfl X'
    exact ⟨t2, st.trans a1, b1⟩
theorem vx_calld {S SX : Type} {post : UInt64 → S → Prop} {px : SX → Prop} {B : S → State → Prop} {BX : String → SX → State → Prop} {AX : Nat → Prop} (hr : vx_Run p l e R s m args below meth c H locs cells slots mc ms (F0 m pc ls st0) rest (va_Qd post B A1 a) (vx_X px BX AX) free) (hS : va_S A0 H0 H locs) (hA : ∀ q, q < H.size → A1 q → A0 q) (hf : ∀ q, free q → A0 q) (hAX : ∀ q, q < H.size → AX q → A0 q)
    (kx : ∀ (E : String) (ce : Cell) (q9 : Addr) (u : SX) (t : State) (H1 : Heap) (locs1 : List Loc), t.heap = H1 → s.vm.Alike t.vm → px u → BX E u t → H.size ≤ H1.size → (∀ q : Nat, q < H.size → ¬ AX q → H1[q]? = H[q]?) → va_S A0 H0 H1 locs1 → H1[q9]? = some ce → ce.vm = .none → s.vm.findClass E = some ce.cls → vx_W p l e R s m args below meth c H1 locs1 (cells + mc) (slots + ms) Q (F0 m pc ls rest) q9)
    (kk : ∀ (r : UInt64) (u : S) (t : State) (H1 : Heap) (locs1 : List Loc), t.heap = H1 → s.vm.Alike t.vm → post r u → B u t → H.size ≤ H1.size → (∀ q : Nat, q < H.size → ¬ A1 q → H1[q]? = H[q]?) → va_S A0 H0 H1 locs1 → W p l e R s m args below meth c H1 locs1 (cells + mc) (slots + ms) Q (F0 m (pc + 3) ls (.double r :: rest))) : W p l e R s m args below meth c H locs cells slots Q (F0 m pc ls st0) := by
  intro T hT X
  rcases hr T hT X with ⟨v, st₀, t, T', L, h0, X', hL, e1, e2, ⟨⟨r, u, hv, hp, hb⟩, hF⟩, st⟩ | ⟨q, st₀, t, T', L, E, ce, h0, X', hL, e1, e2, ⟨u, hp, hb, hF⟩, hce, hcv, hcl, st⟩
  · cases hv
    obtain ⟨k1, k2, k3⟩ := vx_keep h0 e1 hS hA hf hL hF
    obtain ⟨t2, a1, b1⟩ := kk r u t T'.heap (locs ++ L) e1.symm (by rw [← e2]; exact X'.warmed.alike) hp hb k1 k2 k3 T' rfl X'
    exact ⟨t2, st t2 a1, b1⟩
  · obtain ⟨k1, k2, k3⟩ := vx_keep h0 e1 hS hAX hf hL hF
    obtain ⟨t2, a1, b1⟩ := kx E ce q u t T'.heap (locs ++ L) e1.symm (by rw [← e2]; exact X'.warmed.alike) hp hb k1 k2 k3 (by rw [e1]; exact hce) hcv hcl T' rfl X'
    exact ⟨t2, st.trans a1, b1⟩
theorem vx_callv {S SX : Type} {post : S → Prop} {px : SX → Prop} {B : S → State → Prop} {BX : String → SX → State → Prop} {AX : Nat → Prop} (hr : vx_Run p l e R s m args below meth c H locs cells slots mc ms (F0 m pc ls st0) rest (va_Qv post B A1 a) (vx_X px BX AX) free) (hS : va_S A0 H0 H locs) (hA : ∀ q, q < H.size → A1 q → A0 q) (hf : ∀ q, free q → A0 q) (hAX : ∀ q, q < H.size → AX q → A0 q)
    (kx : ∀ (E : String) (ce : Cell) (q9 : Addr) (u : SX) (t : State) (H1 : Heap) (locs1 : List Loc), t.heap = H1 → s.vm.Alike t.vm → px u → BX E u t → H.size ≤ H1.size → (∀ q : Nat, q < H.size → ¬ AX q → H1[q]? = H[q]?) → va_S A0 H0 H1 locs1 → H1[q9]? = some ce → ce.vm = .none → s.vm.findClass E = some ce.cls → vx_W p l e R s m args below meth c H1 locs1 (cells + mc) (slots + ms) Q (F0 m pc ls rest) q9)
    (kk : ∀ (u : S) (t : State) (H1 : Heap) (locs1 : List Loc), t.heap = H1 → s.vm.Alike t.vm → post u → B u t → H.size ≤ H1.size → (∀ q : Nat, q < H.size → ¬ A1 q → H1[q]? = H[q]?) → va_S A0 H0 H1 locs1 → W p l e R s m args below meth c H1 locs1 (cells + mc) (slots + ms) Q (F0 m (pc + 3) ls (rest))) : W p l e R s m args below meth c H locs cells slots Q (F0 m pc ls st0) := by
  intro T hT X
  rcases hr T hT X with ⟨v, st₀, t, T', L, h0, X', hL, e1, e2, ⟨⟨u, hv, hp, hb⟩, hF⟩, st⟩ | ⟨q, st₀, t, T', L, E, ce, h0, X', hL, e1, e2, ⟨u, hp, hb, hF⟩, hce, hcv, hcl, st⟩
  · cases hv
    obtain ⟨k1, k2, k3⟩ := vx_keep h0 e1 hS hA hf hL hF
    obtain ⟨t2, a1, b1⟩ := kk u t T'.heap (locs ++ L) e1.symm (by rw [← e2]; exact X'.warmed.alike) hp hb k1 k2 k3 T' rfl X'
    exact ⟨t2, st t2 a1, b1⟩
  · obtain ⟨k1, k2, k3⟩ := vx_keep h0 e1 hS hAX hf hL hF
    obtain ⟨t2, a1, b1⟩ := kx E ce q u t T'.heap (locs ++ L) e1.symm (by rw [← e2]; exact X'.warmed.alike) hp hb k1 k2 k3 (by rw [e1]; exact hce) hcv hcl T' rfl X'
    exact ⟨t2, st.trans a1, b1⟩
/-- caught by the row x of this method's table; the rows ahead don't take it -/
theorem vx_catch {own name : String} {E : String} {ce : Cell} {q : Addr} (hown : s.vm.findClass own = some m.cls) (pre : List ExceptionTableEntry) (x : ExceptionTableEntry) (suf : List ExceptionTableEntry) (hsplit : c.exceptionTable.toList = pre ++ x :: suf)
    (hpass : ∀ z ∈ pre, covers z pc = false ∨ (z.catchType ≠ 0 ∧ ∃ nm : String, (Cond.classLink own z.catchType nm).before args s = true ∧ va_Nc E nm s)) (hx : covers x pc = true) (h0 : x.catchType ≠ 0)
    (hlink : (Cond.classLink own x.catchType name).before args s = true) (hcast : (Cond.castable E name).before args s = true) (hcell : H[q]? = some ce) (hv : ce.vm = .none) (hcl : s.vm.findClass E = some ce.cls)
    (kk : W p l e R s m args below meth c H locs cells slots Q (F0 m x.handlerPc ls [.ref q])) : vx_W p l e R s m args below meth c H locs cells slots Q (F0 m pc ls rest) q := by
  intro T hT X
  have hpl : e.platform.magicAccessors = ({} : Platform).magicAccessors := by rw [X.admits.platform]
  obtain ⟨c3, c4, hc3, hc4, hasg⟩ := Cond.castable_spec hcast
  cases Option.some.inj (hc3.symm.trans hcl)
  obtain ⟨c5, hc5, hcl5⟩ := Cond.classLink_spec hown hlink e.platform hpl
  cases Option.some.inj (hc4.symm.trans hc5)
  obtain ⟨vm', X', st⟩ := X.thenCaughtThrough q (g := F0 m pc ls rest) rfl (Steps.refl _) (by rw [hT]; exact hcell) (by rw [hv]; rfl) (by obtain ⟨k9, h9, -⟩ := Vm.findClass_spec hcl; exact ⟨k9, h9⟩) pre x suf hsplit
    (fun z hz => by
      rcases hpass z hz with h | ⟨hz0, nm, hl1, hn1⟩
      · exact Or.inl h
      · obtain ⟨c6, hc6, hcl6⟩ := Cond.classLink_spec hown hl1 e.platform hpl
        obtain ⟨a8, b8, h1, h2, h3⟩ := hn1
        cases Option.some.inj (h1.symm.trans hcl)
        cases Option.some.inj (h2.symm.trans hc6)
        exact Or.inr ⟨hz0, _, hcl6, h3⟩) hx (Or.inr ⟨h0, c4, hcl5, hasg⟩)
  obtain ⟨t, a1, b1⟩ := kk (T.setVm vm') hT X'
  exact ⟨t, st.trans a1, b1⟩
end Rows
section Ends
variable {p : Program} {l : Launch} {e : Env} {R : Room} {s : State} {m : MethodId} {args : Array Value} {below : List Frame} {meth : Method} {c : Code} {H : Heap} {locs : List Loc} {cells slots : Nat} {Q : State → Prop}
variable {mc ms : Nat} {free : Addr → Prop} {A0 A1 : Nat → Prop} {H0 : Heap} {a : Array Value} {ls : Array Slot} {st0 rest : List Value}
variable {Qc : Array Value → State → Outcome → State → Prop} {XC : String → State → State → Prop}
/-- what a body that may throw owes at its end -/
def vx_MQ (below : List Frame) (Qc : Array Value → State → Outcome → State → Prop) (XC : String → State → State → Prop) (a : Array Value) (s : State) (mc ms : Nat) (free : Addr → Prop) : State → Prop := fun t =>
  ∃ o, t.status = .running ∧ Ended t below o ∧ vx_Q Qc XC mc ms free a s o t
theorem vx_ret {g : JFrame} {mc ms : Nat} (k : W p l e R s m args below meth c H locs cells slots (MQ below Qc args s mc ms free) g) : W p l e R s m args below meth c H locs cells slots (vx_MQ below Qc XC args s mc ms free) g := by
  intro T hT X
  obtain ⟨t, a1, o, b1, b2, b3, b4⟩ := k T hT X
  exact ⟨t, a1, o, b1, b2, Or.inl ⟨b3, b4⟩⟩
/-- not caught here: it goes on to the caller -/
theorem vx_widen {g : JFrame} {q : Addr} {k n : Nat} (h1 : cells ≤ k) (h2 : slots ≤ n) (kk : vx_W p l e R s m args below meth c H locs k n Q g q) : vx_W p l e R s m args below meth c H locs cells slots Q g q := fun T hT X => kk T hT (stand_widen X h1 h2)
theorem vx_out {pc : Nat} {E : String} {ce : Cell} {q : Addr} {mc ms : Nat} (hout : ∀ x ∈ c.exceptionTable.toList, covers x pc = false) (hlocks : meth.locks = false) (hcell : H[q]? = some ce) (hv : ce.vm = .none) (hcl : s.vm.findClass E = some ce.cls)
    (hx : ∀ t : State, t.heap = H → s.vm.Alike t.vm → XC E s t) (hf : ∀ z ∈ locs, free z.base) (hc : cells ≤ mc) (hs : slots ≤ ms) :
    vx_W p l e R s m args below meth c H locs cells slots (vx_MQ below Qc XC args s mc ms free) (F0 m pc ls rest) q := by
  intro T hT X
  obtain ⟨st1, hrun, hend, hW, hsm⟩ := X.leaveThrown q (g := F0 m pc ls rest) rfl rfl rfl hout hlocks
  have hcell9 : (T.setFrames (.throwing q :: below)).heap[q]? = some ce := by
    show T.heap[q]? = some ce
    rw [hT]; exact hcell
  exact ⟨_, st1, .threw q, hrun, hend, Or.inr ⟨q, rfl, E, ce, locs, hx _ hT hW.alike, hcell9, hv, hcl, hW, hsm.mono hc hs, hf⟩⟩
theorem vx_frame {U : State} {k n : Nat} (h : s.sameButNew ({ U with vm := s.vm } : State) locs k n) : s.heap.size ≤ U.heap.size ∧ ∀ q : Nat, q < s.heap.size → (∀ z ∈ locs, z.base ≠ q) → U.heap[q]? = s.heap[q]? := by
  obtain ⟨-, h2, -, -, -, h6⟩ := h
  refine ⟨h2, fun q hq hz => ?_⟩
  obtain ⟨c9, e1, e2, e3, e4⟩ := h6 q _ (Array.getElem?_eq_getElem hq)
  have hs : c9.slots = (s.heap[q]).slots := Array.ext_getElem? fun i => e4 i fun hm => hz _ hm rfl
  have h9 : c9 = s.heap[q] := by
    rw [hs] at e2
    exact e2
  have e5 : U.heap[q]? = some c9 := e1
  rw [e5, h9, Array.getElem?_eq_getElem hq]
/-- the words of a throw but the four that speak of the heap -/
def vx_no (w : Cond) : Bool := decide (w ≠ .isRef (.static Bundle.tN "UNASSIGNED_STACK" Bundle.steD)) && decide (w ≠ .isRef (.static Bundle.tN "SUPPRESSED_SENTINEL" Bundle.listD)) && decide (w ≠ .laysStatic Bundle.tN "UNASSIGNED_STACK" Bundle.steD) && decide (w ≠ .laysStatic Bundle.tN "SUPPRESSED_SENTINEL" Bundle.listD)
def vx_at0 (own : String) (ic : Nat) (X : String) (names : List String) : List Cond := (Bundle.ownAtoms0 own ic X names).filter vx_no
def vx_atS (own : String) (ic : Nat) (X : String) (names : List String) : List Cond := (Bundle.ownAtoms own ic X names).filter vx_no
/-- a word that the tables alone decide, or a good one -/
def vx_ot (w : Cond) : Bool := w.onTables || goodWord w
theorem vx_ot_at {args a' : Array Value} {s U : State} {w : Cond} (hW : s.WarmedH U.vm) (hvm : s.vm = U.vm) (hg : vx_ot w = true) (h : w.before args s = true) : w.before a' U = true := by
  simp only [vx_ot, Bool.or_eq_true] at hg
  rcases hg with hg | hg
  · exact va_tabs hg hvm h
  · exact word_at hW (good_of_word hg) h
/-- a list's words: the good ones out of the method's own list, the others by premises of their own -/
theorem vx_hat {args : Array Value} {s : State} {L B : List Cond} (h1 : ∀ w ∈ L.filter goodWord, w.before args s = true) (h2 : ∀ w ∈ L.filter (fun w => !goodWord w), w ∈ B) (h3 : ∀ w ∈ B, w.before args s = true) : ∀ w ∈ L, w.before args s = true := by
  intro w hw
  by_cases g : goodWord w = true
  · exact h1 w (List.mem_filter.mpr ⟨hw, g⟩)
  · refine h3 w (h2 w (List.mem_filter.mpr ⟨hw, ?_⟩))
    show (!goodWord w) = true
    cases hgw : goodWord w
    · rfl
    · exact absurd hgw g
theorem vx_c {args : Array Value} {s : State} {w : Cond} {B : List Cond} (h : w.before args s = true) (t : ∀ w ∈ B, w.before args s = true) : ∀ w' ∈ w :: B, w'.before args s = true := fun w' h' => (List.mem_cons.mp h').elim (fun e => by rw [e]; exact h) (t w')
theorem vx_n {args : Array Value} {s : State} : ∀ w ∈ ([] : List Cond), w.before args s = true := fun _ h => nomatch h
theorem vx_own {args : Array Value} {s : State} {L : List Cond} (h1 : ∀ w ∈ L.filter vx_no, w.before args s = true)
    (hU : (Cond.isRef (.static Bundle.tN "UNASSIGNED_STACK" Bundle.steD)).before args s = true) (hN : (Cond.isRef (.static Bundle.tN "SUPPRESSED_SENTINEL" Bundle.listD)).before args s = true)
    (lU : (Cond.laysStatic Bundle.tN "UNASSIGNED_STACK" Bundle.steD).before args s = true) (lN : (Cond.laysStatic Bundle.tN "SUPPRESSED_SENTINEL" Bundle.listD).before args s = true) : ∀ w ∈ L, w.before args s = true := by
  intro w hw
  by_cases e1 : w = .isRef (.static Bundle.tN "UNASSIGNED_STACK" Bundle.steD)
  · rw [e1]; exact hU
  · by_cases e2 : w = .isRef (.static Bundle.tN "SUPPRESSED_SENTINEL" Bundle.listD)
    · rw [e2]; exact hN
    · by_cases e3 : w = .laysStatic Bundle.tN "UNASSIGNED_STACK" Bundle.steD
      · rw [e3]; exact lU
      · by_cases e4 : w = .laysStatic Bundle.tN "SUPPRESSED_SENTINEL" Bundle.listD
        · rw [e4]; exact lN
        · exact h1 w (List.mem_filter.mpr ⟨hw, by unfold vx_no; rw [decide_eq_true e1, decide_eq_true e2, decide_eq_true e3, decide_eq_true e4]; rfl⟩)
/-- where a static field lies, its class's statics cell in H -/
def vx_L (C n d : String) (A : Nat → Prop) (U : State) (H : Heap) : Prop := ∃ (c : ClassId) (k : Class) (i : Nat) (f : Field) (a : Nat) (cell : Cell), U.vm.findClass C = some c ∧ U.fieldFound? C n d = some (c, k, i, f) ∧ f.isStatic = true ∧ k.statics = some a ∧ H[a]? = some cell ∧ cell.vm.isStatics = true ∧ cell.cls = c ∧ f.slot < cell.slots.size ∧ k.staticTypes[f.slot]? = some f.type ∧ ¬ A a
theorem vx_L.moved {C n d : String} {A : Nat → Prop} {u U : State} {H : Heap} (hvm : u.vm.Alike U.vm) (h : vx_L C n d A u H) : vx_L C n d A U H := by
  obtain ⟨c, k, i, f, a, cell, h1, h2, h3, h4, h5, h6, h7, h8, h9, h10⟩ := h
  obtain ⟨k', hi', he⟩ := State.fieldFound?_setVm hvm h2
  exact ⟨c, k', i, f, a, cell, by rw [hvm.findClass]; exact h1, hi', h3, by rw [he]; exact h4, h5, h6, h7, h8, by rw [he]; exact h9, h10⟩
theorem vx_L.kept {C n d : String} {A : Nat → Prop} {U : State} {H H1 : Heap} (h : vx_L C n d A U H) (hq : ∀ a : Nat, a < H.size → ¬ A a → H1[a]? = H[a]?) : vx_L C n d A U H1 := by
  obtain ⟨c, k, i, f, a, cell, h1, h2, h3, h4, h5, h6, h7, h8, h9, h10⟩ := h
  exact ⟨c, k, i, f, a, cell, h1, h2, h3, h4, by rw [hq a (Array.getElem?_eq_some_iff.mp h5).1 h10]; exact h5, h6, h7, h8, h9, h10⟩
theorem vx_L.narrow {C n d : String} {A B : Nat → Prop} {U : State} {H : Heap} (h : vx_L C n d A U H) (hAB : ∀ q, B q → A q) : vx_L C n d B U H := by
  obtain ⟨c, k, i, f, a, cell, h1, h2, h3, h4, h5, h6, h7, h8, h9, h10⟩ := h
  exact ⟨c, k, i, f, a, cell, h1, h2, h3, h4, h5, h6, h7, h8, h9, fun z => h10 (hAB _ z)⟩
theorem vx_L.word {C n d : String} {A : Nat → Prop} {s : State} {args : Array Value} (h : vx_L C n d A s s.heap) : (Cond.laysStatic C n d).before args s = true := by
  obtain ⟨c, k, i, f, a, cell, h1, h2, h3, h4, h5, h6, h7, h8, h9, -⟩ := h
  show (Cond.laysStatic C n d).holds args s none s [] = true
  exact Cond.laysStatic_of h1 h2 h3 h4 h5 h6 h7 h8 h9
/-- .. and what it holds: null or some reference -/
def vx_Zq (C n d : String) (A : Nat → Prop) (U : State) (H : Heap) : Prop := va_Zq C n d A U H ∧ vx_L C n d A U H
theorem vx_Zq.moved {C n d : String} {A : Nat → Prop} {u U : State} {H : Heap} (hvm : u.vm.Alike U.vm) (h : vx_Zq C n d A u H) : vx_Zq C n d A U H := ⟨va_Zq.moved hvm h.1, vx_L.moved hvm h.2⟩
theorem vx_Zq.kept {C n d : String} {A : Nat → Prop} {U : State} {H H1 : Heap} (h : vx_Zq C n d A U H) (hq : ∀ a : Nat, a < H.size → ¬ A a → H1[a]? = H[a]?) : vx_Zq C n d A U H1 := ⟨va_Zq.kept h.1 hq, vx_L.kept h.2 hq⟩
theorem vx_Zq.narrow {C n d : String} {A B : Nat → Prop} {U : State} {H : Heap} (h : vx_Zq C n d A U H) (hAB : ∀ q, B q → A q) : vx_Zq C n d B U H := ⟨va_Zq.narrow h.1 hAB, vx_L.narrow h.2 hAB⟩
theorem vx_Zqof {args : Array Value} {s : State} {C n d : String} {A : Nat → Prop} (hl : (Cond.laysStatic C n d).before args s = true) (hini : (Cond.initialized C).before args s = true) (h : (Cond.isRef (.static C n d)).before args s = true) (hA : ∀ a : Nat, a < s.heap.size → ¬ A a) : vx_Zq C n d A s s.heap := by
  refine ⟨va_Zqof hl hini h hA, ?_⟩
  obtain ⟨c, k, i, f, a, cell, h1, h2, h3, h4, h5, h6, h7, h8, h9⟩ := Cond.laysStatic_spec hl
  exact ⟨c, k, i, f, a, cell, h1, h2, h3, h4, h5, h6, h7, h8, h9, hA a (Array.getElem?_eq_some_iff.mp h5).1⟩
theorem vx_isRef {C n d : String} {v : Value} {A : Nat → Prop} {s : State} {args : Array Value} (h : va_Z C n d v A s s.heap) (hv : v.isRef = true) : (Cond.isRef (.static C n d)).before args s = true := by
  obtain ⟨cf, kf, fi, f, a, cell, h1, h2, h3, h4, h5, h6, h7, -⟩ := h
  have he : (Term.static C n d).eval args s none [] s = some v := by
    simp [Term.eval, State.fieldNamed?, h1, h2, h4, h5, h6, h7]
  simp only [Cond.before, Cond.holds, Cond.value, he]
  cases v <;> simp_all [Value.isRef]
theorem vx_isRefq {C n d : String} {A : Nat → Prop} {s : State} {args : Array Value} (h : va_Zq C n d A s s.heap) : (Cond.isRef (.static C n d)).before args s = true := by
  rcases h with h | ⟨t, h⟩
  · exact vx_isRef h rfl
  · exact vx_isRef h rfl
/-- the same frame, seen from here: as if the method were called anew in this heap -/
theorem vx_rebase {T : State} (X : Stand p l e R s m args below meth c T locs cells slots) {R' : Room} (hf : R'.frames ≤ R.frames) (hl : R'.locals ≤ R.locals) (hc : cells + R'.cells ≤ R.cells) (hs : slots + R'.slots ≤ R.slots) :
    Stand p l e R' ((T.setVm s.vm).setFrames (.invoking m args :: below)) m args below meth c T [] 0 0 := by
  have htop : (T.setVm s.vm).topJava?.isSome := X.here.top
  have hF : ((T.setVm s.vm).setFrames (.invoking m args :: below)).frames = .invoking m args :: below := State.frames_setFrames _ (State.cur_lt_of_top htop)
  obtain ⟨g₀, hg0⟩ := Option.isSome_iff_exists.mp htop
  obtain ⟨r, hr⟩ := State.topJava?_eq_some.mp hg0
  have hl9 : e.platform.stackLimits (T.setVm s.vm).me = e.platform.stackLimits s.me := X.limits
  have hb9 : (T.setVm s.vm).me.stackBytes = s.me.stackBytes := X.bytes
  refine ⟨X.admits, X.cas, X.clock, hF, ?_, X.hears, X.method, X.code, X.here, X.tail, X.warmed, ?_, ?_, ?_⟩
  · have h := X.room
    have hU : ((T.setVm s.vm).setFrames (.invoking m args :: below)).localsInUse = s.localsInUse := by
      rw [State.localsInUse_invoking hF (meth := meth) (c := c) X.method X.code, State.localsInUse_invoking X.frames X.method X.code]
    simp only [State.hasRoom, Bool.and_eq_true, decide_eq_true_eq] at h ⊢
    obtain ⟨⟨⟨⟨h1, h2, h3, h4, h5, h6⟩, h7⟩, h8⟩, h9⟩ := h
    rw [X.frames, List.length_cons] at h2 h3
    have q1 := X.heapSize
    have q2 := X.used
    simp only [hF, hU, List.length_cons, State.stackLimits_setFrames, State.stackBytes_setFrames, hl9, hb9]
    refine ⟨⟨⟨⟨by omega, by omega, by omega, by omega, by omega, h6⟩, ?_⟩, ?_⟩, X.book⟩
    · show T.heap.size + R'.cells ≤ e.platform.maxCells
      omega
    · show T.slotsUsed + R'.slots ≤ e.platform.maxSlots
      omega
  · rw [State.stackLimits_setFrames]; rfl
  · rw [State.stackBytes_setFrames]; rfl
  · refine ⟨?_, Nat.le_refl _, Nat.le_refl _, ?_, ?_, fun a c9 h9 => ⟨c9, h9, rfl, rfl, fun _ _ => rfl⟩⟩
    · obtain ⟨t, ht, -⟩ := State.frames_cons hr
      show T.setVm s.vm = { ((T.setVm s.vm).setFrames (.invoking m args :: below)).setFrames (T.setVm s.vm).frames with heap := T.heap, slotsUsed := T.slotsUsed }
      rw [State.setFrames_setFrames, State.setFrames_self ht]
      rfl
    · show T.slotsUsed = T.slotsUsed + ((T.heap.toList.drop T.heap.size).map (·.slots.size)).sum
      rw [List.drop_eq_nil_of_le (Nat.le_of_eq Array.length_toList)]
      rfl
    · show ((T.heap.toList.drop T.heap.size).map (·.slots.size)).sum ≤ 0
      rw [List.drop_eq_nil_of_le (Nat.le_of_eq Array.length_toList)]
      exact Nat.le_refl _
/-- 'throw new E()': new; dup; invokespecial; athrow -/
theorem vx_throw0 {cc : ByteArray} {pc : Nat} (hexec : p.tables.exec = Jvm.exec) (hb : c.code = cc) (hl : l.stackTraces = false) {own cls : String} {names : List String} {ik ic mc ms : Nat} {A : Nat → Prop}
    (hown : s.vm.findClass own = some m.cls) (hcls : Bundle.fit cls = true) (hnames : ∀ n ∈ names, Bundle.fit n = true)
    (hk : (Cond.classLink own ik cls).before args s = true) (hini : (Cond.initialized cls).before args s = true) (hat : ∀ w ∈ vx_at0 own ic cls names, w.before args s = true)
    (hgood : ∀ w ∈ Cond.classLink own ik cls :: Cond.initialized cls :: vx_at0 own ic cls names, vx_ot w = true)
    (hU : vx_Zq Bundle.tN "UNASSIGNED_STACK" Bundle.steD A s s.heap) (hN : vx_Zq Bundle.tN "SUPPRESSED_SENTINEL" Bundle.listD A s s.heap) (hS : va_S A s.heap H locs) (hsize : ls.size = c.maxLocals)
    (d0 : decode cc pc = .ok (.new ik, 3)) (d3 : decode cc (pc + 3) = .ok (.dup, 1)) (d4 : decode cc (pc + 4) = .ok (.invokespecial ic, 3)) (d7 : decode cc (pc + 7) = .ok (.athrow, 1))
    (hout : ∀ x ∈ c.exceptionTable.toList, covers x (pc + 7) = false)
    (hRframes : names.length + 3 < R.frames) (hRlocals : (rest.map fun v => v.category).sum + (13 * (names.length + 1) + 42) ≤ R.locals) (hRcells : cells + 1 ≤ R.cells) (hRslots : slots + 6 ≤ R.slots) (hlocks : meth.locks = false)
    (hx : ∀ t : State, s.vm.Alike t.vm → H.size ≤ t.heap.size → (∀ q : Nat, q < H.size → t.heap[q]? = H[q]?) → XC cls s t)
    (hf : ∀ z ∈ locs, free z.base) (hc : cells + 1 ≤ mc) (hs : slots + 6 ≤ ms) :
    W p l e R s m args below meth c H locs cells slots (vx_MQ below Qc XC args s mc ms free) (F0 m pc ls rest) := by
  intro T hT X
  have htr : e.platform.stackTraces = false := (show e.platform.stackTraces = l.stackTraces by rw [X.admits.platform]).trans hl
  have Y := vx_rebase X (R' := { frames := R.frames, locals := R.locals, cells := 1, slots := 6 }) (Nat.le_refl _) (Nat.le_refl _) hRcells hRslots
  obtain ⟨s', hA⟩ : ∃ z, z = (T.setVm s.vm).setFrames (.invoking m args :: below) := ⟨_, rfl⟩
  rw [← hA] at Y
  have hvm : s'.vm = s.vm := by rw [hA]; rfl
  have hhp : s'.heap = H := by rw [hA]; exact hT
  have hW0 : s.WarmedH s'.vm := by rw [hvm]; exact State.WarmedH.refl s
  have hat' : ∀ w ∈ vx_at0 own ic cls names, w.before args s' = true := fun w hw => vx_ot_at hW0 hvm.symm (hgood w (List.mem_cons_of_mem _ (List.mem_cons_of_mem _ hw))) (hat w hw)
  have hk' : (Cond.classLink own ik cls).before args s' = true := vx_ot_at hW0 hvm.symm (hgood _ List.mem_cons_self) hk
  have hini' : (Cond.initialized cls).before args s' = true := vx_ot_at hW0 hvm.symm (hgood _ (List.mem_cons_of_mem _ List.mem_cons_self)) hini
  have hU' : vx_Zq Bundle.tN "UNASSIGNED_STACK" Bundle.steD A s' s'.heap := by rw [hhp]; exact vx_Zq.moved hW0.alike (hU.kept hS.2.1)
  have hN' : vx_Zq Bundle.tN "SUPPRESSED_SENTINEL" Bundle.listD A s' s'.heap := by rw [hhp]; exact vx_Zq.moved hW0.alike (hN.kept hS.2.1)
  have h : ∀ w ∈ Bundle.ownAtoms0 own ic cls names, w.before args s' = true := vx_own hat' (vx_isRefq hU'.1) (vx_isRefq hN'.1) hU'.2.word hN'.2.word
  have hown' : s'.vm.findClass own = some m.cls := by rw [hvm]; exact hown
  have hins : (Cond.instantiable cls 6).before args s' = true := h _ (by simp [Bundle.ownAtoms0])
  obtain ⟨vm₁, cX, kX, hfX, hkX, -, -, X₁, st1⟩ := Y.newCold hexec (own := own) (C := cls) (index := ik) (n := 6) hown' hk' hins hini'
    (g := F0 m pc ls rest) rfl (by rw [hb]; exact d0) (Nat.le_refl _) (Nat.le_refl _)
  generalize hT1 : (T.setVm vm₁).pushCell { cls := cX, slots := kX.instanceTypes.map defaultValue, vm := .none } = T1 at X₁ st1
  have hcat : (Value.ref T.heap.size).category = 1 := rfl
  have hcellA : T1.heap[T.heap.size]? = some (freshCell cX kX) := by rw [← hT1]; exact State.heap_pushCell_size _ _
  have d3' : decode c.code (pc + 3) = .ok (.dup, 1) := by rw [hb]; exact d3
  obtain ⟨U, hsteps, hrun, hend, hW, hsame, ce, hce, hO⟩ := X₁.ctorThrow0 hexec htr (own := own) (cls := cls) (names := names) (ic := ic) hown' hcls hnames h (fun x hx => nomatch hx) hfX hkX hcellA (by rw [hhp, hT]; exact Nat.le_refl _)
    (g := { method := m, pc := pc + 4, locals := ls, stack := .ref T.heap.size :: .ref T.heap.size :: rest, locked := none }) rfl hsize rfl rfl (rest := rest) rfl
    (by rw [hb]; exact d4) (by rw [hb]; exact d7) hout hRframes (by simp only [List.map_cons, List.sum_cons, hcat]; omega) hlocks
  obtain ⟨f1, f2⟩ := vx_frame hsame
  rw [hhp] at f1 f2
  have hWs : s.WarmedH U.vm := State.WarmedH.trans hW0 hW
  have hcl : s.vm.findClass cls = some ce.cls := by
    have h9 := hO.cls
    rw [hvm] at h9
    exact h9
  have hall : s.sameButNew ({ U with vm := s.vm } : State) locs mc ms := by
    subst hA
    obtain ⟨e1, e2⟩ := hsame
    rw [State.setFrames_setFrames] at e1
    have h2 : (T.setVm s.vm).sameButNew ({ U with vm := s.vm } : State) [] (0 + 1) (0 + 6) := ⟨e1, e2⟩
    have h3 := X.same.trans h2
    rw [List.append_nil] at h3
    exact h3.mono hc hs
  refine ⟨U, ?_, .threw T.heap.size, hrun, hend, Or.inr ⟨T.heap.size, rfl, cls, ce, locs, hx U hWs.alike f1 (fun q hq => f2 q hq (fun z hz => nomatch hz)), hce, hO.vm, hcl, hWs, hall, hf⟩⟩
  refine st1 _ ?_
  show Steps p.tables e below (T1.setTop { method := m, pc := pc + 3, locals := ls, stack := .ref T.heap.size :: rest, locked := none }) _
  jvm_step X₁.here [X₁.here.top, hexec, d3', Value.category]
  exact hsteps
/-- 'throw new E("text")': new; dup; ldc; invokespecial; athrow -/
theorem vx_throwS {cc : ByteArray} {pc : Nat} (hexec : p.tables.exec = Jvm.exec) (hb : c.code = cc) (hl : l.stackTraces = false) {own cls text : String} {names : List String} {ik is ic mc ms sa : Nat} {A : Nat → Prop}
    (hown : s.vm.findClass own = some m.cls) (hcls : Bundle.fit cls = true) (hnames : ∀ n ∈ names, Bundle.fit n = true)
    (hk : (Cond.classLink own ik cls).before args s = true) (hini : (Cond.initialized cls).before args s = true) (hstr : vk_R own is text sa s) (hat : ∀ w ∈ vx_atS own ic cls names, w.before args s = true)
    (hgood : ∀ w ∈ Cond.classLink own ik cls :: Cond.initialized cls :: vx_atS own ic cls names, vx_ot w = true)
    (hU : vx_Zq Bundle.tN "UNASSIGNED_STACK" Bundle.steD A s s.heap) (hN : vx_Zq Bundle.tN "SUPPRESSED_SENTINEL" Bundle.listD A s s.heap) (hS : va_S A s.heap H locs) (hsize : ls.size = c.maxLocals)
    (d0 : decode cc pc = .ok (.new ik, 3)) (d3 : decode cc (pc + 3) = .ok (.dup, 1)) (d4 : decode cc (pc + 4) = .ok (.ldc is, 2)) (d6 : decode cc (pc + 6) = .ok (.invokespecial ic, 3)) (d9 : decode cc (pc + 9) = .ok (.athrow, 1))
    (hout : ∀ x ∈ c.exceptionTable.toList, covers x (pc + 9) = false)
    (hRframes : names.length + 3 < R.frames) (hRlocals : (rest.map fun v => v.category).sum + (13 * (names.length + 1) + 43) ≤ R.locals) (hRcells : cells + 1 ≤ R.cells) (hRslots : slots + 6 ≤ R.slots) (hlocks : meth.locks = false)
    (hx : ∀ t : State, s.vm.Alike t.vm → H.size ≤ t.heap.size → (∀ q : Nat, q < H.size → t.heap[q]? = H[q]?) → XC cls s t)
    (hf : ∀ z ∈ locs, free z.base) (hc : cells + 1 ≤ mc) (hs : slots + 6 ≤ ms) :
    W p l e R s m args below meth c H locs cells slots (vx_MQ below Qc XC args s mc ms free) (F0 m pc ls rest) := by
  intro T hT X
  have htr : e.platform.stackTraces = false := (show e.platform.stackTraces = l.stackTraces by rw [X.admits.platform]).trans hl
  have Y := vx_rebase X (R' := { frames := R.frames, locals := R.locals, cells := 1, slots := 6 }) (Nat.le_refl _) (Nat.le_refl _) hRcells hRslots
  obtain ⟨s', hA⟩ : ∃ z, z = (T.setVm s.vm).setFrames (.invoking m args :: below) := ⟨_, rfl⟩
  rw [← hA] at Y
  have hvm : s'.vm = s.vm := by rw [hA]; rfl
  have hhp : s'.heap = H := by rw [hA]; exact hT
  have hW0 : s.WarmedH s'.vm := by rw [hvm]; exact State.WarmedH.refl s
  have hat' : ∀ w ∈ vx_atS own ic cls names, w.before args s' = true := fun w hw => vx_ot_at hW0 hvm.symm (hgood w (List.mem_cons_of_mem _ (List.mem_cons_of_mem _ hw))) (hat w hw)
  have hk' : (Cond.classLink own ik cls).before args s' = true := vx_ot_at hW0 hvm.symm (hgood _ List.mem_cons_self) hk
  have hini' : (Cond.initialized cls).before args s' = true := vx_ot_at hW0 hvm.symm (hgood _ (List.mem_cons_of_mem _ List.mem_cons_self)) hini
  have hU' : vx_Zq Bundle.tN "UNASSIGNED_STACK" Bundle.steD A s' s'.heap := by rw [hhp]; exact vx_Zq.moved hW0.alike (hU.kept hS.2.1)
  have hN' : vx_Zq Bundle.tN "SUPPRESSED_SENTINEL" Bundle.listD A s' s'.heap := by rw [hhp]; exact vx_Zq.moved hW0.alike (hN.kept hS.2.1)
  have h : ∀ w ∈ Bundle.ownAtoms own ic cls names, w.before args s' = true := vx_own hat' (vx_isRefq hU'.1) (vx_isRefq hN'.1) hU'.2.word hN'.2.word
  have hown' : s'.vm.findClass own = some m.cls := by rw [hvm]; exact hown
  have hins : (Cond.instantiable cls 6).before args s' = true := h _ (by simp [Bundle.ownAtoms])
  obtain ⟨vm₁, cX, kX, hfX, hkX, -, -, X₁, st1⟩ := Y.newCold hexec (own := own) (C := cls) (index := ik) (n := 6) hown' hk' hins hini'
    (g := F0 m pc ls rest) rfl (by rw [hb]; exact d0) (Nat.le_refl _) (Nat.le_refl _)
  generalize hT1 : (T.setVm vm₁).pushCell { cls := cX, slots := kX.instanceTypes.map defaultValue, vm := .none } = T1 at X₁ st1
  have hcat : (Value.ref T.heap.size).category = 1 := rfl
  have hcellA : T1.heap[T.heap.size]? = some (freshCell cX kX) := by rw [← hT1]; exact State.heap_pushCell_size _ _
  have d3' : decode c.code (pc + 3) = .ok (.dup, 1) := by rw [hb]; exact d3
  have d4' : decode c.code (pc + 4) = .ok (.ldc is, 2) := by rw [hb]; exact d4
  have hstr' : vk_R own is text sa s' := vk_R.warm hW0 hstr
  obtain ⟨U, hsteps, hrun, hend, hW, hsame, ce, hce, hO⟩ := X₁.ctorThrowS hexec htr (own := own) (cls := cls) (names := names) (ic := ic) hown' hcls hnames h (fun x hx => nomatch hx) hfX hkX hcellA (by rw [hhp, hT]; exact Nat.le_refl _) (msg := .ref sa) rfl
    (g := { method := m, pc := pc + 6, locals := ls, stack := .ref sa :: .ref T.heap.size :: .ref T.heap.size :: rest, locked := none }) rfl hsize rfl rfl (rest := rest) rfl
    (by rw [hb]; exact d6) (by rw [hb]; exact d9) hout hRframes (by simp only [List.map_cons, List.sum_cons, hcat]; omega) hlocks
  obtain ⟨f1, f2⟩ := vx_frame hsame
  rw [hhp] at f1 f2
  have hWs : s.WarmedH U.vm := State.WarmedH.trans hW0 hW
  have hcl : s.vm.findClass cls = some ce.cls := by
    have h9 := hO.cls
    rw [hvm] at h9
    exact h9
  have hall : s.sameButNew ({ U with vm := s.vm } : State) locs mc ms := by
    subst hA
    obtain ⟨e1, e2⟩ := hsame
    rw [State.setFrames_setFrames] at e1
    have h2 : (T.setVm s.vm).sameButNew ({ U with vm := s.vm } : State) [] (0 + 1) (0 + 6) := ⟨e1, e2⟩
    have h3 := X.same.trans h2
    rw [List.append_nil] at h3
    exact h3.mono hc hs
  refine ⟨U, ?_, .threw T.heap.size, hrun, hend, Or.inr ⟨T.heap.size, rfl, cls, ce, locs, hx U hWs.alike f1 (fun q hq => f2 q hq (fun z hz => nomatch hz)), hce, hO.vm, hcl, hWs, hall, hf⟩⟩
  refine st1 _ ?_
  show Steps p.tables e below (T1.setTop { method := m, pc := pc + 3, locals := ls, stack := .ref T.heap.size :: rest, locked := none }) _
  jvm_step X₁.here [X₁.here.top, hexec, d3', Value.category]
  exact X₁.ldcString hexec (own := own) (text := text) (index := is) (a := sa) hown' hstr'.1 hstr'.2
    (g := { method := m, pc := pc + 4, locals := ls, stack := .ref T.heap.size :: .ref T.heap.size :: rest, locked := none }) rfl d4' _ hsteps
/-- 'throw new E("text")', the text by a wide index -/
theorem vx_throwSW {cc : ByteArray} {pc : Nat} (hexec : p.tables.exec = Jvm.exec) (hb : c.code = cc) (hl : l.stackTraces = false) {own cls text : String} {names : List String} {ik is ic mc ms sa : Nat} {A : Nat → Prop}
    (hown : s.vm.findClass own = some m.cls) (hcls : Bundle.fit cls = true) (hnames : ∀ n ∈ names, Bundle.fit n = true)
    (hk : (Cond.classLink own ik cls).before args s = true) (hini : (Cond.initialized cls).before args s = true) (hstr : vk_R own is text sa s) (hat : ∀ w ∈ vx_atS own ic cls names, w.before args s = true)
    (hgood : ∀ w ∈ Cond.classLink own ik cls :: Cond.initialized cls :: vx_atS own ic cls names, vx_ot w = true)
    (hU : vx_Zq Bundle.tN "UNASSIGNED_STACK" Bundle.steD A s s.heap) (hN : vx_Zq Bundle.tN "SUPPRESSED_SENTINEL" Bundle.listD A s s.heap) (hS : va_S A s.heap H locs) (hsize : ls.size = c.maxLocals)
    (d0 : decode cc pc = .ok (.new ik, 3)) (d3 : decode cc (pc + 3) = .ok (.dup, 1)) (d4 : decode cc (pc + 4) = .ok (.ldc_w is, 3)) (d7 : decode cc (pc + 7) = .ok (.invokespecial ic, 3)) (d10 : decode cc (pc + 10) = .ok (.athrow, 1))
    (hout : ∀ x ∈ c.exceptionTable.toList, covers x (pc + 10) = false)
    (hRframes : names.length + 3 < R.frames) (hRlocals : (rest.map fun v => v.category).sum + (13 * (names.length + 1) + 43) ≤ R.locals) (hRcells : cells + 1 ≤ R.cells) (hRslots : slots + 6 ≤ R.slots) (hlocks : meth.locks = false)
    (hx : ∀ t : State, s.vm.Alike t.vm → H.size ≤ t.heap.size → (∀ q : Nat, q < H.size → t.heap[q]? = H[q]?) → XC cls s t)
    (hf : ∀ z ∈ locs, free z.base) (hc : cells + 1 ≤ mc) (hs : slots + 6 ≤ ms) :
    W p l e R s m args below meth c H locs cells slots (vx_MQ below Qc XC args s mc ms free) (F0 m pc ls rest) := by
  intro T hT X
  have htr : e.platform.stackTraces = false := (show e.platform.stackTraces = l.stackTraces by rw [X.admits.platform]).trans hl
  have Y := vx_rebase X (R' := { frames := R.frames, locals := R.locals, cells := 1, slots := 6 }) (Nat.le_refl _) (Nat.le_refl _) hRcells hRslots
  obtain ⟨s', hA⟩ : ∃ z, z = (T.setVm s.vm).setFrames (.invoking m args :: below) := ⟨_, rfl⟩
  rw [← hA] at Y
  have hvm : s'.vm = s.vm := by rw [hA]; rfl
  have hhp : s'.heap = H := by rw [hA]; exact hT
  have hW0 : s.WarmedH s'.vm := by rw [hvm]; exact State.WarmedH.refl s
  have hat' : ∀ w ∈ vx_atS own ic cls names, w.before args s' = true := fun w hw => vx_ot_at hW0 hvm.symm (hgood w (List.mem_cons_of_mem _ (List.mem_cons_of_mem _ hw))) (hat w hw)
  have hk' : (Cond.classLink own ik cls).before args s' = true := vx_ot_at hW0 hvm.symm (hgood _ List.mem_cons_self) hk
  have hini' : (Cond.initialized cls).before args s' = true := vx_ot_at hW0 hvm.symm (hgood _ (List.mem_cons_of_mem _ List.mem_cons_self)) hini
  have hU' : vx_Zq Bundle.tN "UNASSIGNED_STACK" Bundle.steD A s' s'.heap := by rw [hhp]; exact vx_Zq.moved hW0.alike (hU.kept hS.2.1)
  have hN' : vx_Zq Bundle.tN "SUPPRESSED_SENTINEL" Bundle.listD A s' s'.heap := by rw [hhp]; exact vx_Zq.moved hW0.alike (hN.kept hS.2.1)
  have h : ∀ w ∈ Bundle.ownAtoms own ic cls names, w.before args s' = true := vx_own hat' (vx_isRefq hU'.1) (vx_isRefq hN'.1) hU'.2.word hN'.2.word
  have hown' : s'.vm.findClass own = some m.cls := by rw [hvm]; exact hown
  have hins : (Cond.instantiable cls 6).before args s' = true := h _ (by simp [Bundle.ownAtoms])
  obtain ⟨vm₁, cX, kX, hfX, hkX, -, -, X₁, st1⟩ := Y.newCold hexec (own := own) (C := cls) (index := ik) (n := 6) hown' hk' hins hini'
    (g := F0 m pc ls rest) rfl (by rw [hb]; exact d0) (Nat.le_refl _) (Nat.le_refl _)
  generalize hT1 : (T.setVm vm₁).pushCell { cls := cX, slots := kX.instanceTypes.map defaultValue, vm := .none } = T1 at X₁ st1
  have hcat : (Value.ref T.heap.size).category = 1 := rfl
  have hcellA : T1.heap[T.heap.size]? = some (freshCell cX kX) := by rw [← hT1]; exact State.heap_pushCell_size _ _
  have d3' : decode c.code (pc + 3) = .ok (.dup, 1) := by rw [hb]; exact d3
  have d4' : decode c.code (pc + 4) = .ok (.ldc_w is, 3) := by rw [hb]; exact d4
  have hstr' : vk_R own is text sa s' := vk_R.warm hW0 hstr
  obtain ⟨U, hsteps, hrun, hend, hW, hsame, ce, hce, hO⟩ := X₁.ctorThrowS hexec htr (own := own) (cls := cls) (names := names) (ic := ic) hown' hcls hnames h (fun x hx => nomatch hx) hfX hkX hcellA (by rw [hhp, hT]; exact Nat.le_refl _) (msg := .ref sa) rfl
    (g := { method := m, pc := pc + 7, locals := ls, stack := .ref sa :: .ref T.heap.size :: .ref T.heap.size :: rest, locked := none }) rfl hsize rfl rfl (rest := rest) rfl
    (by rw [hb]; exact d7) (by rw [hb]; exact d10) hout hRframes (by simp only [List.map_cons, List.sum_cons, hcat]; omega) hlocks
  obtain ⟨f1, f2⟩ := vx_frame hsame
  rw [hhp] at f1 f2
  have hWs : s.WarmedH U.vm := State.WarmedH.trans hW0 hW
  have hcl : s.vm.findClass cls = some ce.cls := by
    have h9 := hO.cls
    rw [hvm] at h9
    exact h9
  have hall : s.sameButNew ({ U with vm := s.vm } : State) locs mc ms := by
    subst hA
    obtain ⟨e1, e2⟩ := hsame
    rw [State.setFrames_setFrames] at e1
    have h2 : (T.setVm s.vm).sameButNew ({ U with vm := s.vm } : State) [] (0 + 1) (0 + 6) := ⟨e1, e2⟩
    have h3 := X.same.trans h2
    rw [List.append_nil] at h3
    exact h3.mono hc hs
  refine ⟨U, ?_, .threw T.heap.size, hrun, hend, Or.inr ⟨T.heap.size, rfl, cls, ce, locs, hx U hWs.alike f1 (fun q hq => f2 q hq (fun z hz => nomatch hz)), hce, hO.vm, hcl, hWs, hall, hf⟩⟩
  refine st1 _ ?_
  show Steps p.tables e below (T1.setTop { method := m, pc := pc + 3, locals := ls, stack := .ref T.heap.size :: rest, locked := none }) _
  jvm_step X₁.here [X₁.here.top, hexec, d3', Value.category]
  exact X₁.ldcStringW hexec (own := own) (text := text) (index := is) (a := sa) hown' hstr'.1 hstr'.2
    (g := { method := m, pc := pc + 4, locals := ls, stack := .ref T.heap.size :: .ref T.heap.size :: rest, locked := none }) rfl d4' _ hsteps
end Ends
section Bodies
variable {l : Launch}
theorem vx_ofW {y : MethodName} {ws ws' : List Cond} {rm : Room} {Pc : Array Value → State → Prop} {Qc : Array Value → State → Outcome → State → Prop} {XC : String → State → State → Prop} {mc ms : Nat} {free : Addr → Prop} {cc : ByteArray} {maxL : Nat} {ret : Option FieldType}
    (hy : plainName y.cls = true) (hw : ws = Cond.code y cc maxL ret :: ws')
    (body : ∀ p e s m args below meth c s₁, BodyLoose p l y (headSpec ws rm) cc maxL ret e s m args below meth c s₁ → c.maxLocals = maxL → (∀ x ∈ c.exceptionTable.toList, False) → Pc args s →
      W p l e (headSpec ws rm).room s m args below meth c s.heap [] 0 0 (vx_MQ below Qc XC args s mc ms free) (entryFrame m args maxL)) : vx_Met l y ws rm Pc Qc XC mc ms free := by
  refine MetFree.of_bodyS (code := cc) (maxLocals := maxL) (ret := ret) hy ?_ ?_
  · intro args s m h hn
    obtain ⟨meth, c, h1, h2, h3, h4, h5, h6, -, -⟩ := Cond.code_spec hn (atoms_spec (ws := ws) h _ (by rw [hw]; exact List.mem_cons_self))
    exact ⟨meth, c, h1, h2, h3, h4, h5, h6⟩
  · intro p e s m args below meth c s₁ B hml hP _
    have hh0 : s₁.heap = s.heap := by rw [B.state]; rfl
    have ht : ∀ x ∈ c.exceptionTable.toList, False := by
      obtain ⟨meth9, c9, h1, h2, -, -, -, -, h7, -⟩ := Cond.code_spec B.named (atoms_spec (ws := ws) B.pre _ (by rw [hw]; exact List.mem_cons_self))
      cases Option.some.inj (h1.symm.trans B.method)
      cases Option.some.inj (h2.symm.trans (Stand.of_body B).code)
      intro x hx
      rw [Array.isEmpty_iff.mp h7] at hx
      cases hx
    obtain ⟨t, a1, o, b1, b2, b3⟩ := body p e s m args below meth c s₁ B hml ht hP s₁ hh0 (Stand.of_body B)
    exact ⟨t, o, a1, b1, b2, b3⟩
/-- the table of a body with handlers -/
theorem vx_table {p : Program} {x y : MethodName} {S : Spec} {cc bytes : ByteArray} {maxL maxL' : Nat} {ret ret' : Option FieldType} {e : Env} {s s₁ : State} {m : MethodId} {args : Array Value} {below : List Frame} {meth : Method} {c : Code} {hh : List (Nat × Nat × Nat × Nat)}
    (B : BodyLoose p l y S cc maxL ret e s m args below meth c s₁) (h : (Cond.codeWith y bytes maxL' ret' hh).before args s = true) : c.exceptionTable.toList = tableOf hh := by
  obtain ⟨m9, meth9, c9, hn9, h1, h2, -, -, h6, -⟩ := Cond.codeWith_spec h
  cases Option.some.inj (hn9.symm.trans B.named)
  cases Option.some.inj (h1.symm.trans B.method)
  cases Option.some.inj (h2.symm.trans (Stand.of_body B).code)
  rw [← h6, table_eq]
end Bodies
end VXA
/-! ===== END ===== -/
/-! ===== BEGIN a static call of a method with an exception table ===== -/
section VXS
variable {p : Program} {l : Launch} {e : Env} {R : Room} {s : State} {m : MethodId} {args : Array Value} {below : List Frame} {meth : Method} {c : Code} {T : State} {H : Heap} {locs : List Loc} {cells slots : Nat}
abbrev vx_CSW (R : Room) (s : State) (args : Array Value) (own : String) (index : Nat) (y : MethodName) (bytes : ByteArray) (maxL : Nat) (ret : Option FieldType) (hh : List (Nat × Nat × Nat × Nat)) (ws : List Cond) (rm : Room) (mc ms n : Nat) : Prop :=
  (rm.cells = mc ∧ rm.slots = ms ∧ rm.frames + 1 ≤ R.frames ∧ 8 + (maxL + 11) + rm.locals ≤ R.locals ∧ (∀ w ∈ ws, ∀ (a' : Array Value) (U : State), s.WarmedH U.vm → w.before a' U = true) ∧ Cond.codeWith y bytes maxL ret hh ∈ ws) ∧
  (Cond.codeWith y bytes maxL ret hh).before args s = true ∧ (Cond.initialized y.cls).before args s = true ∧ (y.cls ≠ "java/lang/invoke/MethodHandle" ∧ y.cls ≠ "java/lang/invoke/VarHandle") ∧
  (∀ sig, parseMethodDescriptor y.desc = some sig → n = sig.parameters.length) ∧ (Cond.methodLink own index y).before args s = true ∧ (Cond.static y).before args s = true
theorem vx_cwSW {own : String} {index maxL mc ms : Nat} {y : MethodName} {bytes : ByteArray} {ret : Option FieldType} {hh : List (Nat × Nat × Nat × Nat)} {Ts ws ws' : List Cond} {rm : Room} (n : Nat) (ht : ∀ w ∈ Ts, w.before args s = true) (hT : GoodIn Ts (va_wsS own index y ws)) (hw : ws = Cond.codeWith y bytes maxL ret hh :: ws') (hrc : rm.cells = mc) (hrs : rm.slots = ms)
    (hd : y.cls ≠ "java/lang/invoke/MethodHandle" ∧ y.cls ≠ "java/lang/invoke/VarHandle" ∧ (parseMethodDescriptor y.desc).map (fun d => d.parameters.length) = some n) (hR : rm.frames + 1 ≤ R.frames ∧ 8 + (maxL + 11) + rm.locals ≤ R.locals) :
    vx_CSW R s args own index y bytes maxL ret hh ws rm mc ms n := by
  have ok : ∀ w ∈ va_wsS own index y ws, w.before args s = true := fun w h => ht w (hT w h).1
  have hG : GoodIn Ts ws := fun w h => hT w (by unfold va_wsS; exact List.mem_append_right _ h)
  have hc : Cond.codeWith y bytes maxL ret hh ∈ ws := by rw [hw]; exact List.mem_cons_self
  refine ⟨⟨hrc, hrs, hR.1, hR.2, pay_in ht hG, hc⟩, ht _ (hG _ hc).1, ok _ (by simp [va_wsS]), ⟨hd.1, hd.2.1⟩, fun sig h => ?_, ok _ (by simp [va_wsS]), ok _ (by simp [va_wsS])⟩
  have h2 := hd.2.2
  rw [h] at h2
  exact (Option.some.inj h2).symm
theorem vx_callSW (X : Stand p l e R s m args below meth c T locs cells slots) (hexec : p.tables.exec = Jvm.exec) {own : String} {index : Nat} {y : MethodName} {bytes : ByteArray} {maxL : Nat} {ret : Option FieldType} {hh : List (Nat × Nat × Nat × Nat)}
    (hown : s.vm.findClass own = some m.cls) (hlink : (Cond.methodLink own index y).before args s = true) (hstat : (Cond.static y).before args s = true) (hinit : (Cond.initialized y.cls).before args s = true)
    (hcode : (Cond.codeWith y bytes maxL ret hh).before args s = true) (hy : y.cls ≠ "java/lang/invoke/MethodHandle" ∧ y.cls ≠ "java/lang/invoke/VarHandle")
    {W9 : Nat} {Pre : Pt → Array Value → Prop} {Post : Pt → Array Value → Option Value → Pt → Prop} (hK : Back l R p e below s args y 3 W9 Pre Post)
    {g : JFrame} (hg : g.method = m) (hsize : g.locals.size = c.maxLocals) {argsL rest : List Value} (hlen : ∀ sig, parseMethodDescriptor y.desc = some sig → argsL.length = sig.parameters.length)
    (hstack : g.stack = argsL.reverse ++ rest) (hW : 2 * g.monitorRoom + (rest.map fun v => v.category).sum ≤ W9) (hdg : decode c.code g.pc = .ok (.invokestatic index, 3))
    (hpre : ∀ vm₁, s.WarmedH vm₁ → Pre ⟨T.setVm vm₁, locs, cells, slots⟩ argsL.toArray) :
    ∃ (v : Option Value) (vm₁ : Vm) (B : Pt), s.WarmedH vm₁ ∧ Stand p l e R s m args below meth c B.U B.locs B.cells B.slots ∧ Post ⟨T.setVm vm₁, locs, cells, slots⟩ argsL.toArray v B ∧
      ∀ target, Steps p.tables e below (B.U.setTop { g with pc := g.pc + 3, stack := v.toList ++ rest }) target → Steps p.tables e below (T.setTop g) target := by
  obtain ⟨mk, methM, cM, hnamed, hmethM, -, -, -, -, -, -, hsigM⟩ := Cond.codeWith_spec hcode
  have hstatic : methM.isStatic = true := Cond.static_spec hnamed hmethM hstat
  obtain ⟨kP, hkP, -⟩ := className_of_methodNamed hnamed
  have hinitP : kP.init = .initialized := Cond.initialized_spec (findClass_of_methodNamed hnamed) hkP hinit
  obtain ⟨vm₁, X₁, hstep₁⟩ := X.invokestatic hexec hown hlink hnamed hmethM hstatic hkP hinitP hy (g := g) hg (argsL := argsL) (rest := rest) (hlen _ hsigM) hstack hdg
  obtain ⟨v, B, X', hpost, hsteps⟩ := hK m meth c ⟨T.setVm vm₁, locs, cells, slots⟩ { g with stack := rest } (.invokestatic index) mk argsL.toArray X₁ hg hsize hdg hW (X₁.named hnamed) (hpre vm₁ X₁.warmed)
  exact ⟨v, vm₁, B, X₁.warmed, X', hpost, fun target h => hstep₁ _ fun acts => by rw [doInvoke_state]; exact hsteps.trans h⟩
theorem vx_runSW {y : MethodName} {bytes cc : ByteArray} {maxL nL mc ms n index : Nat} {ret : Option FieldType} {hh : List (Nat × Nat × Nat × Nat)} {ws : List Cond} {rm : Room} {Pc : Array Value → State → Prop} {Qc : Array Value → State → Outcome → State → Prop} {free : Addr → Prop} {Ts : List Cond} {own : String} {As rest : List Value} {g : JFrame}
    (S : CallFix p m c cc nL s args Ts own) (hM : Met l y ws rm Pc Qc mc ms free) (cw : vx_CSW R s args own index y bytes maxL ret hh ws rm mc ms n) (hp : PreS s H Pc As)
    (hg : g.method = m) (hn : As.length = n) (hsize : g.locals.size = nL) (hstack : g.stack = As.reverse ++ rest) (hW : 2 * g.monitorRoom + (rest.map fun v => v.category).sum ≤ 8) (hdg : decode cc g.pc = .ok (.invokestatic index, 3)) (hf : cells + mc ≤ R.cells ∧ slots + ms ≤ R.slots) :
    va_Run p l e R s m args below meth c H locs cells slots mc ms g rest (Qc As.toArray) (free) := by
  obtain ⟨⟨hrc, hrs, hfr, hlo, hws, hcw⟩, hcode, hini, hy, hlen, hl, hstt⟩ := cw
  have hK : Back l R p e below s args y 3 8 (PreOf R mc ms Pc) (PostOf Qc mc ms free) := va_backW (hh := hh) (bytes := bytes) (maxL := maxL) (ret := ret) hM hp.1 hrc hrs hfr hlo hws hcw (fun a' U hW => word_at hW (Or.inl (by first | rfl | simp [Cond.onTables, Cond.keeps, Cond.steady])) hini)
  obtain ⟨hx, hb, hml, ho, -⟩ := S
  intro T hT X
  obtain ⟨v, vm₁, ⟨U', l2, c2, s2⟩, hW₁, X', ⟨g', mk, t, L, e1, e2, hq, h1, hL, h2, h3⟩, st⟩ := vx_callSW X hx (hh := hh) (bytes := bytes) (maxL := maxL) (ret := ret) ho hl hstt hini hcode hy hK hg (hsize.trans hml.symm) (argsL := As) (rest := rest) (fun sig h => hn.trans (hlen sig h)) hstack hW (by rw [hb]; exact hdg)
    (fun vm₁ hW₁ => ⟨hf.1, hf.2, hp.2 (T.setVm vm₁) hT hW₁⟩)
  dsimp only [Pt.U, Pt.locs, Pt.cells, Pt.slots] at X' e1 e2 h1 h2 h3 st
  subst h1; subst h2; subst h3
  exact ⟨v, (T.setVm vm₁).calling g' mk As.toArray, t, U', L, hT, X', hL, e1, e2, hq, st⟩
/-- not caught here, past rows that name other classes: it goes on to the caller -/
theorem vx_outP {p : Program} {l : Launch} {e : Env} {R : Room} {s : State} {m : MethodId} {args : Array Value} {below : List Frame} {meth : Method} {c : Code} {H : Heap} {locs : List Loc} {cells slots : Nat} {free : Addr → Prop} {ls : Array Slot} {rest : List Value} {Qc : Array Value → State → Outcome → State → Prop} {XC : String → State → State → Prop}
    {pc : Nat} {own E : String} {ce : Cell} {q : Addr} {mc ms : Nat} (hown : s.vm.findClass own = some m.cls) (hlocks : meth.locks = false)
    (hpass : ∀ z ∈ c.exceptionTable.toList, covers z pc = false ∨ (z.catchType ≠ 0 ∧ ∃ nm : String, (Cond.classLink own z.catchType nm).before args s = true ∧ va_Nc E nm s)) (hcell : H[q]? = some ce) (hv : ce.vm = .none) (hcl : s.vm.findClass E = some ce.cls)
    (hx : ∀ t : State, t.heap = H → s.vm.Alike t.vm → XC E s t) (hf : ∀ z ∈ locs, free z.base) (hc : cells ≤ mc) (hs : slots ≤ ms) :
    vx_W p l e R s m args below meth c H locs cells slots (vx_MQ below Qc XC args s mc ms free) (F0 m pc ls rest) q := by
  intro T hT X
  have hpl : e.platform.magicAccessors = ({} : Platform).magicAccessors := by rw [X.admits.platform]
  obtain ⟨vm', hW', X', st⟩ := X.outThrough hlocks q (g := F0 m pc ls rest) rfl rfl rfl (cell := ce) (by rw [hT]; exact hcell) (by rw [hv]; rfl)
    (by obtain ⟨k9, h9, -⟩ := Vm.findClass_spec hcl; exact ⟨k9, h9⟩) (fun z hz => by
      rcases hpass z hz with h | ⟨hz0, nm, hl1, hn1⟩
      · exact Or.inl h
      · obtain ⟨c6, hc6, hcl6⟩ := Cond.classLink_spec hown hl1 e.platform hpl
        obtain ⟨a8, b8, h1, h2, h3⟩ := hn1
        cases Option.some.inj (h1.symm.trans hcl)
        cases Option.some.inj (h2.symm.trans hc6)
        exact Or.inr ⟨hz0, _, hcl6, h3⟩)
  obtain ⟨g₀, hfr⟩ := X'.frames_eq
  have hcell9 : ((T.setVm vm').setFrames (.throwing q :: below)).heap[q]? = some ce := by
    show T.heap[q]? = some ce
    rw [hT]; exact hcell
  have hend : Ended ((T.setVm vm').setFrames (.throwing q :: below)) below (.threw q) := State.frames_setFrames _ (State.cur_lt_of_frames hfr)
  refine ⟨(T.setVm vm').setFrames (.throwing q :: below), ?_, .threw q, X'.here.running, hend, Or.inr ⟨q, rfl, E, ce, locs, hx _ hT (X'.ends _).1.alike, hcell9, hv, hcl, (X'.ends _).1, (X'.ends _).2.mono hc hs, hf⟩⟩
  rw [X.pushThrowing_eq]
  exact st
/-- a thing of a world lies in the heap -/
theorem vx_lt {D : va_G} {cl : List vw_C} {ws : va_W} {H1 : Heap} (h : va_P D cl ws H1) {k : Nat} {q : Nat × va_E} (hk : ws[k]? = some q) : q.1 < H1.size := (h k q hk).lt
end VXS
/-! ===== END ===== -/
/-! ===== BEGIN methods with a table of their own: called by a name, returning or throwing ===== -/
section VXH
/-! vx_backW, vx_callVX, vx_callSX, vx_callVW, vx_runVW, vx_runVX, vx_runSX, vx_ofWH follow the same proofs as their sisters above (Free/Laws.lean, Shelf42/LK1.lean); vx_outP calls Shelf42/NT130.lean (outThrough). -/
section
variable {l : Launch} {R : Room} {p : Program} {e : Env} {below : List Frame} {s : State} {sargs : Array Value} {y : MethodName} {len W9 : Nat}
theorem vx_backW {ws : List Cond} {rm : Room} {Pc : Array Value → State → Prop} {Qc : Array Value → State → Outcome → State → Prop} {XC : String → State → State → Prop} {mc ms : Nat} {free : Addr → Prop} {bytes : ByteArray} {maxL : Nat} {ret : Option FieldType} {hh : List (Nat × Nat × Nat × Nat)}
    (hM : vx_Met l y ws rm Pc Qc XC mc ms free) (hblind : FrameBlind Pc) (hrc : rm.cells = mc) (hrs : rm.slots = ms)
    (hframes : rm.frames + 1 ≤ R.frames) (hlocals : W9 + (maxL + 11) + rm.locals ≤ R.locals)
    (hws : ∀ w ∈ ws, ∀ a' U, s.WarmedH U.vm → w.before a' U = true) (hcode : Cond.codeWith y bytes maxL ret hh ∈ ws) (hinit : ∀ a' U, s.WarmedH U.vm → (Cond.initialized y.cls).before a' U = true) :
    vx_Back l R p e below s sargs y len W9 (PreOf R mc ms Pc) (PostOf Qc mc ms free) (vx_Post XC mc ms free) := by
  intro m meth c A g ig mk a X hg hsize hdg hW hn hp
  have h1 : (headSpec ws rm).pre.before a A.U = true := atoms_intro fun w hw => hws w hw _ _ X.warmed
  have h2 : (Cond.codeWith y bytes maxL ret hh).before a A.U = true := hws _ hcode _ _ X.warmed
  have h3 : (Cond.initialized y.cls).before a A.U = true := hinit _ _ X.warmed
  have h4 : A.cells + (headSpec ws rm).room.cells ≤ R.cells := by rw [show (headSpec ws rm).room.cells = mc from hrc]; exact hp.1
  have h5 : A.slots + (headSpec ws rm).room.slots ≤ R.slots := by rw [show (headSpec ws rm).room.slots = ms from hrs]; exact hp.2.1
  have hPc : Pc a (A.U.calling g mk a) := hblind _ _ _ _ hp.2.2
  obtain ⟨U, Ls, c0, s0⟩ := A
  dsimp only [Pt.U, Pt.locs, Pt.cells, Pt.slots] at h1 h2 h3 h4 h5 X hn hPc ⊢
  obtain ⟨m9, methY, cY, hn9, hmY, hcY, -, hlY, -⟩ := Cond.codeWith_spec h2
  cases Option.some.inj (hn9.symm.trans hn)
  obtain ⟨kY, hkY, -⟩ := className_of_methodNamed hn
  have hinitY : kY.init = .initialized := Cond.initialized_spec (findClass_of_methodNamed hn) hkY h3
  have h : At U g.method c below := by rw [hg]; exact X.here
  have hlocals9 : W9 + (maxL + 11) + (headSpec ws rm).room.locals ≤ R.locals := hlocals
  have happ : (headSpec ws rm).appliesLoose y e.platform (U.calling g mk a) = true :=
    Spec.appliesLoose_calling (g := g) h hdg hn hkY hinitY
      (X.room_calling (g := g) (R' := (headSpec ws rm).room) hsize hmY hcY hframes (by rw [hlY]; omega) h4 h5) h1
  obtain ⟨mid, hmid⟩ := h.above
  have hfr : (U.setTop g).frames = (.java g :: mid) ++ below := by rw [State.frames_setTop' g h.top, hmid]; rfl
  obtain ⟨o, s₂, hsteps, -, hend, hq⟩ := Steps.callFree hM p X.admits X.cas X.clock (acts := []) hfr happ hPc trivial
  have hq' : vx_Q Qc XC mc ms free a (U.calling g mk a) o s₂ := hq
  rw [State.frames_setTop' g h.top] at hend
  obtain ⟨g₀, hg0⟩ := Option.isSome_iff_exists.mp h.top
  obtain ⟨r, hr⟩ := State.topJava?_eq_some.mp hg0
  have hr' : (({ U with heap := s₂.heap, slotsUsed := s₂.slotsUsed } : State).setVm s₂.vm).frames = .java g₀ :: r := hr
  rcases hq' with ⟨hqc, L, hfe, hL⟩ | ⟨q, rfl, E, ce, L, hx, hce, hcv, hcl, hW₂, hsm, hL⟩
  · obtain ⟨⟨v, rfl⟩, hW₂, e2, q2, q3, q4, q5, q6⟩ := id hfe
    have e3 : s₂ = ({ (U.calling g mk a).setFrames s₂.frames with heap := s₂.heap, slotsUsed := s₂.slotsUsed } : State).setVm s₂.vm := by
      have : s₂ = ({ s₂ with vm := (U.calling g mk a).vm } : State).setVm s₂.vm := rfl
      rw [e2] at this
      exact this
    obtain ⟨c₂, i₂, len₂, hc₂, hd₂, hf₂⟩ := hend
    have hW' : U.WarmedH s₂.vm := hW₂
    have hcc : c₂ = c := by
      have h1 : s₂.code? g.method = U.code? g.method := by
        rw [State.code?_eq, State.code?_eq, hW'.alike.method?]
      exact Option.some.inj (hc₂.symm.trans (h1.trans h.code))
    subst hcc
    have hlen : len₂ = len := by rw [hdg] at hd₂; cases hd₂; rfl
    subst hlen
    have hs₂ : s₂ = (({ U with heap := s₂.heap, slotsUsed := s₂.slotsUsed } : State).setVm s₂.vm).setTop { g with pc := g.pc + len₂, stack := v.toList ++ g.stack } := by
      refine e3.trans ?_
      rw [hf₂, State.calling_eq h.top, State.setFrames_setFrames, State.setTop_of_frames _ hr', hr]
      rfl
    have hsame : U.sameButNew ({ U with heap := s₂.heap, slotsUsed := s₂.slotsUsed } : State) L mc ms := by
      refine ⟨?_, q2, q3, q4, q5, q6⟩
      obtain ⟨t, ht, -⟩ := State.frames_cons hr
      show ({ U with heap := s₂.heap, slotsUsed := s₂.slotsUsed } : State) = { U.setFrames U.frames with heap := s₂.heap, slotsUsed := s₂.slotsUsed }
      rw [State.setFrames_self ht]
    subst hg
    refine Or.inl ⟨v, ⟨(({ U with heap := s₂.heap, slotsUsed := s₂.slotsUsed } : State).setVm s₂.vm), Ls ++ L, c0 + mc, s0 + ms⟩,
      ⟨X.admits, X.cas, X.clock, X.frames, X.room, X.hears, X.method, X.code, (X.here.setHeapUsed s₂.heap s₂.slotsUsed).setVm hW'.alike, X.tail, State.WarmedH.trans X.warmed hW', X.limits, X.bytes, X.same.trans (hsame.setVm s.vm)⟩,
      ⟨g, mk, s₂, L, rfl, rfl, hqc, rfl, hL, rfl, rfl⟩, ?_⟩
    show Steps p.tables e below _ ((({ U with heap := s₂.heap, slotsUsed := s₂.slotsUsed } : State).setVm s₂.vm).setTop { g with pc := g.pc + len₂, stack := v.toList ++ g.stack })
    rw [← hs₂]
    exact hsteps
  · obtain ⟨e2, q2, q3, q4, q5, q6⟩ := id hsm
    have e3 : s₂ = ({ (U.calling g mk a).setFrames s₂.frames with heap := s₂.heap, slotsUsed := s₂.slotsUsed } : State).setVm s₂.vm := by
      have : s₂ = ({ s₂ with vm := (U.calling g mk a).vm } : State).setVm s₂.vm := rfl
      rw [e2] at this
      exact this
    have hf₂ : s₂.frames = .throwing q :: .java g :: U.frames.tail := hend
    have hW' : U.WarmedH s₂.vm := hW₂
    have hs₂ : s₂ = ((({ U with heap := s₂.heap, slotsUsed := s₂.slotsUsed } : State).setVm s₂.vm).setTop g).pushFrame (.throwing q) := by
      refine e3.trans ?_
      rw [hf₂, State.calling_eq h.top, State.setFrames_setFrames, State.pushFrame, State.frames_setTop _ hr', State.setTop_of_frames _ hr', State.setFrames_setFrames, hr]
      rfl
    have hsame : U.sameButNew ({ U with heap := s₂.heap, slotsUsed := s₂.slotsUsed } : State) L mc ms := by
      refine ⟨?_, q2, q3, q4, q5, q6⟩
      obtain ⟨t, ht, -⟩ := State.frames_cons hr
      show ({ U with heap := s₂.heap, slotsUsed := s₂.slotsUsed } : State) = { U.setFrames U.frames with heap := s₂.heap, slotsUsed := s₂.slotsUsed }
      rw [State.setFrames_self ht]
    subst hg
    refine Or.inr ⟨q, ⟨(({ U with heap := s₂.heap, slotsUsed := s₂.slotsUsed } : State).setVm s₂.vm), Ls ++ L, c0 + mc, s0 + ms⟩,
      ⟨X.admits, X.cas, X.clock, X.frames, X.room, X.hears, X.method, X.code, (X.here.setHeapUsed s₂.heap s₂.slotsUsed).setVm hW'.alike, X.tail, State.WarmedH.trans X.warmed hW', X.limits, X.bytes, X.same.trans (hsame.setVm s.vm)⟩,
      ⟨g, mk, s₂, L, E, ce, rfl, rfl, hx, hce, hcv, hcl, rfl, hL, rfl, rfl⟩, ?_⟩
    show Steps p.tables e below _ (((({ U with heap := s₂.heap, slotsUsed := s₂.slotsUsed } : State).setVm s₂.vm).setTop g).pushFrame (.throwing q))
    rw [← hs₂]
    exact hsteps
end
variable {p : Program} {l : Launch} {e : Env} {R : Room} {s : State} {m : MethodId} {args : Array Value} {below : List Frame} {meth : Method} {c : Code} {T : State} {H : Heap} {locs : List Loc} {cells slots : Nat}
theorem vx_callVX (X : Stand p l e R s m args below meth c T locs cells slots) (hexec : p.tables.exec = Jvm.exec) {own C : String} {index : Nat} {y : MethodName} {bytes : ByteArray} {maxL : Nat} {ret : Option FieldType} {hh : List (Nat × Nat × Nat × Nat)}
    (hown : s.vm.findClass own = some m.cls) (hlink : (Cond.methodLink own index y).before args s = true) (hinst : (Cond.instanceMethod y).before args s = true) (hsel : (Cond.selects C y y).before args s = true)
    (hcode : (Cond.codeWith y bytes maxL ret hh).before args s = true) (hy : y.cls ≠ "java/lang/invoke/MethodHandle" ∧ y.cls ≠ "java/lang/invoke/VarHandle")
    {W9 : Nat} {Pre : Pt → Array Value → Prop} {Post : Pt → Array Value → Option Value → Pt → Prop} {PostX : Pt → Array Value → Addr → Pt → Prop} (hK : vx_Back l R p e below s args y 3 W9 Pre Post PostX)
    {b : Addr} {cellB : Cell} (hcell : T.heap[b]? = some cellB) (hobj : cellB.vm.isStatics = false) (hcls : s.vm.findClass C = some cellB.cls)
    {g : JFrame} (hg : g.method = m) (hsize : g.locals.size = c.maxLocals) {argsL rest : List Value} (hlen : ∀ sig, parseMethodDescriptor y.desc = some sig → argsL.length = sig.parameters.length)
    (hstack : g.stack = argsL.reverse ++ .ref b :: rest) (hW : 2 * g.monitorRoom + (rest.map fun v => v.category).sum ≤ W9) (hdg : decode c.code g.pc = .ok (.invokevirtual index, 3))
    (hpre : ∀ vm₁, s.WarmedH vm₁ → Pre ⟨T.setVm vm₁, locs, cells, slots⟩ (Value.ref b :: argsL).toArray) :
    (∃ (v : Option Value) (vm₁ : Vm) (B : Pt), s.WarmedH vm₁ ∧ Stand p l e R s m args below meth c B.U B.locs B.cells B.slots ∧ Post ⟨T.setVm vm₁, locs, cells, slots⟩ (Value.ref b :: argsL).toArray v B ∧
      ∀ target, Steps p.tables e below (B.U.setTop { g with pc := g.pc + 3, stack := v.toList ++ rest }) target → Steps p.tables e below (T.setTop g) target) ∨
    (∃ (q : Addr) (vm₁ : Vm) (B : Pt), s.WarmedH vm₁ ∧ Stand p l e R s m args below meth c B.U B.locs B.cells B.slots ∧ PostX ⟨T.setVm vm₁, locs, cells, slots⟩ (Value.ref b :: argsL).toArray q B ∧
      Steps p.tables e below (T.setTop g) ((B.U.setTop { g with stack := rest }).pushFrame (.throwing q))) := by
  obtain ⟨mk, methM, hnamed, hmethM, hstM, habM⟩ := Cond.instanceMethod_spec hinst
  obtain ⟨m8, methM', cM, hn8, hmethM', -, -, -, -, -, -, hsigM⟩ := Cond.codeWith_spec hcode
  cases Option.some.inj (hn8.symm.trans hnamed)
  cases hmethM.symm.trans hmethM'
  obtain ⟨c2, r2, m2, q1, q2, q3, q4, kP, hkP, hkPi⟩ := Cond.selects_spec hsel
  cases hcls.symm.trans q1
  cases (State.methodFound?_of_named hnamed hy).symm.trans q2
  cases hnamed.symm.trans q3
  have hselP : selectMethod e.platform s.vm cellB.cls mk = .method mk := by rw [Launch.admits_selectMethod X.admits]; exact q4
  obtain ⟨vm₁, X₁, hstep₁⟩ := X.invokevirtual hexec hown hlink hnamed hmethM hstM hkP hkPi hy (a := b) (cell := cellB) hcell
    (fun z h => by rw [h] at hobj; cases hobj) hselP hmethM habM hkP hkPi (g := g) hg (argsL := argsL) (rest := rest) (hlen _ hsigM) hstack hdg
  rcases hK m meth c ⟨T.setVm vm₁, locs, cells, slots⟩ { g with stack := rest } (.invokevirtual index) mk (Value.ref b :: argsL).toArray X₁ hg hsize hdg hW (X₁.named hnamed) (hpre vm₁ X₁.warmed) with ⟨v, B, X', hpost, hsteps⟩ | ⟨q, B, X', hpost, hsteps⟩
  · exact Or.inl ⟨v, vm₁, B, X₁.warmed, X', hpost, fun target h => hstep₁ _ fun acts => by rw [doInvoke_state]; exact hsteps.trans h⟩
  · exact Or.inr ⟨q, vm₁, B, X₁.warmed, X', hpost, hstep₁ _ fun acts => by rw [doInvoke_state]; exact hsteps⟩
theorem vx_callSX (X : Stand p l e R s m args below meth c T locs cells slots) (hexec : p.tables.exec = Jvm.exec) {own : String} {index : Nat} {y : MethodName} {bytes : ByteArray} {maxL : Nat} {ret : Option FieldType} {hh : List (Nat × Nat × Nat × Nat)}
    (hown : s.vm.findClass own = some m.cls) (hlink : (Cond.methodLink own index y).before args s = true) (hstat : (Cond.static y).before args s = true) (hinit : (Cond.initialized y.cls).before args s = true)
    (hcode : (Cond.codeWith y bytes maxL ret hh).before args s = true) (hy : y.cls ≠ "java/lang/invoke/MethodHandle" ∧ y.cls ≠ "java/lang/invoke/VarHandle")
    {W9 : Nat} {Pre : Pt → Array Value → Prop} {Post : Pt → Array Value → Option Value → Pt → Prop} {PostX : Pt → Array Value → Addr → Pt → Prop} (hK : vx_Back l R p e below s args y 3 W9 Pre Post PostX)
    {g : JFrame} (hg : g.method = m) (hsize : g.locals.size = c.maxLocals) {argsL rest : List Value} (hlen : ∀ sig, parseMethodDescriptor y.desc = some sig → argsL.length = sig.parameters.length)
    (hstack : g.stack = argsL.reverse ++ rest) (hW : 2 * g.monitorRoom + (rest.map fun v => v.category).sum ≤ W9) (hdg : decode c.code g.pc = .ok (.invokestatic index, 3))
    (hpre : ∀ vm₁, s.WarmedH vm₁ → Pre ⟨T.setVm vm₁, locs, cells, slots⟩ argsL.toArray) :
    (∃ (v : Option Value) (vm₁ : Vm) (B : Pt), s.WarmedH vm₁ ∧ Stand p l e R s m args below meth c B.U B.locs B.cells B.slots ∧ Post ⟨T.setVm vm₁, locs, cells, slots⟩ argsL.toArray v B ∧
      ∀ target, Steps p.tables e below (B.U.setTop { g with pc := g.pc + 3, stack := v.toList ++ rest }) target → Steps p.tables e below (T.setTop g) target) ∨
    (∃ (q : Addr) (vm₁ : Vm) (B : Pt), s.WarmedH vm₁ ∧ Stand p l e R s m args below meth c B.U B.locs B.cells B.slots ∧ PostX ⟨T.setVm vm₁, locs, cells, slots⟩ argsL.toArray q B ∧
      Steps p.tables e below (T.setTop g) ((B.U.setTop { g with stack := rest }).pushFrame (.throwing q))) := by
  obtain ⟨mk, methM, cM, hnamed, hmethM, -, -, -, -, -, -, hsigM⟩ := Cond.codeWith_spec hcode
  have hstatic : methM.isStatic = true := Cond.static_spec hnamed hmethM hstat
  obtain ⟨kP, hkP, -⟩ := className_of_methodNamed hnamed
  have hinitP : kP.init = .initialized := Cond.initialized_spec (findClass_of_methodNamed hnamed) hkP hinit
  obtain ⟨vm₁, X₁, hstep₁⟩ := X.invokestatic hexec hown hlink hnamed hmethM hstatic hkP hinitP hy (g := g) hg (argsL := argsL) (rest := rest) (hlen _ hsigM) hstack hdg
  rcases hK m meth c ⟨T.setVm vm₁, locs, cells, slots⟩ { g with stack := rest } (.invokestatic index) mk argsL.toArray X₁ hg hsize hdg hW (X₁.named hnamed) (hpre vm₁ X₁.warmed) with ⟨v, B, X', hpost, hsteps⟩ | ⟨q, B, X', hpost, hsteps⟩
  · exact Or.inl ⟨v, vm₁, B, X₁.warmed, X', hpost, fun target h => hstep₁ _ fun acts => by rw [doInvoke_state]; exact hsteps.trans h⟩
  · exact Or.inr ⟨q, vm₁, B, X₁.warmed, X', hpost, hstep₁ _ fun acts => by rw [doInvoke_state]; exact hsteps⟩
theorem vx_callVW (X : Stand p l e R s m args below meth c T locs cells slots) (hexec : p.tables.exec = Jvm.exec) {own C : String} {index : Nat} {y : MethodName} {bytes : ByteArray} {maxL : Nat} {ret : Option FieldType} {hh : List (Nat × Nat × Nat × Nat)}
    (hown : s.vm.findClass own = some m.cls) (hlink : (Cond.methodLink own index y).before args s = true) (hinst : (Cond.instanceMethod y).before args s = true) (hsel : (Cond.selects C y y).before args s = true)
    (hcode : (Cond.codeWith y bytes maxL ret hh).before args s = true) (hy : y.cls ≠ "java/lang/invoke/MethodHandle" ∧ y.cls ≠ "java/lang/invoke/VarHandle")
    {W9 : Nat} {Pre : Pt → Array Value → Prop} {Post : Pt → Array Value → Option Value → Pt → Prop} (hK : Back l R p e below s args y 3 W9 Pre Post)
    {b : Addr} {cellB : Cell} (hcell : T.heap[b]? = some cellB) (hobj : cellB.vm.isStatics = false) (hcls : s.vm.findClass C = some cellB.cls)
    {g : JFrame} (hg : g.method = m) (hsize : g.locals.size = c.maxLocals) {argsL rest : List Value} (hlen : ∀ sig, parseMethodDescriptor y.desc = some sig → argsL.length = sig.parameters.length)
    (hstack : g.stack = argsL.reverse ++ .ref b :: rest) (hW : 2 * g.monitorRoom + (rest.map fun v => v.category).sum ≤ W9) (hdg : decode c.code g.pc = .ok (.invokevirtual index, 3))
    (hpre : ∀ vm₁, s.WarmedH vm₁ → Pre ⟨T.setVm vm₁, locs, cells, slots⟩ (Value.ref b :: argsL).toArray) :
    ∃ (v : Option Value) (vm₁ : Vm) (B : Pt), s.WarmedH vm₁ ∧ Stand p l e R s m args below meth c B.U B.locs B.cells B.slots ∧ Post ⟨T.setVm vm₁, locs, cells, slots⟩ (Value.ref b :: argsL).toArray v B ∧
      ∀ target, Steps p.tables e below (B.U.setTop { g with pc := g.pc + 3, stack := v.toList ++ rest }) target → Steps p.tables e below (T.setTop g) target := by
  obtain ⟨mk, methM, hnamed, hmethM, hstM, habM⟩ := Cond.instanceMethod_spec hinst
  obtain ⟨m8, methM', cM, hn8, hmethM', -, -, -, -, -, -, hsigM⟩ := Cond.codeWith_spec hcode
  cases Option.some.inj (hn8.symm.trans hnamed)
  cases hmethM.symm.trans hmethM'
  obtain ⟨c2, r2, m2, q1, q2, q3, q4, kP, hkP, hkPi⟩ := Cond.selects_spec hsel
  cases hcls.symm.trans q1
  cases (State.methodFound?_of_named hnamed hy).symm.trans q2
  cases hnamed.symm.trans q3
  have hselP : selectMethod e.platform s.vm cellB.cls mk = .method mk := by rw [Launch.admits_selectMethod X.admits]; exact q4
  obtain ⟨vm₁, X₁, hstep₁⟩ := X.invokevirtual hexec hown hlink hnamed hmethM hstM hkP hkPi hy (a := b) (cell := cellB) hcell
    (fun z h => by rw [h] at hobj; cases hobj) hselP hmethM habM hkP hkPi (g := g) hg (argsL := argsL) (rest := rest) (hlen _ hsigM) hstack hdg
  obtain ⟨v, B, X', hpost, hsteps⟩ := hK m meth c ⟨T.setVm vm₁, locs, cells, slots⟩ { g with stack := rest } (.invokevirtual index) mk (Value.ref b :: argsL).toArray X₁ hg hsize hdg hW (X₁.named hnamed) (hpre vm₁ X₁.warmed)
  exact ⟨v, vm₁, B, X₁.warmed, X', hpost, fun target h => hstep₁ _ fun acts => by rw [doInvoke_state]; exact hsteps.trans h⟩
abbrev vx_CVW (R : Room) (s : State) (args : Array Value) (own C : String) (index : Nat) (y : MethodName) (bytes : ByteArray) (maxL : Nat) (ret : Option FieldType) (hh : List (Nat × Nat × Nat × Nat)) (ws : List Cond) (rm : Room) (mc ms n : Nat) : Prop :=
  (rm.cells = mc ∧ rm.slots = ms ∧ rm.frames + 1 ≤ R.frames ∧ 8 + (maxL + 11) + rm.locals ≤ R.locals ∧ (∀ w ∈ ws, ∀ (a' : Array Value) (U : State), s.WarmedH U.vm → w.before a' U = true) ∧ Cond.codeWith y bytes maxL ret hh ∈ ws) ∧
  (Cond.codeWith y bytes maxL ret hh).before args s = true ∧ (Cond.initialized y.cls).before args s = true ∧ (y.cls ≠ "java/lang/invoke/MethodHandle" ∧ y.cls ≠ "java/lang/invoke/VarHandle") ∧
  (∀ sig, parseMethodDescriptor y.desc = some sig → n = sig.parameters.length) ∧ (Cond.methodLink own index y).before args s = true ∧ (Cond.instanceMethod y).before args s = true ∧ (Cond.selects C y y).before args s = true
theorem vx_cwVW {own C : String} {index maxL mc ms : Nat} {y : MethodName} {bytes : ByteArray} {ret : Option FieldType} {hh : List (Nat × Nat × Nat × Nat)} {Ts ws ws' : List Cond} {rm : Room} (n : Nat) (ht : ∀ w ∈ Ts, w.before args s = true) (hT : GoodIn Ts (wsV own index C y ws)) (hw : ws = Cond.codeWith y bytes maxL ret hh :: ws') (hrc : rm.cells = mc) (hrs : rm.slots = ms)
    (hd : y.cls = C ∧ y.cls ≠ "java/lang/invoke/MethodHandle" ∧ y.cls ≠ "java/lang/invoke/VarHandle" ∧ (parseMethodDescriptor y.desc).map (fun d => d.parameters.length) = some n) (hR : rm.frames + 1 ≤ R.frames ∧ 8 + (maxL + 11) + rm.locals ≤ R.locals) :
    vx_CVW R s args own C index y bytes maxL ret hh ws rm mc ms n := by
  obtain ⟨hC, hd⟩ := hd
  subst hC
  have ok : ∀ w ∈ wsV own index y.cls y ws, w.before args s = true := fun w h => ht w (hT w h).1
  have hG : GoodIn Ts ws := fun w h => hT w (by unfold wsV; exact List.mem_append_right _ h)
  have hc : Cond.codeWith y bytes maxL ret hh ∈ ws := by rw [hw]; exact List.mem_cons_self
  refine ⟨⟨hrc, hrs, hR.1, hR.2, pay_in ht hG, hc⟩, ht _ (hG _ hc).1, ok _ (by simp [wsV]), ⟨hd.1, hd.2.1⟩, fun sig h => ?_, ok _ (by simp [wsV]), ok _ (by simp [wsV]), ok _ (by simp [wsV])⟩
  have h2 := hd.2.2
  rw [h] at h2
  exact (Option.some.inj h2).symm
theorem vx_runVW {y : MethodName} {bytes cc : ByteArray} {maxL nL mc ms n index : Nat} {ret : Option FieldType} {hh : List (Nat × Nat × Nat × Nat)} {ws : List Cond} {rm : Room} {Pc : Array Value → State → Prop} {Qc : Array Value → State → Outcome → State → Prop} {free : Addr → Prop} {Ts : List Cond} {own C : String} {b : Addr} {As rest : List Value} {g : JFrame}
    (S : CallFix p m c cc nL s args Ts own) (hM : Met l y ws rm Pc Qc mc ms free) (cw : vx_CVW R s args own C index y bytes maxL ret hh ws rm mc ms n) (hp : PreV s H C b Pc As)
    (hg : g.method = m) (hn : As.length = n) (hsize : g.locals.size = nL) (hstack : g.stack = As.reverse ++ .ref b :: rest) (hW : 2 * g.monitorRoom + (rest.map fun v => v.category).sum ≤ 8) (hdg : decode cc g.pc = .ok (.invokevirtual index, 3)) (hf : cells + mc ≤ R.cells ∧ slots + ms ≤ R.slots) :
    va_Run p l e R s m args below meth c H locs cells slots mc ms g rest (Qc (Value.ref b :: As).toArray) free := by
  obtain ⟨⟨hrc, hrs, hfr, hlo, hws, hcw⟩, hcode, hini, hy, hlen, hl, hin, hse⟩ := cw
  have hK : Back l R p e below s args y 3 8 (PreOf R mc ms Pc) (PostOf Qc mc ms free) := va_backW (hh := hh) (bytes := bytes) (maxL := maxL) (ret := ret) hM hp.1 hrc hrs hfr hlo hws hcw (fun a' U hW => word_at hW (Or.inl (by first | rfl | simp [Cond.onTables, Cond.keeps, Cond.steady])) hini)
  obtain ⟨hx, hb, hml, ho, -⟩ := S
  obtain ⟨-, ⟨cellB, hcB, hoB, hclB⟩, hPc⟩ := hp
  intro T hT X
  obtain ⟨v, vm₁, ⟨U', l2, c2, s2⟩, hW₁, X', ⟨g', mk, t, L, e1, e2, hq, h1, hL, h2, h3⟩, st⟩ := vx_callVW X hx (C := C) (hh := hh) (bytes := bytes) (maxL := maxL) (ret := ret) ho hl hin hse hcode hy hK (by rw [hT]; exact hcB) hoB hclB hg (hsize.trans hml.symm) (argsL := As) (rest := rest) (fun sig h => hn.trans (hlen sig h)) hstack hW (by rw [hb]; exact hdg)
    (fun vm₁ hW₁ => ⟨hf.1, hf.2, hPc (T.setVm vm₁) hT hW₁⟩)
  dsimp only [Pt.U, Pt.locs, Pt.cells, Pt.slots] at X' e1 e2 h1 h2 h3 st
  subst h1; subst h2; subst h3
  exact ⟨v, (T.setVm vm₁).calling g' mk (Value.ref b :: As).toArray, t, U', L, hT, X', hL, e1, e2, hq, st⟩
section
variable {y : MethodName} {bytes cc : ByteArray} {maxL nL mc ms n index : Nat} {ret : Option FieldType} {ws : List Cond} {rm : Room} {Pc : Array Value → State → Prop} {Qc : Array Value → State → Outcome → State → Prop} {XC : String → State → State → Prop} {free : Addr → Prop} {Ts : List Cond} {own C : String} {b : Addr} {As rest : List Value} {g : JFrame}
theorem vx_runVX {hh : List (Nat × Nat × Nat × Nat)} (S : CallFix p m c cc nL s args Ts own) (hM : vx_Met l y ws rm Pc Qc XC mc ms free) (cw : vx_CVW R s args own C index y bytes maxL ret hh ws rm mc ms n) (hp : PreV s H C b Pc As)
    (hg : g.method = m) (hn : As.length = n) (hsize : g.locals.size = nL) (hstack : g.stack = As.reverse ++ .ref b :: rest) (hW : 2 * g.monitorRoom + (rest.map fun v => v.category).sum ≤ 8) (hdg : decode cc g.pc = .ok (.invokevirtual index, 3)) (hf : cells + mc ≤ R.cells ∧ slots + ms ≤ R.slots) :
    vx_Run p l e R s m args below meth c H locs cells slots mc ms g rest (Qc (Value.ref b :: As).toArray) XC free := by
  obtain ⟨⟨hrc, hrs, hfr, hlo, hws, hcw⟩, hcode, hini, hy, hlen, hl, hin, hse⟩ := cw
  have hK : vx_Back l R p e below s args y 3 8 (PreOf R mc ms Pc) (PostOf Qc mc ms free) (vx_Post XC mc ms free) := vx_backW (hh := hh) (bytes := bytes) (maxL := maxL) (ret := ret) hM hp.1 hrc hrs hfr hlo hws hcw (fun a' U hW => word_at hW (Or.inl (by first | rfl | simp [Cond.onTables, Cond.keeps, Cond.steady])) hini)
  obtain ⟨hx, hb, hml, ho, -⟩ := S
  obtain ⟨-, ⟨cellB, hcB, hoB, hclB⟩, hPc⟩ := hp
  intro T hT X
  rcases vx_callVX X hx (C := C) (hh := hh) (bytes := bytes) (maxL := maxL) (ret := ret) ho hl hin hse hcode hy hK (by rw [hT]; exact hcB) hoB hclB hg (hsize.trans hml.symm) (argsL := As) (rest := rest) (fun sig h => hn.trans (hlen sig h)) hstack hW (by rw [hb]; exact hdg)
    (fun vm₁ hW₁ => ⟨hf.1, hf.2, hPc (T.setVm vm₁) hT hW₁⟩) with ⟨v, vm₁, ⟨U', l2, c2, s2⟩, hW₁, X', ⟨g', mk, t, L, e1, e2, hq, h1, hL, h2, h3⟩, st⟩ | ⟨q, vm₁, ⟨U', l2, c2, s2⟩, hW₁, X', ⟨g', mk, t, L, E, ce, e1, e2, hq, hce, hcv, hcl, h1, hL, h2, h3⟩, st⟩
  · dsimp only [Pt.U, Pt.locs, Pt.cells, Pt.slots] at X' e1 e2 h1 h2 h3 st
    subst h1; subst h2; subst h3
    exact Or.inl ⟨v, (T.setVm vm₁).calling g' mk (Value.ref b :: As).toArray, t, U', L, hT, X', hL, e1, e2, hq, st⟩
  · dsimp only [Pt.U, Pt.locs, Pt.cells, Pt.slots] at X' e1 e2 h1 h2 h3 st hcl
    subst h1; subst h2; subst h3
    exact Or.inr ⟨q, (T.setVm vm₁).calling g' mk (Value.ref b :: As).toArray, t, U', L, E, ce, hT, X', hL, e1, e2, hq, hce, hcv, vx_cls hW₁ hcl, st⟩
theorem vx_runSX {hh : List (Nat × Nat × Nat × Nat)} (S : CallFix p m c cc nL s args Ts own) (hM : vx_Met l y ws rm Pc Qc XC mc ms free) (cw : vx_CSW R s args own index y bytes maxL ret hh ws rm mc ms n) (hp : PreS s H Pc As)
    (hg : g.method = m) (hn : As.length = n) (hsize : g.locals.size = nL) (hstack : g.stack = As.reverse ++ rest) (hW : 2 * g.monitorRoom + (rest.map fun v => v.category).sum ≤ 8) (hdg : decode cc g.pc = .ok (.invokestatic index, 3)) (hf : cells + mc ≤ R.cells ∧ slots + ms ≤ R.slots) :
    vx_Run p l e R s m args below meth c H locs cells slots mc ms g rest (Qc As.toArray) XC free := by
  obtain ⟨⟨hrc, hrs, hfr, hlo, hws, hcw⟩, hcode, hini, hy, hlen, hl, hstt⟩ := cw
  have hK : vx_Back l R p e below s args y 3 8 (PreOf R mc ms Pc) (PostOf Qc mc ms free) (vx_Post XC mc ms free) := vx_backW (hh := hh) (bytes := bytes) (maxL := maxL) (ret := ret) hM hp.1 hrc hrs hfr hlo hws hcw (fun a' U hW => word_at hW (Or.inl (by first | rfl | simp [Cond.onTables, Cond.keeps, Cond.steady])) hini)
  obtain ⟨hx, hb, hml, ho, -⟩ := S
  intro T hT X
  rcases vx_callSX X hx (hh := hh) (bytes := bytes) (maxL := maxL) (ret := ret) ho hl hstt hini hcode hy hK hg (hsize.trans hml.symm) (argsL := As) (rest := rest) (fun sig h => hn.trans (hlen sig h)) hstack hW (by rw [hb]; exact hdg)
    (fun vm₁ hW₁ => ⟨hf.1, hf.2, hp.2 (T.setVm vm₁) hT hW₁⟩) with ⟨v, vm₁, ⟨U', l2, c2, s2⟩, hW₁, X', ⟨g', mk, t, L, e1, e2, hq, h1, hL, h2, h3⟩, st⟩ | ⟨q, vm₁, ⟨U', l2, c2, s2⟩, hW₁, X', ⟨g', mk, t, L, E, ce, e1, e2, hq, hce, hcv, hcl, h1, hL, h2, h3⟩, st⟩
  · dsimp only [Pt.U, Pt.locs, Pt.cells, Pt.slots] at X' e1 e2 h1 h2 h3 st
    subst h1; subst h2; subst h3
    exact Or.inl ⟨v, (T.setVm vm₁).calling g' mk As.toArray, t, U', L, hT, X', hL, e1, e2, hq, st⟩
  · dsimp only [Pt.U, Pt.locs, Pt.cells, Pt.slots] at X' e1 e2 h1 h2 h3 st hcl
    subst h1; subst h2; subst h3
    exact Or.inr ⟨q, (T.setVm vm₁).calling g' mk As.toArray, t, U', L, E, ce, hT, X', hL, e1, e2, hq, hce, hcv, vx_cls hW₁ hcl, st⟩
end
end VXH
theorem vx_ofWH {l : Launch} {y : MethodName} {ws ws' : List Cond} {rm : Room} {Pc : Array Value → State → Prop} {Qc : Array Value → State → Outcome → State → Prop} {XC : String → State → State → Prop} {mc ms : Nat} {free : Addr → Prop} {cc : ByteArray} {maxL : Nat} {ret : Option FieldType} {hh : List (Nat × Nat × Nat × Nat)}
    (hy : plainName y.cls = true) (hw : ws = Cond.codeWith y cc maxL ret hh :: ws')
    (body : ∀ p e s m args below meth c s₁, BodyLoose p l y (headSpec ws rm) cc maxL ret e s m args below meth c s₁ → c.maxLocals = maxL → Pc args s →
      W p l e (headSpec ws rm).room s m args below meth c s.heap [] 0 0 (vx_MQ below Qc XC args s mc ms free) (entryFrame m args maxL)) : vx_Met l y ws rm Pc Qc XC mc ms free := by
  refine MetFree.of_bodyS (code := cc) (maxLocals := maxL) (ret := ret) hy ?_ ?_
  · intro args s m h hn
    obtain ⟨m9, meth, c, hn9, h1, h2, h3, h4, -, h5, h6, -⟩ := Cond.codeWith_spec (atoms_spec (ws := ws) h _ (by rw [hw]; exact List.mem_cons_self))
    cases hn.symm.trans hn9
    exact ⟨meth, c, h1, h2, h3, h4, h5, h6⟩
  · intro p e s m args below meth c s₁ B hml hP _
    have hh0 : s₁.heap = s.heap := by rw [B.state]; rfl
    obtain ⟨t, a1, o, b1, b2, b3⟩ := body p e s m args below meth c s₁ B hml hP s₁ hh0 (Stand.of_body B)
    exact ⟨t, o, a1, b1, b2, b3⟩
/-! ===== END ===== -/
end
section
def RX0 : String := "CliqueLabels$Bound"
def TX0 : u_T := fun k => match k with
  | 0 => ("CliqueLabels$Bound", "exists", "Z", false)
  | 1 => ("CliqueLabels$Bound", "above", "J", false)
  | 2 => ("CliqueLabels$Bound", "below", "J", false)
  | _ => ("CliqueLabels$Bound", "teller", "I", false)
def tyX0 : Nat → FieldType := fun k => match k with
  | 0 => .boolean
  | 1 => .long
  | 2 => .long
  | _ => .int
abbrev wsX00 : List Cond := u_ws RX0 TX0 4
theorem nmX0 : ∀ a, a < 4 → ∀ b, b < 4 → a ≠ b → (TX0 a).2.1 ≠ (TX0 b).2.1 := by decide +kernel
theorem tyX0_ok : ∀ k, k < 4 → parseFieldDescriptor (TX0 k).2.2.1 = some (tyX0 k) := by decide +kernel
abbrev cX0_init : ByteArray := prog_2_method_1_code
def yX0_init : MethodName := ⟨RX0, "<init>", "()V"⟩
abbrev cX0_tellOf : ByteArray := prog_2_method_2_code
def yX0_tellOf : MethodName := ⟨RX0, "tellOf", "(LCliqueLabels$Graph;)V"⟩
abbrev cX0_tellNone : ByteArray := prog_2_method_3_code
def yX0_tellNone : MethodName := ⟨RX0, "tellNone", "()V"⟩
abbrev cX0_measure : ByteArray := prog_2_method_4_code
def yX0_measure : MethodName := ⟨RX0, "measure", "(LCliqueLabels$Graph;[I)V"⟩
abbrev cX0_raise : ByteArray := prog_2_method_5_code
def yX0_raise : MethodName := ⟨RX0, "raise", "(JJI)V"⟩
abbrev cX0_isLessThan : ByteArray := prog_2_method_6_code
def yX0_isLessThan : MethodName := ⟨RX0, "isLessThan", "(LCliqueLabels$Bound;)Z"⟩
abbrev cX0_copyFrom : ByteArray := prog_2_method_7_code
def yX0_copyFrom : MethodName := ⟨RX0, "copyFrom", "(LCliqueLabels$Bound;)V"⟩
abbrev cX0_reduce : ByteArray := prog_2_method_8_code
def yX0_reduce : MethodName := ⟨RX0, "reduce", "()V"⟩
abbrev cX0_partOf : ByteArray := prog_2_method_9_code
def yX0_partOf : MethodName := ⟨RX0, "partOf", "(I)J"⟩
def RX1 : String := "CliqueLabels$Cliques"
def TX1 : u_T := fun k => match k with
  | 0 => ("CliqueLabels$Cliques", "weights", "[I", true)
  | _ => ("CliqueLabels$Cliques", "masks", "I", false)
def tyX1 : Nat → FieldType := fun k => match k with
  | 0 => .array .int
  | _ => .int
abbrev wsX10 : List Cond := u_ws RX1 TX1 2
theorem nmX1 : ∀ a, a < 2 → ∀ b, b < 2 → a ≠ b → (TX1 a).2.1 ≠ (TX1 b).2.1 := by decide +kernel
theorem tyX1_ok : ∀ k, k < 2 → parseFieldDescriptor (TX1 k).2.2.1 = some (tyX1 k) := by decide +kernel
abbrev cX1_init : ByteArray := prog_3_method_1_code
def yX1_init : MethodName := ⟨RX1, "<init>", "()V"⟩
abbrev cX1_find : ByteArray := prog_3_method_2_code
def yX1_find : MethodName := ⟨RX1, "find", "(LCliqueLabels$Graph;)V"⟩
abbrev cX1_weightOf : ByteArray := prog_3_method_3_code
def yX1_weightOf : MethodName := ⟨RX1, "weightOf", "(I)I"⟩
abbrev cX1_heaviestWith : ByteArray := prog_3_method_4_code
def yX1_heaviestWith : MethodName := ⟨RX1, "heaviestWith", "(I)I"⟩
abbrev cX1_mostVertices : ByteArray := prog_3_method_5_code
def yX1_mostVertices : MethodName := ⟨RX1, "mostVertices", "()I"⟩
def RX2 : String := "CliqueLabels$Coloring"
def TX2 : u_T := fun k => match k with
  | 0 => ("CliqueLabels$Coloring", "colors", "[I", true)
  | _ => ("CliqueLabels$Coloring", "number", "I", false)
def tyX2 : Nat → FieldType := fun k => match k with
  | 0 => .array .int
  | _ => .int
abbrev wsX20 : List Cond := u_ws RX2 TX2 2
theorem nmX2 : ∀ a, a < 2 → ∀ b, b < 2 → a ≠ b → (TX2 a).2.1 ≠ (TX2 b).2.1 := by decide +kernel
theorem tyX2_ok : ∀ k, k < 2 → parseFieldDescriptor (TX2 k).2.2.1 = some (tyX2 k) := by decide +kernel
abbrev cX2_init : ByteArray := prog_4_method_1_code
def yX2_init : MethodName := ⟨RX2, "<init>", "()V"⟩
abbrev cX2_find : ByteArray := prog_4_method_2_code
def yX2_find : MethodName := ⟨RX2, "find", "(LCliqueLabels$Graph;)V"⟩
abbrev cX2_paint : ByteArray := prog_4_method_3_code
def yX2_paint : MethodName := ⟨RX2, "paint", "(LCliqueLabels$Graph;[IIII)Z"⟩
abbrev cX2_isFree : ByteArray := prog_4_method_4_code
def yX2_isFree : MethodName := ⟨RX2, "isFree", "(LCliqueLabels$Graph;[III)Z"⟩
def RX3 : String := "CliqueLabels$EdgeText"
def TX3 : u_T := fun k => match k with
  | 0 => ("CliqueLabels$EdgeText", "codes", "[C", true)
  | _ => ("CliqueLabels$EdgeText", "length", "I", false)
def tyX3 : Nat → FieldType := fun k => match k with
  | 0 => .array .char
  | _ => .int
abbrev wsX30 : List Cond := u_ws RX3 TX3 2
theorem nmX3 : ∀ a, a < 2 → ∀ b, b < 2 → a ≠ b → (TX3 a).2.1 ≠ (TX3 b).2.1 := by decide +kernel
theorem tyX3_ok : ∀ k, k < 2 → parseFieldDescriptor (TX3 k).2.2.1 = some (tyX3 k) := by decide +kernel
abbrev cX3_init : ByteArray := prog_5_method_1_code
def yX3_init : MethodName := ⟨RX3, "<init>", "()V"⟩
abbrev cX3_firstFault : ByteArray := prog_5_method_2_code
def yX3_firstFault : MethodName := ⟨RX3, "firstFault", "(I)I"⟩
abbrev cX3_goesOn : ByteArray := prog_5_method_3_code
def yX3_goesOn : MethodName := ⟨RX3, "goesOn", "(II)Z"⟩
abbrev cX3_isWhole : ByteArray := prog_5_method_4_code
def yX3_isWhole : MethodName := ⟨RX3, "isWhole", "(I)Z"⟩
abbrev cX3_joinAll : ByteArray := prog_5_method_5_code
def yX3_joinAll : MethodName := ⟨RX3, "joinAll", "(LCliqueLabels$Graph;)V"⟩
def RX4 : String := "CliqueLabels$Graph"
def TX4 : u_T := fun k => match k with
  | 0 => ("CliqueLabels$Graph", "n", "I", false)
  | 1 => ("CliqueLabels$Graph", "d", "I", false)
  | 2 => ("CliqueLabels$Graph", "neighbors", "[I", true)
  | 3 => ("CliqueLabels$Graph", "weights", "[I", true)
  | 4 => ("CliqueLabels$Graph", "labels", "[[I", true)
  | _ => ("CliqueLabels$Graph", "handle", "[I", true)
def tyX4 : Nat → FieldType := fun k => match k with
  | 0 => .int
  | 1 => .int
  | 2 => .array .int
  | 3 => .array .int
  | 4 => .array (.array .int)
  | _ => .array .int
abbrev wsX40 : List Cond := u_ws RX4 TX4 6
theorem nmX4 : ∀ a, a < 6 → ∀ b, b < 6 → a ≠ b → (TX4 a).2.1 ≠ (TX4 b).2.1 := by decide +kernel
theorem tyX4_ok : ∀ k, k < 6 → parseFieldDescriptor (TX4 k).2.2.1 = some (tyX4 k) := by decide +kernel
abbrev cX4_init : ByteArray := prog_6_method_1_code
def yX4_init : MethodName := ⟨RX4, "<init>", "()V"⟩
abbrev cX4_clear : ByteArray := prog_6_method_2_code
def yX4_clear : MethodName := ⟨RX4, "clear", "(II)V"⟩
abbrev cX4_copyFrom : ByteArray := prog_6_method_3_code
def yX4_copyFrom : MethodName := ⟨RX4, "copyFrom", "(LCliqueLabels$Graph;)V"⟩
abbrev cX4_areJoined : ByteArray := prog_6_method_4_code
def yX4_areJoined : MethodName := ⟨RX4, "areJoined", "(II)Z"⟩
abbrev cX4_connect : ByteArray := prog_6_method_5_code
def yX4_connect : MethodName := ⟨RX4, "connect", "(IIZ)V"⟩
abbrev cX4_edges : ByteArray := prog_6_method_6_code
def yX4_edges : MethodName := ⟨RX4, "edges", "()I"⟩
abbrev cX4_flipEdges : ByteArray := prog_6_method_7_code
def yX4_flipEdges : MethodName := ⟨RX4, "flipEdges", "()V"⟩
abbrev cX4_drop : ByteArray := prog_6_method_8_code
def yX4_drop : MethodName := ⟨RX4, "drop", "(I)V"⟩
abbrev cX4_becomeProduct : ByteArray := prog_6_method_9_code
def yX4_becomeProduct : MethodName := ⟨RX4, "becomeProduct", "(LCliqueLabels$Graph;LCliqueLabels$Graph;)V"⟩
abbrev cX4_productNeighbors : ByteArray := prog_6_method_10_code
def yX4_productNeighbors : MethodName := ⟨RX4, "productNeighbors", "(LCliqueLabels$Graph;ILCliqueLabels$Graph;I)I"⟩
abbrev cX4_fillProduct : ByteArray := prog_6_method_11_code
def yX4_fillProduct : MethodName := ⟨RX4, "fillProduct", "(LCliqueLabels$Graph;[ILCliqueLabels$Graph;[I[I)V"⟩
abbrev cX4_labelBy : ByteArray := prog_6_method_12_code
def yX4_labelBy : MethodName := ⟨RX4, "labelBy", "(LCliqueLabels$Coloring;)V"⟩
abbrev cX4_greatestWeight : ByteArray := prog_6_method_13_code
def yX4_greatestWeight : MethodName := ⟨RX4, "greatestWeight", "()I"⟩
abbrev cX4_furthestOfLabels : ByteArray := prog_6_method_14_code
def yX4_furthestOfLabels : MethodName := ⟨RX4, "furthestOfLabels", "()I"⟩
abbrev cX4_unfit : ByteArray := prog_6_method_15_code
def yX4_unfit : MethodName := ⟨RX4, "unfit", "(II)Z"⟩
abbrev cX4_unfitPairs : ByteArray := prog_6_method_16_code
def yX4_unfitPairs : MethodName := ⟨RX4, "unfitPairs", "()I"⟩
abbrev cX4_unfitPartner : ByteArray := prog_6_method_17_code
def yX4_unfitPartner : MethodName := ⟨RX4, "unfitPartner", "(I)I"⟩
abbrev cX4_firstUnfit : ByteArray := prog_6_method_18_code
def yX4_firstUnfit : MethodName := ⟨RX4, "firstUnfit", "()I"⟩
abbrev cX4_firstMissed : ByteArray := prog_6_method_19_code
def yX4_firstMissed : MethodName := ⟨RX4, "firstMissed", "([I)I"⟩
def RX5 : String := "CliqueLabels$HandleSearch"
def TX5 : u_T := fun k => match k with
  | 0 => ("CliqueLabels$HandleSearch", "best", "[I", true)
  | 1 => ("CliqueLabels$HandleSearch", "least", "LCliqueLabels$Bound;", true)
  | 2 => ("CliqueLabels$HandleSearch", "trial", "[I", true)
  | _ => ("CliqueLabels$HandleSearch", "tried", "LCliqueLabels$Bound;", true)
def tyX5 : Nat → FieldType := fun k => match k with
  | 0 => .array .int
  | 1 => .object "CliqueLabels$Bound"
  | 2 => .array .int
  | _ => .object "CliqueLabels$Bound"
abbrev wsX50 : List Cond := u_ws RX5 TX5 4
theorem nmX5 : ∀ a, a < 4 → ∀ b, b < 4 → a ≠ b → (TX5 a).2.1 ≠ (TX5 b).2.1 := by decide +kernel
theorem tyX5_ok : ∀ k, k < 4 → parseFieldDescriptor (TX5 k).2.2.1 = some (tyX5 k) := by decide +kernel
abbrev cX5_init : ByteArray := prog_7_method_1_code
def yX5_init : MethodName := ⟨RX5, "<init>", "()V"⟩
abbrev cX5_run : ByteArray := prog_7_method_2_code
def yX5_run : MethodName := ⟨RX5, "run", "(LCliqueLabels$Graph;I)V"⟩
abbrev cX5_begins : ByteArray := prog_7_method_3_code
def yX5_begins : MethodName := ⟨RX5, "begins", "(II)I"⟩
abbrev cX5_goOn : ByteArray := prog_7_method_4_code
def yX5_goOn : MethodName := ⟨RX5, "goOn", "(II)V"⟩
abbrev cX5_answer : ByteArray := prog_7_method_5_code
def yX5_answer : MethodName := ⟨RX5, "answer", "(I)J"⟩
def RX6 : String := "CliqueLabels$History"
def TX6 : u_T := fun k => match k with
  | 0 => ("CliqueLabels$History", "graphs", "[LCliqueLabels$Graph;", true)
  | 1 => ("CliqueLabels$History", "products", "[I", true)
  | 2 => ("CliqueLabels$History", "latest", "I", false)
  | _ => ("CliqueLabels$History", "size", "I", false)
def tyX6 : Nat → FieldType := fun k => match k with
  | 0 => .array (.object "CliqueLabels$Graph")
  | 1 => .array .int
  | 2 => .int
  | _ => .int
abbrev wsX60 : List Cond := u_ws RX6 TX6 4
theorem nmX6 : ∀ a, a < 4 → ∀ b, b < 4 → a ≠ b → (TX6 a).2.1 ≠ (TX6 b).2.1 := by decide +kernel
theorem tyX6_ok : ∀ k, k < 4 → parseFieldDescriptor (TX6 k).2.2.1 = some (tyX6 k) := by decide +kernel
abbrev cX6_init : ByteArray := prog_8_method_1_code
def yX6_init : MethodName := ⟨RX6, "<init>", "()V"⟩
abbrev cX6_save : ByteArray := prog_8_method_2_code
def yX6_save : MethodName := ⟨RX6, "save", "(LCliqueLabels$Graph;I)V"⟩
abbrev cX6_latestGraph : ByteArray := prog_8_method_3_code
def yX6_latestGraph : MethodName := ⟨RX6, "latestGraph", "()LCliqueLabels$Graph;"⟩
abbrev cX6_latestProducts : ByteArray := prog_8_method_4_code
def yX6_latestProducts : MethodName := ⟨RX6, "latestProducts", "()I"⟩
abbrev cX6_dropLatest : ByteArray := prog_8_method_5_code
def yX6_dropLatest : MethodName := ⟨RX6, "dropLatest", "()V"⟩
def RX7 : String := "CliqueLabels"
def TX7 : u_T := fun k => match k with
  | 0 => ("CliqueLabels", "now", "LCliqueLabels$Graph;", true)
  | 1 => ("CliqueLabels", "snapshots", "[LCliqueLabels$Graph;", true)
  | 2 => ("CliqueLabels", "taken", "[Z", true)
  | 3 => ("CliqueLabels", "history", "LCliqueLabels$History;", true)
  | 4 => ("CliqueLabels", "text", "LCliqueLabels$EdgeText;", true)
  | 5 => ("CliqueLabels", "coloring", "LCliqueLabels$Coloring;", true)
  | 6 => ("CliqueLabels", "cliques", "LCliqueLabels$Cliques;", true)
  | 7 => ("CliqueLabels", "told", "LCliqueLabels$Bound;", true)
  | 8 => ("CliqueLabels", "search", "LCliqueLabels$HandleSearch;", true)
  | _ => ("CliqueLabels", "productsMade", "I", false)
def tyX7 : Nat → FieldType := fun k => match k with
  | 0 => .object "CliqueLabels$Graph"
  | 1 => .array (.object "CliqueLabels$Graph")
  | 2 => .array .boolean
  | 3 => .object "CliqueLabels$History"
  | 4 => .object "CliqueLabels$EdgeText"
  | 5 => .object "CliqueLabels$Coloring"
  | 6 => .object "CliqueLabels$Cliques"
  | 7 => .object "CliqueLabels$Bound"
  | 8 => .object "CliqueLabels$HandleSearch"
  | _ => .int
abbrev wsX70 : List Cond := u_ws RX7 TX7 10
theorem nmX7 : ∀ a, a < 10 → ∀ b, b < 10 → a ≠ b → (TX7 a).2.1 ≠ (TX7 b).2.1 := by decide +kernel
theorem tyX7_ok : ∀ k, k < 10 → parseFieldDescriptor (TX7 k).2.2.1 = some (tyX7 k) := by decide +kernel
abbrev cX7_init : ByteArray := prog_1_method_1_code
def yX7_init : MethodName := ⟨RX7, "<init>", "()V"⟩
abbrev cX7_begin : ByteArray := prog_1_method_2_code
def yX7_begin : MethodName := ⟨RX7, "begin", "(II)I"⟩
abbrev cX7_join : ByteArray := prog_1_method_3_code
def yX7_join : MethodName := ⟨RX7, "join", "(IIZ)I"⟩
abbrev cX7_weigh : ByteArray := prog_1_method_4_code
def yX7_weigh : MethodName := ⟨RX7, "weigh", "(II)I"⟩
abbrev cX7_complement : ByteArray := prog_1_method_5_code
def yX7_complement : MethodName := ⟨RX7, "complement", "()I"⟩
abbrev cX7_remove : ByteArray := prog_1_method_6_code
def yX7_remove : MethodName := ⟨RX7, "remove", "(I)I"⟩
abbrev cX7_multiply : ByteArray := prog_1_method_7_code
def yX7_multiply : MethodName := ⟨RX7, "multiply", "(I)I"⟩
abbrev cX7_label : ByteArray := prog_1_method_8_code
def yX7_label : MethodName := ⟨RX7, "label", "(III)I"⟩
abbrev cX7_hold : ByteArray := prog_1_method_9_code
def yX7_hold : MethodName := ⟨RX7, "hold", "(II)I"⟩
abbrev cX7_labelByColors : ByteArray := prog_1_method_10_code
def yX7_labelByColors : MethodName := ⟨RX7, "labelByColors", "()I"⟩
abbrev cX7_takeHandle : ByteArray := prog_1_method_11_code
def yX7_takeHandle : MethodName := ⟨RX7, "takeHandle", "(I)I"⟩
abbrev cX7_append : ByteArray := prog_1_method_12_code
def yX7_append : MethodName := ⟨RX7, "append", "(I)I"⟩
abbrev cX7_clearBuffer : ByteArray := prog_1_method_13_code
def yX7_clearBuffer : MethodName := ⟨RX7, "clearBuffer", "()I"⟩
abbrev cX7_firstError : ByteArray := prog_1_method_14_code
def yX7_firstError : MethodName := ⟨RX7, "firstError", "()I"⟩
abbrev cX7_read : ByteArray := prog_1_method_15_code
def yX7_read : MethodName := ⟨RX7, "read", "()I"⟩
abbrev cX7_take : ByteArray := prog_1_method_16_code
def yX7_take : MethodName := ⟨RX7, "take", "(I)I"⟩
abbrev cX7_restore : ByteArray := prog_1_method_17_code
def yX7_restore : MethodName := ⟨RX7, "restore", "(I)I"⟩
abbrev cX7_undo : ByteArray := prog_1_method_18_code
def yX7_undo : MethodName := ⟨RX7, "undo", "()I"⟩
abbrev cX7_joined : ByteArray := prog_1_method_19_code
def yX7_joined : MethodName := ⟨RX7, "joined", "(II)I"⟩
abbrev cX7_vertex : ByteArray := prog_1_method_20_code
def yX7_vertex : MethodName := ⟨RX7, "vertex", "(II)I"⟩
abbrev cX7_handle : ByteArray := prog_1_method_21_code
def yX7_handle : MethodName := ⟨RX7, "handle", "(I)I"⟩
abbrev cX7_bound : ByteArray := prog_1_method_22_code
def yX7_bound : MethodName := ⟨RX7, "bound", "(I)J"⟩
abbrev cX7_whyNot : ByteArray := prog_1_method_23_code
def yX7_whyNot : MethodName := ⟨RX7, "whyNot", "(I)I"⟩
abbrev cX7_whyNotMultiply : ByteArray := prog_1_method_24_code
def yX7_whyNotMultiply : MethodName := ⟨RX7, "whyNotMultiply", "(I)I"⟩
abbrev cX7_bestHandle : ByteArray := prog_1_method_25_code
def yX7_bestHandle : MethodName := ⟨RX7, "bestHandle", "(II)J"⟩
abbrev cX7_count : ByteArray := prog_1_method_26_code
def yX7_count : MethodName := ⟨RX7, "count", "(I)I"⟩
abbrev cX7_nearness : ByteArray := prog_1_method_27_code
def yX7_nearness : MethodName := ⟨RX7, "nearness", "()D"⟩
abbrev cX7_digest : ByteArray := prog_1_method_28_code
def yX7_digest : MethodName := ⟨RX7, "digest", "()J"⟩
abbrev cX7_checkVertex : ByteArray := prog_1_method_29_code
def yX7_checkVertex : MethodName := ⟨RX7, "checkVertex", "(I)V"⟩
abbrev cX7_checkPlace : ByteArray := prog_1_method_30_code
def yX7_checkPlace : MethodName := ⟨RX7, "checkPlace", "(I)V"⟩
abbrev cX7_checkSnapshot : ByteArray := prog_1_method_31_code
def yX7_checkSnapshot : MethodName := ⟨RX7, "checkSnapshot", "(I)V"⟩
abbrev cX7_checkTaken : ByteArray := prog_1_method_32_code
def yX7_checkTaken : MethodName := ⟨RX7, "checkTaken", "(I)V"⟩
abbrev cX7_checkNumber : ByteArray := prog_1_method_33_code
def yX7_checkNumber : MethodName := ⟨RX7, "checkNumber", "(I)V"⟩
abbrev cX7_checkSize : ByteArray := prog_1_method_34_code
def yX7_checkSize : MethodName := ⟨RX7, "checkSize", "(I)V"⟩
abbrev cX7_checkPart : ByteArray := prog_1_method_35_code
def yX7_checkPart : MethodName := ⟨RX7, "checkPart", "(I)V"⟩
abbrev cX7_saveState : ByteArray := prog_1_method_36_code
def yX7_saveState : MethodName := ⟨RX7, "saveState", "()V"⟩
abbrev cX7_searchGraph : ByteArray := prog_1_method_37_code
def yX7_searchGraph : MethodName := ⟨RX7, "searchGraph", "()V"⟩
abbrev cX7_propertyOf : ByteArray := prog_1_method_38_code
def yX7_propertyOf : MethodName := ⟨RX7, "propertyOf", "(II)I"⟩
abbrev cX7_numberOf : ByteArray := prog_1_method_39_code
def yX7_numberOf : MethodName := ⟨RX7, "numberOf", "(I)I"⟩
abbrev cX7_takenSnapshots : ByteArray := prog_1_method_40_code
def yX7_takenSnapshots : MethodName := ⟨RX7, "takenSnapshots", "()I"⟩
abbrev cX7_share : ByteArray := prog_1_method_41_code
def yX7_share : MethodName := ⟨RX7, "share", "()D"⟩
abbrev cX7_whyNoBound : ByteArray := prog_1_method_42_code
def yX7_whyNoBound : MethodName := ⟨RX7, "whyNoBound", "(I)I"⟩
abbrev cX7_reasonAgainst : ByteArray := prog_1_method_43_code
def yX7_reasonAgainst : MethodName := ⟨RX7, "reasonAgainst", "(LCliqueLabels$Graph;LCliqueLabels$Graph;)I"⟩
abbrev cX7_mix : ByteArray := prog_1_method_44_code
def yX7_mix : MethodName := ⟨RX7, "mix", "(JJ)J"⟩
abbrev cX7_mixVertices : ByteArray := prog_1_method_45_code
def yX7_mixVertices : MethodName := ⟨RX7, "mixVertices", "(J)J"⟩
abbrev cX7_mixBounds : ByteArray := prog_1_method_46_code
def yX7_mixBounds : MethodName := ⟨RX7, "mixBounds", "(J)J"⟩
abbrev cX7_bitsOf : ByteArray := prog_1_method_47_code
def yX7_bitsOf : MethodName := ⟨RX7, "bitsOf", "(D)J"⟩
abbrev cX7_product : ByteArray := prog_1_method_48_code
def yX7_product : MethodName := ⟨RX7, "product", "([I[I)I"⟩
abbrev cX7_furthest : ByteArray := prog_1_method_49_code
def yX7_furthest : MethodName := ⟨RX7, "furthest", "([I)I"⟩
def RX8 : String := "CliqueLabelsModel"
def TX8 : u_T := fun k => match k with
  | 0 => ("CliqueLabelsModel", "z", "[I", true)
  | 1 => ("CliqueLabelsModel", "states", "I", false)
  | 2 => ("CliqueLabelsModel", "history", "[I", true)
  | 3 => ("CliqueLabelsModel", "snaps", "[I", true)
  | 4 => ("CliqueLabelsModel", "taken", "[I", true)
  | 5 => ("CliqueLabelsModel", "length", "I", false)
  | 6 => ("CliqueLabelsModel", "text", "[I", true)
  | 7 => ("CliqueLabelsModel", "thrown", "I", false)
  | 8 => ("CliqueLabelsModel", "above", "J", false)
  | 9 => ("CliqueLabelsModel", "below", "J", false)
  | 10 => ("CliqueLabelsModel", "teller", "I", false)
  | 11 => ("CliqueLabelsModel", "color", "[I", true)
  | 12 => ("CliqueLabelsModel", "made", "[I", true)
  | 13 => ("CliqueLabelsModel", "leastAbove", "J", false)
  | 14 => ("CliqueLabelsModel", "leastBelow", "J", false)
  | 15 => ("CliqueLabelsModel", "best", "[I", true)
  | 16 => ("CliqueLabelsModel", "kept", "[I", true)
  | _ => ("CliqueLabelsModel", "hash", "J", false)
def tyX8 : Nat → FieldType := fun k => match k with
  | 0 => .array .int
  | 1 => .int
  | 2 => .array .int
  | 3 => .array .int
  | 4 => .array .int
  | 5 => .int
  | 6 => .array .int
  | 7 => .int
  | 8 => .long
  | 9 => .long
  | 10 => .int
  | 11 => .array .int
  | 12 => .array .int
  | 13 => .long
  | 14 => .long
  | 15 => .array .int
  | 16 => .array .int
  | _ => .long
abbrev wsX80 : List Cond := u_ws RX8 TX8 18
theorem nmX8 : ∀ a, a < 18 → ∀ b, b < 18 → a ≠ b → (TX8 a).2.1 ≠ (TX8 b).2.1 := by decide +kernel
theorem tyX8_ok : ∀ k, k < 18 → parseFieldDescriptor (TX8 k).2.2.1 = some (tyX8 k) := by decide +kernel
abbrev cX8_init : ByteArray := prog_10_method_1_code
def yX8_init : MethodName := ⟨RX8, "<init>", "()V"⟩
abbrev cX8_thrown : ByteArray := prog_10_method_2_code
def yX8_thrown : MethodName := ⟨RX8, "thrown", "()I"⟩
abbrev cX8_within : ByteArray := prog_10_method_3_code
def yX8_within : MethodName := ⟨RX8, "within", "(III)Z"⟩
abbrev cX8_save : ByteArray := prog_10_method_4_code
def yX8_save : MethodName := ⟨RX8, "save", "()V"⟩
abbrev cX8_has : ByteArray := prog_10_method_5_code
def yX8_has : MethodName := ⟨RX8, "has", "(II)Z"⟩
abbrev cX8_ones : ByteArray := prog_10_method_6_code
def yX8_ones : MethodName := ⟨RX8, "ones", "(I)I"⟩
abbrev cX8_isVertex : ByteArray := prog_10_method_7_code
def yX8_isVertex : MethodName := ⟨RX8, "isVertex", "(I)Z"⟩
abbrev cX8_isPlace : ByteArray := prog_10_method_8_code
def yX8_isPlace : MethodName := ⟨RX8, "isPlace", "(I)Z"⟩
abbrev cX8_isNumber : ByteArray := prog_10_method_9_code
def yX8_isNumber : MethodName := ⟨RX8, "isNumber", "(I)Z"⟩
abbrev cX8_weight : ByteArray := prog_10_method_10_code
def yX8_weight : MethodName := ⟨RX8, "weight", "(I)I"⟩
abbrev cX8_areJoined : ByteArray := prog_10_method_11_code
def yX8_areJoined : MethodName := ⟨RX8, "areJoined", "(II)Z"⟩
abbrev cX8_product : ByteArray := prog_10_method_12_code
def yX8_product : MethodName := ⟨RX8, "product", "(II)I"⟩
abbrev cX8_labelAt : ByteArray := prog_10_method_13_code
def yX8_labelAt : MethodName := ⟨RX8, "labelAt", "(I)I"⟩
abbrev cX8_byHandle : ByteArray := prog_10_method_14_code
def yX8_byHandle : MethodName := ⟨RX8, "byHandle", "(I)I"⟩
abbrev cX8_edges : ByteArray := prog_10_method_15_code
def yX8_edges : MethodName := ⟨RX8, "edges", "()I"⟩
abbrev cX8_misfit : ByteArray := prog_10_method_16_code
def yX8_misfit : MethodName := ⟨RX8, "misfit", "()I"⟩
abbrev cX8_misfits : ByteArray := prog_10_method_17_code
def yX8_misfits : MethodName := ⟨RX8, "misfits", "()I"⟩
abbrev cX8_unreached : ByteArray := prog_10_method_18_code
def yX8_unreached : MethodName := ⟨RX8, "unreached", "()I"⟩
abbrev cX8_reason : ByteArray := prog_10_method_19_code
def yX8_reason : MethodName := ⟨RX8, "reason", "()I"⟩
abbrev cX8_common : ByteArray := prog_10_method_20_code
def yX8_common : MethodName := ⟨RX8, "common", "(JJ)J"⟩
abbrev cX8_layBound : ByteArray := prog_10_method_21_code
def yX8_layBound : MethodName := ⟨RX8, "layBound", "()V"⟩
abbrev cX8_isClique : ByteArray := prog_10_method_22_code
def yX8_isClique : MethodName := ⟨RX8, "isClique", "(I)Z"⟩
abbrev cX8_weightOf : ByteArray := prog_10_method_23_code
def yX8_weightOf : MethodName := ⟨RX8, "weightOf", "(I)I"⟩
abbrev cX8_heaviest : ByteArray := prog_10_method_24_code
def yX8_heaviest : MethodName := ⟨RX8, "heaviest", "(I)I"⟩
abbrev cX8_mostVertices : ByteArray := prog_10_method_25_code
def yX8_mostVertices : MethodName := ⟨RX8, "mostVertices", "()I"⟩
abbrev cX8_canStay : ByteArray := prog_10_method_26_code
def yX8_canStay : MethodName := ⟨RX8, "canStay", "(I)Z"⟩
abbrev cX8_colorBy : ByteArray := prog_10_method_27_code
def yX8_colorBy : MethodName := ⟨RX8, "colorBy", "(I)Z"⟩
abbrev cX8_colorAll : ByteArray := prog_10_method_28_code
def yX8_colorAll : MethodName := ⟨RX8, "colorAll", "()I"⟩
abbrev cX8_empties : ByteArray := prog_10_method_29_code
def yX8_empties : MethodName := ⟨RX8, "empties", "(II)V"⟩
abbrev cX8_begin : ByteArray := prog_10_method_30_code
def yX8_begin : MethodName := ⟨RX8, "begin", "(II)I"⟩
abbrev cX8_joins : ByteArray := prog_10_method_31_code
def yX8_joins : MethodName := ⟨RX8, "joins", "(IIZ)V"⟩
abbrev cX8_join : ByteArray := prog_10_method_32_code
def yX8_join : MethodName := ⟨RX8, "join", "(IIZ)I"⟩
abbrev cX8_weigh : ByteArray := prog_10_method_33_code
def yX8_weigh : MethodName := ⟨RX8, "weigh", "(II)I"⟩
abbrev cX8_complement : ByteArray := prog_10_method_34_code
def yX8_complement : MethodName := ⟨RX8, "complement", "()I"⟩
abbrev cX8_without : ByteArray := prog_10_method_35_code
def yX8_without : MethodName := ⟨RX8, "without", "(II)I"⟩
abbrev cX8_remove : ByteArray := prog_10_method_36_code
def yX8_remove : MethodName := ⟨RX8, "remove", "(I)I"⟩
abbrev cX8_clearBehind : ByteArray := prog_10_method_37_code
def yX8_clearBehind : MethodName := ⟨RX8, "clearBehind", "()V"⟩
abbrev cX8_other : ByteArray := prog_10_method_38_code
def yX8_other : MethodName := ⟨RX8, "other", "(II)I"⟩
abbrev cX8_layProduct : ByteArray := prog_10_method_39_code
def yX8_layProduct : MethodName := ⟨RX8, "layProduct", "(I)I"⟩
abbrev cX8_isSnapshot : ByteArray := prog_10_method_40_code
def yX8_isSnapshot : MethodName := ⟨RX8, "isSnapshot", "(I)Z"⟩
abbrev cX8_refusedSnapshot : ByteArray := prog_10_method_41_code
def yX8_refusedSnapshot : MethodName := ⟨RX8, "refusedSnapshot", "(I)I"⟩
abbrev cX8_multiply : ByteArray := prog_10_method_42_code
def yX8_multiply : MethodName := ⟨RX8, "multiply", "(I)I"⟩
abbrev cX8_label : ByteArray := prog_10_method_43_code
def yX8_label : MethodName := ⟨RX8, "label", "(III)I"⟩
abbrev cX8_hold : ByteArray := prog_10_method_44_code
def yX8_hold : MethodName := ⟨RX8, "hold", "(II)I"⟩
abbrev cX8_labelByColors : ByteArray := prog_10_method_45_code
def yX8_labelByColors : MethodName := ⟨RX8, "labelByColors", "()I"⟩
abbrev cX8_setHandle : ByteArray := prog_10_method_46_code
def yX8_setHandle : MethodName := ⟨RX8, "setHandle", "(II)V"⟩
abbrev cX8_layBest : ByteArray := prog_10_method_47_code
def yX8_layBest : MethodName := ⟨RX8, "layBest", "(I)Z"⟩
abbrev cX8_isSize : ByteArray := prog_10_method_48_code
def yX8_isSize : MethodName := ⟨RX8, "isSize", "(I)Z"⟩
abbrev cX8_takeHandle : ByteArray := prog_10_method_49_code
def yX8_takeHandle : MethodName := ⟨RX8, "takeHandle", "(I)I"⟩
abbrev cX8_append : ByteArray := prog_10_method_50_code
def yX8_append : MethodName := ⟨RX8, "append", "(I)I"⟩
abbrev cX8_clearBuffer : ByteArray := prog_10_method_51_code
def yX8_clearBuffer : MethodName := ⟨RX8, "clearBuffer", "()I"⟩
abbrev cX8_canStand : ByteArray := prog_10_method_52_code
def yX8_canStand : MethodName := ⟨RX8, "canStand", "(I)Z"⟩
abbrev cX8_rightUpTo : ByteArray := prog_10_method_53_code
def yX8_rightUpTo : MethodName := ⟨RX8, "rightUpTo", "()I"⟩
abbrev cX8_firstError : ByteArray := prog_10_method_54_code
def yX8_firstError : MethodName := ⟨RX8, "firstError", "()I"⟩
abbrev cX8_read : ByteArray := prog_10_method_55_code
def yX8_read : MethodName := ⟨RX8, "read", "()I"⟩
abbrev cX8_take : ByteArray := prog_10_method_56_code
def yX8_take : MethodName := ⟨RX8, "take", "(I)I"⟩
abbrev cX8_restore : ByteArray := prog_10_method_57_code
def yX8_restore : MethodName := ⟨RX8, "restore", "(I)I"⟩
abbrev cX8_undo : ByteArray := prog_10_method_58_code
def yX8_undo : MethodName := ⟨RX8, "undo", "()I"⟩
abbrev cX8_joined : ByteArray := prog_10_method_59_code
def yX8_joined : MethodName := ⟨RX8, "joined", "(II)I"⟩
abbrev cX8_colorOf : ByteArray := prog_10_method_60_code
def yX8_colorOf : MethodName := ⟨RX8, "colorOf", "(I)I"⟩
abbrev cX8_vertexNow : ByteArray := prog_10_method_61_code
def yX8_vertexNow : MethodName := ⟨RX8, "vertexNow", "(II)I"⟩
abbrev cX8_vertex : ByteArray := prog_10_method_62_code
def yX8_vertex : MethodName := ⟨RX8, "vertex", "(II)I"⟩
abbrev cX8_handle : ByteArray := prog_10_method_63_code
def yX8_handle : MethodName := ⟨RX8, "handle", "(I)I"⟩
abbrev cX8_boundNow : ByteArray := prog_10_method_64_code
def yX8_boundNow : MethodName := ⟨RX8, "boundNow", "(I)J"⟩
abbrev cX8_bound : ByteArray := prog_10_method_65_code
def yX8_bound : MethodName := ⟨RX8, "bound", "(I)J"⟩
abbrev cX8_reasonNow : ByteArray := prog_10_method_66_code
def yX8_reasonNow : MethodName := ⟨RX8, "reasonNow", "(I)I"⟩
abbrev cX8_whyNot : ByteArray := prog_10_method_67_code
def yX8_whyNot : MethodName := ⟨RX8, "whyNot", "(I)I"⟩
abbrev cX8_whyNotMultiply : ByteArray := prog_10_method_68_code
def yX8_whyNotMultiply : MethodName := ⟨RX8, "whyNotMultiply", "(I)I"⟩
abbrev cX8_bestNow : ByteArray := prog_10_method_69_code
def yX8_bestNow : MethodName := ⟨RX8, "bestNow", "(II)J"⟩
abbrev cX8_bestHandle : ByteArray := prog_10_method_70_code
def yX8_bestHandle : MethodName := ⟨RX8, "bestHandle", "(II)J"⟩
abbrev cX8_counted : ByteArray := prog_10_method_71_code
def yX8_counted : MethodName := ⟨RX8, "counted", "(I)I"⟩
abbrev cX8_count : ByteArray := prog_10_method_72_code
def yX8_count : MethodName := ⟨RX8, "count", "(I)I"⟩
abbrev cX8_near : ByteArray := prog_10_method_73_code
def yX8_near : MethodName := ⟨RX8, "near", "()D"⟩
abbrev cX8_nearness : ByteArray := prog_10_method_74_code
def yX8_nearness : MethodName := ⟨RX8, "nearness", "()D"⟩
abbrev cX8_mix : ByteArray := prog_10_method_75_code
def yX8_mix : MethodName := ⟨RX8, "mix", "(J)V"⟩
abbrev cX8_mixVertex : ByteArray := prog_10_method_76_code
def yX8_mixVertex : MethodName := ⟨RX8, "mixVertex", "(I)V"⟩
abbrev cX8_digest : ByteArray := prog_10_method_77_code
def yX8_digest : MethodName := ⟨RX8, "digest", "()J"⟩
def RJx145de : String := "java/io/Serializable"
def TJx145de : u_T := fun k => match k with
  | _ => ("", "", "", false)
def tyJx145de : Nat → FieldType := fun k => match k with
  | _ => .int
theorem nmJx145de : ∀ a, a < 0 → ∀ b, b < 0 → a ≠ b → (TJx145de a).2.1 ≠ (TJx145de b).2.1 := by decide +kernel
theorem tyJx145de_ok : ∀ k, k < 0 → parseFieldDescriptor (TJx145de k).2.2.1 = some (tyJx145de k) := by decide +kernel
def RJxb160c : String := "java/lang/Comparable"
def TJxb160c : u_T := fun k => match k with
  | _ => ("", "", "", false)
def tyJxb160c : Nat → FieldType := fun k => match k with
  | _ => .int
theorem nmJxb160c : ∀ a, a < 0 → ∀ b, b < 0 → a ≠ b → (TJxb160c a).2.1 ≠ (TJxb160c b).2.1 := by decide +kernel
theorem tyJxb160c_ok : ∀ k, k < 0 → parseFieldDescriptor (TJxb160c k).2.2.1 = some (tyJxb160c k) := by decide +kernel
def RJxe99ae : String := "java/lang/Double"
def TJxe99ae : u_T := fun k => match k with
  | _ => ("", "", "", false)
def tyJxe99ae : Nat → FieldType := fun k => match k with
  | _ => .int
theorem nmJxe99ae : ∀ a, a < 0 → ∀ b, b < 0 → a ≠ b → (TJxe99ae a).2.1 ≠ (TJxe99ae b).2.1 := by decide +kernel
theorem tyJxe99ae_ok : ∀ k, k < 0 → parseFieldDescriptor (TJxe99ae k).2.2.1 = some (tyJxe99ae k) := by decide +kernel
abbrev cJxe99ae_isNaN_b9ae7 : ByteArray := prog_11_method_6_code
def yJxe99ae_isNaN_b9ae7 : MethodName := ⟨RJxe99ae, "isNaN", "(D)Z"⟩
abbrev cJxe99ae_doubleToLongBits_ccdee : ByteArray := prog_11_method_23_code
def yJxe99ae_doubleToLongBits_ccdee : MethodName := ⟨RJxe99ae, "doubleToLongBits", "(D)J"⟩
def RJ6 : String := "java/lang/Integer"
def TJ6 : u_T := fun k => match k with
  | _ => ("", "", "", false)
def tyJ6 : Nat → FieldType := fun k => match k with
  | _ => .int
theorem nmJ6 : ∀ a, a < 0 → ∀ b, b < 0 → a ≠ b → (TJ6 a).2.1 ≠ (TJ6 b).2.1 := by decide +kernel
theorem tyJ6_ok : ∀ k, k < 0 → parseFieldDescriptor (TJ6 k).2.2.1 = some (tyJ6 k) := by decide +kernel
abbrev cJ6_bitCount_0f7a4 : ByteArray := prog_16_method_49_code
def yJ6_bitCount_0f7a4 : MethodName := ⟨RJ6, "bitCount", "(I)I"⟩
def RJ9 : String := "java/lang/Math"
def TJ9 : u_T := fun k => match k with
  | _ => ("", "", "", false)
def tyJ9 : Nat → FieldType := fun k => match k with
  | _ => .int
theorem nmJ9 : ∀ a, a < 0 → ∀ b, b < 0 → a ≠ b → (TJ9 a).2.1 ≠ (TJ9 b).2.1 := by decide +kernel
theorem tyJ9_ok : ∀ k, k < 0 → parseFieldDescriptor (TJ9 k).2.2.1 = some (tyJ9 k) := by decide +kernel
abbrev cJ9_abs_0f7a4 : ByteArray := prog_17_method_59_code
def yJ9_abs_0f7a4 : MethodName := ⟨RJ9, "abs", "(I)I"⟩
abbrev cJ9_max_7cf53 : ByteArray := prog_17_method_65_code
def yJ9_max_7cf53 : MethodName := ⟨RJ9, "max", "(II)I"⟩
abbrev cJ9_min_7cf53 : ByteArray := prog_17_method_69_code
def yJ9_min_7cf53 : MethodName := ⟨RJ9, "min", "(II)I"⟩
def RJxd2413 : String := "java/lang/Number"
def TJxd2413 : u_T := fun k => match k with
  | _ => ("", "", "", false)
def tyJxd2413 : Nat → FieldType := fun k => match k with
  | _ => .int
theorem nmJxd2413 : ∀ a, a < 0 → ∀ b, b < 0 → a ≠ b → (TJxd2413 a).2.1 ≠ (TJxd2413 b).2.1 := by decide +kernel
theorem tyJxd2413_ok : ∀ k, k < 0 → parseFieldDescriptor (TJxd2413 k).2.2.1 = some (tyJxd2413 k) := by decide +kernel
def RJ0 : String := "java/lang/String"
def TJ0 : u_T := fun k => match k with
  | _ => ("", "", "", false)
def tyJ0 : Nat → FieldType := fun k => match k with
  | _ => .int
theorem nmJ0 : ∀ a, a < 0 → ∀ b, b < 0 → a ≠ b → (TJ0 a).2.1 ≠ (TJ0 b).2.1 := by decide +kernel
theorem tyJ0_ok : ∀ k, k < 0 → parseFieldDescriptor (TJ0 k).2.2.1 = some (tyJ0 k) := by decide +kernel
def RJ10 : String := "java/lang/System"
def TJ10 : u_T := fun k => match k with
  | _ => ("", "", "", false)
def tyJ10 : Nat → FieldType := fun k => match k with
  | _ => .int
theorem nmJ10 : ∀ a, a < 0 → ∀ b, b < 0 → a ≠ b → (TJ10 a).2.1 ≠ (TJ10 b).2.1 := by decide +kernel
theorem tyJ10_ok : ∀ k, k < 0 → parseFieldDescriptor (TJ10 k).2.2.1 = some (tyJ10 k) := by decide +kernel
def RJxfd54e : String := "java/lang/constant/Constable"
def TJxfd54e : u_T := fun k => match k with
  | _ => ("", "", "", false)
def tyJxfd54e : Nat → FieldType := fun k => match k with
  | _ => .int
theorem nmJxfd54e : ∀ a, a < 0 → ∀ b, b < 0 → a ≠ b → (TJxfd54e a).2.1 ≠ (TJxfd54e b).2.1 := by decide +kernel
theorem tyJxfd54e_ok : ∀ k, k < 0 → parseFieldDescriptor (TJxfd54e k).2.2.1 = some (tyJxfd54e k) := by decide +kernel
def RJx3cf43 : String := "java/lang/constant/ConstantDesc"
def TJx3cf43 : u_T := fun k => match k with
  | _ => ("", "", "", false)
def tyJx3cf43 : Nat → FieldType := fun k => match k with
  | _ => .int
theorem nmJx3cf43 : ∀ a, a < 0 → ∀ b, b < 0 → a ≠ b → (TJx3cf43 a).2.1 ≠ (TJx3cf43 b).2.1 := by decide +kernel
theorem tyJx3cf43_ok : ∀ k, k < 0 → parseFieldDescriptor (TJx3cf43 k).2.2.1 = some (tyJx3cf43 k) := by decide +kernel
def RJ7 : String := "java/util/Arrays"
def TJ7 : u_T := fun k => match k with
  | _ => ("", "", "", false)
def tyJ7 : Nat → FieldType := fun k => match k with
  | _ => .int
theorem nmJ7 : ∀ a, a < 0 → ∀ b, b < 0 → a ≠ b → (TJ7 a).2.1 ≠ (TJ7 b).2.1 := by decide +kernel
theorem tyJ7_ok : ∀ k, k < 0 → parseFieldDescriptor (TJ7 k).2.2.1 = some (tyJ7 k) := by decide +kernel
abbrev cJ7_fill_53178 : ByteArray := prog_23_method_103_code
def yJ7_fill_53178 : MethodName := ⟨RJ7, "fill", "([II)V"⟩
def RL : String := "CliqueLabelsLaw"
abbrev cL_begin : ByteArray := method_3_code
def yL_begin : MethodName := ⟨RL, "begin", "(LCliqueLabels;II[J)I"⟩
abbrev cL_join : ByteArray := method_4_code
def yL_join : MethodName := ⟨RL, "join", "(LCliqueLabels;IIZ[J)I"⟩
abbrev cL_weigh : ByteArray := method_5_code
def yL_weigh : MethodName := ⟨RL, "weigh", "(LCliqueLabels;II[J)I"⟩
abbrev cL_remove : ByteArray := method_6_code
def yL_remove : MethodName := ⟨RL, "remove", "(LCliqueLabels;I[J)I"⟩
abbrev cL_multiply : ByteArray := method_7_code
def yL_multiply : MethodName := ⟨RL, "multiply", "(LCliqueLabels;I[J)I"⟩
abbrev cL_label : ByteArray := method_8_code
def yL_label : MethodName := ⟨RL, "label", "(LCliqueLabels;III[J)I"⟩
abbrev cL_hold : ByteArray := method_9_code
def yL_hold : MethodName := ⟨RL, "hold", "(LCliqueLabels;II[J)I"⟩
abbrev cL_labelByColors : ByteArray := method_10_code
def yL_labelByColors : MethodName := ⟨RL, "labelByColors", "(LCliqueLabels;[J)I"⟩
abbrev cL_takeHandle : ByteArray := method_11_code
def yL_takeHandle : MethodName := ⟨RL, "takeHandle", "(LCliqueLabels;I[J)I"⟩
abbrev cL_append : ByteArray := method_12_code
def yL_append : MethodName := ⟨RL, "append", "(LCliqueLabels;I[J)I"⟩
abbrev cL_read : ByteArray := method_13_code
def yL_read : MethodName := ⟨RL, "read", "(LCliqueLabels;[J)I"⟩
abbrev cL_take : ByteArray := method_14_code
def yL_take : MethodName := ⟨RL, "take", "(LCliqueLabels;I[J)I"⟩
abbrev cL_restore : ByteArray := method_15_code
def yL_restore : MethodName := ⟨RL, "restore", "(LCliqueLabels;I[J)I"⟩
abbrev cL_undo : ByteArray := method_16_code
def yL_undo : MethodName := ⟨RL, "undo", "(LCliqueLabels;[J)I"⟩
abbrev cL_joined : ByteArray := method_17_code
def yL_joined : MethodName := ⟨RL, "joined", "(LCliqueLabels;II[J)I"⟩
abbrev cL_vertex : ByteArray := method_18_code
def yL_vertex : MethodName := ⟨RL, "vertex", "(LCliqueLabels;II[J)I"⟩
abbrev cL_handle : ByteArray := method_19_code
def yL_handle : MethodName := ⟨RL, "handle", "(LCliqueLabels;I[J)I"⟩
abbrev cL_bound : ByteArray := method_20_code
def yL_bound : MethodName := ⟨RL, "bound", "(LCliqueLabels;I[J)I"⟩
abbrev cL_whyNot : ByteArray := method_21_code
def yL_whyNot : MethodName := ⟨RL, "whyNot", "(LCliqueLabels;I[J)I"⟩
abbrev cL_whyNotMultiply : ByteArray := method_22_code
def yL_whyNotMultiply : MethodName := ⟨RL, "whyNotMultiply", "(LCliqueLabels;I[J)I"⟩
abbrev cL_bestHandle : ByteArray := method_23_code
def yL_bestHandle : MethodName := ⟨RL, "bestHandle", "(LCliqueLabels;II[J)I"⟩
abbrev cL_count : ByteArray := method_24_code
def yL_count : MethodName := ⟨RL, "count", "(LCliqueLabels;I[J)I"⟩
abbrev cL_law : ByteArray := code
def yL_law : MethodName := ⟨RL, "law", "([I)Z"⟩
abbrev vwCl : List vw_C := [(RX0, TX0, 4), (RX1, TX1, 2), (RX2, TX2, 2), (RX3, TX3, 2), (RX4, TX4, 6), (RX5, TX5, 4), (RX6, TX6, 4), (RX7, TX7, 10), (RX8, TX8, 18)]
end
section
theorem dX0_init_0 : decode cX0_init 0 = .ok (.aload_n 0, 1) := by decide +kernel
theorem dX0_init_1 : decode cX0_init 1 = .ok (.invokespecial 3, 3) := by decide +kernel
theorem dX0_init_4 : decode cX0_init 4 = .ok (.aload_n 0, 1) := by decide +kernel
theorem dX0_init_5 : decode cX0_init 5 = .ok (.iconst 0, 1) := by decide +kernel
theorem dX0_init_6 : decode cX0_init 6 = .ok (.putfield 9, 3) := by decide +kernel
theorem dX0_init_9 : decode cX0_init 9 = .ok (.aload_n 0, 1) := by decide +kernel
theorem dX0_init_10 : decode cX0_init 10 = .ok (.ldc2_w 15, 3) := by decide +kernel
theorem dX0_init_13 : decode cX0_init 13 = .ok (.putfield 17, 3) := by decide +kernel
theorem dX0_init_16 : decode cX0_init 16 = .ok (.aload_n 0, 1) := by decide +kernel
theorem dX0_init_17 : decode cX0_init 17 = .ok (.ldc2_w 15, 3) := by decide +kernel
theorem dX0_init_20 : decode cX0_init 20 = .ok (.putfield 21, 3) := by decide +kernel
theorem dX0_init_23 : decode cX0_init 23 = .ok (.aload_n 0, 1) := by decide +kernel
theorem dX0_init_24 : decode cX0_init 24 = .ok (.iconst (-1), 1) := by decide +kernel
theorem dX0_init_25 : decode cX0_init 25 = .ok (.putfield 24, 3) := by decide +kernel
theorem dX0_init_28 : decode cX0_init 28 = .ok (.return_, 1) := by decide +kernel
theorem dX0_tellOf_0 : decode cX0_tellOf 0 = .ok (.aload_n 1, 1) := by decide +kernel
theorem dX0_tellOf_1 : decode cX0_tellOf 1 = .ok (.invokevirtual 28, 3) := by decide +kernel
theorem dX0_tellOf_4 : decode cX0_tellOf 4 = .ok (.iconst (-1), 1) := by decide +kernel
theorem dX0_tellOf_5 : decode cX0_tellOf 5 = .ok (.if_icmp .eq 8, 3) := by decide +kernel
theorem dX0_tellOf_8 : decode cX0_tellOf 8 = .ok (.aload_n 0, 1) := by decide +kernel
theorem dX0_tellOf_9 : decode cX0_tellOf 9 = .ok (.invokevirtual 34, 3) := by decide +kernel
theorem dX0_tellOf_12 : decode cX0_tellOf 12 = .ok (.return_, 1) := by decide +kernel
theorem dX0_tellOf_13 : decode cX0_tellOf 13 = .ok (.aload_n 0, 1) := by decide +kernel
theorem dX0_tellOf_14 : decode cX0_tellOf 14 = .ok (.aload_n 1, 1) := by decide +kernel
theorem dX0_tellOf_15 : decode cX0_tellOf 15 = .ok (.aload_n 1, 1) := by decide +kernel
theorem dX0_tellOf_16 : decode cX0_tellOf 16 = .ok (.getfield 37, 3) := by decide +kernel
theorem dX0_tellOf_19 : decode cX0_tellOf 19 = .ok (.invokevirtual 41, 3) := by decide +kernel
theorem dX0_tellOf_22 : decode cX0_tellOf 22 = .ok (.aload_n 0, 1) := by decide +kernel
theorem dX0_tellOf_23 : decode cX0_tellOf 23 = .ok (.invokevirtual 45, 3) := by decide +kernel
theorem dX0_tellOf_26 : decode cX0_tellOf 26 = .ok (.return_, 1) := by decide +kernel
theorem dX0_tellNone_0 : decode cX0_tellNone 0 = .ok (.aload_n 0, 1) := by decide +kernel
theorem dX0_tellNone_1 : decode cX0_tellNone 1 = .ok (.iconst 0, 1) := by decide +kernel
theorem dX0_tellNone_2 : decode cX0_tellNone 2 = .ok (.putfield 9, 3) := by decide +kernel
theorem dX0_tellNone_5 : decode cX0_tellNone 5 = .ok (.aload_n 0, 1) := by decide +kernel
theorem dX0_tellNone_6 : decode cX0_tellNone 6 = .ok (.ldc2_w 15, 3) := by decide +kernel
theorem dX0_tellNone_9 : decode cX0_tellNone 9 = .ok (.putfield 17, 3) := by decide +kernel
theorem dX0_tellNone_12 : decode cX0_tellNone 12 = .ok (.aload_n 0, 1) := by decide +kernel
theorem dX0_tellNone_13 : decode cX0_tellNone 13 = .ok (.ldc2_w 15, 3) := by decide +kernel
theorem dX0_tellNone_16 : decode cX0_tellNone 16 = .ok (.putfield 21, 3) := by decide +kernel
theorem dX0_tellNone_19 : decode cX0_tellNone 19 = .ok (.aload_n 0, 1) := by decide +kernel
theorem dX0_tellNone_20 : decode cX0_tellNone 20 = .ok (.iconst (-1), 1) := by decide +kernel
theorem dX0_tellNone_21 : decode cX0_tellNone 21 = .ok (.putfield 24, 3) := by decide +kernel
theorem dX0_tellNone_24 : decode cX0_tellNone 24 = .ok (.return_, 1) := by decide +kernel
theorem dX0_measure_0 : decode cX0_measure 0 = .ok (.aload_n 1, 1) := by decide +kernel
theorem dX0_measure_1 : decode cX0_measure 1 = .ok (.aload_n 2, 1) := by decide +kernel
theorem dX0_measure_2 : decode cX0_measure 2 = .ok (.invokevirtual 48, 3) := by decide +kernel
theorem dX0_measure_5 : decode cX0_measure 5 = .ok (.iconst (-1), 1) := by decide +kernel
theorem dX0_measure_6 : decode cX0_measure 6 = .ok (.if_icmp .eq 8, 3) := by decide +kernel
theorem dX0_measure_9 : decode cX0_measure 9 = .ok (.aload_n 0, 1) := by decide +kernel
theorem dX0_measure_10 : decode cX0_measure 10 = .ok (.invokevirtual 34, 3) := by decide +kernel
theorem dX0_measure_13 : decode cX0_measure 13 = .ok (.return_, 1) := by decide +kernel
theorem dX0_measure_14 : decode cX0_measure 14 = .ok (.aload_n 0, 1) := by decide +kernel
theorem dX0_measure_15 : decode cX0_measure 15 = .ok (.iconst 1, 1) := by decide +kernel
theorem dX0_measure_16 : decode cX0_measure 16 = .ok (.putfield 9, 3) := by decide +kernel
theorem dX0_measure_19 : decode cX0_measure 19 = .ok (.aload_n 0, 1) := by decide +kernel
theorem dX0_measure_20 : decode cX0_measure 20 = .ok (.lconst 0, 1) := by decide +kernel
theorem dX0_measure_21 : decode cX0_measure 21 = .ok (.putfield 17, 3) := by decide +kernel
theorem dX0_measure_24 : decode cX0_measure 24 = .ok (.aload_n 0, 1) := by decide +kernel
theorem dX0_measure_25 : decode cX0_measure 25 = .ok (.lconst 1, 1) := by decide +kernel
theorem dX0_measure_26 : decode cX0_measure 26 = .ok (.putfield 21, 3) := by decide +kernel
theorem dX0_measure_29 : decode cX0_measure 29 = .ok (.aload_n 0, 1) := by decide +kernel
theorem dX0_measure_30 : decode cX0_measure 30 = .ok (.iconst (-1), 1) := by decide +kernel
theorem dX0_measure_31 : decode cX0_measure 31 = .ok (.putfield 24, 3) := by decide +kernel
theorem dX0_measure_34 : decode cX0_measure 34 = .ok (.aload_n 2, 1) := by decide +kernel
theorem dX0_measure_35 : decode cX0_measure 35 = .ok (.aload_n 2, 1) := by decide +kernel
theorem dX0_measure_36 : decode cX0_measure 36 = .ok (.invokestatic 52, 3) := by decide +kernel
theorem dX0_measure_39 : decode cX0_measure 39 = .ok (.i2l, 1) := by decide +kernel
theorem dX0_measure_40 : decode cX0_measure 40 = .ok (.lstore_n 3, 1) := by decide +kernel
theorem dX0_measure_41 : decode cX0_measure 41 = .ok (.iconst 0, 1) := by decide +kernel
theorem dX0_measure_42 : decode cX0_measure 42 = .ok (.istore 5, 2) := by decide +kernel
theorem dX0_measure_44 : decode cX0_measure 44 = .ok (.iload 5, 2) := by decide +kernel
theorem dX0_measure_46 : decode cX0_measure 46 = .ok (.aload_n 1, 1) := by decide +kernel
theorem dX0_measure_47 : decode cX0_measure 47 = .ok (.getfield 56, 3) := by decide +kernel
theorem dX0_measure_50 : decode cX0_measure 50 = .ok (.if_icmp .ge 67, 3) := by decide +kernel
theorem dX0_measure_53 : decode cX0_measure 53 = .ok (.aload_n 1, 1) := by decide +kernel
theorem dX0_measure_54 : decode cX0_measure 54 = .ok (.getfield 59, 3) := by decide +kernel
theorem dX0_measure_57 : decode cX0_measure 57 = .ok (.iload 5, 2) := by decide +kernel
theorem dX0_measure_59 : decode cX0_measure 59 = .ok (.iaload, 1) := by decide +kernel
theorem dX0_measure_60 : decode cX0_measure 60 = .ok (.ifCond .le 51, 3) := by decide +kernel
theorem dX0_measure_63 : decode cX0_measure 63 = .ok (.aload_n 1, 1) := by decide +kernel
theorem dX0_measure_64 : decode cX0_measure 64 = .ok (.getfield 62, 3) := by decide +kernel
theorem dX0_measure_67 : decode cX0_measure 67 = .ok (.iload 5, 2) := by decide +kernel
theorem dX0_measure_69 : decode cX0_measure 69 = .ok (.aaload, 1) := by decide +kernel
theorem dX0_measure_70 : decode cX0_measure 70 = .ok (.astore 6, 2) := by decide +kernel
theorem dX0_measure_72 : decode cX0_measure 72 = .ok (.aload_n 2, 1) := by decide +kernel
theorem dX0_measure_73 : decode cX0_measure 73 = .ok (.aload 6, 2) := by decide +kernel
theorem dX0_measure_75 : decode cX0_measure 75 = .ok (.invokestatic 52, 3) := by decide +kernel
theorem dX0_measure_78 : decode cX0_measure 78 = .ok (.i2l, 1) := by decide +kernel
theorem dX0_measure_79 : decode cX0_measure 79 = .ok (.lstore 7, 2) := by decide +kernel
theorem dX0_measure_81 : decode cX0_measure 81 = .ok (.aload_n 0, 1) := by decide +kernel
theorem dX0_measure_82 : decode cX0_measure 82 = .ok (.aload_n 1, 1) := by decide +kernel
theorem dX0_measure_83 : decode cX0_measure 83 = .ok (.getfield 59, 3) := by decide +kernel
theorem dX0_measure_86 : decode cX0_measure 86 = .ok (.iload 5, 2) := by decide +kernel
theorem dX0_measure_88 : decode cX0_measure 88 = .ok (.iaload, 1) := by decide +kernel
theorem dX0_measure_89 : decode cX0_measure 89 = .ok (.i2l, 1) := by decide +kernel
theorem dX0_measure_90 : decode cX0_measure 90 = .ok (.lload_n 3, 1) := by decide +kernel
theorem dX0_measure_91 : decode cX0_measure 91 = .ok (.lmul, 1) := by decide +kernel
theorem dX0_measure_92 : decode cX0_measure 92 = .ok (.aload 6, 2) := by decide +kernel
theorem dX0_measure_94 : decode cX0_measure 94 = .ok (.aload 6, 2) := by decide +kernel
theorem dX0_measure_96 : decode cX0_measure 96 = .ok (.invokestatic 52, 3) := by decide +kernel
theorem dX0_measure_99 : decode cX0_measure 99 = .ok (.i2l, 1) := by decide +kernel
theorem dX0_measure_100 : decode cX0_measure 100 = .ok (.lmul, 1) := by decide +kernel
theorem dX0_measure_101 : decode cX0_measure 101 = .ok (.lload 7, 2) := by decide +kernel
theorem dX0_measure_103 : decode cX0_measure 103 = .ok (.lload 7, 2) := by decide +kernel
theorem dX0_measure_105 : decode cX0_measure 105 = .ok (.lmul, 1) := by decide +kernel
theorem dX0_measure_106 : decode cX0_measure 106 = .ok (.iload 5, 2) := by decide +kernel
theorem dX0_measure_108 : decode cX0_measure 108 = .ok (.invokevirtual 66, 3) := by decide +kernel
theorem dX0_measure_111 : decode cX0_measure 111 = .ok (.iinc 5 1, 3) := by decide +kernel
theorem dX0_measure_114 : decode cX0_measure 114 = .ok (.goto (-70), 3) := by decide +kernel
theorem dX0_measure_117 : decode cX0_measure 117 = .ok (.return_, 1) := by decide +kernel
theorem dX0_raise_0 : decode cX0_raise 0 = .ok (.lload_n 1, 1) := by decide +kernel
theorem dX0_raise_1 : decode cX0_raise 1 = .ok (.aload_n 0, 1) := by decide +kernel
theorem dX0_raise_2 : decode cX0_raise 2 = .ok (.getfield 21, 3) := by decide +kernel
theorem dX0_raise_5 : decode cX0_raise 5 = .ok (.lmul, 1) := by decide +kernel
theorem dX0_raise_6 : decode cX0_raise 6 = .ok (.aload_n 0, 1) := by decide +kernel
theorem dX0_raise_7 : decode cX0_raise 7 = .ok (.getfield 17, 3) := by decide +kernel
theorem dX0_raise_10 : decode cX0_raise 10 = .ok (.lload_n 3, 1) := by decide +kernel
theorem dX0_raise_11 : decode cX0_raise 11 = .ok (.lmul, 1) := by decide +kernel
theorem dX0_raise_12 : decode cX0_raise 12 = .ok (.lcmp, 1) := by decide +kernel
theorem dX0_raise_13 : decode cX0_raise 13 = .ok (.ifCond .le 19, 3) := by decide +kernel
theorem dX0_raise_16 : decode cX0_raise 16 = .ok (.aload_n 0, 1) := by decide +kernel
theorem dX0_raise_17 : decode cX0_raise 17 = .ok (.lload_n 1, 1) := by decide +kernel
theorem dX0_raise_18 : decode cX0_raise 18 = .ok (.putfield 17, 3) := by decide +kernel
theorem dX0_raise_21 : decode cX0_raise 21 = .ok (.aload_n 0, 1) := by decide +kernel
theorem dX0_raise_22 : decode cX0_raise 22 = .ok (.lload_n 3, 1) := by decide +kernel
theorem dX0_raise_23 : decode cX0_raise 23 = .ok (.putfield 21, 3) := by decide +kernel
theorem dX0_raise_26 : decode cX0_raise 26 = .ok (.aload_n 0, 1) := by decide +kernel
theorem dX0_raise_27 : decode cX0_raise 27 = .ok (.iload 5, 2) := by decide +kernel
theorem dX0_raise_29 : decode cX0_raise 29 = .ok (.putfield 24, 3) := by decide +kernel
theorem dX0_raise_32 : decode cX0_raise 32 = .ok (.return_, 1) := by decide +kernel
theorem dX0_isLessThan_0 : decode cX0_isLessThan 0 = .ok (.aload_n 0, 1) := by decide +kernel
theorem dX0_isLessThan_1 : decode cX0_isLessThan 1 = .ok (.getfield 17, 3) := by decide +kernel
theorem dX0_isLessThan_4 : decode cX0_isLessThan 4 = .ok (.aload_n 1, 1) := by decide +kernel
theorem dX0_isLessThan_5 : decode cX0_isLessThan 5 = .ok (.getfield 21, 3) := by decide +kernel
theorem dX0_isLessThan_8 : decode cX0_isLessThan 8 = .ok (.lmul, 1) := by decide +kernel
theorem dX0_isLessThan_9 : decode cX0_isLessThan 9 = .ok (.aload_n 1, 1) := by decide +kernel
theorem dX0_isLessThan_10 : decode cX0_isLessThan 10 = .ok (.getfield 17, 3) := by decide +kernel
theorem dX0_isLessThan_13 : decode cX0_isLessThan 13 = .ok (.aload_n 0, 1) := by decide +kernel
theorem dX0_isLessThan_14 : decode cX0_isLessThan 14 = .ok (.getfield 21, 3) := by decide +kernel
theorem dX0_isLessThan_17 : decode cX0_isLessThan 17 = .ok (.lmul, 1) := by decide +kernel
theorem dX0_isLessThan_18 : decode cX0_isLessThan 18 = .ok (.lcmp, 1) := by decide +kernel
theorem dX0_isLessThan_19 : decode cX0_isLessThan 19 = .ok (.ifCond .ge 7, 3) := by decide +kernel
theorem dX0_isLessThan_22 : decode cX0_isLessThan 22 = .ok (.iconst 1, 1) := by decide +kernel
theorem dX0_isLessThan_23 : decode cX0_isLessThan 23 = .ok (.goto 4, 3) := by decide +kernel
theorem dX0_isLessThan_26 : decode cX0_isLessThan 26 = .ok (.iconst 0, 1) := by decide +kernel
theorem dX0_isLessThan_27 : decode cX0_isLessThan 27 = .ok (.ireturn, 1) := by decide +kernel
theorem dX0_copyFrom_0 : decode cX0_copyFrom 0 = .ok (.aload_n 0, 1) := by decide +kernel
theorem dX0_copyFrom_1 : decode cX0_copyFrom 1 = .ok (.aload_n 1, 1) := by decide +kernel
theorem dX0_copyFrom_2 : decode cX0_copyFrom 2 = .ok (.getfield 9, 3) := by decide +kernel
theorem dX0_copyFrom_5 : decode cX0_copyFrom 5 = .ok (.putfield 9, 3) := by decide +kernel
theorem dX0_copyFrom_8 : decode cX0_copyFrom 8 = .ok (.aload_n 0, 1) := by decide +kernel
theorem dX0_copyFrom_9 : decode cX0_copyFrom 9 = .ok (.aload_n 1, 1) := by decide +kernel
theorem dX0_copyFrom_10 : decode cX0_copyFrom 10 = .ok (.getfield 17, 3) := by decide +kernel
theorem dX0_copyFrom_13 : decode cX0_copyFrom 13 = .ok (.putfield 17, 3) := by decide +kernel
theorem dX0_copyFrom_16 : decode cX0_copyFrom 16 = .ok (.aload_n 0, 1) := by decide +kernel
theorem dX0_copyFrom_17 : decode cX0_copyFrom 17 = .ok (.aload_n 1, 1) := by decide +kernel
theorem dX0_copyFrom_18 : decode cX0_copyFrom 18 = .ok (.getfield 21, 3) := by decide +kernel
theorem dX0_copyFrom_21 : decode cX0_copyFrom 21 = .ok (.putfield 21, 3) := by decide +kernel
theorem dX0_copyFrom_24 : decode cX0_copyFrom 24 = .ok (.aload_n 0, 1) := by decide +kernel
theorem dX0_copyFrom_25 : decode cX0_copyFrom 25 = .ok (.aload_n 1, 1) := by decide +kernel
theorem dX0_copyFrom_26 : decode cX0_copyFrom 26 = .ok (.getfield 24, 3) := by decide +kernel
theorem dX0_copyFrom_29 : decode cX0_copyFrom 29 = .ok (.putfield 24, 3) := by decide +kernel
theorem dX0_copyFrom_32 : decode cX0_copyFrom 32 = .ok (.return_, 1) := by decide +kernel
theorem dX0_reduce_0 : decode cX0_reduce 0 = .ok (.aload_n 0, 1) := by decide +kernel
theorem dX0_reduce_1 : decode cX0_reduce 1 = .ok (.getfield 9, 3) := by decide +kernel
theorem dX0_reduce_4 : decode cX0_reduce 4 = .ok (.ifCond .ne 4, 3) := by decide +kernel
theorem dX0_reduce_7 : decode cX0_reduce 7 = .ok (.return_, 1) := by decide +kernel
theorem dX0_reduce_8 : decode cX0_reduce 8 = .ok (.aload_n 0, 1) := by decide +kernel
theorem dX0_reduce_9 : decode cX0_reduce 9 = .ok (.getfield 17, 3) := by decide +kernel
theorem dX0_reduce_12 : decode cX0_reduce 12 = .ok (.lstore_n 1, 1) := by decide +kernel
theorem dX0_reduce_13 : decode cX0_reduce 13 = .ok (.aload_n 0, 1) := by decide +kernel
theorem dX0_reduce_14 : decode cX0_reduce 14 = .ok (.getfield 21, 3) := by decide +kernel
theorem dX0_reduce_17 : decode cX0_reduce 17 = .ok (.lstore_n 3, 1) := by decide +kernel
theorem dX0_reduce_18 : decode cX0_reduce 18 = .ok (.iconst 0, 1) := by decide +kernel
theorem dX0_reduce_19 : decode cX0_reduce 19 = .ok (.istore 5, 2) := by decide +kernel
theorem dX0_reduce_21 : decode cX0_reduce 21 = .ok (.iload 5, 2) := by decide +kernel
theorem dX0_reduce_23 : decode cX0_reduce 23 = .ok (.bipush 100, 2) := by decide +kernel
theorem dX0_reduce_25 : decode cX0_reduce 25 = .ok (.if_icmp .ge 25, 3) := by decide +kernel
theorem dX0_reduce_28 : decode cX0_reduce 28 = .ok (.lload_n 3, 1) := by decide +kernel
theorem dX0_reduce_29 : decode cX0_reduce 29 = .ok (.lconst 0, 1) := by decide +kernel
theorem dX0_reduce_30 : decode cX0_reduce 30 = .ok (.lcmp, 1) := by decide +kernel
theorem dX0_reduce_31 : decode cX0_reduce 31 = .ok (.ifCond .eq 19, 3) := by decide +kernel
theorem dX0_reduce_34 : decode cX0_reduce 34 = .ok (.lload_n 1, 1) := by decide +kernel
theorem dX0_reduce_35 : decode cX0_reduce 35 = .ok (.lload_n 3, 1) := by decide +kernel
theorem dX0_reduce_36 : decode cX0_reduce 36 = .ok (.lrem, 1) := by decide +kernel
theorem dX0_reduce_37 : decode cX0_reduce 37 = .ok (.lstore 6, 2) := by decide +kernel
theorem dX0_reduce_39 : decode cX0_reduce 39 = .ok (.lload_n 3, 1) := by decide +kernel
theorem dX0_reduce_40 : decode cX0_reduce 40 = .ok (.lstore_n 1, 1) := by decide +kernel
theorem dX0_reduce_41 : decode cX0_reduce 41 = .ok (.lload 6, 2) := by decide +kernel
theorem dX0_reduce_43 : decode cX0_reduce 43 = .ok (.lstore_n 3, 1) := by decide +kernel
theorem dX0_reduce_44 : decode cX0_reduce 44 = .ok (.iinc 5 1, 3) := by decide +kernel
theorem dX0_reduce_47 : decode cX0_reduce 47 = .ok (.goto (-26), 3) := by decide +kernel
theorem dX0_reduce_50 : decode cX0_reduce 50 = .ok (.lload_n 1, 1) := by decide +kernel
theorem dX0_reduce_51 : decode cX0_reduce 51 = .ok (.lconst 1, 1) := by decide +kernel
theorem dX0_reduce_52 : decode cX0_reduce 52 = .ok (.lcmp, 1) := by decide +kernel
theorem dX0_reduce_53 : decode cX0_reduce 53 = .ok (.ifCond .le 23, 3) := by decide +kernel
theorem dX0_reduce_56 : decode cX0_reduce 56 = .ok (.aload_n 0, 1) := by decide +kernel
theorem dX0_reduce_57 : decode cX0_reduce 57 = .ok (.dup, 1) := by decide +kernel
theorem dX0_reduce_58 : decode cX0_reduce 58 = .ok (.getfield 17, 3) := by decide +kernel
theorem dX0_reduce_61 : decode cX0_reduce 61 = .ok (.lload_n 1, 1) := by decide +kernel
theorem dX0_reduce_62 : decode cX0_reduce 62 = .ok (.ldiv, 1) := by decide +kernel
theorem dX0_reduce_63 : decode cX0_reduce 63 = .ok (.putfield 17, 3) := by decide +kernel
theorem dX0_reduce_66 : decode cX0_reduce 66 = .ok (.aload_n 0, 1) := by decide +kernel
theorem dX0_reduce_67 : decode cX0_reduce 67 = .ok (.dup, 1) := by decide +kernel
theorem dX0_reduce_68 : decode cX0_reduce 68 = .ok (.getfield 21, 3) := by decide +kernel
theorem dX0_reduce_71 : decode cX0_reduce 71 = .ok (.lload_n 1, 1) := by decide +kernel
theorem dX0_reduce_72 : decode cX0_reduce 72 = .ok (.ldiv, 1) := by decide +kernel
theorem dX0_reduce_73 : decode cX0_reduce 73 = .ok (.putfield 21, 3) := by decide +kernel
theorem dX0_reduce_76 : decode cX0_reduce 76 = .ok (.return_, 1) := by decide +kernel
theorem dX0_partOf_0 : decode cX0_partOf 0 = .ok (.iload_n 1, 1) := by decide +kernel
theorem dX0_partOf_1 : decode cX0_partOf 1 = .ok (.ifCond .ne 10, 3) := by decide +kernel
theorem dX0_partOf_4 : decode cX0_partOf 4 = .ok (.aload_n 0, 1) := by decide +kernel
theorem dX0_partOf_5 : decode cX0_partOf 5 = .ok (.getfield 17, 3) := by decide +kernel
theorem dX0_partOf_8 : decode cX0_partOf 8 = .ok (.goto 20, 3) := by decide +kernel
theorem dX0_partOf_11 : decode cX0_partOf 11 = .ok (.iload_n 1, 1) := by decide +kernel
theorem dX0_partOf_12 : decode cX0_partOf 12 = .ok (.iconst 1, 1) := by decide +kernel
theorem dX0_partOf_13 : decode cX0_partOf 13 = .ok (.if_icmp .ne 10, 3) := by decide +kernel
theorem dX0_partOf_16 : decode cX0_partOf 16 = .ok (.aload_n 0, 1) := by decide +kernel
theorem dX0_partOf_17 : decode cX0_partOf 17 = .ok (.getfield 21, 3) := by decide +kernel
theorem dX0_partOf_20 : decode cX0_partOf 20 = .ok (.goto 8, 3) := by decide +kernel
theorem dX0_partOf_23 : decode cX0_partOf 23 = .ok (.aload_n 0, 1) := by decide +kernel
theorem dX0_partOf_24 : decode cX0_partOf 24 = .ok (.getfield 24, 3) := by decide +kernel
theorem dX0_partOf_27 : decode cX0_partOf 27 = .ok (.i2l, 1) := by decide +kernel
theorem dX0_partOf_28 : decode cX0_partOf 28 = .ok (.lreturn, 1) := by decide +kernel
theorem dX1_init_0 : decode cX1_init 0 = .ok (.aload_n 0, 1) := by decide +kernel
theorem dX1_init_1 : decode cX1_init 1 = .ok (.invokespecial 3, 3) := by decide +kernel
theorem dX1_init_4 : decode cX1_init 4 = .ok (.aload_n 0, 1) := by decide +kernel
theorem dX1_init_5 : decode cX1_init 5 = .ok (.sipush 256, 3) := by decide +kernel
theorem dX1_init_8 : decode cX1_init 8 = .ok (.newarray .int, 2) := by decide +kernel
theorem dX1_init_10 : decode cX1_init 10 = .ok (.putfield 9, 3) := by decide +kernel
theorem dX1_init_13 : decode cX1_init 13 = .ok (.aload_n 0, 1) := by decide +kernel
theorem dX1_init_14 : decode cX1_init 14 = .ok (.iconst 1, 1) := by decide +kernel
theorem dX1_init_15 : decode cX1_init 15 = .ok (.putfield 15, 3) := by decide +kernel
theorem dX1_init_18 : decode cX1_init 18 = .ok (.return_, 1) := by decide +kernel
theorem dX1_find_0 : decode cX1_find 0 = .ok (.aload_n 0, 1) := by decide +kernel
theorem dX1_find_1 : decode cX1_find 1 = .ok (.getfield 9, 3) := by decide +kernel
theorem dX1_find_4 : decode cX1_find 4 = .ok (.iconst 0, 1) := by decide +kernel
theorem dX1_find_5 : decode cX1_find 5 = .ok (.iconst 0, 1) := by decide +kernel
theorem dX1_find_6 : decode cX1_find 6 = .ok (.iastore, 1) := by decide +kernel
theorem dX1_find_7 : decode cX1_find 7 = .ok (.aload_n 0, 1) := by decide +kernel
theorem dX1_find_8 : decode cX1_find 8 = .ok (.iconst 1, 1) := by decide +kernel
theorem dX1_find_9 : decode cX1_find 9 = .ok (.putfield 15, 3) := by decide +kernel
theorem dX1_find_12 : decode cX1_find 12 = .ok (.iconst 0, 1) := by decide +kernel
theorem dX1_find_13 : decode cX1_find 13 = .ok (.istore_n 2, 1) := by decide +kernel
theorem dX1_find_14 : decode cX1_find 14 = .ok (.iload_n 2, 1) := by decide +kernel
theorem dX1_find_15 : decode cX1_find 15 = .ok (.aload_n 1, 1) := by decide +kernel
theorem dX1_find_16 : decode cX1_find 16 = .ok (.getfield 19, 3) := by decide +kernel
theorem dX1_find_19 : decode cX1_find 19 = .ok (.if_icmp .ge 98, 3) := by decide +kernel
theorem dX1_find_22 : decode cX1_find 22 = .ok (.iconst 0, 1) := by decide +kernel
theorem dX1_find_23 : decode cX1_find 23 = .ok (.istore_n 3, 1) := by decide +kernel
theorem dX1_find_24 : decode cX1_find 24 = .ok (.iload_n 3, 1) := by decide +kernel
theorem dX1_find_25 : decode cX1_find 25 = .ok (.aload_n 0, 1) := by decide +kernel
theorem dX1_find_26 : decode cX1_find 26 = .ok (.getfield 15, 3) := by decide +kernel
theorem dX1_find_29 : decode cX1_find 29 = .ok (.if_icmp .ge 72, 3) := by decide +kernel
theorem dX1_find_32 : decode cX1_find 32 = .ok (.aload_n 0, 1) := by decide +kernel
theorem dX1_find_33 : decode cX1_find 33 = .ok (.getfield 9, 3) := by decide +kernel
theorem dX1_find_36 : decode cX1_find 36 = .ok (.iload_n 3, 1) := by decide +kernel
theorem dX1_find_37 : decode cX1_find 37 = .ok (.iaload, 1) := by decide +kernel
theorem dX1_find_38 : decode cX1_find 38 = .ok (.iconst (-1), 1) := by decide +kernel
theorem dX1_find_39 : decode cX1_find 39 = .ok (.if_icmp .eq 20, 3) := by decide +kernel
theorem dX1_find_42 : decode cX1_find 42 = .ok (.iload_n 3, 1) := by decide +kernel
theorem dX1_find_43 : decode cX1_find 43 = .ok (.aload_n 1, 1) := by decide +kernel
theorem dX1_find_44 : decode cX1_find 44 = .ok (.getfield 24, 3) := by decide +kernel
theorem dX1_find_47 : decode cX1_find 47 = .ok (.iload_n 2, 1) := by decide +kernel
theorem dX1_find_48 : decode cX1_find 48 = .ok (.iaload, 1) := by decide +kernel
theorem dX1_find_49 : decode cX1_find 49 = .ok (.iconst (-1), 1) := by decide +kernel
theorem dX1_find_50 : decode cX1_find 50 = .ok (.ixor, 1) := by decide +kernel
theorem dX1_find_51 : decode cX1_find 51 = .ok (.iand, 1) := by decide +kernel
theorem dX1_find_52 : decode cX1_find 52 = .ok (.ifCond .ne 7, 3) := by decide +kernel
theorem dX1_find_55 : decode cX1_find 55 = .ok (.iconst 1, 1) := by decide +kernel
theorem dX1_find_56 : decode cX1_find 56 = .ok (.goto 4, 3) := by decide +kernel
theorem dX1_find_59 : decode cX1_find 59 = .ok (.iconst 0, 1) := by decide +kernel
theorem dX1_find_60 : decode cX1_find 60 = .ok (.istore 4, 2) := by decide +kernel
theorem dX1_find_62 : decode cX1_find 62 = .ok (.aload_n 0, 1) := by decide +kernel
theorem dX1_find_63 : decode cX1_find 63 = .ok (.getfield 9, 3) := by decide +kernel
theorem dX1_find_66 : decode cX1_find 66 = .ok (.aload_n 0, 1) := by decide +kernel
theorem dX1_find_67 : decode cX1_find 67 = .ok (.getfield 15, 3) := by decide +kernel
theorem dX1_find_70 : decode cX1_find 70 = .ok (.iload_n 3, 1) := by decide +kernel
theorem dX1_find_71 : decode cX1_find 71 = .ok (.iadd, 1) := by decide +kernel
theorem dX1_find_72 : decode cX1_find 72 = .ok (.iload 4, 2) := by decide +kernel
theorem dX1_find_74 : decode cX1_find 74 = .ok (.ifCond .eq 19, 3) := by decide +kernel
theorem dX1_find_77 : decode cX1_find 77 = .ok (.aload_n 0, 1) := by decide +kernel
theorem dX1_find_78 : decode cX1_find 78 = .ok (.getfield 9, 3) := by decide +kernel
theorem dX1_find_81 : decode cX1_find 81 = .ok (.iload_n 3, 1) := by decide +kernel
theorem dX1_find_82 : decode cX1_find 82 = .ok (.iaload, 1) := by decide +kernel
theorem dX1_find_83 : decode cX1_find 83 = .ok (.aload_n 1, 1) := by decide +kernel
theorem dX1_find_84 : decode cX1_find 84 = .ok (.getfield 27, 3) := by decide +kernel
theorem dX1_find_87 : decode cX1_find 87 = .ok (.iload_n 2, 1) := by decide +kernel
theorem dX1_find_88 : decode cX1_find 88 = .ok (.iaload, 1) := by decide +kernel
theorem dX1_find_89 : decode cX1_find 89 = .ok (.iadd, 1) := by decide +kernel
theorem dX1_find_90 : decode cX1_find 90 = .ok (.goto 4, 3) := by decide +kernel
theorem dX1_find_93 : decode cX1_find 93 = .ok (.iconst (-1), 1) := by decide +kernel
theorem dX1_find_94 : decode cX1_find 94 = .ok (.iastore, 1) := by decide +kernel
theorem dX1_find_95 : decode cX1_find 95 = .ok (.iinc 3 1, 3) := by decide +kernel
theorem dX1_find_98 : decode cX1_find 98 = .ok (.goto (-74), 3) := by decide +kernel
theorem dX1_find_101 : decode cX1_find 101 = .ok (.aload_n 0, 1) := by decide +kernel
theorem dX1_find_102 : decode cX1_find 102 = .ok (.dup, 1) := by decide +kernel
theorem dX1_find_103 : decode cX1_find 103 = .ok (.getfield 15, 3) := by decide +kernel
theorem dX1_find_106 : decode cX1_find 106 = .ok (.iconst 2, 1) := by decide +kernel
theorem dX1_find_107 : decode cX1_find 107 = .ok (.imul, 1) := by decide +kernel
theorem dX1_find_108 : decode cX1_find 108 = .ok (.putfield 15, 3) := by decide +kernel
theorem dX1_find_111 : decode cX1_find 111 = .ok (.iinc 2 1, 3) := by decide +kernel
theorem dX1_find_114 : decode cX1_find 114 = .ok (.goto (-100), 3) := by decide +kernel
theorem dX1_find_117 : decode cX1_find 117 = .ok (.return_, 1) := by decide +kernel
theorem dX1_weightOf_0 : decode cX1_weightOf 0 = .ok (.aload_n 0, 1) := by decide +kernel
theorem dX1_weightOf_1 : decode cX1_weightOf 1 = .ok (.getfield 9, 3) := by decide +kernel
theorem dX1_weightOf_4 : decode cX1_weightOf 4 = .ok (.iload_n 1, 1) := by decide +kernel
theorem dX1_weightOf_5 : decode cX1_weightOf 5 = .ok (.iaload, 1) := by decide +kernel
theorem dX1_weightOf_6 : decode cX1_weightOf 6 = .ok (.ireturn, 1) := by decide +kernel
theorem dX1_heaviestWith_0 : decode cX1_heaviestWith 0 = .ok (.iload_n 1, 1) := by decide +kernel
theorem dX1_heaviestWith_1 : decode cX1_heaviestWith 1 = .ok (.istore_n 2, 1) := by decide +kernel
theorem dX1_heaviestWith_2 : decode cX1_heaviestWith 2 = .ok (.iconst 0, 1) := by decide +kernel
theorem dX1_heaviestWith_3 : decode cX1_heaviestWith 3 = .ok (.istore_n 3, 1) := by decide +kernel
theorem dX1_heaviestWith_4 : decode cX1_heaviestWith 4 = .ok (.iload_n 3, 1) := by decide +kernel
theorem dX1_heaviestWith_5 : decode cX1_heaviestWith 5 = .ok (.aload_n 0, 1) := by decide +kernel
theorem dX1_heaviestWith_6 : decode cX1_heaviestWith 6 = .ok (.getfield 15, 3) := by decide +kernel
theorem dX1_heaviestWith_9 : decode cX1_heaviestWith 9 = .ok (.if_icmp .ge 33, 3) := by decide +kernel
theorem dX1_heaviestWith_12 : decode cX1_heaviestWith 12 = .ok (.iload_n 3, 1) := by decide +kernel
theorem dX1_heaviestWith_13 : decode cX1_heaviestWith 13 = .ok (.iload_n 1, 1) := by decide +kernel
theorem dX1_heaviestWith_14 : decode cX1_heaviestWith 14 = .ok (.iand, 1) := by decide +kernel
theorem dX1_heaviestWith_15 : decode cX1_heaviestWith 15 = .ok (.iload_n 1, 1) := by decide +kernel
theorem dX1_heaviestWith_16 : decode cX1_heaviestWith 16 = .ok (.if_icmp .ne 20, 3) := by decide +kernel
theorem dX1_heaviestWith_19 : decode cX1_heaviestWith 19 = .ok (.aload_n 0, 1) := by decide +kernel
theorem dX1_heaviestWith_20 : decode cX1_heaviestWith 20 = .ok (.getfield 9, 3) := by decide +kernel
theorem dX1_heaviestWith_23 : decode cX1_heaviestWith 23 = .ok (.iload_n 3, 1) := by decide +kernel
theorem dX1_heaviestWith_24 : decode cX1_heaviestWith 24 = .ok (.iaload, 1) := by decide +kernel
theorem dX1_heaviestWith_25 : decode cX1_heaviestWith 25 = .ok (.aload_n 0, 1) := by decide +kernel
theorem dX1_heaviestWith_26 : decode cX1_heaviestWith 26 = .ok (.getfield 9, 3) := by decide +kernel
theorem dX1_heaviestWith_29 : decode cX1_heaviestWith 29 = .ok (.iload_n 2, 1) := by decide +kernel
theorem dX1_heaviestWith_30 : decode cX1_heaviestWith 30 = .ok (.iaload, 1) := by decide +kernel
theorem dX1_heaviestWith_31 : decode cX1_heaviestWith 31 = .ok (.if_icmp .le 5, 3) := by decide +kernel
theorem dX1_heaviestWith_34 : decode cX1_heaviestWith 34 = .ok (.iload_n 3, 1) := by decide +kernel
theorem dX1_heaviestWith_35 : decode cX1_heaviestWith 35 = .ok (.istore_n 2, 1) := by decide +kernel
theorem dX1_heaviestWith_36 : decode cX1_heaviestWith 36 = .ok (.iinc 3 1, 3) := by decide +kernel
theorem dX1_heaviestWith_39 : decode cX1_heaviestWith 39 = .ok (.goto (-35), 3) := by decide +kernel
theorem dX1_heaviestWith_42 : decode cX1_heaviestWith 42 = .ok (.iload_n 2, 1) := by decide +kernel
theorem dX1_heaviestWith_43 : decode cX1_heaviestWith 43 = .ok (.ireturn, 1) := by decide +kernel
theorem dX1_mostVertices_0 : decode cX1_mostVertices 0 = .ok (.iconst 0, 1) := by decide +kernel
theorem dX1_mostVertices_1 : decode cX1_mostVertices 1 = .ok (.istore_n 1, 1) := by decide +kernel
theorem dX1_mostVertices_2 : decode cX1_mostVertices 2 = .ok (.iconst 0, 1) := by decide +kernel
theorem dX1_mostVertices_3 : decode cX1_mostVertices 3 = .ok (.istore_n 2, 1) := by decide +kernel
theorem dX1_mostVertices_4 : decode cX1_mostVertices 4 = .ok (.iload_n 2, 1) := by decide +kernel
theorem dX1_mostVertices_5 : decode cX1_mostVertices 5 = .ok (.aload_n 0, 1) := by decide +kernel
theorem dX1_mostVertices_6 : decode cX1_mostVertices 6 = .ok (.getfield 15, 3) := by decide +kernel
theorem dX1_mostVertices_9 : decode cX1_mostVertices 9 = .ok (.if_icmp .ge 28, 3) := by decide +kernel
theorem dX1_mostVertices_12 : decode cX1_mostVertices 12 = .ok (.aload_n 0, 1) := by decide +kernel
theorem dX1_mostVertices_13 : decode cX1_mostVertices 13 = .ok (.getfield 9, 3) := by decide +kernel
theorem dX1_mostVertices_16 : decode cX1_mostVertices 16 = .ok (.iload_n 2, 1) := by decide +kernel
theorem dX1_mostVertices_17 : decode cX1_mostVertices 17 = .ok (.iaload, 1) := by decide +kernel
theorem dX1_mostVertices_18 : decode cX1_mostVertices 18 = .ok (.iconst (-1), 1) := by decide +kernel
theorem dX1_mostVertices_19 : decode cX1_mostVertices 19 = .ok (.if_icmp .eq 12, 3) := by decide +kernel
theorem dX1_mostVertices_22 : decode cX1_mostVertices 22 = .ok (.iload_n 1, 1) := by decide +kernel
theorem dX1_mostVertices_23 : decode cX1_mostVertices 23 = .ok (.iload_n 2, 1) := by decide +kernel
theorem dX1_mostVertices_24 : decode cX1_mostVertices 24 = .ok (.invokestatic 28, 3) := by decide +kernel
theorem dX1_mostVertices_27 : decode cX1_mostVertices 27 = .ok (.invokestatic 34, 3) := by decide +kernel
theorem dX1_mostVertices_30 : decode cX1_mostVertices 30 = .ok (.istore_n 1, 1) := by decide +kernel
theorem dX1_mostVertices_31 : decode cX1_mostVertices 31 = .ok (.iinc 2 1, 3) := by decide +kernel
theorem dX1_mostVertices_34 : decode cX1_mostVertices 34 = .ok (.goto (-30), 3) := by decide +kernel
theorem dX1_mostVertices_37 : decode cX1_mostVertices 37 = .ok (.iload_n 1, 1) := by decide +kernel
theorem dX1_mostVertices_38 : decode cX1_mostVertices 38 = .ok (.ireturn, 1) := by decide +kernel
theorem dX2_init_0 : decode cX2_init 0 = .ok (.aload_n 0, 1) := by decide +kernel
theorem dX2_init_1 : decode cX2_init 1 = .ok (.invokespecial 3, 3) := by decide +kernel
theorem dX2_init_4 : decode cX2_init 4 = .ok (.aload_n 0, 1) := by decide +kernel
theorem dX2_init_5 : decode cX2_init 5 = .ok (.bipush 8, 2) := by decide +kernel
theorem dX2_init_7 : decode cX2_init 7 = .ok (.newarray .int, 2) := by decide +kernel
theorem dX2_init_9 : decode cX2_init 9 = .ok (.putfield 9, 3) := by decide +kernel
theorem dX2_init_12 : decode cX2_init 12 = .ok (.aload_n 0, 1) := by decide +kernel
theorem dX2_init_13 : decode cX2_init 13 = .ok (.iconst 0, 1) := by decide +kernel
theorem dX2_init_14 : decode cX2_init 14 = .ok (.putfield 15, 3) := by decide +kernel
theorem dX2_init_17 : decode cX2_init 17 = .ok (.return_, 1) := by decide +kernel
theorem dX2_find_0 : decode cX2_find 0 = .ok (.iconst 1, 1) := by decide +kernel
theorem dX2_find_1 : decode cX2_find 1 = .ok (.istore_n 2, 1) := by decide +kernel
theorem dX2_find_2 : decode cX2_find 2 = .ok (.iload_n 2, 1) := by decide +kernel
theorem dX2_find_3 : decode cX2_find 3 = .ok (.aload_n 1, 1) := by decide +kernel
theorem dX2_find_4 : decode cX2_find 4 = .ok (.getfield 19, 3) := by decide +kernel
theorem dX2_find_7 : decode cX2_find 7 = .ok (.if_icmp .gt 29, 3) := by decide +kernel
theorem dX2_find_10 : decode cX2_find 10 = .ok (.aload_n 1, 1) := by decide +kernel
theorem dX2_find_11 : decode cX2_find 11 = .ok (.aload_n 0, 1) := by decide +kernel
theorem dX2_find_12 : decode cX2_find 12 = .ok (.getfield 9, 3) := by decide +kernel
theorem dX2_find_15 : decode cX2_find 15 = .ok (.iload_n 2, 1) := by decide +kernel
theorem dX2_find_16 : decode cX2_find 16 = .ok (.iconst 0, 1) := by decide +kernel
theorem dX2_find_17 : decode cX2_find 17 = .ok (.iconst 0, 1) := by decide +kernel
theorem dX2_find_18 : decode cX2_find 18 = .ok (.invokestatic 24, 3) := by decide +kernel
theorem dX2_find_21 : decode cX2_find 21 = .ok (.ifCond .eq 9, 3) := by decide +kernel
theorem dX2_find_24 : decode cX2_find 24 = .ok (.aload_n 0, 1) := by decide +kernel
theorem dX2_find_25 : decode cX2_find 25 = .ok (.iload_n 2, 1) := by decide +kernel
theorem dX2_find_26 : decode cX2_find 26 = .ok (.putfield 15, 3) := by decide +kernel
theorem dX2_find_29 : decode cX2_find 29 = .ok (.return_, 1) := by decide +kernel
theorem dX2_find_30 : decode cX2_find 30 = .ok (.iinc 2 1, 3) := by decide +kernel
theorem dX2_find_33 : decode cX2_find 33 = .ok (.goto (-31), 3) := by decide +kernel
theorem dX2_find_36 : decode cX2_find 36 = .ok (.return_, 1) := by decide +kernel
theorem dX2_paint_0 : decode cX2_paint 0 = .ok (.iload_n 3, 1) := by decide +kernel
theorem dX2_paint_1 : decode cX2_paint 1 = .ok (.aload_n 0, 1) := by decide +kernel
theorem dX2_paint_2 : decode cX2_paint 2 = .ok (.getfield 19, 3) := by decide +kernel
theorem dX2_paint_5 : decode cX2_paint 5 = .ok (.if_icmp .lt 5, 3) := by decide +kernel
theorem dX2_paint_8 : decode cX2_paint 8 = .ok (.iconst 1, 1) := by decide +kernel
theorem dX2_paint_9 : decode cX2_paint 9 = .ok (.ireturn, 1) := by decide +kernel
theorem dX2_paint_10 : decode cX2_paint 10 = .ok (.iconst 0, 1) := by decide +kernel
theorem dX2_paint_11 : decode cX2_paint 11 = .ok (.istore 5, 2) := by decide +kernel
theorem dX2_paint_13 : decode cX2_paint 13 = .ok (.iload 5, 2) := by decide +kernel
theorem dX2_paint_15 : decode cX2_paint 15 = .ok (.iload 4, 2) := by decide +kernel
theorem dX2_paint_17 : decode cX2_paint 17 = .ok (.if_icmp .gt 54, 3) := by decide +kernel
theorem dX2_paint_20 : decode cX2_paint 20 = .ok (.iload 5, 2) := by decide +kernel
theorem dX2_paint_22 : decode cX2_paint 22 = .ok (.iload_n 2, 1) := by decide +kernel
theorem dX2_paint_23 : decode cX2_paint 23 = .ok (.if_icmp .ge 48, 3) := by decide +kernel
theorem dX2_paint_26 : decode cX2_paint 26 = .ok (.aload_n 0, 1) := by decide +kernel
theorem dX2_paint_27 : decode cX2_paint 27 = .ok (.aload_n 1, 1) := by decide +kernel
theorem dX2_paint_28 : decode cX2_paint 28 = .ok (.iload_n 3, 1) := by decide +kernel
theorem dX2_paint_29 : decode cX2_paint 29 = .ok (.iload 5, 2) := by decide +kernel
theorem dX2_paint_31 : decode cX2_paint 31 = .ok (.invokestatic 28, 3) := by decide +kernel
theorem dX2_paint_34 : decode cX2_paint 34 = .ok (.ifCond .eq 31, 3) := by decide +kernel
theorem dX2_paint_37 : decode cX2_paint 37 = .ok (.aload_n 1, 1) := by decide +kernel
theorem dX2_paint_38 : decode cX2_paint 38 = .ok (.iload_n 3, 1) := by decide +kernel
theorem dX2_paint_39 : decode cX2_paint 39 = .ok (.iload 5, 2) := by decide +kernel
theorem dX2_paint_41 : decode cX2_paint 41 = .ok (.iastore, 1) := by decide +kernel
theorem dX2_paint_42 : decode cX2_paint 42 = .ok (.aload_n 0, 1) := by decide +kernel
theorem dX2_paint_43 : decode cX2_paint 43 = .ok (.aload_n 1, 1) := by decide +kernel
theorem dX2_paint_44 : decode cX2_paint 44 = .ok (.iload_n 2, 1) := by decide +kernel
theorem dX2_paint_45 : decode cX2_paint 45 = .ok (.iload_n 3, 1) := by decide +kernel
theorem dX2_paint_46 : decode cX2_paint 46 = .ok (.iconst 1, 1) := by decide +kernel
theorem dX2_paint_47 : decode cX2_paint 47 = .ok (.iadd, 1) := by decide +kernel
theorem dX2_paint_48 : decode cX2_paint 48 = .ok (.iload 4, 2) := by decide +kernel
theorem dX2_paint_50 : decode cX2_paint 50 = .ok (.iload 5, 2) := by decide +kernel
theorem dX2_paint_52 : decode cX2_paint 52 = .ok (.iconst 1, 1) := by decide +kernel
theorem dX2_paint_53 : decode cX2_paint 53 = .ok (.iadd, 1) := by decide +kernel
theorem dX2_paint_54 : decode cX2_paint 54 = .ok (.invokestatic 32, 3) := by decide +kernel
theorem dX2_paint_57 : decode cX2_paint 57 = .ok (.invokestatic 24, 3) := by decide +kernel
theorem dX2_paint_60 : decode cX2_paint 60 = .ok (.ifCond .eq 5, 3) := by decide +kernel
theorem dX2_paint_63 : decode cX2_paint 63 = .ok (.iconst 1, 1) := by decide +kernel
theorem dX2_paint_64 : decode cX2_paint 64 = .ok (.ireturn, 1) := by decide +kernel
theorem dX2_paint_65 : decode cX2_paint 65 = .ok (.iinc 5 1, 3) := by decide +kernel
theorem dX2_paint_68 : decode cX2_paint 68 = .ok (.goto (-55), 3) := by decide +kernel
theorem dX2_paint_71 : decode cX2_paint 71 = .ok (.iconst 0, 1) := by decide +kernel
theorem dX2_paint_72 : decode cX2_paint 72 = .ok (.ireturn, 1) := by decide +kernel
theorem dX2_isFree_0 : decode cX2_isFree 0 = .ok (.iconst 0, 1) := by decide +kernel
theorem dX2_isFree_1 : decode cX2_isFree 1 = .ok (.istore 4, 2) := by decide +kernel
theorem dX2_isFree_3 : decode cX2_isFree 3 = .ok (.iload 4, 2) := by decide +kernel
theorem dX2_isFree_5 : decode cX2_isFree 5 = .ok (.iload_n 2, 1) := by decide +kernel
theorem dX2_isFree_6 : decode cX2_isFree 6 = .ok (.if_icmp .ge 29, 3) := by decide +kernel
theorem dX2_isFree_9 : decode cX2_isFree 9 = .ok (.aload_n 1, 1) := by decide +kernel
theorem dX2_isFree_10 : decode cX2_isFree 10 = .ok (.iload 4, 2) := by decide +kernel
theorem dX2_isFree_12 : decode cX2_isFree 12 = .ok (.iaload, 1) := by decide +kernel
theorem dX2_isFree_13 : decode cX2_isFree 13 = .ok (.iload_n 3, 1) := by decide +kernel
theorem dX2_isFree_14 : decode cX2_isFree 14 = .ok (.if_icmp .ne 15, 3) := by decide +kernel
theorem dX2_isFree_17 : decode cX2_isFree 17 = .ok (.aload_n 0, 1) := by decide +kernel
theorem dX2_isFree_18 : decode cX2_isFree 18 = .ok (.iload 4, 2) := by decide +kernel
theorem dX2_isFree_20 : decode cX2_isFree 20 = .ok (.iload_n 2, 1) := by decide +kernel
theorem dX2_isFree_21 : decode cX2_isFree 21 = .ok (.invokevirtual 38, 3) := by decide +kernel
theorem dX2_isFree_24 : decode cX2_isFree 24 = .ok (.ifCond .eq 5, 3) := by decide +kernel
theorem dX2_isFree_27 : decode cX2_isFree 27 = .ok (.iconst 0, 1) := by decide +kernel
theorem dX2_isFree_28 : decode cX2_isFree 28 = .ok (.ireturn, 1) := by decide +kernel
theorem dX2_isFree_29 : decode cX2_isFree 29 = .ok (.iinc 4 1, 3) := by decide +kernel
theorem dX2_isFree_32 : decode cX2_isFree 32 = .ok (.goto (-29), 3) := by decide +kernel
theorem dX2_isFree_35 : decode cX2_isFree 35 = .ok (.iconst 1, 1) := by decide +kernel
theorem dX2_isFree_36 : decode cX2_isFree 36 = .ok (.ireturn, 1) := by decide +kernel
theorem dX3_init_0 : decode cX3_init 0 = .ok (.aload_n 0, 1) := by decide +kernel
theorem dX3_init_1 : decode cX3_init 1 = .ok (.invokespecial 3, 3) := by decide +kernel
theorem dX3_init_4 : decode cX3_init 4 = .ok (.aload_n 0, 1) := by decide +kernel
theorem dX3_init_5 : decode cX3_init 5 = .ok (.bipush 60, 2) := by decide +kernel
theorem dX3_init_7 : decode cX3_init 7 = .ok (.newarray .char, 2) := by decide +kernel
theorem dX3_init_9 : decode cX3_init 9 = .ok (.putfield 9, 3) := by decide +kernel
theorem dX3_init_12 : decode cX3_init 12 = .ok (.aload_n 0, 1) := by decide +kernel
theorem dX3_init_13 : decode cX3_init 13 = .ok (.iconst 0, 1) := by decide +kernel
theorem dX3_init_14 : decode cX3_init 14 = .ok (.putfield 15, 3) := by decide +kernel
theorem dX3_init_17 : decode cX3_init 17 = .ok (.return_, 1) := by decide +kernel
theorem dX3_firstFault_0 : decode cX3_firstFault 0 = .ok (.iconst 0, 1) := by decide +kernel
theorem dX3_firstFault_1 : decode cX3_firstFault 1 = .ok (.istore_n 2, 1) := by decide +kernel
theorem dX3_firstFault_2 : decode cX3_firstFault 2 = .ok (.iload_n 2, 1) := by decide +kernel
theorem dX3_firstFault_3 : decode cX3_firstFault 3 = .ok (.aload_n 0, 1) := by decide +kernel
theorem dX3_firstFault_4 : decode cX3_firstFault 4 = .ok (.getfield 15, 3) := by decide +kernel
theorem dX3_firstFault_7 : decode cX3_firstFault 7 = .ok (.if_icmp .ge 20, 3) := by decide +kernel
theorem dX3_firstFault_10 : decode cX3_firstFault 10 = .ok (.aload_n 0, 1) := by decide +kernel
theorem dX3_firstFault_11 : decode cX3_firstFault 11 = .ok (.iload_n 2, 1) := by decide +kernel
theorem dX3_firstFault_12 : decode cX3_firstFault 12 = .ok (.iload_n 1, 1) := by decide +kernel
theorem dX3_firstFault_13 : decode cX3_firstFault 13 = .ok (.invokevirtual 19, 3) := by decide +kernel
theorem dX3_firstFault_16 : decode cX3_firstFault 16 = .ok (.ifCond .ne 5, 3) := by decide +kernel
theorem dX3_firstFault_19 : decode cX3_firstFault 19 = .ok (.iload_n 2, 1) := by decide +kernel
theorem dX3_firstFault_20 : decode cX3_firstFault 20 = .ok (.ireturn, 1) := by decide +kernel
theorem dX3_firstFault_21 : decode cX3_firstFault 21 = .ok (.iinc 2 1, 3) := by decide +kernel
theorem dX3_firstFault_24 : decode cX3_firstFault 24 = .ok (.goto (-22), 3) := by decide +kernel
theorem dX3_firstFault_27 : decode cX3_firstFault 27 = .ok (.aload_n 0, 1) := by decide +kernel
theorem dX3_firstFault_28 : decode cX3_firstFault 28 = .ok (.getfield 15, 3) := by decide +kernel
theorem dX3_firstFault_31 : decode cX3_firstFault 31 = .ok (.ireturn, 1) := by decide +kernel
theorem dX3_goesOn_0 : decode cX3_goesOn 0 = .ok (.aload_n 0, 1) := by decide +kernel
theorem dX3_goesOn_1 : decode cX3_goesOn 1 = .ok (.getfield 9, 3) := by decide +kernel
theorem dX3_goesOn_4 : decode cX3_goesOn 4 = .ok (.iload_n 1, 1) := by decide +kernel
theorem dX3_goesOn_5 : decode cX3_goesOn 5 = .ok (.caload, 1) := by decide +kernel
theorem dX3_goesOn_6 : decode cX3_goesOn 6 = .ok (.istore_n 3, 1) := by decide +kernel
theorem dX3_goesOn_7 : decode cX3_goesOn 7 = .ok (.iload_n 1, 1) := by decide +kernel
theorem dX3_goesOn_8 : decode cX3_goesOn 8 = .ok (.iconst 3, 1) := by decide +kernel
theorem dX3_goesOn_9 : decode cX3_goesOn 9 = .ok (.irem, 1) := by decide +kernel
theorem dX3_goesOn_10 : decode cX3_goesOn 10 = .ok (.lookupswitch 74 #[(0, 26), (1, 48)], 26) := by decide +kernel
theorem dX3_goesOn_36 : decode cX3_goesOn 36 = .ok (.iload_n 3, 1) := by decide +kernel
theorem dX3_goesOn_37 : decode cX3_goesOn 37 = .ok (.bipush 48, 2) := by decide +kernel
theorem dX3_goesOn_39 : decode cX3_goesOn 39 = .ok (.if_icmp .lt 17, 3) := by decide +kernel
theorem dX3_goesOn_42 : decode cX3_goesOn 42 = .ok (.iload_n 3, 1) := by decide +kernel
theorem dX3_goesOn_43 : decode cX3_goesOn 43 = .ok (.bipush 48, 2) := by decide +kernel
theorem dX3_goesOn_45 : decode cX3_goesOn 45 = .ok (.iload_n 2, 1) := by decide +kernel
theorem dX3_goesOn_46 : decode cX3_goesOn 46 = .ok (.iadd, 1) := by decide +kernel
theorem dX3_goesOn_47 : decode cX3_goesOn 47 = .ok (.iconst 1, 1) := by decide +kernel
theorem dX3_goesOn_48 : decode cX3_goesOn 48 = .ok (.isub, 1) := by decide +kernel
theorem dX3_goesOn_49 : decode cX3_goesOn 49 = .ok (.if_icmp .ge 7, 3) := by decide +kernel
theorem dX3_goesOn_52 : decode cX3_goesOn 52 = .ok (.iconst 1, 1) := by decide +kernel
theorem dX3_goesOn_53 : decode cX3_goesOn 53 = .ok (.goto 4, 3) := by decide +kernel
theorem dX3_goesOn_56 : decode cX3_goesOn 56 = .ok (.iconst 0, 1) := by decide +kernel
theorem dX3_goesOn_57 : decode cX3_goesOn 57 = .ok (.ireturn, 1) := by decide +kernel
theorem dX3_goesOn_58 : decode cX3_goesOn 58 = .ok (.iload_n 3, 1) := by decide +kernel
theorem dX3_goesOn_59 : decode cX3_goesOn 59 = .ok (.aload_n 0, 1) := by decide +kernel
theorem dX3_goesOn_60 : decode cX3_goesOn 60 = .ok (.getfield 9, 3) := by decide +kernel
theorem dX3_goesOn_63 : decode cX3_goesOn 63 = .ok (.iload_n 1, 1) := by decide +kernel
theorem dX3_goesOn_64 : decode cX3_goesOn 64 = .ok (.iconst 1, 1) := by decide +kernel
theorem dX3_goesOn_65 : decode cX3_goesOn 65 = .ok (.isub, 1) := by decide +kernel
theorem dX3_goesOn_66 : decode cX3_goesOn 66 = .ok (.caload, 1) := by decide +kernel
theorem dX3_goesOn_67 : decode cX3_goesOn 67 = .ok (.if_icmp .le 15, 3) := by decide +kernel
theorem dX3_goesOn_70 : decode cX3_goesOn 70 = .ok (.iload_n 3, 1) := by decide +kernel
theorem dX3_goesOn_71 : decode cX3_goesOn 71 = .ok (.bipush 48, 2) := by decide +kernel
theorem dX3_goesOn_73 : decode cX3_goesOn 73 = .ok (.iload_n 2, 1) := by decide +kernel
theorem dX3_goesOn_74 : decode cX3_goesOn 74 = .ok (.iadd, 1) := by decide +kernel
theorem dX3_goesOn_75 : decode cX3_goesOn 75 = .ok (.if_icmp .ge 7, 3) := by decide +kernel
theorem dX3_goesOn_78 : decode cX3_goesOn 78 = .ok (.iconst 1, 1) := by decide +kernel
theorem dX3_goesOn_79 : decode cX3_goesOn 79 = .ok (.goto 4, 3) := by decide +kernel
theorem dX3_goesOn_82 : decode cX3_goesOn 82 = .ok (.iconst 0, 1) := by decide +kernel
theorem dX3_goesOn_83 : decode cX3_goesOn 83 = .ok (.ireturn, 1) := by decide +kernel
theorem dX3_goesOn_84 : decode cX3_goesOn 84 = .ok (.iload_n 3, 1) := by decide +kernel
theorem dX3_goesOn_85 : decode cX3_goesOn 85 = .ok (.bipush 44, 2) := by decide +kernel
theorem dX3_goesOn_87 : decode cX3_goesOn 87 = .ok (.if_icmp .ne 7, 3) := by decide +kernel
theorem dX3_goesOn_90 : decode cX3_goesOn 90 = .ok (.iconst 1, 1) := by decide +kernel
theorem dX3_goesOn_91 : decode cX3_goesOn 91 = .ok (.goto 4, 3) := by decide +kernel
theorem dX3_goesOn_94 : decode cX3_goesOn 94 = .ok (.iconst 0, 1) := by decide +kernel
theorem dX3_goesOn_95 : decode cX3_goesOn 95 = .ok (.ireturn, 1) := by decide +kernel
theorem dX3_isWhole_0 : decode cX3_isWhole 0 = .ok (.aload_n 0, 1) := by decide +kernel
theorem dX3_isWhole_1 : decode cX3_isWhole 1 = .ok (.getfield 15, 3) := by decide +kernel
theorem dX3_isWhole_4 : decode cX3_isWhole 4 = .ok (.iconst 3, 1) := by decide +kernel
theorem dX3_isWhole_5 : decode cX3_isWhole 5 = .ok (.irem, 1) := by decide +kernel
theorem dX3_isWhole_6 : decode cX3_isWhole 6 = .ok (.iconst 2, 1) := by decide +kernel
theorem dX3_isWhole_7 : decode cX3_isWhole 7 = .ok (.if_icmp .ne 19, 3) := by decide +kernel
theorem dX3_isWhole_10 : decode cX3_isWhole 10 = .ok (.aload_n 0, 1) := by decide +kernel
theorem dX3_isWhole_11 : decode cX3_isWhole 11 = .ok (.iload_n 1, 1) := by decide +kernel
theorem dX3_isWhole_12 : decode cX3_isWhole 12 = .ok (.invokevirtual 23, 3) := by decide +kernel
theorem dX3_isWhole_15 : decode cX3_isWhole 15 = .ok (.aload_n 0, 1) := by decide +kernel
theorem dX3_isWhole_16 : decode cX3_isWhole 16 = .ok (.getfield 15, 3) := by decide +kernel
theorem dX3_isWhole_19 : decode cX3_isWhole 19 = .ok (.if_icmp .ne 7, 3) := by decide +kernel
theorem dX3_isWhole_22 : decode cX3_isWhole 22 = .ok (.iconst 1, 1) := by decide +kernel
theorem dX3_isWhole_23 : decode cX3_isWhole 23 = .ok (.goto 4, 3) := by decide +kernel
theorem dX3_isWhole_26 : decode cX3_isWhole 26 = .ok (.iconst 0, 1) := by decide +kernel
theorem dX3_isWhole_27 : decode cX3_isWhole 27 = .ok (.ireturn, 1) := by decide +kernel
theorem dX3_joinAll_0 : decode cX3_joinAll 0 = .ok (.iconst 0, 1) := by decide +kernel
theorem dX3_joinAll_1 : decode cX3_joinAll 1 = .ok (.istore_n 2, 1) := by decide +kernel
theorem dX3_joinAll_2 : decode cX3_joinAll 2 = .ok (.iload_n 2, 1) := by decide +kernel
theorem dX3_joinAll_3 : decode cX3_joinAll 3 = .ok (.iconst 1, 1) := by decide +kernel
theorem dX3_joinAll_4 : decode cX3_joinAll 4 = .ok (.iadd, 1) := by decide +kernel
theorem dX3_joinAll_5 : decode cX3_joinAll 5 = .ok (.aload_n 0, 1) := by decide +kernel
theorem dX3_joinAll_6 : decode cX3_joinAll 6 = .ok (.getfield 15, 3) := by decide +kernel
theorem dX3_joinAll_9 : decode cX3_joinAll 9 = .ok (.if_icmp .ge 34, 3) := by decide +kernel
theorem dX3_joinAll_12 : decode cX3_joinAll 12 = .ok (.aload_n 1, 1) := by decide +kernel
theorem dX3_joinAll_13 : decode cX3_joinAll 13 = .ok (.aload_n 0, 1) := by decide +kernel
theorem dX3_joinAll_14 : decode cX3_joinAll 14 = .ok (.getfield 9, 3) := by decide +kernel
theorem dX3_joinAll_17 : decode cX3_joinAll 17 = .ok (.iload_n 2, 1) := by decide +kernel
theorem dX3_joinAll_18 : decode cX3_joinAll 18 = .ok (.caload, 1) := by decide +kernel
theorem dX3_joinAll_19 : decode cX3_joinAll 19 = .ok (.bipush 48, 2) := by decide +kernel
theorem dX3_joinAll_21 : decode cX3_joinAll 21 = .ok (.isub, 1) := by decide +kernel
theorem dX3_joinAll_22 : decode cX3_joinAll 22 = .ok (.aload_n 0, 1) := by decide +kernel
theorem dX3_joinAll_23 : decode cX3_joinAll 23 = .ok (.getfield 9, 3) := by decide +kernel
theorem dX3_joinAll_26 : decode cX3_joinAll 26 = .ok (.iload_n 2, 1) := by decide +kernel
theorem dX3_joinAll_27 : decode cX3_joinAll 27 = .ok (.iconst 1, 1) := by decide +kernel
theorem dX3_joinAll_28 : decode cX3_joinAll 28 = .ok (.iadd, 1) := by decide +kernel
theorem dX3_joinAll_29 : decode cX3_joinAll 29 = .ok (.caload, 1) := by decide +kernel
theorem dX3_joinAll_30 : decode cX3_joinAll 30 = .ok (.bipush 48, 2) := by decide +kernel
theorem dX3_joinAll_32 : decode cX3_joinAll 32 = .ok (.isub, 1) := by decide +kernel
theorem dX3_joinAll_33 : decode cX3_joinAll 33 = .ok (.iconst 1, 1) := by decide +kernel
theorem dX3_joinAll_34 : decode cX3_joinAll 34 = .ok (.invokevirtual 27, 3) := by decide +kernel
theorem dX3_joinAll_37 : decode cX3_joinAll 37 = .ok (.iinc 2 3, 3) := by decide +kernel
theorem dX3_joinAll_40 : decode cX3_joinAll 40 = .ok (.goto (-38), 3) := by decide +kernel
theorem dX3_joinAll_43 : decode cX3_joinAll 43 = .ok (.return_, 1) := by decide +kernel
theorem dX4_init_0 : decode cX4_init 0 = .ok (.aload_n 0, 1) := by decide +kernel
theorem dX4_init_1 : decode cX4_init 1 = .ok (.invokespecial 3, 3) := by decide +kernel
theorem dX4_init_4 : decode cX4_init 4 = .ok (.aload_n 0, 1) := by decide +kernel
theorem dX4_init_5 : decode cX4_init 5 = .ok (.iconst 4, 1) := by decide +kernel
theorem dX4_init_6 : decode cX4_init 6 = .ok (.putfield 9, 3) := by decide +kernel
theorem dX4_init_9 : decode cX4_init 9 = .ok (.aload_n 0, 1) := by decide +kernel
theorem dX4_init_10 : decode cX4_init 10 = .ok (.iconst 3, 1) := by decide +kernel
theorem dX4_init_11 : decode cX4_init 11 = .ok (.putfield 15, 3) := by decide +kernel
theorem dX4_init_14 : decode cX4_init 14 = .ok (.aload_n 0, 1) := by decide +kernel
theorem dX4_init_15 : decode cX4_init 15 = .ok (.bipush 8, 2) := by decide +kernel
theorem dX4_init_17 : decode cX4_init 17 = .ok (.newarray .int, 2) := by decide +kernel
theorem dX4_init_19 : decode cX4_init 19 = .ok (.putfield 18, 3) := by decide +kernel
theorem dX4_init_22 : decode cX4_init 22 = .ok (.aload_n 0, 1) := by decide +kernel
theorem dX4_init_23 : decode cX4_init 23 = .ok (.bipush 8, 2) := by decide +kernel
theorem dX4_init_25 : decode cX4_init 25 = .ok (.newarray .int, 2) := by decide +kernel
theorem dX4_init_27 : decode cX4_init 27 = .ok (.putfield 22, 3) := by decide +kernel
theorem dX4_init_30 : decode cX4_init 30 = .ok (.aload_n 0, 1) := by decide +kernel
theorem dX4_init_31 : decode cX4_init 31 = .ok (.bipush 8, 2) := by decide +kernel
theorem dX4_init_33 : decode cX4_init 33 = .ok (.iconst 4, 1) := by decide +kernel
theorem dX4_init_34 : decode cX4_init 34 = .ok (.multianewarray 25 2, 4) := by decide +kernel
theorem dX4_init_38 : decode cX4_init 38 = .ok (.putfield 27, 3) := by decide +kernel
theorem dX4_init_41 : decode cX4_init 41 = .ok (.aload_n 0, 1) := by decide +kernel
theorem dX4_init_42 : decode cX4_init 42 = .ok (.iconst 4, 1) := by decide +kernel
theorem dX4_init_43 : decode cX4_init 43 = .ok (.newarray .int, 2) := by decide +kernel
theorem dX4_init_45 : decode cX4_init 45 = .ok (.putfield 30, 3) := by decide +kernel
theorem dX4_init_48 : decode cX4_init 48 = .ok (.aload_n 0, 1) := by decide +kernel
theorem dX4_init_49 : decode cX4_init 49 = .ok (.getfield 22, 3) := by decide +kernel
theorem dX4_init_52 : decode cX4_init 52 = .ok (.iconst 1, 1) := by decide +kernel
theorem dX4_init_53 : decode cX4_init 53 = .ok (.invokestatic 33, 3) := by decide +kernel
theorem dX4_init_56 : decode cX4_init 56 = .ok (.return_, 1) := by decide +kernel
theorem dX4_clear_0 : decode cX4_clear 0 = .ok (.aload_n 0, 1) := by decide +kernel
theorem dX4_clear_1 : decode cX4_clear 1 = .ok (.iload_n 1, 1) := by decide +kernel
theorem dX4_clear_2 : decode cX4_clear 2 = .ok (.putfield 9, 3) := by decide +kernel
theorem dX4_clear_5 : decode cX4_clear 5 = .ok (.aload_n 0, 1) := by decide +kernel
theorem dX4_clear_6 : decode cX4_clear 6 = .ok (.iload_n 2, 1) := by decide +kernel
theorem dX4_clear_7 : decode cX4_clear 7 = .ok (.putfield 15, 3) := by decide +kernel
theorem dX4_clear_10 : decode cX4_clear 10 = .ok (.aload_n 0, 1) := by decide +kernel
theorem dX4_clear_11 : decode cX4_clear 11 = .ok (.getfield 18, 3) := by decide +kernel
theorem dX4_clear_14 : decode cX4_clear 14 = .ok (.iconst 0, 1) := by decide +kernel
theorem dX4_clear_15 : decode cX4_clear 15 = .ok (.invokestatic 33, 3) := by decide +kernel
theorem dX4_clear_18 : decode cX4_clear 18 = .ok (.aload_n 0, 1) := by decide +kernel
theorem dX4_clear_19 : decode cX4_clear 19 = .ok (.getfield 22, 3) := by decide +kernel
theorem dX4_clear_22 : decode cX4_clear 22 = .ok (.iconst 1, 1) := by decide +kernel
theorem dX4_clear_23 : decode cX4_clear 23 = .ok (.invokestatic 33, 3) := by decide +kernel
theorem dX4_clear_26 : decode cX4_clear 26 = .ok (.iconst 0, 1) := by decide +kernel
theorem dX4_clear_27 : decode cX4_clear 27 = .ok (.istore_n 3, 1) := by decide +kernel
theorem dX4_clear_28 : decode cX4_clear 28 = .ok (.iload_n 3, 1) := by decide +kernel
theorem dX4_clear_29 : decode cX4_clear 29 = .ok (.bipush 8, 2) := by decide +kernel
theorem dX4_clear_31 : decode cX4_clear 31 = .ok (.if_icmp .ge 19, 3) := by decide +kernel
theorem dX4_clear_34 : decode cX4_clear 34 = .ok (.aload_n 0, 1) := by decide +kernel
theorem dX4_clear_35 : decode cX4_clear 35 = .ok (.getfield 27, 3) := by decide +kernel
theorem dX4_clear_38 : decode cX4_clear 38 = .ok (.iload_n 3, 1) := by decide +kernel
theorem dX4_clear_39 : decode cX4_clear 39 = .ok (.aaload, 1) := by decide +kernel
theorem dX4_clear_40 : decode cX4_clear 40 = .ok (.iconst 0, 1) := by decide +kernel
theorem dX4_clear_41 : decode cX4_clear 41 = .ok (.invokestatic 33, 3) := by decide +kernel
theorem dX4_clear_44 : decode cX4_clear 44 = .ok (.iinc 3 1, 3) := by decide +kernel
theorem dX4_clear_47 : decode cX4_clear 47 = .ok (.goto (-19), 3) := by decide +kernel
theorem dX4_clear_50 : decode cX4_clear 50 = .ok (.aload_n 0, 1) := by decide +kernel
theorem dX4_clear_51 : decode cX4_clear 51 = .ok (.getfield 30, 3) := by decide +kernel
theorem dX4_clear_54 : decode cX4_clear 54 = .ok (.iconst 0, 1) := by decide +kernel
theorem dX4_clear_55 : decode cX4_clear 55 = .ok (.invokestatic 33, 3) := by decide +kernel
theorem dX4_clear_58 : decode cX4_clear 58 = .ok (.return_, 1) := by decide +kernel
theorem dX4_copyFrom_0 : decode cX4_copyFrom 0 = .ok (.aload_n 0, 1) := by decide +kernel
theorem dX4_copyFrom_1 : decode cX4_copyFrom 1 = .ok (.aload_n 1, 1) := by decide +kernel
theorem dX4_copyFrom_2 : decode cX4_copyFrom 2 = .ok (.getfield 9, 3) := by decide +kernel
theorem dX4_copyFrom_5 : decode cX4_copyFrom 5 = .ok (.putfield 9, 3) := by decide +kernel
theorem dX4_copyFrom_8 : decode cX4_copyFrom 8 = .ok (.aload_n 0, 1) := by decide +kernel
theorem dX4_copyFrom_9 : decode cX4_copyFrom 9 = .ok (.aload_n 1, 1) := by decide +kernel
theorem dX4_copyFrom_10 : decode cX4_copyFrom 10 = .ok (.getfield 15, 3) := by decide +kernel
theorem dX4_copyFrom_13 : decode cX4_copyFrom 13 = .ok (.putfield 15, 3) := by decide +kernel
theorem dX4_copyFrom_16 : decode cX4_copyFrom 16 = .ok (.aload_n 1, 1) := by decide +kernel
theorem dX4_copyFrom_17 : decode cX4_copyFrom 17 = .ok (.getfield 18, 3) := by decide +kernel
theorem dX4_copyFrom_20 : decode cX4_copyFrom 20 = .ok (.iconst 0, 1) := by decide +kernel
theorem dX4_copyFrom_21 : decode cX4_copyFrom 21 = .ok (.aload_n 0, 1) := by decide +kernel
theorem dX4_copyFrom_22 : decode cX4_copyFrom 22 = .ok (.getfield 18, 3) := by decide +kernel
theorem dX4_copyFrom_25 : decode cX4_copyFrom 25 = .ok (.iconst 0, 1) := by decide +kernel
theorem dX4_copyFrom_26 : decode cX4_copyFrom 26 = .ok (.bipush 8, 2) := by decide +kernel
theorem dX4_copyFrom_28 : decode cX4_copyFrom 28 = .ok (.invokestatic 39, 3) := by decide +kernel
theorem dX4_copyFrom_31 : decode cX4_copyFrom 31 = .ok (.aload_n 1, 1) := by decide +kernel
theorem dX4_copyFrom_32 : decode cX4_copyFrom 32 = .ok (.getfield 22, 3) := by decide +kernel
theorem dX4_copyFrom_35 : decode cX4_copyFrom 35 = .ok (.iconst 0, 1) := by decide +kernel
theorem dX4_copyFrom_36 : decode cX4_copyFrom 36 = .ok (.aload_n 0, 1) := by decide +kernel
theorem dX4_copyFrom_37 : decode cX4_copyFrom 37 = .ok (.getfield 22, 3) := by decide +kernel
theorem dX4_copyFrom_40 : decode cX4_copyFrom 40 = .ok (.iconst 0, 1) := by decide +kernel
theorem dX4_copyFrom_41 : decode cX4_copyFrom 41 = .ok (.bipush 8, 2) := by decide +kernel
theorem dX4_copyFrom_43 : decode cX4_copyFrom 43 = .ok (.invokestatic 39, 3) := by decide +kernel
theorem dX4_copyFrom_46 : decode cX4_copyFrom 46 = .ok (.iconst 0, 1) := by decide +kernel
theorem dX4_copyFrom_47 : decode cX4_copyFrom 47 = .ok (.istore_n 2, 1) := by decide +kernel
theorem dX4_copyFrom_48 : decode cX4_copyFrom 48 = .ok (.iload_n 2, 1) := by decide +kernel
theorem dX4_copyFrom_49 : decode cX4_copyFrom 49 = .ok (.bipush 8, 2) := by decide +kernel
theorem dX4_copyFrom_51 : decode cX4_copyFrom 51 = .ok (.if_icmp .ge 27, 3) := by decide +kernel
theorem dX4_copyFrom_54 : decode cX4_copyFrom 54 = .ok (.aload_n 1, 1) := by decide +kernel
theorem dX4_copyFrom_55 : decode cX4_copyFrom 55 = .ok (.getfield 27, 3) := by decide +kernel
theorem dX4_copyFrom_58 : decode cX4_copyFrom 58 = .ok (.iload_n 2, 1) := by decide +kernel
theorem dX4_copyFrom_59 : decode cX4_copyFrom 59 = .ok (.aaload, 1) := by decide +kernel
theorem dX4_copyFrom_60 : decode cX4_copyFrom 60 = .ok (.iconst 0, 1) := by decide +kernel
theorem dX4_copyFrom_61 : decode cX4_copyFrom 61 = .ok (.aload_n 0, 1) := by decide +kernel
theorem dX4_copyFrom_62 : decode cX4_copyFrom 62 = .ok (.getfield 27, 3) := by decide +kernel
theorem dX4_copyFrom_65 : decode cX4_copyFrom 65 = .ok (.iload_n 2, 1) := by decide +kernel
theorem dX4_copyFrom_66 : decode cX4_copyFrom 66 = .ok (.aaload, 1) := by decide +kernel
theorem dX4_copyFrom_67 : decode cX4_copyFrom 67 = .ok (.iconst 0, 1) := by decide +kernel
theorem dX4_copyFrom_68 : decode cX4_copyFrom 68 = .ok (.iconst 4, 1) := by decide +kernel
theorem dX4_copyFrom_69 : decode cX4_copyFrom 69 = .ok (.invokestatic 39, 3) := by decide +kernel
theorem dX4_copyFrom_72 : decode cX4_copyFrom 72 = .ok (.iinc 2 1, 3) := by decide +kernel
theorem dX4_copyFrom_75 : decode cX4_copyFrom 75 = .ok (.goto (-27), 3) := by decide +kernel
theorem dX4_copyFrom_78 : decode cX4_copyFrom 78 = .ok (.aload_n 1, 1) := by decide +kernel
theorem dX4_copyFrom_79 : decode cX4_copyFrom 79 = .ok (.getfield 30, 3) := by decide +kernel
theorem dX4_copyFrom_82 : decode cX4_copyFrom 82 = .ok (.iconst 0, 1) := by decide +kernel
theorem dX4_copyFrom_83 : decode cX4_copyFrom 83 = .ok (.aload_n 0, 1) := by decide +kernel
theorem dX4_copyFrom_84 : decode cX4_copyFrom 84 = .ok (.getfield 30, 3) := by decide +kernel
theorem dX4_copyFrom_87 : decode cX4_copyFrom 87 = .ok (.iconst 0, 1) := by decide +kernel
theorem dX4_copyFrom_88 : decode cX4_copyFrom 88 = .ok (.iconst 4, 1) := by decide +kernel
theorem dX4_copyFrom_89 : decode cX4_copyFrom 89 = .ok (.invokestatic 39, 3) := by decide +kernel
theorem dX4_copyFrom_92 : decode cX4_copyFrom 92 = .ok (.return_, 1) := by decide +kernel
theorem dX4_areJoined_0 : decode cX4_areJoined 0 = .ok (.aload_n 0, 1) := by decide +kernel
theorem dX4_areJoined_1 : decode cX4_areJoined 1 = .ok (.getfield 18, 3) := by decide +kernel
theorem dX4_areJoined_4 : decode cX4_areJoined 4 = .ok (.iload_n 1, 1) := by decide +kernel
theorem dX4_areJoined_5 : decode cX4_areJoined 5 = .ok (.iaload, 1) := by decide +kernel
theorem dX4_areJoined_6 : decode cX4_areJoined 6 = .ok (.iconst 1, 1) := by decide +kernel
theorem dX4_areJoined_7 : decode cX4_areJoined 7 = .ok (.iload_n 2, 1) := by decide +kernel
theorem dX4_areJoined_8 : decode cX4_areJoined 8 = .ok (.ishl, 1) := by decide +kernel
theorem dX4_areJoined_9 : decode cX4_areJoined 9 = .ok (.iand, 1) := by decide +kernel
theorem dX4_areJoined_10 : decode cX4_areJoined 10 = .ok (.ifCond .eq 7, 3) := by decide +kernel
theorem dX4_areJoined_13 : decode cX4_areJoined 13 = .ok (.iconst 1, 1) := by decide +kernel
theorem dX4_areJoined_14 : decode cX4_areJoined 14 = .ok (.goto 4, 3) := by decide +kernel
theorem dX4_areJoined_17 : decode cX4_areJoined 17 = .ok (.iconst 0, 1) := by decide +kernel
theorem dX4_areJoined_18 : decode cX4_areJoined 18 = .ok (.ireturn, 1) := by decide +kernel
theorem dX4_connect_0 : decode cX4_connect 0 = .ok (.iload_n 3, 1) := by decide +kernel
theorem dX4_connect_1 : decode cX4_connect 1 = .ok (.ifCond .eq 30, 3) := by decide +kernel
theorem dX4_connect_4 : decode cX4_connect 4 = .ok (.aload_n 0, 1) := by decide +kernel
theorem dX4_connect_5 : decode cX4_connect 5 = .ok (.getfield 18, 3) := by decide +kernel
theorem dX4_connect_8 : decode cX4_connect 8 = .ok (.iload_n 1, 1) := by decide +kernel
theorem dX4_connect_9 : decode cX4_connect 9 = .ok (.dup2, 1) := by decide +kernel
theorem dX4_connect_10 : decode cX4_connect 10 = .ok (.iaload, 1) := by decide +kernel
theorem dX4_connect_11 : decode cX4_connect 11 = .ok (.iconst 1, 1) := by decide +kernel
theorem dX4_connect_12 : decode cX4_connect 12 = .ok (.iload_n 2, 1) := by decide +kernel
theorem dX4_connect_13 : decode cX4_connect 13 = .ok (.ishl, 1) := by decide +kernel
theorem dX4_connect_14 : decode cX4_connect 14 = .ok (.ior, 1) := by decide +kernel
theorem dX4_connect_15 : decode cX4_connect 15 = .ok (.iastore, 1) := by decide +kernel
theorem dX4_connect_16 : decode cX4_connect 16 = .ok (.aload_n 0, 1) := by decide +kernel
theorem dX4_connect_17 : decode cX4_connect 17 = .ok (.getfield 18, 3) := by decide +kernel
theorem dX4_connect_20 : decode cX4_connect 20 = .ok (.iload_n 2, 1) := by decide +kernel
theorem dX4_connect_21 : decode cX4_connect 21 = .ok (.dup2, 1) := by decide +kernel
theorem dX4_connect_22 : decode cX4_connect 22 = .ok (.iaload, 1) := by decide +kernel
theorem dX4_connect_23 : decode cX4_connect 23 = .ok (.iconst 1, 1) := by decide +kernel
theorem dX4_connect_24 : decode cX4_connect 24 = .ok (.iload_n 1, 1) := by decide +kernel
theorem dX4_connect_25 : decode cX4_connect 25 = .ok (.ishl, 1) := by decide +kernel
theorem dX4_connect_26 : decode cX4_connect 26 = .ok (.ior, 1) := by decide +kernel
theorem dX4_connect_27 : decode cX4_connect 27 = .ok (.iastore, 1) := by decide +kernel
theorem dX4_connect_28 : decode cX4_connect 28 = .ok (.goto 31, 3) := by decide +kernel
theorem dX4_connect_31 : decode cX4_connect 31 = .ok (.aload_n 0, 1) := by decide +kernel
theorem dX4_connect_32 : decode cX4_connect 32 = .ok (.getfield 18, 3) := by decide +kernel
theorem dX4_connect_35 : decode cX4_connect 35 = .ok (.iload_n 1, 1) := by decide +kernel
theorem dX4_connect_36 : decode cX4_connect 36 = .ok (.dup2, 1) := by decide +kernel
theorem dX4_connect_37 : decode cX4_connect 37 = .ok (.iaload, 1) := by decide +kernel
theorem dX4_connect_38 : decode cX4_connect 38 = .ok (.iconst 1, 1) := by decide +kernel
theorem dX4_connect_39 : decode cX4_connect 39 = .ok (.iload_n 2, 1) := by decide +kernel
theorem dX4_connect_40 : decode cX4_connect 40 = .ok (.ishl, 1) := by decide +kernel
theorem dX4_connect_41 : decode cX4_connect 41 = .ok (.iconst (-1), 1) := by decide +kernel
theorem dX4_connect_42 : decode cX4_connect 42 = .ok (.ixor, 1) := by decide +kernel
theorem dX4_connect_43 : decode cX4_connect 43 = .ok (.iand, 1) := by decide +kernel
theorem dX4_connect_44 : decode cX4_connect 44 = .ok (.iastore, 1) := by decide +kernel
theorem dX4_connect_45 : decode cX4_connect 45 = .ok (.aload_n 0, 1) := by decide +kernel
theorem dX4_connect_46 : decode cX4_connect 46 = .ok (.getfield 18, 3) := by decide +kernel
theorem dX4_connect_49 : decode cX4_connect 49 = .ok (.iload_n 2, 1) := by decide +kernel
theorem dX4_connect_50 : decode cX4_connect 50 = .ok (.dup2, 1) := by decide +kernel
theorem dX4_connect_51 : decode cX4_connect 51 = .ok (.iaload, 1) := by decide +kernel
theorem dX4_connect_52 : decode cX4_connect 52 = .ok (.iconst 1, 1) := by decide +kernel
theorem dX4_connect_53 : decode cX4_connect 53 = .ok (.iload_n 1, 1) := by decide +kernel
theorem dX4_connect_54 : decode cX4_connect 54 = .ok (.ishl, 1) := by decide +kernel
theorem dX4_connect_55 : decode cX4_connect 55 = .ok (.iconst (-1), 1) := by decide +kernel
theorem dX4_connect_56 : decode cX4_connect 56 = .ok (.ixor, 1) := by decide +kernel
theorem dX4_connect_57 : decode cX4_connect 57 = .ok (.iand, 1) := by decide +kernel
theorem dX4_connect_58 : decode cX4_connect 58 = .ok (.iastore, 1) := by decide +kernel
theorem dX4_connect_59 : decode cX4_connect 59 = .ok (.return_, 1) := by decide +kernel
theorem dX4_edges_0 : decode cX4_edges 0 = .ok (.iconst 0, 1) := by decide +kernel
theorem dX4_edges_1 : decode cX4_edges 1 = .ok (.istore_n 1, 1) := by decide +kernel
theorem dX4_edges_2 : decode cX4_edges 2 = .ok (.iconst 0, 1) := by decide +kernel
theorem dX4_edges_3 : decode cX4_edges 3 = .ok (.istore_n 2, 1) := by decide +kernel
theorem dX4_edges_4 : decode cX4_edges 4 = .ok (.iload_n 2, 1) := by decide +kernel
theorem dX4_edges_5 : decode cX4_edges 5 = .ok (.aload_n 0, 1) := by decide +kernel
theorem dX4_edges_6 : decode cX4_edges 6 = .ok (.getfield 9, 3) := by decide +kernel
theorem dX4_edges_9 : decode cX4_edges 9 = .ok (.if_icmp .ge 21, 3) := by decide +kernel
theorem dX4_edges_12 : decode cX4_edges 12 = .ok (.iload_n 1, 1) := by decide +kernel
theorem dX4_edges_13 : decode cX4_edges 13 = .ok (.aload_n 0, 1) := by decide +kernel
theorem dX4_edges_14 : decode cX4_edges 14 = .ok (.getfield 18, 3) := by decide +kernel
theorem dX4_edges_17 : decode cX4_edges 17 = .ok (.iload_n 2, 1) := by decide +kernel
theorem dX4_edges_18 : decode cX4_edges 18 = .ok (.iaload, 1) := by decide +kernel
theorem dX4_edges_19 : decode cX4_edges 19 = .ok (.invokestatic 45, 3) := by decide +kernel
theorem dX4_edges_22 : decode cX4_edges 22 = .ok (.iadd, 1) := by decide +kernel
theorem dX4_edges_23 : decode cX4_edges 23 = .ok (.istore_n 1, 1) := by decide +kernel
theorem dX4_edges_24 : decode cX4_edges 24 = .ok (.iinc 2 1, 3) := by decide +kernel
theorem dX4_edges_27 : decode cX4_edges 27 = .ok (.goto (-23), 3) := by decide +kernel
theorem dX4_edges_30 : decode cX4_edges 30 = .ok (.iload_n 1, 1) := by decide +kernel
theorem dX4_edges_31 : decode cX4_edges 31 = .ok (.iconst 2, 1) := by decide +kernel
theorem dX4_edges_32 : decode cX4_edges 32 = .ok (.idiv, 1) := by decide +kernel
theorem dX4_edges_33 : decode cX4_edges 33 = .ok (.ireturn, 1) := by decide +kernel
theorem dX4_flipEdges_0 : decode cX4_flipEdges 0 = .ok (.iconst 1, 1) := by decide +kernel
theorem dX4_flipEdges_1 : decode cX4_flipEdges 1 = .ok (.aload_n 0, 1) := by decide +kernel
theorem dX4_flipEdges_2 : decode cX4_flipEdges 2 = .ok (.getfield 9, 3) := by decide +kernel
theorem dX4_flipEdges_5 : decode cX4_flipEdges 5 = .ok (.ishl, 1) := by decide +kernel
theorem dX4_flipEdges_6 : decode cX4_flipEdges 6 = .ok (.iconst 1, 1) := by decide +kernel
theorem dX4_flipEdges_7 : decode cX4_flipEdges 7 = .ok (.isub, 1) := by decide +kernel
theorem dX4_flipEdges_8 : decode cX4_flipEdges 8 = .ok (.istore_n 1, 1) := by decide +kernel
theorem dX4_flipEdges_9 : decode cX4_flipEdges 9 = .ok (.iconst 0, 1) := by decide +kernel
theorem dX4_flipEdges_10 : decode cX4_flipEdges 10 = .ok (.istore_n 2, 1) := by decide +kernel
theorem dX4_flipEdges_11 : decode cX4_flipEdges 11 = .ok (.iload_n 2, 1) := by decide +kernel
theorem dX4_flipEdges_12 : decode cX4_flipEdges 12 = .ok (.aload_n 0, 1) := by decide +kernel
theorem dX4_flipEdges_13 : decode cX4_flipEdges 13 = .ok (.getfield 9, 3) := by decide +kernel
theorem dX4_flipEdges_16 : decode cX4_flipEdges 16 = .ok (.if_icmp .ge 31, 3) := by decide +kernel
theorem dX4_flipEdges_19 : decode cX4_flipEdges 19 = .ok (.aload_n 0, 1) := by decide +kernel
theorem dX4_flipEdges_20 : decode cX4_flipEdges 20 = .ok (.getfield 18, 3) := by decide +kernel
theorem dX4_flipEdges_23 : decode cX4_flipEdges 23 = .ok (.iload_n 2, 1) := by decide +kernel
theorem dX4_flipEdges_24 : decode cX4_flipEdges 24 = .ok (.iload_n 1, 1) := by decide +kernel
theorem dX4_flipEdges_25 : decode cX4_flipEdges 25 = .ok (.aload_n 0, 1) := by decide +kernel
theorem dX4_flipEdges_26 : decode cX4_flipEdges 26 = .ok (.getfield 18, 3) := by decide +kernel
theorem dX4_flipEdges_29 : decode cX4_flipEdges 29 = .ok (.iload_n 2, 1) := by decide +kernel
theorem dX4_flipEdges_30 : decode cX4_flipEdges 30 = .ok (.iaload, 1) := by decide +kernel
theorem dX4_flipEdges_31 : decode cX4_flipEdges 31 = .ok (.iconst (-1), 1) := by decide +kernel
theorem dX4_flipEdges_32 : decode cX4_flipEdges 32 = .ok (.ixor, 1) := by decide +kernel
theorem dX4_flipEdges_33 : decode cX4_flipEdges 33 = .ok (.iand, 1) := by decide +kernel
theorem dX4_flipEdges_34 : decode cX4_flipEdges 34 = .ok (.iconst 1, 1) := by decide +kernel
theorem dX4_flipEdges_35 : decode cX4_flipEdges 35 = .ok (.iload_n 2, 1) := by decide +kernel
theorem dX4_flipEdges_36 : decode cX4_flipEdges 36 = .ok (.ishl, 1) := by decide +kernel
theorem dX4_flipEdges_37 : decode cX4_flipEdges 37 = .ok (.iconst (-1), 1) := by decide +kernel
theorem dX4_flipEdges_38 : decode cX4_flipEdges 38 = .ok (.ixor, 1) := by decide +kernel
theorem dX4_flipEdges_39 : decode cX4_flipEdges 39 = .ok (.iand, 1) := by decide +kernel
theorem dX4_flipEdges_40 : decode cX4_flipEdges 40 = .ok (.iastore, 1) := by decide +kernel
theorem dX4_flipEdges_41 : decode cX4_flipEdges 41 = .ok (.iinc 2 1, 3) := by decide +kernel
theorem dX4_flipEdges_44 : decode cX4_flipEdges 44 = .ok (.goto (-33), 3) := by decide +kernel
theorem dX4_flipEdges_47 : decode cX4_flipEdges 47 = .ok (.return_, 1) := by decide +kernel
theorem dX4_drop_0 : decode cX4_drop 0 = .ok (.iconst 1, 1) := by decide +kernel
theorem dX4_drop_1 : decode cX4_drop 1 = .ok (.iload_n 1, 1) := by decide +kernel
theorem dX4_drop_2 : decode cX4_drop 2 = .ok (.ishl, 1) := by decide +kernel
theorem dX4_drop_3 : decode cX4_drop 3 = .ok (.iconst 1, 1) := by decide +kernel
theorem dX4_drop_4 : decode cX4_drop 4 = .ok (.isub, 1) := by decide +kernel
theorem dX4_drop_5 : decode cX4_drop 5 = .ok (.istore_n 2, 1) := by decide +kernel
theorem dX4_drop_6 : decode cX4_drop 6 = .ok (.iconst 0, 1) := by decide +kernel
theorem dX4_drop_7 : decode cX4_drop 7 = .ok (.istore_n 3, 1) := by decide +kernel
theorem dX4_drop_8 : decode cX4_drop 8 = .ok (.iload_n 3, 1) := by decide +kernel
theorem dX4_drop_9 : decode cX4_drop 9 = .ok (.aload_n 0, 1) := by decide +kernel
theorem dX4_drop_10 : decode cX4_drop 10 = .ok (.getfield 9, 3) := by decide +kernel
theorem dX4_drop_13 : decode cX4_drop 13 = .ok (.if_icmp .ge 36, 3) := by decide +kernel
theorem dX4_drop_16 : decode cX4_drop 16 = .ok (.aload_n 0, 1) := by decide +kernel
theorem dX4_drop_17 : decode cX4_drop 17 = .ok (.getfield 18, 3) := by decide +kernel
theorem dX4_drop_20 : decode cX4_drop 20 = .ok (.iload_n 3, 1) := by decide +kernel
theorem dX4_drop_21 : decode cX4_drop 21 = .ok (.iaload, 1) := by decide +kernel
theorem dX4_drop_22 : decode cX4_drop 22 = .ok (.istore 4, 2) := by decide +kernel
theorem dX4_drop_24 : decode cX4_drop 24 = .ok (.aload_n 0, 1) := by decide +kernel
theorem dX4_drop_25 : decode cX4_drop 25 = .ok (.getfield 18, 3) := by decide +kernel
theorem dX4_drop_28 : decode cX4_drop 28 = .ok (.iload_n 3, 1) := by decide +kernel
theorem dX4_drop_29 : decode cX4_drop 29 = .ok (.iload 4, 2) := by decide +kernel
theorem dX4_drop_31 : decode cX4_drop 31 = .ok (.iload_n 2, 1) := by decide +kernel
theorem dX4_drop_32 : decode cX4_drop 32 = .ok (.iand, 1) := by decide +kernel
theorem dX4_drop_33 : decode cX4_drop 33 = .ok (.iload 4, 2) := by decide +kernel
theorem dX4_drop_35 : decode cX4_drop 35 = .ok (.iconst 1, 1) := by decide +kernel
theorem dX4_drop_36 : decode cX4_drop 36 = .ok (.ishr, 1) := by decide +kernel
theorem dX4_drop_37 : decode cX4_drop 37 = .ok (.iload_n 2, 1) := by decide +kernel
theorem dX4_drop_38 : decode cX4_drop 38 = .ok (.iconst (-1), 1) := by decide +kernel
theorem dX4_drop_39 : decode cX4_drop 39 = .ok (.ixor, 1) := by decide +kernel
theorem dX4_drop_40 : decode cX4_drop 40 = .ok (.iand, 1) := by decide +kernel
theorem dX4_drop_41 : decode cX4_drop 41 = .ok (.ior, 1) := by decide +kernel
theorem dX4_drop_42 : decode cX4_drop 42 = .ok (.iastore, 1) := by decide +kernel
theorem dX4_drop_43 : decode cX4_drop 43 = .ok (.iinc 3 1, 3) := by decide +kernel
theorem dX4_drop_46 : decode cX4_drop 46 = .ok (.goto (-38), 3) := by decide +kernel
theorem dX4_drop_49 : decode cX4_drop 49 = .ok (.iload_n 1, 1) := by decide +kernel
theorem dX4_drop_50 : decode cX4_drop 50 = .ok (.istore_n 3, 1) := by decide +kernel
theorem dX4_drop_51 : decode cX4_drop 51 = .ok (.iload_n 3, 1) := by decide +kernel
theorem dX4_drop_52 : decode cX4_drop 52 = .ok (.iconst 1, 1) := by decide +kernel
theorem dX4_drop_53 : decode cX4_drop 53 = .ok (.iadd, 1) := by decide +kernel
theorem dX4_drop_54 : decode cX4_drop 54 = .ok (.aload_n 0, 1) := by decide +kernel
theorem dX4_drop_55 : decode cX4_drop 55 = .ok (.getfield 9, 3) := by decide +kernel
theorem dX4_drop_58 : decode cX4_drop 58 = .ok (.if_icmp .ge 57, 3) := by decide +kernel
theorem dX4_drop_61 : decode cX4_drop 61 = .ok (.aload_n 0, 1) := by decide +kernel
theorem dX4_drop_62 : decode cX4_drop 62 = .ok (.getfield 18, 3) := by decide +kernel
theorem dX4_drop_65 : decode cX4_drop 65 = .ok (.iload_n 3, 1) := by decide +kernel
theorem dX4_drop_66 : decode cX4_drop 66 = .ok (.aload_n 0, 1) := by decide +kernel
theorem dX4_drop_67 : decode cX4_drop 67 = .ok (.getfield 18, 3) := by decide +kernel
theorem dX4_drop_70 : decode cX4_drop 70 = .ok (.iload_n 3, 1) := by decide +kernel
theorem dX4_drop_71 : decode cX4_drop 71 = .ok (.iconst 1, 1) := by decide +kernel
theorem dX4_drop_72 : decode cX4_drop 72 = .ok (.iadd, 1) := by decide +kernel
theorem dX4_drop_73 : decode cX4_drop 73 = .ok (.iaload, 1) := by decide +kernel
theorem dX4_drop_74 : decode cX4_drop 74 = .ok (.iastore, 1) := by decide +kernel
theorem dX4_drop_75 : decode cX4_drop 75 = .ok (.aload_n 0, 1) := by decide +kernel
theorem dX4_drop_76 : decode cX4_drop 76 = .ok (.getfield 22, 3) := by decide +kernel
theorem dX4_drop_79 : decode cX4_drop 79 = .ok (.iload_n 3, 1) := by decide +kernel
theorem dX4_drop_80 : decode cX4_drop 80 = .ok (.aload_n 0, 1) := by decide +kernel
theorem dX4_drop_81 : decode cX4_drop 81 = .ok (.getfield 22, 3) := by decide +kernel
theorem dX4_drop_84 : decode cX4_drop 84 = .ok (.iload_n 3, 1) := by decide +kernel
theorem dX4_drop_85 : decode cX4_drop 85 = .ok (.iconst 1, 1) := by decide +kernel
theorem dX4_drop_86 : decode cX4_drop 86 = .ok (.iadd, 1) := by decide +kernel
theorem dX4_drop_87 : decode cX4_drop 87 = .ok (.iaload, 1) := by decide +kernel
theorem dX4_drop_88 : decode cX4_drop 88 = .ok (.iastore, 1) := by decide +kernel
theorem dX4_drop_89 : decode cX4_drop 89 = .ok (.aload_n 0, 1) := by decide +kernel
theorem dX4_drop_90 : decode cX4_drop 90 = .ok (.getfield 27, 3) := by decide +kernel
theorem dX4_drop_93 : decode cX4_drop 93 = .ok (.iload_n 3, 1) := by decide +kernel
theorem dX4_drop_94 : decode cX4_drop 94 = .ok (.iconst 1, 1) := by decide +kernel
theorem dX4_drop_95 : decode cX4_drop 95 = .ok (.iadd, 1) := by decide +kernel
theorem dX4_drop_96 : decode cX4_drop 96 = .ok (.aaload, 1) := by decide +kernel
theorem dX4_drop_97 : decode cX4_drop 97 = .ok (.iconst 0, 1) := by decide +kernel
theorem dX4_drop_98 : decode cX4_drop 98 = .ok (.aload_n 0, 1) := by decide +kernel
theorem dX4_drop_99 : decode cX4_drop 99 = .ok (.getfield 27, 3) := by decide +kernel
theorem dX4_drop_102 : decode cX4_drop 102 = .ok (.iload_n 3, 1) := by decide +kernel
theorem dX4_drop_103 : decode cX4_drop 103 = .ok (.aaload, 1) := by decide +kernel
theorem dX4_drop_104 : decode cX4_drop 104 = .ok (.iconst 0, 1) := by decide +kernel
theorem dX4_drop_105 : decode cX4_drop 105 = .ok (.iconst 4, 1) := by decide +kernel
theorem dX4_drop_106 : decode cX4_drop 106 = .ok (.invokestatic 39, 3) := by decide +kernel
theorem dX4_drop_109 : decode cX4_drop 109 = .ok (.iinc 3 1, 3) := by decide +kernel
theorem dX4_drop_112 : decode cX4_drop 112 = .ok (.goto (-61), 3) := by decide +kernel
theorem dX4_drop_115 : decode cX4_drop 115 = .ok (.aload_n 0, 1) := by decide +kernel
theorem dX4_drop_116 : decode cX4_drop 116 = .ok (.dup, 1) := by decide +kernel
theorem dX4_drop_117 : decode cX4_drop 117 = .ok (.getfield 9, 3) := by decide +kernel
theorem dX4_drop_120 : decode cX4_drop 120 = .ok (.iconst 1, 1) := by decide +kernel
theorem dX4_drop_121 : decode cX4_drop 121 = .ok (.isub, 1) := by decide +kernel
theorem dX4_drop_122 : decode cX4_drop 122 = .ok (.putfield 9, 3) := by decide +kernel
theorem dX4_drop_125 : decode cX4_drop 125 = .ok (.return_, 1) := by decide +kernel
theorem dX4_becomeProduct_0 : decode cX4_becomeProduct 0 = .ok (.aload_n 0, 1) := by decide +kernel
theorem dX4_becomeProduct_1 : decode cX4_becomeProduct 1 = .ok (.aload_n 1, 1) := by decide +kernel
theorem dX4_becomeProduct_2 : decode cX4_becomeProduct 2 = .ok (.getfield 9, 3) := by decide +kernel
theorem dX4_becomeProduct_5 : decode cX4_becomeProduct 5 = .ok (.aload_n 2, 1) := by decide +kernel
theorem dX4_becomeProduct_6 : decode cX4_becomeProduct 6 = .ok (.getfield 9, 3) := by decide +kernel
theorem dX4_becomeProduct_9 : decode cX4_becomeProduct 9 = .ok (.imul, 1) := by decide +kernel
theorem dX4_becomeProduct_10 : decode cX4_becomeProduct 10 = .ok (.aload_n 1, 1) := by decide +kernel
theorem dX4_becomeProduct_11 : decode cX4_becomeProduct 11 = .ok (.getfield 15, 3) := by decide +kernel
theorem dX4_becomeProduct_14 : decode cX4_becomeProduct 14 = .ok (.aload_n 2, 1) := by decide +kernel
theorem dX4_becomeProduct_15 : decode cX4_becomeProduct 15 = .ok (.getfield 15, 3) := by decide +kernel
theorem dX4_becomeProduct_18 : decode cX4_becomeProduct 18 = .ok (.imul, 1) := by decide +kernel
theorem dX4_becomeProduct_19 : decode cX4_becomeProduct 19 = .ok (.invokevirtual 51, 3) := by decide +kernel
theorem dX4_becomeProduct_22 : decode cX4_becomeProduct 22 = .ok (.iconst 0, 1) := by decide +kernel
theorem dX4_becomeProduct_23 : decode cX4_becomeProduct 23 = .ok (.istore_n 3, 1) := by decide +kernel
theorem dX4_becomeProduct_24 : decode cX4_becomeProduct 24 = .ok (.iload_n 3, 1) := by decide +kernel
theorem dX4_becomeProduct_25 : decode cX4_becomeProduct 25 = .ok (.aload_n 1, 1) := by decide +kernel
theorem dX4_becomeProduct_26 : decode cX4_becomeProduct 26 = .ok (.getfield 9, 3) := by decide +kernel
theorem dX4_becomeProduct_29 : decode cX4_becomeProduct 29 = .ok (.if_icmp .ge 99, 3) := by decide +kernel
theorem dX4_becomeProduct_32 : decode cX4_becomeProduct 32 = .ok (.iconst 0, 1) := by decide +kernel
theorem dX4_becomeProduct_33 : decode cX4_becomeProduct 33 = .ok (.istore 4, 2) := by decide +kernel
theorem dX4_becomeProduct_35 : decode cX4_becomeProduct 35 = .ok (.iload 4, 2) := by decide +kernel
theorem dX4_becomeProduct_37 : decode cX4_becomeProduct 37 = .ok (.aload_n 2, 1) := by decide +kernel
theorem dX4_becomeProduct_38 : decode cX4_becomeProduct 38 = .ok (.getfield 9, 3) := by decide +kernel
theorem dX4_becomeProduct_41 : decode cX4_becomeProduct 41 = .ok (.if_icmp .ge 81, 3) := by decide +kernel
theorem dX4_becomeProduct_44 : decode cX4_becomeProduct 44 = .ok (.aload_n 2, 1) := by decide +kernel
theorem dX4_becomeProduct_45 : decode cX4_becomeProduct 45 = .ok (.getfield 9, 3) := by decide +kernel
theorem dX4_becomeProduct_48 : decode cX4_becomeProduct 48 = .ok (.iload_n 3, 1) := by decide +kernel
theorem dX4_becomeProduct_49 : decode cX4_becomeProduct 49 = .ok (.imul, 1) := by decide +kernel
theorem dX4_becomeProduct_50 : decode cX4_becomeProduct 50 = .ok (.iload 4, 2) := by decide +kernel
theorem dX4_becomeProduct_52 : decode cX4_becomeProduct 52 = .ok (.iadd, 1) := by decide +kernel
theorem dX4_becomeProduct_53 : decode cX4_becomeProduct 53 = .ok (.istore 5, 2) := by decide +kernel
theorem dX4_becomeProduct_55 : decode cX4_becomeProduct 55 = .ok (.aload_n 0, 1) := by decide +kernel
theorem dX4_becomeProduct_56 : decode cX4_becomeProduct 56 = .ok (.getfield 18, 3) := by decide +kernel
theorem dX4_becomeProduct_59 : decode cX4_becomeProduct 59 = .ok (.iload 5, 2) := by decide +kernel
theorem dX4_becomeProduct_61 : decode cX4_becomeProduct 61 = .ok (.aload_n 1, 1) := by decide +kernel
theorem dX4_becomeProduct_62 : decode cX4_becomeProduct 62 = .ok (.iload_n 3, 1) := by decide +kernel
theorem dX4_becomeProduct_63 : decode cX4_becomeProduct 63 = .ok (.aload_n 2, 1) := by decide +kernel
theorem dX4_becomeProduct_64 : decode cX4_becomeProduct 64 = .ok (.iload 4, 2) := by decide +kernel
theorem dX4_becomeProduct_66 : decode cX4_becomeProduct 66 = .ok (.invokestatic 55, 3) := by decide +kernel
theorem dX4_becomeProduct_69 : decode cX4_becomeProduct 69 = .ok (.iastore, 1) := by decide +kernel
theorem dX4_becomeProduct_70 : decode cX4_becomeProduct 70 = .ok (.aload_n 0, 1) := by decide +kernel
theorem dX4_becomeProduct_71 : decode cX4_becomeProduct 71 = .ok (.getfield 22, 3) := by decide +kernel
theorem dX4_becomeProduct_74 : decode cX4_becomeProduct 74 = .ok (.iload 5, 2) := by decide +kernel
theorem dX4_becomeProduct_76 : decode cX4_becomeProduct 76 = .ok (.aload_n 1, 1) := by decide +kernel
theorem dX4_becomeProduct_77 : decode cX4_becomeProduct 77 = .ok (.getfield 22, 3) := by decide +kernel
theorem dX4_becomeProduct_80 : decode cX4_becomeProduct 80 = .ok (.iload_n 3, 1) := by decide +kernel
theorem dX4_becomeProduct_81 : decode cX4_becomeProduct 81 = .ok (.iaload, 1) := by decide +kernel
theorem dX4_becomeProduct_82 : decode cX4_becomeProduct 82 = .ok (.aload_n 2, 1) := by decide +kernel
theorem dX4_becomeProduct_83 : decode cX4_becomeProduct 83 = .ok (.getfield 22, 3) := by decide +kernel
theorem dX4_becomeProduct_86 : decode cX4_becomeProduct 86 = .ok (.iload 4, 2) := by decide +kernel
theorem dX4_becomeProduct_88 : decode cX4_becomeProduct 88 = .ok (.iaload, 1) := by decide +kernel
theorem dX4_becomeProduct_89 : decode cX4_becomeProduct 89 = .ok (.imul, 1) := by decide +kernel
theorem dX4_becomeProduct_90 : decode cX4_becomeProduct 90 = .ok (.iastore, 1) := by decide +kernel
theorem dX4_becomeProduct_91 : decode cX4_becomeProduct 91 = .ok (.aload_n 1, 1) := by decide +kernel
theorem dX4_becomeProduct_92 : decode cX4_becomeProduct 92 = .ok (.aload_n 1, 1) := by decide +kernel
theorem dX4_becomeProduct_93 : decode cX4_becomeProduct 93 = .ok (.getfield 27, 3) := by decide +kernel
theorem dX4_becomeProduct_96 : decode cX4_becomeProduct 96 = .ok (.iload_n 3, 1) := by decide +kernel
theorem dX4_becomeProduct_97 : decode cX4_becomeProduct 97 = .ok (.aaload, 1) := by decide +kernel
theorem dX4_becomeProduct_98 : decode cX4_becomeProduct 98 = .ok (.aload_n 2, 1) := by decide +kernel
theorem dX4_becomeProduct_99 : decode cX4_becomeProduct 99 = .ok (.aload_n 2, 1) := by decide +kernel
theorem dX4_becomeProduct_100 : decode cX4_becomeProduct 100 = .ok (.getfield 27, 3) := by decide +kernel
theorem dX4_becomeProduct_103 : decode cX4_becomeProduct 103 = .ok (.iload 4, 2) := by decide +kernel
theorem dX4_becomeProduct_105 : decode cX4_becomeProduct 105 = .ok (.aaload, 1) := by decide +kernel
theorem dX4_becomeProduct_106 : decode cX4_becomeProduct 106 = .ok (.aload_n 0, 1) := by decide +kernel
theorem dX4_becomeProduct_107 : decode cX4_becomeProduct 107 = .ok (.getfield 27, 3) := by decide +kernel
theorem dX4_becomeProduct_110 : decode cX4_becomeProduct 110 = .ok (.iload 5, 2) := by decide +kernel
theorem dX4_becomeProduct_112 : decode cX4_becomeProduct 112 = .ok (.aaload, 1) := by decide +kernel
theorem dX4_becomeProduct_113 : decode cX4_becomeProduct 113 = .ok (.invokestatic 59, 3) := by decide +kernel
theorem dX4_becomeProduct_116 : decode cX4_becomeProduct 116 = .ok (.iinc 4 1, 3) := by decide +kernel
theorem dX4_becomeProduct_119 : decode cX4_becomeProduct 119 = .ok (.goto (-84), 3) := by decide +kernel
theorem dX4_becomeProduct_122 : decode cX4_becomeProduct 122 = .ok (.iinc 3 1, 3) := by decide +kernel
theorem dX4_becomeProduct_125 : decode cX4_becomeProduct 125 = .ok (.goto (-101), 3) := by decide +kernel
theorem dX4_becomeProduct_128 : decode cX4_becomeProduct 128 = .ok (.aload_n 1, 1) := by decide +kernel
theorem dX4_becomeProduct_129 : decode cX4_becomeProduct 129 = .ok (.aload_n 1, 1) := by decide +kernel
theorem dX4_becomeProduct_130 : decode cX4_becomeProduct 130 = .ok (.getfield 30, 3) := by decide +kernel
theorem dX4_becomeProduct_133 : decode cX4_becomeProduct 133 = .ok (.aload_n 2, 1) := by decide +kernel
theorem dX4_becomeProduct_134 : decode cX4_becomeProduct 134 = .ok (.aload_n 2, 1) := by decide +kernel
theorem dX4_becomeProduct_135 : decode cX4_becomeProduct 135 = .ok (.getfield 30, 3) := by decide +kernel
theorem dX4_becomeProduct_138 : decode cX4_becomeProduct 138 = .ok (.aload_n 0, 1) := by decide +kernel
theorem dX4_becomeProduct_139 : decode cX4_becomeProduct 139 = .ok (.getfield 30, 3) := by decide +kernel
theorem dX4_becomeProduct_142 : decode cX4_becomeProduct 142 = .ok (.invokestatic 59, 3) := by decide +kernel
theorem dX4_becomeProduct_145 : decode cX4_becomeProduct 145 = .ok (.return_, 1) := by decide +kernel
theorem dX4_productNeighbors_0 : decode cX4_productNeighbors 0 = .ok (.iconst 0, 1) := by decide +kernel
theorem dX4_productNeighbors_1 : decode cX4_productNeighbors 1 = .ok (.istore 4, 2) := by decide +kernel
theorem dX4_productNeighbors_3 : decode cX4_productNeighbors 3 = .ok (.iconst 0, 1) := by decide +kernel
theorem dX4_productNeighbors_4 : decode cX4_productNeighbors 4 = .ok (.istore 5, 2) := by decide +kernel
theorem dX4_productNeighbors_6 : decode cX4_productNeighbors 6 = .ok (.iload 5, 2) := by decide +kernel
theorem dX4_productNeighbors_8 : decode cX4_productNeighbors 8 = .ok (.aload_n 0, 1) := by decide +kernel
theorem dX4_productNeighbors_9 : decode cX4_productNeighbors 9 = .ok (.getfield 9, 3) := by decide +kernel
theorem dX4_productNeighbors_12 : decode cX4_productNeighbors 12 = .ok (.if_icmp .ge 64, 3) := by decide +kernel
theorem dX4_productNeighbors_15 : decode cX4_productNeighbors 15 = .ok (.iconst 0, 1) := by decide +kernel
theorem dX4_productNeighbors_16 : decode cX4_productNeighbors 16 = .ok (.istore 6, 2) := by decide +kernel
theorem dX4_productNeighbors_18 : decode cX4_productNeighbors 18 = .ok (.iload 6, 2) := by decide +kernel
theorem dX4_productNeighbors_20 : decode cX4_productNeighbors 20 = .ok (.aload_n 2, 1) := by decide +kernel
theorem dX4_productNeighbors_21 : decode cX4_productNeighbors 21 = .ok (.getfield 9, 3) := by decide +kernel
theorem dX4_productNeighbors_24 : decode cX4_productNeighbors 24 = .ok (.if_icmp .ge 46, 3) := by decide +kernel
theorem dX4_productNeighbors_27 : decode cX4_productNeighbors 27 = .ok (.aload_n 0, 1) := by decide +kernel
theorem dX4_productNeighbors_28 : decode cX4_productNeighbors 28 = .ok (.iload_n 1, 1) := by decide +kernel
theorem dX4_productNeighbors_29 : decode cX4_productNeighbors 29 = .ok (.iload 5, 2) := by decide +kernel
theorem dX4_productNeighbors_31 : decode cX4_productNeighbors 31 = .ok (.invokevirtual 63, 3) := by decide +kernel
theorem dX4_productNeighbors_34 : decode cX4_productNeighbors 34 = .ok (.ifCond .ne 13, 3) := by decide +kernel
theorem dX4_productNeighbors_37 : decode cX4_productNeighbors 37 = .ok (.aload_n 2, 1) := by decide +kernel
theorem dX4_productNeighbors_38 : decode cX4_productNeighbors 38 = .ok (.iload_n 3, 1) := by decide +kernel
theorem dX4_productNeighbors_39 : decode cX4_productNeighbors 39 = .ok (.iload 6, 2) := by decide +kernel
theorem dX4_productNeighbors_41 : decode cX4_productNeighbors 41 = .ok (.invokevirtual 63, 3) := by decide +kernel
theorem dX4_productNeighbors_44 : decode cX4_productNeighbors 44 = .ok (.ifCond .eq 20, 3) := by decide +kernel
theorem dX4_productNeighbors_47 : decode cX4_productNeighbors 47 = .ok (.iload 4, 2) := by decide +kernel
theorem dX4_productNeighbors_49 : decode cX4_productNeighbors 49 = .ok (.iconst 1, 1) := by decide +kernel
theorem dX4_productNeighbors_50 : decode cX4_productNeighbors 50 = .ok (.aload_n 2, 1) := by decide +kernel
theorem dX4_productNeighbors_51 : decode cX4_productNeighbors 51 = .ok (.getfield 9, 3) := by decide +kernel
theorem dX4_productNeighbors_54 : decode cX4_productNeighbors 54 = .ok (.iload 5, 2) := by decide +kernel
theorem dX4_productNeighbors_56 : decode cX4_productNeighbors 56 = .ok (.imul, 1) := by decide +kernel
theorem dX4_productNeighbors_57 : decode cX4_productNeighbors 57 = .ok (.iload 6, 2) := by decide +kernel
theorem dX4_productNeighbors_59 : decode cX4_productNeighbors 59 = .ok (.iadd, 1) := by decide +kernel
theorem dX4_productNeighbors_60 : decode cX4_productNeighbors 60 = .ok (.ishl, 1) := by decide +kernel
theorem dX4_productNeighbors_61 : decode cX4_productNeighbors 61 = .ok (.ior, 1) := by decide +kernel
theorem dX4_productNeighbors_62 : decode cX4_productNeighbors 62 = .ok (.istore 4, 2) := by decide +kernel
theorem dX4_productNeighbors_64 : decode cX4_productNeighbors 64 = .ok (.iinc 6 1, 3) := by decide +kernel
theorem dX4_productNeighbors_67 : decode cX4_productNeighbors 67 = .ok (.goto (-49), 3) := by decide +kernel
theorem dX4_productNeighbors_70 : decode cX4_productNeighbors 70 = .ok (.iinc 5 1, 3) := by decide +kernel
theorem dX4_productNeighbors_73 : decode cX4_productNeighbors 73 = .ok (.goto (-67), 3) := by decide +kernel
theorem dX4_productNeighbors_76 : decode cX4_productNeighbors 76 = .ok (.iload 4, 2) := by decide +kernel
theorem dX4_productNeighbors_78 : decode cX4_productNeighbors 78 = .ok (.ireturn, 1) := by decide +kernel
theorem dX4_fillProduct_0 : decode cX4_fillProduct 0 = .ok (.iconst 0, 1) := by decide +kernel
theorem dX4_fillProduct_1 : decode cX4_fillProduct 1 = .ok (.istore 5, 2) := by decide +kernel
theorem dX4_fillProduct_3 : decode cX4_fillProduct 3 = .ok (.iload 5, 2) := by decide +kernel
theorem dX4_fillProduct_5 : decode cX4_fillProduct 5 = .ok (.aload_n 0, 1) := by decide +kernel
theorem dX4_fillProduct_6 : decode cX4_fillProduct 6 = .ok (.getfield 15, 3) := by decide +kernel
theorem dX4_fillProduct_9 : decode cX4_fillProduct 9 = .ok (.if_icmp .ge 49, 3) := by decide +kernel
theorem dX4_fillProduct_12 : decode cX4_fillProduct 12 = .ok (.iconst 0, 1) := by decide +kernel
theorem dX4_fillProduct_13 : decode cX4_fillProduct 13 = .ok (.istore 6, 2) := by decide +kernel
theorem dX4_fillProduct_15 : decode cX4_fillProduct 15 = .ok (.iload 6, 2) := by decide +kernel
theorem dX4_fillProduct_17 : decode cX4_fillProduct 17 = .ok (.aload_n 2, 1) := by decide +kernel
theorem dX4_fillProduct_18 : decode cX4_fillProduct 18 = .ok (.getfield 15, 3) := by decide +kernel
theorem dX4_fillProduct_21 : decode cX4_fillProduct 21 = .ok (.if_icmp .ge 31, 3) := by decide +kernel
theorem dX4_fillProduct_24 : decode cX4_fillProduct 24 = .ok (.aload 4, 2) := by decide +kernel
theorem dX4_fillProduct_26 : decode cX4_fillProduct 26 = .ok (.aload_n 2, 1) := by decide +kernel
theorem dX4_fillProduct_27 : decode cX4_fillProduct 27 = .ok (.getfield 15, 3) := by decide +kernel
theorem dX4_fillProduct_30 : decode cX4_fillProduct 30 = .ok (.iload 5, 2) := by decide +kernel
theorem dX4_fillProduct_32 : decode cX4_fillProduct 32 = .ok (.imul, 1) := by decide +kernel
theorem dX4_fillProduct_33 : decode cX4_fillProduct 33 = .ok (.iload 6, 2) := by decide +kernel
theorem dX4_fillProduct_35 : decode cX4_fillProduct 35 = .ok (.iadd, 1) := by decide +kernel
theorem dX4_fillProduct_36 : decode cX4_fillProduct 36 = .ok (.aload_n 1, 1) := by decide +kernel
theorem dX4_fillProduct_37 : decode cX4_fillProduct 37 = .ok (.iload 5, 2) := by decide +kernel
theorem dX4_fillProduct_39 : decode cX4_fillProduct 39 = .ok (.iaload, 1) := by decide +kernel
theorem dX4_fillProduct_40 : decode cX4_fillProduct 40 = .ok (.aload_n 3, 1) := by decide +kernel
theorem dX4_fillProduct_41 : decode cX4_fillProduct 41 = .ok (.iload 6, 2) := by decide +kernel
theorem dX4_fillProduct_43 : decode cX4_fillProduct 43 = .ok (.iaload, 1) := by decide +kernel
theorem dX4_fillProduct_44 : decode cX4_fillProduct 44 = .ok (.imul, 1) := by decide +kernel
theorem dX4_fillProduct_45 : decode cX4_fillProduct 45 = .ok (.iastore, 1) := by decide +kernel
theorem dX4_fillProduct_46 : decode cX4_fillProduct 46 = .ok (.iinc 6 1, 3) := by decide +kernel
theorem dX4_fillProduct_49 : decode cX4_fillProduct 49 = .ok (.goto (-34), 3) := by decide +kernel
theorem dX4_fillProduct_52 : decode cX4_fillProduct 52 = .ok (.iinc 5 1, 3) := by decide +kernel
theorem dX4_fillProduct_55 : decode cX4_fillProduct 55 = .ok (.goto (-52), 3) := by decide +kernel
theorem dX4_fillProduct_58 : decode cX4_fillProduct 58 = .ok (.return_, 1) := by decide +kernel
theorem dX4_labelBy_0 : decode cX4_labelBy 0 = .ok (.iconst 0, 1) := by decide +kernel
theorem dX4_labelBy_1 : decode cX4_labelBy 1 = .ok (.istore_n 2, 1) := by decide +kernel
theorem dX4_labelBy_2 : decode cX4_labelBy 2 = .ok (.iload_n 2, 1) := by decide +kernel
theorem dX4_labelBy_3 : decode cX4_labelBy 3 = .ok (.iconst 4, 1) := by decide +kernel
theorem dX4_labelBy_4 : decode cX4_labelBy 4 = .ok (.if_icmp .ge 67, 3) := by decide +kernel
theorem dX4_labelBy_7 : decode cX4_labelBy 7 = .ok (.iconst 0, 1) := by decide +kernel
theorem dX4_labelBy_8 : decode cX4_labelBy 8 = .ok (.istore_n 3, 1) := by decide +kernel
theorem dX4_labelBy_9 : decode cX4_labelBy 9 = .ok (.iload_n 3, 1) := by decide +kernel
theorem dX4_labelBy_10 : decode cX4_labelBy 10 = .ok (.aload_n 0, 1) := by decide +kernel
theorem dX4_labelBy_11 : decode cX4_labelBy 11 = .ok (.getfield 9, 3) := by decide +kernel
theorem dX4_labelBy_14 : decode cX4_labelBy 14 = .ok (.if_icmp .ge 32, 3) := by decide +kernel
theorem dX4_labelBy_17 : decode cX4_labelBy 17 = .ok (.aload_n 0, 1) := by decide +kernel
theorem dX4_labelBy_18 : decode cX4_labelBy 18 = .ok (.getfield 27, 3) := by decide +kernel
theorem dX4_labelBy_21 : decode cX4_labelBy 21 = .ok (.iload_n 3, 1) := by decide +kernel
theorem dX4_labelBy_22 : decode cX4_labelBy 22 = .ok (.aaload, 1) := by decide +kernel
theorem dX4_labelBy_23 : decode cX4_labelBy 23 = .ok (.iload_n 2, 1) := by decide +kernel
theorem dX4_labelBy_24 : decode cX4_labelBy 24 = .ok (.iload_n 2, 1) := by decide +kernel
theorem dX4_labelBy_25 : decode cX4_labelBy 25 = .ok (.aload_n 1, 1) := by decide +kernel
theorem dX4_labelBy_26 : decode cX4_labelBy 26 = .ok (.getfield 67, 3) := by decide +kernel
theorem dX4_labelBy_29 : decode cX4_labelBy 29 = .ok (.iload_n 3, 1) := by decide +kernel
theorem dX4_labelBy_30 : decode cX4_labelBy 30 = .ok (.iaload, 1) := by decide +kernel
theorem dX4_labelBy_31 : decode cX4_labelBy 31 = .ok (.if_icmp .ne 7, 3) := by decide +kernel
theorem dX4_labelBy_34 : decode cX4_labelBy 34 = .ok (.iconst 1, 1) := by decide +kernel
theorem dX4_labelBy_35 : decode cX4_labelBy 35 = .ok (.goto 4, 3) := by decide +kernel
theorem dX4_labelBy_38 : decode cX4_labelBy 38 = .ok (.iconst 0, 1) := by decide +kernel
theorem dX4_labelBy_39 : decode cX4_labelBy 39 = .ok (.iastore, 1) := by decide +kernel
theorem dX4_labelBy_40 : decode cX4_labelBy 40 = .ok (.iinc 3 1, 3) := by decide +kernel
theorem dX4_labelBy_43 : decode cX4_labelBy 43 = .ok (.goto (-34), 3) := by decide +kernel
theorem dX4_labelBy_46 : decode cX4_labelBy 46 = .ok (.aload_n 0, 1) := by decide +kernel
theorem dX4_labelBy_47 : decode cX4_labelBy 47 = .ok (.getfield 30, 3) := by decide +kernel
theorem dX4_labelBy_50 : decode cX4_labelBy 50 = .ok (.iload_n 2, 1) := by decide +kernel
theorem dX4_labelBy_51 : decode cX4_labelBy 51 = .ok (.iload_n 2, 1) := by decide +kernel
theorem dX4_labelBy_52 : decode cX4_labelBy 52 = .ok (.aload_n 1, 1) := by decide +kernel
theorem dX4_labelBy_53 : decode cX4_labelBy 53 = .ok (.getfield 72, 3) := by decide +kernel
theorem dX4_labelBy_56 : decode cX4_labelBy 56 = .ok (.if_icmp .ge 7, 3) := by decide +kernel
theorem dX4_labelBy_59 : decode cX4_labelBy 59 = .ok (.iconst 1, 1) := by decide +kernel
theorem dX4_labelBy_60 : decode cX4_labelBy 60 = .ok (.goto 4, 3) := by decide +kernel
theorem dX4_labelBy_63 : decode cX4_labelBy 63 = .ok (.iconst 0, 1) := by decide +kernel
theorem dX4_labelBy_64 : decode cX4_labelBy 64 = .ok (.iastore, 1) := by decide +kernel
theorem dX4_labelBy_65 : decode cX4_labelBy 65 = .ok (.iinc 2 1, 3) := by decide +kernel
theorem dX4_labelBy_68 : decode cX4_labelBy 68 = .ok (.goto (-66), 3) := by decide +kernel
theorem dX4_labelBy_71 : decode cX4_labelBy 71 = .ok (.return_, 1) := by decide +kernel
theorem dX4_greatestWeight_0 : decode cX4_greatestWeight 0 = .ok (.iconst 0, 1) := by decide +kernel
theorem dX4_greatestWeight_1 : decode cX4_greatestWeight 1 = .ok (.istore_n 1, 1) := by decide +kernel
theorem dX4_greatestWeight_2 : decode cX4_greatestWeight 2 = .ok (.iconst 0, 1) := by decide +kernel
theorem dX4_greatestWeight_3 : decode cX4_greatestWeight 3 = .ok (.istore_n 2, 1) := by decide +kernel
theorem dX4_greatestWeight_4 : decode cX4_greatestWeight 4 = .ok (.iload_n 2, 1) := by decide +kernel
theorem dX4_greatestWeight_5 : decode cX4_greatestWeight 5 = .ok (.aload_n 0, 1) := by decide +kernel
theorem dX4_greatestWeight_6 : decode cX4_greatestWeight 6 = .ok (.getfield 9, 3) := by decide +kernel
theorem dX4_greatestWeight_9 : decode cX4_greatestWeight 9 = .ok (.if_icmp .ge 20, 3) := by decide +kernel
theorem dX4_greatestWeight_12 : decode cX4_greatestWeight 12 = .ok (.iload_n 1, 1) := by decide +kernel
theorem dX4_greatestWeight_13 : decode cX4_greatestWeight 13 = .ok (.aload_n 0, 1) := by decide +kernel
theorem dX4_greatestWeight_14 : decode cX4_greatestWeight 14 = .ok (.getfield 22, 3) := by decide +kernel
theorem dX4_greatestWeight_17 : decode cX4_greatestWeight 17 = .ok (.iload_n 2, 1) := by decide +kernel
theorem dX4_greatestWeight_18 : decode cX4_greatestWeight 18 = .ok (.iaload, 1) := by decide +kernel
theorem dX4_greatestWeight_19 : decode cX4_greatestWeight 19 = .ok (.invokestatic 75, 3) := by decide +kernel
theorem dX4_greatestWeight_22 : decode cX4_greatestWeight 22 = .ok (.istore_n 1, 1) := by decide +kernel
theorem dX4_greatestWeight_23 : decode cX4_greatestWeight 23 = .ok (.iinc 2 1, 3) := by decide +kernel
theorem dX4_greatestWeight_26 : decode cX4_greatestWeight 26 = .ok (.goto (-22), 3) := by decide +kernel
theorem dX4_greatestWeight_29 : decode cX4_greatestWeight 29 = .ok (.iload_n 1, 1) := by decide +kernel
theorem dX4_greatestWeight_30 : decode cX4_greatestWeight 30 = .ok (.ireturn, 1) := by decide +kernel
theorem dX4_furthestOfLabels_0 : decode cX4_furthestOfLabels 0 = .ok (.iconst 0, 1) := by decide +kernel
theorem dX4_furthestOfLabels_1 : decode cX4_furthestOfLabels 1 = .ok (.istore_n 1, 1) := by decide +kernel
theorem dX4_furthestOfLabels_2 : decode cX4_furthestOfLabels 2 = .ok (.iconst 0, 1) := by decide +kernel
theorem dX4_furthestOfLabels_3 : decode cX4_furthestOfLabels 3 = .ok (.istore_n 2, 1) := by decide +kernel
theorem dX4_furthestOfLabels_4 : decode cX4_furthestOfLabels 4 = .ok (.iload_n 2, 1) := by decide +kernel
theorem dX4_furthestOfLabels_5 : decode cX4_furthestOfLabels 5 = .ok (.aload_n 0, 1) := by decide +kernel
theorem dX4_furthestOfLabels_6 : decode cX4_furthestOfLabels 6 = .ok (.getfield 9, 3) := by decide +kernel
theorem dX4_furthestOfLabels_9 : decode cX4_furthestOfLabels 9 = .ok (.if_icmp .ge 23, 3) := by decide +kernel
theorem dX4_furthestOfLabels_12 : decode cX4_furthestOfLabels 12 = .ok (.iload_n 1, 1) := by decide +kernel
theorem dX4_furthestOfLabels_13 : decode cX4_furthestOfLabels 13 = .ok (.aload_n 0, 1) := by decide +kernel
theorem dX4_furthestOfLabels_14 : decode cX4_furthestOfLabels 14 = .ok (.getfield 27, 3) := by decide +kernel
theorem dX4_furthestOfLabels_17 : decode cX4_furthestOfLabels 17 = .ok (.iload_n 2, 1) := by decide +kernel
theorem dX4_furthestOfLabels_18 : decode cX4_furthestOfLabels 18 = .ok (.aaload, 1) := by decide +kernel
theorem dX4_furthestOfLabels_19 : decode cX4_furthestOfLabels 19 = .ok (.invokestatic 81, 3) := by decide +kernel
theorem dX4_furthestOfLabels_22 : decode cX4_furthestOfLabels 22 = .ok (.invokestatic 75, 3) := by decide +kernel
theorem dX4_furthestOfLabels_25 : decode cX4_furthestOfLabels 25 = .ok (.istore_n 1, 1) := by decide +kernel
theorem dX4_furthestOfLabels_26 : decode cX4_furthestOfLabels 26 = .ok (.iinc 2 1, 3) := by decide +kernel
theorem dX4_furthestOfLabels_29 : decode cX4_furthestOfLabels 29 = .ok (.goto (-25), 3) := by decide +kernel
theorem dX4_furthestOfLabels_32 : decode cX4_furthestOfLabels 32 = .ok (.iload_n 1, 1) := by decide +kernel
theorem dX4_furthestOfLabels_33 : decode cX4_furthestOfLabels 33 = .ok (.ireturn, 1) := by decide +kernel
theorem dX4_unfit_0 : decode cX4_unfit 0 = .ok (.aload_n 0, 1) := by decide +kernel
theorem dX4_unfit_1 : decode cX4_unfit 1 = .ok (.iload_n 1, 1) := by decide +kernel
theorem dX4_unfit_2 : decode cX4_unfit 2 = .ok (.iload_n 2, 1) := by decide +kernel
theorem dX4_unfit_3 : decode cX4_unfit 3 = .ok (.invokevirtual 63, 3) := by decide +kernel
theorem dX4_unfit_6 : decode cX4_unfit 6 = .ok (.ifCond .eq 25, 3) := by decide +kernel
theorem dX4_unfit_9 : decode cX4_unfit 9 = .ok (.aload_n 0, 1) := by decide +kernel
theorem dX4_unfit_10 : decode cX4_unfit 10 = .ok (.getfield 27, 3) := by decide +kernel
theorem dX4_unfit_13 : decode cX4_unfit 13 = .ok (.iload_n 1, 1) := by decide +kernel
theorem dX4_unfit_14 : decode cX4_unfit 14 = .ok (.aaload, 1) := by decide +kernel
theorem dX4_unfit_15 : decode cX4_unfit 15 = .ok (.aload_n 0, 1) := by decide +kernel
theorem dX4_unfit_16 : decode cX4_unfit 16 = .ok (.getfield 27, 3) := by decide +kernel
theorem dX4_unfit_19 : decode cX4_unfit 19 = .ok (.iload_n 2, 1) := by decide +kernel
theorem dX4_unfit_20 : decode cX4_unfit 20 = .ok (.aaload, 1) := by decide +kernel
theorem dX4_unfit_21 : decode cX4_unfit 21 = .ok (.invokestatic 85, 3) := by decide +kernel
theorem dX4_unfit_24 : decode cX4_unfit 24 = .ok (.ifCond .eq 7, 3) := by decide +kernel
theorem dX4_unfit_27 : decode cX4_unfit 27 = .ok (.iconst 1, 1) := by decide +kernel
theorem dX4_unfit_28 : decode cX4_unfit 28 = .ok (.goto 4, 3) := by decide +kernel
theorem dX4_unfit_31 : decode cX4_unfit 31 = .ok (.iconst 0, 1) := by decide +kernel
theorem dX4_unfit_32 : decode cX4_unfit 32 = .ok (.ireturn, 1) := by decide +kernel
theorem dX4_unfitPairs_0 : decode cX4_unfitPairs 0 = .ok (.iconst 0, 1) := by decide +kernel
theorem dX4_unfitPairs_1 : decode cX4_unfitPairs 1 = .ok (.istore_n 1, 1) := by decide +kernel
theorem dX4_unfitPairs_2 : decode cX4_unfitPairs 2 = .ok (.iconst 0, 1) := by decide +kernel
theorem dX4_unfitPairs_3 : decode cX4_unfitPairs 3 = .ok (.istore_n 2, 1) := by decide +kernel
theorem dX4_unfitPairs_4 : decode cX4_unfitPairs 4 = .ok (.iload_n 2, 1) := by decide +kernel
theorem dX4_unfitPairs_5 : decode cX4_unfitPairs 5 = .ok (.aload_n 0, 1) := by decide +kernel
theorem dX4_unfitPairs_6 : decode cX4_unfitPairs 6 = .ok (.getfield 9, 3) := by decide +kernel
theorem dX4_unfitPairs_9 : decode cX4_unfitPairs 9 = .ok (.if_icmp .ge 44, 3) := by decide +kernel
theorem dX4_unfitPairs_12 : decode cX4_unfitPairs 12 = .ok (.iload_n 2, 1) := by decide +kernel
theorem dX4_unfitPairs_13 : decode cX4_unfitPairs 13 = .ok (.iconst 1, 1) := by decide +kernel
theorem dX4_unfitPairs_14 : decode cX4_unfitPairs 14 = .ok (.iadd, 1) := by decide +kernel
theorem dX4_unfitPairs_15 : decode cX4_unfitPairs 15 = .ok (.istore_n 3, 1) := by decide +kernel
theorem dX4_unfitPairs_16 : decode cX4_unfitPairs 16 = .ok (.iload_n 3, 1) := by decide +kernel
theorem dX4_unfitPairs_17 : decode cX4_unfitPairs 17 = .ok (.aload_n 0, 1) := by decide +kernel
theorem dX4_unfitPairs_18 : decode cX4_unfitPairs 18 = .ok (.getfield 9, 3) := by decide +kernel
theorem dX4_unfitPairs_21 : decode cX4_unfitPairs 21 = .ok (.if_icmp .ge 26, 3) := by decide +kernel
theorem dX4_unfitPairs_24 : decode cX4_unfitPairs 24 = .ok (.iload_n 1, 1) := by decide +kernel
theorem dX4_unfitPairs_25 : decode cX4_unfitPairs 25 = .ok (.aload_n 0, 1) := by decide +kernel
theorem dX4_unfitPairs_26 : decode cX4_unfitPairs 26 = .ok (.iload_n 2, 1) := by decide +kernel
theorem dX4_unfitPairs_27 : decode cX4_unfitPairs 27 = .ok (.iload_n 3, 1) := by decide +kernel
theorem dX4_unfitPairs_28 : decode cX4_unfitPairs 28 = .ok (.invokevirtual 89, 3) := by decide +kernel
theorem dX4_unfitPairs_31 : decode cX4_unfitPairs 31 = .ok (.ifCond .eq 7, 3) := by decide +kernel
theorem dX4_unfitPairs_34 : decode cX4_unfitPairs 34 = .ok (.iconst 1, 1) := by decide +kernel
theorem dX4_unfitPairs_35 : decode cX4_unfitPairs 35 = .ok (.goto 4, 3) := by decide +kernel
theorem dX4_unfitPairs_38 : decode cX4_unfitPairs 38 = .ok (.iconst 0, 1) := by decide +kernel
theorem dX4_unfitPairs_39 : decode cX4_unfitPairs 39 = .ok (.iadd, 1) := by decide +kernel
theorem dX4_unfitPairs_40 : decode cX4_unfitPairs 40 = .ok (.istore_n 1, 1) := by decide +kernel
theorem dX4_unfitPairs_41 : decode cX4_unfitPairs 41 = .ok (.iinc 3 1, 3) := by decide +kernel
theorem dX4_unfitPairs_44 : decode cX4_unfitPairs 44 = .ok (.goto (-28), 3) := by decide +kernel
theorem dX4_unfitPairs_47 : decode cX4_unfitPairs 47 = .ok (.iinc 2 1, 3) := by decide +kernel
theorem dX4_unfitPairs_50 : decode cX4_unfitPairs 50 = .ok (.goto (-46), 3) := by decide +kernel
theorem dX4_unfitPairs_53 : decode cX4_unfitPairs 53 = .ok (.iload_n 1, 1) := by decide +kernel
theorem dX4_unfitPairs_54 : decode cX4_unfitPairs 54 = .ok (.ireturn, 1) := by decide +kernel
theorem dX4_unfitPartner_0 : decode cX4_unfitPartner 0 = .ok (.iload_n 1, 1) := by decide +kernel
theorem dX4_unfitPartner_1 : decode cX4_unfitPartner 1 = .ok (.iconst 1, 1) := by decide +kernel
theorem dX4_unfitPartner_2 : decode cX4_unfitPartner 2 = .ok (.iadd, 1) := by decide +kernel
theorem dX4_unfitPartner_3 : decode cX4_unfitPartner 3 = .ok (.istore_n 2, 1) := by decide +kernel
theorem dX4_unfitPartner_4 : decode cX4_unfitPartner 4 = .ok (.iload_n 2, 1) := by decide +kernel
theorem dX4_unfitPartner_5 : decode cX4_unfitPartner 5 = .ok (.aload_n 0, 1) := by decide +kernel
theorem dX4_unfitPartner_6 : decode cX4_unfitPartner 6 = .ok (.getfield 9, 3) := by decide +kernel
theorem dX4_unfitPartner_9 : decode cX4_unfitPartner 9 = .ok (.if_icmp .ge 20, 3) := by decide +kernel
theorem dX4_unfitPartner_12 : decode cX4_unfitPartner 12 = .ok (.aload_n 0, 1) := by decide +kernel
theorem dX4_unfitPartner_13 : decode cX4_unfitPartner 13 = .ok (.iload_n 1, 1) := by decide +kernel
theorem dX4_unfitPartner_14 : decode cX4_unfitPartner 14 = .ok (.iload_n 2, 1) := by decide +kernel
theorem dX4_unfitPartner_15 : decode cX4_unfitPartner 15 = .ok (.invokevirtual 89, 3) := by decide +kernel
theorem dX4_unfitPartner_18 : decode cX4_unfitPartner 18 = .ok (.ifCond .eq 5, 3) := by decide +kernel
theorem dX4_unfitPartner_21 : decode cX4_unfitPartner 21 = .ok (.iload_n 2, 1) := by decide +kernel
theorem dX4_unfitPartner_22 : decode cX4_unfitPartner 22 = .ok (.ireturn, 1) := by decide +kernel
theorem dX4_unfitPartner_23 : decode cX4_unfitPartner 23 = .ok (.iinc 2 1, 3) := by decide +kernel
theorem dX4_unfitPartner_26 : decode cX4_unfitPartner 26 = .ok (.goto (-22), 3) := by decide +kernel
theorem dX4_unfitPartner_29 : decode cX4_unfitPartner 29 = .ok (.iconst (-1), 1) := by decide +kernel
theorem dX4_unfitPartner_30 : decode cX4_unfitPartner 30 = .ok (.ireturn, 1) := by decide +kernel
theorem dX4_firstUnfit_0 : decode cX4_firstUnfit 0 = .ok (.iconst 0, 1) := by decide +kernel
theorem dX4_firstUnfit_1 : decode cX4_firstUnfit 1 = .ok (.istore_n 1, 1) := by decide +kernel
theorem dX4_firstUnfit_2 : decode cX4_firstUnfit 2 = .ok (.iload_n 1, 1) := by decide +kernel
theorem dX4_firstUnfit_3 : decode cX4_firstUnfit 3 = .ok (.aload_n 0, 1) := by decide +kernel
theorem dX4_firstUnfit_4 : decode cX4_firstUnfit 4 = .ok (.getfield 9, 3) := by decide +kernel
theorem dX4_firstUnfit_7 : decode cX4_firstUnfit 7 = .ok (.if_icmp .ge 20, 3) := by decide +kernel
theorem dX4_firstUnfit_10 : decode cX4_firstUnfit 10 = .ok (.aload_n 0, 1) := by decide +kernel
theorem dX4_firstUnfit_11 : decode cX4_firstUnfit 11 = .ok (.iload_n 1, 1) := by decide +kernel
theorem dX4_firstUnfit_12 : decode cX4_firstUnfit 12 = .ok (.invokevirtual 92, 3) := by decide +kernel
theorem dX4_firstUnfit_15 : decode cX4_firstUnfit 15 = .ok (.iconst (-1), 1) := by decide +kernel
theorem dX4_firstUnfit_16 : decode cX4_firstUnfit 16 = .ok (.if_icmp .eq 5, 3) := by decide +kernel
theorem dX4_firstUnfit_19 : decode cX4_firstUnfit 19 = .ok (.iload_n 1, 1) := by decide +kernel
theorem dX4_firstUnfit_20 : decode cX4_firstUnfit 20 = .ok (.ireturn, 1) := by decide +kernel
theorem dX4_firstUnfit_21 : decode cX4_firstUnfit 21 = .ok (.iinc 1 1, 3) := by decide +kernel
theorem dX4_firstUnfit_24 : decode cX4_firstUnfit 24 = .ok (.goto (-22), 3) := by decide +kernel
theorem dX4_firstUnfit_27 : decode cX4_firstUnfit 27 = .ok (.iconst (-1), 1) := by decide +kernel
theorem dX4_firstUnfit_28 : decode cX4_firstUnfit 28 = .ok (.ireturn, 1) := by decide +kernel
theorem dX4_firstMissed_0 : decode cX4_firstMissed 0 = .ok (.iconst 0, 1) := by decide +kernel
theorem dX4_firstMissed_1 : decode cX4_firstMissed 1 = .ok (.istore_n 2, 1) := by decide +kernel
theorem dX4_firstMissed_2 : decode cX4_firstMissed 2 = .ok (.iload_n 2, 1) := by decide +kernel
theorem dX4_firstMissed_3 : decode cX4_firstMissed 3 = .ok (.aload_n 0, 1) := by decide +kernel
theorem dX4_firstMissed_4 : decode cX4_firstMissed 4 = .ok (.getfield 9, 3) := by decide +kernel
theorem dX4_firstMissed_7 : decode cX4_firstMissed 7 = .ok (.if_icmp .ge 33, 3) := by decide +kernel
theorem dX4_firstMissed_10 : decode cX4_firstMissed 10 = .ok (.aload_n 0, 1) := by decide +kernel
theorem dX4_firstMissed_11 : decode cX4_firstMissed 11 = .ok (.getfield 22, 3) := by decide +kernel
theorem dX4_firstMissed_14 : decode cX4_firstMissed 14 = .ok (.iload_n 2, 1) := by decide +kernel
theorem dX4_firstMissed_15 : decode cX4_firstMissed 15 = .ok (.iaload, 1) := by decide +kernel
theorem dX4_firstMissed_16 : decode cX4_firstMissed 16 = .ok (.ifCond .le 18, 3) := by decide +kernel
theorem dX4_firstMissed_19 : decode cX4_firstMissed 19 = .ok (.aload_n 1, 1) := by decide +kernel
theorem dX4_firstMissed_20 : decode cX4_firstMissed 20 = .ok (.aload_n 0, 1) := by decide +kernel
theorem dX4_firstMissed_21 : decode cX4_firstMissed 21 = .ok (.getfield 27, 3) := by decide +kernel
theorem dX4_firstMissed_24 : decode cX4_firstMissed 24 = .ok (.iload_n 2, 1) := by decide +kernel
theorem dX4_firstMissed_25 : decode cX4_firstMissed 25 = .ok (.aaload, 1) := by decide +kernel
theorem dX4_firstMissed_26 : decode cX4_firstMissed 26 = .ok (.invokestatic 85, 3) := by decide +kernel
theorem dX4_firstMissed_29 : decode cX4_firstMissed 29 = .ok (.ifCond .ne 5, 3) := by decide +kernel
theorem dX4_firstMissed_32 : decode cX4_firstMissed 32 = .ok (.iload_n 2, 1) := by decide +kernel
theorem dX4_firstMissed_33 : decode cX4_firstMissed 33 = .ok (.ireturn, 1) := by decide +kernel
theorem dX4_firstMissed_34 : decode cX4_firstMissed 34 = .ok (.iinc 2 1, 3) := by decide +kernel
theorem dX4_firstMissed_37 : decode cX4_firstMissed 37 = .ok (.goto (-35), 3) := by decide +kernel
theorem dX4_firstMissed_40 : decode cX4_firstMissed 40 = .ok (.iconst (-1), 1) := by decide +kernel
theorem dX4_firstMissed_41 : decode cX4_firstMissed 41 = .ok (.ireturn, 1) := by decide +kernel
theorem dX5_init_0 : decode cX5_init 0 = .ok (.aload_n 0, 1) := by decide +kernel
theorem dX5_init_1 : decode cX5_init 1 = .ok (.invokespecial 3, 3) := by decide +kernel
theorem dX5_init_4 : decode cX5_init 4 = .ok (.aload_n 0, 1) := by decide +kernel
theorem dX5_init_5 : decode cX5_init 5 = .ok (.iconst 4, 1) := by decide +kernel
theorem dX5_init_6 : decode cX5_init 6 = .ok (.newarray .int, 2) := by decide +kernel
theorem dX5_init_8 : decode cX5_init 8 = .ok (.putfield 9, 3) := by decide +kernel
theorem dX5_init_11 : decode cX5_init 11 = .ok (.aload_n 0, 1) := by decide +kernel
theorem dX5_init_12 : decode cX5_init 12 = .ok (.new 15, 3) := by decide +kernel
theorem dX5_init_15 : decode cX5_init 15 = .ok (.dup, 1) := by decide +kernel
theorem dX5_init_16 : decode cX5_init 16 = .ok (.invokespecial 17, 3) := by decide +kernel
theorem dX5_init_19 : decode cX5_init 19 = .ok (.putfield 18, 3) := by decide +kernel
theorem dX5_init_22 : decode cX5_init 22 = .ok (.aload_n 0, 1) := by decide +kernel
theorem dX5_init_23 : decode cX5_init 23 = .ok (.iconst 4, 1) := by decide +kernel
theorem dX5_init_24 : decode cX5_init 24 = .ok (.newarray .int, 2) := by decide +kernel
theorem dX5_init_26 : decode cX5_init 26 = .ok (.putfield 22, 3) := by decide +kernel
theorem dX5_init_29 : decode cX5_init 29 = .ok (.aload_n 0, 1) := by decide +kernel
theorem dX5_init_30 : decode cX5_init 30 = .ok (.new 15, 3) := by decide +kernel
theorem dX5_init_33 : decode cX5_init 33 = .ok (.dup, 1) := by decide +kernel
theorem dX5_init_34 : decode cX5_init 34 = .ok (.invokespecial 17, 3) := by decide +kernel
theorem dX5_init_37 : decode cX5_init 37 = .ok (.putfield 25, 3) := by decide +kernel
theorem dX5_init_40 : decode cX5_init 40 = .ok (.return_, 1) := by decide +kernel
theorem dX5_run_0 : decode cX5_run 0 = .ok (.aload_n 0, 1) := by decide +kernel
theorem dX5_run_1 : decode cX5_run 1 = .ok (.getfield 9, 3) := by decide +kernel
theorem dX5_run_4 : decode cX5_run 4 = .ok (.iconst 0, 1) := by decide +kernel
theorem dX5_run_5 : decode cX5_run 5 = .ok (.invokestatic 28, 3) := by decide +kernel
theorem dX5_run_8 : decode cX5_run 8 = .ok (.aload_n 0, 1) := by decide +kernel
theorem dX5_run_9 : decode cX5_run 9 = .ok (.getfield 18, 3) := by decide +kernel
theorem dX5_run_12 : decode cX5_run 12 = .ok (.invokevirtual 34, 3) := by decide +kernel
theorem dX5_run_15 : decode cX5_run 15 = .ok (.aload_n 1, 1) := by decide +kernel
theorem dX5_run_16 : decode cX5_run 16 = .ok (.invokevirtual 37, 3) := by decide +kernel
theorem dX5_run_19 : decode cX5_run 19 = .ok (.iconst (-1), 1) := by decide +kernel
theorem dX5_run_20 : decode cX5_run 20 = .ok (.if_icmp .eq 4, 3) := by decide +kernel
theorem dX5_run_23 : decode cX5_run 23 = .ok (.return_, 1) := by decide +kernel
theorem dX5_run_24 : decode cX5_run 24 = .ok (.aload_n 0, 1) := by decide +kernel
theorem dX5_run_25 : decode cX5_run 25 = .ok (.aload_n 1, 1) := by decide +kernel
theorem dX5_run_26 : decode cX5_run 26 = .ok (.getfield 43, 3) := by decide +kernel
theorem dX5_run_29 : decode cX5_run 29 = .ok (.iload_n 2, 1) := by decide +kernel
theorem dX5_run_30 : decode cX5_run 30 = .ok (.invokevirtual 47, 3) := by decide +kernel
theorem dX5_run_33 : decode cX5_run 33 = .ok (.istore_n 3, 1) := by decide +kernel
theorem dX5_run_34 : decode cX5_run 34 = .ok (.iconst 0, 1) := by decide +kernel
theorem dX5_run_35 : decode cX5_run 35 = .ok (.istore 4, 2) := by decide +kernel
theorem dX5_run_37 : decode cX5_run 37 = .ok (.iload 4, 2) := by decide +kernel
theorem dX5_run_39 : decode cX5_run 39 = .ok (.iload_n 3, 1) := by decide +kernel
theorem dX5_run_40 : decode cX5_run 40 = .ok (.if_icmp .ge 89, 3) := by decide +kernel
theorem dX5_run_43 : decode cX5_run 43 = .ok (.aload_n 0, 1) := by decide +kernel
theorem dX5_run_44 : decode cX5_run 44 = .ok (.getfield 25, 3) := by decide +kernel
theorem dX5_run_47 : decode cX5_run 47 = .ok (.aload_n 1, 1) := by decide +kernel
theorem dX5_run_48 : decode cX5_run 48 = .ok (.aload_n 0, 1) := by decide +kernel
theorem dX5_run_49 : decode cX5_run 49 = .ok (.getfield 22, 3) := by decide +kernel
theorem dX5_run_52 : decode cX5_run 52 = .ok (.invokevirtual 51, 3) := by decide +kernel
theorem dX5_run_55 : decode cX5_run 55 = .ok (.aload_n 0, 1) := by decide +kernel
theorem dX5_run_56 : decode cX5_run 56 = .ok (.getfield 25, 3) := by decide +kernel
theorem dX5_run_59 : decode cX5_run 59 = .ok (.getfield 55, 3) := by decide +kernel
theorem dX5_run_62 : decode cX5_run 62 = .ok (.ifCond .eq 52, 3) := by decide +kernel
theorem dX5_run_65 : decode cX5_run 65 = .ok (.aload_n 0, 1) := by decide +kernel
theorem dX5_run_66 : decode cX5_run 66 = .ok (.getfield 18, 3) := by decide +kernel
theorem dX5_run_69 : decode cX5_run 69 = .ok (.getfield 55, 3) := by decide +kernel
theorem dX5_run_72 : decode cX5_run 72 = .ok (.ifCond .eq 17, 3) := by decide +kernel
theorem dX5_run_75 : decode cX5_run 75 = .ok (.aload_n 0, 1) := by decide +kernel
theorem dX5_run_76 : decode cX5_run 76 = .ok (.getfield 25, 3) := by decide +kernel
theorem dX5_run_79 : decode cX5_run 79 = .ok (.aload_n 0, 1) := by decide +kernel
theorem dX5_run_80 : decode cX5_run 80 = .ok (.getfield 18, 3) := by decide +kernel
theorem dX5_run_83 : decode cX5_run 83 = .ok (.invokevirtual 59, 3) := by decide +kernel
theorem dX5_run_86 : decode cX5_run 86 = .ok (.ifCond .eq 28, 3) := by decide +kernel
theorem dX5_run_89 : decode cX5_run 89 = .ok (.aload_n 0, 1) := by decide +kernel
theorem dX5_run_90 : decode cX5_run 90 = .ok (.getfield 18, 3) := by decide +kernel
theorem dX5_run_93 : decode cX5_run 93 = .ok (.aload_n 0, 1) := by decide +kernel
theorem dX5_run_94 : decode cX5_run 94 = .ok (.getfield 25, 3) := by decide +kernel
theorem dX5_run_97 : decode cX5_run 97 = .ok (.invokevirtual 63, 3) := by decide +kernel
theorem dX5_run_100 : decode cX5_run 100 = .ok (.aload_n 0, 1) := by decide +kernel
theorem dX5_run_101 : decode cX5_run 101 = .ok (.getfield 22, 3) := by decide +kernel
theorem dX5_run_104 : decode cX5_run 104 = .ok (.iconst 0, 1) := by decide +kernel
theorem dX5_run_105 : decode cX5_run 105 = .ok (.aload_n 0, 1) := by decide +kernel
theorem dX5_run_106 : decode cX5_run 106 = .ok (.getfield 9, 3) := by decide +kernel
theorem dX5_run_109 : decode cX5_run 109 = .ok (.iconst 0, 1) := by decide +kernel
theorem dX5_run_110 : decode cX5_run 110 = .ok (.iconst 4, 1) := by decide +kernel
theorem dX5_run_111 : decode cX5_run 111 = .ok (.invokestatic 67, 3) := by decide +kernel
theorem dX5_run_114 : decode cX5_run 114 = .ok (.aload_n 0, 1) := by decide +kernel
theorem dX5_run_115 : decode cX5_run 115 = .ok (.aload_n 1, 1) := by decide +kernel
theorem dX5_run_116 : decode cX5_run 116 = .ok (.getfield 43, 3) := by decide +kernel
theorem dX5_run_119 : decode cX5_run 119 = .ok (.iload_n 2, 1) := by decide +kernel
theorem dX5_run_120 : decode cX5_run 120 = .ok (.invokevirtual 73, 3) := by decide +kernel
theorem dX5_run_123 : decode cX5_run 123 = .ok (.iinc 4 1, 3) := by decide +kernel
theorem dX5_run_126 : decode cX5_run 126 = .ok (.goto (-89), 3) := by decide +kernel
theorem dX5_run_129 : decode cX5_run 129 = .ok (.aload_n 0, 1) := by decide +kernel
theorem dX5_run_130 : decode cX5_run 130 = .ok (.getfield 18, 3) := by decide +kernel
theorem dX5_run_133 : decode cX5_run 133 = .ok (.invokevirtual 77, 3) := by decide +kernel
theorem dX5_run_136 : decode cX5_run 136 = .ok (.return_, 1) := by decide +kernel
theorem dX5_begins_0 : decode cX5_begins 0 = .ok (.iconst 1, 1) := by decide +kernel
theorem dX5_begins_1 : decode cX5_begins 1 = .ok (.istore_n 3, 1) := by decide +kernel
theorem dX5_begins_2 : decode cX5_begins 2 = .ok (.iconst 0, 1) := by decide +kernel
theorem dX5_begins_3 : decode cX5_begins 3 = .ok (.istore 4, 2) := by decide +kernel
theorem dX5_begins_5 : decode cX5_begins 5 = .ok (.iload 4, 2) := by decide +kernel
theorem dX5_begins_7 : decode cX5_begins 7 = .ok (.iconst 4, 1) := by decide +kernel
theorem dX5_begins_8 : decode cX5_begins 8 = .ok (.if_icmp .ge 46, 3) := by decide +kernel
theorem dX5_begins_11 : decode cX5_begins 11 = .ok (.aload_n 0, 1) := by decide +kernel
theorem dX5_begins_12 : decode cX5_begins 12 = .ok (.getfield 22, 3) := by decide +kernel
theorem dX5_begins_15 : decode cX5_begins 15 = .ok (.iload 4, 2) := by decide +kernel
theorem dX5_begins_17 : decode cX5_begins 17 = .ok (.iload 4, 2) := by decide +kernel
theorem dX5_begins_19 : decode cX5_begins 19 = .ok (.iload_n 1, 1) := by decide +kernel
theorem dX5_begins_20 : decode cX5_begins 20 = .ok (.if_icmp .ge 8, 3) := by decide +kernel
theorem dX5_begins_23 : decode cX5_begins 23 = .ok (.iload_n 2, 1) := by decide +kernel
theorem dX5_begins_24 : decode cX5_begins 24 = .ok (.ineg, 1) := by decide +kernel
theorem dX5_begins_25 : decode cX5_begins 25 = .ok (.goto 4, 3) := by decide +kernel
theorem dX5_begins_28 : decode cX5_begins 28 = .ok (.iconst 0, 1) := by decide +kernel
theorem dX5_begins_29 : decode cX5_begins 29 = .ok (.iastore, 1) := by decide +kernel
theorem dX5_begins_30 : decode cX5_begins 30 = .ok (.iload_n 3, 1) := by decide +kernel
theorem dX5_begins_31 : decode cX5_begins 31 = .ok (.iload 4, 2) := by decide +kernel
theorem dX5_begins_33 : decode cX5_begins 33 = .ok (.iload_n 1, 1) := by decide +kernel
theorem dX5_begins_34 : decode cX5_begins 34 = .ok (.if_icmp .ge 11, 3) := by decide +kernel
theorem dX5_begins_37 : decode cX5_begins 37 = .ok (.iconst 2, 1) := by decide +kernel
theorem dX5_begins_38 : decode cX5_begins 38 = .ok (.iload_n 2, 1) := by decide +kernel
theorem dX5_begins_39 : decode cX5_begins 39 = .ok (.imul, 1) := by decide +kernel
theorem dX5_begins_40 : decode cX5_begins 40 = .ok (.iconst 1, 1) := by decide +kernel
theorem dX5_begins_41 : decode cX5_begins 41 = .ok (.iadd, 1) := by decide +kernel
theorem dX5_begins_42 : decode cX5_begins 42 = .ok (.goto 4, 3) := by decide +kernel
theorem dX5_begins_45 : decode cX5_begins 45 = .ok (.iconst 1, 1) := by decide +kernel
theorem dX5_begins_46 : decode cX5_begins 46 = .ok (.imul, 1) := by decide +kernel
theorem dX5_begins_47 : decode cX5_begins 47 = .ok (.istore_n 3, 1) := by decide +kernel
theorem dX5_begins_48 : decode cX5_begins 48 = .ok (.iinc 4 1, 3) := by decide +kernel
theorem dX5_begins_51 : decode cX5_begins 51 = .ok (.goto (-46), 3) := by decide +kernel
theorem dX5_begins_54 : decode cX5_begins 54 = .ok (.iload_n 3, 1) := by decide +kernel
theorem dX5_begins_55 : decode cX5_begins 55 = .ok (.ireturn, 1) := by decide +kernel
theorem dX5_goOn_0 : decode cX5_goOn 0 = .ok (.iload_n 1, 1) := by decide +kernel
theorem dX5_goOn_1 : decode cX5_goOn 1 = .ok (.iconst 1, 1) := by decide +kernel
theorem dX5_goOn_2 : decode cX5_goOn 2 = .ok (.isub, 1) := by decide +kernel
theorem dX5_goOn_3 : decode cX5_goOn 3 = .ok (.istore_n 3, 1) := by decide +kernel
theorem dX5_goOn_4 : decode cX5_goOn 4 = .ok (.iload_n 3, 1) := by decide +kernel
theorem dX5_goOn_5 : decode cX5_goOn 5 = .ok (.ifCond .lt 38, 3) := by decide +kernel
theorem dX5_goOn_8 : decode cX5_goOn 8 = .ok (.aload_n 0, 1) := by decide +kernel
theorem dX5_goOn_9 : decode cX5_goOn 9 = .ok (.getfield 22, 3) := by decide +kernel
theorem dX5_goOn_12 : decode cX5_goOn 12 = .ok (.iload_n 3, 1) := by decide +kernel
theorem dX5_goOn_13 : decode cX5_goOn 13 = .ok (.iaload, 1) := by decide +kernel
theorem dX5_goOn_14 : decode cX5_goOn 14 = .ok (.iload_n 2, 1) := by decide +kernel
theorem dX5_goOn_15 : decode cX5_goOn 15 = .ok (.if_icmp .ge 14, 3) := by decide +kernel
theorem dX5_goOn_18 : decode cX5_goOn 18 = .ok (.aload_n 0, 1) := by decide +kernel
theorem dX5_goOn_19 : decode cX5_goOn 19 = .ok (.getfield 22, 3) := by decide +kernel
theorem dX5_goOn_22 : decode cX5_goOn 22 = .ok (.iload_n 3, 1) := by decide +kernel
theorem dX5_goOn_23 : decode cX5_goOn 23 = .ok (.dup2, 1) := by decide +kernel
theorem dX5_goOn_24 : decode cX5_goOn 24 = .ok (.iaload, 1) := by decide +kernel
theorem dX5_goOn_25 : decode cX5_goOn 25 = .ok (.iconst 1, 1) := by decide +kernel
theorem dX5_goOn_26 : decode cX5_goOn 26 = .ok (.iadd, 1) := by decide +kernel
theorem dX5_goOn_27 : decode cX5_goOn 27 = .ok (.iastore, 1) := by decide +kernel
theorem dX5_goOn_28 : decode cX5_goOn 28 = .ok (.return_, 1) := by decide +kernel
theorem dX5_goOn_29 : decode cX5_goOn 29 = .ok (.aload_n 0, 1) := by decide +kernel
theorem dX5_goOn_30 : decode cX5_goOn 30 = .ok (.getfield 22, 3) := by decide +kernel
theorem dX5_goOn_33 : decode cX5_goOn 33 = .ok (.iload_n 3, 1) := by decide +kernel
theorem dX5_goOn_34 : decode cX5_goOn 34 = .ok (.iload_n 2, 1) := by decide +kernel
theorem dX5_goOn_35 : decode cX5_goOn 35 = .ok (.ineg, 1) := by decide +kernel
theorem dX5_goOn_36 : decode cX5_goOn 36 = .ok (.iastore, 1) := by decide +kernel
theorem dX5_goOn_37 : decode cX5_goOn 37 = .ok (.iinc 3 (-1), 3) := by decide +kernel
theorem dX5_goOn_40 : decode cX5_goOn 40 = .ok (.goto (-36), 3) := by decide +kernel
theorem dX5_goOn_43 : decode cX5_goOn 43 = .ok (.return_, 1) := by decide +kernel
theorem dX5_answer_0 : decode cX5_answer 0 = .ok (.iload_n 1, 1) := by decide +kernel
theorem dX5_answer_1 : decode cX5_answer 1 = .ok (.bipush 10, 2) := by decide +kernel
theorem dX5_answer_3 : decode cX5_answer 3 = .ok (.if_icmp .ge 14, 3) := by decide +kernel
theorem dX5_answer_6 : decode cX5_answer 6 = .ok (.aload_n 0, 1) := by decide +kernel
theorem dX5_answer_7 : decode cX5_answer 7 = .ok (.getfield 18, 3) := by decide +kernel
theorem dX5_answer_10 : decode cX5_answer 10 = .ok (.iload_n 1, 1) := by decide +kernel
theorem dX5_answer_11 : decode cX5_answer 11 = .ok (.invokevirtual 80, 3) := by decide +kernel
theorem dX5_answer_14 : decode cX5_answer 14 = .ok (.goto 13, 3) := by decide +kernel
theorem dX5_answer_17 : decode cX5_answer 17 = .ok (.aload_n 0, 1) := by decide +kernel
theorem dX5_answer_18 : decode cX5_answer 18 = .ok (.getfield 9, 3) := by decide +kernel
theorem dX5_answer_21 : decode cX5_answer 21 = .ok (.iload_n 1, 1) := by decide +kernel
theorem dX5_answer_22 : decode cX5_answer 22 = .ok (.bipush 10, 2) := by decide +kernel
theorem dX5_answer_24 : decode cX5_answer 24 = .ok (.isub, 1) := by decide +kernel
theorem dX5_answer_25 : decode cX5_answer 25 = .ok (.iaload, 1) := by decide +kernel
theorem dX5_answer_26 : decode cX5_answer 26 = .ok (.i2l, 1) := by decide +kernel
theorem dX5_answer_27 : decode cX5_answer 27 = .ok (.lreturn, 1) := by decide +kernel
theorem dX6_init_0 : decode cX6_init 0 = .ok (.aload_n 0, 1) := by decide +kernel
theorem dX6_init_1 : decode cX6_init 1 = .ok (.invokespecial 3, 3) := by decide +kernel
theorem dX6_init_4 : decode cX6_init 4 = .ok (.aload_n 0, 1) := by decide +kernel
theorem dX6_init_5 : decode cX6_init 5 = .ok (.bipush 6, 2) := by decide +kernel
theorem dX6_init_7 : decode cX6_init 7 = .ok (.anewarray 9, 3) := by decide +kernel
theorem dX6_init_10 : decode cX6_init 10 = .ok (.putfield 11, 3) := by decide +kernel
theorem dX6_init_13 : decode cX6_init 13 = .ok (.aload_n 0, 1) := by decide +kernel
theorem dX6_init_14 : decode cX6_init 14 = .ok (.bipush 6, 2) := by decide +kernel
theorem dX6_init_16 : decode cX6_init 16 = .ok (.newarray .int, 2) := by decide +kernel
theorem dX6_init_18 : decode cX6_init 18 = .ok (.putfield 17, 3) := by decide +kernel
theorem dX6_init_21 : decode cX6_init 21 = .ok (.aload_n 0, 1) := by decide +kernel
theorem dX6_init_22 : decode cX6_init 22 = .ok (.iconst 0, 1) := by decide +kernel
theorem dX6_init_23 : decode cX6_init 23 = .ok (.putfield 21, 3) := by decide +kernel
theorem dX6_init_26 : decode cX6_init 26 = .ok (.aload_n 0, 1) := by decide +kernel
theorem dX6_init_27 : decode cX6_init 27 = .ok (.iconst 0, 1) := by decide +kernel
theorem dX6_init_28 : decode cX6_init 28 = .ok (.putfield 25, 3) := by decide +kernel
theorem dX6_init_31 : decode cX6_init 31 = .ok (.iconst 0, 1) := by decide +kernel
theorem dX6_init_32 : decode cX6_init 32 = .ok (.istore_n 1, 1) := by decide +kernel
theorem dX6_init_33 : decode cX6_init 33 = .ok (.iload_n 1, 1) := by decide +kernel
theorem dX6_init_34 : decode cX6_init 34 = .ok (.bipush 6, 2) := by decide +kernel
theorem dX6_init_36 : decode cX6_init 36 = .ok (.if_icmp .ge 22, 3) := by decide +kernel
theorem dX6_init_39 : decode cX6_init 39 = .ok (.aload_n 0, 1) := by decide +kernel
theorem dX6_init_40 : decode cX6_init 40 = .ok (.getfield 11, 3) := by decide +kernel
theorem dX6_init_43 : decode cX6_init 43 = .ok (.iload_n 1, 1) := by decide +kernel
theorem dX6_init_44 : decode cX6_init 44 = .ok (.new 9, 3) := by decide +kernel
theorem dX6_init_47 : decode cX6_init 47 = .ok (.dup, 1) := by decide +kernel
theorem dX6_init_48 : decode cX6_init 48 = .ok (.invokespecial 28, 3) := by decide +kernel
theorem dX6_init_51 : decode cX6_init 51 = .ok (.aastore, 1) := by decide +kernel
theorem dX6_init_52 : decode cX6_init 52 = .ok (.iinc 1 1, 3) := by decide +kernel
theorem dX6_init_55 : decode cX6_init 55 = .ok (.goto (-22), 3) := by decide +kernel
theorem dX6_init_58 : decode cX6_init 58 = .ok (.return_, 1) := by decide +kernel
theorem dX6_save_0 : decode cX6_save 0 = .ok (.aload_n 0, 1) := by decide +kernel
theorem dX6_save_1 : decode cX6_save 1 = .ok (.aload_n 0, 1) := by decide +kernel
theorem dX6_save_2 : decode cX6_save 2 = .ok (.getfield 21, 3) := by decide +kernel
theorem dX6_save_5 : decode cX6_save 5 = .ok (.iconst 1, 1) := by decide +kernel
theorem dX6_save_6 : decode cX6_save 6 = .ok (.iadd, 1) := by decide +kernel
theorem dX6_save_7 : decode cX6_save 7 = .ok (.bipush 6, 2) := by decide +kernel
theorem dX6_save_9 : decode cX6_save 9 = .ok (.if_icmp .ge 12, 3) := by decide +kernel
theorem dX6_save_12 : decode cX6_save 12 = .ok (.aload_n 0, 1) := by decide +kernel
theorem dX6_save_13 : decode cX6_save 13 = .ok (.getfield 21, 3) := by decide +kernel
theorem dX6_save_16 : decode cX6_save 16 = .ok (.iconst 1, 1) := by decide +kernel
theorem dX6_save_17 : decode cX6_save 17 = .ok (.iadd, 1) := by decide +kernel
theorem dX6_save_18 : decode cX6_save 18 = .ok (.goto 4, 3) := by decide +kernel
theorem dX6_save_21 : decode cX6_save 21 = .ok (.iconst 0, 1) := by decide +kernel
theorem dX6_save_22 : decode cX6_save 22 = .ok (.putfield 21, 3) := by decide +kernel
theorem dX6_save_25 : decode cX6_save 25 = .ok (.aload_n 0, 1) := by decide +kernel
theorem dX6_save_26 : decode cX6_save 26 = .ok (.getfield 11, 3) := by decide +kernel
theorem dX6_save_29 : decode cX6_save 29 = .ok (.aload_n 0, 1) := by decide +kernel
theorem dX6_save_30 : decode cX6_save 30 = .ok (.getfield 21, 3) := by decide +kernel
theorem dX6_save_33 : decode cX6_save 33 = .ok (.aaload, 1) := by decide +kernel
theorem dX6_save_34 : decode cX6_save 34 = .ok (.aload_n 1, 1) := by decide +kernel
theorem dX6_save_35 : decode cX6_save 35 = .ok (.invokevirtual 29, 3) := by decide +kernel
theorem dX6_save_38 : decode cX6_save 38 = .ok (.aload_n 0, 1) := by decide +kernel
theorem dX6_save_39 : decode cX6_save 39 = .ok (.getfield 17, 3) := by decide +kernel
theorem dX6_save_42 : decode cX6_save 42 = .ok (.aload_n 0, 1) := by decide +kernel
theorem dX6_save_43 : decode cX6_save 43 = .ok (.getfield 21, 3) := by decide +kernel
theorem dX6_save_46 : decode cX6_save 46 = .ok (.iload_n 2, 1) := by decide +kernel
theorem dX6_save_47 : decode cX6_save 47 = .ok (.iastore, 1) := by decide +kernel
theorem dX6_save_48 : decode cX6_save 48 = .ok (.aload_n 0, 1) := by decide +kernel
theorem dX6_save_49 : decode cX6_save 49 = .ok (.aload_n 0, 1) := by decide +kernel
theorem dX6_save_50 : decode cX6_save 50 = .ok (.getfield 25, 3) := by decide +kernel
theorem dX6_save_53 : decode cX6_save 53 = .ok (.iconst 1, 1) := by decide +kernel
theorem dX6_save_54 : decode cX6_save 54 = .ok (.iadd, 1) := by decide +kernel
theorem dX6_save_55 : decode cX6_save 55 = .ok (.bipush 6, 2) := by decide +kernel
theorem dX6_save_57 : decode cX6_save 57 = .ok (.invokestatic 33, 3) := by decide +kernel
theorem dX6_save_60 : decode cX6_save 60 = .ok (.putfield 25, 3) := by decide +kernel
theorem dX6_save_63 : decode cX6_save 63 = .ok (.return_, 1) := by decide +kernel
theorem dX6_latestGraph_0 : decode cX6_latestGraph 0 = .ok (.aload_n 0, 1) := by decide +kernel
theorem dX6_latestGraph_1 : decode cX6_latestGraph 1 = .ok (.getfield 11, 3) := by decide +kernel
theorem dX6_latestGraph_4 : decode cX6_latestGraph 4 = .ok (.aload_n 0, 1) := by decide +kernel
theorem dX6_latestGraph_5 : decode cX6_latestGraph 5 = .ok (.getfield 21, 3) := by decide +kernel
theorem dX6_latestGraph_8 : decode cX6_latestGraph 8 = .ok (.aaload, 1) := by decide +kernel
theorem dX6_latestGraph_9 : decode cX6_latestGraph 9 = .ok (.areturn, 1) := by decide +kernel
theorem dX6_latestProducts_0 : decode cX6_latestProducts 0 = .ok (.aload_n 0, 1) := by decide +kernel
theorem dX6_latestProducts_1 : decode cX6_latestProducts 1 = .ok (.getfield 17, 3) := by decide +kernel
theorem dX6_latestProducts_4 : decode cX6_latestProducts 4 = .ok (.aload_n 0, 1) := by decide +kernel
theorem dX6_latestProducts_5 : decode cX6_latestProducts 5 = .ok (.getfield 21, 3) := by decide +kernel
theorem dX6_latestProducts_8 : decode cX6_latestProducts 8 = .ok (.iaload, 1) := by decide +kernel
theorem dX6_latestProducts_9 : decode cX6_latestProducts 9 = .ok (.ireturn, 1) := by decide +kernel
theorem dX6_dropLatest_0 : decode cX6_dropLatest 0 = .ok (.aload_n 0, 1) := by decide +kernel
theorem dX6_dropLatest_1 : decode cX6_dropLatest 1 = .ok (.aload_n 0, 1) := by decide +kernel
theorem dX6_dropLatest_2 : decode cX6_dropLatest 2 = .ok (.getfield 21, 3) := by decide +kernel
theorem dX6_dropLatest_5 : decode cX6_dropLatest 5 = .ok (.ifCond .le 12, 3) := by decide +kernel
theorem dX6_dropLatest_8 : decode cX6_dropLatest 8 = .ok (.aload_n 0, 1) := by decide +kernel
theorem dX6_dropLatest_9 : decode cX6_dropLatest 9 = .ok (.getfield 21, 3) := by decide +kernel
theorem dX6_dropLatest_12 : decode cX6_dropLatest 12 = .ok (.iconst 1, 1) := by decide +kernel
theorem dX6_dropLatest_13 : decode cX6_dropLatest 13 = .ok (.isub, 1) := by decide +kernel
theorem dX6_dropLatest_14 : decode cX6_dropLatest 14 = .ok (.goto 4, 3) := by decide +kernel
theorem dX6_dropLatest_17 : decode cX6_dropLatest 17 = .ok (.iconst 5, 1) := by decide +kernel
theorem dX6_dropLatest_18 : decode cX6_dropLatest 18 = .ok (.putfield 21, 3) := by decide +kernel
theorem dX6_dropLatest_21 : decode cX6_dropLatest 21 = .ok (.aload_n 0, 1) := by decide +kernel
theorem dX6_dropLatest_22 : decode cX6_dropLatest 22 = .ok (.dup, 1) := by decide +kernel
theorem dX6_dropLatest_23 : decode cX6_dropLatest 23 = .ok (.getfield 25, 3) := by decide +kernel
end
section
theorem dX6_dropLatest_26 : decode cX6_dropLatest 26 = .ok (.iconst 1, 1) := by decide +kernel
theorem dX6_dropLatest_27 : decode cX6_dropLatest 27 = .ok (.isub, 1) := by decide +kernel
theorem dX6_dropLatest_28 : decode cX6_dropLatest 28 = .ok (.putfield 25, 3) := by decide +kernel
theorem dX6_dropLatest_31 : decode cX6_dropLatest 31 = .ok (.return_, 1) := by decide +kernel
theorem dX7_init_0 : decode cX7_init 0 = .ok (.aload_n 0, 1) := by decide +kernel
theorem dX7_init_1 : decode cX7_init 1 = .ok (.invokespecial 3, 3) := by decide +kernel
theorem dX7_init_4 : decode cX7_init 4 = .ok (.aload_n 0, 1) := by decide +kernel
theorem dX7_init_5 : decode cX7_init 5 = .ok (.new 9, 3) := by decide +kernel
theorem dX7_init_8 : decode cX7_init 8 = .ok (.dup, 1) := by decide +kernel
theorem dX7_init_9 : decode cX7_init 9 = .ok (.invokespecial 11, 3) := by decide +kernel
theorem dX7_init_12 : decode cX7_init 12 = .ok (.putfield 12, 3) := by decide +kernel
theorem dX7_init_15 : decode cX7_init 15 = .ok (.aload_n 0, 1) := by decide +kernel
theorem dX7_init_16 : decode cX7_init 16 = .ok (.iconst 2, 1) := by decide +kernel
theorem dX7_init_17 : decode cX7_init 17 = .ok (.anewarray 9, 3) := by decide +kernel
theorem dX7_init_20 : decode cX7_init 20 = .ok (.putfield 16, 3) := by decide +kernel
theorem dX7_init_23 : decode cX7_init 23 = .ok (.aload_n 0, 1) := by decide +kernel
theorem dX7_init_24 : decode cX7_init 24 = .ok (.iconst 2, 1) := by decide +kernel
theorem dX7_init_25 : decode cX7_init 25 = .ok (.newarray .boolean, 2) := by decide +kernel
theorem dX7_init_27 : decode cX7_init 27 = .ok (.putfield 20, 3) := by decide +kernel
theorem dX7_init_30 : decode cX7_init 30 = .ok (.aload_n 0, 1) := by decide +kernel
theorem dX7_init_31 : decode cX7_init 31 = .ok (.new 24, 3) := by decide +kernel
theorem dX7_init_34 : decode cX7_init 34 = .ok (.dup, 1) := by decide +kernel
theorem dX7_init_35 : decode cX7_init 35 = .ok (.invokespecial 26, 3) := by decide +kernel
theorem dX7_init_38 : decode cX7_init 38 = .ok (.putfield 27, 3) := by decide +kernel
theorem dX7_init_41 : decode cX7_init 41 = .ok (.aload_n 0, 1) := by decide +kernel
theorem dX7_init_42 : decode cX7_init 42 = .ok (.new 31, 3) := by decide +kernel
theorem dX7_init_45 : decode cX7_init 45 = .ok (.dup, 1) := by decide +kernel
theorem dX7_init_46 : decode cX7_init 46 = .ok (.invokespecial 33, 3) := by decide +kernel
theorem dX7_init_49 : decode cX7_init 49 = .ok (.putfield 34, 3) := by decide +kernel
theorem dX7_init_52 : decode cX7_init 52 = .ok (.aload_n 0, 1) := by decide +kernel
theorem dX7_init_53 : decode cX7_init 53 = .ok (.new 38, 3) := by decide +kernel
theorem dX7_init_56 : decode cX7_init 56 = .ok (.dup, 1) := by decide +kernel
theorem dX7_init_57 : decode cX7_init 57 = .ok (.invokespecial 40, 3) := by decide +kernel
theorem dX7_init_60 : decode cX7_init 60 = .ok (.putfield 41, 3) := by decide +kernel
theorem dX7_init_63 : decode cX7_init 63 = .ok (.aload_n 0, 1) := by decide +kernel
theorem dX7_init_64 : decode cX7_init 64 = .ok (.new 45, 3) := by decide +kernel
theorem dX7_init_67 : decode cX7_init 67 = .ok (.dup, 1) := by decide +kernel
theorem dX7_init_68 : decode cX7_init 68 = .ok (.invokespecial 47, 3) := by decide +kernel
theorem dX7_init_71 : decode cX7_init 71 = .ok (.putfield 48, 3) := by decide +kernel
theorem dX7_init_74 : decode cX7_init 74 = .ok (.aload_n 0, 1) := by decide +kernel
theorem dX7_init_75 : decode cX7_init 75 = .ok (.new 52, 3) := by decide +kernel
theorem dX7_init_78 : decode cX7_init 78 = .ok (.dup, 1) := by decide +kernel
theorem dX7_init_79 : decode cX7_init 79 = .ok (.invokespecial 54, 3) := by decide +kernel
theorem dX7_init_82 : decode cX7_init 82 = .ok (.putfield 55, 3) := by decide +kernel
theorem dX7_init_85 : decode cX7_init 85 = .ok (.aload_n 0, 1) := by decide +kernel
theorem dX7_init_86 : decode cX7_init 86 = .ok (.new 59, 3) := by decide +kernel
theorem dX7_init_89 : decode cX7_init 89 = .ok (.dup, 1) := by decide +kernel
theorem dX7_init_90 : decode cX7_init 90 = .ok (.invokespecial 61, 3) := by decide +kernel
theorem dX7_init_93 : decode cX7_init 93 = .ok (.putfield 62, 3) := by decide +kernel
theorem dX7_init_96 : decode cX7_init 96 = .ok (.aload_n 0, 1) := by decide +kernel
theorem dX7_init_97 : decode cX7_init 97 = .ok (.iconst 0, 1) := by decide +kernel
theorem dX7_init_98 : decode cX7_init 98 = .ok (.putfield 66, 3) := by decide +kernel
theorem dX7_init_101 : decode cX7_init 101 = .ok (.iconst 0, 1) := by decide +kernel
theorem dX7_init_102 : decode cX7_init 102 = .ok (.istore_n 1, 1) := by decide +kernel
theorem dX7_init_103 : decode cX7_init 103 = .ok (.iload_n 1, 1) := by decide +kernel
theorem dX7_init_104 : decode cX7_init 104 = .ok (.iconst 2, 1) := by decide +kernel
theorem dX7_init_105 : decode cX7_init 105 = .ok (.if_icmp .ge 22, 3) := by decide +kernel
theorem dX7_init_108 : decode cX7_init 108 = .ok (.aload_n 0, 1) := by decide +kernel
theorem dX7_init_109 : decode cX7_init 109 = .ok (.getfield 16, 3) := by decide +kernel
theorem dX7_init_112 : decode cX7_init 112 = .ok (.iload_n 1, 1) := by decide +kernel
theorem dX7_init_113 : decode cX7_init 113 = .ok (.new 9, 3) := by decide +kernel
theorem dX7_init_116 : decode cX7_init 116 = .ok (.dup, 1) := by decide +kernel
theorem dX7_init_117 : decode cX7_init 117 = .ok (.invokespecial 11, 3) := by decide +kernel
theorem dX7_init_120 : decode cX7_init 120 = .ok (.aastore, 1) := by decide +kernel
theorem dX7_init_121 : decode cX7_init 121 = .ok (.iinc 1 1, 3) := by decide +kernel
theorem dX7_init_124 : decode cX7_init 124 = .ok (.goto (-21), 3) := by decide +kernel
theorem dX7_init_127 : decode cX7_init 127 = .ok (.return_, 1) := by decide +kernel
theorem dX7_begin_0 : decode cX7_begin 0 = .ok (.iload_n 1, 1) := by decide +kernel
theorem dX7_begin_1 : decode cX7_begin 1 = .ok (.iconst 1, 1) := by decide +kernel
theorem dX7_begin_2 : decode cX7_begin 2 = .ok (.if_icmp .lt 19, 3) := by decide +kernel
theorem dX7_begin_5 : decode cX7_begin 5 = .ok (.iload_n 1, 1) := by decide +kernel
theorem dX7_begin_6 : decode cX7_begin 6 = .ok (.bipush 8, 2) := by decide +kernel
theorem dX7_begin_8 : decode cX7_begin 8 = .ok (.if_icmp .gt 13, 3) := by decide +kernel
theorem dX7_begin_11 : decode cX7_begin 11 = .ok (.iload_n 2, 1) := by decide +kernel
theorem dX7_begin_12 : decode cX7_begin 12 = .ok (.iconst 1, 1) := by decide +kernel
theorem dX7_begin_13 : decode cX7_begin 13 = .ok (.if_icmp .lt 8, 3) := by decide +kernel
theorem dX7_begin_16 : decode cX7_begin 16 = .ok (.iload_n 2, 1) := by decide +kernel
theorem dX7_begin_17 : decode cX7_begin 17 = .ok (.iconst 4, 1) := by decide +kernel
theorem dX7_begin_18 : decode cX7_begin 18 = .ok (.if_icmp .le 13, 3) := by decide +kernel
theorem dX7_begin_21 : decode cX7_begin 21 = .ok (.new 70, 3) := by decide +kernel
theorem dX7_begin_24 : decode cX7_begin 24 = .ok (.dup, 1) := by decide +kernel
theorem dX7_begin_25 : decode cX7_begin 25 = .ok (.ldc 72, 2) := by decide +kernel
theorem dX7_begin_27 : decode cX7_begin 27 = .ok (.invokespecial 74, 3) := by decide +kernel
theorem dX7_begin_30 : decode cX7_begin 30 = .ok (.athrow, 1) := by decide +kernel
theorem dX7_begin_31 : decode cX7_begin 31 = .ok (.aload_n 0, 1) := by decide +kernel
theorem dX7_begin_32 : decode cX7_begin 32 = .ok (.getfield 12, 3) := by decide +kernel
theorem dX7_begin_35 : decode cX7_begin 35 = .ok (.getfield 77, 3) := by decide +kernel
theorem dX7_begin_38 : decode cX7_begin 38 = .ok (.istore_n 3, 1) := by decide +kernel
theorem dX7_begin_39 : decode cX7_begin 39 = .ok (.aload_n 0, 1) := by decide +kernel
theorem dX7_begin_40 : decode cX7_begin 40 = .ok (.invokevirtual 80, 3) := by decide +kernel
theorem dX7_begin_43 : decode cX7_begin 43 = .ok (.aload_n 0, 1) := by decide +kernel
theorem dX7_begin_44 : decode cX7_begin 44 = .ok (.getfield 12, 3) := by decide +kernel
theorem dX7_begin_47 : decode cX7_begin 47 = .ok (.iload_n 1, 1) := by decide +kernel
theorem dX7_begin_48 : decode cX7_begin 48 = .ok (.iload_n 2, 1) := by decide +kernel
theorem dX7_begin_49 : decode cX7_begin 49 = .ok (.invokevirtual 83, 3) := by decide +kernel
theorem dX7_begin_52 : decode cX7_begin 52 = .ok (.iload_n 3, 1) := by decide +kernel
theorem dX7_begin_53 : decode cX7_begin 53 = .ok (.ireturn, 1) := by decide +kernel
theorem dX7_join_0 : decode cX7_join 0 = .ok (.aload_n 0, 1) := by decide +kernel
theorem dX7_join_1 : decode cX7_join 1 = .ok (.iload_n 1, 1) := by decide +kernel
theorem dX7_join_2 : decode cX7_join 2 = .ok (.invokevirtual 87, 3) := by decide +kernel
theorem dX7_join_5 : decode cX7_join 5 = .ok (.aload_n 0, 1) := by decide +kernel
theorem dX7_join_6 : decode cX7_join 6 = .ok (.iload_n 2, 1) := by decide +kernel
theorem dX7_join_7 : decode cX7_join 7 = .ok (.invokevirtual 87, 3) := by decide +kernel
theorem dX7_join_10 : decode cX7_join 10 = .ok (.iload_n 1, 1) := by decide +kernel
theorem dX7_join_11 : decode cX7_join 11 = .ok (.iload_n 2, 1) := by decide +kernel
theorem dX7_join_12 : decode cX7_join 12 = .ok (.if_icmp .ne 13, 3) := by decide +kernel
theorem dX7_join_15 : decode cX7_join 15 = .ok (.new 70, 3) := by decide +kernel
theorem dX7_join_18 : decode cX7_join 18 = .ok (.dup, 1) := by decide +kernel
theorem dX7_join_19 : decode cX7_join 19 = .ok (.ldc 91, 2) := by decide +kernel
theorem dX7_join_21 : decode cX7_join 21 = .ok (.invokespecial 74, 3) := by decide +kernel
theorem dX7_join_24 : decode cX7_join 24 = .ok (.athrow, 1) := by decide +kernel
theorem dX7_join_25 : decode cX7_join 25 = .ok (.aload_n 0, 1) := by decide +kernel
theorem dX7_join_26 : decode cX7_join 26 = .ok (.invokevirtual 80, 3) := by decide +kernel
theorem dX7_join_29 : decode cX7_join 29 = .ok (.aload_n 0, 1) := by decide +kernel
theorem dX7_join_30 : decode cX7_join 30 = .ok (.getfield 12, 3) := by decide +kernel
theorem dX7_join_33 : decode cX7_join 33 = .ok (.iload_n 1, 1) := by decide +kernel
theorem dX7_join_34 : decode cX7_join 34 = .ok (.iload_n 2, 1) := by decide +kernel
theorem dX7_join_35 : decode cX7_join 35 = .ok (.iload_n 3, 1) := by decide +kernel
theorem dX7_join_36 : decode cX7_join 36 = .ok (.invokevirtual 93, 3) := by decide +kernel
theorem dX7_join_39 : decode cX7_join 39 = .ok (.aload_n 0, 1) := by decide +kernel
theorem dX7_join_40 : decode cX7_join 40 = .ok (.getfield 12, 3) := by decide +kernel
theorem dX7_join_43 : decode cX7_join 43 = .ok (.invokevirtual 97, 3) := by decide +kernel
theorem dX7_join_46 : decode cX7_join 46 = .ok (.ireturn, 1) := by decide +kernel
theorem dX7_weigh_0 : decode cX7_weigh 0 = .ok (.aload_n 0, 1) := by decide +kernel
theorem dX7_weigh_1 : decode cX7_weigh 1 = .ok (.iload_n 1, 1) := by decide +kernel
theorem dX7_weigh_2 : decode cX7_weigh 2 = .ok (.invokevirtual 87, 3) := by decide +kernel
theorem dX7_weigh_5 : decode cX7_weigh 5 = .ok (.iload_n 2, 1) := by decide +kernel
theorem dX7_weigh_6 : decode cX7_weigh 6 = .ok (.ifCond .lt 9, 3) := by decide +kernel
theorem dX7_weigh_9 : decode cX7_weigh 9 = .ok (.iload_n 2, 1) := by decide +kernel
theorem dX7_weigh_10 : decode cX7_weigh 10 = .ok (.bipush 9, 2) := by decide +kernel
theorem dX7_weigh_12 : decode cX7_weigh 12 = .ok (.if_icmp .le 13, 3) := by decide +kernel
theorem dX7_weigh_15 : decode cX7_weigh 15 = .ok (.new 70, 3) := by decide +kernel
theorem dX7_weigh_18 : decode cX7_weigh 18 = .ok (.dup, 1) := by decide +kernel
theorem dX7_weigh_19 : decode cX7_weigh 19 = .ok (.ldc 101, 2) := by decide +kernel
theorem dX7_weigh_21 : decode cX7_weigh 21 = .ok (.invokespecial 74, 3) := by decide +kernel
theorem dX7_weigh_24 : decode cX7_weigh 24 = .ok (.athrow, 1) := by decide +kernel
theorem dX7_weigh_25 : decode cX7_weigh 25 = .ok (.aload_n 0, 1) := by decide +kernel
theorem dX7_weigh_26 : decode cX7_weigh 26 = .ok (.getfield 12, 3) := by decide +kernel
theorem dX7_weigh_29 : decode cX7_weigh 29 = .ok (.getfield 103, 3) := by decide +kernel
theorem dX7_weigh_32 : decode cX7_weigh 32 = .ok (.iload_n 1, 1) := by decide +kernel
theorem dX7_weigh_33 : decode cX7_weigh 33 = .ok (.iaload, 1) := by decide +kernel
theorem dX7_weigh_34 : decode cX7_weigh 34 = .ok (.istore_n 3, 1) := by decide +kernel
theorem dX7_weigh_35 : decode cX7_weigh 35 = .ok (.aload_n 0, 1) := by decide +kernel
theorem dX7_weigh_36 : decode cX7_weigh 36 = .ok (.invokevirtual 80, 3) := by decide +kernel
theorem dX7_weigh_39 : decode cX7_weigh 39 = .ok (.aload_n 0, 1) := by decide +kernel
theorem dX7_weigh_40 : decode cX7_weigh 40 = .ok (.getfield 12, 3) := by decide +kernel
theorem dX7_weigh_43 : decode cX7_weigh 43 = .ok (.getfield 103, 3) := by decide +kernel
theorem dX7_weigh_46 : decode cX7_weigh 46 = .ok (.iload_n 1, 1) := by decide +kernel
theorem dX7_weigh_47 : decode cX7_weigh 47 = .ok (.iload_n 2, 1) := by decide +kernel
theorem dX7_weigh_48 : decode cX7_weigh 48 = .ok (.iastore, 1) := by decide +kernel
theorem dX7_weigh_49 : decode cX7_weigh 49 = .ok (.iload_n 3, 1) := by decide +kernel
theorem dX7_weigh_50 : decode cX7_weigh 50 = .ok (.ireturn, 1) := by decide +kernel
theorem dX7_complement_0 : decode cX7_complement 0 = .ok (.aload_n 0, 1) := by decide +kernel
theorem dX7_complement_1 : decode cX7_complement 1 = .ok (.invokevirtual 80, 3) := by decide +kernel
theorem dX7_complement_4 : decode cX7_complement 4 = .ok (.aload_n 0, 1) := by decide +kernel
theorem dX7_complement_5 : decode cX7_complement 5 = .ok (.getfield 12, 3) := by decide +kernel
theorem dX7_complement_8 : decode cX7_complement 8 = .ok (.invokevirtual 107, 3) := by decide +kernel
theorem dX7_complement_11 : decode cX7_complement 11 = .ok (.aload_n 0, 1) := by decide +kernel
theorem dX7_complement_12 : decode cX7_complement 12 = .ok (.getfield 12, 3) := by decide +kernel
theorem dX7_complement_15 : decode cX7_complement 15 = .ok (.invokevirtual 97, 3) := by decide +kernel
theorem dX7_complement_18 : decode cX7_complement 18 = .ok (.ireturn, 1) := by decide +kernel
theorem dX7_remove_0 : decode cX7_remove 0 = .ok (.aload_n 0, 1) := by decide +kernel
theorem dX7_remove_1 : decode cX7_remove 1 = .ok (.iload_n 1, 1) := by decide +kernel
theorem dX7_remove_2 : decode cX7_remove 2 = .ok (.invokevirtual 87, 3) := by decide +kernel
theorem dX7_remove_5 : decode cX7_remove 5 = .ok (.aload_n 0, 1) := by decide +kernel
theorem dX7_remove_6 : decode cX7_remove 6 = .ok (.getfield 12, 3) := by decide +kernel
theorem dX7_remove_9 : decode cX7_remove 9 = .ok (.getfield 77, 3) := by decide +kernel
theorem dX7_remove_12 : decode cX7_remove 12 = .ok (.iconst 1, 1) := by decide +kernel
theorem dX7_remove_13 : decode cX7_remove 13 = .ok (.if_icmp .ne 13, 3) := by decide +kernel
theorem dX7_remove_16 : decode cX7_remove 16 = .ok (.new 110, 3) := by decide +kernel
theorem dX7_remove_19 : decode cX7_remove 19 = .ok (.dup, 1) := by decide +kernel
theorem dX7_remove_20 : decode cX7_remove 20 = .ok (.ldc 112, 2) := by decide +kernel
theorem dX7_remove_22 : decode cX7_remove 22 = .ok (.invokespecial 114, 3) := by decide +kernel
theorem dX7_remove_25 : decode cX7_remove 25 = .ok (.athrow, 1) := by decide +kernel
theorem dX7_remove_26 : decode cX7_remove 26 = .ok (.aload_n 0, 1) := by decide +kernel
theorem dX7_remove_27 : decode cX7_remove 27 = .ok (.invokevirtual 80, 3) := by decide +kernel
theorem dX7_remove_30 : decode cX7_remove 30 = .ok (.aload_n 0, 1) := by decide +kernel
theorem dX7_remove_31 : decode cX7_remove 31 = .ok (.getfield 12, 3) := by decide +kernel
theorem dX7_remove_34 : decode cX7_remove 34 = .ok (.iload_n 1, 1) := by decide +kernel
theorem dX7_remove_35 : decode cX7_remove 35 = .ok (.invokevirtual 115, 3) := by decide +kernel
theorem dX7_remove_38 : decode cX7_remove 38 = .ok (.aload_n 0, 1) := by decide +kernel
theorem dX7_remove_39 : decode cX7_remove 39 = .ok (.getfield 12, 3) := by decide +kernel
theorem dX7_remove_42 : decode cX7_remove 42 = .ok (.getfield 77, 3) := by decide +kernel
theorem dX7_remove_45 : decode cX7_remove 45 = .ok (.ireturn, 1) := by decide +kernel
theorem dX7_multiply_0 : decode cX7_multiply 0 = .ok (.aload_n 0, 1) := by decide +kernel
theorem dX7_multiply_1 : decode cX7_multiply 1 = .ok (.iload_n 1, 1) := by decide +kernel
theorem dX7_multiply_2 : decode cX7_multiply 2 = .ok (.invokevirtual 118, 3) := by decide +kernel
theorem dX7_multiply_5 : decode cX7_multiply 5 = .ok (.aload_n 0, 1) := by decide +kernel
theorem dX7_multiply_6 : decode cX7_multiply 6 = .ok (.getfield 16, 3) := by decide +kernel
theorem dX7_multiply_9 : decode cX7_multiply 9 = .ok (.iload_n 1, 1) := by decide +kernel
theorem dX7_multiply_10 : decode cX7_multiply 10 = .ok (.aaload, 1) := by decide +kernel
theorem dX7_multiply_11 : decode cX7_multiply 11 = .ok (.astore_n 2, 1) := by decide +kernel
theorem dX7_multiply_12 : decode cX7_multiply 12 = .ok (.aload_n 0, 1) := by decide +kernel
theorem dX7_multiply_13 : decode cX7_multiply 13 = .ok (.getfield 12, 3) := by decide +kernel
theorem dX7_multiply_16 : decode cX7_multiply 16 = .ok (.aload_n 2, 1) := by decide +kernel
theorem dX7_multiply_17 : decode cX7_multiply 17 = .ok (.invokestatic 121, 3) := by decide +kernel
theorem dX7_multiply_20 : decode cX7_multiply 20 = .ok (.ifCond .eq 13, 3) := by decide +kernel
theorem dX7_multiply_23 : decode cX7_multiply 23 = .ok (.new 110, 3) := by decide +kernel
theorem dX7_multiply_26 : decode cX7_multiply 26 = .ok (.dup, 1) := by decide +kernel
theorem dX7_multiply_27 : decode cX7_multiply 27 = .ok (.ldc 125, 2) := by decide +kernel
theorem dX7_multiply_29 : decode cX7_multiply 29 = .ok (.invokespecial 114, 3) := by decide +kernel
theorem dX7_multiply_32 : decode cX7_multiply 32 = .ok (.athrow, 1) := by decide +kernel
theorem dX7_multiply_33 : decode cX7_multiply 33 = .ok (.aload_n 0, 1) := by decide +kernel
theorem dX7_multiply_34 : decode cX7_multiply 34 = .ok (.invokevirtual 80, 3) := by decide +kernel
theorem dX7_multiply_37 : decode cX7_multiply 37 = .ok (.aload_n 0, 1) := by decide +kernel
theorem dX7_multiply_38 : decode cX7_multiply 38 = .ok (.getfield 12, 3) := by decide +kernel
theorem dX7_multiply_41 : decode cX7_multiply 41 = .ok (.aload_n 0, 1) := by decide +kernel
theorem dX7_multiply_42 : decode cX7_multiply 42 = .ok (.getfield 27, 3) := by decide +kernel
theorem dX7_multiply_45 : decode cX7_multiply 45 = .ok (.invokevirtual 127, 3) := by decide +kernel
theorem dX7_multiply_48 : decode cX7_multiply 48 = .ok (.aload_n 2, 1) := by decide +kernel
theorem dX7_multiply_49 : decode cX7_multiply 49 = .ok (.invokevirtual 131, 3) := by decide +kernel
theorem dX7_multiply_52 : decode cX7_multiply 52 = .ok (.aload_n 0, 1) := by decide +kernel
theorem dX7_multiply_53 : decode cX7_multiply 53 = .ok (.dup, 1) := by decide +kernel
theorem dX7_multiply_54 : decode cX7_multiply 54 = .ok (.getfield 66, 3) := by decide +kernel
theorem dX7_multiply_57 : decode cX7_multiply 57 = .ok (.iconst 1, 1) := by decide +kernel
theorem dX7_multiply_58 : decode cX7_multiply 58 = .ok (.iadd, 1) := by decide +kernel
theorem dX7_multiply_59 : decode cX7_multiply 59 = .ok (.putfield 66, 3) := by decide +kernel
theorem dX7_multiply_62 : decode cX7_multiply 62 = .ok (.aload_n 0, 1) := by decide +kernel
theorem dX7_multiply_63 : decode cX7_multiply 63 = .ok (.getfield 12, 3) := by decide +kernel
theorem dX7_multiply_66 : decode cX7_multiply 66 = .ok (.getfield 77, 3) := by decide +kernel
theorem dX7_multiply_69 : decode cX7_multiply 69 = .ok (.ireturn, 1) := by decide +kernel
theorem dX7_label_0 : decode cX7_label 0 = .ok (.aload_n 0, 1) := by decide +kernel
theorem dX7_label_1 : decode cX7_label 1 = .ok (.iload_n 1, 1) := by decide +kernel
theorem dX7_label_2 : decode cX7_label 2 = .ok (.invokevirtual 87, 3) := by decide +kernel
theorem dX7_label_5 : decode cX7_label 5 = .ok (.aload_n 0, 1) := by decide +kernel
theorem dX7_label_6 : decode cX7_label 6 = .ok (.iload_n 2, 1) := by decide +kernel
theorem dX7_label_7 : decode cX7_label 7 = .ok (.invokevirtual 135, 3) := by decide +kernel
theorem dX7_label_10 : decode cX7_label 10 = .ok (.iload_n 3, 1) := by decide +kernel
theorem dX7_label_11 : decode cX7_label 11 = .ok (.invokestatic 138, 3) := by decide +kernel
theorem dX7_label_14 : decode cX7_label 14 = .ok (.aload_n 0, 1) := by decide +kernel
theorem dX7_label_15 : decode cX7_label 15 = .ok (.getfield 12, 3) := by decide +kernel
theorem dX7_label_18 : decode cX7_label 18 = .ok (.getfield 141, 3) := by decide +kernel
theorem dX7_label_21 : decode cX7_label 21 = .ok (.iload_n 1, 1) := by decide +kernel
theorem dX7_label_22 : decode cX7_label 22 = .ok (.aaload, 1) := by decide +kernel
theorem dX7_label_23 : decode cX7_label 23 = .ok (.iload_n 2, 1) := by decide +kernel
theorem dX7_label_24 : decode cX7_label 24 = .ok (.iaload, 1) := by decide +kernel
theorem dX7_label_25 : decode cX7_label 25 = .ok (.istore 4, 2) := by decide +kernel
theorem dX7_label_27 : decode cX7_label 27 = .ok (.aload_n 0, 1) := by decide +kernel
theorem dX7_label_28 : decode cX7_label 28 = .ok (.invokevirtual 80, 3) := by decide +kernel
theorem dX7_label_31 : decode cX7_label 31 = .ok (.aload_n 0, 1) := by decide +kernel
theorem dX7_label_32 : decode cX7_label 32 = .ok (.getfield 12, 3) := by decide +kernel
theorem dX7_label_35 : decode cX7_label 35 = .ok (.getfield 141, 3) := by decide +kernel
theorem dX7_label_38 : decode cX7_label 38 = .ok (.iload_n 1, 1) := by decide +kernel
theorem dX7_label_39 : decode cX7_label 39 = .ok (.aaload, 1) := by decide +kernel
theorem dX7_label_40 : decode cX7_label 40 = .ok (.iload_n 2, 1) := by decide +kernel
theorem dX7_label_41 : decode cX7_label 41 = .ok (.iload_n 3, 1) := by decide +kernel
theorem dX7_label_42 : decode cX7_label 42 = .ok (.iastore, 1) := by decide +kernel
theorem dX7_label_43 : decode cX7_label 43 = .ok (.iload 4, 2) := by decide +kernel
theorem dX7_label_45 : decode cX7_label 45 = .ok (.ireturn, 1) := by decide +kernel
theorem dX7_hold_0 : decode cX7_hold 0 = .ok (.aload_n 0, 1) := by decide +kernel
theorem dX7_hold_1 : decode cX7_hold 1 = .ok (.iload_n 1, 1) := by decide +kernel
theorem dX7_hold_2 : decode cX7_hold 2 = .ok (.invokevirtual 135, 3) := by decide +kernel
theorem dX7_hold_5 : decode cX7_hold 5 = .ok (.iload_n 2, 1) := by decide +kernel
theorem dX7_hold_6 : decode cX7_hold 6 = .ok (.invokestatic 138, 3) := by decide +kernel
theorem dX7_hold_9 : decode cX7_hold 9 = .ok (.aload_n 0, 1) := by decide +kernel
theorem dX7_hold_10 : decode cX7_hold 10 = .ok (.getfield 12, 3) := by decide +kernel
theorem dX7_hold_13 : decode cX7_hold 13 = .ok (.getfield 145, 3) := by decide +kernel
theorem dX7_hold_16 : decode cX7_hold 16 = .ok (.iload_n 1, 1) := by decide +kernel
theorem dX7_hold_17 : decode cX7_hold 17 = .ok (.iaload, 1) := by decide +kernel
theorem dX7_hold_18 : decode cX7_hold 18 = .ok (.istore_n 3, 1) := by decide +kernel
theorem dX7_hold_19 : decode cX7_hold 19 = .ok (.aload_n 0, 1) := by decide +kernel
theorem dX7_hold_20 : decode cX7_hold 20 = .ok (.invokevirtual 80, 3) := by decide +kernel
theorem dX7_hold_23 : decode cX7_hold 23 = .ok (.aload_n 0, 1) := by decide +kernel
theorem dX7_hold_24 : decode cX7_hold 24 = .ok (.getfield 12, 3) := by decide +kernel
theorem dX7_hold_27 : decode cX7_hold 27 = .ok (.getfield 145, 3) := by decide +kernel
theorem dX7_hold_30 : decode cX7_hold 30 = .ok (.iload_n 1, 1) := by decide +kernel
theorem dX7_hold_31 : decode cX7_hold 31 = .ok (.iload_n 2, 1) := by decide +kernel
theorem dX7_hold_32 : decode cX7_hold 32 = .ok (.iastore, 1) := by decide +kernel
theorem dX7_hold_33 : decode cX7_hold 33 = .ok (.iload_n 3, 1) := by decide +kernel
theorem dX7_hold_34 : decode cX7_hold 34 = .ok (.ireturn, 1) := by decide +kernel
theorem dX7_labelByColors_0 : decode cX7_labelByColors 0 = .ok (.aload_n 0, 1) := by decide +kernel
theorem dX7_labelByColors_1 : decode cX7_labelByColors 1 = .ok (.getfield 41, 3) := by decide +kernel
theorem dX7_labelByColors_4 : decode cX7_labelByColors 4 = .ok (.aload_n 0, 1) := by decide +kernel
theorem dX7_labelByColors_5 : decode cX7_labelByColors 5 = .ok (.getfield 12, 3) := by decide +kernel
theorem dX7_labelByColors_8 : decode cX7_labelByColors 8 = .ok (.invokevirtual 148, 3) := by decide +kernel
theorem dX7_labelByColors_11 : decode cX7_labelByColors 11 = .ok (.aload_n 0, 1) := by decide +kernel
theorem dX7_labelByColors_12 : decode cX7_labelByColors 12 = .ok (.getfield 41, 3) := by decide +kernel
theorem dX7_labelByColors_15 : decode cX7_labelByColors 15 = .ok (.getfield 152, 3) := by decide +kernel
theorem dX7_labelByColors_18 : decode cX7_labelByColors 18 = .ok (.aload_n 0, 1) := by decide +kernel
theorem dX7_labelByColors_19 : decode cX7_labelByColors 19 = .ok (.getfield 12, 3) := by decide +kernel
theorem dX7_labelByColors_22 : decode cX7_labelByColors 22 = .ok (.getfield 155, 3) := by decide +kernel
theorem dX7_labelByColors_25 : decode cX7_labelByColors 25 = .ok (.if_icmp .le 13, 3) := by decide +kernel
theorem dX7_labelByColors_28 : decode cX7_labelByColors 28 = .ok (.new 110, 3) := by decide +kernel
theorem dX7_labelByColors_31 : decode cX7_labelByColors 31 = .ok (.dup, 1) := by decide +kernel
theorem dX7_labelByColors_32 : decode cX7_labelByColors 32 = .ok (.ldc 158, 2) := by decide +kernel
theorem dX7_labelByColors_34 : decode cX7_labelByColors 34 = .ok (.invokespecial 114, 3) := by decide +kernel
theorem dX7_labelByColors_37 : decode cX7_labelByColors 37 = .ok (.athrow, 1) := by decide +kernel
theorem dX7_labelByColors_38 : decode cX7_labelByColors 38 = .ok (.aload_n 0, 1) := by decide +kernel
theorem dX7_labelByColors_39 : decode cX7_labelByColors 39 = .ok (.invokevirtual 80, 3) := by decide +kernel
theorem dX7_labelByColors_42 : decode cX7_labelByColors 42 = .ok (.aload_n 0, 1) := by decide +kernel
theorem dX7_labelByColors_43 : decode cX7_labelByColors 43 = .ok (.getfield 12, 3) := by decide +kernel
theorem dX7_labelByColors_46 : decode cX7_labelByColors 46 = .ok (.aload_n 0, 1) := by decide +kernel
theorem dX7_labelByColors_47 : decode cX7_labelByColors 47 = .ok (.getfield 41, 3) := by decide +kernel
theorem dX7_labelByColors_50 : decode cX7_labelByColors 50 = .ok (.invokevirtual 160, 3) := by decide +kernel
theorem dX7_labelByColors_53 : decode cX7_labelByColors 53 = .ok (.aload_n 0, 1) := by decide +kernel
theorem dX7_labelByColors_54 : decode cX7_labelByColors 54 = .ok (.getfield 41, 3) := by decide +kernel
theorem dX7_labelByColors_57 : decode cX7_labelByColors 57 = .ok (.getfield 152, 3) := by decide +kernel
theorem dX7_labelByColors_60 : decode cX7_labelByColors 60 = .ok (.ireturn, 1) := by decide +kernel
theorem dX7_takeHandle_0 : decode cX7_takeHandle 0 = .ok (.iload_n 1, 1) := by decide +kernel
theorem dX7_takeHandle_1 : decode cX7_takeHandle 1 = .ok (.invokestatic 164, 3) := by decide +kernel
theorem dX7_takeHandle_4 : decode cX7_takeHandle 4 = .ok (.aload_n 0, 1) := by decide +kernel
theorem dX7_takeHandle_5 : decode cX7_takeHandle 5 = .ok (.getfield 62, 3) := by decide +kernel
theorem dX7_takeHandle_8 : decode cX7_takeHandle 8 = .ok (.aload_n 0, 1) := by decide +kernel
theorem dX7_takeHandle_9 : decode cX7_takeHandle 9 = .ok (.getfield 12, 3) := by decide +kernel
theorem dX7_takeHandle_12 : decode cX7_takeHandle 12 = .ok (.iload_n 1, 1) := by decide +kernel
theorem dX7_takeHandle_13 : decode cX7_takeHandle 13 = .ok (.invokevirtual 167, 3) := by decide +kernel
theorem dX7_takeHandle_16 : decode cX7_takeHandle 16 = .ok (.aload_n 0, 1) := by decide +kernel
theorem dX7_takeHandle_17 : decode cX7_takeHandle 17 = .ok (.invokevirtual 80, 3) := by decide +kernel
theorem dX7_takeHandle_20 : decode cX7_takeHandle 20 = .ok (.aload_n 0, 1) := by decide +kernel
theorem dX7_takeHandle_21 : decode cX7_takeHandle 21 = .ok (.getfield 62, 3) := by decide +kernel
theorem dX7_takeHandle_24 : decode cX7_takeHandle 24 = .ok (.getfield 171, 3) := by decide +kernel
theorem dX7_takeHandle_27 : decode cX7_takeHandle 27 = .ok (.getfield 174, 3) := by decide +kernel
theorem dX7_takeHandle_30 : decode cX7_takeHandle 30 = .ok (.ifCond .ne 5, 3) := by decide +kernel
theorem dX7_takeHandle_33 : decode cX7_takeHandle 33 = .ok (.iconst 0, 1) := by decide +kernel
theorem dX7_takeHandle_34 : decode cX7_takeHandle 34 = .ok (.ireturn, 1) := by decide +kernel
theorem dX7_takeHandle_35 : decode cX7_takeHandle 35 = .ok (.aload_n 0, 1) := by decide +kernel
theorem dX7_takeHandle_36 : decode cX7_takeHandle 36 = .ok (.getfield 62, 3) := by decide +kernel
theorem dX7_takeHandle_39 : decode cX7_takeHandle 39 = .ok (.getfield 178, 3) := by decide +kernel
theorem dX7_takeHandle_42 : decode cX7_takeHandle 42 = .ok (.iconst 0, 1) := by decide +kernel
theorem dX7_takeHandle_43 : decode cX7_takeHandle 43 = .ok (.aload_n 0, 1) := by decide +kernel
theorem dX7_takeHandle_44 : decode cX7_takeHandle 44 = .ok (.getfield 12, 3) := by decide +kernel
theorem dX7_takeHandle_47 : decode cX7_takeHandle 47 = .ok (.getfield 145, 3) := by decide +kernel
theorem dX7_takeHandle_50 : decode cX7_takeHandle 50 = .ok (.iconst 0, 1) := by decide +kernel
theorem dX7_takeHandle_51 : decode cX7_takeHandle 51 = .ok (.iconst 4, 1) := by decide +kernel
theorem dX7_takeHandle_52 : decode cX7_takeHandle 52 = .ok (.invokestatic 181, 3) := by decide +kernel
theorem dX7_takeHandle_55 : decode cX7_takeHandle 55 = .ok (.iconst 1, 1) := by decide +kernel
theorem dX7_takeHandle_56 : decode cX7_takeHandle 56 = .ok (.ireturn, 1) := by decide +kernel
theorem dX7_append_0 : decode cX7_append 0 = .ok (.iload_n 1, 1) := by decide +kernel
theorem dX7_append_1 : decode cX7_append 1 = .ok (.bipush 33, 2) := by decide +kernel
theorem dX7_append_3 : decode cX7_append 3 = .ok (.if_icmp .lt 9, 3) := by decide +kernel
theorem dX7_append_6 : decode cX7_append 6 = .ok (.iload_n 1, 1) := by decide +kernel
theorem dX7_append_7 : decode cX7_append 7 = .ok (.bipush 126, 2) := by decide +kernel
theorem dX7_append_9 : decode cX7_append 9 = .ok (.if_icmp .le 13, 3) := by decide +kernel
theorem dX7_append_12 : decode cX7_append 12 = .ok (.new 70, 3) := by decide +kernel
theorem dX7_append_15 : decode cX7_append 15 = .ok (.dup, 1) := by decide +kernel
theorem dX7_append_16 : decode cX7_append 16 = .ok (.ldc 187, 2) := by decide +kernel
theorem dX7_append_18 : decode cX7_append 18 = .ok (.invokespecial 74, 3) := by decide +kernel
theorem dX7_append_21 : decode cX7_append 21 = .ok (.athrow, 1) := by decide +kernel
theorem dX7_append_22 : decode cX7_append 22 = .ok (.aload_n 0, 1) := by decide +kernel
theorem dX7_append_23 : decode cX7_append 23 = .ok (.getfield 34, 3) := by decide +kernel
theorem dX7_append_26 : decode cX7_append 26 = .ok (.getfield 189, 3) := by decide +kernel
theorem dX7_append_29 : decode cX7_append 29 = .ok (.bipush 60, 2) := by decide +kernel
theorem dX7_append_31 : decode cX7_append 31 = .ok (.if_icmp .lt 13, 3) := by decide +kernel
theorem dX7_append_34 : decode cX7_append 34 = .ok (.new 110, 3) := by decide +kernel
theorem dX7_append_37 : decode cX7_append 37 = .ok (.dup, 1) := by decide +kernel
theorem dX7_append_38 : decode cX7_append 38 = .ok (.ldc 192, 2) := by decide +kernel
theorem dX7_append_40 : decode cX7_append 40 = .ok (.invokespecial 114, 3) := by decide +kernel
theorem dX7_append_43 : decode cX7_append 43 = .ok (.athrow, 1) := by decide +kernel
theorem dX7_append_44 : decode cX7_append 44 = .ok (.aload_n 0, 1) := by decide +kernel
theorem dX7_append_45 : decode cX7_append 45 = .ok (.getfield 34, 3) := by decide +kernel
theorem dX7_append_48 : decode cX7_append 48 = .ok (.getfield 194, 3) := by decide +kernel
theorem dX7_append_51 : decode cX7_append 51 = .ok (.aload_n 0, 1) := by decide +kernel
theorem dX7_append_52 : decode cX7_append 52 = .ok (.getfield 34, 3) := by decide +kernel
theorem dX7_append_55 : decode cX7_append 55 = .ok (.getfield 189, 3) := by decide +kernel
theorem dX7_append_58 : decode cX7_append 58 = .ok (.iload_n 1, 1) := by decide +kernel
theorem dX7_append_59 : decode cX7_append 59 = .ok (.i2c, 1) := by decide +kernel
theorem dX7_append_60 : decode cX7_append 60 = .ok (.castore, 1) := by decide +kernel
theorem dX7_append_61 : decode cX7_append 61 = .ok (.aload_n 0, 1) := by decide +kernel
theorem dX7_append_62 : decode cX7_append 62 = .ok (.getfield 34, 3) := by decide +kernel
theorem dX7_append_65 : decode cX7_append 65 = .ok (.dup, 1) := by decide +kernel
theorem dX7_append_66 : decode cX7_append 66 = .ok (.getfield 189, 3) := by decide +kernel
theorem dX7_append_69 : decode cX7_append 69 = .ok (.iconst 1, 1) := by decide +kernel
theorem dX7_append_70 : decode cX7_append 70 = .ok (.iadd, 1) := by decide +kernel
theorem dX7_append_71 : decode cX7_append 71 = .ok (.putfield 189, 3) := by decide +kernel
theorem dX7_append_74 : decode cX7_append 74 = .ok (.aload_n 0, 1) := by decide +kernel
theorem dX7_append_75 : decode cX7_append 75 = .ok (.getfield 34, 3) := by decide +kernel
theorem dX7_append_78 : decode cX7_append 78 = .ok (.getfield 189, 3) := by decide +kernel
theorem dX7_append_81 : decode cX7_append 81 = .ok (.ireturn, 1) := by decide +kernel
theorem dX7_clearBuffer_0 : decode cX7_clearBuffer 0 = .ok (.aload_n 0, 1) := by decide +kernel
theorem dX7_clearBuffer_1 : decode cX7_clearBuffer 1 = .ok (.getfield 34, 3) := by decide +kernel
theorem dX7_clearBuffer_4 : decode cX7_clearBuffer 4 = .ok (.getfield 189, 3) := by decide +kernel
theorem dX7_clearBuffer_7 : decode cX7_clearBuffer 7 = .ok (.istore_n 1, 1) := by decide +kernel
theorem dX7_clearBuffer_8 : decode cX7_clearBuffer 8 = .ok (.aload_n 0, 1) := by decide +kernel
theorem dX7_clearBuffer_9 : decode cX7_clearBuffer 9 = .ok (.getfield 34, 3) := by decide +kernel
theorem dX7_clearBuffer_12 : decode cX7_clearBuffer 12 = .ok (.iconst 0, 1) := by decide +kernel
theorem dX7_clearBuffer_13 : decode cX7_clearBuffer 13 = .ok (.putfield 189, 3) := by decide +kernel
theorem dX7_clearBuffer_16 : decode cX7_clearBuffer 16 = .ok (.iload_n 1, 1) := by decide +kernel
theorem dX7_clearBuffer_17 : decode cX7_clearBuffer 17 = .ok (.ireturn, 1) := by decide +kernel
theorem dX7_firstError_0 : decode cX7_firstError 0 = .ok (.aload_n 0, 1) := by decide +kernel
theorem dX7_firstError_1 : decode cX7_firstError 1 = .ok (.getfield 34, 3) := by decide +kernel
theorem dX7_firstError_4 : decode cX7_firstError 4 = .ok (.aload_n 0, 1) := by decide +kernel
theorem dX7_firstError_5 : decode cX7_firstError 5 = .ok (.getfield 12, 3) := by decide +kernel
theorem dX7_firstError_8 : decode cX7_firstError 8 = .ok (.getfield 77, 3) := by decide +kernel
theorem dX7_firstError_11 : decode cX7_firstError 11 = .ok (.invokevirtual 198, 3) := by decide +kernel
theorem dX7_firstError_14 : decode cX7_firstError 14 = .ok (.ireturn, 1) := by decide +kernel
theorem dX7_read_0 : decode cX7_read 0 = .ok (.aload_n 0, 1) := by decide +kernel
theorem dX7_read_1 : decode cX7_read 1 = .ok (.getfield 34, 3) := by decide +kernel
theorem dX7_read_4 : decode cX7_read 4 = .ok (.aload_n 0, 1) := by decide +kernel
theorem dX7_read_5 : decode cX7_read 5 = .ok (.getfield 12, 3) := by decide +kernel
theorem dX7_read_8 : decode cX7_read 8 = .ok (.getfield 77, 3) := by decide +kernel
theorem dX7_read_11 : decode cX7_read 11 = .ok (.invokevirtual 202, 3) := by decide +kernel
theorem dX7_read_14 : decode cX7_read 14 = .ok (.ifCond .ne 13, 3) := by decide +kernel
theorem dX7_read_17 : decode cX7_read 17 = .ok (.new 70, 3) := by decide +kernel
theorem dX7_read_20 : decode cX7_read 20 = .ok (.dup, 1) := by decide +kernel
theorem dX7_read_21 : decode cX7_read 21 = .ok (.ldc 206, 2) := by decide +kernel
theorem dX7_read_23 : decode cX7_read 23 = .ok (.invokespecial 74, 3) := by decide +kernel
theorem dX7_read_26 : decode cX7_read 26 = .ok (.athrow, 1) := by decide +kernel
theorem dX7_read_27 : decode cX7_read 27 = .ok (.aload_n 0, 1) := by decide +kernel
theorem dX7_read_28 : decode cX7_read 28 = .ok (.invokevirtual 80, 3) := by decide +kernel
theorem dX7_read_31 : decode cX7_read 31 = .ok (.aload_n 0, 1) := by decide +kernel
theorem dX7_read_32 : decode cX7_read 32 = .ok (.getfield 34, 3) := by decide +kernel
theorem dX7_read_35 : decode cX7_read 35 = .ok (.aload_n 0, 1) := by decide +kernel
theorem dX7_read_36 : decode cX7_read 36 = .ok (.getfield 12, 3) := by decide +kernel
theorem dX7_read_39 : decode cX7_read 39 = .ok (.invokevirtual 208, 3) := by decide +kernel
theorem dX7_read_42 : decode cX7_read 42 = .ok (.aload_n 0, 1) := by decide +kernel
theorem dX7_read_43 : decode cX7_read 43 = .ok (.getfield 34, 3) := by decide +kernel
theorem dX7_read_46 : decode cX7_read 46 = .ok (.iconst 0, 1) := by decide +kernel
theorem dX7_read_47 : decode cX7_read 47 = .ok (.putfield 189, 3) := by decide +kernel
theorem dX7_read_50 : decode cX7_read 50 = .ok (.aload_n 0, 1) := by decide +kernel
theorem dX7_read_51 : decode cX7_read 51 = .ok (.getfield 12, 3) := by decide +kernel
theorem dX7_read_54 : decode cX7_read 54 = .ok (.invokevirtual 97, 3) := by decide +kernel
theorem dX7_read_57 : decode cX7_read 57 = .ok (.ireturn, 1) := by decide +kernel
theorem dX7_take_0 : decode cX7_take 0 = .ok (.aload_n 0, 1) := by decide +kernel
theorem dX7_take_1 : decode cX7_take 1 = .ok (.iload_n 1, 1) := by decide +kernel
theorem dX7_take_2 : decode cX7_take 2 = .ok (.invokevirtual 211, 3) := by decide +kernel
theorem dX7_take_5 : decode cX7_take 5 = .ok (.aload_n 0, 1) := by decide +kernel
theorem dX7_take_6 : decode cX7_take 6 = .ok (.getfield 16, 3) := by decide +kernel
theorem dX7_take_9 : decode cX7_take 9 = .ok (.iload_n 1, 1) := by decide +kernel
theorem dX7_take_10 : decode cX7_take 10 = .ok (.aaload, 1) := by decide +kernel
theorem dX7_take_11 : decode cX7_take 11 = .ok (.aload_n 0, 1) := by decide +kernel
theorem dX7_take_12 : decode cX7_take 12 = .ok (.getfield 12, 3) := by decide +kernel
theorem dX7_take_15 : decode cX7_take 15 = .ok (.invokevirtual 214, 3) := by decide +kernel
theorem dX7_take_18 : decode cX7_take 18 = .ok (.aload_n 0, 1) := by decide +kernel
theorem dX7_take_19 : decode cX7_take 19 = .ok (.getfield 20, 3) := by decide +kernel
theorem dX7_take_22 : decode cX7_take 22 = .ok (.iload_n 1, 1) := by decide +kernel
theorem dX7_take_23 : decode cX7_take 23 = .ok (.iconst 1, 1) := by decide +kernel
theorem dX7_take_24 : decode cX7_take 24 = .ok (.bastore, 1) := by decide +kernel
theorem dX7_take_25 : decode cX7_take 25 = .ok (.aload_n 0, 1) := by decide +kernel
theorem dX7_take_26 : decode cX7_take 26 = .ok (.getfield 12, 3) := by decide +kernel
theorem dX7_take_29 : decode cX7_take 29 = .ok (.getfield 77, 3) := by decide +kernel
theorem dX7_take_32 : decode cX7_take 32 = .ok (.ireturn, 1) := by decide +kernel
theorem dX7_restore_0 : decode cX7_restore 0 = .ok (.aload_n 0, 1) := by decide +kernel
theorem dX7_restore_1 : decode cX7_restore 1 = .ok (.iload_n 1, 1) := by decide +kernel
theorem dX7_restore_2 : decode cX7_restore 2 = .ok (.invokevirtual 118, 3) := by decide +kernel
theorem dX7_restore_5 : decode cX7_restore 5 = .ok (.aload_n 0, 1) := by decide +kernel
theorem dX7_restore_6 : decode cX7_restore 6 = .ok (.invokevirtual 80, 3) := by decide +kernel
theorem dX7_restore_9 : decode cX7_restore 9 = .ok (.aload_n 0, 1) := by decide +kernel
theorem dX7_restore_10 : decode cX7_restore 10 = .ok (.getfield 12, 3) := by decide +kernel
theorem dX7_restore_13 : decode cX7_restore 13 = .ok (.aload_n 0, 1) := by decide +kernel
theorem dX7_restore_14 : decode cX7_restore 14 = .ok (.getfield 16, 3) := by decide +kernel
theorem dX7_restore_17 : decode cX7_restore 17 = .ok (.iload_n 1, 1) := by decide +kernel
theorem dX7_restore_18 : decode cX7_restore 18 = .ok (.aaload, 1) := by decide +kernel
theorem dX7_restore_19 : decode cX7_restore 19 = .ok (.invokevirtual 214, 3) := by decide +kernel
theorem dX7_restore_22 : decode cX7_restore 22 = .ok (.aload_n 0, 1) := by decide +kernel
theorem dX7_restore_23 : decode cX7_restore 23 = .ok (.getfield 12, 3) := by decide +kernel
theorem dX7_restore_26 : decode cX7_restore 26 = .ok (.getfield 77, 3) := by decide +kernel
theorem dX7_restore_29 : decode cX7_restore 29 = .ok (.ireturn, 1) := by decide +kernel
theorem dX7_undo_0 : decode cX7_undo 0 = .ok (.aload_n 0, 1) := by decide +kernel
theorem dX7_undo_1 : decode cX7_undo 1 = .ok (.getfield 27, 3) := by decide +kernel
theorem dX7_undo_4 : decode cX7_undo 4 = .ok (.getfield 217, 3) := by decide +kernel
theorem dX7_undo_7 : decode cX7_undo 7 = .ok (.ifCond .ne 13, 3) := by decide +kernel
theorem dX7_undo_10 : decode cX7_undo 10 = .ok (.new 110, 3) := by decide +kernel
theorem dX7_undo_13 : decode cX7_undo 13 = .ok (.dup, 1) := by decide +kernel
theorem dX7_undo_14 : decode cX7_undo 14 = .ok (.ldc 220, 2) := by decide +kernel
theorem dX7_undo_16 : decode cX7_undo 16 = .ok (.invokespecial 114, 3) := by decide +kernel
theorem dX7_undo_19 : decode cX7_undo 19 = .ok (.athrow, 1) := by decide +kernel
theorem dX7_undo_20 : decode cX7_undo 20 = .ok (.aload_n 0, 1) := by decide +kernel
theorem dX7_undo_21 : decode cX7_undo 21 = .ok (.getfield 12, 3) := by decide +kernel
theorem dX7_undo_24 : decode cX7_undo 24 = .ok (.aload_n 0, 1) := by decide +kernel
theorem dX7_undo_25 : decode cX7_undo 25 = .ok (.getfield 27, 3) := by decide +kernel
theorem dX7_undo_28 : decode cX7_undo 28 = .ok (.invokevirtual 127, 3) := by decide +kernel
theorem dX7_undo_31 : decode cX7_undo 31 = .ok (.invokevirtual 214, 3) := by decide +kernel
theorem dX7_undo_34 : decode cX7_undo 34 = .ok (.aload_n 0, 1) := by decide +kernel
theorem dX7_undo_35 : decode cX7_undo 35 = .ok (.aload_n 0, 1) := by decide +kernel
theorem dX7_undo_36 : decode cX7_undo 36 = .ok (.getfield 27, 3) := by decide +kernel
theorem dX7_undo_39 : decode cX7_undo 39 = .ok (.invokevirtual 222, 3) := by decide +kernel
theorem dX7_undo_42 : decode cX7_undo 42 = .ok (.putfield 66, 3) := by decide +kernel
theorem dX7_undo_45 : decode cX7_undo 45 = .ok (.aload_n 0, 1) := by decide +kernel
theorem dX7_undo_46 : decode cX7_undo 46 = .ok (.getfield 27, 3) := by decide +kernel
theorem dX7_undo_49 : decode cX7_undo 49 = .ok (.invokevirtual 225, 3) := by decide +kernel
theorem dX7_undo_52 : decode cX7_undo 52 = .ok (.aload_n 0, 1) := by decide +kernel
theorem dX7_undo_53 : decode cX7_undo 53 = .ok (.getfield 27, 3) := by decide +kernel
theorem dX7_undo_56 : decode cX7_undo 56 = .ok (.getfield 217, 3) := by decide +kernel
theorem dX7_undo_59 : decode cX7_undo 59 = .ok (.ireturn, 1) := by decide +kernel
theorem dX7_joined_0 : decode cX7_joined 0 = .ok (.aload_n 0, 1) := by decide +kernel
theorem dX7_joined_1 : decode cX7_joined 1 = .ok (.iload_n 1, 1) := by decide +kernel
theorem dX7_joined_2 : decode cX7_joined 2 = .ok (.invokevirtual 87, 3) := by decide +kernel
theorem dX7_joined_5 : decode cX7_joined 5 = .ok (.aload_n 0, 1) := by decide +kernel
theorem dX7_joined_6 : decode cX7_joined 6 = .ok (.iload_n 2, 1) := by decide +kernel
theorem dX7_joined_7 : decode cX7_joined 7 = .ok (.invokevirtual 87, 3) := by decide +kernel
theorem dX7_joined_10 : decode cX7_joined 10 = .ok (.aload_n 0, 1) := by decide +kernel
theorem dX7_joined_11 : decode cX7_joined 11 = .ok (.getfield 12, 3) := by decide +kernel
theorem dX7_joined_14 : decode cX7_joined 14 = .ok (.iload_n 1, 1) := by decide +kernel
theorem dX7_joined_15 : decode cX7_joined 15 = .ok (.iload_n 2, 1) := by decide +kernel
theorem dX7_joined_16 : decode cX7_joined 16 = .ok (.invokevirtual 228, 3) := by decide +kernel
theorem dX7_joined_19 : decode cX7_joined 19 = .ok (.ifCond .eq 7, 3) := by decide +kernel
theorem dX7_joined_22 : decode cX7_joined 22 = .ok (.iconst 1, 1) := by decide +kernel
theorem dX7_joined_23 : decode cX7_joined 23 = .ok (.goto 4, 3) := by decide +kernel
theorem dX7_joined_26 : decode cX7_joined 26 = .ok (.iconst 0, 1) := by decide +kernel
theorem dX7_joined_27 : decode cX7_joined 27 = .ok (.ireturn, 1) := by decide +kernel
theorem dX7_vertex_0 : decode cX7_vertex 0 = .ok (.aload_n 0, 1) := by decide +kernel
theorem dX7_vertex_1 : decode cX7_vertex 1 = .ok (.iload_n 1, 1) := by decide +kernel
theorem dX7_vertex_2 : decode cX7_vertex 2 = .ok (.invokevirtual 87, 3) := by decide +kernel
theorem dX7_vertex_5 : decode cX7_vertex 5 = .ok (.iload_n 2, 1) := by decide +kernel
theorem dX7_vertex_6 : decode cX7_vertex 6 = .ok (.ifCond .lt 20, 3) := by decide +kernel
theorem dX7_vertex_9 : decode cX7_vertex 9 = .ok (.iload_n 2, 1) := by decide +kernel
theorem dX7_vertex_10 : decode cX7_vertex 10 = .ok (.bipush 13, 2) := by decide +kernel
theorem dX7_vertex_12 : decode cX7_vertex 12 = .ok (.if_icmp .gt 14, 3) := by decide +kernel
theorem dX7_vertex_15 : decode cX7_vertex 15 = .ok (.iload_n 2, 1) := by decide +kernel
theorem dX7_vertex_16 : decode cX7_vertex 16 = .ok (.iconst 5, 1) := by decide +kernel
theorem dX7_vertex_17 : decode cX7_vertex 17 = .ok (.if_icmp .le 19, 3) := by decide +kernel
theorem dX7_vertex_20 : decode cX7_vertex 20 = .ok (.iload_n 2, 1) := by decide +kernel
theorem dX7_vertex_21 : decode cX7_vertex 21 = .ok (.bipush 10, 2) := by decide +kernel
theorem dX7_vertex_23 : decode cX7_vertex 23 = .ok (.if_icmp .ge 13, 3) := by decide +kernel
theorem dX7_vertex_26 : decode cX7_vertex 26 = .ok (.new 70, 3) := by decide +kernel
theorem dX7_vertex_29 : decode cX7_vertex 29 = .ok (.dup, 1) := by decide +kernel
theorem dX7_vertex_30 : decode cX7_vertex 30 = .ok (.ldc 232, 2) := by decide +kernel
theorem dX7_vertex_32 : decode cX7_vertex 32 = .ok (.invokespecial 74, 3) := by decide +kernel
theorem dX7_vertex_35 : decode cX7_vertex 35 = .ok (.athrow, 1) := by decide +kernel
theorem dX7_vertex_36 : decode cX7_vertex 36 = .ok (.aload_n 0, 1) := by decide +kernel
theorem dX7_vertex_37 : decode cX7_vertex 37 = .ok (.invokevirtual 234, 3) := by decide +kernel
theorem dX7_vertex_40 : decode cX7_vertex 40 = .ok (.aload_n 0, 1) := by decide +kernel
theorem dX7_vertex_41 : decode cX7_vertex 41 = .ok (.iload_n 1, 1) := by decide +kernel
theorem dX7_vertex_42 : decode cX7_vertex 42 = .ok (.iload_n 2, 1) := by decide +kernel
theorem dX7_vertex_43 : decode cX7_vertex 43 = .ok (.invokevirtual 237, 3) := by decide +kernel
theorem dX7_vertex_46 : decode cX7_vertex 46 = .ok (.ireturn, 1) := by decide +kernel
theorem dX7_handle_0 : decode cX7_handle 0 = .ok (.aload_n 0, 1) := by decide +kernel
theorem dX7_handle_1 : decode cX7_handle 1 = .ok (.iload_n 1, 1) := by decide +kernel
theorem dX7_handle_2 : decode cX7_handle 2 = .ok (.invokevirtual 135, 3) := by decide +kernel
theorem dX7_handle_5 : decode cX7_handle 5 = .ok (.aload_n 0, 1) := by decide +kernel
theorem dX7_handle_6 : decode cX7_handle 6 = .ok (.getfield 12, 3) := by decide +kernel
theorem dX7_handle_9 : decode cX7_handle 9 = .ok (.getfield 145, 3) := by decide +kernel
theorem dX7_handle_12 : decode cX7_handle 12 = .ok (.iload_n 1, 1) := by decide +kernel
theorem dX7_handle_13 : decode cX7_handle 13 = .ok (.iaload, 1) := by decide +kernel
theorem dX7_handle_14 : decode cX7_handle 14 = .ok (.ireturn, 1) := by decide +kernel
theorem dX7_bound_0 : decode cX7_bound 0 = .ok (.iload_n 1, 1) := by decide +kernel
theorem dX7_bound_1 : decode cX7_bound 1 = .ok (.invokestatic 241, 3) := by decide +kernel
theorem dX7_bound_4 : decode cX7_bound 4 = .ok (.aload_n 0, 1) := by decide +kernel
theorem dX7_bound_5 : decode cX7_bound 5 = .ok (.getfield 55, 3) := by decide +kernel
theorem dX7_bound_8 : decode cX7_bound 8 = .ok (.aload_n 0, 1) := by decide +kernel
theorem dX7_bound_9 : decode cX7_bound 9 = .ok (.getfield 12, 3) := by decide +kernel
theorem dX7_bound_12 : decode cX7_bound 12 = .ok (.invokevirtual 244, 3) := by decide +kernel
theorem dX7_bound_15 : decode cX7_bound 15 = .ok (.aload_n 0, 1) := by decide +kernel
theorem dX7_bound_16 : decode cX7_bound 16 = .ok (.getfield 55, 3) := by decide +kernel
theorem dX7_bound_19 : decode cX7_bound 19 = .ok (.iload_n 1, 1) := by decide +kernel
theorem dX7_bound_20 : decode cX7_bound 20 = .ok (.invokevirtual 247, 3) := by decide +kernel
theorem dX7_bound_23 : decode cX7_bound 23 = .ok (.lreturn, 1) := by decide +kernel
theorem dX7_whyNot_0 : decode cX7_whyNot 0 = .ok (.iload_n 1, 1) := by decide +kernel
theorem dX7_whyNot_1 : decode cX7_whyNot 1 = .ok (.invokestatic 241, 3) := by decide +kernel
theorem dX7_whyNot_4 : decode cX7_whyNot 4 = .ok (.aload_n 0, 1) := by decide +kernel
theorem dX7_whyNot_5 : decode cX7_whyNot 5 = .ok (.iload_n 1, 1) := by decide +kernel
theorem dX7_whyNot_6 : decode cX7_whyNot 6 = .ok (.invokevirtual 251, 3) := by decide +kernel
theorem dX7_whyNot_9 : decode cX7_whyNot 9 = .ok (.ireturn, 1) := by decide +kernel
theorem dX7_whyNotMultiply_0 : decode cX7_whyNotMultiply 0 = .ok (.aload_n 0, 1) := by decide +kernel
theorem dX7_whyNotMultiply_1 : decode cX7_whyNotMultiply 1 = .ok (.iload_n 1, 1) := by decide +kernel
theorem dX7_whyNotMultiply_2 : decode cX7_whyNotMultiply 2 = .ok (.invokevirtual 118, 3) := by decide +kernel
theorem dX7_whyNotMultiply_5 : decode cX7_whyNotMultiply 5 = .ok (.aload_n 0, 1) := by decide +kernel
theorem dX7_whyNotMultiply_6 : decode cX7_whyNotMultiply 6 = .ok (.getfield 12, 3) := by decide +kernel
theorem dX7_whyNotMultiply_9 : decode cX7_whyNotMultiply 9 = .ok (.aload_n 0, 1) := by decide +kernel
theorem dX7_whyNotMultiply_10 : decode cX7_whyNotMultiply 10 = .ok (.getfield 16, 3) := by decide +kernel
theorem dX7_whyNotMultiply_13 : decode cX7_whyNotMultiply 13 = .ok (.iload_n 1, 1) := by decide +kernel
theorem dX7_whyNotMultiply_14 : decode cX7_whyNotMultiply 14 = .ok (.aaload, 1) := by decide +kernel
theorem dX7_whyNotMultiply_15 : decode cX7_whyNotMultiply 15 = .ok (.invokestatic 121, 3) := by decide +kernel
theorem dX7_whyNotMultiply_18 : decode cX7_whyNotMultiply 18 = .ok (.ireturn, 1) := by decide +kernel
theorem dX7_bestHandle_0 : decode cX7_bestHandle 0 = .ok (.iload_n 1, 1) := by decide +kernel
theorem dX7_bestHandle_1 : decode cX7_bestHandle 1 = .ok (.invokestatic 164, 3) := by decide +kernel
theorem dX7_bestHandle_4 : decode cX7_bestHandle 4 = .ok (.iload_n 2, 1) := by decide +kernel
theorem dX7_bestHandle_5 : decode cX7_bestHandle 5 = .ok (.ifCond .lt 20, 3) := by decide +kernel
theorem dX7_bestHandle_8 : decode cX7_bestHandle 8 = .ok (.iload_n 2, 1) := by decide +kernel
theorem dX7_bestHandle_9 : decode cX7_bestHandle 9 = .ok (.bipush 13, 2) := by decide +kernel
theorem dX7_bestHandle_11 : decode cX7_bestHandle 11 = .ok (.if_icmp .gt 14, 3) := by decide +kernel
theorem dX7_bestHandle_14 : decode cX7_bestHandle 14 = .ok (.iload_n 2, 1) := by decide +kernel
theorem dX7_bestHandle_15 : decode cX7_bestHandle 15 = .ok (.iconst 1, 1) := by decide +kernel
theorem dX7_bestHandle_16 : decode cX7_bestHandle 16 = .ok (.if_icmp .le 19, 3) := by decide +kernel
theorem dX7_bestHandle_19 : decode cX7_bestHandle 19 = .ok (.iload_n 2, 1) := by decide +kernel
theorem dX7_bestHandle_20 : decode cX7_bestHandle 20 = .ok (.bipush 10, 2) := by decide +kernel
theorem dX7_bestHandle_22 : decode cX7_bestHandle 22 = .ok (.if_icmp .ge 13, 3) := by decide +kernel
theorem dX7_bestHandle_25 : decode cX7_bestHandle 25 = .ok (.new 70, 3) := by decide +kernel
theorem dX7_bestHandle_28 : decode cX7_bestHandle 28 = .ok (.dup, 1) := by decide +kernel
theorem dX7_bestHandle_29 : decode cX7_bestHandle 29 = .ok (.ldc 254, 2) := by decide +kernel
theorem dX7_bestHandle_31 : decode cX7_bestHandle 31 = .ok (.invokespecial 74, 3) := by decide +kernel
theorem dX7_bestHandle_34 : decode cX7_bestHandle 34 = .ok (.athrow, 1) := by decide +kernel
theorem dX7_bestHandle_35 : decode cX7_bestHandle 35 = .ok (.aload_n 0, 1) := by decide +kernel
theorem dX7_bestHandle_36 : decode cX7_bestHandle 36 = .ok (.getfield 62, 3) := by decide +kernel
theorem dX7_bestHandle_39 : decode cX7_bestHandle 39 = .ok (.aload_n 0, 1) := by decide +kernel
theorem dX7_bestHandle_40 : decode cX7_bestHandle 40 = .ok (.getfield 12, 3) := by decide +kernel
theorem dX7_bestHandle_43 : decode cX7_bestHandle 43 = .ok (.iload_n 1, 1) := by decide +kernel
theorem dX7_bestHandle_44 : decode cX7_bestHandle 44 = .ok (.invokevirtual 167, 3) := by decide +kernel
theorem dX7_bestHandle_47 : decode cX7_bestHandle 47 = .ok (.aload_n 0, 1) := by decide +kernel
theorem dX7_bestHandle_48 : decode cX7_bestHandle 48 = .ok (.getfield 62, 3) := by decide +kernel
theorem dX7_bestHandle_51 : decode cX7_bestHandle 51 = .ok (.iload_n 2, 1) := by decide +kernel
theorem dX7_bestHandle_52 : decode cX7_bestHandle 52 = .ok (.invokevirtual 256, 3) := by decide +kernel
theorem dX7_bestHandle_55 : decode cX7_bestHandle 55 = .ok (.lreturn, 1) := by decide +kernel
theorem dX7_count_0 : decode cX7_count 0 = .ok (.iload_n 1, 1) := by decide +kernel
theorem dX7_count_1 : decode cX7_count 1 = .ok (.ifCond .lt 9, 3) := by decide +kernel
theorem dX7_count_4 : decode cX7_count 4 = .ok (.iload_n 1, 1) := by decide +kernel
theorem dX7_count_5 : decode cX7_count 5 = .ok (.bipush 11, 2) := by decide +kernel
theorem dX7_count_7 : decode cX7_count 7 = .ok (.if_icmp .le 14, 3) := by decide +kernel
theorem dX7_count_10 : decode cX7_count 10 = .ok (.new 70, 3) := by decide +kernel
theorem dX7_count_13 : decode cX7_count 13 = .ok (.dup, 1) := by decide +kernel
theorem dX7_count_14 : decode cX7_count 14 = .ok (.ldc_w 259, 3) := by decide +kernel
theorem dX7_count_17 : decode cX7_count 17 = .ok (.invokespecial 74, 3) := by decide +kernel
theorem dX7_count_20 : decode cX7_count 20 = .ok (.athrow, 1) := by decide +kernel
theorem dX7_count_21 : decode cX7_count 21 = .ok (.aload_n 0, 1) := by decide +kernel
theorem dX7_count_22 : decode cX7_count 22 = .ok (.invokevirtual 234, 3) := by decide +kernel
theorem dX7_count_25 : decode cX7_count 25 = .ok (.aload_n 0, 1) := by decide +kernel
theorem dX7_count_26 : decode cX7_count 26 = .ok (.iload_n 1, 1) := by decide +kernel
theorem dX7_count_27 : decode cX7_count 27 = .ok (.invokevirtual 261, 3) := by decide +kernel
theorem dX7_count_30 : decode cX7_count 30 = .ok (.ireturn, 1) := by decide +kernel
theorem dX7_nearness_0 : decode cX7_nearness 0 = .ok (.aload_n 0, 1) := by decide +kernel
theorem dX7_nearness_1 : decode cX7_nearness 1 = .ok (.invokevirtual 234, 3) := by decide +kernel
theorem dX7_nearness_4 : decode cX7_nearness 4 = .ok (.aload_n 0, 1) := by decide +kernel
theorem dX7_nearness_5 : decode cX7_nearness 5 = .ok (.invokevirtual 264, 3) := by decide +kernel
theorem dX7_nearness_8 : decode cX7_nearness 8 = .ok (.dreturn, 1) := by decide +kernel
theorem dX7_digest_0 : decode cX7_digest 0 = .ok (.aload_n 0, 1) := by decide +kernel
theorem dX7_digest_1 : decode cX7_digest 1 = .ok (.invokevirtual 234, 3) := by decide +kernel
theorem dX7_digest_4 : decode cX7_digest 4 = .ok (.ldc2_w 268, 3) := by decide +kernel
theorem dX7_digest_7 : decode cX7_digest 7 = .ok (.lstore_n 1, 1) := by decide +kernel
theorem dX7_digest_8 : decode cX7_digest 8 = .ok (.iconst 0, 1) := by decide +kernel
theorem dX7_digest_9 : decode cX7_digest 9 = .ok (.istore_n 3, 1) := by decide +kernel
theorem dX7_digest_10 : decode cX7_digest 10 = .ok (.iload_n 3, 1) := by decide +kernel
theorem dX7_digest_11 : decode cX7_digest 11 = .ok (.bipush 11, 2) := by decide +kernel
theorem dX7_digest_13 : decode cX7_digest 13 = .ok (.if_icmp .gt 20, 3) := by decide +kernel
theorem dX7_digest_16 : decode cX7_digest 16 = .ok (.lload_n 1, 1) := by decide +kernel
theorem dX7_digest_17 : decode cX7_digest 17 = .ok (.aload_n 0, 1) := by decide +kernel
theorem dX7_digest_18 : decode cX7_digest 18 = .ok (.iload_n 3, 1) := by decide +kernel
theorem dX7_digest_19 : decode cX7_digest 19 = .ok (.invokevirtual 261, 3) := by decide +kernel
theorem dX7_digest_22 : decode cX7_digest 22 = .ok (.i2l, 1) := by decide +kernel
theorem dX7_digest_23 : decode cX7_digest 23 = .ok (.invokestatic 270, 3) := by decide +kernel
theorem dX7_digest_26 : decode cX7_digest 26 = .ok (.lstore_n 1, 1) := by decide +kernel
theorem dX7_digest_27 : decode cX7_digest 27 = .ok (.iinc 3 1, 3) := by decide +kernel
theorem dX7_digest_30 : decode cX7_digest 30 = .ok (.goto (-20), 3) := by decide +kernel
theorem dX7_digest_33 : decode cX7_digest 33 = .ok (.aload_n 0, 1) := by decide +kernel
theorem dX7_digest_34 : decode cX7_digest 34 = .ok (.lload_n 1, 1) := by decide +kernel
theorem dX7_digest_35 : decode cX7_digest 35 = .ok (.invokevirtual 274, 3) := by decide +kernel
theorem dX7_digest_38 : decode cX7_digest 38 = .ok (.lstore_n 1, 1) := by decide +kernel
theorem dX7_digest_39 : decode cX7_digest 39 = .ok (.iconst 0, 1) := by decide +kernel
theorem dX7_digest_40 : decode cX7_digest 40 = .ok (.istore_n 3, 1) := by decide +kernel
theorem dX7_digest_41 : decode cX7_digest 41 = .ok (.iload_n 3, 1) := by decide +kernel
theorem dX7_digest_42 : decode cX7_digest 42 = .ok (.aload_n 0, 1) := by decide +kernel
theorem dX7_digest_43 : decode cX7_digest 43 = .ok (.getfield 12, 3) := by decide +kernel
theorem dX7_digest_46 : decode cX7_digest 46 = .ok (.getfield 155, 3) := by decide +kernel
theorem dX7_digest_49 : decode cX7_digest 49 = .ok (.if_icmp .ge 24, 3) := by decide +kernel
theorem dX7_digest_52 : decode cX7_digest 52 = .ok (.lload_n 1, 1) := by decide +kernel
theorem dX7_digest_53 : decode cX7_digest 53 = .ok (.aload_n 0, 1) := by decide +kernel
theorem dX7_digest_54 : decode cX7_digest 54 = .ok (.getfield 12, 3) := by decide +kernel
theorem dX7_digest_57 : decode cX7_digest 57 = .ok (.getfield 145, 3) := by decide +kernel
theorem dX7_digest_60 : decode cX7_digest 60 = .ok (.iload_n 3, 1) := by decide +kernel
theorem dX7_digest_61 : decode cX7_digest 61 = .ok (.iaload, 1) := by decide +kernel
theorem dX7_digest_62 : decode cX7_digest 62 = .ok (.i2l, 1) := by decide +kernel
theorem dX7_digest_63 : decode cX7_digest 63 = .ok (.invokestatic 270, 3) := by decide +kernel
theorem dX7_digest_66 : decode cX7_digest 66 = .ok (.lstore_n 1, 1) := by decide +kernel
theorem dX7_digest_67 : decode cX7_digest 67 = .ok (.iinc 3 1, 3) := by decide +kernel
theorem dX7_digest_70 : decode cX7_digest 70 = .ok (.goto (-29), 3) := by decide +kernel
theorem dX7_digest_73 : decode cX7_digest 73 = .ok (.aload_n 0, 1) := by decide +kernel
theorem dX7_digest_74 : decode cX7_digest 74 = .ok (.lload_n 1, 1) := by decide +kernel
theorem dX7_digest_75 : decode cX7_digest 75 = .ok (.invokevirtual 278, 3) := by decide +kernel
theorem dX7_digest_78 : decode cX7_digest 78 = .ok (.lstore_n 1, 1) := by decide +kernel
theorem dX7_digest_79 : decode cX7_digest 79 = .ok (.lload_n 1, 1) := by decide +kernel
theorem dX7_digest_80 : decode cX7_digest 80 = .ok (.aload_n 0, 1) := by decide +kernel
theorem dX7_digest_81 : decode cX7_digest 81 = .ok (.invokevirtual 264, 3) := by decide +kernel
theorem dX7_digest_84 : decode cX7_digest 84 = .ok (.invokestatic 281, 3) := by decide +kernel
theorem dX7_digest_87 : decode cX7_digest 87 = .ok (.invokestatic 270, 3) := by decide +kernel
theorem dX7_digest_90 : decode cX7_digest 90 = .ok (.lstore_n 1, 1) := by decide +kernel
theorem dX7_digest_91 : decode cX7_digest 91 = .ok (.lload_n 1, 1) := by decide +kernel
theorem dX7_digest_92 : decode cX7_digest 92 = .ok (.aload_n 0, 1) := by decide +kernel
theorem dX7_digest_93 : decode cX7_digest 93 = .ok (.getfield 34, 3) := by decide +kernel
theorem dX7_digest_96 : decode cX7_digest 96 = .ok (.getfield 189, 3) := by decide +kernel
theorem dX7_digest_99 : decode cX7_digest 99 = .ok (.i2l, 1) := by decide +kernel
theorem dX7_digest_100 : decode cX7_digest 100 = .ok (.invokestatic 270, 3) := by decide +kernel
theorem dX7_digest_103 : decode cX7_digest 103 = .ok (.lstore_n 1, 1) := by decide +kernel
theorem dX7_digest_104 : decode cX7_digest 104 = .ok (.iconst 0, 1) := by decide +kernel
theorem dX7_digest_105 : decode cX7_digest 105 = .ok (.istore_n 3, 1) := by decide +kernel
theorem dX7_digest_106 : decode cX7_digest 106 = .ok (.iload_n 3, 1) := by decide +kernel
theorem dX7_digest_107 : decode cX7_digest 107 = .ok (.aload_n 0, 1) := by decide +kernel
theorem dX7_digest_108 : decode cX7_digest 108 = .ok (.getfield 34, 3) := by decide +kernel
theorem dX7_digest_111 : decode cX7_digest 111 = .ok (.getfield 189, 3) := by decide +kernel
theorem dX7_digest_114 : decode cX7_digest 114 = .ok (.if_icmp .ge 24, 3) := by decide +kernel
theorem dX7_digest_117 : decode cX7_digest 117 = .ok (.lload_n 1, 1) := by decide +kernel
theorem dX7_digest_118 : decode cX7_digest 118 = .ok (.aload_n 0, 1) := by decide +kernel
theorem dX7_digest_119 : decode cX7_digest 119 = .ok (.getfield 34, 3) := by decide +kernel
theorem dX7_digest_122 : decode cX7_digest 122 = .ok (.getfield 194, 3) := by decide +kernel
theorem dX7_digest_125 : decode cX7_digest 125 = .ok (.iload_n 3, 1) := by decide +kernel
theorem dX7_digest_126 : decode cX7_digest 126 = .ok (.caload, 1) := by decide +kernel
theorem dX7_digest_127 : decode cX7_digest 127 = .ok (.i2l, 1) := by decide +kernel
theorem dX7_digest_128 : decode cX7_digest 128 = .ok (.invokestatic 270, 3) := by decide +kernel
theorem dX7_digest_131 : decode cX7_digest 131 = .ok (.lstore_n 1, 1) := by decide +kernel
theorem dX7_digest_132 : decode cX7_digest 132 = .ok (.iinc 3 1, 3) := by decide +kernel
theorem dX7_digest_135 : decode cX7_digest 135 = .ok (.goto (-29), 3) := by decide +kernel
theorem dX7_digest_138 : decode cX7_digest 138 = .ok (.lload_n 1, 1) := by decide +kernel
theorem dX7_digest_139 : decode cX7_digest 139 = .ok (.lreturn, 1) := by decide +kernel
theorem dX7_checkVertex_0 : decode cX7_checkVertex 0 = .ok (.iload_n 1, 1) := by decide +kernel
theorem dX7_checkVertex_1 : decode cX7_checkVertex 1 = .ok (.ifCond .lt 14, 3) := by decide +kernel
theorem dX7_checkVertex_4 : decode cX7_checkVertex 4 = .ok (.iload_n 1, 1) := by decide +kernel
theorem dX7_checkVertex_5 : decode cX7_checkVertex 5 = .ok (.aload_n 0, 1) := by decide +kernel
theorem dX7_checkVertex_6 : decode cX7_checkVertex 6 = .ok (.getfield 12, 3) := by decide +kernel
theorem dX7_checkVertex_9 : decode cX7_checkVertex 9 = .ok (.getfield 77, 3) := by decide +kernel
theorem dX7_checkVertex_12 : decode cX7_checkVertex 12 = .ok (.if_icmp .lt 14, 3) := by decide +kernel
theorem dX7_checkVertex_15 : decode cX7_checkVertex 15 = .ok (.new 285, 3) := by decide +kernel
theorem dX7_checkVertex_18 : decode cX7_checkVertex 18 = .ok (.dup, 1) := by decide +kernel
theorem dX7_checkVertex_19 : decode cX7_checkVertex 19 = .ok (.ldc_w 287, 3) := by decide +kernel
theorem dX7_checkVertex_22 : decode cX7_checkVertex 22 = .ok (.invokespecial 289, 3) := by decide +kernel
theorem dX7_checkVertex_25 : decode cX7_checkVertex 25 = .ok (.athrow, 1) := by decide +kernel
theorem dX7_checkVertex_26 : decode cX7_checkVertex 26 = .ok (.return_, 1) := by decide +kernel
theorem dX7_checkPlace_0 : decode cX7_checkPlace 0 = .ok (.iload_n 1, 1) := by decide +kernel
theorem dX7_checkPlace_1 : decode cX7_checkPlace 1 = .ok (.ifCond .lt 14, 3) := by decide +kernel
theorem dX7_checkPlace_4 : decode cX7_checkPlace 4 = .ok (.iload_n 1, 1) := by decide +kernel
theorem dX7_checkPlace_5 : decode cX7_checkPlace 5 = .ok (.aload_n 0, 1) := by decide +kernel
theorem dX7_checkPlace_6 : decode cX7_checkPlace 6 = .ok (.getfield 12, 3) := by decide +kernel
theorem dX7_checkPlace_9 : decode cX7_checkPlace 9 = .ok (.getfield 155, 3) := by decide +kernel
theorem dX7_checkPlace_12 : decode cX7_checkPlace 12 = .ok (.if_icmp .lt 14, 3) := by decide +kernel
theorem dX7_checkPlace_15 : decode cX7_checkPlace 15 = .ok (.new 285, 3) := by decide +kernel
theorem dX7_checkPlace_18 : decode cX7_checkPlace 18 = .ok (.dup, 1) := by decide +kernel
theorem dX7_checkPlace_19 : decode cX7_checkPlace 19 = .ok (.ldc_w 290, 3) := by decide +kernel
theorem dX7_checkPlace_22 : decode cX7_checkPlace 22 = .ok (.invokespecial 289, 3) := by decide +kernel
theorem dX7_checkPlace_25 : decode cX7_checkPlace 25 = .ok (.athrow, 1) := by decide +kernel
theorem dX7_checkPlace_26 : decode cX7_checkPlace 26 = .ok (.return_, 1) := by decide +kernel
theorem dX7_checkSnapshot_0 : decode cX7_checkSnapshot 0 = .ok (.iload_n 1, 1) := by decide +kernel
theorem dX7_checkSnapshot_1 : decode cX7_checkSnapshot 1 = .ok (.ifCond .lt 8, 3) := by decide +kernel
theorem dX7_checkSnapshot_4 : decode cX7_checkSnapshot 4 = .ok (.iload_n 1, 1) := by decide +kernel
theorem dX7_checkSnapshot_5 : decode cX7_checkSnapshot 5 = .ok (.iconst 2, 1) := by decide +kernel
theorem dX7_checkSnapshot_6 : decode cX7_checkSnapshot 6 = .ok (.if_icmp .lt 14, 3) := by decide +kernel
theorem dX7_checkSnapshot_9 : decode cX7_checkSnapshot 9 = .ok (.new 285, 3) := by decide +kernel
theorem dX7_checkSnapshot_12 : decode cX7_checkSnapshot 12 = .ok (.dup, 1) := by decide +kernel
theorem dX7_checkSnapshot_13 : decode cX7_checkSnapshot 13 = .ok (.ldc_w 292, 3) := by decide +kernel
theorem dX7_checkSnapshot_16 : decode cX7_checkSnapshot 16 = .ok (.invokespecial 289, 3) := by decide +kernel
theorem dX7_checkSnapshot_19 : decode cX7_checkSnapshot 19 = .ok (.athrow, 1) := by decide +kernel
theorem dX7_checkSnapshot_20 : decode cX7_checkSnapshot 20 = .ok (.return_, 1) := by decide +kernel
theorem dX7_checkTaken_0 : decode cX7_checkTaken 0 = .ok (.aload_n 0, 1) := by decide +kernel
theorem dX7_checkTaken_1 : decode cX7_checkTaken 1 = .ok (.iload_n 1, 1) := by decide +kernel
theorem dX7_checkTaken_2 : decode cX7_checkTaken 2 = .ok (.invokevirtual 211, 3) := by decide +kernel
theorem dX7_checkTaken_5 : decode cX7_checkTaken 5 = .ok (.aload_n 0, 1) := by decide +kernel
theorem dX7_checkTaken_6 : decode cX7_checkTaken 6 = .ok (.getfield 20, 3) := by decide +kernel
theorem dX7_checkTaken_9 : decode cX7_checkTaken 9 = .ok (.iload_n 1, 1) := by decide +kernel
theorem dX7_checkTaken_10 : decode cX7_checkTaken 10 = .ok (.baload, 1) := by decide +kernel
theorem dX7_checkTaken_11 : decode cX7_checkTaken 11 = .ok (.ifCond .ne 14, 3) := by decide +kernel
theorem dX7_checkTaken_14 : decode cX7_checkTaken 14 = .ok (.new 110, 3) := by decide +kernel
theorem dX7_checkTaken_17 : decode cX7_checkTaken 17 = .ok (.dup, 1) := by decide +kernel
theorem dX7_checkTaken_18 : decode cX7_checkTaken 18 = .ok (.ldc_w 294, 3) := by decide +kernel
theorem dX7_checkTaken_21 : decode cX7_checkTaken 21 = .ok (.invokespecial 114, 3) := by decide +kernel
theorem dX7_checkTaken_24 : decode cX7_checkTaken 24 = .ok (.athrow, 1) := by decide +kernel
theorem dX7_checkTaken_25 : decode cX7_checkTaken 25 = .ok (.return_, 1) := by decide +kernel
theorem dX7_checkNumber_0 : decode cX7_checkNumber 0 = .ok (.iload_n 0, 1) := by decide +kernel
theorem dX7_checkNumber_1 : decode cX7_checkNumber 1 = .ok (.bipush (-9), 2) := by decide +kernel
theorem dX7_checkNumber_3 : decode cX7_checkNumber 3 = .ok (.if_icmp .lt 9, 3) := by decide +kernel
theorem dX7_checkNumber_6 : decode cX7_checkNumber 6 = .ok (.iload_n 0, 1) := by decide +kernel
theorem dX7_checkNumber_7 : decode cX7_checkNumber 7 = .ok (.bipush 9, 2) := by decide +kernel
theorem dX7_checkNumber_9 : decode cX7_checkNumber 9 = .ok (.if_icmp .le 14, 3) := by decide +kernel
theorem dX7_checkNumber_12 : decode cX7_checkNumber 12 = .ok (.new 70, 3) := by decide +kernel
theorem dX7_checkNumber_15 : decode cX7_checkNumber 15 = .ok (.dup, 1) := by decide +kernel
theorem dX7_checkNumber_16 : decode cX7_checkNumber 16 = .ok (.ldc_w 296, 3) := by decide +kernel
theorem dX7_checkNumber_19 : decode cX7_checkNumber 19 = .ok (.invokespecial 74, 3) := by decide +kernel
theorem dX7_checkNumber_22 : decode cX7_checkNumber 22 = .ok (.athrow, 1) := by decide +kernel
theorem dX7_checkNumber_23 : decode cX7_checkNumber 23 = .ok (.return_, 1) := by decide +kernel
theorem dX7_checkSize_0 : decode cX7_checkSize 0 = .ok (.iload_n 0, 1) := by decide +kernel
theorem dX7_checkSize_1 : decode cX7_checkSize 1 = .ok (.iconst 1, 1) := by decide +kernel
theorem dX7_checkSize_2 : decode cX7_checkSize 2 = .ok (.if_icmp .lt 8, 3) := by decide +kernel
theorem dX7_checkSize_5 : decode cX7_checkSize 5 = .ok (.iload_n 0, 1) := by decide +kernel
theorem dX7_checkSize_6 : decode cX7_checkSize 6 = .ok (.iconst 2, 1) := by decide +kernel
theorem dX7_checkSize_7 : decode cX7_checkSize 7 = .ok (.if_icmp .le 14, 3) := by decide +kernel
theorem dX7_checkSize_10 : decode cX7_checkSize 10 = .ok (.new 70, 3) := by decide +kernel
theorem dX7_checkSize_13 : decode cX7_checkSize 13 = .ok (.dup, 1) := by decide +kernel
theorem dX7_checkSize_14 : decode cX7_checkSize 14 = .ok (.ldc_w 298, 3) := by decide +kernel
theorem dX7_checkSize_17 : decode cX7_checkSize 17 = .ok (.invokespecial 74, 3) := by decide +kernel
theorem dX7_checkSize_20 : decode cX7_checkSize 20 = .ok (.athrow, 1) := by decide +kernel
theorem dX7_checkSize_21 : decode cX7_checkSize 21 = .ok (.return_, 1) := by decide +kernel
theorem dX7_checkPart_0 : decode cX7_checkPart 0 = .ok (.iload_n 0, 1) := by decide +kernel
theorem dX7_checkPart_1 : decode cX7_checkPart 1 = .ok (.ifCond .lt 8, 3) := by decide +kernel
theorem dX7_checkPart_4 : decode cX7_checkPart 4 = .ok (.iload_n 0, 1) := by decide +kernel
theorem dX7_checkPart_5 : decode cX7_checkPart 5 = .ok (.iconst 2, 1) := by decide +kernel
theorem dX7_checkPart_6 : decode cX7_checkPart 6 = .ok (.if_icmp .le 14, 3) := by decide +kernel
theorem dX7_checkPart_9 : decode cX7_checkPart 9 = .ok (.new 70, 3) := by decide +kernel
theorem dX7_checkPart_12 : decode cX7_checkPart 12 = .ok (.dup, 1) := by decide +kernel
theorem dX7_checkPart_13 : decode cX7_checkPart 13 = .ok (.ldc_w 300, 3) := by decide +kernel
theorem dX7_checkPart_16 : decode cX7_checkPart 16 = .ok (.invokespecial 74, 3) := by decide +kernel
theorem dX7_checkPart_19 : decode cX7_checkPart 19 = .ok (.athrow, 1) := by decide +kernel
theorem dX7_checkPart_20 : decode cX7_checkPart 20 = .ok (.return_, 1) := by decide +kernel
theorem dX7_saveState_0 : decode cX7_saveState 0 = .ok (.aload_n 0, 1) := by decide +kernel
theorem dX7_saveState_1 : decode cX7_saveState 1 = .ok (.getfield 27, 3) := by decide +kernel
theorem dX7_saveState_4 : decode cX7_saveState 4 = .ok (.aload_n 0, 1) := by decide +kernel
theorem dX7_saveState_5 : decode cX7_saveState 5 = .ok (.getfield 12, 3) := by decide +kernel
theorem dX7_saveState_8 : decode cX7_saveState 8 = .ok (.aload_n 0, 1) := by decide +kernel
theorem dX7_saveState_9 : decode cX7_saveState 9 = .ok (.getfield 66, 3) := by decide +kernel
theorem dX7_saveState_12 : decode cX7_saveState 12 = .ok (.invokevirtual 302, 3) := by decide +kernel
theorem dX7_saveState_15 : decode cX7_saveState 15 = .ok (.return_, 1) := by decide +kernel
theorem dX7_searchGraph_0 : decode cX7_searchGraph 0 = .ok (.aload_n 0, 1) := by decide +kernel
theorem dX7_searchGraph_1 : decode cX7_searchGraph 1 = .ok (.getfield 41, 3) := by decide +kernel
theorem dX7_searchGraph_4 : decode cX7_searchGraph 4 = .ok (.aload_n 0, 1) := by decide +kernel
theorem dX7_searchGraph_5 : decode cX7_searchGraph 5 = .ok (.getfield 12, 3) := by decide +kernel
theorem dX7_searchGraph_8 : decode cX7_searchGraph 8 = .ok (.invokevirtual 148, 3) := by decide +kernel
theorem dX7_searchGraph_11 : decode cX7_searchGraph 11 = .ok (.aload_n 0, 1) := by decide +kernel
theorem dX7_searchGraph_12 : decode cX7_searchGraph 12 = .ok (.getfield 48, 3) := by decide +kernel
theorem dX7_searchGraph_15 : decode cX7_searchGraph 15 = .ok (.aload_n 0, 1) := by decide +kernel
theorem dX7_searchGraph_16 : decode cX7_searchGraph 16 = .ok (.getfield 12, 3) := by decide +kernel
theorem dX7_searchGraph_19 : decode cX7_searchGraph 19 = .ok (.invokevirtual 305, 3) := by decide +kernel
theorem dX7_searchGraph_22 : decode cX7_searchGraph 22 = .ok (.return_, 1) := by decide +kernel
theorem dX7_propertyOf_0 : decode cX7_propertyOf 0 = .ok (.iload_n 2, 1) := by decide +kernel
theorem dX7_propertyOf_1 : decode cX7_propertyOf 1 = .ok (.tableswitch 132 0 5 #[39, 49, 62, 84, 104, 114], 39) := by decide +kernel
theorem dX7_propertyOf_40 : decode cX7_propertyOf 40 = .ok (.aload_n 0, 1) := by decide +kernel
theorem dX7_propertyOf_41 : decode cX7_propertyOf 41 = .ok (.getfield 12, 3) := by decide +kernel
theorem dX7_propertyOf_44 : decode cX7_propertyOf 44 = .ok (.getfield 103, 3) := by decide +kernel
theorem dX7_propertyOf_47 : decode cX7_propertyOf 47 = .ok (.iload_n 1, 1) := by decide +kernel
theorem dX7_propertyOf_48 : decode cX7_propertyOf 48 = .ok (.iaload, 1) := by decide +kernel
theorem dX7_propertyOf_49 : decode cX7_propertyOf 49 = .ok (.ireturn, 1) := by decide +kernel
theorem dX7_propertyOf_50 : decode cX7_propertyOf 50 = .ok (.aload_n 0, 1) := by decide +kernel
theorem dX7_propertyOf_51 : decode cX7_propertyOf 51 = .ok (.getfield 12, 3) := by decide +kernel
theorem dX7_propertyOf_54 : decode cX7_propertyOf 54 = .ok (.getfield 306, 3) := by decide +kernel
theorem dX7_propertyOf_57 : decode cX7_propertyOf 57 = .ok (.iload_n 1, 1) := by decide +kernel
theorem dX7_propertyOf_58 : decode cX7_propertyOf 58 = .ok (.iaload, 1) := by decide +kernel
theorem dX7_propertyOf_59 : decode cX7_propertyOf 59 = .ok (.invokestatic 309, 3) := by decide +kernel
theorem dX7_propertyOf_62 : decode cX7_propertyOf 62 = .ok (.ireturn, 1) := by decide +kernel
theorem dX7_propertyOf_63 : decode cX7_propertyOf 63 = .ok (.aload_n 0, 1) := by decide +kernel
theorem dX7_propertyOf_64 : decode cX7_propertyOf 64 = .ok (.getfield 12, 3) := by decide +kernel
theorem dX7_propertyOf_67 : decode cX7_propertyOf 67 = .ok (.getfield 141, 3) := by decide +kernel
theorem dX7_propertyOf_70 : decode cX7_propertyOf 70 = .ok (.iload_n 1, 1) := by decide +kernel
theorem dX7_propertyOf_71 : decode cX7_propertyOf 71 = .ok (.aaload, 1) := by decide +kernel
theorem dX7_propertyOf_72 : decode cX7_propertyOf 72 = .ok (.aload_n 0, 1) := by decide +kernel
theorem dX7_propertyOf_73 : decode cX7_propertyOf 73 = .ok (.getfield 12, 3) := by decide +kernel
theorem dX7_propertyOf_76 : decode cX7_propertyOf 76 = .ok (.getfield 141, 3) := by decide +kernel
theorem dX7_propertyOf_79 : decode cX7_propertyOf 79 = .ok (.iload_n 1, 1) := by decide +kernel
theorem dX7_propertyOf_80 : decode cX7_propertyOf 80 = .ok (.aaload, 1) := by decide +kernel
theorem dX7_propertyOf_81 : decode cX7_propertyOf 81 = .ok (.invokestatic 314, 3) := by decide +kernel
theorem dX7_propertyOf_84 : decode cX7_propertyOf 84 = .ok (.ireturn, 1) := by decide +kernel
theorem dX7_propertyOf_85 : decode cX7_propertyOf 85 = .ok (.aload_n 0, 1) := by decide +kernel
theorem dX7_propertyOf_86 : decode cX7_propertyOf 86 = .ok (.getfield 12, 3) := by decide +kernel
theorem dX7_propertyOf_89 : decode cX7_propertyOf 89 = .ok (.getfield 141, 3) := by decide +kernel
theorem dX7_propertyOf_92 : decode cX7_propertyOf 92 = .ok (.iload_n 1, 1) := by decide +kernel
theorem dX7_propertyOf_93 : decode cX7_propertyOf 93 = .ok (.aaload, 1) := by decide +kernel
theorem dX7_propertyOf_94 : decode cX7_propertyOf 94 = .ok (.aload_n 0, 1) := by decide +kernel
theorem dX7_propertyOf_95 : decode cX7_propertyOf 95 = .ok (.getfield 12, 3) := by decide +kernel
theorem dX7_propertyOf_98 : decode cX7_propertyOf 98 = .ok (.getfield 145, 3) := by decide +kernel
theorem dX7_propertyOf_101 : decode cX7_propertyOf 101 = .ok (.invokestatic 314, 3) := by decide +kernel
theorem dX7_propertyOf_104 : decode cX7_propertyOf 104 = .ok (.ireturn, 1) := by decide +kernel
theorem dX7_propertyOf_105 : decode cX7_propertyOf 105 = .ok (.aload_n 0, 1) := by decide +kernel
theorem dX7_propertyOf_106 : decode cX7_propertyOf 106 = .ok (.getfield 41, 3) := by decide +kernel
theorem dX7_propertyOf_109 : decode cX7_propertyOf 109 = .ok (.getfield 318, 3) := by decide +kernel
theorem dX7_propertyOf_112 : decode cX7_propertyOf 112 = .ok (.iload_n 1, 1) := by decide +kernel
theorem dX7_propertyOf_113 : decode cX7_propertyOf 113 = .ok (.iaload, 1) := by decide +kernel
theorem dX7_propertyOf_114 : decode cX7_propertyOf 114 = .ok (.ireturn, 1) := by decide +kernel
theorem dX7_propertyOf_115 : decode cX7_propertyOf 115 = .ok (.aload_n 0, 1) := by decide +kernel
theorem dX7_propertyOf_116 : decode cX7_propertyOf 116 = .ok (.getfield 48, 3) := by decide +kernel
theorem dX7_propertyOf_119 : decode cX7_propertyOf 119 = .ok (.aload_n 0, 1) := by decide +kernel
theorem dX7_propertyOf_120 : decode cX7_propertyOf 120 = .ok (.getfield 48, 3) := by decide +kernel
theorem dX7_propertyOf_123 : decode cX7_propertyOf 123 = .ok (.iconst 1, 1) := by decide +kernel
theorem dX7_propertyOf_124 : decode cX7_propertyOf 124 = .ok (.iload_n 1, 1) := by decide +kernel
theorem dX7_propertyOf_125 : decode cX7_propertyOf 125 = .ok (.ishl, 1) := by decide +kernel
theorem dX7_propertyOf_126 : decode cX7_propertyOf 126 = .ok (.invokevirtual 321, 3) := by decide +kernel
theorem dX7_propertyOf_129 : decode cX7_propertyOf 129 = .ok (.invokevirtual 324, 3) := by decide +kernel
theorem dX7_propertyOf_132 : decode cX7_propertyOf 132 = .ok (.ireturn, 1) := by decide +kernel
theorem dX7_propertyOf_133 : decode cX7_propertyOf 133 = .ok (.aload_n 0, 1) := by decide +kernel
theorem dX7_propertyOf_134 : decode cX7_propertyOf 134 = .ok (.getfield 12, 3) := by decide +kernel
theorem dX7_propertyOf_137 : decode cX7_propertyOf 137 = .ok (.getfield 141, 3) := by decide +kernel
theorem dX7_propertyOf_140 : decode cX7_propertyOf 140 = .ok (.iload_n 1, 1) := by decide +kernel
theorem dX7_propertyOf_141 : decode cX7_propertyOf 141 = .ok (.aaload, 1) := by decide +kernel
theorem dX7_propertyOf_142 : decode cX7_propertyOf 142 = .ok (.iload_n 2, 1) := by decide +kernel
theorem dX7_propertyOf_143 : decode cX7_propertyOf 143 = .ok (.bipush 10, 2) := by decide +kernel
theorem dX7_propertyOf_145 : decode cX7_propertyOf 145 = .ok (.isub, 1) := by decide +kernel
theorem dX7_propertyOf_146 : decode cX7_propertyOf 146 = .ok (.iaload, 1) := by decide +kernel
theorem dX7_propertyOf_147 : decode cX7_propertyOf 147 = .ok (.ireturn, 1) := by decide +kernel
theorem dX7_numberOf_0 : decode cX7_numberOf 0 = .ok (.iload_n 1, 1) := by decide +kernel
theorem dX7_numberOf_1 : decode cX7_numberOf 1 = .ok (.tableswitch 160 0 10 #[59, 67, 75, 83, 99, 108, 116, 124, 132, 150, 155], 59) := by decide +kernel
theorem dX7_numberOf_60 : decode cX7_numberOf 60 = .ok (.aload_n 0, 1) := by decide +kernel
theorem dX7_numberOf_61 : decode cX7_numberOf 61 = .ok (.getfield 12, 3) := by decide +kernel
theorem dX7_numberOf_64 : decode cX7_numberOf 64 = .ok (.getfield 77, 3) := by decide +kernel
theorem dX7_numberOf_67 : decode cX7_numberOf 67 = .ok (.ireturn, 1) := by decide +kernel
theorem dX7_numberOf_68 : decode cX7_numberOf 68 = .ok (.aload_n 0, 1) := by decide +kernel
theorem dX7_numberOf_69 : decode cX7_numberOf 69 = .ok (.getfield 12, 3) := by decide +kernel
theorem dX7_numberOf_72 : decode cX7_numberOf 72 = .ok (.getfield 155, 3) := by decide +kernel
theorem dX7_numberOf_75 : decode cX7_numberOf 75 = .ok (.ireturn, 1) := by decide +kernel
theorem dX7_numberOf_76 : decode cX7_numberOf 76 = .ok (.aload_n 0, 1) := by decide +kernel
theorem dX7_numberOf_77 : decode cX7_numberOf 77 = .ok (.getfield 12, 3) := by decide +kernel
theorem dX7_numberOf_80 : decode cX7_numberOf 80 = .ok (.invokevirtual 97, 3) := by decide +kernel
theorem dX7_numberOf_83 : decode cX7_numberOf 83 = .ok (.ireturn, 1) := by decide +kernel
theorem dX7_numberOf_84 : decode cX7_numberOf 84 = .ok (.aload_n 0, 1) := by decide +kernel
theorem dX7_numberOf_85 : decode cX7_numberOf 85 = .ok (.getfield 48, 3) := by decide +kernel
theorem dX7_numberOf_88 : decode cX7_numberOf 88 = .ok (.aload_n 0, 1) := by decide +kernel
theorem dX7_numberOf_89 : decode cX7_numberOf 89 = .ok (.getfield 48, 3) := by decide +kernel
theorem dX7_numberOf_92 : decode cX7_numberOf 92 = .ok (.iconst 0, 1) := by decide +kernel
theorem dX7_numberOf_93 : decode cX7_numberOf 93 = .ok (.invokevirtual 321, 3) := by decide +kernel
theorem dX7_numberOf_96 : decode cX7_numberOf 96 = .ok (.invokevirtual 324, 3) := by decide +kernel
theorem dX7_numberOf_99 : decode cX7_numberOf 99 = .ok (.ireturn, 1) := by decide +kernel
theorem dX7_numberOf_100 : decode cX7_numberOf 100 = .ok (.aload_n 0, 1) := by decide +kernel
theorem dX7_numberOf_101 : decode cX7_numberOf 101 = .ok (.getfield 48, 3) := by decide +kernel
theorem dX7_numberOf_104 : decode cX7_numberOf 104 = .ok (.iconst 0, 1) := by decide +kernel
theorem dX7_numberOf_105 : decode cX7_numberOf 105 = .ok (.invokevirtual 321, 3) := by decide +kernel
theorem dX7_numberOf_108 : decode cX7_numberOf 108 = .ok (.ireturn, 1) := by decide +kernel
theorem dX7_numberOf_109 : decode cX7_numberOf 109 = .ok (.aload_n 0, 1) := by decide +kernel
theorem dX7_numberOf_110 : decode cX7_numberOf 110 = .ok (.getfield 48, 3) := by decide +kernel
theorem dX7_numberOf_113 : decode cX7_numberOf 113 = .ok (.invokevirtual 327, 3) := by decide +kernel
theorem dX7_numberOf_116 : decode cX7_numberOf 116 = .ok (.ireturn, 1) := by decide +kernel
theorem dX7_numberOf_117 : decode cX7_numberOf 117 = .ok (.aload_n 0, 1) := by decide +kernel
theorem dX7_numberOf_118 : decode cX7_numberOf 118 = .ok (.getfield 41, 3) := by decide +kernel
theorem dX7_numberOf_121 : decode cX7_numberOf 121 = .ok (.getfield 152, 3) := by decide +kernel
theorem dX7_numberOf_124 : decode cX7_numberOf 124 = .ok (.ireturn, 1) := by decide +kernel
theorem dX7_numberOf_125 : decode cX7_numberOf 125 = .ok (.aload_n 0, 1) := by decide +kernel
theorem dX7_numberOf_126 : decode cX7_numberOf 126 = .ok (.getfield 12, 3) := by decide +kernel
theorem dX7_numberOf_129 : decode cX7_numberOf 129 = .ok (.invokevirtual 330, 3) := by decide +kernel
theorem dX7_numberOf_132 : decode cX7_numberOf 132 = .ok (.ireturn, 1) := by decide +kernel
theorem dX7_numberOf_133 : decode cX7_numberOf 133 = .ok (.aload_n 0, 1) := by decide +kernel
theorem dX7_numberOf_134 : decode cX7_numberOf 134 = .ok (.getfield 12, 3) := by decide +kernel
theorem dX7_numberOf_137 : decode cX7_numberOf 137 = .ok (.getfield 145, 3) := by decide +kernel
theorem dX7_numberOf_140 : decode cX7_numberOf 140 = .ok (.aload_n 0, 1) := by decide +kernel
theorem dX7_numberOf_141 : decode cX7_numberOf 141 = .ok (.getfield 12, 3) := by decide +kernel
theorem dX7_numberOf_144 : decode cX7_numberOf 144 = .ok (.getfield 145, 3) := by decide +kernel
theorem dX7_numberOf_147 : decode cX7_numberOf 147 = .ok (.invokestatic 314, 3) := by decide +kernel
theorem dX7_numberOf_150 : decode cX7_numberOf 150 = .ok (.ireturn, 1) := by decide +kernel
theorem dX7_numberOf_151 : decode cX7_numberOf 151 = .ok (.aload_n 0, 1) := by decide +kernel
theorem dX7_numberOf_152 : decode cX7_numberOf 152 = .ok (.getfield 66, 3) := by decide +kernel
theorem dX7_numberOf_155 : decode cX7_numberOf 155 = .ok (.ireturn, 1) := by decide +kernel
theorem dX7_numberOf_156 : decode cX7_numberOf 156 = .ok (.aload_n 0, 1) := by decide +kernel
theorem dX7_numberOf_157 : decode cX7_numberOf 157 = .ok (.invokevirtual 333, 3) := by decide +kernel
theorem dX7_numberOf_160 : decode cX7_numberOf 160 = .ok (.ireturn, 1) := by decide +kernel
theorem dX7_numberOf_161 : decode cX7_numberOf 161 = .ok (.aload_n 0, 1) := by decide +kernel
theorem dX7_numberOf_162 : decode cX7_numberOf 162 = .ok (.getfield 27, 3) := by decide +kernel
theorem dX7_numberOf_165 : decode cX7_numberOf 165 = .ok (.getfield 217, 3) := by decide +kernel
theorem dX7_numberOf_168 : decode cX7_numberOf 168 = .ok (.ireturn, 1) := by decide +kernel
theorem dX7_takenSnapshots_0 : decode cX7_takenSnapshots 0 = .ok (.iconst 0, 1) := by decide +kernel
theorem dX7_takenSnapshots_1 : decode cX7_takenSnapshots 1 = .ok (.istore_n 1, 1) := by decide +kernel
theorem dX7_takenSnapshots_2 : decode cX7_takenSnapshots 2 = .ok (.iconst 0, 1) := by decide +kernel
theorem dX7_takenSnapshots_3 : decode cX7_takenSnapshots 3 = .ok (.istore_n 2, 1) := by decide +kernel
theorem dX7_takenSnapshots_4 : decode cX7_takenSnapshots 4 = .ok (.iload_n 2, 1) := by decide +kernel
theorem dX7_takenSnapshots_5 : decode cX7_takenSnapshots 5 = .ok (.iconst 2, 1) := by decide +kernel
theorem dX7_takenSnapshots_6 : decode cX7_takenSnapshots 6 = .ok (.if_icmp .ge 26, 3) := by decide +kernel
theorem dX7_takenSnapshots_9 : decode cX7_takenSnapshots 9 = .ok (.iload_n 1, 1) := by decide +kernel
theorem dX7_takenSnapshots_10 : decode cX7_takenSnapshots 10 = .ok (.aload_n 0, 1) := by decide +kernel
theorem dX7_takenSnapshots_11 : decode cX7_takenSnapshots 11 = .ok (.getfield 20, 3) := by decide +kernel
theorem dX7_takenSnapshots_14 : decode cX7_takenSnapshots 14 = .ok (.iload_n 2, 1) := by decide +kernel
theorem dX7_takenSnapshots_15 : decode cX7_takenSnapshots 15 = .ok (.baload, 1) := by decide +kernel
theorem dX7_takenSnapshots_16 : decode cX7_takenSnapshots 16 = .ok (.ifCond .eq 7, 3) := by decide +kernel
theorem dX7_takenSnapshots_19 : decode cX7_takenSnapshots 19 = .ok (.iconst 1, 1) := by decide +kernel
theorem dX7_takenSnapshots_20 : decode cX7_takenSnapshots 20 = .ok (.goto 4, 3) := by decide +kernel
theorem dX7_takenSnapshots_23 : decode cX7_takenSnapshots 23 = .ok (.iconst 0, 1) := by decide +kernel
theorem dX7_takenSnapshots_24 : decode cX7_takenSnapshots 24 = .ok (.iadd, 1) := by decide +kernel
theorem dX7_takenSnapshots_25 : decode cX7_takenSnapshots 25 = .ok (.istore_n 1, 1) := by decide +kernel
theorem dX7_takenSnapshots_26 : decode cX7_takenSnapshots 26 = .ok (.iinc 2 1, 3) := by decide +kernel
theorem dX7_takenSnapshots_29 : decode cX7_takenSnapshots 29 = .ok (.goto (-25), 3) := by decide +kernel
theorem dX7_takenSnapshots_32 : decode cX7_takenSnapshots 32 = .ok (.iload_n 1, 1) := by decide +kernel
theorem dX7_takenSnapshots_33 : decode cX7_takenSnapshots 33 = .ok (.ireturn, 1) := by decide +kernel
theorem dX7_share_0 : decode cX7_share 0 = .ok (.aload_n 0, 1) := by decide +kernel
theorem dX7_share_1 : decode cX7_share 1 = .ok (.getfield 55, 3) := by decide +kernel
theorem dX7_share_4 : decode cX7_share 4 = .ok (.aload_n 0, 1) := by decide +kernel
theorem dX7_share_5 : decode cX7_share 5 = .ok (.getfield 12, 3) := by decide +kernel
theorem dX7_share_8 : decode cX7_share 8 = .ok (.invokevirtual 244, 3) := by decide +kernel
theorem dX7_share_11 : decode cX7_share 11 = .ok (.aload_n 0, 1) := by decide +kernel
theorem dX7_share_12 : decode cX7_share 12 = .ok (.getfield 55, 3) := by decide +kernel
theorem dX7_share_15 : decode cX7_share 15 = .ok (.getfield 336, 3) := by decide +kernel
theorem dX7_share_18 : decode cX7_share 18 = .ok (.lconst 0, 1) := by decide +kernel
theorem dX7_share_19 : decode cX7_share 19 = .ok (.lcmp, 1) := by decide +kernel
theorem dX7_share_20 : decode cX7_share 20 = .ok (.ifCond .gt 5, 3) := by decide +kernel
theorem dX7_share_23 : decode cX7_share 23 = .ok (.dconst 0, 1) := by decide +kernel
theorem dX7_share_24 : decode cX7_share 24 = .ok (.dreturn, 1) := by decide +kernel
theorem dX7_share_25 : decode cX7_share 25 = .ok (.aload_n 0, 1) := by decide +kernel
theorem dX7_share_26 : decode cX7_share 26 = .ok (.getfield 48, 3) := by decide +kernel
theorem dX7_share_29 : decode cX7_share 29 = .ok (.aload_n 0, 1) := by decide +kernel
theorem dX7_share_30 : decode cX7_share 30 = .ok (.getfield 48, 3) := by decide +kernel
theorem dX7_share_33 : decode cX7_share 33 = .ok (.iconst 0, 1) := by decide +kernel
theorem dX7_share_34 : decode cX7_share 34 = .ok (.invokevirtual 321, 3) := by decide +kernel
theorem dX7_share_37 : decode cX7_share 37 = .ok (.invokevirtual 324, 3) := by decide +kernel
theorem dX7_share_40 : decode cX7_share 40 = .ok (.i2d, 1) := by decide +kernel
theorem dX7_share_41 : decode cX7_share 41 = .ok (.dstore_n 1, 1) := by decide +kernel
theorem dX7_share_42 : decode cX7_share 42 = .ok (.dload_n 1, 1) := by decide +kernel
theorem dX7_share_43 : decode cX7_share 43 = .ok (.aload_n 0, 1) := by decide +kernel
theorem dX7_share_44 : decode cX7_share 44 = .ok (.getfield 55, 3) := by decide +kernel
theorem dX7_share_47 : decode cX7_share 47 = .ok (.getfield 340, 3) := by decide +kernel
theorem dX7_share_50 : decode cX7_share 50 = .ok (.l2d, 1) := by decide +kernel
theorem dX7_share_51 : decode cX7_share 51 = .ok (.dmul, 1) := by decide +kernel
theorem dX7_share_52 : decode cX7_share 52 = .ok (.aload_n 0, 1) := by decide +kernel
theorem dX7_share_53 : decode cX7_share 53 = .ok (.getfield 55, 3) := by decide +kernel
theorem dX7_share_56 : decode cX7_share 56 = .ok (.getfield 336, 3) := by decide +kernel
theorem dX7_share_59 : decode cX7_share 59 = .ok (.l2d, 1) := by decide +kernel
theorem dX7_share_60 : decode cX7_share 60 = .ok (.ddiv, 1) := by decide +kernel
theorem dX7_share_61 : decode cX7_share 61 = .ok (.dreturn, 1) := by decide +kernel
theorem dX7_whyNoBound_0 : decode cX7_whyNoBound 0 = .ok (.aload_n 0, 1) := by decide +kernel
theorem dX7_whyNoBound_1 : decode cX7_whyNoBound 1 = .ok (.getfield 12, 3) := by decide +kernel
theorem dX7_whyNoBound_4 : decode cX7_whyNoBound 4 = .ok (.invokevirtual 343, 3) := by decide +kernel
theorem dX7_whyNoBound_7 : decode cX7_whyNoBound 7 = .ok (.istore_n 2, 1) := by decide +kernel
theorem dX7_whyNoBound_8 : decode cX7_whyNoBound 8 = .ok (.iload_n 2, 1) := by decide +kernel
theorem dX7_whyNoBound_9 : decode cX7_whyNoBound 9 = .ok (.iconst (-1), 1) := by decide +kernel
theorem dX7_whyNoBound_10 : decode cX7_whyNoBound 10 = .ok (.if_icmp .eq 29, 3) := by decide +kernel
theorem dX7_whyNoBound_13 : decode cX7_whyNoBound 13 = .ok (.iload_n 1, 1) := by decide +kernel
theorem dX7_whyNoBound_14 : decode cX7_whyNoBound 14 = .ok (.ifCond .ne 7, 3) := by decide +kernel
theorem dX7_whyNoBound_17 : decode cX7_whyNoBound 17 = .ok (.iconst 1, 1) := by decide +kernel
theorem dX7_whyNoBound_18 : decode cX7_whyNoBound 18 = .ok (.goto 20, 3) := by decide +kernel
theorem dX7_whyNoBound_21 : decode cX7_whyNoBound 21 = .ok (.iload_n 1, 1) := by decide +kernel
theorem dX7_whyNoBound_22 : decode cX7_whyNoBound 22 = .ok (.iconst 1, 1) := by decide +kernel
theorem dX7_whyNoBound_23 : decode cX7_whyNoBound 23 = .ok (.if_icmp .ne 7, 3) := by decide +kernel
theorem dX7_whyNoBound_26 : decode cX7_whyNoBound 26 = .ok (.iload_n 2, 1) := by decide +kernel
theorem dX7_whyNoBound_27 : decode cX7_whyNoBound 27 = .ok (.goto 11, 3) := by decide +kernel
theorem dX7_whyNoBound_30 : decode cX7_whyNoBound 30 = .ok (.aload_n 0, 1) := by decide +kernel
theorem dX7_whyNoBound_31 : decode cX7_whyNoBound 31 = .ok (.getfield 12, 3) := by decide +kernel
theorem dX7_whyNoBound_34 : decode cX7_whyNoBound 34 = .ok (.iload_n 2, 1) := by decide +kernel
theorem dX7_whyNoBound_35 : decode cX7_whyNoBound 35 = .ok (.invokevirtual 346, 3) := by decide +kernel
theorem dX7_whyNoBound_38 : decode cX7_whyNoBound 38 = .ok (.ireturn, 1) := by decide +kernel
theorem dX7_whyNoBound_39 : decode cX7_whyNoBound 39 = .ok (.aload_n 0, 1) := by decide +kernel
theorem dX7_whyNoBound_40 : decode cX7_whyNoBound 40 = .ok (.getfield 12, 3) := by decide +kernel
theorem dX7_whyNoBound_43 : decode cX7_whyNoBound 43 = .ok (.aload_n 0, 1) := by decide +kernel
theorem dX7_whyNoBound_44 : decode cX7_whyNoBound 44 = .ok (.getfield 12, 3) := by decide +kernel
theorem dX7_whyNoBound_47 : decode cX7_whyNoBound 47 = .ok (.getfield 145, 3) := by decide +kernel
theorem dX7_whyNoBound_50 : decode cX7_whyNoBound 50 = .ok (.invokevirtual 349, 3) := by decide +kernel
theorem dX7_whyNoBound_53 : decode cX7_whyNoBound 53 = .ok (.istore_n 3, 1) := by decide +kernel
theorem dX7_whyNoBound_54 : decode cX7_whyNoBound 54 = .ok (.iload_n 3, 1) := by decide +kernel
theorem dX7_whyNoBound_55 : decode cX7_whyNoBound 55 = .ok (.iconst (-1), 1) := by decide +kernel
theorem dX7_whyNoBound_56 : decode cX7_whyNoBound 56 = .ok (.if_icmp .eq 22, 3) := by decide +kernel
theorem dX7_whyNoBound_59 : decode cX7_whyNoBound 59 = .ok (.iload_n 1, 1) := by decide +kernel
theorem dX7_whyNoBound_60 : decode cX7_whyNoBound 60 = .ok (.ifCond .ne 7, 3) := by decide +kernel
theorem dX7_whyNoBound_63 : decode cX7_whyNoBound 63 = .ok (.iconst 2, 1) := by decide +kernel
theorem dX7_whyNoBound_64 : decode cX7_whyNoBound 64 = .ok (.goto 13, 3) := by decide +kernel
theorem dX7_whyNoBound_67 : decode cX7_whyNoBound 67 = .ok (.iload_n 1, 1) := by decide +kernel
theorem dX7_whyNoBound_68 : decode cX7_whyNoBound 68 = .ok (.iconst 1, 1) := by decide +kernel
theorem dX7_whyNoBound_69 : decode cX7_whyNoBound 69 = .ok (.if_icmp .ne 7, 3) := by decide +kernel
theorem dX7_whyNoBound_72 : decode cX7_whyNoBound 72 = .ok (.iload_n 3, 1) := by decide +kernel
theorem dX7_whyNoBound_73 : decode cX7_whyNoBound 73 = .ok (.goto 4, 3) := by decide +kernel
theorem dX7_whyNoBound_76 : decode cX7_whyNoBound 76 = .ok (.iconst (-1), 1) := by decide +kernel
theorem dX7_whyNoBound_77 : decode cX7_whyNoBound 77 = .ok (.ireturn, 1) := by decide +kernel
theorem dX7_whyNoBound_78 : decode cX7_whyNoBound 78 = .ok (.iload_n 1, 1) := by decide +kernel
theorem dX7_whyNoBound_79 : decode cX7_whyNoBound 79 = .ok (.ifCond .ne 7, 3) := by decide +kernel
theorem dX7_whyNoBound_82 : decode cX7_whyNoBound 82 = .ok (.iconst 0, 1) := by decide +kernel
theorem dX7_whyNoBound_83 : decode cX7_whyNoBound 83 = .ok (.goto 4, 3) := by decide +kernel
theorem dX7_whyNoBound_86 : decode cX7_whyNoBound 86 = .ok (.iconst (-1), 1) := by decide +kernel
theorem dX7_whyNoBound_87 : decode cX7_whyNoBound 87 = .ok (.ireturn, 1) := by decide +kernel
theorem dX7_reasonAgainst_0 : decode cX7_reasonAgainst 0 = .ok (.aload_n 0, 1) := by decide +kernel
theorem dX7_reasonAgainst_1 : decode cX7_reasonAgainst 1 = .ok (.getfield 77, 3) := by decide +kernel
theorem dX7_reasonAgainst_4 : decode cX7_reasonAgainst 4 = .ok (.aload_n 1, 1) := by decide +kernel
theorem dX7_reasonAgainst_5 : decode cX7_reasonAgainst 5 = .ok (.getfield 77, 3) := by decide +kernel
theorem dX7_reasonAgainst_8 : decode cX7_reasonAgainst 8 = .ok (.imul, 1) := by decide +kernel
theorem dX7_reasonAgainst_9 : decode cX7_reasonAgainst 9 = .ok (.bipush 8, 2) := by decide +kernel
theorem dX7_reasonAgainst_11 : decode cX7_reasonAgainst 11 = .ok (.if_icmp .le 5, 3) := by decide +kernel
theorem dX7_reasonAgainst_14 : decode cX7_reasonAgainst 14 = .ok (.iconst 1, 1) := by decide +kernel
theorem dX7_reasonAgainst_15 : decode cX7_reasonAgainst 15 = .ok (.ireturn, 1) := by decide +kernel
theorem dX7_reasonAgainst_16 : decode cX7_reasonAgainst 16 = .ok (.aload_n 0, 1) := by decide +kernel
theorem dX7_reasonAgainst_17 : decode cX7_reasonAgainst 17 = .ok (.getfield 155, 3) := by decide +kernel
theorem dX7_reasonAgainst_20 : decode cX7_reasonAgainst 20 = .ok (.aload_n 1, 1) := by decide +kernel
theorem dX7_reasonAgainst_21 : decode cX7_reasonAgainst 21 = .ok (.getfield 155, 3) := by decide +kernel
theorem dX7_reasonAgainst_24 : decode cX7_reasonAgainst 24 = .ok (.imul, 1) := by decide +kernel
theorem dX7_reasonAgainst_25 : decode cX7_reasonAgainst 25 = .ok (.iconst 4, 1) := by decide +kernel
theorem dX7_reasonAgainst_26 : decode cX7_reasonAgainst 26 = .ok (.if_icmp .le 5, 3) := by decide +kernel
theorem dX7_reasonAgainst_29 : decode cX7_reasonAgainst 29 = .ok (.iconst 2, 1) := by decide +kernel
theorem dX7_reasonAgainst_30 : decode cX7_reasonAgainst 30 = .ok (.ireturn, 1) := by decide +kernel
theorem dX7_reasonAgainst_31 : decode cX7_reasonAgainst 31 = .ok (.aload_n 0, 1) := by decide +kernel
theorem dX7_reasonAgainst_32 : decode cX7_reasonAgainst 32 = .ok (.invokevirtual 353, 3) := by decide +kernel
theorem dX7_reasonAgainst_35 : decode cX7_reasonAgainst 35 = .ok (.aload_n 1, 1) := by decide +kernel
theorem dX7_reasonAgainst_36 : decode cX7_reasonAgainst 36 = .ok (.invokevirtual 353, 3) := by decide +kernel
theorem dX7_reasonAgainst_39 : decode cX7_reasonAgainst 39 = .ok (.imul, 1) := by decide +kernel
theorem dX7_reasonAgainst_40 : decode cX7_reasonAgainst 40 = .ok (.bipush 9, 2) := by decide +kernel
theorem dX7_reasonAgainst_42 : decode cX7_reasonAgainst 42 = .ok (.if_icmp .le 5, 3) := by decide +kernel
theorem dX7_reasonAgainst_45 : decode cX7_reasonAgainst 45 = .ok (.iconst 3, 1) := by decide +kernel
theorem dX7_reasonAgainst_46 : decode cX7_reasonAgainst 46 = .ok (.ireturn, 1) := by decide +kernel
theorem dX7_reasonAgainst_47 : decode cX7_reasonAgainst 47 = .ok (.aload_n 0, 1) := by decide +kernel
theorem dX7_reasonAgainst_48 : decode cX7_reasonAgainst 48 = .ok (.invokevirtual 356, 3) := by decide +kernel
theorem dX7_reasonAgainst_51 : decode cX7_reasonAgainst 51 = .ok (.aload_n 1, 1) := by decide +kernel
theorem dX7_reasonAgainst_52 : decode cX7_reasonAgainst 52 = .ok (.invokevirtual 356, 3) := by decide +kernel
theorem dX7_reasonAgainst_55 : decode cX7_reasonAgainst 55 = .ok (.imul, 1) := by decide +kernel
theorem dX7_reasonAgainst_56 : decode cX7_reasonAgainst 56 = .ok (.bipush 9, 2) := by decide +kernel
theorem dX7_reasonAgainst_58 : decode cX7_reasonAgainst 58 = .ok (.if_icmp .gt 23, 3) := by decide +kernel
theorem dX7_reasonAgainst_61 : decode cX7_reasonAgainst 61 = .ok (.aload_n 0, 1) := by decide +kernel
theorem dX7_reasonAgainst_62 : decode cX7_reasonAgainst 62 = .ok (.getfield 145, 3) := by decide +kernel
theorem dX7_reasonAgainst_65 : decode cX7_reasonAgainst 65 = .ok (.invokestatic 359, 3) := by decide +kernel
theorem dX7_reasonAgainst_68 : decode cX7_reasonAgainst 68 = .ok (.aload_n 1, 1) := by decide +kernel
theorem dX7_reasonAgainst_69 : decode cX7_reasonAgainst 69 = .ok (.getfield 145, 3) := by decide +kernel
theorem dX7_reasonAgainst_72 : decode cX7_reasonAgainst 72 = .ok (.invokestatic 359, 3) := by decide +kernel
theorem dX7_reasonAgainst_75 : decode cX7_reasonAgainst 75 = .ok (.imul, 1) := by decide +kernel
theorem dX7_reasonAgainst_76 : decode cX7_reasonAgainst 76 = .ok (.bipush 9, 2) := by decide +kernel
theorem dX7_reasonAgainst_78 : decode cX7_reasonAgainst 78 = .ok (.if_icmp .le 5, 3) := by decide +kernel
theorem dX7_reasonAgainst_81 : decode cX7_reasonAgainst 81 = .ok (.iconst 4, 1) := by decide +kernel
theorem dX7_reasonAgainst_82 : decode cX7_reasonAgainst 82 = .ok (.ireturn, 1) := by decide +kernel
theorem dX7_reasonAgainst_83 : decode cX7_reasonAgainst 83 = .ok (.iconst 0, 1) := by decide +kernel
theorem dX7_reasonAgainst_84 : decode cX7_reasonAgainst 84 = .ok (.ireturn, 1) := by decide +kernel
theorem dX7_mix_0 : decode cX7_mix 0 = .ok (.ldc2_w 362, 3) := by decide +kernel
theorem dX7_mix_3 : decode cX7_mix 3 = .ok (.lload_n 0, 1) := by decide +kernel
theorem dX7_mix_4 : decode cX7_mix 4 = .ok (.lmul, 1) := by decide +kernel
theorem dX7_mix_5 : decode cX7_mix 5 = .ok (.lload_n 2, 1) := by decide +kernel
theorem dX7_mix_6 : decode cX7_mix 6 = .ok (.ladd, 1) := by decide +kernel
theorem dX7_mix_7 : decode cX7_mix 7 = .ok (.lreturn, 1) := by decide +kernel
theorem dX7_mixVertices_0 : decode cX7_mixVertices 0 = .ok (.lload_n 1, 1) := by decide +kernel
theorem dX7_mixVertices_1 : decode cX7_mixVertices 1 = .ok (.lstore_n 3, 1) := by decide +kernel
theorem dX7_mixVertices_2 : decode cX7_mixVertices 2 = .ok (.iconst 0, 1) := by decide +kernel
theorem dX7_mixVertices_3 : decode cX7_mixVertices 3 = .ok (.istore 5, 2) := by decide +kernel
theorem dX7_mixVertices_5 : decode cX7_mixVertices 5 = .ok (.iload 5, 2) := by decide +kernel
theorem dX7_mixVertices_7 : decode cX7_mixVertices 7 = .ok (.aload_n 0, 1) := by decide +kernel
theorem dX7_mixVertices_8 : decode cX7_mixVertices 8 = .ok (.getfield 12, 3) := by decide +kernel
theorem dX7_mixVertices_11 : decode cX7_mixVertices 11 = .ok (.getfield 77, 3) := by decide +kernel
theorem dX7_mixVertices_14 : decode cX7_mixVertices 14 = .ok (.if_icmp .ge 114, 3) := by decide +kernel
theorem dX7_mixVertices_17 : decode cX7_mixVertices 17 = .ok (.iconst 0, 1) := by decide +kernel
theorem dX7_mixVertices_18 : decode cX7_mixVertices 18 = .ok (.istore 6, 2) := by decide +kernel
theorem dX7_mixVertices_20 : decode cX7_mixVertices 20 = .ok (.iload 6, 2) := by decide +kernel
theorem dX7_mixVertices_22 : decode cX7_mixVertices 22 = .ok (.iconst 5, 1) := by decide +kernel
theorem dX7_mixVertices_23 : decode cX7_mixVertices 23 = .ok (.if_icmp .gt 23, 3) := by decide +kernel
theorem dX7_mixVertices_26 : decode cX7_mixVertices 26 = .ok (.lload_n 3, 1) := by decide +kernel
theorem dX7_mixVertices_27 : decode cX7_mixVertices 27 = .ok (.aload_n 0, 1) := by decide +kernel
theorem dX7_mixVertices_28 : decode cX7_mixVertices 28 = .ok (.iload 5, 2) := by decide +kernel
theorem dX7_mixVertices_30 : decode cX7_mixVertices 30 = .ok (.iload 6, 2) := by decide +kernel
theorem dX7_mixVertices_32 : decode cX7_mixVertices 32 = .ok (.invokevirtual 237, 3) := by decide +kernel
theorem dX7_mixVertices_35 : decode cX7_mixVertices 35 = .ok (.i2l, 1) := by decide +kernel
theorem dX7_mixVertices_36 : decode cX7_mixVertices 36 = .ok (.invokestatic 270, 3) := by decide +kernel
theorem dX7_mixVertices_39 : decode cX7_mixVertices 39 = .ok (.lstore_n 3, 1) := by decide +kernel
theorem dX7_mixVertices_40 : decode cX7_mixVertices 40 = .ok (.iinc 6 1, 3) := by decide +kernel
theorem dX7_mixVertices_43 : decode cX7_mixVertices 43 = .ok (.goto (-23), 3) := by decide +kernel
theorem dX7_mixVertices_46 : decode cX7_mixVertices 46 = .ok (.bipush 10, 2) := by decide +kernel
theorem dX7_mixVertices_48 : decode cX7_mixVertices 48 = .ok (.istore 6, 2) := by decide +kernel
theorem dX7_mixVertices_50 : decode cX7_mixVertices 50 = .ok (.iload 6, 2) := by decide +kernel
theorem dX7_mixVertices_52 : decode cX7_mixVertices 52 = .ok (.bipush 13, 2) := by decide +kernel
theorem dX7_mixVertices_54 : decode cX7_mixVertices 54 = .ok (.if_icmp .gt 23, 3) := by decide +kernel
theorem dX7_mixVertices_57 : decode cX7_mixVertices 57 = .ok (.lload_n 3, 1) := by decide +kernel
theorem dX7_mixVertices_58 : decode cX7_mixVertices 58 = .ok (.aload_n 0, 1) := by decide +kernel
theorem dX7_mixVertices_59 : decode cX7_mixVertices 59 = .ok (.iload 5, 2) := by decide +kernel
theorem dX7_mixVertices_61 : decode cX7_mixVertices 61 = .ok (.iload 6, 2) := by decide +kernel
theorem dX7_mixVertices_63 : decode cX7_mixVertices 63 = .ok (.invokevirtual 237, 3) := by decide +kernel
theorem dX7_mixVertices_66 : decode cX7_mixVertices 66 = .ok (.i2l, 1) := by decide +kernel
theorem dX7_mixVertices_67 : decode cX7_mixVertices 67 = .ok (.invokestatic 270, 3) := by decide +kernel
theorem dX7_mixVertices_70 : decode cX7_mixVertices 70 = .ok (.lstore_n 3, 1) := by decide +kernel
theorem dX7_mixVertices_71 : decode cX7_mixVertices 71 = .ok (.iinc 6 1, 3) := by decide +kernel
theorem dX7_mixVertices_74 : decode cX7_mixVertices 74 = .ok (.goto (-24), 3) := by decide +kernel
theorem dX7_mixVertices_77 : decode cX7_mixVertices 77 = .ok (.iconst 0, 1) := by decide +kernel
theorem dX7_mixVertices_78 : decode cX7_mixVertices 78 = .ok (.istore 6, 2) := by decide +kernel
theorem dX7_mixVertices_80 : decode cX7_mixVertices 80 = .ok (.iload 6, 2) := by decide +kernel
theorem dX7_mixVertices_82 : decode cX7_mixVertices 82 = .ok (.aload_n 0, 1) := by decide +kernel
theorem dX7_mixVertices_83 : decode cX7_mixVertices 83 = .ok (.getfield 12, 3) := by decide +kernel
theorem dX7_mixVertices_86 : decode cX7_mixVertices 86 = .ok (.getfield 77, 3) := by decide +kernel
theorem dX7_mixVertices_89 : decode cX7_mixVertices 89 = .ok (.if_icmp .ge 33, 3) := by decide +kernel
theorem dX7_mixVertices_92 : decode cX7_mixVertices 92 = .ok (.lload_n 3, 1) := by decide +kernel
theorem dX7_mixVertices_93 : decode cX7_mixVertices 93 = .ok (.aload_n 0, 1) := by decide +kernel
theorem dX7_mixVertices_94 : decode cX7_mixVertices 94 = .ok (.getfield 12, 3) := by decide +kernel
theorem dX7_mixVertices_97 : decode cX7_mixVertices 97 = .ok (.iload 5, 2) := by decide +kernel
theorem dX7_mixVertices_99 : decode cX7_mixVertices 99 = .ok (.iload 6, 2) := by decide +kernel
theorem dX7_mixVertices_101 : decode cX7_mixVertices 101 = .ok (.invokevirtual 228, 3) := by decide +kernel
theorem dX7_mixVertices_104 : decode cX7_mixVertices 104 = .ok (.ifCond .eq 7, 3) := by decide +kernel
theorem dX7_mixVertices_107 : decode cX7_mixVertices 107 = .ok (.lconst 1, 1) := by decide +kernel
theorem dX7_mixVertices_108 : decode cX7_mixVertices 108 = .ok (.goto 4, 3) := by decide +kernel
theorem dX7_mixVertices_111 : decode cX7_mixVertices 111 = .ok (.lconst 0, 1) := by decide +kernel
theorem dX7_mixVertices_112 : decode cX7_mixVertices 112 = .ok (.invokestatic 270, 3) := by decide +kernel
theorem dX7_mixVertices_115 : decode cX7_mixVertices 115 = .ok (.lstore_n 3, 1) := by decide +kernel
theorem dX7_mixVertices_116 : decode cX7_mixVertices 116 = .ok (.iinc 6 1, 3) := by decide +kernel
theorem dX7_mixVertices_119 : decode cX7_mixVertices 119 = .ok (.goto (-39), 3) := by decide +kernel
theorem dX7_mixVertices_122 : decode cX7_mixVertices 122 = .ok (.iinc 5 1, 3) := by decide +kernel
theorem dX7_mixVertices_125 : decode cX7_mixVertices 125 = .ok (.goto (-120), 3) := by decide +kernel
theorem dX7_mixVertices_128 : decode cX7_mixVertices 128 = .ok (.lload_n 3, 1) := by decide +kernel
theorem dX7_mixVertices_129 : decode cX7_mixVertices 129 = .ok (.lreturn, 1) := by decide +kernel
theorem dX7_mixBounds_0 : decode cX7_mixBounds 0 = .ok (.lload_n 1, 1) := by decide +kernel
theorem dX7_mixBounds_1 : decode cX7_mixBounds 1 = .ok (.lstore_n 3, 1) := by decide +kernel
theorem dX7_mixBounds_2 : decode cX7_mixBounds 2 = .ok (.aload_n 0, 1) := by decide +kernel
theorem dX7_mixBounds_3 : decode cX7_mixBounds 3 = .ok (.getfield 55, 3) := by decide +kernel
theorem dX7_mixBounds_6 : decode cX7_mixBounds 6 = .ok (.aload_n 0, 1) := by decide +kernel
theorem dX7_mixBounds_7 : decode cX7_mixBounds 7 = .ok (.getfield 12, 3) := by decide +kernel
theorem dX7_mixBounds_10 : decode cX7_mixBounds 10 = .ok (.invokevirtual 244, 3) := by decide +kernel
theorem dX7_mixBounds_13 : decode cX7_mixBounds 13 = .ok (.iconst 0, 1) := by decide +kernel
theorem dX7_mixBounds_14 : decode cX7_mixBounds 14 = .ok (.istore 5, 2) := by decide +kernel
theorem dX7_mixBounds_16 : decode cX7_mixBounds 16 = .ok (.iload 5, 2) := by decide +kernel
theorem dX7_mixBounds_18 : decode cX7_mixBounds 18 = .ok (.iconst 2, 1) := by decide +kernel
theorem dX7_mixBounds_19 : decode cX7_mixBounds 19 = .ok (.if_icmp .gt 23, 3) := by decide +kernel
theorem dX7_mixBounds_22 : decode cX7_mixBounds 22 = .ok (.lload_n 3, 1) := by decide +kernel
theorem dX7_mixBounds_23 : decode cX7_mixBounds 23 = .ok (.aload_n 0, 1) := by decide +kernel
theorem dX7_mixBounds_24 : decode cX7_mixBounds 24 = .ok (.getfield 55, 3) := by decide +kernel
theorem dX7_mixBounds_27 : decode cX7_mixBounds 27 = .ok (.iload 5, 2) := by decide +kernel
theorem dX7_mixBounds_29 : decode cX7_mixBounds 29 = .ok (.invokevirtual 247, 3) := by decide +kernel
theorem dX7_mixBounds_32 : decode cX7_mixBounds 32 = .ok (.invokestatic 270, 3) := by decide +kernel
theorem dX7_mixBounds_35 : decode cX7_mixBounds 35 = .ok (.lstore_n 3, 1) := by decide +kernel
theorem dX7_mixBounds_36 : decode cX7_mixBounds 36 = .ok (.iinc 5 1, 3) := by decide +kernel
theorem dX7_mixBounds_39 : decode cX7_mixBounds 39 = .ok (.goto (-23), 3) := by decide +kernel
theorem dX7_mixBounds_42 : decode cX7_mixBounds 42 = .ok (.iconst 0, 1) := by decide +kernel
theorem dX7_mixBounds_43 : decode cX7_mixBounds 43 = .ok (.istore 5, 2) := by decide +kernel
theorem dX7_mixBounds_45 : decode cX7_mixBounds 45 = .ok (.iload 5, 2) := by decide +kernel
theorem dX7_mixBounds_47 : decode cX7_mixBounds 47 = .ok (.iconst 2, 1) := by decide +kernel
theorem dX7_mixBounds_48 : decode cX7_mixBounds 48 = .ok (.if_icmp .gt 21, 3) := by decide +kernel
theorem dX7_mixBounds_51 : decode cX7_mixBounds 51 = .ok (.lload_n 3, 1) := by decide +kernel
theorem dX7_mixBounds_52 : decode cX7_mixBounds 52 = .ok (.aload_n 0, 1) := by decide +kernel
theorem dX7_mixBounds_53 : decode cX7_mixBounds 53 = .ok (.iload 5, 2) := by decide +kernel
theorem dX7_mixBounds_55 : decode cX7_mixBounds 55 = .ok (.invokevirtual 251, 3) := by decide +kernel
theorem dX7_mixBounds_58 : decode cX7_mixBounds 58 = .ok (.i2l, 1) := by decide +kernel
theorem dX7_mixBounds_59 : decode cX7_mixBounds 59 = .ok (.invokestatic 270, 3) := by decide +kernel
theorem dX7_mixBounds_62 : decode cX7_mixBounds 62 = .ok (.lstore_n 3, 1) := by decide +kernel
theorem dX7_mixBounds_63 : decode cX7_mixBounds 63 = .ok (.iinc 5 1, 3) := by decide +kernel
theorem dX7_mixBounds_66 : decode cX7_mixBounds 66 = .ok (.goto (-21), 3) := by decide +kernel
theorem dX7_mixBounds_69 : decode cX7_mixBounds 69 = .ok (.aload_n 0, 1) := by decide +kernel
theorem dX7_mixBounds_70 : decode cX7_mixBounds 70 = .ok (.getfield 62, 3) := by decide +kernel
theorem dX7_mixBounds_73 : decode cX7_mixBounds 73 = .ok (.aload_n 0, 1) := by decide +kernel
theorem dX7_mixBounds_74 : decode cX7_mixBounds 74 = .ok (.getfield 12, 3) := by decide +kernel
theorem dX7_mixBounds_77 : decode cX7_mixBounds 77 = .ok (.iconst 1, 1) := by decide +kernel
theorem dX7_mixBounds_78 : decode cX7_mixBounds 78 = .ok (.invokevirtual 167, 3) := by decide +kernel
theorem dX7_mixBounds_81 : decode cX7_mixBounds 81 = .ok (.lload_n 3, 1) := by decide +kernel
theorem dX7_mixBounds_82 : decode cX7_mixBounds 82 = .ok (.aload_n 0, 1) := by decide +kernel
theorem dX7_mixBounds_83 : decode cX7_mixBounds 83 = .ok (.getfield 62, 3) := by decide +kernel
theorem dX7_mixBounds_86 : decode cX7_mixBounds 86 = .ok (.iconst 0, 1) := by decide +kernel
theorem dX7_mixBounds_87 : decode cX7_mixBounds 87 = .ok (.invokevirtual 256, 3) := by decide +kernel
theorem dX7_mixBounds_90 : decode cX7_mixBounds 90 = .ok (.invokestatic 270, 3) := by decide +kernel
theorem dX7_mixBounds_93 : decode cX7_mixBounds 93 = .ok (.lstore_n 3, 1) := by decide +kernel
theorem dX7_mixBounds_94 : decode cX7_mixBounds 94 = .ok (.lload_n 3, 1) := by decide +kernel
theorem dX7_mixBounds_95 : decode cX7_mixBounds 95 = .ok (.aload_n 0, 1) := by decide +kernel
theorem dX7_mixBounds_96 : decode cX7_mixBounds 96 = .ok (.getfield 62, 3) := by decide +kernel
theorem dX7_mixBounds_99 : decode cX7_mixBounds 99 = .ok (.iconst 1, 1) := by decide +kernel
theorem dX7_mixBounds_100 : decode cX7_mixBounds 100 = .ok (.invokevirtual 256, 3) := by decide +kernel
theorem dX7_mixBounds_103 : decode cX7_mixBounds 103 = .ok (.invokestatic 270, 3) := by decide +kernel
theorem dX7_mixBounds_106 : decode cX7_mixBounds 106 = .ok (.lstore_n 3, 1) := by decide +kernel
theorem dX7_mixBounds_107 : decode cX7_mixBounds 107 = .ok (.bipush 10, 2) := by decide +kernel
theorem dX7_mixBounds_109 : decode cX7_mixBounds 109 = .ok (.istore 5, 2) := by decide +kernel
theorem dX7_mixBounds_111 : decode cX7_mixBounds 111 = .ok (.iload 5, 2) := by decide +kernel
theorem dX7_mixBounds_113 : decode cX7_mixBounds 113 = .ok (.bipush 13, 2) := by decide +kernel
theorem dX7_mixBounds_115 : decode cX7_mixBounds 115 = .ok (.if_icmp .gt 23, 3) := by decide +kernel
theorem dX7_mixBounds_118 : decode cX7_mixBounds 118 = .ok (.lload_n 3, 1) := by decide +kernel
theorem dX7_mixBounds_119 : decode cX7_mixBounds 119 = .ok (.aload_n 0, 1) := by decide +kernel
theorem dX7_mixBounds_120 : decode cX7_mixBounds 120 = .ok (.getfield 62, 3) := by decide +kernel
theorem dX7_mixBounds_123 : decode cX7_mixBounds 123 = .ok (.iload 5, 2) := by decide +kernel
theorem dX7_mixBounds_125 : decode cX7_mixBounds 125 = .ok (.invokevirtual 256, 3) := by decide +kernel
theorem dX7_mixBounds_128 : decode cX7_mixBounds 128 = .ok (.invokestatic 270, 3) := by decide +kernel
theorem dX7_mixBounds_131 : decode cX7_mixBounds 131 = .ok (.lstore_n 3, 1) := by decide +kernel
theorem dX7_mixBounds_132 : decode cX7_mixBounds 132 = .ok (.iinc 5 1, 3) := by decide +kernel
theorem dX7_mixBounds_135 : decode cX7_mixBounds 135 = .ok (.goto (-24), 3) := by decide +kernel
theorem dX7_mixBounds_138 : decode cX7_mixBounds 138 = .ok (.lload_n 3, 1) := by decide +kernel
theorem dX7_mixBounds_139 : decode cX7_mixBounds 139 = .ok (.lreturn, 1) := by decide +kernel
theorem dX7_bitsOf_0 : decode cX7_bitsOf 0 = .ok (.dload_n 0, 1) := by decide +kernel
theorem dX7_bitsOf_1 : decode cX7_bitsOf 1 = .ok (.dconst 0, 1) := by decide +kernel
theorem dX7_bitsOf_2 : decode cX7_bitsOf 2 = .ok (.dcmp .g, 1) := by decide +kernel
theorem dX7_bitsOf_3 : decode cX7_bitsOf 3 = .ok (.ifCond .gt 5, 3) := by decide +kernel
theorem dX7_bitsOf_6 : decode cX7_bitsOf 6 = .ok (.lconst 0, 1) := by decide +kernel
theorem dX7_bitsOf_7 : decode cX7_bitsOf 7 = .ok (.lreturn, 1) := by decide +kernel
theorem dX7_bitsOf_8 : decode cX7_bitsOf 8 = .ok (.dload_n 0, 1) := by decide +kernel
theorem dX7_bitsOf_9 : decode cX7_bitsOf 9 = .ok (.dstore_n 2, 1) := by decide +kernel
theorem dX7_bitsOf_10 : decode cX7_bitsOf 10 = .ok (.ldc2_w 364, 3) := by decide +kernel
theorem dX7_bitsOf_13 : decode cX7_bitsOf 13 = .ok (.lstore 4, 2) := by decide +kernel
theorem dX7_bitsOf_15 : decode cX7_bitsOf 15 = .ok (.iconst 0, 1) := by decide +kernel
theorem dX7_bitsOf_16 : decode cX7_bitsOf 16 = .ok (.istore 6, 2) := by decide +kernel
theorem dX7_bitsOf_18 : decode cX7_bitsOf 18 = .ok (.iload 6, 2) := by decide +kernel
theorem dX7_bitsOf_20 : decode cX7_bitsOf 20 = .ok (.sipush 1000, 3) := by decide +kernel
theorem dX7_bitsOf_23 : decode cX7_bitsOf 23 = .ok (.if_icmp .ge 27, 3) := by decide +kernel
theorem dX7_bitsOf_26 : decode cX7_bitsOf 26 = .ok (.dload_n 2, 1) := by decide +kernel
theorem dX7_bitsOf_27 : decode cX7_bitsOf 27 = .ok (.dconst 1, 1) := by decide +kernel
theorem dX7_bitsOf_28 : decode cX7_bitsOf 28 = .ok (.dcmp .g, 1) := by decide +kernel
theorem dX7_bitsOf_29 : decode cX7_bitsOf 29 = .ok (.ifCond .ge 21, 3) := by decide +kernel
theorem dX7_bitsOf_32 : decode cX7_bitsOf 32 = .ok (.dload_n 2, 1) := by decide +kernel
theorem dX7_bitsOf_33 : decode cX7_bitsOf 33 = .ok (.ldc2_w 366, 3) := by decide +kernel
theorem dX7_bitsOf_36 : decode cX7_bitsOf 36 = .ok (.dmul, 1) := by decide +kernel
theorem dX7_bitsOf_37 : decode cX7_bitsOf 37 = .ok (.dstore_n 2, 1) := by decide +kernel
theorem dX7_bitsOf_38 : decode cX7_bitsOf 38 = .ok (.lload 4, 2) := by decide +kernel
theorem dX7_bitsOf_40 : decode cX7_bitsOf 40 = .ok (.lconst 1, 1) := by decide +kernel
theorem dX7_bitsOf_41 : decode cX7_bitsOf 41 = .ok (.lsub, 1) := by decide +kernel
theorem dX7_bitsOf_42 : decode cX7_bitsOf 42 = .ok (.lstore 4, 2) := by decide +kernel
theorem dX7_bitsOf_44 : decode cX7_bitsOf 44 = .ok (.iinc 6 1, 3) := by decide +kernel
theorem dX7_bitsOf_47 : decode cX7_bitsOf 47 = .ok (.goto (-29), 3) := by decide +kernel
theorem dX7_bitsOf_50 : decode cX7_bitsOf 50 = .ok (.lload 4, 2) := by decide +kernel
theorem dX7_bitsOf_52 : decode cX7_bitsOf 52 = .ok (.bipush 52, 2) := by decide +kernel
theorem dX7_bitsOf_54 : decode cX7_bitsOf 54 = .ok (.lshl, 1) := by decide +kernel
theorem dX7_bitsOf_55 : decode cX7_bitsOf 55 = .ok (.dload_n 2, 1) := by decide +kernel
theorem dX7_bitsOf_56 : decode cX7_bitsOf 56 = .ok (.dconst 1, 1) := by decide +kernel
theorem dX7_bitsOf_57 : decode cX7_bitsOf 57 = .ok (.dsub, 1) := by decide +kernel
theorem dX7_bitsOf_58 : decode cX7_bitsOf 58 = .ok (.ldc2_w 368, 3) := by decide +kernel
theorem dX7_bitsOf_61 : decode cX7_bitsOf 61 = .ok (.dmul, 1) := by decide +kernel
theorem dX7_bitsOf_62 : decode cX7_bitsOf 62 = .ok (.d2l, 1) := by decide +kernel
theorem dX7_bitsOf_63 : decode cX7_bitsOf 63 = .ok (.ladd, 1) := by decide +kernel
theorem dX7_bitsOf_64 : decode cX7_bitsOf 64 = .ok (.lreturn, 1) := by decide +kernel
theorem dX7_product_0 : decode cX7_product 0 = .ok (.iconst 0, 1) := by decide +kernel
theorem dX7_product_1 : decode cX7_product 1 = .ok (.istore_n 2, 1) := by decide +kernel
theorem dX7_product_2 : decode cX7_product 2 = .ok (.iconst 0, 1) := by decide +kernel
theorem dX7_product_3 : decode cX7_product 3 = .ok (.istore_n 3, 1) := by decide +kernel
theorem dX7_product_4 : decode cX7_product 4 = .ok (.iload_n 3, 1) := by decide +kernel
theorem dX7_product_5 : decode cX7_product 5 = .ok (.iconst 4, 1) := by decide +kernel
theorem dX7_product_6 : decode cX7_product 6 = .ok (.if_icmp .ge 19, 3) := by decide +kernel
theorem dX7_product_9 : decode cX7_product 9 = .ok (.iload_n 2, 1) := by decide +kernel
theorem dX7_product_10 : decode cX7_product 10 = .ok (.aload_n 0, 1) := by decide +kernel
theorem dX7_product_11 : decode cX7_product 11 = .ok (.iload_n 3, 1) := by decide +kernel
theorem dX7_product_12 : decode cX7_product 12 = .ok (.iaload, 1) := by decide +kernel
theorem dX7_product_13 : decode cX7_product 13 = .ok (.aload_n 1, 1) := by decide +kernel
theorem dX7_product_14 : decode cX7_product 14 = .ok (.iload_n 3, 1) := by decide +kernel
theorem dX7_product_15 : decode cX7_product 15 = .ok (.iaload, 1) := by decide +kernel
theorem dX7_product_16 : decode cX7_product 16 = .ok (.imul, 1) := by decide +kernel
theorem dX7_product_17 : decode cX7_product 17 = .ok (.iadd, 1) := by decide +kernel
theorem dX7_product_18 : decode cX7_product 18 = .ok (.istore_n 2, 1) := by decide +kernel
theorem dX7_product_19 : decode cX7_product 19 = .ok (.iinc 3 1, 3) := by decide +kernel
theorem dX7_product_22 : decode cX7_product 22 = .ok (.goto (-18), 3) := by decide +kernel
theorem dX7_product_25 : decode cX7_product 25 = .ok (.iload_n 2, 1) := by decide +kernel
theorem dX7_product_26 : decode cX7_product 26 = .ok (.ireturn, 1) := by decide +kernel
theorem dX7_furthest_0 : decode cX7_furthest 0 = .ok (.iconst 0, 1) := by decide +kernel
theorem dX7_furthest_1 : decode cX7_furthest 1 = .ok (.istore_n 1, 1) := by decide +kernel
theorem dX7_furthest_2 : decode cX7_furthest 2 = .ok (.iconst 0, 1) := by decide +kernel
theorem dX7_furthest_3 : decode cX7_furthest 3 = .ok (.istore_n 2, 1) := by decide +kernel
theorem dX7_furthest_4 : decode cX7_furthest 4 = .ok (.iload_n 2, 1) := by decide +kernel
theorem dX7_furthest_5 : decode cX7_furthest 5 = .ok (.iconst 4, 1) := by decide +kernel
theorem dX7_furthest_6 : decode cX7_furthest 6 = .ok (.if_icmp .ge 20, 3) := by decide +kernel
theorem dX7_furthest_9 : decode cX7_furthest 9 = .ok (.iload_n 1, 1) := by decide +kernel
theorem dX7_furthest_10 : decode cX7_furthest 10 = .ok (.aload_n 0, 1) := by decide +kernel
theorem dX7_furthest_11 : decode cX7_furthest 11 = .ok (.iload_n 2, 1) := by decide +kernel
theorem dX7_furthest_12 : decode cX7_furthest 12 = .ok (.iaload, 1) := by decide +kernel
theorem dX7_furthest_13 : decode cX7_furthest 13 = .ok (.invokestatic 370, 3) := by decide +kernel
theorem dX7_furthest_16 : decode cX7_furthest 16 = .ok (.invokestatic 375, 3) := by decide +kernel
theorem dX7_furthest_19 : decode cX7_furthest 19 = .ok (.istore_n 1, 1) := by decide +kernel
theorem dX7_furthest_20 : decode cX7_furthest 20 = .ok (.iinc 2 1, 3) := by decide +kernel
theorem dX7_furthest_23 : decode cX7_furthest 23 = .ok (.goto (-19), 3) := by decide +kernel
theorem dX7_furthest_26 : decode cX7_furthest 26 = .ok (.iload_n 1, 1) := by decide +kernel
theorem dX7_furthest_27 : decode cX7_furthest 27 = .ok (.ireturn, 1) := by decide +kernel
theorem dX8_init_0 : decode cX8_init 0 = .ok (.aload_n 0, 1) := by decide +kernel
theorem dX8_init_1 : decode cX8_init 1 = .ok (.invokespecial 1, 3) := by decide +kernel
theorem dX8_init_4 : decode cX8_init 4 = .ok (.aload_n 0, 1) := by decide +kernel
theorem dX8_init_5 : decode cX8_init 5 = .ok (.bipush 55, 2) := by decide +kernel
theorem dX8_init_7 : decode cX8_init 7 = .ok (.newarray .int, 2) := by decide +kernel
theorem dX8_init_9 : decode cX8_init 9 = .ok (.putfield 7, 3) := by decide +kernel
theorem dX8_init_12 : decode cX8_init 12 = .ok (.aload_n 0, 1) := by decide +kernel
theorem dX8_init_13 : decode cX8_init 13 = .ok (.sipush 330, 3) := by decide +kernel
theorem dX8_init_16 : decode cX8_init 16 = .ok (.newarray .int, 2) := by decide +kernel
theorem dX8_init_18 : decode cX8_init 18 = .ok (.putfield 13, 3) := by decide +kernel
theorem dX8_init_21 : decode cX8_init 21 = .ok (.aload_n 0, 1) := by decide +kernel
theorem dX8_init_22 : decode cX8_init 22 = .ok (.bipush 110, 2) := by decide +kernel
theorem dX8_init_24 : decode cX8_init 24 = .ok (.newarray .int, 2) := by decide +kernel
theorem dX8_init_26 : decode cX8_init 26 = .ok (.putfield 16, 3) := by decide +kernel
theorem dX8_init_29 : decode cX8_init 29 = .ok (.aload_n 0, 1) := by decide +kernel
theorem dX8_init_30 : decode cX8_init 30 = .ok (.iconst 2, 1) := by decide +kernel
theorem dX8_init_31 : decode cX8_init 31 = .ok (.newarray .int, 2) := by decide +kernel
theorem dX8_init_33 : decode cX8_init 33 = .ok (.putfield 19, 3) := by decide +kernel
theorem dX8_init_36 : decode cX8_init 36 = .ok (.aload_n 0, 1) := by decide +kernel
theorem dX8_init_37 : decode cX8_init 37 = .ok (.bipush 60, 2) := by decide +kernel
theorem dX8_init_39 : decode cX8_init 39 = .ok (.newarray .int, 2) := by decide +kernel
theorem dX8_init_41 : decode cX8_init 41 = .ok (.putfield 22, 3) := by decide +kernel
theorem dX8_init_44 : decode cX8_init 44 = .ok (.aload_n 0, 1) := by decide +kernel
theorem dX8_init_45 : decode cX8_init 45 = .ok (.bipush 8, 2) := by decide +kernel
theorem dX8_init_47 : decode cX8_init 47 = .ok (.newarray .int, 2) := by decide +kernel
theorem dX8_init_49 : decode cX8_init 49 = .ok (.putfield 25, 3) := by decide +kernel
theorem dX8_init_52 : decode cX8_init 52 = .ok (.aload_n 0, 1) := by decide +kernel
theorem dX8_init_53 : decode cX8_init 53 = .ok (.bipush 55, 2) := by decide +kernel
theorem dX8_init_55 : decode cX8_init 55 = .ok (.newarray .int, 2) := by decide +kernel
theorem dX8_init_57 : decode cX8_init 57 = .ok (.putfield 28, 3) := by decide +kernel
theorem dX8_init_60 : decode cX8_init 60 = .ok (.aload_n 0, 1) := by decide +kernel
theorem dX8_init_61 : decode cX8_init 61 = .ok (.iconst 4, 1) := by decide +kernel
theorem dX8_init_62 : decode cX8_init 62 = .ok (.newarray .int, 2) := by decide +kernel
theorem dX8_init_64 : decode cX8_init 64 = .ok (.putfield 31, 3) := by decide +kernel
theorem dX8_init_67 : decode cX8_init 67 = .ok (.aload_n 0, 1) := by decide +kernel
theorem dX8_init_68 : decode cX8_init 68 = .ok (.iconst 4, 1) := by decide +kernel
theorem dX8_init_69 : decode cX8_init 69 = .ok (.newarray .int, 2) := by decide +kernel
theorem dX8_init_71 : decode cX8_init 71 = .ok (.putfield 34, 3) := by decide +kernel
theorem dX8_init_74 : decode cX8_init 74 = .ok (.aload_n 0, 1) := by decide +kernel
theorem dX8_init_75 : decode cX8_init 75 = .ok (.iconst 4, 1) := by decide +kernel
theorem dX8_init_76 : decode cX8_init 76 = .ok (.iconst 3, 1) := by decide +kernel
theorem dX8_init_77 : decode cX8_init 77 = .ok (.invokevirtual 37, 3) := by decide +kernel
theorem dX8_init_80 : decode cX8_init 80 = .ok (.return_, 1) := by decide +kernel
theorem dX8_thrown_0 : decode cX8_thrown 0 = .ok (.aload_n 0, 1) := by decide +kernel
theorem dX8_thrown_1 : decode cX8_thrown 1 = .ok (.getfield 41, 3) := by decide +kernel
theorem dX8_thrown_4 : decode cX8_thrown 4 = .ok (.ireturn, 1) := by decide +kernel
theorem dX8_within_0 : decode cX8_within 0 = .ok (.iload_n 0, 1) := by decide +kernel
theorem dX8_within_1 : decode cX8_within 1 = .ok (.iload_n 1, 1) := by decide +kernel
theorem dX8_within_2 : decode cX8_within 2 = .ok (.if_icmp .lt 12, 3) := by decide +kernel
theorem dX8_within_5 : decode cX8_within 5 = .ok (.iload_n 0, 1) := by decide +kernel
theorem dX8_within_6 : decode cX8_within 6 = .ok (.iload_n 2, 1) := by decide +kernel
theorem dX8_within_7 : decode cX8_within 7 = .ok (.if_icmp .gt 7, 3) := by decide +kernel
theorem dX8_within_10 : decode cX8_within 10 = .ok (.iconst 1, 1) := by decide +kernel
theorem dX8_within_11 : decode cX8_within 11 = .ok (.goto 4, 3) := by decide +kernel
theorem dX8_within_14 : decode cX8_within 14 = .ok (.iconst 0, 1) := by decide +kernel
theorem dX8_within_15 : decode cX8_within 15 = .ok (.ireturn, 1) := by decide +kernel
theorem dX8_save_0 : decode cX8_save 0 = .ok (.aload_n 0, 1) := by decide +kernel
theorem dX8_save_1 : decode cX8_save 1 = .ok (.getfield 45, 3) := by decide +kernel
theorem dX8_save_4 : decode cX8_save 4 = .ok (.bipush 6, 2) := by decide +kernel
theorem dX8_save_6 : decode cX8_save 6 = .ok (.if_icmp .ne 44, 3) := by decide +kernel
theorem dX8_save_9 : decode cX8_save 9 = .ok (.bipush 55, 2) := by decide +kernel
theorem dX8_save_11 : decode cX8_save 11 = .ok (.istore_n 1, 1) := by decide +kernel
theorem dX8_save_12 : decode cX8_save 12 = .ok (.iload_n 1, 1) := by decide +kernel
theorem dX8_save_13 : decode cX8_save 13 = .ok (.sipush 330, 3) := by decide +kernel
theorem dX8_save_16 : decode cX8_save 16 = .ok (.if_icmp .ge 24, 3) := by decide +kernel
theorem dX8_save_19 : decode cX8_save 19 = .ok (.aload_n 0, 1) := by decide +kernel
theorem dX8_save_20 : decode cX8_save 20 = .ok (.getfield 13, 3) := by decide +kernel
theorem dX8_save_23 : decode cX8_save 23 = .ok (.iload_n 1, 1) := by decide +kernel
theorem dX8_save_24 : decode cX8_save 24 = .ok (.bipush 55, 2) := by decide +kernel
theorem dX8_save_26 : decode cX8_save 26 = .ok (.isub, 1) := by decide +kernel
theorem dX8_save_27 : decode cX8_save 27 = .ok (.aload_n 0, 1) := by decide +kernel
theorem dX8_save_28 : decode cX8_save 28 = .ok (.getfield 13, 3) := by decide +kernel
theorem dX8_save_31 : decode cX8_save 31 = .ok (.iload_n 1, 1) := by decide +kernel
theorem dX8_save_32 : decode cX8_save 32 = .ok (.iaload, 1) := by decide +kernel
theorem dX8_save_33 : decode cX8_save 33 = .ok (.iastore, 1) := by decide +kernel
theorem dX8_save_34 : decode cX8_save 34 = .ok (.iinc 1 1, 3) := by decide +kernel
theorem dX8_save_37 : decode cX8_save 37 = .ok (.goto (-25), 3) := by decide +kernel
theorem dX8_save_40 : decode cX8_save 40 = .ok (.aload_n 0, 1) := by decide +kernel
theorem dX8_save_41 : decode cX8_save 41 = .ok (.dup, 1) := by decide +kernel
theorem dX8_save_42 : decode cX8_save 42 = .ok (.getfield 45, 3) := by decide +kernel
theorem dX8_save_45 : decode cX8_save 45 = .ok (.iconst 1, 1) := by decide +kernel
theorem dX8_save_46 : decode cX8_save 46 = .ok (.isub, 1) := by decide +kernel
theorem dX8_save_47 : decode cX8_save 47 = .ok (.putfield 45, 3) := by decide +kernel
theorem dX8_save_50 : decode cX8_save 50 = .ok (.iconst 0, 1) := by decide +kernel
theorem dX8_save_51 : decode cX8_save 51 = .ok (.istore_n 1, 1) := by decide +kernel
theorem dX8_save_52 : decode cX8_save 52 = .ok (.iload_n 1, 1) := by decide +kernel
theorem dX8_save_53 : decode cX8_save 53 = .ok (.bipush 55, 2) := by decide +kernel
theorem dX8_save_55 : decode cX8_save 55 = .ok (.if_icmp .ge 29, 3) := by decide +kernel
theorem dX8_save_58 : decode cX8_save 58 = .ok (.aload_n 0, 1) := by decide +kernel
theorem dX8_save_59 : decode cX8_save 59 = .ok (.getfield 13, 3) := by decide +kernel
theorem dX8_save_62 : decode cX8_save 62 = .ok (.bipush 55, 2) := by decide +kernel
theorem dX8_save_64 : decode cX8_save 64 = .ok (.aload_n 0, 1) := by decide +kernel
theorem dX8_save_65 : decode cX8_save 65 = .ok (.getfield 45, 3) := by decide +kernel
theorem dX8_save_68 : decode cX8_save 68 = .ok (.imul, 1) := by decide +kernel
theorem dX8_save_69 : decode cX8_save 69 = .ok (.iload_n 1, 1) := by decide +kernel
theorem dX8_save_70 : decode cX8_save 70 = .ok (.iadd, 1) := by decide +kernel
theorem dX8_save_71 : decode cX8_save 71 = .ok (.aload_n 0, 1) := by decide +kernel
theorem dX8_save_72 : decode cX8_save 72 = .ok (.getfield 7, 3) := by decide +kernel
theorem dX8_save_75 : decode cX8_save 75 = .ok (.iload_n 1, 1) := by decide +kernel
theorem dX8_save_76 : decode cX8_save 76 = .ok (.iaload, 1) := by decide +kernel
theorem dX8_save_77 : decode cX8_save 77 = .ok (.iastore, 1) := by decide +kernel
theorem dX8_save_78 : decode cX8_save 78 = .ok (.iinc 1 1, 3) := by decide +kernel
theorem dX8_save_81 : decode cX8_save 81 = .ok (.goto (-29), 3) := by decide +kernel
theorem dX8_save_84 : decode cX8_save 84 = .ok (.aload_n 0, 1) := by decide +kernel
theorem dX8_save_85 : decode cX8_save 85 = .ok (.dup, 1) := by decide +kernel
theorem dX8_save_86 : decode cX8_save 86 = .ok (.getfield 45, 3) := by decide +kernel
theorem dX8_save_89 : decode cX8_save 89 = .ok (.iconst 1, 1) := by decide +kernel
theorem dX8_save_90 : decode cX8_save 90 = .ok (.iadd, 1) := by decide +kernel
theorem dX8_save_91 : decode cX8_save 91 = .ok (.putfield 45, 3) := by decide +kernel
theorem dX8_save_94 : decode cX8_save 94 = .ok (.return_, 1) := by decide +kernel
theorem dX8_has_0 : decode cX8_has 0 = .ok (.iload_n 0, 1) := by decide +kernel
theorem dX8_has_1 : decode cX8_has 1 = .ok (.iload_n 1, 1) := by decide +kernel
theorem dX8_has_2 : decode cX8_has 2 = .ok (.ishr, 1) := by decide +kernel
theorem dX8_has_3 : decode cX8_has 3 = .ok (.iconst 1, 1) := by decide +kernel
theorem dX8_has_4 : decode cX8_has 4 = .ok (.iand, 1) := by decide +kernel
theorem dX8_has_5 : decode cX8_has 5 = .ok (.iconst 1, 1) := by decide +kernel
theorem dX8_has_6 : decode cX8_has 6 = .ok (.if_icmp .ne 7, 3) := by decide +kernel
theorem dX8_has_9 : decode cX8_has 9 = .ok (.iconst 1, 1) := by decide +kernel
theorem dX8_has_10 : decode cX8_has 10 = .ok (.goto 4, 3) := by decide +kernel
theorem dX8_has_13 : decode cX8_has 13 = .ok (.iconst 0, 1) := by decide +kernel
theorem dX8_has_14 : decode cX8_has 14 = .ok (.ireturn, 1) := by decide +kernel
theorem dX8_ones_0 : decode cX8_ones 0 = .ok (.iconst 0, 1) := by decide +kernel
theorem dX8_ones_1 : decode cX8_ones 1 = .ok (.istore_n 1, 1) := by decide +kernel
theorem dX8_ones_2 : decode cX8_ones 2 = .ok (.iconst 0, 1) := by decide +kernel
theorem dX8_ones_3 : decode cX8_ones 3 = .ok (.istore_n 2, 1) := by decide +kernel
theorem dX8_ones_4 : decode cX8_ones 4 = .ok (.iload_n 2, 1) := by decide +kernel
theorem dX8_ones_5 : decode cX8_ones 5 = .ok (.bipush 8, 2) := by decide +kernel
theorem dX8_ones_7 : decode cX8_ones 7 = .ok (.if_icmp .ge 17, 3) := by decide +kernel
theorem dX8_ones_10 : decode cX8_ones 10 = .ok (.iload_n 1, 1) := by decide +kernel
theorem dX8_ones_11 : decode cX8_ones 11 = .ok (.iload_n 0, 1) := by decide +kernel
theorem dX8_ones_12 : decode cX8_ones 12 = .ok (.iload_n 2, 1) := by decide +kernel
theorem dX8_ones_13 : decode cX8_ones 13 = .ok (.ishr, 1) := by decide +kernel
theorem dX8_ones_14 : decode cX8_ones 14 = .ok (.iconst 1, 1) := by decide +kernel
theorem dX8_ones_15 : decode cX8_ones 15 = .ok (.iand, 1) := by decide +kernel
theorem dX8_ones_16 : decode cX8_ones 16 = .ok (.iadd, 1) := by decide +kernel
theorem dX8_ones_17 : decode cX8_ones 17 = .ok (.istore_n 1, 1) := by decide +kernel
theorem dX8_ones_18 : decode cX8_ones 18 = .ok (.iinc 2 1, 3) := by decide +kernel
theorem dX8_ones_21 : decode cX8_ones 21 = .ok (.goto (-17), 3) := by decide +kernel
theorem dX8_ones_24 : decode cX8_ones 24 = .ok (.iload_n 1, 1) := by decide +kernel
theorem dX8_ones_25 : decode cX8_ones 25 = .ok (.ireturn, 1) := by decide +kernel
theorem dX8_isVertex_0 : decode cX8_isVertex 0 = .ok (.iload_n 1, 1) := by decide +kernel
theorem dX8_isVertex_1 : decode cX8_isVertex 1 = .ok (.iconst 0, 1) := by decide +kernel
theorem dX8_isVertex_2 : decode cX8_isVertex 2 = .ok (.aload_n 0, 1) := by decide +kernel
theorem dX8_isVertex_3 : decode cX8_isVertex 3 = .ok (.getfield 7, 3) := by decide +kernel
theorem dX8_isVertex_6 : decode cX8_isVertex 6 = .ok (.iconst 0, 1) := by decide +kernel
theorem dX8_isVertex_7 : decode cX8_isVertex 7 = .ok (.iaload, 1) := by decide +kernel
theorem dX8_isVertex_8 : decode cX8_isVertex 8 = .ok (.iconst 1, 1) := by decide +kernel
theorem dX8_isVertex_9 : decode cX8_isVertex 9 = .ok (.isub, 1) := by decide +kernel
theorem dX8_isVertex_10 : decode cX8_isVertex 10 = .ok (.invokestatic 48, 3) := by decide +kernel
theorem dX8_isVertex_13 : decode cX8_isVertex 13 = .ok (.ireturn, 1) := by decide +kernel
theorem dX8_isPlace_0 : decode cX8_isPlace 0 = .ok (.iload_n 1, 1) := by decide +kernel
theorem dX8_isPlace_1 : decode cX8_isPlace 1 = .ok (.iconst 0, 1) := by decide +kernel
theorem dX8_isPlace_2 : decode cX8_isPlace 2 = .ok (.aload_n 0, 1) := by decide +kernel
theorem dX8_isPlace_3 : decode cX8_isPlace 3 = .ok (.getfield 7, 3) := by decide +kernel
theorem dX8_isPlace_6 : decode cX8_isPlace 6 = .ok (.iconst 1, 1) := by decide +kernel
theorem dX8_isPlace_7 : decode cX8_isPlace 7 = .ok (.iaload, 1) := by decide +kernel
theorem dX8_isPlace_8 : decode cX8_isPlace 8 = .ok (.iconst 1, 1) := by decide +kernel
theorem dX8_isPlace_9 : decode cX8_isPlace 9 = .ok (.isub, 1) := by decide +kernel
theorem dX8_isPlace_10 : decode cX8_isPlace 10 = .ok (.invokestatic 48, 3) := by decide +kernel
theorem dX8_isPlace_13 : decode cX8_isPlace 13 = .ok (.ireturn, 1) := by decide +kernel
theorem dX8_isNumber_0 : decode cX8_isNumber 0 = .ok (.iload_n 0, 1) := by decide +kernel
theorem dX8_isNumber_1 : decode cX8_isNumber 1 = .ok (.bipush (-9), 2) := by decide +kernel
theorem dX8_isNumber_3 : decode cX8_isNumber 3 = .ok (.bipush 9, 2) := by decide +kernel
theorem dX8_isNumber_5 : decode cX8_isNumber 5 = .ok (.invokestatic 48, 3) := by decide +kernel
theorem dX8_isNumber_8 : decode cX8_isNumber 8 = .ok (.ireturn, 1) := by decide +kernel
theorem dX8_weight_0 : decode cX8_weight 0 = .ok (.aload_n 0, 1) := by decide +kernel
theorem dX8_weight_1 : decode cX8_weight 1 = .ok (.getfield 7, 3) := by decide +kernel
theorem dX8_weight_4 : decode cX8_weight 4 = .ok (.iconst 2, 1) := by decide +kernel
theorem dX8_weight_5 : decode cX8_weight 5 = .ok (.iload_n 1, 1) := by decide +kernel
theorem dX8_weight_6 : decode cX8_weight 6 = .ok (.iadd, 1) := by decide +kernel
theorem dX8_weight_7 : decode cX8_weight 7 = .ok (.iaload, 1) := by decide +kernel
theorem dX8_weight_8 : decode cX8_weight 8 = .ok (.ireturn, 1) := by decide +kernel
theorem dX8_areJoined_0 : decode cX8_areJoined 0 = .ok (.aload_n 0, 1) := by decide +kernel
theorem dX8_areJoined_1 : decode cX8_areJoined 1 = .ok (.getfield 7, 3) := by decide +kernel
theorem dX8_areJoined_4 : decode cX8_areJoined 4 = .ok (.bipush 10, 2) := by decide +kernel
theorem dX8_areJoined_6 : decode cX8_areJoined 6 = .ok (.iload_n 1, 1) := by decide +kernel
theorem dX8_areJoined_7 : decode cX8_areJoined 7 = .ok (.iadd, 1) := by decide +kernel
theorem dX8_areJoined_8 : decode cX8_areJoined 8 = .ok (.iaload, 1) := by decide +kernel
theorem dX8_areJoined_9 : decode cX8_areJoined 9 = .ok (.iload_n 2, 1) := by decide +kernel
theorem dX8_areJoined_10 : decode cX8_areJoined 10 = .ok (.invokestatic 52, 3) := by decide +kernel
theorem dX8_areJoined_13 : decode cX8_areJoined 13 = .ok (.ireturn, 1) := by decide +kernel
theorem dX8_product_0 : decode cX8_product 0 = .ok (.iconst 0, 1) := by decide +kernel
theorem dX8_product_1 : decode cX8_product 1 = .ok (.istore_n 3, 1) := by decide +kernel
theorem dX8_product_2 : decode cX8_product 2 = .ok (.iconst 0, 1) := by decide +kernel
theorem dX8_product_3 : decode cX8_product 3 = .ok (.istore 4, 2) := by decide +kernel
theorem dX8_product_5 : decode cX8_product 5 = .ok (.iload 4, 2) := by decide +kernel
theorem dX8_product_7 : decode cX8_product 7 = .ok (.iconst 4, 1) := by decide +kernel
theorem dX8_product_8 : decode cX8_product 8 = .ok (.if_icmp .ge 31, 3) := by decide +kernel
theorem dX8_product_11 : decode cX8_product 11 = .ok (.iload_n 3, 1) := by decide +kernel
theorem dX8_product_12 : decode cX8_product 12 = .ok (.aload_n 0, 1) := by decide +kernel
theorem dX8_product_13 : decode cX8_product 13 = .ok (.getfield 7, 3) := by decide +kernel
theorem dX8_product_16 : decode cX8_product 16 = .ok (.iload_n 1, 1) := by decide +kernel
theorem dX8_product_17 : decode cX8_product 17 = .ok (.iload 4, 2) := by decide +kernel
theorem dX8_product_19 : decode cX8_product 19 = .ok (.iadd, 1) := by decide +kernel
theorem dX8_product_20 : decode cX8_product 20 = .ok (.iaload, 1) := by decide +kernel
theorem dX8_product_21 : decode cX8_product 21 = .ok (.aload_n 0, 1) := by decide +kernel
theorem dX8_product_22 : decode cX8_product 22 = .ok (.getfield 7, 3) := by decide +kernel
theorem dX8_product_25 : decode cX8_product 25 = .ok (.iload_n 2, 1) := by decide +kernel
theorem dX8_product_26 : decode cX8_product 26 = .ok (.iload 4, 2) := by decide +kernel
theorem dX8_product_28 : decode cX8_product 28 = .ok (.iadd, 1) := by decide +kernel
theorem dX8_product_29 : decode cX8_product 29 = .ok (.iaload, 1) := by decide +kernel
theorem dX8_product_30 : decode cX8_product 30 = .ok (.imul, 1) := by decide +kernel
theorem dX8_product_31 : decode cX8_product 31 = .ok (.iadd, 1) := by decide +kernel
theorem dX8_product_32 : decode cX8_product 32 = .ok (.istore_n 3, 1) := by decide +kernel
theorem dX8_product_33 : decode cX8_product 33 = .ok (.iinc 4 1, 3) := by decide +kernel
theorem dX8_product_36 : decode cX8_product 36 = .ok (.goto (-31), 3) := by decide +kernel
theorem dX8_product_39 : decode cX8_product 39 = .ok (.iload_n 3, 1) := by decide +kernel
theorem dX8_product_40 : decode cX8_product 40 = .ok (.ireturn, 1) := by decide +kernel
theorem dX8_labelAt_0 : decode cX8_labelAt 0 = .ok (.bipush 18, 2) := by decide +kernel
theorem dX8_labelAt_2 : decode cX8_labelAt 2 = .ok (.iconst 4, 1) := by decide +kernel
theorem dX8_labelAt_3 : decode cX8_labelAt 3 = .ok (.iload_n 0, 1) := by decide +kernel
theorem dX8_labelAt_4 : decode cX8_labelAt 4 = .ok (.imul, 1) := by decide +kernel
theorem dX8_labelAt_5 : decode cX8_labelAt 5 = .ok (.iadd, 1) := by decide +kernel
theorem dX8_labelAt_6 : decode cX8_labelAt 6 = .ok (.ireturn, 1) := by decide +kernel
theorem dX8_byHandle_0 : decode cX8_byHandle 0 = .ok (.aload_n 0, 1) := by decide +kernel
theorem dX8_byHandle_1 : decode cX8_byHandle 1 = .ok (.bipush 50, 2) := by decide +kernel
theorem dX8_byHandle_3 : decode cX8_byHandle 3 = .ok (.iload_n 1, 1) := by decide +kernel
theorem dX8_byHandle_4 : decode cX8_byHandle 4 = .ok (.invokestatic 56, 3) := by decide +kernel
theorem dX8_byHandle_7 : decode cX8_byHandle 7 = .ok (.invokevirtual 60, 3) := by decide +kernel
theorem dX8_byHandle_10 : decode cX8_byHandle 10 = .ok (.ireturn, 1) := by decide +kernel
theorem dX8_edges_0 : decode cX8_edges 0 = .ok (.iconst 0, 1) := by decide +kernel
theorem dX8_edges_1 : decode cX8_edges 1 = .ok (.istore_n 1, 1) := by decide +kernel
theorem dX8_edges_2 : decode cX8_edges 2 = .ok (.iconst 0, 1) := by decide +kernel
end
section
theorem dX8_edges_3 : decode cX8_edges 3 = .ok (.istore_n 2, 1) := by decide +kernel
theorem dX8_edges_4 : decode cX8_edges 4 = .ok (.iload_n 2, 1) := by decide +kernel
theorem dX8_edges_5 : decode cX8_edges 5 = .ok (.aload_n 0, 1) := by decide +kernel
theorem dX8_edges_6 : decode cX8_edges 6 = .ok (.getfield 7, 3) := by decide +kernel
theorem dX8_edges_9 : decode cX8_edges 9 = .ok (.iconst 0, 1) := by decide +kernel
theorem dX8_edges_10 : decode cX8_edges 10 = .ok (.iaload, 1) := by decide +kernel
theorem dX8_edges_11 : decode cX8_edges 11 = .ok (.if_icmp .ge 24, 3) := by decide +kernel
theorem dX8_edges_14 : decode cX8_edges 14 = .ok (.iload_n 1, 1) := by decide +kernel
theorem dX8_edges_15 : decode cX8_edges 15 = .ok (.aload_n 0, 1) := by decide +kernel
theorem dX8_edges_16 : decode cX8_edges 16 = .ok (.getfield 7, 3) := by decide +kernel
theorem dX8_edges_19 : decode cX8_edges 19 = .ok (.bipush 10, 2) := by decide +kernel
theorem dX8_edges_21 : decode cX8_edges 21 = .ok (.iload_n 2, 1) := by decide +kernel
theorem dX8_edges_22 : decode cX8_edges 22 = .ok (.iadd, 1) := by decide +kernel
theorem dX8_edges_23 : decode cX8_edges 23 = .ok (.iaload, 1) := by decide +kernel
theorem dX8_edges_24 : decode cX8_edges 24 = .ok (.invokestatic 64, 3) := by decide +kernel
theorem dX8_edges_27 : decode cX8_edges 27 = .ok (.iadd, 1) := by decide +kernel
theorem dX8_edges_28 : decode cX8_edges 28 = .ok (.istore_n 1, 1) := by decide +kernel
theorem dX8_edges_29 : decode cX8_edges 29 = .ok (.iinc 2 1, 3) := by decide +kernel
theorem dX8_edges_32 : decode cX8_edges 32 = .ok (.goto (-28), 3) := by decide +kernel
theorem dX8_edges_35 : decode cX8_edges 35 = .ok (.iload_n 1, 1) := by decide +kernel
theorem dX8_edges_36 : decode cX8_edges 36 = .ok (.iconst 2, 1) := by decide +kernel
theorem dX8_edges_37 : decode cX8_edges 37 = .ok (.idiv, 1) := by decide +kernel
theorem dX8_edges_38 : decode cX8_edges 38 = .ok (.ireturn, 1) := by decide +kernel
theorem dX8_misfit_0 : decode cX8_misfit 0 = .ok (.iconst 0, 1) := by decide +kernel
theorem dX8_misfit_1 : decode cX8_misfit 1 = .ok (.istore_n 1, 1) := by decide +kernel
theorem dX8_misfit_2 : decode cX8_misfit 2 = .ok (.iload_n 1, 1) := by decide +kernel
theorem dX8_misfit_3 : decode cX8_misfit 3 = .ok (.bipush 8, 2) := by decide +kernel
theorem dX8_misfit_5 : decode cX8_misfit 5 = .ok (.aload_n 0, 1) := by decide +kernel
theorem dX8_misfit_6 : decode cX8_misfit 6 = .ok (.getfield 7, 3) := by decide +kernel
theorem dX8_misfit_9 : decode cX8_misfit 9 = .ok (.iconst 0, 1) := by decide +kernel
theorem dX8_misfit_10 : decode cX8_misfit 10 = .ok (.iaload, 1) := by decide +kernel
theorem dX8_misfit_11 : decode cX8_misfit 11 = .ok (.imul, 1) := by decide +kernel
theorem dX8_misfit_12 : decode cX8_misfit 12 = .ok (.if_icmp .ge 50, 3) := by decide +kernel
theorem dX8_misfit_15 : decode cX8_misfit 15 = .ok (.iload_n 1, 1) := by decide +kernel
theorem dX8_misfit_16 : decode cX8_misfit 16 = .ok (.bipush 8, 2) := by decide +kernel
theorem dX8_misfit_18 : decode cX8_misfit 18 = .ok (.idiv, 1) := by decide +kernel
theorem dX8_misfit_19 : decode cX8_misfit 19 = .ok (.istore_n 2, 1) := by decide +kernel
theorem dX8_misfit_20 : decode cX8_misfit 20 = .ok (.iload_n 1, 1) := by decide +kernel
theorem dX8_misfit_21 : decode cX8_misfit 21 = .ok (.bipush 8, 2) := by decide +kernel
theorem dX8_misfit_23 : decode cX8_misfit 23 = .ok (.irem, 1) := by decide +kernel
theorem dX8_misfit_24 : decode cX8_misfit 24 = .ok (.istore_n 3, 1) := by decide +kernel
theorem dX8_misfit_25 : decode cX8_misfit 25 = .ok (.iload_n 2, 1) := by decide +kernel
theorem dX8_misfit_26 : decode cX8_misfit 26 = .ok (.iload_n 3, 1) := by decide +kernel
theorem dX8_misfit_27 : decode cX8_misfit 27 = .ok (.if_icmp .ge 29, 3) := by decide +kernel
theorem dX8_misfit_30 : decode cX8_misfit 30 = .ok (.aload_n 0, 1) := by decide +kernel
theorem dX8_misfit_31 : decode cX8_misfit 31 = .ok (.iload_n 2, 1) := by decide +kernel
theorem dX8_misfit_32 : decode cX8_misfit 32 = .ok (.iload_n 3, 1) := by decide +kernel
theorem dX8_misfit_33 : decode cX8_misfit 33 = .ok (.invokevirtual 67, 3) := by decide +kernel
theorem dX8_misfit_36 : decode cX8_misfit 36 = .ok (.ifCond .eq 20, 3) := by decide +kernel
theorem dX8_misfit_39 : decode cX8_misfit 39 = .ok (.aload_n 0, 1) := by decide +kernel
theorem dX8_misfit_40 : decode cX8_misfit 40 = .ok (.iload_n 2, 1) := by decide +kernel
theorem dX8_misfit_41 : decode cX8_misfit 41 = .ok (.invokestatic 56, 3) := by decide +kernel
theorem dX8_misfit_44 : decode cX8_misfit 44 = .ok (.iload_n 3, 1) := by decide +kernel
theorem dX8_misfit_45 : decode cX8_misfit 45 = .ok (.invokestatic 56, 3) := by decide +kernel
theorem dX8_misfit_48 : decode cX8_misfit 48 = .ok (.invokevirtual 60, 3) := by decide +kernel
theorem dX8_misfit_51 : decode cX8_misfit 51 = .ok (.ifCond .eq 5, 3) := by decide +kernel
theorem dX8_misfit_54 : decode cX8_misfit 54 = .ok (.iload_n 1, 1) := by decide +kernel
theorem dX8_misfit_55 : decode cX8_misfit 55 = .ok (.ireturn, 1) := by decide +kernel
theorem dX8_misfit_56 : decode cX8_misfit 56 = .ok (.iinc 1 1, 3) := by decide +kernel
theorem dX8_misfit_59 : decode cX8_misfit 59 = .ok (.goto (-57), 3) := by decide +kernel
theorem dX8_misfit_62 : decode cX8_misfit 62 = .ok (.iconst (-1), 1) := by decide +kernel
theorem dX8_misfit_63 : decode cX8_misfit 63 = .ok (.ireturn, 1) := by decide +kernel
theorem dX8_misfits_0 : decode cX8_misfits 0 = .ok (.iconst 0, 1) := by decide +kernel
theorem dX8_misfits_1 : decode cX8_misfits 1 = .ok (.istore_n 1, 1) := by decide +kernel
theorem dX8_misfits_2 : decode cX8_misfits 2 = .ok (.iconst 0, 1) := by decide +kernel
theorem dX8_misfits_3 : decode cX8_misfits 3 = .ok (.istore_n 2, 1) := by decide +kernel
theorem dX8_misfits_4 : decode cX8_misfits 4 = .ok (.iload_n 2, 1) := by decide +kernel
theorem dX8_misfits_5 : decode cX8_misfits 5 = .ok (.bipush 8, 2) := by decide +kernel
theorem dX8_misfits_7 : decode cX8_misfits 7 = .ok (.aload_n 0, 1) := by decide +kernel
theorem dX8_misfits_8 : decode cX8_misfits 8 = .ok (.getfield 7, 3) := by decide +kernel
theorem dX8_misfits_11 : decode cX8_misfits 11 = .ok (.iconst 0, 1) := by decide +kernel
theorem dX8_misfits_12 : decode cX8_misfits 12 = .ok (.iaload, 1) := by decide +kernel
theorem dX8_misfits_13 : decode cX8_misfits 13 = .ok (.imul, 1) := by decide +kernel
theorem dX8_misfits_14 : decode cX8_misfits 14 = .ok (.if_icmp .ge 60, 3) := by decide +kernel
theorem dX8_misfits_17 : decode cX8_misfits 17 = .ok (.iload_n 2, 1) := by decide +kernel
theorem dX8_misfits_18 : decode cX8_misfits 18 = .ok (.bipush 8, 2) := by decide +kernel
theorem dX8_misfits_20 : decode cX8_misfits 20 = .ok (.idiv, 1) := by decide +kernel
theorem dX8_misfits_21 : decode cX8_misfits 21 = .ok (.istore_n 3, 1) := by decide +kernel
theorem dX8_misfits_22 : decode cX8_misfits 22 = .ok (.iload_n 2, 1) := by decide +kernel
theorem dX8_misfits_23 : decode cX8_misfits 23 = .ok (.bipush 8, 2) := by decide +kernel
theorem dX8_misfits_25 : decode cX8_misfits 25 = .ok (.irem, 1) := by decide +kernel
theorem dX8_misfits_26 : decode cX8_misfits 26 = .ok (.istore 4, 2) := by decide +kernel
theorem dX8_misfits_28 : decode cX8_misfits 28 = .ok (.iload_n 1, 1) := by decide +kernel
theorem dX8_misfits_29 : decode cX8_misfits 29 = .ok (.iload_n 3, 1) := by decide +kernel
theorem dX8_misfits_30 : decode cX8_misfits 30 = .ok (.iload 4, 2) := by decide +kernel
theorem dX8_misfits_32 : decode cX8_misfits 32 = .ok (.if_icmp .ge 33, 3) := by decide +kernel
theorem dX8_misfits_35 : decode cX8_misfits 35 = .ok (.aload_n 0, 1) := by decide +kernel
theorem dX8_misfits_36 : decode cX8_misfits 36 = .ok (.iload_n 3, 1) := by decide +kernel
theorem dX8_misfits_37 : decode cX8_misfits 37 = .ok (.iload 4, 2) := by decide +kernel
theorem dX8_misfits_39 : decode cX8_misfits 39 = .ok (.invokevirtual 67, 3) := by decide +kernel
theorem dX8_misfits_42 : decode cX8_misfits 42 = .ok (.ifCond .eq 23, 3) := by decide +kernel
theorem dX8_misfits_45 : decode cX8_misfits 45 = .ok (.aload_n 0, 1) := by decide +kernel
theorem dX8_misfits_46 : decode cX8_misfits 46 = .ok (.iload_n 3, 1) := by decide +kernel
theorem dX8_misfits_47 : decode cX8_misfits 47 = .ok (.invokestatic 56, 3) := by decide +kernel
theorem dX8_misfits_50 : decode cX8_misfits 50 = .ok (.iload 4, 2) := by decide +kernel
theorem dX8_misfits_52 : decode cX8_misfits 52 = .ok (.invokestatic 56, 3) := by decide +kernel
theorem dX8_misfits_55 : decode cX8_misfits 55 = .ok (.invokevirtual 60, 3) := by decide +kernel
theorem dX8_misfits_58 : decode cX8_misfits 58 = .ok (.ifCond .eq 7, 3) := by decide +kernel
theorem dX8_misfits_61 : decode cX8_misfits 61 = .ok (.iconst 1, 1) := by decide +kernel
theorem dX8_misfits_62 : decode cX8_misfits 62 = .ok (.goto 4, 3) := by decide +kernel
theorem dX8_misfits_65 : decode cX8_misfits 65 = .ok (.iconst 0, 1) := by decide +kernel
theorem dX8_misfits_66 : decode cX8_misfits 66 = .ok (.iadd, 1) := by decide +kernel
theorem dX8_misfits_67 : decode cX8_misfits 67 = .ok (.istore_n 1, 1) := by decide +kernel
theorem dX8_misfits_68 : decode cX8_misfits 68 = .ok (.iinc 2 1, 3) := by decide +kernel
theorem dX8_misfits_71 : decode cX8_misfits 71 = .ok (.goto (-67), 3) := by decide +kernel
theorem dX8_misfits_74 : decode cX8_misfits 74 = .ok (.iload_n 1, 1) := by decide +kernel
theorem dX8_misfits_75 : decode cX8_misfits 75 = .ok (.ireturn, 1) := by decide +kernel
theorem dX8_unreached_0 : decode cX8_unreached 0 = .ok (.iconst 0, 1) := by decide +kernel
theorem dX8_unreached_1 : decode cX8_unreached 1 = .ok (.istore_n 1, 1) := by decide +kernel
theorem dX8_unreached_2 : decode cX8_unreached 2 = .ok (.iload_n 1, 1) := by decide +kernel
theorem dX8_unreached_3 : decode cX8_unreached 3 = .ok (.aload_n 0, 1) := by decide +kernel
theorem dX8_unreached_4 : decode cX8_unreached 4 = .ok (.getfield 7, 3) := by decide +kernel
theorem dX8_unreached_7 : decode cX8_unreached 7 = .ok (.iconst 0, 1) := by decide +kernel
theorem dX8_unreached_8 : decode cX8_unreached 8 = .ok (.iaload, 1) := by decide +kernel
theorem dX8_unreached_9 : decode cX8_unreached 9 = .ok (.if_icmp .ge 27, 3) := by decide +kernel
theorem dX8_unreached_12 : decode cX8_unreached 12 = .ok (.aload_n 0, 1) := by decide +kernel
theorem dX8_unreached_13 : decode cX8_unreached 13 = .ok (.iload_n 1, 1) := by decide +kernel
theorem dX8_unreached_14 : decode cX8_unreached 14 = .ok (.invokevirtual 70, 3) := by decide +kernel
theorem dX8_unreached_17 : decode cX8_unreached 17 = .ok (.ifCond .le 13, 3) := by decide +kernel
theorem dX8_unreached_20 : decode cX8_unreached 20 = .ok (.aload_n 0, 1) := by decide +kernel
theorem dX8_unreached_21 : decode cX8_unreached 21 = .ok (.iload_n 1, 1) := by decide +kernel
theorem dX8_unreached_22 : decode cX8_unreached 22 = .ok (.invokevirtual 73, 3) := by decide +kernel
theorem dX8_unreached_25 : decode cX8_unreached 25 = .ok (.ifCond .ne 5, 3) := by decide +kernel
theorem dX8_unreached_28 : decode cX8_unreached 28 = .ok (.iload_n 1, 1) := by decide +kernel
theorem dX8_unreached_29 : decode cX8_unreached 29 = .ok (.ireturn, 1) := by decide +kernel
theorem dX8_unreached_30 : decode cX8_unreached 30 = .ok (.iinc 1 1, 3) := by decide +kernel
theorem dX8_unreached_33 : decode cX8_unreached 33 = .ok (.goto (-31), 3) := by decide +kernel
theorem dX8_unreached_36 : decode cX8_unreached 36 = .ok (.iconst (-1), 1) := by decide +kernel
theorem dX8_unreached_37 : decode cX8_unreached 37 = .ok (.ireturn, 1) := by decide +kernel
theorem dX8_reason_0 : decode cX8_reason 0 = .ok (.aload_n 0, 1) := by decide +kernel
theorem dX8_reason_1 : decode cX8_reason 1 = .ok (.invokevirtual 76, 3) := by decide +kernel
theorem dX8_reason_4 : decode cX8_reason 4 = .ok (.iconst (-1), 1) := by decide +kernel
theorem dX8_reason_5 : decode cX8_reason 5 = .ok (.if_icmp .eq 7, 3) := by decide +kernel
theorem dX8_reason_8 : decode cX8_reason 8 = .ok (.iconst 1, 1) := by decide +kernel
theorem dX8_reason_9 : decode cX8_reason 9 = .ok (.goto 16, 3) := by decide +kernel
theorem dX8_reason_12 : decode cX8_reason 12 = .ok (.aload_n 0, 1) := by decide +kernel
theorem dX8_reason_13 : decode cX8_reason 13 = .ok (.invokevirtual 80, 3) := by decide +kernel
theorem dX8_reason_16 : decode cX8_reason 16 = .ok (.iconst (-1), 1) := by decide +kernel
theorem dX8_reason_17 : decode cX8_reason 17 = .ok (.if_icmp .eq 7, 3) := by decide +kernel
theorem dX8_reason_20 : decode cX8_reason 20 = .ok (.iconst 2, 1) := by decide +kernel
theorem dX8_reason_21 : decode cX8_reason 21 = .ok (.goto 4, 3) := by decide +kernel
theorem dX8_reason_24 : decode cX8_reason 24 = .ok (.iconst 0, 1) := by decide +kernel
theorem dX8_reason_25 : decode cX8_reason 25 = .ok (.ireturn, 1) := by decide +kernel
theorem dX8_common_0 : decode cX8_common 0 = .ok (.lload_n 0, 1) := by decide +kernel
theorem dX8_common_1 : decode cX8_common 1 = .ok (.lstore 4, 2) := by decide +kernel
theorem dX8_common_3 : decode cX8_common 3 = .ok (.lload_n 2, 1) := by decide +kernel
theorem dX8_common_4 : decode cX8_common 4 = .ok (.lstore 6, 2) := by decide +kernel
theorem dX8_common_6 : decode cX8_common 6 = .ok (.lload 6, 2) := by decide +kernel
theorem dX8_common_8 : decode cX8_common 8 = .ok (.lconst 0, 1) := by decide +kernel
theorem dX8_common_9 : decode cX8_common 9 = .ok (.lcmp, 1) := by decide +kernel
theorem dX8_common_10 : decode cX8_common 10 = .ok (.ifCond .le 21, 3) := by decide +kernel
theorem dX8_common_13 : decode cX8_common 13 = .ok (.lload 4, 2) := by decide +kernel
theorem dX8_common_15 : decode cX8_common 15 = .ok (.lload 6, 2) := by decide +kernel
theorem dX8_common_17 : decode cX8_common 17 = .ok (.lrem, 1) := by decide +kernel
theorem dX8_common_18 : decode cX8_common 18 = .ok (.lstore 8, 2) := by decide +kernel
theorem dX8_common_20 : decode cX8_common 20 = .ok (.lload 6, 2) := by decide +kernel
theorem dX8_common_22 : decode cX8_common 22 = .ok (.lstore 4, 2) := by decide +kernel
theorem dX8_common_24 : decode cX8_common 24 = .ok (.lload 8, 2) := by decide +kernel
theorem dX8_common_26 : decode cX8_common 26 = .ok (.lstore 6, 2) := by decide +kernel
theorem dX8_common_28 : decode cX8_common 28 = .ok (.goto (-22), 3) := by decide +kernel
theorem dX8_common_31 : decode cX8_common 31 = .ok (.lload 4, 2) := by decide +kernel
theorem dX8_common_33 : decode cX8_common 33 = .ok (.lreturn, 1) := by decide +kernel
theorem dX8_layBound_0 : decode cX8_layBound 0 = .ok (.aload_n 0, 1) := by decide +kernel
theorem dX8_layBound_1 : decode cX8_layBound 1 = .ok (.lconst 0, 1) := by decide +kernel
theorem dX8_layBound_2 : decode cX8_layBound 2 = .ok (.putfield 83, 3) := by decide +kernel
theorem dX8_layBound_5 : decode cX8_layBound 5 = .ok (.aload_n 0, 1) := by decide +kernel
theorem dX8_layBound_6 : decode cX8_layBound 6 = .ok (.lconst 1, 1) := by decide +kernel
theorem dX8_layBound_7 : decode cX8_layBound 7 = .ok (.putfield 87, 3) := by decide +kernel
theorem dX8_layBound_10 : decode cX8_layBound 10 = .ok (.aload_n 0, 1) := by decide +kernel
theorem dX8_layBound_11 : decode cX8_layBound 11 = .ok (.iconst (-1), 1) := by decide +kernel
theorem dX8_layBound_12 : decode cX8_layBound 12 = .ok (.putfield 90, 3) := by decide +kernel
theorem dX8_layBound_15 : decode cX8_layBound 15 = .ok (.iconst 0, 1) := by decide +kernel
theorem dX8_layBound_16 : decode cX8_layBound 16 = .ok (.istore_n 1, 1) := by decide +kernel
theorem dX8_layBound_17 : decode cX8_layBound 17 = .ok (.iload_n 1, 1) := by decide +kernel
theorem dX8_layBound_18 : decode cX8_layBound 18 = .ok (.aload_n 0, 1) := by decide +kernel
theorem dX8_layBound_19 : decode cX8_layBound 19 = .ok (.getfield 7, 3) := by decide +kernel
theorem dX8_layBound_22 : decode cX8_layBound 22 = .ok (.iconst 0, 1) := by decide +kernel
theorem dX8_layBound_23 : decode cX8_layBound 23 = .ok (.iaload, 1) := by decide +kernel
theorem dX8_layBound_24 : decode cX8_layBound 24 = .ok (.if_icmp .ge 104, 3) := by decide +kernel
theorem dX8_layBound_27 : decode cX8_layBound 27 = .ok (.aload_n 0, 1) := by decide +kernel
theorem dX8_layBound_28 : decode cX8_layBound 28 = .ok (.iload_n 1, 1) := by decide +kernel
theorem dX8_layBound_29 : decode cX8_layBound 29 = .ok (.invokevirtual 70, 3) := by decide +kernel
theorem dX8_layBound_32 : decode cX8_layBound 32 = .ok (.ifCond .le 90, 3) := by decide +kernel
theorem dX8_layBound_35 : decode cX8_layBound 35 = .ok (.aload_n 0, 1) := by decide +kernel
theorem dX8_layBound_36 : decode cX8_layBound 36 = .ok (.iload_n 1, 1) := by decide +kernel
theorem dX8_layBound_37 : decode cX8_layBound 37 = .ok (.invokevirtual 70, 3) := by decide +kernel
theorem dX8_layBound_40 : decode cX8_layBound 40 = .ok (.i2l, 1) := by decide +kernel
theorem dX8_layBound_41 : decode cX8_layBound 41 = .ok (.aload_n 0, 1) := by decide +kernel
theorem dX8_layBound_42 : decode cX8_layBound 42 = .ok (.bipush 50, 2) := by decide +kernel
theorem dX8_layBound_44 : decode cX8_layBound 44 = .ok (.bipush 50, 2) := by decide +kernel
theorem dX8_layBound_46 : decode cX8_layBound 46 = .ok (.invokevirtual 60, 3) := by decide +kernel
theorem dX8_layBound_49 : decode cX8_layBound 49 = .ok (.i2l, 1) := by decide +kernel
theorem dX8_layBound_50 : decode cX8_layBound 50 = .ok (.lmul, 1) := by decide +kernel
theorem dX8_layBound_51 : decode cX8_layBound 51 = .ok (.aload_n 0, 1) := by decide +kernel
theorem dX8_layBound_52 : decode cX8_layBound 52 = .ok (.iload_n 1, 1) := by decide +kernel
theorem dX8_layBound_53 : decode cX8_layBound 53 = .ok (.invokestatic 56, 3) := by decide +kernel
theorem dX8_layBound_56 : decode cX8_layBound 56 = .ok (.iload_n 1, 1) := by decide +kernel
theorem dX8_layBound_57 : decode cX8_layBound 57 = .ok (.invokestatic 56, 3) := by decide +kernel
theorem dX8_layBound_60 : decode cX8_layBound 60 = .ok (.invokevirtual 60, 3) := by decide +kernel
theorem dX8_layBound_63 : decode cX8_layBound 63 = .ok (.i2l, 1) := by decide +kernel
theorem dX8_layBound_64 : decode cX8_layBound 64 = .ok (.lmul, 1) := by decide +kernel
theorem dX8_layBound_65 : decode cX8_layBound 65 = .ok (.lstore_n 2, 1) := by decide +kernel
theorem dX8_layBound_66 : decode cX8_layBound 66 = .ok (.aload_n 0, 1) := by decide +kernel
theorem dX8_layBound_67 : decode cX8_layBound 67 = .ok (.iload_n 1, 1) := by decide +kernel
theorem dX8_layBound_68 : decode cX8_layBound 68 = .ok (.invokevirtual 73, 3) := by decide +kernel
theorem dX8_layBound_71 : decode cX8_layBound 71 = .ok (.i2l, 1) := by decide +kernel
theorem dX8_layBound_72 : decode cX8_layBound 72 = .ok (.aload_n 0, 1) := by decide +kernel
theorem dX8_layBound_73 : decode cX8_layBound 73 = .ok (.iload_n 1, 1) := by decide +kernel
theorem dX8_layBound_74 : decode cX8_layBound 74 = .ok (.invokevirtual 73, 3) := by decide +kernel
theorem dX8_layBound_77 : decode cX8_layBound 77 = .ok (.i2l, 1) := by decide +kernel
theorem dX8_layBound_78 : decode cX8_layBound 78 = .ok (.lmul, 1) := by decide +kernel
theorem dX8_layBound_79 : decode cX8_layBound 79 = .ok (.lstore 4, 2) := by decide +kernel
theorem dX8_layBound_81 : decode cX8_layBound 81 = .ok (.aload_n 0, 1) := by decide +kernel
theorem dX8_layBound_82 : decode cX8_layBound 82 = .ok (.getfield 90, 3) := by decide +kernel
theorem dX8_layBound_85 : decode cX8_layBound 85 = .ok (.iconst (-1), 1) := by decide +kernel
theorem dX8_layBound_86 : decode cX8_layBound 86 = .ok (.if_icmp .eq 20, 3) := by decide +kernel
theorem dX8_layBound_89 : decode cX8_layBound 89 = .ok (.lload_n 2, 1) := by decide +kernel
theorem dX8_layBound_90 : decode cX8_layBound 90 = .ok (.aload_n 0, 1) := by decide +kernel
theorem dX8_layBound_91 : decode cX8_layBound 91 = .ok (.getfield 87, 3) := by decide +kernel
theorem dX8_layBound_94 : decode cX8_layBound 94 = .ok (.lmul, 1) := by decide +kernel
theorem dX8_layBound_95 : decode cX8_layBound 95 = .ok (.aload_n 0, 1) := by decide +kernel
theorem dX8_layBound_96 : decode cX8_layBound 96 = .ok (.getfield 83, 3) := by decide +kernel
theorem dX8_layBound_99 : decode cX8_layBound 99 = .ok (.lload 4, 2) := by decide +kernel
theorem dX8_layBound_101 : decode cX8_layBound 101 = .ok (.lmul, 1) := by decide +kernel
theorem dX8_layBound_102 : decode cX8_layBound 102 = .ok (.lcmp, 1) := by decide +kernel
theorem dX8_layBound_103 : decode cX8_layBound 103 = .ok (.ifCond .le 19, 3) := by decide +kernel
theorem dX8_layBound_106 : decode cX8_layBound 106 = .ok (.aload_n 0, 1) := by decide +kernel
theorem dX8_layBound_107 : decode cX8_layBound 107 = .ok (.lload_n 2, 1) := by decide +kernel
theorem dX8_layBound_108 : decode cX8_layBound 108 = .ok (.putfield 83, 3) := by decide +kernel
theorem dX8_layBound_111 : decode cX8_layBound 111 = .ok (.aload_n 0, 1) := by decide +kernel
theorem dX8_layBound_112 : decode cX8_layBound 112 = .ok (.lload 4, 2) := by decide +kernel
theorem dX8_layBound_114 : decode cX8_layBound 114 = .ok (.putfield 87, 3) := by decide +kernel
theorem dX8_layBound_117 : decode cX8_layBound 117 = .ok (.aload_n 0, 1) := by decide +kernel
theorem dX8_layBound_118 : decode cX8_layBound 118 = .ok (.iload_n 1, 1) := by decide +kernel
theorem dX8_layBound_119 : decode cX8_layBound 119 = .ok (.putfield 90, 3) := by decide +kernel
theorem dX8_layBound_122 : decode cX8_layBound 122 = .ok (.iinc 1 1, 3) := by decide +kernel
theorem dX8_layBound_125 : decode cX8_layBound 125 = .ok (.goto (-108), 3) := by decide +kernel
theorem dX8_layBound_128 : decode cX8_layBound 128 = .ok (.aload_n 0, 1) := by decide +kernel
theorem dX8_layBound_129 : decode cX8_layBound 129 = .ok (.getfield 83, 3) := by decide +kernel
theorem dX8_layBound_132 : decode cX8_layBound 132 = .ok (.aload_n 0, 1) := by decide +kernel
theorem dX8_layBound_133 : decode cX8_layBound 133 = .ok (.getfield 87, 3) := by decide +kernel
theorem dX8_layBound_136 : decode cX8_layBound 136 = .ok (.invokestatic 93, 3) := by decide +kernel
theorem dX8_layBound_139 : decode cX8_layBound 139 = .ok (.lstore_n 1, 1) := by decide +kernel
theorem dX8_layBound_140 : decode cX8_layBound 140 = .ok (.aload_n 0, 1) := by decide +kernel
theorem dX8_layBound_141 : decode cX8_layBound 141 = .ok (.dup, 1) := by decide +kernel
theorem dX8_layBound_142 : decode cX8_layBound 142 = .ok (.getfield 83, 3) := by decide +kernel
theorem dX8_layBound_145 : decode cX8_layBound 145 = .ok (.lload_n 1, 1) := by decide +kernel
theorem dX8_layBound_146 : decode cX8_layBound 146 = .ok (.ldiv, 1) := by decide +kernel
theorem dX8_layBound_147 : decode cX8_layBound 147 = .ok (.putfield 83, 3) := by decide +kernel
theorem dX8_layBound_150 : decode cX8_layBound 150 = .ok (.aload_n 0, 1) := by decide +kernel
theorem dX8_layBound_151 : decode cX8_layBound 151 = .ok (.dup, 1) := by decide +kernel
theorem dX8_layBound_152 : decode cX8_layBound 152 = .ok (.getfield 87, 3) := by decide +kernel
theorem dX8_layBound_155 : decode cX8_layBound 155 = .ok (.lload_n 1, 1) := by decide +kernel
theorem dX8_layBound_156 : decode cX8_layBound 156 = .ok (.ldiv, 1) := by decide +kernel
theorem dX8_layBound_157 : decode cX8_layBound 157 = .ok (.putfield 87, 3) := by decide +kernel
theorem dX8_layBound_160 : decode cX8_layBound 160 = .ok (.return_, 1) := by decide +kernel
theorem dX8_isClique_0 : decode cX8_isClique 0 = .ok (.iconst 1, 1) := by decide +kernel
theorem dX8_isClique_1 : decode cX8_isClique 1 = .ok (.istore_n 2, 1) := by decide +kernel
theorem dX8_isClique_2 : decode cX8_isClique 2 = .ok (.iconst 0, 1) := by decide +kernel
theorem dX8_isClique_3 : decode cX8_isClique 3 = .ok (.istore_n 3, 1) := by decide +kernel
theorem dX8_isClique_4 : decode cX8_isClique 4 = .ok (.iload_n 3, 1) := by decide +kernel
theorem dX8_isClique_5 : decode cX8_isClique 5 = .ok (.aload_n 0, 1) := by decide +kernel
theorem dX8_isClique_6 : decode cX8_isClique 6 = .ok (.getfield 7, 3) := by decide +kernel
theorem dX8_isClique_9 : decode cX8_isClique 9 = .ok (.iconst 0, 1) := by decide +kernel
theorem dX8_isClique_10 : decode cX8_isClique 10 = .ok (.iaload, 1) := by decide +kernel
theorem dX8_isClique_11 : decode cX8_isClique 11 = .ok (.if_icmp .ge 49, 3) := by decide +kernel
theorem dX8_isClique_14 : decode cX8_isClique 14 = .ok (.iload_n 2, 1) := by decide +kernel
theorem dX8_isClique_15 : decode cX8_isClique 15 = .ok (.ifCond .eq 37, 3) := by decide +kernel
theorem dX8_isClique_18 : decode cX8_isClique 18 = .ok (.iload_n 1, 1) := by decide +kernel
theorem dX8_isClique_19 : decode cX8_isClique 19 = .ok (.iload_n 3, 1) := by decide +kernel
theorem dX8_isClique_20 : decode cX8_isClique 20 = .ok (.invokestatic 52, 3) := by decide +kernel
theorem dX8_isClique_23 : decode cX8_isClique 23 = .ok (.ifCond .eq 25, 3) := by decide +kernel
theorem dX8_isClique_26 : decode cX8_isClique 26 = .ok (.iload_n 1, 1) := by decide +kernel
theorem dX8_isClique_27 : decode cX8_isClique 27 = .ok (.aload_n 0, 1) := by decide +kernel
theorem dX8_isClique_28 : decode cX8_isClique 28 = .ok (.getfield 7, 3) := by decide +kernel
theorem dX8_isClique_31 : decode cX8_isClique 31 = .ok (.bipush 10, 2) := by decide +kernel
theorem dX8_isClique_33 : decode cX8_isClique 33 = .ok (.iload_n 3, 1) := by decide +kernel
theorem dX8_isClique_34 : decode cX8_isClique 34 = .ok (.iadd, 1) := by decide +kernel
theorem dX8_isClique_35 : decode cX8_isClique 35 = .ok (.iaload, 1) := by decide +kernel
theorem dX8_isClique_36 : decode cX8_isClique 36 = .ok (.iconst (-1), 1) := by decide +kernel
theorem dX8_isClique_37 : decode cX8_isClique 37 = .ok (.ixor, 1) := by decide +kernel
theorem dX8_isClique_38 : decode cX8_isClique 38 = .ok (.iand, 1) := by decide +kernel
theorem dX8_isClique_39 : decode cX8_isClique 39 = .ok (.iconst 1, 1) := by decide +kernel
theorem dX8_isClique_40 : decode cX8_isClique 40 = .ok (.iload_n 3, 1) := by decide +kernel
theorem dX8_isClique_41 : decode cX8_isClique 41 = .ok (.ishl, 1) := by decide +kernel
theorem dX8_isClique_42 : decode cX8_isClique 42 = .ok (.iconst (-1), 1) := by decide +kernel
theorem dX8_isClique_43 : decode cX8_isClique 43 = .ok (.ixor, 1) := by decide +kernel
theorem dX8_isClique_44 : decode cX8_isClique 44 = .ok (.iand, 1) := by decide +kernel
theorem dX8_isClique_45 : decode cX8_isClique 45 = .ok (.ifCond .ne 7, 3) := by decide +kernel
theorem dX8_isClique_48 : decode cX8_isClique 48 = .ok (.iconst 1, 1) := by decide +kernel
theorem dX8_isClique_49 : decode cX8_isClique 49 = .ok (.goto 4, 3) := by decide +kernel
theorem dX8_isClique_52 : decode cX8_isClique 52 = .ok (.iconst 0, 1) := by decide +kernel
theorem dX8_isClique_53 : decode cX8_isClique 53 = .ok (.istore_n 2, 1) := by decide +kernel
theorem dX8_isClique_54 : decode cX8_isClique 54 = .ok (.iinc 3 1, 3) := by decide +kernel
theorem dX8_isClique_57 : decode cX8_isClique 57 = .ok (.goto (-53), 3) := by decide +kernel
theorem dX8_isClique_60 : decode cX8_isClique 60 = .ok (.iload_n 2, 1) := by decide +kernel
theorem dX8_isClique_61 : decode cX8_isClique 61 = .ok (.ireturn, 1) := by decide +kernel
theorem dX8_weightOf_0 : decode cX8_weightOf 0 = .ok (.iconst 0, 1) := by decide +kernel
theorem dX8_weightOf_1 : decode cX8_weightOf 1 = .ok (.istore_n 2, 1) := by decide +kernel
theorem dX8_weightOf_2 : decode cX8_weightOf 2 = .ok (.iconst 0, 1) := by decide +kernel
theorem dX8_weightOf_3 : decode cX8_weightOf 3 = .ok (.istore_n 3, 1) := by decide +kernel
theorem dX8_weightOf_4 : decode cX8_weightOf 4 = .ok (.iload_n 3, 1) := by decide +kernel
theorem dX8_weightOf_5 : decode cX8_weightOf 5 = .ok (.aload_n 0, 1) := by decide +kernel
theorem dX8_weightOf_6 : decode cX8_weightOf 6 = .ok (.getfield 7, 3) := by decide +kernel
theorem dX8_weightOf_9 : decode cX8_weightOf 9 = .ok (.iconst 0, 1) := by decide +kernel
theorem dX8_weightOf_10 : decode cX8_weightOf 10 = .ok (.iaload, 1) := by decide +kernel
theorem dX8_weightOf_11 : decode cX8_weightOf 11 = .ok (.if_icmp .ge 29, 3) := by decide +kernel
theorem dX8_weightOf_14 : decode cX8_weightOf 14 = .ok (.iload_n 2, 1) := by decide +kernel
theorem dX8_weightOf_15 : decode cX8_weightOf 15 = .ok (.iload_n 1, 1) := by decide +kernel
theorem dX8_weightOf_16 : decode cX8_weightOf 16 = .ok (.iload_n 3, 1) := by decide +kernel
theorem dX8_weightOf_17 : decode cX8_weightOf 17 = .ok (.invokestatic 52, 3) := by decide +kernel
theorem dX8_weightOf_20 : decode cX8_weightOf 20 = .ok (.ifCond .eq 11, 3) := by decide +kernel
theorem dX8_weightOf_23 : decode cX8_weightOf 23 = .ok (.aload_n 0, 1) := by decide +kernel
theorem dX8_weightOf_24 : decode cX8_weightOf 24 = .ok (.iload_n 3, 1) := by decide +kernel
theorem dX8_weightOf_25 : decode cX8_weightOf 25 = .ok (.invokevirtual 70, 3) := by decide +kernel
theorem dX8_weightOf_28 : decode cX8_weightOf 28 = .ok (.goto 4, 3) := by decide +kernel
theorem dX8_weightOf_31 : decode cX8_weightOf 31 = .ok (.iconst 0, 1) := by decide +kernel
theorem dX8_weightOf_32 : decode cX8_weightOf 32 = .ok (.iadd, 1) := by decide +kernel
theorem dX8_weightOf_33 : decode cX8_weightOf 33 = .ok (.istore_n 2, 1) := by decide +kernel
theorem dX8_weightOf_34 : decode cX8_weightOf 34 = .ok (.iinc 3 1, 3) := by decide +kernel
theorem dX8_weightOf_37 : decode cX8_weightOf 37 = .ok (.goto (-33), 3) := by decide +kernel
theorem dX8_weightOf_40 : decode cX8_weightOf 40 = .ok (.iload_n 2, 1) := by decide +kernel
theorem dX8_weightOf_41 : decode cX8_weightOf 41 = .ok (.ireturn, 1) := by decide +kernel
theorem dX8_heaviest_0 : decode cX8_heaviest 0 = .ok (.iconst (-1), 1) := by decide +kernel
theorem dX8_heaviest_1 : decode cX8_heaviest 1 = .ok (.istore_n 2, 1) := by decide +kernel
theorem dX8_heaviest_2 : decode cX8_heaviest 2 = .ok (.iconst 0, 1) := by decide +kernel
theorem dX8_heaviest_3 : decode cX8_heaviest 3 = .ok (.istore_n 3, 1) := by decide +kernel
theorem dX8_heaviest_4 : decode cX8_heaviest 4 = .ok (.iload_n 3, 1) := by decide +kernel
theorem dX8_heaviest_5 : decode cX8_heaviest 5 = .ok (.iconst 1, 1) := by decide +kernel
theorem dX8_heaviest_6 : decode cX8_heaviest 6 = .ok (.aload_n 0, 1) := by decide +kernel
theorem dX8_heaviest_7 : decode cX8_heaviest 7 = .ok (.getfield 7, 3) := by decide +kernel
theorem dX8_heaviest_10 : decode cX8_heaviest 10 = .ok (.iconst 0, 1) := by decide +kernel
theorem dX8_heaviest_11 : decode cX8_heaviest 11 = .ok (.iaload, 1) := by decide +kernel
theorem dX8_heaviest_12 : decode cX8_heaviest 12 = .ok (.ishl, 1) := by decide +kernel
theorem dX8_heaviest_13 : decode cX8_heaviest 13 = .ok (.if_icmp .ge 61, 3) := by decide +kernel
theorem dX8_heaviest_16 : decode cX8_heaviest 16 = .ok (.iload_n 1, 1) := by decide +kernel
theorem dX8_heaviest_17 : decode cX8_heaviest 17 = .ok (.iload_n 3, 1) := by decide +kernel
theorem dX8_heaviest_18 : decode cX8_heaviest 18 = .ok (.iconst (-1), 1) := by decide +kernel
theorem dX8_heaviest_19 : decode cX8_heaviest 19 = .ok (.ixor, 1) := by decide +kernel
theorem dX8_heaviest_20 : decode cX8_heaviest 20 = .ok (.iand, 1) := by decide +kernel
theorem dX8_heaviest_21 : decode cX8_heaviest 21 = .ok (.ifCond .ne 15, 3) := by decide +kernel
theorem dX8_heaviest_24 : decode cX8_heaviest 24 = .ok (.aload_n 0, 1) := by decide +kernel
theorem dX8_heaviest_25 : decode cX8_heaviest 25 = .ok (.iload_n 3, 1) := by decide +kernel
theorem dX8_heaviest_26 : decode cX8_heaviest 26 = .ok (.invokevirtual 97, 3) := by decide +kernel
theorem dX8_heaviest_29 : decode cX8_heaviest 29 = .ok (.ifCond .eq 7, 3) := by decide +kernel
theorem dX8_heaviest_32 : decode cX8_heaviest 32 = .ok (.iconst 1, 1) := by decide +kernel
theorem dX8_heaviest_33 : decode cX8_heaviest 33 = .ok (.goto 4, 3) := by decide +kernel
theorem dX8_heaviest_36 : decode cX8_heaviest 36 = .ok (.iconst 0, 1) := by decide +kernel
theorem dX8_heaviest_37 : decode cX8_heaviest 37 = .ok (.istore 4, 2) := by decide +kernel
theorem dX8_heaviest_39 : decode cX8_heaviest 39 = .ok (.iload 4, 2) := by decide +kernel
theorem dX8_heaviest_41 : decode cX8_heaviest 41 = .ok (.ifCond .eq 25, 3) := by decide +kernel
theorem dX8_heaviest_44 : decode cX8_heaviest 44 = .ok (.iload_n 2, 1) := by decide +kernel
theorem dX8_heaviest_45 : decode cX8_heaviest 45 = .ok (.iconst (-1), 1) := by decide +kernel
theorem dX8_heaviest_46 : decode cX8_heaviest 46 = .ok (.if_icmp .eq 16, 3) := by decide +kernel
theorem dX8_heaviest_49 : decode cX8_heaviest 49 = .ok (.aload_n 0, 1) := by decide +kernel
theorem dX8_heaviest_50 : decode cX8_heaviest 50 = .ok (.iload_n 3, 1) := by decide +kernel
theorem dX8_heaviest_51 : decode cX8_heaviest 51 = .ok (.invokevirtual 101, 3) := by decide +kernel
theorem dX8_heaviest_54 : decode cX8_heaviest 54 = .ok (.aload_n 0, 1) := by decide +kernel
theorem dX8_heaviest_55 : decode cX8_heaviest 55 = .ok (.iload_n 2, 1) := by decide +kernel
theorem dX8_heaviest_56 : decode cX8_heaviest 56 = .ok (.invokevirtual 101, 3) := by decide +kernel
theorem dX8_heaviest_59 : decode cX8_heaviest 59 = .ok (.if_icmp .le 7, 3) := by decide +kernel
theorem dX8_heaviest_62 : decode cX8_heaviest 62 = .ok (.iload_n 3, 1) := by decide +kernel
theorem dX8_heaviest_63 : decode cX8_heaviest 63 = .ok (.goto 4, 3) := by decide +kernel
theorem dX8_heaviest_66 : decode cX8_heaviest 66 = .ok (.iload_n 2, 1) := by decide +kernel
theorem dX8_heaviest_67 : decode cX8_heaviest 67 = .ok (.istore_n 2, 1) := by decide +kernel
theorem dX8_heaviest_68 : decode cX8_heaviest 68 = .ok (.iinc 3 1, 3) := by decide +kernel
theorem dX8_heaviest_71 : decode cX8_heaviest 71 = .ok (.goto (-67), 3) := by decide +kernel
theorem dX8_heaviest_74 : decode cX8_heaviest 74 = .ok (.iload_n 2, 1) := by decide +kernel
theorem dX8_heaviest_75 : decode cX8_heaviest 75 = .ok (.ireturn, 1) := by decide +kernel
theorem dX8_mostVertices_0 : decode cX8_mostVertices 0 = .ok (.iconst 0, 1) := by decide +kernel
theorem dX8_mostVertices_1 : decode cX8_mostVertices 1 = .ok (.istore_n 1, 1) := by decide +kernel
theorem dX8_mostVertices_2 : decode cX8_mostVertices 2 = .ok (.iconst 0, 1) := by decide +kernel
theorem dX8_mostVertices_3 : decode cX8_mostVertices 3 = .ok (.istore_n 2, 1) := by decide +kernel
theorem dX8_mostVertices_4 : decode cX8_mostVertices 4 = .ok (.iload_n 2, 1) := by decide +kernel
theorem dX8_mostVertices_5 : decode cX8_mostVertices 5 = .ok (.iconst 1, 1) := by decide +kernel
theorem dX8_mostVertices_6 : decode cX8_mostVertices 6 = .ok (.aload_n 0, 1) := by decide +kernel
theorem dX8_mostVertices_7 : decode cX8_mostVertices 7 = .ok (.getfield 7, 3) := by decide +kernel
theorem dX8_mostVertices_10 : decode cX8_mostVertices 10 = .ok (.iconst 0, 1) := by decide +kernel
theorem dX8_mostVertices_11 : decode cX8_mostVertices 11 = .ok (.iaload, 1) := by decide +kernel
theorem dX8_mostVertices_12 : decode cX8_mostVertices 12 = .ok (.ishl, 1) := by decide +kernel
theorem dX8_mostVertices_13 : decode cX8_mostVertices 13 = .ok (.if_icmp .ge 34, 3) := by decide +kernel
theorem dX8_mostVertices_16 : decode cX8_mostVertices 16 = .ok (.iload_n 2, 1) := by decide +kernel
theorem dX8_mostVertices_17 : decode cX8_mostVertices 17 = .ok (.invokestatic 64, 3) := by decide +kernel
theorem dX8_mostVertices_20 : decode cX8_mostVertices 20 = .ok (.iload_n 1, 1) := by decide +kernel
theorem dX8_mostVertices_21 : decode cX8_mostVertices 21 = .ok (.if_icmp .le 18, 3) := by decide +kernel
theorem dX8_mostVertices_24 : decode cX8_mostVertices 24 = .ok (.aload_n 0, 1) := by decide +kernel
theorem dX8_mostVertices_25 : decode cX8_mostVertices 25 = .ok (.iload_n 2, 1) := by decide +kernel
theorem dX8_mostVertices_26 : decode cX8_mostVertices 26 = .ok (.invokevirtual 97, 3) := by decide +kernel
theorem dX8_mostVertices_29 : decode cX8_mostVertices 29 = .ok (.ifCond .eq 10, 3) := by decide +kernel
theorem dX8_mostVertices_32 : decode cX8_mostVertices 32 = .ok (.iload_n 2, 1) := by decide +kernel
theorem dX8_mostVertices_33 : decode cX8_mostVertices 33 = .ok (.invokestatic 64, 3) := by decide +kernel
theorem dX8_mostVertices_36 : decode cX8_mostVertices 36 = .ok (.goto 4, 3) := by decide +kernel
theorem dX8_mostVertices_39 : decode cX8_mostVertices 39 = .ok (.iload_n 1, 1) := by decide +kernel
theorem dX8_mostVertices_40 : decode cX8_mostVertices 40 = .ok (.istore_n 1, 1) := by decide +kernel
theorem dX8_mostVertices_41 : decode cX8_mostVertices 41 = .ok (.iinc 2 1, 3) := by decide +kernel
theorem dX8_mostVertices_44 : decode cX8_mostVertices 44 = .ok (.goto (-40), 3) := by decide +kernel
theorem dX8_mostVertices_47 : decode cX8_mostVertices 47 = .ok (.iload_n 1, 1) := by decide +kernel
theorem dX8_mostVertices_48 : decode cX8_mostVertices 48 = .ok (.ireturn, 1) := by decide +kernel
theorem dX8_canStay_0 : decode cX8_canStay 0 = .ok (.iconst 1, 1) := by decide +kernel
theorem dX8_canStay_1 : decode cX8_canStay 1 = .ok (.istore_n 2, 1) := by decide +kernel
theorem dX8_canStay_2 : decode cX8_canStay 2 = .ok (.iconst 0, 1) := by decide +kernel
theorem dX8_canStay_3 : decode cX8_canStay 3 = .ok (.istore_n 3, 1) := by decide +kernel
theorem dX8_canStay_4 : decode cX8_canStay 4 = .ok (.iload_n 3, 1) := by decide +kernel
theorem dX8_canStay_5 : decode cX8_canStay 5 = .ok (.iload_n 1, 1) := by decide +kernel
theorem dX8_canStay_6 : decode cX8_canStay 6 = .ok (.if_icmp .ge 43, 3) := by decide +kernel
theorem dX8_canStay_9 : decode cX8_canStay 9 = .ok (.iload_n 2, 1) := by decide +kernel
theorem dX8_canStay_10 : decode cX8_canStay 10 = .ok (.ifCond .eq 31, 3) := by decide +kernel
theorem dX8_canStay_13 : decode cX8_canStay 13 = .ok (.aload_n 0, 1) := by decide +kernel
theorem dX8_canStay_14 : decode cX8_canStay 14 = .ok (.iload_n 1, 1) := by decide +kernel
theorem dX8_canStay_15 : decode cX8_canStay 15 = .ok (.iload_n 3, 1) := by decide +kernel
theorem dX8_canStay_16 : decode cX8_canStay 16 = .ok (.invokevirtual 67, 3) := by decide +kernel
theorem dX8_canStay_19 : decode cX8_canStay 19 = .ok (.ifCond .eq 18, 3) := by decide +kernel
theorem dX8_canStay_22 : decode cX8_canStay 22 = .ok (.aload_n 0, 1) := by decide +kernel
theorem dX8_canStay_23 : decode cX8_canStay 23 = .ok (.getfield 25, 3) := by decide +kernel
theorem dX8_canStay_26 : decode cX8_canStay 26 = .ok (.iload_n 3, 1) := by decide +kernel
theorem dX8_canStay_27 : decode cX8_canStay 27 = .ok (.iaload, 1) := by decide +kernel
theorem dX8_canStay_28 : decode cX8_canStay 28 = .ok (.aload_n 0, 1) := by decide +kernel
theorem dX8_canStay_29 : decode cX8_canStay 29 = .ok (.getfield 25, 3) := by decide +kernel
theorem dX8_canStay_32 : decode cX8_canStay 32 = .ok (.iload_n 1, 1) := by decide +kernel
theorem dX8_canStay_33 : decode cX8_canStay 33 = .ok (.iaload, 1) := by decide +kernel
theorem dX8_canStay_34 : decode cX8_canStay 34 = .ok (.if_icmp .eq 7, 3) := by decide +kernel
theorem dX8_canStay_37 : decode cX8_canStay 37 = .ok (.iconst 1, 1) := by decide +kernel
theorem dX8_canStay_38 : decode cX8_canStay 38 = .ok (.goto 4, 3) := by decide +kernel
theorem dX8_canStay_41 : decode cX8_canStay 41 = .ok (.iconst 0, 1) := by decide +kernel
theorem dX8_canStay_42 : decode cX8_canStay 42 = .ok (.istore_n 2, 1) := by decide +kernel
theorem dX8_canStay_43 : decode cX8_canStay 43 = .ok (.iinc 3 1, 3) := by decide +kernel
theorem dX8_canStay_46 : decode cX8_canStay 46 = .ok (.goto (-42), 3) := by decide +kernel
theorem dX8_canStay_49 : decode cX8_canStay 49 = .ok (.iload_n 2, 1) := by decide +kernel
theorem dX8_canStay_50 : decode cX8_canStay 50 = .ok (.ireturn, 1) := by decide +kernel
theorem dX8_colorBy_0 : decode cX8_colorBy 0 = .ok (.iconst 0, 1) := by decide +kernel
theorem dX8_colorBy_1 : decode cX8_colorBy 1 = .ok (.istore_n 2, 1) := by decide +kernel
theorem dX8_colorBy_2 : decode cX8_colorBy 2 = .ok (.aload_n 0, 1) := by decide +kernel
theorem dX8_colorBy_3 : decode cX8_colorBy 3 = .ok (.getfield 25, 3) := by decide +kernel
theorem dX8_colorBy_6 : decode cX8_colorBy 6 = .ok (.iconst 0, 1) := by decide +kernel
theorem dX8_colorBy_7 : decode cX8_colorBy 7 = .ok (.iconst (-1), 1) := by decide +kernel
theorem dX8_colorBy_8 : decode cX8_colorBy 8 = .ok (.iastore, 1) := by decide +kernel
theorem dX8_colorBy_9 : decode cX8_colorBy 9 = .ok (.iload_n 2, 1) := by decide +kernel
theorem dX8_colorBy_10 : decode cX8_colorBy 10 = .ok (.ifCond .lt 70, 3) := by decide +kernel
theorem dX8_colorBy_13 : decode cX8_colorBy 13 = .ok (.iload_n 2, 1) := by decide +kernel
theorem dX8_colorBy_14 : decode cX8_colorBy 14 = .ok (.aload_n 0, 1) := by decide +kernel
theorem dX8_colorBy_15 : decode cX8_colorBy 15 = .ok (.getfield 7, 3) := by decide +kernel
theorem dX8_colorBy_18 : decode cX8_colorBy 18 = .ok (.iconst 0, 1) := by decide +kernel
theorem dX8_colorBy_19 : decode cX8_colorBy 19 = .ok (.iaload, 1) := by decide +kernel
theorem dX8_colorBy_20 : decode cX8_colorBy 20 = .ok (.if_icmp .ge 60, 3) := by decide +kernel
theorem dX8_colorBy_23 : decode cX8_colorBy 23 = .ok (.aload_n 0, 1) := by decide +kernel
theorem dX8_colorBy_24 : decode cX8_colorBy 24 = .ok (.getfield 25, 3) := by decide +kernel
theorem dX8_colorBy_27 : decode cX8_colorBy 27 = .ok (.iload_n 2, 1) := by decide +kernel
theorem dX8_colorBy_28 : decode cX8_colorBy 28 = .ok (.dup2, 1) := by decide +kernel
theorem dX8_colorBy_29 : decode cX8_colorBy 29 = .ok (.iaload, 1) := by decide +kernel
theorem dX8_colorBy_30 : decode cX8_colorBy 30 = .ok (.iconst 1, 1) := by decide +kernel
theorem dX8_colorBy_31 : decode cX8_colorBy 31 = .ok (.iadd, 1) := by decide +kernel
theorem dX8_colorBy_32 : decode cX8_colorBy 32 = .ok (.iastore, 1) := by decide +kernel
theorem dX8_colorBy_33 : decode cX8_colorBy 33 = .ok (.aload_n 0, 1) := by decide +kernel
theorem dX8_colorBy_34 : decode cX8_colorBy 34 = .ok (.getfield 25, 3) := by decide +kernel
theorem dX8_colorBy_37 : decode cX8_colorBy 37 = .ok (.iload_n 2, 1) := by decide +kernel
theorem dX8_colorBy_38 : decode cX8_colorBy 38 = .ok (.iaload, 1) := by decide +kernel
theorem dX8_colorBy_39 : decode cX8_colorBy 39 = .ok (.iload_n 1, 1) := by decide +kernel
theorem dX8_colorBy_40 : decode cX8_colorBy 40 = .ok (.if_icmp .lt 9, 3) := by decide +kernel
theorem dX8_colorBy_43 : decode cX8_colorBy 43 = .ok (.iinc 2 (-1), 3) := by decide +kernel
theorem dX8_colorBy_46 : decode cX8_colorBy 46 = .ok (.goto (-37), 3) := by decide +kernel
theorem dX8_colorBy_49 : decode cX8_colorBy 49 = .ok (.aload_n 0, 1) := by decide +kernel
theorem dX8_colorBy_50 : decode cX8_colorBy 50 = .ok (.iload_n 2, 1) := by decide +kernel
theorem dX8_colorBy_51 : decode cX8_colorBy 51 = .ok (.invokevirtual 104, 3) := by decide +kernel
theorem dX8_colorBy_54 : decode cX8_colorBy 54 = .ok (.ifCond .eq (-45), 3) := by decide +kernel
theorem dX8_colorBy_57 : decode cX8_colorBy 57 = .ok (.iinc 2 1, 3) := by decide +kernel
theorem dX8_colorBy_60 : decode cX8_colorBy 60 = .ok (.iload_n 2, 1) := by decide +kernel
theorem dX8_colorBy_61 : decode cX8_colorBy 61 = .ok (.aload_n 0, 1) := by decide +kernel
theorem dX8_colorBy_62 : decode cX8_colorBy 62 = .ok (.getfield 7, 3) := by decide +kernel
theorem dX8_colorBy_65 : decode cX8_colorBy 65 = .ok (.iconst 0, 1) := by decide +kernel
theorem dX8_colorBy_66 : decode cX8_colorBy 66 = .ok (.iaload, 1) := by decide +kernel
theorem dX8_colorBy_67 : decode cX8_colorBy 67 = .ok (.if_icmp .ge (-58), 3) := by decide +kernel
theorem dX8_colorBy_70 : decode cX8_colorBy 70 = .ok (.aload_n 0, 1) := by decide +kernel
theorem dX8_colorBy_71 : decode cX8_colorBy 71 = .ok (.getfield 25, 3) := by decide +kernel
theorem dX8_colorBy_74 : decode cX8_colorBy 74 = .ok (.iload_n 2, 1) := by decide +kernel
theorem dX8_colorBy_75 : decode cX8_colorBy 75 = .ok (.iconst (-1), 1) := by decide +kernel
theorem dX8_colorBy_76 : decode cX8_colorBy 76 = .ok (.iastore, 1) := by decide +kernel
theorem dX8_colorBy_77 : decode cX8_colorBy 77 = .ok (.goto (-68), 3) := by decide +kernel
theorem dX8_colorBy_80 : decode cX8_colorBy 80 = .ok (.iload_n 2, 1) := by decide +kernel
theorem dX8_colorBy_81 : decode cX8_colorBy 81 = .ok (.aload_n 0, 1) := by decide +kernel
theorem dX8_colorBy_82 : decode cX8_colorBy 82 = .ok (.getfield 7, 3) := by decide +kernel
theorem dX8_colorBy_85 : decode cX8_colorBy 85 = .ok (.iconst 0, 1) := by decide +kernel
theorem dX8_colorBy_86 : decode cX8_colorBy 86 = .ok (.iaload, 1) := by decide +kernel
theorem dX8_colorBy_87 : decode cX8_colorBy 87 = .ok (.if_icmp .ne 7, 3) := by decide +kernel
theorem dX8_colorBy_90 : decode cX8_colorBy 90 = .ok (.iconst 1, 1) := by decide +kernel
theorem dX8_colorBy_91 : decode cX8_colorBy 91 = .ok (.goto 4, 3) := by decide +kernel
theorem dX8_colorBy_94 : decode cX8_colorBy 94 = .ok (.iconst 0, 1) := by decide +kernel
theorem dX8_colorBy_95 : decode cX8_colorBy 95 = .ok (.ireturn, 1) := by decide +kernel
theorem dX8_colorAll_0 : decode cX8_colorAll 0 = .ok (.iconst 1, 1) := by decide +kernel
theorem dX8_colorAll_1 : decode cX8_colorAll 1 = .ok (.istore_n 1, 1) := by decide +kernel
theorem dX8_colorAll_2 : decode cX8_colorAll 2 = .ok (.aload_n 0, 1) := by decide +kernel
theorem dX8_colorAll_3 : decode cX8_colorAll 3 = .ok (.iload_n 1, 1) := by decide +kernel
theorem dX8_colorAll_4 : decode cX8_colorAll 4 = .ok (.invokevirtual 107, 3) := by decide +kernel
theorem dX8_colorAll_7 : decode cX8_colorAll 7 = .ok (.ifCond .ne 9, 3) := by decide +kernel
theorem dX8_colorAll_10 : decode cX8_colorAll 10 = .ok (.iinc 1 1, 3) := by decide +kernel
theorem dX8_colorAll_13 : decode cX8_colorAll 13 = .ok (.goto (-11), 3) := by decide +kernel
theorem dX8_colorAll_16 : decode cX8_colorAll 16 = .ok (.iload_n 1, 1) := by decide +kernel
theorem dX8_colorAll_17 : decode cX8_colorAll 17 = .ok (.ireturn, 1) := by decide +kernel
theorem dX8_empties_0 : decode cX8_empties 0 = .ok (.iconst 0, 1) := by decide +kernel
theorem dX8_empties_1 : decode cX8_empties 1 = .ok (.istore_n 3, 1) := by decide +kernel
theorem dX8_empties_2 : decode cX8_empties 2 = .ok (.iload_n 3, 1) := by decide +kernel
theorem dX8_empties_3 : decode cX8_empties 3 = .ok (.bipush 54, 2) := by decide +kernel
theorem dX8_empties_5 : decode cX8_empties 5 = .ok (.if_icmp .ge 16, 3) := by decide +kernel
theorem dX8_empties_8 : decode cX8_empties 8 = .ok (.aload_n 0, 1) := by decide +kernel
theorem dX8_empties_9 : decode cX8_empties 9 = .ok (.getfield 7, 3) := by decide +kernel
theorem dX8_empties_12 : decode cX8_empties 12 = .ok (.iload_n 3, 1) := by decide +kernel
theorem dX8_empties_13 : decode cX8_empties 13 = .ok (.iconst 0, 1) := by decide +kernel
theorem dX8_empties_14 : decode cX8_empties 14 = .ok (.iastore, 1) := by decide +kernel
theorem dX8_empties_15 : decode cX8_empties 15 = .ok (.iinc 3 1, 3) := by decide +kernel
theorem dX8_empties_18 : decode cX8_empties 18 = .ok (.goto (-16), 3) := by decide +kernel
theorem dX8_empties_21 : decode cX8_empties 21 = .ok (.aload_n 0, 1) := by decide +kernel
theorem dX8_empties_22 : decode cX8_empties 22 = .ok (.getfield 7, 3) := by decide +kernel
theorem dX8_empties_25 : decode cX8_empties 25 = .ok (.iconst 0, 1) := by decide +kernel
theorem dX8_empties_26 : decode cX8_empties 26 = .ok (.iload_n 1, 1) := by decide +kernel
theorem dX8_empties_27 : decode cX8_empties 27 = .ok (.iastore, 1) := by decide +kernel
theorem dX8_empties_28 : decode cX8_empties 28 = .ok (.aload_n 0, 1) := by decide +kernel
theorem dX8_empties_29 : decode cX8_empties 29 = .ok (.getfield 7, 3) := by decide +kernel
theorem dX8_empties_32 : decode cX8_empties 32 = .ok (.iconst 1, 1) := by decide +kernel
theorem dX8_empties_33 : decode cX8_empties 33 = .ok (.iload_n 2, 1) := by decide +kernel
theorem dX8_empties_34 : decode cX8_empties 34 = .ok (.iastore, 1) := by decide +kernel
theorem dX8_empties_35 : decode cX8_empties 35 = .ok (.iconst 0, 1) := by decide +kernel
theorem dX8_empties_36 : decode cX8_empties 36 = .ok (.istore_n 3, 1) := by decide +kernel
theorem dX8_empties_37 : decode cX8_empties 37 = .ok (.iload_n 3, 1) := by decide +kernel
theorem dX8_empties_38 : decode cX8_empties 38 = .ok (.iload_n 1, 1) := by decide +kernel
theorem dX8_empties_39 : decode cX8_empties 39 = .ok (.if_icmp .ge 18, 3) := by decide +kernel
theorem dX8_empties_42 : decode cX8_empties 42 = .ok (.aload_n 0, 1) := by decide +kernel
theorem dX8_empties_43 : decode cX8_empties 43 = .ok (.getfield 7, 3) := by decide +kernel
theorem dX8_empties_46 : decode cX8_empties 46 = .ok (.iconst 2, 1) := by decide +kernel
theorem dX8_empties_47 : decode cX8_empties 47 = .ok (.iload_n 3, 1) := by decide +kernel
theorem dX8_empties_48 : decode cX8_empties 48 = .ok (.iadd, 1) := by decide +kernel
theorem dX8_empties_49 : decode cX8_empties 49 = .ok (.iconst 1, 1) := by decide +kernel
theorem dX8_empties_50 : decode cX8_empties 50 = .ok (.iastore, 1) := by decide +kernel
theorem dX8_empties_51 : decode cX8_empties 51 = .ok (.iinc 3 1, 3) := by decide +kernel
theorem dX8_empties_54 : decode cX8_empties 54 = .ok (.goto (-17), 3) := by decide +kernel
theorem dX8_empties_57 : decode cX8_empties 57 = .ok (.return_, 1) := by decide +kernel
theorem dX8_begin_0 : decode cX8_begin 0 = .ok (.aload_n 0, 1) := by decide +kernel
theorem dX8_begin_1 : decode cX8_begin 1 = .ok (.iload_n 1, 1) := by decide +kernel
theorem dX8_begin_2 : decode cX8_begin 2 = .ok (.iconst 1, 1) := by decide +kernel
theorem dX8_begin_3 : decode cX8_begin 3 = .ok (.bipush 8, 2) := by decide +kernel
theorem dX8_begin_5 : decode cX8_begin 5 = .ok (.invokestatic 48, 3) := by decide +kernel
theorem dX8_begin_8 : decode cX8_begin 8 = .ok (.ifCond .eq 16, 3) := by decide +kernel
theorem dX8_begin_11 : decode cX8_begin 11 = .ok (.iload_n 2, 1) := by decide +kernel
theorem dX8_begin_12 : decode cX8_begin 12 = .ok (.iconst 1, 1) := by decide +kernel
theorem dX8_begin_13 : decode cX8_begin 13 = .ok (.iconst 4, 1) := by decide +kernel
theorem dX8_begin_14 : decode cX8_begin 14 = .ok (.invokestatic 48, 3) := by decide +kernel
theorem dX8_begin_17 : decode cX8_begin 17 = .ok (.ifCond .eq 7, 3) := by decide +kernel
theorem dX8_begin_20 : decode cX8_begin 20 = .ok (.iconst 0, 1) := by decide +kernel
theorem dX8_begin_21 : decode cX8_begin 21 = .ok (.goto 4, 3) := by decide +kernel
theorem dX8_begin_24 : decode cX8_begin 24 = .ok (.iconst 1, 1) := by decide +kernel
theorem dX8_begin_25 : decode cX8_begin 25 = .ok (.putfield 41, 3) := by decide +kernel
theorem dX8_begin_28 : decode cX8_begin 28 = .ok (.aload_n 0, 1) := by decide +kernel
theorem dX8_begin_29 : decode cX8_begin 29 = .ok (.getfield 41, 3) := by decide +kernel
theorem dX8_begin_32 : decode cX8_begin 32 = .ok (.ifCond .le 5, 3) := by decide +kernel
theorem dX8_begin_35 : decode cX8_begin 35 = .ok (.iconst 0, 1) := by decide +kernel
theorem dX8_begin_36 : decode cX8_begin 36 = .ok (.ireturn, 1) := by decide +kernel
theorem dX8_begin_37 : decode cX8_begin 37 = .ok (.aload_n 0, 1) := by decide +kernel
theorem dX8_begin_38 : decode cX8_begin 38 = .ok (.invokevirtual 110, 3) := by decide +kernel
theorem dX8_begin_41 : decode cX8_begin 41 = .ok (.aload_n 0, 1) := by decide +kernel
theorem dX8_begin_42 : decode cX8_begin 42 = .ok (.getfield 7, 3) := by decide +kernel
theorem dX8_begin_45 : decode cX8_begin 45 = .ok (.iconst 0, 1) := by decide +kernel
theorem dX8_begin_46 : decode cX8_begin 46 = .ok (.iaload, 1) := by decide +kernel
theorem dX8_begin_47 : decode cX8_begin 47 = .ok (.istore_n 3, 1) := by decide +kernel
theorem dX8_begin_48 : decode cX8_begin 48 = .ok (.aload_n 0, 1) := by decide +kernel
theorem dX8_begin_49 : decode cX8_begin 49 = .ok (.iload_n 1, 1) := by decide +kernel
theorem dX8_begin_50 : decode cX8_begin 50 = .ok (.iload_n 2, 1) := by decide +kernel
theorem dX8_begin_51 : decode cX8_begin 51 = .ok (.invokevirtual 37, 3) := by decide +kernel
theorem dX8_begin_54 : decode cX8_begin 54 = .ok (.iload_n 3, 1) := by decide +kernel
theorem dX8_begin_55 : decode cX8_begin 55 = .ok (.ireturn, 1) := by decide +kernel
theorem dX8_joins_0 : decode cX8_joins 0 = .ok (.aload_n 0, 1) := by decide +kernel
theorem dX8_joins_1 : decode cX8_joins 1 = .ok (.getfield 7, 3) := by decide +kernel
theorem dX8_joins_4 : decode cX8_joins 4 = .ok (.bipush 10, 2) := by decide +kernel
theorem dX8_joins_6 : decode cX8_joins 6 = .ok (.iload_n 1, 1) := by decide +kernel
theorem dX8_joins_7 : decode cX8_joins 7 = .ok (.iadd, 1) := by decide +kernel
theorem dX8_joins_8 : decode cX8_joins 8 = .ok (.aload_n 0, 1) := by decide +kernel
theorem dX8_joins_9 : decode cX8_joins 9 = .ok (.getfield 7, 3) := by decide +kernel
theorem dX8_joins_12 : decode cX8_joins 12 = .ok (.bipush 10, 2) := by decide +kernel
theorem dX8_joins_14 : decode cX8_joins 14 = .ok (.iload_n 1, 1) := by decide +kernel
theorem dX8_joins_15 : decode cX8_joins 15 = .ok (.iadd, 1) := by decide +kernel
theorem dX8_joins_16 : decode cX8_joins 16 = .ok (.iaload, 1) := by decide +kernel
theorem dX8_joins_17 : decode cX8_joins 17 = .ok (.iconst 1, 1) := by decide +kernel
theorem dX8_joins_18 : decode cX8_joins 18 = .ok (.iload_n 2, 1) := by decide +kernel
theorem dX8_joins_19 : decode cX8_joins 19 = .ok (.ishl, 1) := by decide +kernel
theorem dX8_joins_20 : decode cX8_joins 20 = .ok (.iconst (-1), 1) := by decide +kernel
theorem dX8_joins_21 : decode cX8_joins 21 = .ok (.ixor, 1) := by decide +kernel
theorem dX8_joins_22 : decode cX8_joins 22 = .ok (.iand, 1) := by decide +kernel
theorem dX8_joins_23 : decode cX8_joins 23 = .ok (.iload_n 3, 1) := by decide +kernel
theorem dX8_joins_24 : decode cX8_joins 24 = .ok (.ifCond .eq 9, 3) := by decide +kernel
theorem dX8_joins_27 : decode cX8_joins 27 = .ok (.iconst 1, 1) := by decide +kernel
theorem dX8_joins_28 : decode cX8_joins 28 = .ok (.iload_n 2, 1) := by decide +kernel
theorem dX8_joins_29 : decode cX8_joins 29 = .ok (.ishl, 1) := by decide +kernel
theorem dX8_joins_30 : decode cX8_joins 30 = .ok (.goto 4, 3) := by decide +kernel
theorem dX8_joins_33 : decode cX8_joins 33 = .ok (.iconst 0, 1) := by decide +kernel
theorem dX8_joins_34 : decode cX8_joins 34 = .ok (.ior, 1) := by decide +kernel
theorem dX8_joins_35 : decode cX8_joins 35 = .ok (.iastore, 1) := by decide +kernel
theorem dX8_joins_36 : decode cX8_joins 36 = .ok (.aload_n 0, 1) := by decide +kernel
theorem dX8_joins_37 : decode cX8_joins 37 = .ok (.getfield 7, 3) := by decide +kernel
theorem dX8_joins_40 : decode cX8_joins 40 = .ok (.bipush 10, 2) := by decide +kernel
theorem dX8_joins_42 : decode cX8_joins 42 = .ok (.iload_n 2, 1) := by decide +kernel
theorem dX8_joins_43 : decode cX8_joins 43 = .ok (.iadd, 1) := by decide +kernel
theorem dX8_joins_44 : decode cX8_joins 44 = .ok (.aload_n 0, 1) := by decide +kernel
theorem dX8_joins_45 : decode cX8_joins 45 = .ok (.getfield 7, 3) := by decide +kernel
theorem dX8_joins_48 : decode cX8_joins 48 = .ok (.bipush 10, 2) := by decide +kernel
theorem dX8_joins_50 : decode cX8_joins 50 = .ok (.iload_n 2, 1) := by decide +kernel
theorem dX8_joins_51 : decode cX8_joins 51 = .ok (.iadd, 1) := by decide +kernel
theorem dX8_joins_52 : decode cX8_joins 52 = .ok (.iaload, 1) := by decide +kernel
theorem dX8_joins_53 : decode cX8_joins 53 = .ok (.iconst 1, 1) := by decide +kernel
theorem dX8_joins_54 : decode cX8_joins 54 = .ok (.iload_n 1, 1) := by decide +kernel
theorem dX8_joins_55 : decode cX8_joins 55 = .ok (.ishl, 1) := by decide +kernel
theorem dX8_joins_56 : decode cX8_joins 56 = .ok (.iconst (-1), 1) := by decide +kernel
theorem dX8_joins_57 : decode cX8_joins 57 = .ok (.ixor, 1) := by decide +kernel
theorem dX8_joins_58 : decode cX8_joins 58 = .ok (.iand, 1) := by decide +kernel
theorem dX8_joins_59 : decode cX8_joins 59 = .ok (.iload_n 3, 1) := by decide +kernel
theorem dX8_joins_60 : decode cX8_joins 60 = .ok (.ifCond .eq 9, 3) := by decide +kernel
theorem dX8_joins_63 : decode cX8_joins 63 = .ok (.iconst 1, 1) := by decide +kernel
theorem dX8_joins_64 : decode cX8_joins 64 = .ok (.iload_n 1, 1) := by decide +kernel
theorem dX8_joins_65 : decode cX8_joins 65 = .ok (.ishl, 1) := by decide +kernel
theorem dX8_joins_66 : decode cX8_joins 66 = .ok (.goto 4, 3) := by decide +kernel
theorem dX8_joins_69 : decode cX8_joins 69 = .ok (.iconst 0, 1) := by decide +kernel
theorem dX8_joins_70 : decode cX8_joins 70 = .ok (.ior, 1) := by decide +kernel
theorem dX8_joins_71 : decode cX8_joins 71 = .ok (.iastore, 1) := by decide +kernel
theorem dX8_joins_72 : decode cX8_joins 72 = .ok (.return_, 1) := by decide +kernel
theorem dX8_join_0 : decode cX8_join 0 = .ok (.aload_n 0, 1) := by decide +kernel
theorem dX8_join_1 : decode cX8_join 1 = .ok (.aload_n 0, 1) := by decide +kernel
theorem dX8_join_2 : decode cX8_join 2 = .ok (.iload_n 1, 1) := by decide +kernel
theorem dX8_join_3 : decode cX8_join 3 = .ok (.invokevirtual 113, 3) := by decide +kernel
theorem dX8_join_6 : decode cX8_join 6 = .ok (.ifCond .eq 11, 3) := by decide +kernel
theorem dX8_join_9 : decode cX8_join 9 = .ok (.aload_n 0, 1) := by decide +kernel
theorem dX8_join_10 : decode cX8_join 10 = .ok (.iload_n 2, 1) := by decide +kernel
theorem dX8_join_11 : decode cX8_join 11 = .ok (.invokevirtual 113, 3) := by decide +kernel
theorem dX8_join_14 : decode cX8_join 14 = .ok (.ifCond .ne 7, 3) := by decide +kernel
theorem dX8_join_17 : decode cX8_join 17 = .ok (.iconst 1, 1) := by decide +kernel
theorem dX8_join_18 : decode cX8_join 18 = .ok (.goto 13, 3) := by decide +kernel
theorem dX8_join_21 : decode cX8_join 21 = .ok (.iload_n 1, 1) := by decide +kernel
theorem dX8_join_22 : decode cX8_join 22 = .ok (.iload_n 2, 1) := by decide +kernel
theorem dX8_join_23 : decode cX8_join 23 = .ok (.if_icmp .ne 7, 3) := by decide +kernel
theorem dX8_join_26 : decode cX8_join 26 = .ok (.iconst 2, 1) := by decide +kernel
theorem dX8_join_27 : decode cX8_join 27 = .ok (.goto 4, 3) := by decide +kernel
theorem dX8_join_30 : decode cX8_join 30 = .ok (.iconst 0, 1) := by decide +kernel
theorem dX8_join_31 : decode cX8_join 31 = .ok (.putfield 41, 3) := by decide +kernel
theorem dX8_join_34 : decode cX8_join 34 = .ok (.aload_n 0, 1) := by decide +kernel
theorem dX8_join_35 : decode cX8_join 35 = .ok (.getfield 41, 3) := by decide +kernel
theorem dX8_join_38 : decode cX8_join 38 = .ok (.ifCond .le 5, 3) := by decide +kernel
theorem dX8_join_41 : decode cX8_join 41 = .ok (.iconst 0, 1) := by decide +kernel
theorem dX8_join_42 : decode cX8_join 42 = .ok (.ireturn, 1) := by decide +kernel
theorem dX8_join_43 : decode cX8_join 43 = .ok (.aload_n 0, 1) := by decide +kernel
theorem dX8_join_44 : decode cX8_join 44 = .ok (.invokevirtual 110, 3) := by decide +kernel
theorem dX8_join_47 : decode cX8_join 47 = .ok (.aload_n 0, 1) := by decide +kernel
theorem dX8_join_48 : decode cX8_join 48 = .ok (.iload_n 1, 1) := by decide +kernel
theorem dX8_join_49 : decode cX8_join 49 = .ok (.iload_n 2, 1) := by decide +kernel
theorem dX8_join_50 : decode cX8_join 50 = .ok (.iload_n 3, 1) := by decide +kernel
theorem dX8_join_51 : decode cX8_join 51 = .ok (.invokevirtual 116, 3) := by decide +kernel
theorem dX8_join_54 : decode cX8_join 54 = .ok (.aload_n 0, 1) := by decide +kernel
theorem dX8_join_55 : decode cX8_join 55 = .ok (.invokevirtual 120, 3) := by decide +kernel
theorem dX8_join_58 : decode cX8_join 58 = .ok (.ireturn, 1) := by decide +kernel
theorem dX8_weigh_0 : decode cX8_weigh 0 = .ok (.aload_n 0, 1) := by decide +kernel
theorem dX8_weigh_1 : decode cX8_weigh 1 = .ok (.aload_n 0, 1) := by decide +kernel
theorem dX8_weigh_2 : decode cX8_weigh 2 = .ok (.iload_n 1, 1) := by decide +kernel
theorem dX8_weigh_3 : decode cX8_weigh 3 = .ok (.invokevirtual 113, 3) := by decide +kernel
theorem dX8_weigh_6 : decode cX8_weigh 6 = .ok (.ifCond .ne 7, 3) := by decide +kernel
theorem dX8_weigh_9 : decode cX8_weigh 9 = .ok (.iconst 1, 1) := by decide +kernel
theorem dX8_weigh_10 : decode cX8_weigh 10 = .ok (.goto 18, 3) := by decide +kernel
theorem dX8_weigh_13 : decode cX8_weigh 13 = .ok (.iload_n 2, 1) := by decide +kernel
theorem dX8_weigh_14 : decode cX8_weigh 14 = .ok (.iconst 0, 1) := by decide +kernel
theorem dX8_weigh_15 : decode cX8_weigh 15 = .ok (.bipush 9, 2) := by decide +kernel
theorem dX8_weigh_17 : decode cX8_weigh 17 = .ok (.invokestatic 48, 3) := by decide +kernel
theorem dX8_weigh_20 : decode cX8_weigh 20 = .ok (.ifCond .eq 7, 3) := by decide +kernel
theorem dX8_weigh_23 : decode cX8_weigh 23 = .ok (.iconst 0, 1) := by decide +kernel
theorem dX8_weigh_24 : decode cX8_weigh 24 = .ok (.goto 4, 3) := by decide +kernel
theorem dX8_weigh_27 : decode cX8_weigh 27 = .ok (.iconst 2, 1) := by decide +kernel
theorem dX8_weigh_28 : decode cX8_weigh 28 = .ok (.putfield 41, 3) := by decide +kernel
theorem dX8_weigh_31 : decode cX8_weigh 31 = .ok (.aload_n 0, 1) := by decide +kernel
theorem dX8_weigh_32 : decode cX8_weigh 32 = .ok (.getfield 41, 3) := by decide +kernel
theorem dX8_weigh_35 : decode cX8_weigh 35 = .ok (.ifCond .le 5, 3) := by decide +kernel
theorem dX8_weigh_38 : decode cX8_weigh 38 = .ok (.iconst 0, 1) := by decide +kernel
theorem dX8_weigh_39 : decode cX8_weigh 39 = .ok (.ireturn, 1) := by decide +kernel
theorem dX8_weigh_40 : decode cX8_weigh 40 = .ok (.aload_n 0, 1) := by decide +kernel
theorem dX8_weigh_41 : decode cX8_weigh 41 = .ok (.invokevirtual 110, 3) := by decide +kernel
theorem dX8_weigh_44 : decode cX8_weigh 44 = .ok (.aload_n 0, 1) := by decide +kernel
theorem dX8_weigh_45 : decode cX8_weigh 45 = .ok (.iload_n 1, 1) := by decide +kernel
theorem dX8_weigh_46 : decode cX8_weigh 46 = .ok (.invokevirtual 70, 3) := by decide +kernel
theorem dX8_weigh_49 : decode cX8_weigh 49 = .ok (.istore_n 3, 1) := by decide +kernel
theorem dX8_weigh_50 : decode cX8_weigh 50 = .ok (.aload_n 0, 1) := by decide +kernel
theorem dX8_weigh_51 : decode cX8_weigh 51 = .ok (.getfield 7, 3) := by decide +kernel
theorem dX8_weigh_54 : decode cX8_weigh 54 = .ok (.iconst 2, 1) := by decide +kernel
theorem dX8_weigh_55 : decode cX8_weigh 55 = .ok (.iload_n 1, 1) := by decide +kernel
theorem dX8_weigh_56 : decode cX8_weigh 56 = .ok (.iadd, 1) := by decide +kernel
theorem dX8_weigh_57 : decode cX8_weigh 57 = .ok (.iload_n 2, 1) := by decide +kernel
theorem dX8_weigh_58 : decode cX8_weigh 58 = .ok (.iastore, 1) := by decide +kernel
theorem dX8_weigh_59 : decode cX8_weigh 59 = .ok (.iload_n 3, 1) := by decide +kernel
theorem dX8_weigh_60 : decode cX8_weigh 60 = .ok (.ireturn, 1) := by decide +kernel
theorem dX8_complement_0 : decode cX8_complement 0 = .ok (.aload_n 0, 1) := by decide +kernel
theorem dX8_complement_1 : decode cX8_complement 1 = .ok (.iconst 0, 1) := by decide +kernel
theorem dX8_complement_2 : decode cX8_complement 2 = .ok (.putfield 41, 3) := by decide +kernel
theorem dX8_complement_5 : decode cX8_complement 5 = .ok (.aload_n 0, 1) := by decide +kernel
theorem dX8_complement_6 : decode cX8_complement 6 = .ok (.invokevirtual 110, 3) := by decide +kernel
theorem dX8_complement_9 : decode cX8_complement 9 = .ok (.iconst 0, 1) := by decide +kernel
theorem dX8_complement_10 : decode cX8_complement 10 = .ok (.istore_n 1, 1) := by decide +kernel
theorem dX8_complement_11 : decode cX8_complement 11 = .ok (.iload_n 1, 1) := by decide +kernel
theorem dX8_complement_12 : decode cX8_complement 12 = .ok (.aload_n 0, 1) := by decide +kernel
theorem dX8_complement_13 : decode cX8_complement 13 = .ok (.getfield 7, 3) := by decide +kernel
theorem dX8_complement_16 : decode cX8_complement 16 = .ok (.iconst 0, 1) := by decide +kernel
theorem dX8_complement_17 : decode cX8_complement 17 = .ok (.iaload, 1) := by decide +kernel
theorem dX8_complement_18 : decode cX8_complement 18 = .ok (.if_icmp .ge 46, 3) := by decide +kernel
theorem dX8_complement_21 : decode cX8_complement 21 = .ok (.aload_n 0, 1) := by decide +kernel
theorem dX8_complement_22 : decode cX8_complement 22 = .ok (.getfield 7, 3) := by decide +kernel
theorem dX8_complement_25 : decode cX8_complement 25 = .ok (.bipush 10, 2) := by decide +kernel
theorem dX8_complement_27 : decode cX8_complement 27 = .ok (.iload_n 1, 1) := by decide +kernel
theorem dX8_complement_28 : decode cX8_complement 28 = .ok (.iadd, 1) := by decide +kernel
theorem dX8_complement_29 : decode cX8_complement 29 = .ok (.iconst 1, 1) := by decide +kernel
theorem dX8_complement_30 : decode cX8_complement 30 = .ok (.aload_n 0, 1) := by decide +kernel
theorem dX8_complement_31 : decode cX8_complement 31 = .ok (.getfield 7, 3) := by decide +kernel
theorem dX8_complement_34 : decode cX8_complement 34 = .ok (.iconst 0, 1) := by decide +kernel
theorem dX8_complement_35 : decode cX8_complement 35 = .ok (.iaload, 1) := by decide +kernel
theorem dX8_complement_36 : decode cX8_complement 36 = .ok (.ishl, 1) := by decide +kernel
theorem dX8_complement_37 : decode cX8_complement 37 = .ok (.iconst 1, 1) := by decide +kernel
theorem dX8_complement_38 : decode cX8_complement 38 = .ok (.isub, 1) := by decide +kernel
theorem dX8_complement_39 : decode cX8_complement 39 = .ok (.aload_n 0, 1) := by decide +kernel
theorem dX8_complement_40 : decode cX8_complement 40 = .ok (.getfield 7, 3) := by decide +kernel
theorem dX8_complement_43 : decode cX8_complement 43 = .ok (.bipush 10, 2) := by decide +kernel
theorem dX8_complement_45 : decode cX8_complement 45 = .ok (.iload_n 1, 1) := by decide +kernel
theorem dX8_complement_46 : decode cX8_complement 46 = .ok (.iadd, 1) := by decide +kernel
theorem dX8_complement_47 : decode cX8_complement 47 = .ok (.iaload, 1) := by decide +kernel
theorem dX8_complement_48 : decode cX8_complement 48 = .ok (.iconst (-1), 1) := by decide +kernel
theorem dX8_complement_49 : decode cX8_complement 49 = .ok (.ixor, 1) := by decide +kernel
theorem dX8_complement_50 : decode cX8_complement 50 = .ok (.iand, 1) := by decide +kernel
theorem dX8_complement_51 : decode cX8_complement 51 = .ok (.iconst 1, 1) := by decide +kernel
theorem dX8_complement_52 : decode cX8_complement 52 = .ok (.iload_n 1, 1) := by decide +kernel
theorem dX8_complement_53 : decode cX8_complement 53 = .ok (.ishl, 1) := by decide +kernel
theorem dX8_complement_54 : decode cX8_complement 54 = .ok (.iconst (-1), 1) := by decide +kernel
theorem dX8_complement_55 : decode cX8_complement 55 = .ok (.ixor, 1) := by decide +kernel
theorem dX8_complement_56 : decode cX8_complement 56 = .ok (.iand, 1) := by decide +kernel
theorem dX8_complement_57 : decode cX8_complement 57 = .ok (.iastore, 1) := by decide +kernel
theorem dX8_complement_58 : decode cX8_complement 58 = .ok (.iinc 1 1, 3) := by decide +kernel
theorem dX8_complement_61 : decode cX8_complement 61 = .ok (.goto (-50), 3) := by decide +kernel
theorem dX8_complement_64 : decode cX8_complement 64 = .ok (.aload_n 0, 1) := by decide +kernel
theorem dX8_complement_65 : decode cX8_complement 65 = .ok (.invokevirtual 120, 3) := by decide +kernel
theorem dX8_complement_68 : decode cX8_complement 68 = .ok (.ireturn, 1) := by decide +kernel
theorem dX8_without_0 : decode cX8_without 0 = .ok (.iload_n 0, 1) := by decide +kernel
theorem dX8_without_1 : decode cX8_without 1 = .ok (.iconst 1, 1) := by decide +kernel
theorem dX8_without_2 : decode cX8_without 2 = .ok (.iload_n 1, 1) := by decide +kernel
theorem dX8_without_3 : decode cX8_without 3 = .ok (.ishl, 1) := by decide +kernel
theorem dX8_without_4 : decode cX8_without 4 = .ok (.iconst 1, 1) := by decide +kernel
theorem dX8_without_5 : decode cX8_without 5 = .ok (.isub, 1) := by decide +kernel
theorem dX8_without_6 : decode cX8_without 6 = .ok (.iand, 1) := by decide +kernel
theorem dX8_without_7 : decode cX8_without 7 = .ok (.iload_n 0, 1) := by decide +kernel
theorem dX8_without_8 : decode cX8_without 8 = .ok (.iload_n 1, 1) := by decide +kernel
theorem dX8_without_9 : decode cX8_without 9 = .ok (.iconst 1, 1) := by decide +kernel
theorem dX8_without_10 : decode cX8_without 10 = .ok (.iadd, 1) := by decide +kernel
theorem dX8_without_11 : decode cX8_without 11 = .ok (.ishr, 1) := by decide +kernel
theorem dX8_without_12 : decode cX8_without 12 = .ok (.iload_n 1, 1) := by decide +kernel
theorem dX8_without_13 : decode cX8_without 13 = .ok (.ishl, 1) := by decide +kernel
theorem dX8_without_14 : decode cX8_without 14 = .ok (.ior, 1) := by decide +kernel
theorem dX8_without_15 : decode cX8_without 15 = .ok (.ireturn, 1) := by decide +kernel
theorem dX8_remove_0 : decode cX8_remove 0 = .ok (.aload_n 0, 1) := by decide +kernel
theorem dX8_remove_1 : decode cX8_remove 1 = .ok (.aload_n 0, 1) := by decide +kernel
theorem dX8_remove_2 : decode cX8_remove 2 = .ok (.iload_n 1, 1) := by decide +kernel
theorem dX8_remove_3 : decode cX8_remove 3 = .ok (.invokevirtual 113, 3) := by decide +kernel
theorem dX8_remove_6 : decode cX8_remove 6 = .ok (.ifCond .ne 7, 3) := by decide +kernel
theorem dX8_remove_9 : decode cX8_remove 9 = .ok (.iconst 1, 1) := by decide +kernel
theorem dX8_remove_10 : decode cX8_remove 10 = .ok (.goto 18, 3) := by decide +kernel
theorem dX8_remove_13 : decode cX8_remove 13 = .ok (.aload_n 0, 1) := by decide +kernel
theorem dX8_remove_14 : decode cX8_remove 14 = .ok (.getfield 7, 3) := by decide +kernel
theorem dX8_remove_17 : decode cX8_remove 17 = .ok (.iconst 0, 1) := by decide +kernel
theorem dX8_remove_18 : decode cX8_remove 18 = .ok (.iaload, 1) := by decide +kernel
theorem dX8_remove_19 : decode cX8_remove 19 = .ok (.iconst 1, 1) := by decide +kernel
theorem dX8_remove_20 : decode cX8_remove 20 = .ok (.if_icmp .ne 7, 3) := by decide +kernel
theorem dX8_remove_23 : decode cX8_remove 23 = .ok (.iconst 2, 1) := by decide +kernel
theorem dX8_remove_24 : decode cX8_remove 24 = .ok (.goto 4, 3) := by decide +kernel
theorem dX8_remove_27 : decode cX8_remove 27 = .ok (.iconst 0, 1) := by decide +kernel
theorem dX8_remove_28 : decode cX8_remove 28 = .ok (.putfield 41, 3) := by decide +kernel
theorem dX8_remove_31 : decode cX8_remove 31 = .ok (.aload_n 0, 1) := by decide +kernel
theorem dX8_remove_32 : decode cX8_remove 32 = .ok (.getfield 41, 3) := by decide +kernel
theorem dX8_remove_35 : decode cX8_remove 35 = .ok (.ifCond .le 5, 3) := by decide +kernel
theorem dX8_remove_38 : decode cX8_remove 38 = .ok (.iconst 0, 1) := by decide +kernel
theorem dX8_remove_39 : decode cX8_remove 39 = .ok (.ireturn, 1) := by decide +kernel
theorem dX8_remove_40 : decode cX8_remove 40 = .ok (.aload_n 0, 1) := by decide +kernel
theorem dX8_remove_41 : decode cX8_remove 41 = .ok (.invokevirtual 110, 3) := by decide +kernel
theorem dX8_remove_44 : decode cX8_remove 44 = .ok (.aload_n 0, 1) := by decide +kernel
theorem dX8_remove_45 : decode cX8_remove 45 = .ok (.getfield 7, 3) := by decide +kernel
theorem dX8_remove_48 : decode cX8_remove 48 = .ok (.iconst 0, 1) := by decide +kernel
theorem dX8_remove_49 : decode cX8_remove 49 = .ok (.dup2, 1) := by decide +kernel
theorem dX8_remove_50 : decode cX8_remove 50 = .ok (.iaload, 1) := by decide +kernel
theorem dX8_remove_51 : decode cX8_remove 51 = .ok (.iconst 1, 1) := by decide +kernel
theorem dX8_remove_52 : decode cX8_remove 52 = .ok (.isub, 1) := by decide +kernel
theorem dX8_remove_53 : decode cX8_remove 53 = .ok (.iastore, 1) := by decide +kernel
theorem dX8_remove_54 : decode cX8_remove 54 = .ok (.iload_n 1, 1) := by decide +kernel
theorem dX8_remove_55 : decode cX8_remove 55 = .ok (.istore_n 2, 1) := by decide +kernel
theorem dX8_remove_56 : decode cX8_remove 56 = .ok (.iload_n 2, 1) := by decide +kernel
theorem dX8_remove_57 : decode cX8_remove 57 = .ok (.aload_n 0, 1) := by decide +kernel
theorem dX8_remove_58 : decode cX8_remove 58 = .ok (.getfield 7, 3) := by decide +kernel
theorem dX8_remove_61 : decode cX8_remove 61 = .ok (.iconst 0, 1) := by decide +kernel
theorem dX8_remove_62 : decode cX8_remove 62 = .ok (.iaload, 1) := by decide +kernel
theorem dX8_remove_63 : decode cX8_remove 63 = .ok (.if_icmp .ge 84, 3) := by decide +kernel
theorem dX8_remove_66 : decode cX8_remove 66 = .ok (.aload_n 0, 1) := by decide +kernel
theorem dX8_remove_67 : decode cX8_remove 67 = .ok (.getfield 7, 3) := by decide +kernel
theorem dX8_remove_70 : decode cX8_remove 70 = .ok (.iconst 2, 1) := by decide +kernel
theorem dX8_remove_71 : decode cX8_remove 71 = .ok (.iload_n 2, 1) := by decide +kernel
theorem dX8_remove_72 : decode cX8_remove 72 = .ok (.iadd, 1) := by decide +kernel
theorem dX8_remove_73 : decode cX8_remove 73 = .ok (.aload_n 0, 1) := by decide +kernel
theorem dX8_remove_74 : decode cX8_remove 74 = .ok (.getfield 7, 3) := by decide +kernel
theorem dX8_remove_77 : decode cX8_remove 77 = .ok (.iconst 2, 1) := by decide +kernel
theorem dX8_remove_78 : decode cX8_remove 78 = .ok (.iload_n 2, 1) := by decide +kernel
theorem dX8_remove_79 : decode cX8_remove 79 = .ok (.iadd, 1) := by decide +kernel
theorem dX8_remove_80 : decode cX8_remove 80 = .ok (.iconst 1, 1) := by decide +kernel
theorem dX8_remove_81 : decode cX8_remove 81 = .ok (.iadd, 1) := by decide +kernel
theorem dX8_remove_82 : decode cX8_remove 82 = .ok (.iaload, 1) := by decide +kernel
theorem dX8_remove_83 : decode cX8_remove 83 = .ok (.iastore, 1) := by decide +kernel
theorem dX8_remove_84 : decode cX8_remove 84 = .ok (.aload_n 0, 1) := by decide +kernel
theorem dX8_remove_85 : decode cX8_remove 85 = .ok (.getfield 7, 3) := by decide +kernel
theorem dX8_remove_88 : decode cX8_remove 88 = .ok (.bipush 10, 2) := by decide +kernel
theorem dX8_remove_90 : decode cX8_remove 90 = .ok (.iload_n 2, 1) := by decide +kernel
theorem dX8_remove_91 : decode cX8_remove 91 = .ok (.iadd, 1) := by decide +kernel
theorem dX8_remove_92 : decode cX8_remove 92 = .ok (.aload_n 0, 1) := by decide +kernel
theorem dX8_remove_93 : decode cX8_remove 93 = .ok (.getfield 7, 3) := by decide +kernel
theorem dX8_remove_96 : decode cX8_remove 96 = .ok (.bipush 10, 2) := by decide +kernel
theorem dX8_remove_98 : decode cX8_remove 98 = .ok (.iload_n 2, 1) := by decide +kernel
theorem dX8_remove_99 : decode cX8_remove 99 = .ok (.iadd, 1) := by decide +kernel
theorem dX8_remove_100 : decode cX8_remove 100 = .ok (.iconst 1, 1) := by decide +kernel
theorem dX8_remove_101 : decode cX8_remove 101 = .ok (.iadd, 1) := by decide +kernel
theorem dX8_remove_102 : decode cX8_remove 102 = .ok (.iaload, 1) := by decide +kernel
theorem dX8_remove_103 : decode cX8_remove 103 = .ok (.iastore, 1) := by decide +kernel
theorem dX8_remove_104 : decode cX8_remove 104 = .ok (.iconst 0, 1) := by decide +kernel
theorem dX8_remove_105 : decode cX8_remove 105 = .ok (.istore_n 3, 1) := by decide +kernel
theorem dX8_remove_106 : decode cX8_remove 106 = .ok (.iload_n 3, 1) := by decide +kernel
theorem dX8_remove_107 : decode cX8_remove 107 = .ok (.iconst 4, 1) := by decide +kernel
theorem dX8_remove_108 : decode cX8_remove 108 = .ok (.if_icmp .ge 33, 3) := by decide +kernel
theorem dX8_remove_111 : decode cX8_remove 111 = .ok (.aload_n 0, 1) := by decide +kernel
theorem dX8_remove_112 : decode cX8_remove 112 = .ok (.getfield 7, 3) := by decide +kernel
theorem dX8_remove_115 : decode cX8_remove 115 = .ok (.iload_n 2, 1) := by decide +kernel
theorem dX8_remove_116 : decode cX8_remove 116 = .ok (.invokestatic 56, 3) := by decide +kernel
theorem dX8_remove_119 : decode cX8_remove 119 = .ok (.iload_n 3, 1) := by decide +kernel
theorem dX8_remove_120 : decode cX8_remove 120 = .ok (.iadd, 1) := by decide +kernel
theorem dX8_remove_121 : decode cX8_remove 121 = .ok (.aload_n 0, 1) := by decide +kernel
theorem dX8_remove_122 : decode cX8_remove 122 = .ok (.getfield 7, 3) := by decide +kernel
theorem dX8_remove_125 : decode cX8_remove 125 = .ok (.iload_n 2, 1) := by decide +kernel
theorem dX8_remove_126 : decode cX8_remove 126 = .ok (.iconst 1, 1) := by decide +kernel
theorem dX8_remove_127 : decode cX8_remove 127 = .ok (.iadd, 1) := by decide +kernel
theorem dX8_remove_128 : decode cX8_remove 128 = .ok (.invokestatic 56, 3) := by decide +kernel
theorem dX8_remove_131 : decode cX8_remove 131 = .ok (.iload_n 3, 1) := by decide +kernel
theorem dX8_remove_132 : decode cX8_remove 132 = .ok (.iadd, 1) := by decide +kernel
theorem dX8_remove_133 : decode cX8_remove 133 = .ok (.iaload, 1) := by decide +kernel
theorem dX8_remove_134 : decode cX8_remove 134 = .ok (.iastore, 1) := by decide +kernel
theorem dX8_remove_135 : decode cX8_remove 135 = .ok (.iinc 3 1, 3) := by decide +kernel
theorem dX8_remove_138 : decode cX8_remove 138 = .ok (.goto (-32), 3) := by decide +kernel
theorem dX8_remove_141 : decode cX8_remove 141 = .ok (.iinc 2 1, 3) := by decide +kernel
theorem dX8_remove_144 : decode cX8_remove 144 = .ok (.goto (-88), 3) := by decide +kernel
theorem dX8_remove_147 : decode cX8_remove 147 = .ok (.iconst 0, 1) := by decide +kernel
theorem dX8_remove_148 : decode cX8_remove 148 = .ok (.istore_n 2, 1) := by decide +kernel
theorem dX8_remove_149 : decode cX8_remove 149 = .ok (.iload_n 2, 1) := by decide +kernel
theorem dX8_remove_150 : decode cX8_remove 150 = .ok (.aload_n 0, 1) := by decide +kernel
theorem dX8_remove_151 : decode cX8_remove 151 = .ok (.getfield 7, 3) := by decide +kernel
theorem dX8_remove_154 : decode cX8_remove 154 = .ok (.iconst 0, 1) := by decide +kernel
theorem dX8_remove_155 : decode cX8_remove 155 = .ok (.iaload, 1) := by decide +kernel
theorem dX8_remove_156 : decode cX8_remove 156 = .ok (.if_icmp .ge 31, 3) := by decide +kernel
theorem dX8_remove_159 : decode cX8_remove 159 = .ok (.aload_n 0, 1) := by decide +kernel
theorem dX8_remove_160 : decode cX8_remove 160 = .ok (.getfield 7, 3) := by decide +kernel
theorem dX8_remove_163 : decode cX8_remove 163 = .ok (.bipush 10, 2) := by decide +kernel
theorem dX8_remove_165 : decode cX8_remove 165 = .ok (.iload_n 2, 1) := by decide +kernel
theorem dX8_remove_166 : decode cX8_remove 166 = .ok (.iadd, 1) := by decide +kernel
theorem dX8_remove_167 : decode cX8_remove 167 = .ok (.aload_n 0, 1) := by decide +kernel
theorem dX8_remove_168 : decode cX8_remove 168 = .ok (.getfield 7, 3) := by decide +kernel
theorem dX8_remove_171 : decode cX8_remove 171 = .ok (.bipush 10, 2) := by decide +kernel
theorem dX8_remove_173 : decode cX8_remove 173 = .ok (.iload_n 2, 1) := by decide +kernel
theorem dX8_remove_174 : decode cX8_remove 174 = .ok (.iadd, 1) := by decide +kernel
theorem dX8_remove_175 : decode cX8_remove 175 = .ok (.iaload, 1) := by decide +kernel
theorem dX8_remove_176 : decode cX8_remove 176 = .ok (.iload_n 1, 1) := by decide +kernel
theorem dX8_remove_177 : decode cX8_remove 177 = .ok (.invokestatic 123, 3) := by decide +kernel
theorem dX8_remove_180 : decode cX8_remove 180 = .ok (.iastore, 1) := by decide +kernel
theorem dX8_remove_181 : decode cX8_remove 181 = .ok (.iinc 2 1, 3) := by decide +kernel
theorem dX8_remove_184 : decode cX8_remove 184 = .ok (.goto (-35), 3) := by decide +kernel
theorem dX8_remove_187 : decode cX8_remove 187 = .ok (.aload_n 0, 1) := by decide +kernel
theorem dX8_remove_188 : decode cX8_remove 188 = .ok (.invokevirtual 126, 3) := by decide +kernel
theorem dX8_remove_191 : decode cX8_remove 191 = .ok (.aload_n 0, 1) := by decide +kernel
theorem dX8_remove_192 : decode cX8_remove 192 = .ok (.getfield 7, 3) := by decide +kernel
theorem dX8_remove_195 : decode cX8_remove 195 = .ok (.iconst 0, 1) := by decide +kernel
theorem dX8_remove_196 : decode cX8_remove 196 = .ok (.iaload, 1) := by decide +kernel
theorem dX8_remove_197 : decode cX8_remove 197 = .ok (.ireturn, 1) := by decide +kernel
theorem dX8_clearBehind_0 : decode cX8_clearBehind 0 = .ok (.aload_n 0, 1) := by decide +kernel
theorem dX8_clearBehind_1 : decode cX8_clearBehind 1 = .ok (.getfield 7, 3) := by decide +kernel
theorem dX8_clearBehind_4 : decode cX8_clearBehind 4 = .ok (.iconst 0, 1) := by decide +kernel
theorem dX8_clearBehind_5 : decode cX8_clearBehind 5 = .ok (.iaload, 1) := by decide +kernel
theorem dX8_clearBehind_6 : decode cX8_clearBehind 6 = .ok (.istore_n 1, 1) := by decide +kernel
theorem dX8_clearBehind_7 : decode cX8_clearBehind 7 = .ok (.iload_n 1, 1) := by decide +kernel
theorem dX8_clearBehind_8 : decode cX8_clearBehind 8 = .ok (.bipush 8, 2) := by decide +kernel
theorem dX8_clearBehind_10 : decode cX8_clearBehind 10 = .ok (.if_icmp .ge 53, 3) := by decide +kernel
theorem dX8_clearBehind_13 : decode cX8_clearBehind 13 = .ok (.aload_n 0, 1) := by decide +kernel
theorem dX8_clearBehind_14 : decode cX8_clearBehind 14 = .ok (.getfield 7, 3) := by decide +kernel
theorem dX8_clearBehind_17 : decode cX8_clearBehind 17 = .ok (.iconst 2, 1) := by decide +kernel
theorem dX8_clearBehind_18 : decode cX8_clearBehind 18 = .ok (.iload_n 1, 1) := by decide +kernel
theorem dX8_clearBehind_19 : decode cX8_clearBehind 19 = .ok (.iadd, 1) := by decide +kernel
theorem dX8_clearBehind_20 : decode cX8_clearBehind 20 = .ok (.iconst 0, 1) := by decide +kernel
theorem dX8_clearBehind_21 : decode cX8_clearBehind 21 = .ok (.iastore, 1) := by decide +kernel
theorem dX8_clearBehind_22 : decode cX8_clearBehind 22 = .ok (.aload_n 0, 1) := by decide +kernel
theorem dX8_clearBehind_23 : decode cX8_clearBehind 23 = .ok (.getfield 7, 3) := by decide +kernel
theorem dX8_clearBehind_26 : decode cX8_clearBehind 26 = .ok (.bipush 10, 2) := by decide +kernel
theorem dX8_clearBehind_28 : decode cX8_clearBehind 28 = .ok (.iload_n 1, 1) := by decide +kernel
theorem dX8_clearBehind_29 : decode cX8_clearBehind 29 = .ok (.iadd, 1) := by decide +kernel
theorem dX8_clearBehind_30 : decode cX8_clearBehind 30 = .ok (.iconst 0, 1) := by decide +kernel
theorem dX8_clearBehind_31 : decode cX8_clearBehind 31 = .ok (.iastore, 1) := by decide +kernel
theorem dX8_clearBehind_32 : decode cX8_clearBehind 32 = .ok (.iconst 0, 1) := by decide +kernel
theorem dX8_clearBehind_33 : decode cX8_clearBehind 33 = .ok (.istore_n 2, 1) := by decide +kernel
theorem dX8_clearBehind_34 : decode cX8_clearBehind 34 = .ok (.iload_n 2, 1) := by decide +kernel
theorem dX8_clearBehind_35 : decode cX8_clearBehind 35 = .ok (.iconst 4, 1) := by decide +kernel
theorem dX8_clearBehind_36 : decode cX8_clearBehind 36 = .ok (.if_icmp .ge 21, 3) := by decide +kernel
theorem dX8_clearBehind_39 : decode cX8_clearBehind 39 = .ok (.aload_n 0, 1) := by decide +kernel
theorem dX8_clearBehind_40 : decode cX8_clearBehind 40 = .ok (.getfield 7, 3) := by decide +kernel
theorem dX8_clearBehind_43 : decode cX8_clearBehind 43 = .ok (.iload_n 1, 1) := by decide +kernel
theorem dX8_clearBehind_44 : decode cX8_clearBehind 44 = .ok (.invokestatic 56, 3) := by decide +kernel
theorem dX8_clearBehind_47 : decode cX8_clearBehind 47 = .ok (.iload_n 2, 1) := by decide +kernel
theorem dX8_clearBehind_48 : decode cX8_clearBehind 48 = .ok (.iadd, 1) := by decide +kernel
theorem dX8_clearBehind_49 : decode cX8_clearBehind 49 = .ok (.iconst 0, 1) := by decide +kernel
theorem dX8_clearBehind_50 : decode cX8_clearBehind 50 = .ok (.iastore, 1) := by decide +kernel
theorem dX8_clearBehind_51 : decode cX8_clearBehind 51 = .ok (.iinc 2 1, 3) := by decide +kernel
theorem dX8_clearBehind_54 : decode cX8_clearBehind 54 = .ok (.goto (-20), 3) := by decide +kernel
theorem dX8_clearBehind_57 : decode cX8_clearBehind 57 = .ok (.iinc 1 1, 3) := by decide +kernel
theorem dX8_clearBehind_60 : decode cX8_clearBehind 60 = .ok (.goto (-53), 3) := by decide +kernel
theorem dX8_clearBehind_63 : decode cX8_clearBehind 63 = .ok (.return_, 1) := by decide +kernel
theorem dX8_other_0 : decode cX8_other 0 = .ok (.aload_n 0, 1) := by decide +kernel
theorem dX8_other_1 : decode cX8_other 1 = .ok (.getfield 16, 3) := by decide +kernel
theorem dX8_other_4 : decode cX8_other 4 = .ok (.bipush 55, 2) := by decide +kernel
theorem dX8_other_6 : decode cX8_other 6 = .ok (.iload_n 1, 1) := by decide +kernel
theorem dX8_other_7 : decode cX8_other 7 = .ok (.imul, 1) := by decide +kernel
theorem dX8_other_8 : decode cX8_other 8 = .ok (.iload_n 2, 1) := by decide +kernel
theorem dX8_other_9 : decode cX8_other 9 = .ok (.iadd, 1) := by decide +kernel
theorem dX8_other_10 : decode cX8_other 10 = .ok (.iaload, 1) := by decide +kernel
theorem dX8_other_11 : decode cX8_other 11 = .ok (.ireturn, 1) := by decide +kernel
theorem dX8_layProduct_0 : decode cX8_layProduct 0 = .ok (.aload_n 0, 1) := by decide +kernel
theorem dX8_layProduct_1 : decode cX8_layProduct 1 = .ok (.iload_n 1, 1) := by decide +kernel
theorem dX8_layProduct_2 : decode cX8_layProduct 2 = .ok (.iconst 0, 1) := by decide +kernel
theorem dX8_layProduct_3 : decode cX8_layProduct 3 = .ok (.invokevirtual 129, 3) := by decide +kernel
theorem dX8_layProduct_6 : decode cX8_layProduct 6 = .ok (.istore_n 2, 1) := by decide +kernel
theorem dX8_layProduct_7 : decode cX8_layProduct 7 = .ok (.aload_n 0, 1) := by decide +kernel
theorem dX8_layProduct_8 : decode cX8_layProduct 8 = .ok (.iload_n 1, 1) := by decide +kernel
theorem dX8_layProduct_9 : decode cX8_layProduct 9 = .ok (.iconst 1, 1) := by decide +kernel
theorem dX8_layProduct_10 : decode cX8_layProduct 10 = .ok (.invokevirtual 129, 3) := by decide +kernel
theorem dX8_layProduct_13 : decode cX8_layProduct 13 = .ok (.istore_n 3, 1) := by decide +kernel
theorem dX8_layProduct_14 : decode cX8_layProduct 14 = .ok (.aload_n 0, 1) := by decide +kernel
theorem dX8_layProduct_15 : decode cX8_layProduct 15 = .ok (.getfield 7, 3) := by decide +kernel
theorem dX8_layProduct_18 : decode cX8_layProduct 18 = .ok (.iconst 0, 1) := by decide +kernel
theorem dX8_layProduct_19 : decode cX8_layProduct 19 = .ok (.iaload, 1) := by decide +kernel
theorem dX8_layProduct_20 : decode cX8_layProduct 20 = .ok (.iload_n 2, 1) := by decide +kernel
theorem dX8_layProduct_21 : decode cX8_layProduct 21 = .ok (.imul, 1) := by decide +kernel
theorem dX8_layProduct_22 : decode cX8_layProduct 22 = .ok (.bipush 8, 2) := by decide +kernel
theorem dX8_layProduct_24 : decode cX8_layProduct 24 = .ok (.if_icmp .le 5, 3) := by decide +kernel
theorem dX8_layProduct_27 : decode cX8_layProduct 27 = .ok (.iconst 1, 1) := by decide +kernel
theorem dX8_layProduct_28 : decode cX8_layProduct 28 = .ok (.ireturn, 1) := by decide +kernel
theorem dX8_layProduct_29 : decode cX8_layProduct 29 = .ok (.aload_n 0, 1) := by decide +kernel
theorem dX8_layProduct_30 : decode cX8_layProduct 30 = .ok (.getfield 7, 3) := by decide +kernel
theorem dX8_layProduct_33 : decode cX8_layProduct 33 = .ok (.iconst 1, 1) := by decide +kernel
theorem dX8_layProduct_34 : decode cX8_layProduct 34 = .ok (.iaload, 1) := by decide +kernel
theorem dX8_layProduct_35 : decode cX8_layProduct 35 = .ok (.iload_n 3, 1) := by decide +kernel
theorem dX8_layProduct_36 : decode cX8_layProduct 36 = .ok (.imul, 1) := by decide +kernel
theorem dX8_layProduct_37 : decode cX8_layProduct 37 = .ok (.iconst 4, 1) := by decide +kernel
theorem dX8_layProduct_38 : decode cX8_layProduct 38 = .ok (.if_icmp .le 5, 3) := by decide +kernel
theorem dX8_layProduct_41 : decode cX8_layProduct 41 = .ok (.iconst 2, 1) := by decide +kernel
theorem dX8_layProduct_42 : decode cX8_layProduct 42 = .ok (.ireturn, 1) := by decide +kernel
theorem dX8_layProduct_43 : decode cX8_layProduct 43 = .ok (.iconst 1, 1) := by decide +kernel
theorem dX8_layProduct_44 : decode cX8_layProduct 44 = .ok (.istore 4, 2) := by decide +kernel
theorem dX8_layProduct_46 : decode cX8_layProduct 46 = .ok (.iconst 1, 1) := by decide +kernel
theorem dX8_layProduct_47 : decode cX8_layProduct 47 = .ok (.istore 5, 2) := by decide +kernel
theorem dX8_layProduct_49 : decode cX8_layProduct 49 = .ok (.iconst 0, 1) := by decide +kernel
theorem dX8_layProduct_50 : decode cX8_layProduct 50 = .ok (.istore 6, 2) := by decide +kernel
theorem dX8_layProduct_52 : decode cX8_layProduct 52 = .ok (.iload 6, 2) := by decide +kernel
theorem dX8_layProduct_54 : decode cX8_layProduct 54 = .ok (.bipush 55, 2) := by decide +kernel
theorem dX8_layProduct_56 : decode cX8_layProduct 56 = .ok (.if_icmp .ge 17, 3) := by decide +kernel
theorem dX8_layProduct_59 : decode cX8_layProduct 59 = .ok (.aload_n 0, 1) := by decide +kernel
theorem dX8_layProduct_60 : decode cX8_layProduct 60 = .ok (.getfield 28, 3) := by decide +kernel
theorem dX8_layProduct_63 : decode cX8_layProduct 63 = .ok (.iload 6, 2) := by decide +kernel
theorem dX8_layProduct_65 : decode cX8_layProduct 65 = .ok (.iconst 0, 1) := by decide +kernel
theorem dX8_layProduct_66 : decode cX8_layProduct 66 = .ok (.iastore, 1) := by decide +kernel
theorem dX8_layProduct_67 : decode cX8_layProduct 67 = .ok (.iinc 6 1, 3) := by decide +kernel
theorem dX8_layProduct_70 : decode cX8_layProduct 70 = .ok (.goto (-18), 3) := by decide +kernel
theorem dX8_layProduct_73 : decode cX8_layProduct 73 = .ok (.aload_n 0, 1) := by decide +kernel
theorem dX8_layProduct_74 : decode cX8_layProduct 74 = .ok (.getfield 28, 3) := by decide +kernel
theorem dX8_layProduct_77 : decode cX8_layProduct 77 = .ok (.iconst 0, 1) := by decide +kernel
theorem dX8_layProduct_78 : decode cX8_layProduct 78 = .ok (.aload_n 0, 1) := by decide +kernel
theorem dX8_layProduct_79 : decode cX8_layProduct 79 = .ok (.getfield 7, 3) := by decide +kernel
theorem dX8_layProduct_82 : decode cX8_layProduct 82 = .ok (.iconst 0, 1) := by decide +kernel
theorem dX8_layProduct_83 : decode cX8_layProduct 83 = .ok (.iaload, 1) := by decide +kernel
theorem dX8_layProduct_84 : decode cX8_layProduct 84 = .ok (.iload_n 2, 1) := by decide +kernel
theorem dX8_layProduct_85 : decode cX8_layProduct 85 = .ok (.imul, 1) := by decide +kernel
theorem dX8_layProduct_86 : decode cX8_layProduct 86 = .ok (.iastore, 1) := by decide +kernel
theorem dX8_layProduct_87 : decode cX8_layProduct 87 = .ok (.aload_n 0, 1) := by decide +kernel
theorem dX8_layProduct_88 : decode cX8_layProduct 88 = .ok (.getfield 28, 3) := by decide +kernel
theorem dX8_layProduct_91 : decode cX8_layProduct 91 = .ok (.iconst 1, 1) := by decide +kernel
theorem dX8_layProduct_92 : decode cX8_layProduct 92 = .ok (.aload_n 0, 1) := by decide +kernel
theorem dX8_layProduct_93 : decode cX8_layProduct 93 = .ok (.getfield 7, 3) := by decide +kernel
theorem dX8_layProduct_96 : decode cX8_layProduct 96 = .ok (.iconst 1, 1) := by decide +kernel
theorem dX8_layProduct_97 : decode cX8_layProduct 97 = .ok (.iaload, 1) := by decide +kernel
theorem dX8_layProduct_98 : decode cX8_layProduct 98 = .ok (.iload_n 3, 1) := by decide +kernel
theorem dX8_layProduct_99 : decode cX8_layProduct 99 = .ok (.imul, 1) := by decide +kernel
theorem dX8_layProduct_100 : decode cX8_layProduct 100 = .ok (.iastore, 1) := by decide +kernel
theorem dX8_layProduct_101 : decode cX8_layProduct 101 = .ok (.iconst 0, 1) := by decide +kernel
theorem dX8_layProduct_102 : decode cX8_layProduct 102 = .ok (.istore 6, 2) := by decide +kernel
theorem dX8_layProduct_104 : decode cX8_layProduct 104 = .ok (.iload 6, 2) := by decide +kernel
theorem dX8_layProduct_106 : decode cX8_layProduct 106 = .ok (.aload_n 0, 1) := by decide +kernel
theorem dX8_layProduct_107 : decode cX8_layProduct 107 = .ok (.getfield 28, 3) := by decide +kernel
theorem dX8_layProduct_110 : decode cX8_layProduct 110 = .ok (.iconst 0, 1) := by decide +kernel
theorem dX8_layProduct_111 : decode cX8_layProduct 111 = .ok (.iaload, 1) := by decide +kernel
theorem dX8_layProduct_112 : decode cX8_layProduct 112 = .ok (.if_icmp .ge 246, 3) := by decide +kernel
theorem dX8_layProduct_115 : decode cX8_layProduct 115 = .ok (.aload_n 0, 1) := by decide +kernel
theorem dX8_layProduct_116 : decode cX8_layProduct 116 = .ok (.getfield 28, 3) := by decide +kernel
theorem dX8_layProduct_119 : decode cX8_layProduct 119 = .ok (.iconst 2, 1) := by decide +kernel
theorem dX8_layProduct_120 : decode cX8_layProduct 120 = .ok (.iload 6, 2) := by decide +kernel
theorem dX8_layProduct_122 : decode cX8_layProduct 122 = .ok (.iadd, 1) := by decide +kernel
theorem dX8_layProduct_123 : decode cX8_layProduct 123 = .ok (.aload_n 0, 1) := by decide +kernel
theorem dX8_layProduct_124 : decode cX8_layProduct 124 = .ok (.iload 6, 2) := by decide +kernel
theorem dX8_layProduct_126 : decode cX8_layProduct 126 = .ok (.iload_n 2, 1) := by decide +kernel
theorem dX8_layProduct_127 : decode cX8_layProduct 127 = .ok (.idiv, 1) := by decide +kernel
theorem dX8_layProduct_128 : decode cX8_layProduct 128 = .ok (.invokevirtual 70, 3) := by decide +kernel
theorem dX8_layProduct_131 : decode cX8_layProduct 131 = .ok (.aload_n 0, 1) := by decide +kernel
theorem dX8_layProduct_132 : decode cX8_layProduct 132 = .ok (.iload_n 1, 1) := by decide +kernel
theorem dX8_layProduct_133 : decode cX8_layProduct 133 = .ok (.iconst 2, 1) := by decide +kernel
theorem dX8_layProduct_134 : decode cX8_layProduct 134 = .ok (.iload 6, 2) := by decide +kernel
theorem dX8_layProduct_136 : decode cX8_layProduct 136 = .ok (.iload_n 2, 1) := by decide +kernel
theorem dX8_layProduct_137 : decode cX8_layProduct 137 = .ok (.irem, 1) := by decide +kernel
theorem dX8_layProduct_138 : decode cX8_layProduct 138 = .ok (.iadd, 1) := by decide +kernel
theorem dX8_layProduct_139 : decode cX8_layProduct 139 = .ok (.invokevirtual 129, 3) := by decide +kernel
theorem dX8_layProduct_142 : decode cX8_layProduct 142 = .ok (.imul, 1) := by decide +kernel
theorem dX8_layProduct_143 : decode cX8_layProduct 143 = .ok (.iastore, 1) := by decide +kernel
theorem dX8_layProduct_144 : decode cX8_layProduct 144 = .ok (.iload 4, 2) := by decide +kernel
theorem dX8_layProduct_146 : decode cX8_layProduct 146 = .ok (.ifCond .eq 21, 3) := by decide +kernel
theorem dX8_layProduct_149 : decode cX8_layProduct 149 = .ok (.aload_n 0, 1) := by decide +kernel
theorem dX8_layProduct_150 : decode cX8_layProduct 150 = .ok (.getfield 28, 3) := by decide +kernel
theorem dX8_layProduct_153 : decode cX8_layProduct 153 = .ok (.iconst 2, 1) := by decide +kernel
theorem dX8_layProduct_154 : decode cX8_layProduct 154 = .ok (.iload 6, 2) := by decide +kernel
theorem dX8_layProduct_156 : decode cX8_layProduct 156 = .ok (.iadd, 1) := by decide +kernel
theorem dX8_layProduct_157 : decode cX8_layProduct 157 = .ok (.iaload, 1) := by decide +kernel
theorem dX8_layProduct_158 : decode cX8_layProduct 158 = .ok (.bipush 9, 2) := by decide +kernel
theorem dX8_layProduct_160 : decode cX8_layProduct 160 = .ok (.if_icmp .gt 7, 3) := by decide +kernel
theorem dX8_layProduct_163 : decode cX8_layProduct 163 = .ok (.iconst 1, 1) := by decide +kernel
theorem dX8_layProduct_164 : decode cX8_layProduct 164 = .ok (.goto 4, 3) := by decide +kernel
theorem dX8_layProduct_167 : decode cX8_layProduct 167 = .ok (.iconst 0, 1) := by decide +kernel
theorem dX8_layProduct_168 : decode cX8_layProduct 168 = .ok (.istore 4, 2) := by decide +kernel
theorem dX8_layProduct_170 : decode cX8_layProduct 170 = .ok (.iconst 0, 1) := by decide +kernel
theorem dX8_layProduct_171 : decode cX8_layProduct 171 = .ok (.istore 7, 2) := by decide +kernel
theorem dX8_layProduct_173 : decode cX8_layProduct 173 = .ok (.iload 7, 2) := by decide +kernel
theorem dX8_layProduct_175 : decode cX8_layProduct 175 = .ok (.aload_n 0, 1) := by decide +kernel
theorem dX8_layProduct_176 : decode cX8_layProduct 176 = .ok (.getfield 28, 3) := by decide +kernel
theorem dX8_layProduct_179 : decode cX8_layProduct 179 = .ok (.iconst 0, 1) := by decide +kernel
theorem dX8_layProduct_180 : decode cX8_layProduct 180 = .ok (.iaload, 1) := by decide +kernel
theorem dX8_layProduct_181 : decode cX8_layProduct 181 = .ok (.if_icmp .ge 79, 3) := by decide +kernel
theorem dX8_layProduct_184 : decode cX8_layProduct 184 = .ok (.aload_n 0, 1) := by decide +kernel
theorem dX8_layProduct_185 : decode cX8_layProduct 185 = .ok (.iload 6, 2) := by decide +kernel
theorem dX8_layProduct_187 : decode cX8_layProduct 187 = .ok (.iload_n 2, 1) := by decide +kernel
theorem dX8_layProduct_188 : decode cX8_layProduct 188 = .ok (.idiv, 1) := by decide +kernel
theorem dX8_layProduct_189 : decode cX8_layProduct 189 = .ok (.iload 7, 2) := by decide +kernel
theorem dX8_layProduct_191 : decode cX8_layProduct 191 = .ok (.iload_n 2, 1) := by decide +kernel
theorem dX8_layProduct_192 : decode cX8_layProduct 192 = .ok (.idiv, 1) := by decide +kernel
theorem dX8_layProduct_193 : decode cX8_layProduct 193 = .ok (.invokevirtual 67, 3) := by decide +kernel
theorem dX8_layProduct_196 : decode cX8_layProduct 196 = .ok (.ifCond .ne 25, 3) := by decide +kernel
theorem dX8_layProduct_199 : decode cX8_layProduct 199 = .ok (.aload_n 0, 1) := by decide +kernel
theorem dX8_layProduct_200 : decode cX8_layProduct 200 = .ok (.iload_n 1, 1) := by decide +kernel
theorem dX8_layProduct_201 : decode cX8_layProduct 201 = .ok (.bipush 10, 2) := by decide +kernel
theorem dX8_layProduct_203 : decode cX8_layProduct 203 = .ok (.iload 6, 2) := by decide +kernel
theorem dX8_layProduct_205 : decode cX8_layProduct 205 = .ok (.iload_n 2, 1) := by decide +kernel
theorem dX8_layProduct_206 : decode cX8_layProduct 206 = .ok (.irem, 1) := by decide +kernel
theorem dX8_layProduct_207 : decode cX8_layProduct 207 = .ok (.iadd, 1) := by decide +kernel
theorem dX8_layProduct_208 : decode cX8_layProduct 208 = .ok (.invokevirtual 129, 3) := by decide +kernel
theorem dX8_layProduct_211 : decode cX8_layProduct 211 = .ok (.iload 7, 2) := by decide +kernel
theorem dX8_layProduct_213 : decode cX8_layProduct 213 = .ok (.iload_n 2, 1) := by decide +kernel
theorem dX8_layProduct_214 : decode cX8_layProduct 214 = .ok (.irem, 1) := by decide +kernel
theorem dX8_layProduct_215 : decode cX8_layProduct 215 = .ok (.invokestatic 52, 3) := by decide +kernel
theorem dX8_layProduct_218 : decode cX8_layProduct 218 = .ok (.ifCond .eq 7, 3) := by decide +kernel
theorem dX8_layProduct_221 : decode cX8_layProduct 221 = .ok (.iconst 1, 1) := by decide +kernel
theorem dX8_layProduct_222 : decode cX8_layProduct 222 = .ok (.goto 4, 3) := by decide +kernel
theorem dX8_layProduct_225 : decode cX8_layProduct 225 = .ok (.iconst 0, 1) := by decide +kernel
theorem dX8_layProduct_226 : decode cX8_layProduct 226 = .ok (.istore 8, 2) := by decide +kernel
theorem dX8_layProduct_228 : decode cX8_layProduct 228 = .ok (.aload_n 0, 1) := by decide +kernel
theorem dX8_layProduct_229 : decode cX8_layProduct 229 = .ok (.getfield 28, 3) := by decide +kernel
theorem dX8_layProduct_232 : decode cX8_layProduct 232 = .ok (.bipush 10, 2) := by decide +kernel
theorem dX8_layProduct_234 : decode cX8_layProduct 234 = .ok (.iload 6, 2) := by decide +kernel
theorem dX8_layProduct_236 : decode cX8_layProduct 236 = .ok (.iadd, 1) := by decide +kernel
theorem dX8_layProduct_237 : decode cX8_layProduct 237 = .ok (.dup2, 1) := by decide +kernel
theorem dX8_layProduct_238 : decode cX8_layProduct 238 = .ok (.iaload, 1) := by decide +kernel
theorem dX8_layProduct_239 : decode cX8_layProduct 239 = .ok (.iload 8, 2) := by decide +kernel
theorem dX8_layProduct_241 : decode cX8_layProduct 241 = .ok (.ifCond .eq 10, 3) := by decide +kernel
theorem dX8_layProduct_244 : decode cX8_layProduct 244 = .ok (.iconst 1, 1) := by decide +kernel
theorem dX8_layProduct_245 : decode cX8_layProduct 245 = .ok (.iload 7, 2) := by decide +kernel
theorem dX8_layProduct_247 : decode cX8_layProduct 247 = .ok (.ishl, 1) := by decide +kernel
theorem dX8_layProduct_248 : decode cX8_layProduct 248 = .ok (.goto 4, 3) := by decide +kernel
theorem dX8_layProduct_251 : decode cX8_layProduct 251 = .ok (.iconst 0, 1) := by decide +kernel
theorem dX8_layProduct_252 : decode cX8_layProduct 252 = .ok (.ior, 1) := by decide +kernel
theorem dX8_layProduct_253 : decode cX8_layProduct 253 = .ok (.iastore, 1) := by decide +kernel
theorem dX8_layProduct_254 : decode cX8_layProduct 254 = .ok (.iinc 7 1, 3) := by decide +kernel
theorem dX8_layProduct_257 : decode cX8_layProduct 257 = .ok (.goto (-84), 3) := by decide +kernel
theorem dX8_layProduct_260 : decode cX8_layProduct 260 = .ok (.iconst 0, 1) := by decide +kernel
theorem dX8_layProduct_261 : decode cX8_layProduct 261 = .ok (.istore 7, 2) := by decide +kernel
theorem dX8_layProduct_263 : decode cX8_layProduct 263 = .ok (.iload 7, 2) := by decide +kernel
theorem dX8_layProduct_265 : decode cX8_layProduct 265 = .ok (.aload_n 0, 1) := by decide +kernel
theorem dX8_layProduct_266 : decode cX8_layProduct 266 = .ok (.getfield 28, 3) := by decide +kernel
theorem dX8_layProduct_269 : decode cX8_layProduct 269 = .ok (.iconst 1, 1) := by decide +kernel
theorem dX8_layProduct_270 : decode cX8_layProduct 270 = .ok (.iaload, 1) := by decide +kernel
theorem dX8_layProduct_271 : decode cX8_layProduct 271 = .ok (.if_icmp .ge 81, 3) := by decide +kernel
theorem dX8_layProduct_274 : decode cX8_layProduct 274 = .ok (.aload_n 0, 1) := by decide +kernel
theorem dX8_layProduct_275 : decode cX8_layProduct 275 = .ok (.getfield 7, 3) := by decide +kernel
theorem dX8_layProduct_278 : decode cX8_layProduct 278 = .ok (.iload 6, 2) := by decide +kernel
theorem dX8_layProduct_280 : decode cX8_layProduct 280 = .ok (.iload_n 2, 1) := by decide +kernel
theorem dX8_layProduct_281 : decode cX8_layProduct 281 = .ok (.idiv, 1) := by decide +kernel
theorem dX8_layProduct_282 : decode cX8_layProduct 282 = .ok (.invokestatic 56, 3) := by decide +kernel
theorem dX8_layProduct_285 : decode cX8_layProduct 285 = .ok (.iload 7, 2) := by decide +kernel
theorem dX8_layProduct_287 : decode cX8_layProduct 287 = .ok (.iload_n 3, 1) := by decide +kernel
theorem dX8_layProduct_288 : decode cX8_layProduct 288 = .ok (.idiv, 1) := by decide +kernel
theorem dX8_layProduct_289 : decode cX8_layProduct 289 = .ok (.iadd, 1) := by decide +kernel
theorem dX8_layProduct_290 : decode cX8_layProduct 290 = .ok (.iaload, 1) := by decide +kernel
theorem dX8_layProduct_291 : decode cX8_layProduct 291 = .ok (.aload_n 0, 1) := by decide +kernel
theorem dX8_layProduct_292 : decode cX8_layProduct 292 = .ok (.iload_n 1, 1) := by decide +kernel
theorem dX8_layProduct_293 : decode cX8_layProduct 293 = .ok (.iload 6, 2) := by decide +kernel
theorem dX8_layProduct_295 : decode cX8_layProduct 295 = .ok (.iload_n 2, 1) := by decide +kernel
theorem dX8_layProduct_296 : decode cX8_layProduct 296 = .ok (.irem, 1) := by decide +kernel
theorem dX8_layProduct_297 : decode cX8_layProduct 297 = .ok (.invokestatic 56, 3) := by decide +kernel
theorem dX8_layProduct_300 : decode cX8_layProduct 300 = .ok (.iload 7, 2) := by decide +kernel
theorem dX8_layProduct_302 : decode cX8_layProduct 302 = .ok (.iload_n 3, 1) := by decide +kernel
theorem dX8_layProduct_303 : decode cX8_layProduct 303 = .ok (.irem, 1) := by decide +kernel
theorem dX8_layProduct_304 : decode cX8_layProduct 304 = .ok (.iadd, 1) := by decide +kernel
theorem dX8_layProduct_305 : decode cX8_layProduct 305 = .ok (.invokevirtual 129, 3) := by decide +kernel
theorem dX8_layProduct_308 : decode cX8_layProduct 308 = .ok (.imul, 1) := by decide +kernel
theorem dX8_layProduct_309 : decode cX8_layProduct 309 = .ok (.istore 8, 2) := by decide +kernel
theorem dX8_layProduct_311 : decode cX8_layProduct 311 = .ok (.aload_n 0, 1) := by decide +kernel
theorem dX8_layProduct_312 : decode cX8_layProduct 312 = .ok (.getfield 28, 3) := by decide +kernel
theorem dX8_layProduct_315 : decode cX8_layProduct 315 = .ok (.iload 6, 2) := by decide +kernel
theorem dX8_layProduct_317 : decode cX8_layProduct 317 = .ok (.invokestatic 56, 3) := by decide +kernel
theorem dX8_layProduct_320 : decode cX8_layProduct 320 = .ok (.iload 7, 2) := by decide +kernel
theorem dX8_layProduct_322 : decode cX8_layProduct 322 = .ok (.iadd, 1) := by decide +kernel
theorem dX8_layProduct_323 : decode cX8_layProduct 323 = .ok (.iload 8, 2) := by decide +kernel
theorem dX8_layProduct_325 : decode cX8_layProduct 325 = .ok (.iastore, 1) := by decide +kernel
theorem dX8_layProduct_326 : decode cX8_layProduct 326 = .ok (.iload 5, 2) := by decide +kernel
theorem dX8_layProduct_328 : decode cX8_layProduct 328 = .ok (.ifCond .eq 15, 3) := by decide +kernel
theorem dX8_layProduct_331 : decode cX8_layProduct 331 = .ok (.iload 8, 2) := by decide +kernel
theorem dX8_layProduct_333 : decode cX8_layProduct 333 = .ok (.invokestatic 132, 3) := by decide +kernel
theorem dX8_layProduct_336 : decode cX8_layProduct 336 = .ok (.ifCond .eq 7, 3) := by decide +kernel
theorem dX8_layProduct_339 : decode cX8_layProduct 339 = .ok (.iconst 1, 1) := by decide +kernel
theorem dX8_layProduct_340 : decode cX8_layProduct 340 = .ok (.goto 4, 3) := by decide +kernel
theorem dX8_layProduct_343 : decode cX8_layProduct 343 = .ok (.iconst 0, 1) := by decide +kernel
theorem dX8_layProduct_344 : decode cX8_layProduct 344 = .ok (.istore 5, 2) := by decide +kernel
theorem dX8_layProduct_346 : decode cX8_layProduct 346 = .ok (.iinc 7 1, 3) := by decide +kernel
theorem dX8_layProduct_349 : decode cX8_layProduct 349 = .ok (.goto (-86), 3) := by decide +kernel
theorem dX8_layProduct_352 : decode cX8_layProduct 352 = .ok (.iinc 6 1, 3) := by decide +kernel
theorem dX8_layProduct_355 : decode cX8_layProduct 355 = .ok (.goto (-251), 3) := by decide +kernel
theorem dX8_layProduct_358 : decode cX8_layProduct 358 = .ok (.iconst 0, 1) := by decide +kernel
theorem dX8_layProduct_359 : decode cX8_layProduct 359 = .ok (.istore 6, 2) := by decide +kernel
theorem dX8_layProduct_361 : decode cX8_layProduct 361 = .ok (.iload 6, 2) := by decide +kernel
theorem dX8_layProduct_363 : decode cX8_layProduct 363 = .ok (.aload_n 0, 1) := by decide +kernel
theorem dX8_layProduct_364 : decode cX8_layProduct 364 = .ok (.getfield 28, 3) := by decide +kernel
theorem dX8_layProduct_367 : decode cX8_layProduct 367 = .ok (.iconst 1, 1) := by decide +kernel
theorem dX8_layProduct_368 : decode cX8_layProduct 368 = .ok (.iaload, 1) := by decide +kernel
theorem dX8_layProduct_369 : decode cX8_layProduct 369 = .ok (.if_icmp .ge 72, 3) := by decide +kernel
theorem dX8_layProduct_372 : decode cX8_layProduct 372 = .ok (.aload_n 0, 1) := by decide +kernel
theorem dX8_layProduct_373 : decode cX8_layProduct 373 = .ok (.getfield 28, 3) := by decide +kernel
theorem dX8_layProduct_376 : decode cX8_layProduct 376 = .ok (.bipush 50, 2) := by decide +kernel
theorem dX8_layProduct_378 : decode cX8_layProduct 378 = .ok (.iload 6, 2) := by decide +kernel
theorem dX8_layProduct_380 : decode cX8_layProduct 380 = .ok (.iadd, 1) := by decide +kernel
theorem dX8_layProduct_381 : decode cX8_layProduct 381 = .ok (.aload_n 0, 1) := by decide +kernel
theorem dX8_layProduct_382 : decode cX8_layProduct 382 = .ok (.getfield 7, 3) := by decide +kernel
theorem dX8_layProduct_385 : decode cX8_layProduct 385 = .ok (.bipush 50, 2) := by decide +kernel
theorem dX8_layProduct_387 : decode cX8_layProduct 387 = .ok (.iload 6, 2) := by decide +kernel
theorem dX8_layProduct_389 : decode cX8_layProduct 389 = .ok (.iload_n 3, 1) := by decide +kernel
theorem dX8_layProduct_390 : decode cX8_layProduct 390 = .ok (.idiv, 1) := by decide +kernel
theorem dX8_layProduct_391 : decode cX8_layProduct 391 = .ok (.iadd, 1) := by decide +kernel
theorem dX8_layProduct_392 : decode cX8_layProduct 392 = .ok (.iaload, 1) := by decide +kernel
theorem dX8_layProduct_393 : decode cX8_layProduct 393 = .ok (.aload_n 0, 1) := by decide +kernel
theorem dX8_layProduct_394 : decode cX8_layProduct 394 = .ok (.iload_n 1, 1) := by decide +kernel
theorem dX8_layProduct_395 : decode cX8_layProduct 395 = .ok (.bipush 50, 2) := by decide +kernel
theorem dX8_layProduct_397 : decode cX8_layProduct 397 = .ok (.iload 6, 2) := by decide +kernel
theorem dX8_layProduct_399 : decode cX8_layProduct 399 = .ok (.iload_n 3, 1) := by decide +kernel
theorem dX8_layProduct_400 : decode cX8_layProduct 400 = .ok (.irem, 1) := by decide +kernel
theorem dX8_layProduct_401 : decode cX8_layProduct 401 = .ok (.iadd, 1) := by decide +kernel
theorem dX8_layProduct_402 : decode cX8_layProduct 402 = .ok (.invokevirtual 129, 3) := by decide +kernel
theorem dX8_layProduct_405 : decode cX8_layProduct 405 = .ok (.imul, 1) := by decide +kernel
theorem dX8_layProduct_406 : decode cX8_layProduct 406 = .ok (.iastore, 1) := by decide +kernel
theorem dX8_layProduct_407 : decode cX8_layProduct 407 = .ok (.iload 5, 2) := by decide +kernel
theorem dX8_layProduct_409 : decode cX8_layProduct 409 = .ok (.ifCond .eq 23, 3) := by decide +kernel
theorem dX8_layProduct_412 : decode cX8_layProduct 412 = .ok (.aload_n 0, 1) := by decide +kernel
theorem dX8_layProduct_413 : decode cX8_layProduct 413 = .ok (.getfield 28, 3) := by decide +kernel
theorem dX8_layProduct_416 : decode cX8_layProduct 416 = .ok (.bipush 50, 2) := by decide +kernel
theorem dX8_layProduct_418 : decode cX8_layProduct 418 = .ok (.iload 6, 2) := by decide +kernel
theorem dX8_layProduct_420 : decode cX8_layProduct 420 = .ok (.iadd, 1) := by decide +kernel
theorem dX8_layProduct_421 : decode cX8_layProduct 421 = .ok (.iaload, 1) := by decide +kernel
theorem dX8_layProduct_422 : decode cX8_layProduct 422 = .ok (.invokestatic 132, 3) := by decide +kernel
theorem dX8_layProduct_425 : decode cX8_layProduct 425 = .ok (.ifCond .eq 7, 3) := by decide +kernel
theorem dX8_layProduct_428 : decode cX8_layProduct 428 = .ok (.iconst 1, 1) := by decide +kernel
theorem dX8_layProduct_429 : decode cX8_layProduct 429 = .ok (.goto 4, 3) := by decide +kernel
theorem dX8_layProduct_432 : decode cX8_layProduct 432 = .ok (.iconst 0, 1) := by decide +kernel
theorem dX8_layProduct_433 : decode cX8_layProduct 433 = .ok (.istore 5, 2) := by decide +kernel
theorem dX8_layProduct_435 : decode cX8_layProduct 435 = .ok (.iinc 6 1, 3) := by decide +kernel
theorem dX8_layProduct_438 : decode cX8_layProduct 438 = .ok (.goto (-77), 3) := by decide +kernel
theorem dX8_layProduct_441 : decode cX8_layProduct 441 = .ok (.iload 4, 2) := by decide +kernel
theorem dX8_layProduct_443 : decode cX8_layProduct 443 = .ok (.ifCond .ne 7, 3) := by decide +kernel
theorem dX8_layProduct_446 : decode cX8_layProduct 446 = .ok (.iconst 3, 1) := by decide +kernel
theorem dX8_layProduct_447 : decode cX8_layProduct 447 = .ok (.goto 13, 3) := by decide +kernel
theorem dX8_layProduct_450 : decode cX8_layProduct 450 = .ok (.iload 5, 2) := by decide +kernel
theorem dX8_layProduct_452 : decode cX8_layProduct 452 = .ok (.ifCond .ne 7, 3) := by decide +kernel
theorem dX8_layProduct_455 : decode cX8_layProduct 455 = .ok (.iconst 4, 1) := by decide +kernel
theorem dX8_layProduct_456 : decode cX8_layProduct 456 = .ok (.goto 4, 3) := by decide +kernel
theorem dX8_layProduct_459 : decode cX8_layProduct 459 = .ok (.iconst 0, 1) := by decide +kernel
theorem dX8_layProduct_460 : decode cX8_layProduct 460 = .ok (.ireturn, 1) := by decide +kernel
theorem dX8_isSnapshot_0 : decode cX8_isSnapshot 0 = .ok (.iload_n 0, 1) := by decide +kernel
theorem dX8_isSnapshot_1 : decode cX8_isSnapshot 1 = .ok (.iconst 0, 1) := by decide +kernel
theorem dX8_isSnapshot_2 : decode cX8_isSnapshot 2 = .ok (.iconst 1, 1) := by decide +kernel
theorem dX8_isSnapshot_3 : decode cX8_isSnapshot 3 = .ok (.invokestatic 48, 3) := by decide +kernel
theorem dX8_isSnapshot_6 : decode cX8_isSnapshot 6 = .ok (.ireturn, 1) := by decide +kernel
theorem dX8_refusedSnapshot_0 : decode cX8_refusedSnapshot 0 = .ok (.iload_n 1, 1) := by decide +kernel
theorem dX8_refusedSnapshot_1 : decode cX8_refusedSnapshot 1 = .ok (.invokestatic 135, 3) := by decide +kernel
theorem dX8_refusedSnapshot_4 : decode cX8_refusedSnapshot 4 = .ok (.ifCond .ne 7, 3) := by decide +kernel
theorem dX8_refusedSnapshot_7 : decode cX8_refusedSnapshot 7 = .ok (.iconst 1, 1) := by decide +kernel
theorem dX8_refusedSnapshot_8 : decode cX8_refusedSnapshot 8 = .ok (.goto 18, 3) := by decide +kernel
theorem dX8_refusedSnapshot_11 : decode cX8_refusedSnapshot 11 = .ok (.aload_n 0, 1) := by decide +kernel
theorem dX8_refusedSnapshot_12 : decode cX8_refusedSnapshot 12 = .ok (.getfield 19, 3) := by decide +kernel
theorem dX8_refusedSnapshot_15 : decode cX8_refusedSnapshot 15 = .ok (.iload_n 1, 1) := by decide +kernel
theorem dX8_refusedSnapshot_16 : decode cX8_refusedSnapshot 16 = .ok (.iaload, 1) := by decide +kernel
theorem dX8_refusedSnapshot_17 : decode cX8_refusedSnapshot 17 = .ok (.iconst 1, 1) := by decide +kernel
theorem dX8_refusedSnapshot_18 : decode cX8_refusedSnapshot 18 = .ok (.if_icmp .ne 7, 3) := by decide +kernel
theorem dX8_refusedSnapshot_21 : decode cX8_refusedSnapshot 21 = .ok (.iconst 0, 1) := by decide +kernel
theorem dX8_refusedSnapshot_22 : decode cX8_refusedSnapshot 22 = .ok (.goto 4, 3) := by decide +kernel
theorem dX8_refusedSnapshot_25 : decode cX8_refusedSnapshot 25 = .ok (.iconst 2, 1) := by decide +kernel
theorem dX8_refusedSnapshot_26 : decode cX8_refusedSnapshot 26 = .ok (.ireturn, 1) := by decide +kernel
theorem dX8_multiply_0 : decode cX8_multiply 0 = .ok (.aload_n 0, 1) := by decide +kernel
theorem dX8_multiply_1 : decode cX8_multiply 1 = .ok (.aload_n 0, 1) := by decide +kernel
theorem dX8_multiply_2 : decode cX8_multiply 2 = .ok (.iload_n 1, 1) := by decide +kernel
theorem dX8_multiply_3 : decode cX8_multiply 3 = .ok (.invokevirtual 138, 3) := by decide +kernel
theorem dX8_multiply_6 : decode cX8_multiply 6 = .ok (.putfield 41, 3) := by decide +kernel
theorem dX8_multiply_9 : decode cX8_multiply 9 = .ok (.aload_n 0, 1) := by decide +kernel
theorem dX8_multiply_10 : decode cX8_multiply 10 = .ok (.getfield 41, 3) := by decide +kernel
theorem dX8_multiply_13 : decode cX8_multiply 13 = .ok (.ifCond .ne 20, 3) := by decide +kernel
theorem dX8_multiply_16 : decode cX8_multiply 16 = .ok (.aload_n 0, 1) := by decide +kernel
theorem dX8_multiply_17 : decode cX8_multiply 17 = .ok (.aload_n 0, 1) := by decide +kernel
theorem dX8_multiply_18 : decode cX8_multiply 18 = .ok (.iload_n 1, 1) := by decide +kernel
theorem dX8_multiply_19 : decode cX8_multiply 19 = .ok (.invokevirtual 141, 3) := by decide +kernel
theorem dX8_multiply_22 : decode cX8_multiply 22 = .ok (.ifCond .ne 7, 3) := by decide +kernel
theorem dX8_multiply_25 : decode cX8_multiply 25 = .ok (.iconst 0, 1) := by decide +kernel
theorem dX8_multiply_26 : decode cX8_multiply 26 = .ok (.goto 4, 3) := by decide +kernel
theorem dX8_multiply_29 : decode cX8_multiply 29 = .ok (.iconst 2, 1) := by decide +kernel
theorem dX8_multiply_30 : decode cX8_multiply 30 = .ok (.putfield 41, 3) := by decide +kernel
theorem dX8_multiply_33 : decode cX8_multiply 33 = .ok (.aload_n 0, 1) := by decide +kernel
theorem dX8_multiply_34 : decode cX8_multiply 34 = .ok (.getfield 41, 3) := by decide +kernel
theorem dX8_multiply_37 : decode cX8_multiply 37 = .ok (.ifCond .le 5, 3) := by decide +kernel
theorem dX8_multiply_40 : decode cX8_multiply 40 = .ok (.iconst 0, 1) := by decide +kernel
theorem dX8_multiply_41 : decode cX8_multiply 41 = .ok (.ireturn, 1) := by decide +kernel
theorem dX8_multiply_42 : decode cX8_multiply 42 = .ok (.aload_n 0, 1) := by decide +kernel
theorem dX8_multiply_43 : decode cX8_multiply 43 = .ok (.invokevirtual 110, 3) := by decide +kernel
theorem dX8_multiply_46 : decode cX8_multiply 46 = .ok (.iconst 0, 1) := by decide +kernel
theorem dX8_multiply_47 : decode cX8_multiply 47 = .ok (.istore_n 2, 1) := by decide +kernel
theorem dX8_multiply_48 : decode cX8_multiply 48 = .ok (.iload_n 2, 1) := by decide +kernel
theorem dX8_multiply_49 : decode cX8_multiply 49 = .ok (.bipush 54, 2) := by decide +kernel
theorem dX8_multiply_51 : decode cX8_multiply 51 = .ok (.if_icmp .ge 21, 3) := by decide +kernel
theorem dX8_multiply_54 : decode cX8_multiply 54 = .ok (.aload_n 0, 1) := by decide +kernel
theorem dX8_multiply_55 : decode cX8_multiply 55 = .ok (.getfield 7, 3) := by decide +kernel
theorem dX8_multiply_58 : decode cX8_multiply 58 = .ok (.iload_n 2, 1) := by decide +kernel
theorem dX8_multiply_59 : decode cX8_multiply 59 = .ok (.aload_n 0, 1) := by decide +kernel
theorem dX8_multiply_60 : decode cX8_multiply 60 = .ok (.getfield 28, 3) := by decide +kernel
theorem dX8_multiply_63 : decode cX8_multiply 63 = .ok (.iload_n 2, 1) := by decide +kernel
theorem dX8_multiply_64 : decode cX8_multiply 64 = .ok (.iaload, 1) := by decide +kernel
theorem dX8_multiply_65 : decode cX8_multiply 65 = .ok (.iastore, 1) := by decide +kernel
theorem dX8_multiply_66 : decode cX8_multiply 66 = .ok (.iinc 2 1, 3) := by decide +kernel
theorem dX8_multiply_69 : decode cX8_multiply 69 = .ok (.goto (-21), 3) := by decide +kernel
theorem dX8_multiply_72 : decode cX8_multiply 72 = .ok (.aload_n 0, 1) := by decide +kernel
theorem dX8_multiply_73 : decode cX8_multiply 73 = .ok (.getfield 7, 3) := by decide +kernel
theorem dX8_multiply_76 : decode cX8_multiply 76 = .ok (.bipush 54, 2) := by decide +kernel
theorem dX8_multiply_78 : decode cX8_multiply 78 = .ok (.dup2, 1) := by decide +kernel
theorem dX8_multiply_79 : decode cX8_multiply 79 = .ok (.iaload, 1) := by decide +kernel
theorem dX8_multiply_80 : decode cX8_multiply 80 = .ok (.iconst 1, 1) := by decide +kernel
theorem dX8_multiply_81 : decode cX8_multiply 81 = .ok (.iadd, 1) := by decide +kernel
theorem dX8_multiply_82 : decode cX8_multiply 82 = .ok (.iastore, 1) := by decide +kernel
theorem dX8_multiply_83 : decode cX8_multiply 83 = .ok (.aload_n 0, 1) := by decide +kernel
theorem dX8_multiply_84 : decode cX8_multiply 84 = .ok (.getfield 7, 3) := by decide +kernel
theorem dX8_multiply_87 : decode cX8_multiply 87 = .ok (.iconst 0, 1) := by decide +kernel
theorem dX8_multiply_88 : decode cX8_multiply 88 = .ok (.iaload, 1) := by decide +kernel
theorem dX8_multiply_89 : decode cX8_multiply 89 = .ok (.ireturn, 1) := by decide +kernel
theorem dX8_label_0 : decode cX8_label 0 = .ok (.aload_n 0, 1) := by decide +kernel
theorem dX8_label_1 : decode cX8_label 1 = .ok (.aload_n 0, 1) := by decide +kernel
theorem dX8_label_2 : decode cX8_label 2 = .ok (.iload_n 1, 1) := by decide +kernel
theorem dX8_label_3 : decode cX8_label 3 = .ok (.invokevirtual 113, 3) := by decide +kernel
theorem dX8_label_6 : decode cX8_label 6 = .ok (.ifCond .eq 11, 3) := by decide +kernel
theorem dX8_label_9 : decode cX8_label 9 = .ok (.aload_n 0, 1) := by decide +kernel
theorem dX8_label_10 : decode cX8_label 10 = .ok (.iload_n 2, 1) := by decide +kernel
theorem dX8_label_11 : decode cX8_label 11 = .ok (.invokevirtual 144, 3) := by decide +kernel
theorem dX8_label_14 : decode cX8_label 14 = .ok (.ifCond .ne 7, 3) := by decide +kernel
theorem dX8_label_17 : decode cX8_label 17 = .ok (.iconst 1, 1) := by decide +kernel
theorem dX8_label_18 : decode cX8_label 18 = .ok (.goto 15, 3) := by decide +kernel
theorem dX8_label_21 : decode cX8_label 21 = .ok (.iload_n 3, 1) := by decide +kernel
theorem dX8_label_22 : decode cX8_label 22 = .ok (.invokestatic 132, 3) := by decide +kernel
theorem dX8_label_25 : decode cX8_label 25 = .ok (.ifCond .eq 7, 3) := by decide +kernel
theorem dX8_label_28 : decode cX8_label 28 = .ok (.iconst 0, 1) := by decide +kernel
theorem dX8_label_29 : decode cX8_label 29 = .ok (.goto 4, 3) := by decide +kernel
theorem dX8_label_32 : decode cX8_label 32 = .ok (.iconst 2, 1) := by decide +kernel
theorem dX8_label_33 : decode cX8_label 33 = .ok (.putfield 41, 3) := by decide +kernel
theorem dX8_label_36 : decode cX8_label 36 = .ok (.aload_n 0, 1) := by decide +kernel
theorem dX8_label_37 : decode cX8_label 37 = .ok (.getfield 41, 3) := by decide +kernel
theorem dX8_label_40 : decode cX8_label 40 = .ok (.ifCond .le 5, 3) := by decide +kernel
theorem dX8_label_43 : decode cX8_label 43 = .ok (.iconst 0, 1) := by decide +kernel
theorem dX8_label_44 : decode cX8_label 44 = .ok (.ireturn, 1) := by decide +kernel
theorem dX8_label_45 : decode cX8_label 45 = .ok (.aload_n 0, 1) := by decide +kernel
theorem dX8_label_46 : decode cX8_label 46 = .ok (.invokevirtual 110, 3) := by decide +kernel
theorem dX8_label_49 : decode cX8_label 49 = .ok (.aload_n 0, 1) := by decide +kernel
theorem dX8_label_50 : decode cX8_label 50 = .ok (.getfield 7, 3) := by decide +kernel
theorem dX8_label_53 : decode cX8_label 53 = .ok (.iload_n 1, 1) := by decide +kernel
theorem dX8_label_54 : decode cX8_label 54 = .ok (.invokestatic 56, 3) := by decide +kernel
theorem dX8_label_57 : decode cX8_label 57 = .ok (.iload_n 2, 1) := by decide +kernel
theorem dX8_label_58 : decode cX8_label 58 = .ok (.iadd, 1) := by decide +kernel
theorem dX8_label_59 : decode cX8_label 59 = .ok (.iaload, 1) := by decide +kernel
theorem dX8_label_60 : decode cX8_label 60 = .ok (.istore 4, 2) := by decide +kernel
theorem dX8_label_62 : decode cX8_label 62 = .ok (.aload_n 0, 1) := by decide +kernel
theorem dX8_label_63 : decode cX8_label 63 = .ok (.getfield 7, 3) := by decide +kernel
theorem dX8_label_66 : decode cX8_label 66 = .ok (.iload_n 1, 1) := by decide +kernel
theorem dX8_label_67 : decode cX8_label 67 = .ok (.invokestatic 56, 3) := by decide +kernel
theorem dX8_label_70 : decode cX8_label 70 = .ok (.iload_n 2, 1) := by decide +kernel
theorem dX8_label_71 : decode cX8_label 71 = .ok (.iadd, 1) := by decide +kernel
theorem dX8_label_72 : decode cX8_label 72 = .ok (.iload_n 3, 1) := by decide +kernel
theorem dX8_label_73 : decode cX8_label 73 = .ok (.iastore, 1) := by decide +kernel
theorem dX8_label_74 : decode cX8_label 74 = .ok (.iload 4, 2) := by decide +kernel
theorem dX8_label_76 : decode cX8_label 76 = .ok (.ireturn, 1) := by decide +kernel
theorem dX8_hold_0 : decode cX8_hold 0 = .ok (.aload_n 0, 1) := by decide +kernel
theorem dX8_hold_1 : decode cX8_hold 1 = .ok (.aload_n 0, 1) := by decide +kernel
theorem dX8_hold_2 : decode cX8_hold 2 = .ok (.iload_n 1, 1) := by decide +kernel
theorem dX8_hold_3 : decode cX8_hold 3 = .ok (.invokevirtual 144, 3) := by decide +kernel
theorem dX8_hold_6 : decode cX8_hold 6 = .ok (.ifCond .ne 7, 3) := by decide +kernel
theorem dX8_hold_9 : decode cX8_hold 9 = .ok (.iconst 1, 1) := by decide +kernel
theorem dX8_hold_10 : decode cX8_hold 10 = .ok (.goto 15, 3) := by decide +kernel
theorem dX8_hold_13 : decode cX8_hold 13 = .ok (.iload_n 2, 1) := by decide +kernel
theorem dX8_hold_14 : decode cX8_hold 14 = .ok (.invokestatic 132, 3) := by decide +kernel
theorem dX8_hold_17 : decode cX8_hold 17 = .ok (.ifCond .eq 7, 3) := by decide +kernel
theorem dX8_hold_20 : decode cX8_hold 20 = .ok (.iconst 0, 1) := by decide +kernel
theorem dX8_hold_21 : decode cX8_hold 21 = .ok (.goto 4, 3) := by decide +kernel
theorem dX8_hold_24 : decode cX8_hold 24 = .ok (.iconst 2, 1) := by decide +kernel
theorem dX8_hold_25 : decode cX8_hold 25 = .ok (.putfield 41, 3) := by decide +kernel
theorem dX8_hold_28 : decode cX8_hold 28 = .ok (.aload_n 0, 1) := by decide +kernel
theorem dX8_hold_29 : decode cX8_hold 29 = .ok (.getfield 41, 3) := by decide +kernel
theorem dX8_hold_32 : decode cX8_hold 32 = .ok (.ifCond .le 5, 3) := by decide +kernel
theorem dX8_hold_35 : decode cX8_hold 35 = .ok (.iconst 0, 1) := by decide +kernel
theorem dX8_hold_36 : decode cX8_hold 36 = .ok (.ireturn, 1) := by decide +kernel
theorem dX8_hold_37 : decode cX8_hold 37 = .ok (.aload_n 0, 1) := by decide +kernel
theorem dX8_hold_38 : decode cX8_hold 38 = .ok (.invokevirtual 110, 3) := by decide +kernel
theorem dX8_hold_41 : decode cX8_hold 41 = .ok (.aload_n 0, 1) := by decide +kernel
theorem dX8_hold_42 : decode cX8_hold 42 = .ok (.getfield 7, 3) := by decide +kernel
theorem dX8_hold_45 : decode cX8_hold 45 = .ok (.bipush 50, 2) := by decide +kernel
theorem dX8_hold_47 : decode cX8_hold 47 = .ok (.iload_n 1, 1) := by decide +kernel
theorem dX8_hold_48 : decode cX8_hold 48 = .ok (.iadd, 1) := by decide +kernel
theorem dX8_hold_49 : decode cX8_hold 49 = .ok (.iaload, 1) := by decide +kernel
theorem dX8_hold_50 : decode cX8_hold 50 = .ok (.istore_n 3, 1) := by decide +kernel
theorem dX8_hold_51 : decode cX8_hold 51 = .ok (.aload_n 0, 1) := by decide +kernel
theorem dX8_hold_52 : decode cX8_hold 52 = .ok (.getfield 7, 3) := by decide +kernel
theorem dX8_hold_55 : decode cX8_hold 55 = .ok (.bipush 50, 2) := by decide +kernel
theorem dX8_hold_57 : decode cX8_hold 57 = .ok (.iload_n 1, 1) := by decide +kernel
theorem dX8_hold_58 : decode cX8_hold 58 = .ok (.iadd, 1) := by decide +kernel
theorem dX8_hold_59 : decode cX8_hold 59 = .ok (.iload_n 2, 1) := by decide +kernel
theorem dX8_hold_60 : decode cX8_hold 60 = .ok (.iastore, 1) := by decide +kernel
theorem dX8_hold_61 : decode cX8_hold 61 = .ok (.iload_n 3, 1) := by decide +kernel
theorem dX8_hold_62 : decode cX8_hold 62 = .ok (.ireturn, 1) := by decide +kernel
theorem dX8_labelByColors_0 : decode cX8_labelByColors 0 = .ok (.aload_n 0, 1) := by decide +kernel
theorem dX8_labelByColors_1 : decode cX8_labelByColors 1 = .ok (.invokevirtual 147, 3) := by decide +kernel
theorem dX8_labelByColors_4 : decode cX8_labelByColors 4 = .ok (.istore_n 1, 1) := by decide +kernel
theorem dX8_labelByColors_5 : decode cX8_labelByColors 5 = .ok (.aload_n 0, 1) := by decide +kernel
theorem dX8_labelByColors_6 : decode cX8_labelByColors 6 = .ok (.iload_n 1, 1) := by decide +kernel
theorem dX8_labelByColors_7 : decode cX8_labelByColors 7 = .ok (.aload_n 0, 1) := by decide +kernel
theorem dX8_labelByColors_8 : decode cX8_labelByColors 8 = .ok (.getfield 7, 3) := by decide +kernel
theorem dX8_labelByColors_11 : decode cX8_labelByColors 11 = .ok (.iconst 1, 1) := by decide +kernel
theorem dX8_labelByColors_12 : decode cX8_labelByColors 12 = .ok (.iaload, 1) := by decide +kernel
theorem dX8_labelByColors_13 : decode cX8_labelByColors 13 = .ok (.if_icmp .le 7, 3) := by decide +kernel
theorem dX8_labelByColors_16 : decode cX8_labelByColors 16 = .ok (.iconst 1, 1) := by decide +kernel
theorem dX8_labelByColors_17 : decode cX8_labelByColors 17 = .ok (.goto 4, 3) := by decide +kernel
theorem dX8_labelByColors_20 : decode cX8_labelByColors 20 = .ok (.iconst 0, 1) := by decide +kernel
theorem dX8_labelByColors_21 : decode cX8_labelByColors 21 = .ok (.putfield 41, 3) := by decide +kernel
theorem dX8_labelByColors_24 : decode cX8_labelByColors 24 = .ok (.aload_n 0, 1) := by decide +kernel
theorem dX8_labelByColors_25 : decode cX8_labelByColors 25 = .ok (.getfield 41, 3) := by decide +kernel
theorem dX8_labelByColors_28 : decode cX8_labelByColors 28 = .ok (.ifCond .le 5, 3) := by decide +kernel
theorem dX8_labelByColors_31 : decode cX8_labelByColors 31 = .ok (.iconst 0, 1) := by decide +kernel
theorem dX8_labelByColors_32 : decode cX8_labelByColors 32 = .ok (.ireturn, 1) := by decide +kernel
theorem dX8_labelByColors_33 : decode cX8_labelByColors 33 = .ok (.aload_n 0, 1) := by decide +kernel
theorem dX8_labelByColors_34 : decode cX8_labelByColors 34 = .ok (.invokevirtual 110, 3) := by decide +kernel
theorem dX8_labelByColors_37 : decode cX8_labelByColors 37 = .ok (.iconst 0, 1) := by decide +kernel
theorem dX8_labelByColors_38 : decode cX8_labelByColors 38 = .ok (.istore_n 2, 1) := by decide +kernel
theorem dX8_labelByColors_39 : decode cX8_labelByColors 39 = .ok (.iload_n 2, 1) := by decide +kernel
theorem dX8_labelByColors_40 : decode cX8_labelByColors 40 = .ok (.aload_n 0, 1) := by decide +kernel
theorem dX8_labelByColors_41 : decode cX8_labelByColors 41 = .ok (.getfield 7, 3) := by decide +kernel
theorem dX8_labelByColors_44 : decode cX8_labelByColors 44 = .ok (.iconst 0, 1) := by decide +kernel
theorem dX8_labelByColors_45 : decode cX8_labelByColors 45 = .ok (.iaload, 1) := by decide +kernel
theorem dX8_labelByColors_46 : decode cX8_labelByColors 46 = .ok (.if_icmp .ge 48, 3) := by decide +kernel
theorem dX8_labelByColors_49 : decode cX8_labelByColors 49 = .ok (.iconst 0, 1) := by decide +kernel
theorem dX8_labelByColors_50 : decode cX8_labelByColors 50 = .ok (.istore_n 3, 1) := by decide +kernel
theorem dX8_labelByColors_51 : decode cX8_labelByColors 51 = .ok (.iload_n 3, 1) := by decide +kernel
theorem dX8_labelByColors_52 : decode cX8_labelByColors 52 = .ok (.iconst 4, 1) := by decide +kernel
theorem dX8_labelByColors_53 : decode cX8_labelByColors 53 = .ok (.if_icmp .ge 35, 3) := by decide +kernel
theorem dX8_labelByColors_56 : decode cX8_labelByColors 56 = .ok (.aload_n 0, 1) := by decide +kernel
theorem dX8_labelByColors_57 : decode cX8_labelByColors 57 = .ok (.getfield 7, 3) := by decide +kernel
theorem dX8_labelByColors_60 : decode cX8_labelByColors 60 = .ok (.iload_n 2, 1) := by decide +kernel
theorem dX8_labelByColors_61 : decode cX8_labelByColors 61 = .ok (.invokestatic 56, 3) := by decide +kernel
theorem dX8_labelByColors_64 : decode cX8_labelByColors 64 = .ok (.iload_n 3, 1) := by decide +kernel
theorem dX8_labelByColors_65 : decode cX8_labelByColors 65 = .ok (.iadd, 1) := by decide +kernel
theorem dX8_labelByColors_66 : decode cX8_labelByColors 66 = .ok (.iload_n 3, 1) := by decide +kernel
theorem dX8_labelByColors_67 : decode cX8_labelByColors 67 = .ok (.aload_n 0, 1) := by decide +kernel
theorem dX8_labelByColors_68 : decode cX8_labelByColors 68 = .ok (.getfield 25, 3) := by decide +kernel
theorem dX8_labelByColors_71 : decode cX8_labelByColors 71 = .ok (.iload_n 2, 1) := by decide +kernel
theorem dX8_labelByColors_72 : decode cX8_labelByColors 72 = .ok (.iaload, 1) := by decide +kernel
theorem dX8_labelByColors_73 : decode cX8_labelByColors 73 = .ok (.if_icmp .ne 7, 3) := by decide +kernel
theorem dX8_labelByColors_76 : decode cX8_labelByColors 76 = .ok (.iconst 1, 1) := by decide +kernel
theorem dX8_labelByColors_77 : decode cX8_labelByColors 77 = .ok (.goto 4, 3) := by decide +kernel
theorem dX8_labelByColors_80 : decode cX8_labelByColors 80 = .ok (.iconst 0, 1) := by decide +kernel
theorem dX8_labelByColors_81 : decode cX8_labelByColors 81 = .ok (.iastore, 1) := by decide +kernel
theorem dX8_labelByColors_82 : decode cX8_labelByColors 82 = .ok (.iinc 3 1, 3) := by decide +kernel
theorem dX8_labelByColors_85 : decode cX8_labelByColors 85 = .ok (.goto (-34), 3) := by decide +kernel
theorem dX8_labelByColors_88 : decode cX8_labelByColors 88 = .ok (.iinc 2 1, 3) := by decide +kernel
theorem dX8_labelByColors_91 : decode cX8_labelByColors 91 = .ok (.goto (-52), 3) := by decide +kernel
theorem dX8_labelByColors_94 : decode cX8_labelByColors 94 = .ok (.iconst 0, 1) := by decide +kernel
theorem dX8_labelByColors_95 : decode cX8_labelByColors 95 = .ok (.istore_n 2, 1) := by decide +kernel
theorem dX8_labelByColors_96 : decode cX8_labelByColors 96 = .ok (.iload_n 2, 1) := by decide +kernel
theorem dX8_labelByColors_97 : decode cX8_labelByColors 97 = .ok (.iconst 4, 1) := by decide +kernel
theorem dX8_labelByColors_98 : decode cX8_labelByColors 98 = .ok (.if_icmp .ge 28, 3) := by decide +kernel
theorem dX8_labelByColors_101 : decode cX8_labelByColors 101 = .ok (.aload_n 0, 1) := by decide +kernel
theorem dX8_labelByColors_102 : decode cX8_labelByColors 102 = .ok (.getfield 7, 3) := by decide +kernel
theorem dX8_labelByColors_105 : decode cX8_labelByColors 105 = .ok (.bipush 50, 2) := by decide +kernel
theorem dX8_labelByColors_107 : decode cX8_labelByColors 107 = .ok (.iload_n 2, 1) := by decide +kernel
theorem dX8_labelByColors_108 : decode cX8_labelByColors 108 = .ok (.iadd, 1) := by decide +kernel
theorem dX8_labelByColors_109 : decode cX8_labelByColors 109 = .ok (.iload_n 2, 1) := by decide +kernel
theorem dX8_labelByColors_110 : decode cX8_labelByColors 110 = .ok (.iload_n 1, 1) := by decide +kernel
theorem dX8_labelByColors_111 : decode cX8_labelByColors 111 = .ok (.if_icmp .ge 7, 3) := by decide +kernel
theorem dX8_labelByColors_114 : decode cX8_labelByColors 114 = .ok (.iconst 1, 1) := by decide +kernel
theorem dX8_labelByColors_115 : decode cX8_labelByColors 115 = .ok (.goto 4, 3) := by decide +kernel
theorem dX8_labelByColors_118 : decode cX8_labelByColors 118 = .ok (.iconst 0, 1) := by decide +kernel
theorem dX8_labelByColors_119 : decode cX8_labelByColors 119 = .ok (.iastore, 1) := by decide +kernel
theorem dX8_labelByColors_120 : decode cX8_labelByColors 120 = .ok (.iinc 2 1, 3) := by decide +kernel
theorem dX8_labelByColors_123 : decode cX8_labelByColors 123 = .ok (.goto (-27), 3) := by decide +kernel
theorem dX8_labelByColors_126 : decode cX8_labelByColors 126 = .ok (.iload_n 1, 1) := by decide +kernel
theorem dX8_labelByColors_127 : decode cX8_labelByColors 127 = .ok (.ireturn, 1) := by decide +kernel
theorem dX8_setHandle_0 : decode cX8_setHandle 0 = .ok (.iload_n 1, 1) := by decide +kernel
theorem dX8_setHandle_1 : decode cX8_setHandle 1 = .ok (.istore_n 3, 1) := by decide +kernel
theorem dX8_setHandle_2 : decode cX8_setHandle 2 = .ok (.aload_n 0, 1) := by decide +kernel
theorem dX8_setHandle_3 : decode cX8_setHandle 3 = .ok (.getfield 7, 3) := by decide +kernel
theorem dX8_setHandle_6 : decode cX8_setHandle 6 = .ok (.iconst 1, 1) := by decide +kernel
theorem dX8_setHandle_7 : decode cX8_setHandle 7 = .ok (.iaload, 1) := by decide +kernel
theorem dX8_setHandle_8 : decode cX8_setHandle 8 = .ok (.iconst 1, 1) := by decide +kernel
theorem dX8_setHandle_9 : decode cX8_setHandle 9 = .ok (.isub, 1) := by decide +kernel
theorem dX8_setHandle_10 : decode cX8_setHandle 10 = .ok (.istore 4, 2) := by decide +kernel
theorem dX8_setHandle_12 : decode cX8_setHandle 12 = .ok (.iload 4, 2) := by decide +kernel
theorem dX8_setHandle_14 : decode cX8_setHandle 14 = .ok (.ifCond .lt 36, 3) := by decide +kernel
theorem dX8_setHandle_17 : decode cX8_setHandle 17 = .ok (.aload_n 0, 1) := by decide +kernel
theorem dX8_setHandle_18 : decode cX8_setHandle 18 = .ok (.getfield 7, 3) := by decide +kernel
theorem dX8_setHandle_21 : decode cX8_setHandle 21 = .ok (.bipush 50, 2) := by decide +kernel
theorem dX8_setHandle_23 : decode cX8_setHandle 23 = .ok (.iload 4, 2) := by decide +kernel
theorem dX8_setHandle_25 : decode cX8_setHandle 25 = .ok (.iadd, 1) := by decide +kernel
theorem dX8_setHandle_26 : decode cX8_setHandle 26 = .ok (.iload_n 3, 1) := by decide +kernel
theorem dX8_setHandle_27 : decode cX8_setHandle 27 = .ok (.iconst 2, 1) := by decide +kernel
theorem dX8_setHandle_28 : decode cX8_setHandle 28 = .ok (.iload_n 2, 1) := by decide +kernel
theorem dX8_setHandle_29 : decode cX8_setHandle 29 = .ok (.imul, 1) := by decide +kernel
theorem dX8_setHandle_30 : decode cX8_setHandle 30 = .ok (.iconst 1, 1) := by decide +kernel
theorem dX8_setHandle_31 : decode cX8_setHandle 31 = .ok (.iadd, 1) := by decide +kernel
theorem dX8_setHandle_32 : decode cX8_setHandle 32 = .ok (.irem, 1) := by decide +kernel
theorem dX8_setHandle_33 : decode cX8_setHandle 33 = .ok (.iload_n 2, 1) := by decide +kernel
theorem dX8_setHandle_34 : decode cX8_setHandle 34 = .ok (.isub, 1) := by decide +kernel
theorem dX8_setHandle_35 : decode cX8_setHandle 35 = .ok (.iastore, 1) := by decide +kernel
theorem dX8_setHandle_36 : decode cX8_setHandle 36 = .ok (.iload_n 3, 1) := by decide +kernel
theorem dX8_setHandle_37 : decode cX8_setHandle 37 = .ok (.iconst 2, 1) := by decide +kernel
theorem dX8_setHandle_38 : decode cX8_setHandle 38 = .ok (.iload_n 2, 1) := by decide +kernel
theorem dX8_setHandle_39 : decode cX8_setHandle 39 = .ok (.imul, 1) := by decide +kernel
theorem dX8_setHandle_40 : decode cX8_setHandle 40 = .ok (.iconst 1, 1) := by decide +kernel
theorem dX8_setHandle_41 : decode cX8_setHandle 41 = .ok (.iadd, 1) := by decide +kernel
theorem dX8_setHandle_42 : decode cX8_setHandle 42 = .ok (.idiv, 1) := by decide +kernel
theorem dX8_setHandle_43 : decode cX8_setHandle 43 = .ok (.istore_n 3, 1) := by decide +kernel
theorem dX8_setHandle_44 : decode cX8_setHandle 44 = .ok (.iinc 4 (-1), 3) := by decide +kernel
theorem dX8_setHandle_47 : decode cX8_setHandle 47 = .ok (.goto (-35), 3) := by decide +kernel
theorem dX8_setHandle_50 : decode cX8_setHandle 50 = .ok (.return_, 1) := by decide +kernel
theorem dX8_layBest_0 : decode cX8_layBest 0 = .ok (.aload_n 0, 1) := by decide +kernel
theorem dX8_layBest_1 : decode cX8_layBest 1 = .ok (.lconst 0, 1) := by decide +kernel
theorem dX8_layBest_2 : decode cX8_layBest 2 = .ok (.putfield 150, 3) := by decide +kernel
theorem dX8_layBest_5 : decode cX8_layBest 5 = .ok (.iconst 1, 1) := by decide +kernel
theorem dX8_layBest_6 : decode cX8_layBest 6 = .ok (.istore_n 2, 1) := by decide +kernel
theorem dX8_layBest_7 : decode cX8_layBest 7 = .ok (.iconst 0, 1) := by decide +kernel
theorem dX8_layBest_8 : decode cX8_layBest 8 = .ok (.istore_n 3, 1) := by decide +kernel
theorem dX8_layBest_9 : decode cX8_layBest 9 = .ok (.iload_n 3, 1) := by decide +kernel
theorem dX8_layBest_10 : decode cX8_layBest 10 = .ok (.iconst 4, 1) := by decide +kernel
theorem dX8_layBest_11 : decode cX8_layBest 11 = .ok (.if_icmp .ge 53, 3) := by decide +kernel
theorem dX8_layBest_14 : decode cX8_layBest 14 = .ok (.iload_n 2, 1) := by decide +kernel
theorem dX8_layBest_15 : decode cX8_layBest 15 = .ok (.iload_n 3, 1) := by decide +kernel
theorem dX8_layBest_16 : decode cX8_layBest 16 = .ok (.aload_n 0, 1) := by decide +kernel
theorem dX8_layBest_17 : decode cX8_layBest 17 = .ok (.getfield 7, 3) := by decide +kernel
theorem dX8_layBest_20 : decode cX8_layBest 20 = .ok (.iconst 1, 1) := by decide +kernel
theorem dX8_layBest_21 : decode cX8_layBest 21 = .ok (.iaload, 1) := by decide +kernel
theorem dX8_layBest_22 : decode cX8_layBest 22 = .ok (.if_icmp .ge 11, 3) := by decide +kernel
theorem dX8_layBest_25 : decode cX8_layBest 25 = .ok (.iconst 2, 1) := by decide +kernel
theorem dX8_layBest_26 : decode cX8_layBest 26 = .ok (.iload_n 1, 1) := by decide +kernel
theorem dX8_layBest_27 : decode cX8_layBest 27 = .ok (.imul, 1) := by decide +kernel
theorem dX8_layBest_28 : decode cX8_layBest 28 = .ok (.iconst 1, 1) := by decide +kernel
theorem dX8_layBest_29 : decode cX8_layBest 29 = .ok (.iadd, 1) := by decide +kernel
theorem dX8_layBest_30 : decode cX8_layBest 30 = .ok (.goto 4, 3) := by decide +kernel
theorem dX8_layBest_33 : decode cX8_layBest 33 = .ok (.iconst 1, 1) := by decide +kernel
theorem dX8_layBest_34 : decode cX8_layBest 34 = .ok (.imul, 1) := by decide +kernel
theorem dX8_layBest_35 : decode cX8_layBest 35 = .ok (.istore_n 2, 1) := by decide +kernel
theorem dX8_layBest_36 : decode cX8_layBest 36 = .ok (.aload_n 0, 1) := by decide +kernel
theorem dX8_layBest_37 : decode cX8_layBest 37 = .ok (.getfield 34, 3) := by decide +kernel
theorem dX8_layBest_40 : decode cX8_layBest 40 = .ok (.iload_n 3, 1) := by decide +kernel
theorem dX8_layBest_41 : decode cX8_layBest 41 = .ok (.aload_n 0, 1) := by decide +kernel
theorem dX8_layBest_42 : decode cX8_layBest 42 = .ok (.getfield 7, 3) := by decide +kernel
theorem dX8_layBest_45 : decode cX8_layBest 45 = .ok (.bipush 50, 2) := by decide +kernel
theorem dX8_layBest_47 : decode cX8_layBest 47 = .ok (.iload_n 3, 1) := by decide +kernel
theorem dX8_layBest_48 : decode cX8_layBest 48 = .ok (.iadd, 1) := by decide +kernel
theorem dX8_layBest_49 : decode cX8_layBest 49 = .ok (.iaload, 1) := by decide +kernel
theorem dX8_layBest_50 : decode cX8_layBest 50 = .ok (.iastore, 1) := by decide +kernel
theorem dX8_layBest_51 : decode cX8_layBest 51 = .ok (.aload_n 0, 1) := by decide +kernel
theorem dX8_layBest_52 : decode cX8_layBest 52 = .ok (.getfield 31, 3) := by decide +kernel
theorem dX8_layBest_55 : decode cX8_layBest 55 = .ok (.iload_n 3, 1) := by decide +kernel
theorem dX8_layBest_56 : decode cX8_layBest 56 = .ok (.iconst 0, 1) := by decide +kernel
theorem dX8_layBest_57 : decode cX8_layBest 57 = .ok (.iastore, 1) := by decide +kernel
end
section
theorem dX8_layBest_58 : decode cX8_layBest 58 = .ok (.iinc 3 1, 3) := by decide +kernel
theorem dX8_layBest_61 : decode cX8_layBest 61 = .ok (.goto (-52), 3) := by decide +kernel
theorem dX8_layBest_64 : decode cX8_layBest 64 = .ok (.iconst 0, 1) := by decide +kernel
theorem dX8_layBest_65 : decode cX8_layBest 65 = .ok (.istore_n 3, 1) := by decide +kernel
theorem dX8_layBest_66 : decode cX8_layBest 66 = .ok (.iload_n 3, 1) := by decide +kernel
theorem dX8_layBest_67 : decode cX8_layBest 67 = .ok (.iload_n 2, 1) := by decide +kernel
theorem dX8_layBest_68 : decode cX8_layBest 68 = .ok (.if_icmp .ge 114, 3) := by decide +kernel
theorem dX8_layBest_71 : decode cX8_layBest 71 = .ok (.aload_n 0, 1) := by decide +kernel
theorem dX8_layBest_72 : decode cX8_layBest 72 = .ok (.invokevirtual 76, 3) := by decide +kernel
theorem dX8_layBest_75 : decode cX8_layBest 75 = .ok (.iconst (-1), 1) := by decide +kernel
theorem dX8_layBest_76 : decode cX8_layBest 76 = .ok (.if_icmp .ne 106, 3) := by decide +kernel
theorem dX8_layBest_79 : decode cX8_layBest 79 = .ok (.aload_n 0, 1) := by decide +kernel
theorem dX8_layBest_80 : decode cX8_layBest 80 = .ok (.iload_n 3, 1) := by decide +kernel
theorem dX8_layBest_81 : decode cX8_layBest 81 = .ok (.iload_n 1, 1) := by decide +kernel
theorem dX8_layBest_82 : decode cX8_layBest 82 = .ok (.invokevirtual 153, 3) := by decide +kernel
theorem dX8_layBest_85 : decode cX8_layBest 85 = .ok (.aload_n 0, 1) := by decide +kernel
theorem dX8_layBest_86 : decode cX8_layBest 86 = .ok (.invokevirtual 80, 3) := by decide +kernel
theorem dX8_layBest_89 : decode cX8_layBest 89 = .ok (.iconst (-1), 1) := by decide +kernel
theorem dX8_layBest_90 : decode cX8_layBest 90 = .ok (.if_icmp .ne 86, 3) := by decide +kernel
theorem dX8_layBest_93 : decode cX8_layBest 93 = .ok (.aload_n 0, 1) := by decide +kernel
theorem dX8_layBest_94 : decode cX8_layBest 94 = .ok (.invokevirtual 156, 3) := by decide +kernel
theorem dX8_layBest_97 : decode cX8_layBest 97 = .ok (.aload_n 0, 1) := by decide +kernel
theorem dX8_layBest_98 : decode cX8_layBest 98 = .ok (.getfield 150, 3) := by decide +kernel
theorem dX8_layBest_101 : decode cX8_layBest 101 = .ok (.lconst 0, 1) := by decide +kernel
theorem dX8_layBest_102 : decode cX8_layBest 102 = .ok (.lcmp, 1) := by decide +kernel
theorem dX8_layBest_103 : decode cX8_layBest 103 = .ok (.ifCond .eq 25, 3) := by decide +kernel
theorem dX8_layBest_106 : decode cX8_layBest 106 = .ok (.aload_n 0, 1) := by decide +kernel
theorem dX8_layBest_107 : decode cX8_layBest 107 = .ok (.getfield 83, 3) := by decide +kernel
theorem dX8_layBest_110 : decode cX8_layBest 110 = .ok (.aload_n 0, 1) := by decide +kernel
theorem dX8_layBest_111 : decode cX8_layBest 111 = .ok (.getfield 150, 3) := by decide +kernel
theorem dX8_layBest_114 : decode cX8_layBest 114 = .ok (.lmul, 1) := by decide +kernel
theorem dX8_layBest_115 : decode cX8_layBest 115 = .ok (.aload_n 0, 1) := by decide +kernel
theorem dX8_layBest_116 : decode cX8_layBest 116 = .ok (.getfield 159, 3) := by decide +kernel
theorem dX8_layBest_119 : decode cX8_layBest 119 = .ok (.aload_n 0, 1) := by decide +kernel
theorem dX8_layBest_120 : decode cX8_layBest 120 = .ok (.getfield 87, 3) := by decide +kernel
theorem dX8_layBest_123 : decode cX8_layBest 123 = .ok (.lmul, 1) := by decide +kernel
theorem dX8_layBest_124 : decode cX8_layBest 124 = .ok (.lcmp, 1) := by decide +kernel
theorem dX8_layBest_125 : decode cX8_layBest 125 = .ok (.ifCond .ge 51, 3) := by decide +kernel
theorem dX8_layBest_128 : decode cX8_layBest 128 = .ok (.aload_n 0, 1) := by decide +kernel
theorem dX8_layBest_129 : decode cX8_layBest 129 = .ok (.aload_n 0, 1) := by decide +kernel
theorem dX8_layBest_130 : decode cX8_layBest 130 = .ok (.getfield 83, 3) := by decide +kernel
theorem dX8_layBest_133 : decode cX8_layBest 133 = .ok (.putfield 159, 3) := by decide +kernel
theorem dX8_layBest_136 : decode cX8_layBest 136 = .ok (.aload_n 0, 1) := by decide +kernel
theorem dX8_layBest_137 : decode cX8_layBest 137 = .ok (.aload_n 0, 1) := by decide +kernel
theorem dX8_layBest_138 : decode cX8_layBest 138 = .ok (.getfield 87, 3) := by decide +kernel
theorem dX8_layBest_141 : decode cX8_layBest 141 = .ok (.putfield 150, 3) := by decide +kernel
theorem dX8_layBest_144 : decode cX8_layBest 144 = .ok (.iconst 0, 1) := by decide +kernel
theorem dX8_layBest_145 : decode cX8_layBest 145 = .ok (.istore 4, 2) := by decide +kernel
theorem dX8_layBest_147 : decode cX8_layBest 147 = .ok (.iload 4, 2) := by decide +kernel
theorem dX8_layBest_149 : decode cX8_layBest 149 = .ok (.iconst 4, 1) := by decide +kernel
theorem dX8_layBest_150 : decode cX8_layBest 150 = .ok (.if_icmp .ge 26, 3) := by decide +kernel
theorem dX8_layBest_153 : decode cX8_layBest 153 = .ok (.aload_n 0, 1) := by decide +kernel
theorem dX8_layBest_154 : decode cX8_layBest 154 = .ok (.getfield 31, 3) := by decide +kernel
theorem dX8_layBest_157 : decode cX8_layBest 157 = .ok (.iload 4, 2) := by decide +kernel
theorem dX8_layBest_159 : decode cX8_layBest 159 = .ok (.aload_n 0, 1) := by decide +kernel
theorem dX8_layBest_160 : decode cX8_layBest 160 = .ok (.getfield 7, 3) := by decide +kernel
theorem dX8_layBest_163 : decode cX8_layBest 163 = .ok (.bipush 50, 2) := by decide +kernel
theorem dX8_layBest_165 : decode cX8_layBest 165 = .ok (.iload 4, 2) := by decide +kernel
theorem dX8_layBest_167 : decode cX8_layBest 167 = .ok (.iadd, 1) := by decide +kernel
theorem dX8_layBest_168 : decode cX8_layBest 168 = .ok (.iaload, 1) := by decide +kernel
theorem dX8_layBest_169 : decode cX8_layBest 169 = .ok (.iastore, 1) := by decide +kernel
theorem dX8_layBest_170 : decode cX8_layBest 170 = .ok (.iinc 4 1, 3) := by decide +kernel
theorem dX8_layBest_173 : decode cX8_layBest 173 = .ok (.goto (-26), 3) := by decide +kernel
theorem dX8_layBest_176 : decode cX8_layBest 176 = .ok (.iinc 3 1, 3) := by decide +kernel
theorem dX8_layBest_179 : decode cX8_layBest 179 = .ok (.goto (-113), 3) := by decide +kernel
theorem dX8_layBest_182 : decode cX8_layBest 182 = .ok (.iconst 0, 1) := by decide +kernel
theorem dX8_layBest_183 : decode cX8_layBest 183 = .ok (.istore_n 3, 1) := by decide +kernel
theorem dX8_layBest_184 : decode cX8_layBest 184 = .ok (.iload_n 3, 1) := by decide +kernel
theorem dX8_layBest_185 : decode cX8_layBest 185 = .ok (.iconst 4, 1) := by decide +kernel
theorem dX8_layBest_186 : decode cX8_layBest 186 = .ok (.if_icmp .ge 24, 3) := by decide +kernel
theorem dX8_layBest_189 : decode cX8_layBest 189 = .ok (.aload_n 0, 1) := by decide +kernel
theorem dX8_layBest_190 : decode cX8_layBest 190 = .ok (.getfield 7, 3) := by decide +kernel
theorem dX8_layBest_193 : decode cX8_layBest 193 = .ok (.bipush 50, 2) := by decide +kernel
theorem dX8_layBest_195 : decode cX8_layBest 195 = .ok (.iload_n 3, 1) := by decide +kernel
theorem dX8_layBest_196 : decode cX8_layBest 196 = .ok (.iadd, 1) := by decide +kernel
theorem dX8_layBest_197 : decode cX8_layBest 197 = .ok (.aload_n 0, 1) := by decide +kernel
theorem dX8_layBest_198 : decode cX8_layBest 198 = .ok (.getfield 34, 3) := by decide +kernel
theorem dX8_layBest_201 : decode cX8_layBest 201 = .ok (.iload_n 3, 1) := by decide +kernel
theorem dX8_layBest_202 : decode cX8_layBest 202 = .ok (.iaload, 1) := by decide +kernel
theorem dX8_layBest_203 : decode cX8_layBest 203 = .ok (.iastore, 1) := by decide +kernel
theorem dX8_layBest_204 : decode cX8_layBest 204 = .ok (.iinc 3 1, 3) := by decide +kernel
theorem dX8_layBest_207 : decode cX8_layBest 207 = .ok (.goto (-23), 3) := by decide +kernel
theorem dX8_layBest_210 : decode cX8_layBest 210 = .ok (.aload_n 0, 1) := by decide +kernel
theorem dX8_layBest_211 : decode cX8_layBest 211 = .ok (.getfield 150, 3) := by decide +kernel
theorem dX8_layBest_214 : decode cX8_layBest 214 = .ok (.lconst 0, 1) := by decide +kernel
theorem dX8_layBest_215 : decode cX8_layBest 215 = .ok (.lcmp, 1) := by decide +kernel
theorem dX8_layBest_216 : decode cX8_layBest 216 = .ok (.ifCond .le 7, 3) := by decide +kernel
theorem dX8_layBest_219 : decode cX8_layBest 219 = .ok (.iconst 1, 1) := by decide +kernel
theorem dX8_layBest_220 : decode cX8_layBest 220 = .ok (.goto 4, 3) := by decide +kernel
theorem dX8_layBest_223 : decode cX8_layBest 223 = .ok (.iconst 0, 1) := by decide +kernel
theorem dX8_layBest_224 : decode cX8_layBest 224 = .ok (.ireturn, 1) := by decide +kernel
theorem dX8_isSize_0 : decode cX8_isSize 0 = .ok (.iload_n 0, 1) := by decide +kernel
theorem dX8_isSize_1 : decode cX8_isSize 1 = .ok (.iconst 1, 1) := by decide +kernel
theorem dX8_isSize_2 : decode cX8_isSize 2 = .ok (.iconst 2, 1) := by decide +kernel
theorem dX8_isSize_3 : decode cX8_isSize 3 = .ok (.invokestatic 48, 3) := by decide +kernel
theorem dX8_isSize_6 : decode cX8_isSize 6 = .ok (.ireturn, 1) := by decide +kernel
theorem dX8_takeHandle_0 : decode cX8_takeHandle 0 = .ok (.aload_n 0, 1) := by decide +kernel
theorem dX8_takeHandle_1 : decode cX8_takeHandle 1 = .ok (.iload_n 1, 1) := by decide +kernel
theorem dX8_takeHandle_2 : decode cX8_takeHandle 2 = .ok (.invokestatic 162, 3) := by decide +kernel
theorem dX8_takeHandle_5 : decode cX8_takeHandle 5 = .ok (.ifCond .eq 7, 3) := by decide +kernel
theorem dX8_takeHandle_8 : decode cX8_takeHandle 8 = .ok (.iconst 0, 1) := by decide +kernel
theorem dX8_takeHandle_9 : decode cX8_takeHandle 9 = .ok (.goto 4, 3) := by decide +kernel
theorem dX8_takeHandle_12 : decode cX8_takeHandle 12 = .ok (.iconst 1, 1) := by decide +kernel
theorem dX8_takeHandle_13 : decode cX8_takeHandle 13 = .ok (.putfield 41, 3) := by decide +kernel
theorem dX8_takeHandle_16 : decode cX8_takeHandle 16 = .ok (.aload_n 0, 1) := by decide +kernel
theorem dX8_takeHandle_17 : decode cX8_takeHandle 17 = .ok (.getfield 41, 3) := by decide +kernel
theorem dX8_takeHandle_20 : decode cX8_takeHandle 20 = .ok (.ifCond .le 5, 3) := by decide +kernel
theorem dX8_takeHandle_23 : decode cX8_takeHandle 23 = .ok (.iconst 0, 1) := by decide +kernel
theorem dX8_takeHandle_24 : decode cX8_takeHandle 24 = .ok (.ireturn, 1) := by decide +kernel
theorem dX8_takeHandle_25 : decode cX8_takeHandle 25 = .ok (.aload_n 0, 1) := by decide +kernel
theorem dX8_takeHandle_26 : decode cX8_takeHandle 26 = .ok (.invokevirtual 110, 3) := by decide +kernel
theorem dX8_takeHandle_29 : decode cX8_takeHandle 29 = .ok (.aload_n 0, 1) := by decide +kernel
theorem dX8_takeHandle_30 : decode cX8_takeHandle 30 = .ok (.iload_n 1, 1) := by decide +kernel
theorem dX8_takeHandle_31 : decode cX8_takeHandle 31 = .ok (.invokevirtual 165, 3) := by decide +kernel
theorem dX8_takeHandle_34 : decode cX8_takeHandle 34 = .ok (.ifCond .ne 5, 3) := by decide +kernel
theorem dX8_takeHandle_37 : decode cX8_takeHandle 37 = .ok (.iconst 0, 1) := by decide +kernel
theorem dX8_takeHandle_38 : decode cX8_takeHandle 38 = .ok (.ireturn, 1) := by decide +kernel
theorem dX8_takeHandle_39 : decode cX8_takeHandle 39 = .ok (.iconst 0, 1) := by decide +kernel
theorem dX8_takeHandle_40 : decode cX8_takeHandle 40 = .ok (.istore_n 2, 1) := by decide +kernel
theorem dX8_takeHandle_41 : decode cX8_takeHandle 41 = .ok (.iload_n 2, 1) := by decide +kernel
theorem dX8_takeHandle_42 : decode cX8_takeHandle 42 = .ok (.iconst 4, 1) := by decide +kernel
theorem dX8_takeHandle_43 : decode cX8_takeHandle 43 = .ok (.if_icmp .ge 24, 3) := by decide +kernel
theorem dX8_takeHandle_46 : decode cX8_takeHandle 46 = .ok (.aload_n 0, 1) := by decide +kernel
theorem dX8_takeHandle_47 : decode cX8_takeHandle 47 = .ok (.getfield 7, 3) := by decide +kernel
theorem dX8_takeHandle_50 : decode cX8_takeHandle 50 = .ok (.bipush 50, 2) := by decide +kernel
theorem dX8_takeHandle_52 : decode cX8_takeHandle 52 = .ok (.iload_n 2, 1) := by decide +kernel
theorem dX8_takeHandle_53 : decode cX8_takeHandle 53 = .ok (.iadd, 1) := by decide +kernel
theorem dX8_takeHandle_54 : decode cX8_takeHandle 54 = .ok (.aload_n 0, 1) := by decide +kernel
theorem dX8_takeHandle_55 : decode cX8_takeHandle 55 = .ok (.getfield 31, 3) := by decide +kernel
theorem dX8_takeHandle_58 : decode cX8_takeHandle 58 = .ok (.iload_n 2, 1) := by decide +kernel
theorem dX8_takeHandle_59 : decode cX8_takeHandle 59 = .ok (.iaload, 1) := by decide +kernel
theorem dX8_takeHandle_60 : decode cX8_takeHandle 60 = .ok (.iastore, 1) := by decide +kernel
theorem dX8_takeHandle_61 : decode cX8_takeHandle 61 = .ok (.iinc 2 1, 3) := by decide +kernel
theorem dX8_takeHandle_64 : decode cX8_takeHandle 64 = .ok (.goto (-23), 3) := by decide +kernel
theorem dX8_takeHandle_67 : decode cX8_takeHandle 67 = .ok (.iconst 1, 1) := by decide +kernel
theorem dX8_takeHandle_68 : decode cX8_takeHandle 68 = .ok (.ireturn, 1) := by decide +kernel
theorem dX8_append_0 : decode cX8_append 0 = .ok (.aload_n 0, 1) := by decide +kernel
theorem dX8_append_1 : decode cX8_append 1 = .ok (.iload_n 1, 1) := by decide +kernel
theorem dX8_append_2 : decode cX8_append 2 = .ok (.bipush 33, 2) := by decide +kernel
theorem dX8_append_4 : decode cX8_append 4 = .ok (.bipush 126, 2) := by decide +kernel
theorem dX8_append_6 : decode cX8_append 6 = .ok (.invokestatic 48, 3) := by decide +kernel
theorem dX8_append_9 : decode cX8_append 9 = .ok (.ifCond .ne 7, 3) := by decide +kernel
theorem dX8_append_12 : decode cX8_append 12 = .ok (.iconst 1, 1) := by decide +kernel
theorem dX8_append_13 : decode cX8_append 13 = .ok (.goto 17, 3) := by decide +kernel
theorem dX8_append_16 : decode cX8_append 16 = .ok (.aload_n 0, 1) := by decide +kernel
theorem dX8_append_17 : decode cX8_append 17 = .ok (.getfield 168, 3) := by decide +kernel
theorem dX8_append_20 : decode cX8_append 20 = .ok (.bipush 60, 2) := by decide +kernel
theorem dX8_append_22 : decode cX8_append 22 = .ok (.if_icmp .ne 7, 3) := by decide +kernel
theorem dX8_append_25 : decode cX8_append 25 = .ok (.iconst 2, 1) := by decide +kernel
theorem dX8_append_26 : decode cX8_append 26 = .ok (.goto 4, 3) := by decide +kernel
theorem dX8_append_29 : decode cX8_append 29 = .ok (.iconst 0, 1) := by decide +kernel
theorem dX8_append_30 : decode cX8_append 30 = .ok (.putfield 41, 3) := by decide +kernel
theorem dX8_append_33 : decode cX8_append 33 = .ok (.aload_n 0, 1) := by decide +kernel
theorem dX8_append_34 : decode cX8_append 34 = .ok (.getfield 41, 3) := by decide +kernel
theorem dX8_append_37 : decode cX8_append 37 = .ok (.ifCond .le 5, 3) := by decide +kernel
theorem dX8_append_40 : decode cX8_append 40 = .ok (.iconst 0, 1) := by decide +kernel
theorem dX8_append_41 : decode cX8_append 41 = .ok (.ireturn, 1) := by decide +kernel
theorem dX8_append_42 : decode cX8_append 42 = .ok (.aload_n 0, 1) := by decide +kernel
theorem dX8_append_43 : decode cX8_append 43 = .ok (.getfield 22, 3) := by decide +kernel
theorem dX8_append_46 : decode cX8_append 46 = .ok (.aload_n 0, 1) := by decide +kernel
theorem dX8_append_47 : decode cX8_append 47 = .ok (.getfield 168, 3) := by decide +kernel
theorem dX8_append_50 : decode cX8_append 50 = .ok (.iload_n 1, 1) := by decide +kernel
theorem dX8_append_51 : decode cX8_append 51 = .ok (.iastore, 1) := by decide +kernel
theorem dX8_append_52 : decode cX8_append 52 = .ok (.aload_n 0, 1) := by decide +kernel
theorem dX8_append_53 : decode cX8_append 53 = .ok (.dup, 1) := by decide +kernel
theorem dX8_append_54 : decode cX8_append 54 = .ok (.getfield 168, 3) := by decide +kernel
theorem dX8_append_57 : decode cX8_append 57 = .ok (.iconst 1, 1) := by decide +kernel
theorem dX8_append_58 : decode cX8_append 58 = .ok (.iadd, 1) := by decide +kernel
theorem dX8_append_59 : decode cX8_append 59 = .ok (.putfield 168, 3) := by decide +kernel
theorem dX8_append_62 : decode cX8_append 62 = .ok (.aload_n 0, 1) := by decide +kernel
theorem dX8_append_63 : decode cX8_append 63 = .ok (.getfield 168, 3) := by decide +kernel
theorem dX8_append_66 : decode cX8_append 66 = .ok (.ireturn, 1) := by decide +kernel
theorem dX8_clearBuffer_0 : decode cX8_clearBuffer 0 = .ok (.aload_n 0, 1) := by decide +kernel
theorem dX8_clearBuffer_1 : decode cX8_clearBuffer 1 = .ok (.iconst 0, 1) := by decide +kernel
theorem dX8_clearBuffer_2 : decode cX8_clearBuffer 2 = .ok (.putfield 41, 3) := by decide +kernel
theorem dX8_clearBuffer_5 : decode cX8_clearBuffer 5 = .ok (.aload_n 0, 1) := by decide +kernel
theorem dX8_clearBuffer_6 : decode cX8_clearBuffer 6 = .ok (.getfield 168, 3) := by decide +kernel
theorem dX8_clearBuffer_9 : decode cX8_clearBuffer 9 = .ok (.istore_n 1, 1) := by decide +kernel
theorem dX8_clearBuffer_10 : decode cX8_clearBuffer 10 = .ok (.aload_n 0, 1) := by decide +kernel
theorem dX8_clearBuffer_11 : decode cX8_clearBuffer 11 = .ok (.iconst 0, 1) := by decide +kernel
theorem dX8_clearBuffer_12 : decode cX8_clearBuffer 12 = .ok (.putfield 168, 3) := by decide +kernel
theorem dX8_clearBuffer_15 : decode cX8_clearBuffer 15 = .ok (.iload_n 1, 1) := by decide +kernel
theorem dX8_clearBuffer_16 : decode cX8_clearBuffer 16 = .ok (.ireturn, 1) := by decide +kernel
theorem dX8_canStand_0 : decode cX8_canStand 0 = .ok (.aload_n 0, 1) := by decide +kernel
theorem dX8_canStand_1 : decode cX8_canStand 1 = .ok (.getfield 22, 3) := by decide +kernel
theorem dX8_canStand_4 : decode cX8_canStand 4 = .ok (.iload_n 1, 1) := by decide +kernel
theorem dX8_canStand_5 : decode cX8_canStand 5 = .ok (.iaload, 1) := by decide +kernel
theorem dX8_canStand_6 : decode cX8_canStand 6 = .ok (.bipush 48, 2) := by decide +kernel
theorem dX8_canStand_8 : decode cX8_canStand 8 = .ok (.isub, 1) := by decide +kernel
theorem dX8_canStand_9 : decode cX8_canStand 9 = .ok (.istore_n 2, 1) := by decide +kernel
theorem dX8_canStand_10 : decode cX8_canStand 10 = .ok (.iload_n 1, 1) := by decide +kernel
theorem dX8_canStand_11 : decode cX8_canStand 11 = .ok (.iconst 3, 1) := by decide +kernel
theorem dX8_canStand_12 : decode cX8_canStand 12 = .ok (.irem, 1) := by decide +kernel
theorem dX8_canStand_13 : decode cX8_canStand 13 = .ok (.ifCond .ne 17, 3) := by decide +kernel
theorem dX8_canStand_16 : decode cX8_canStand 16 = .ok (.iload_n 2, 1) := by decide +kernel
theorem dX8_canStand_17 : decode cX8_canStand 17 = .ok (.iconst 0, 1) := by decide +kernel
theorem dX8_canStand_18 : decode cX8_canStand 18 = .ok (.aload_n 0, 1) := by decide +kernel
theorem dX8_canStand_19 : decode cX8_canStand 19 = .ok (.getfield 7, 3) := by decide +kernel
theorem dX8_canStand_22 : decode cX8_canStand 22 = .ok (.iconst 0, 1) := by decide +kernel
theorem dX8_canStand_23 : decode cX8_canStand 23 = .ok (.iaload, 1) := by decide +kernel
theorem dX8_canStand_24 : decode cX8_canStand 24 = .ok (.iconst 2, 1) := by decide +kernel
theorem dX8_canStand_25 : decode cX8_canStand 25 = .ok (.isub, 1) := by decide +kernel
theorem dX8_canStand_26 : decode cX8_canStand 26 = .ok (.invokestatic 48, 3) := by decide +kernel
theorem dX8_canStand_29 : decode cX8_canStand 29 = .ok (.ireturn, 1) := by decide +kernel
theorem dX8_canStand_30 : decode cX8_canStand 30 = .ok (.iload_n 1, 1) := by decide +kernel
theorem dX8_canStand_31 : decode cX8_canStand 31 = .ok (.iconst 3, 1) := by decide +kernel
theorem dX8_canStand_32 : decode cX8_canStand 32 = .ok (.irem, 1) := by decide +kernel
theorem dX8_canStand_33 : decode cX8_canStand 33 = .ok (.iconst 1, 1) := by decide +kernel
theorem dX8_canStand_34 : decode cX8_canStand 34 = .ok (.if_icmp .ne 31, 3) := by decide +kernel
theorem dX8_canStand_37 : decode cX8_canStand 37 = .ok (.iload_n 2, 1) := by decide +kernel
theorem dX8_canStand_38 : decode cX8_canStand 38 = .ok (.aload_n 0, 1) := by decide +kernel
theorem dX8_canStand_39 : decode cX8_canStand 39 = .ok (.getfield 22, 3) := by decide +kernel
theorem dX8_canStand_42 : decode cX8_canStand 42 = .ok (.iload_n 1, 1) := by decide +kernel
theorem dX8_canStand_43 : decode cX8_canStand 43 = .ok (.iconst 1, 1) := by decide +kernel
theorem dX8_canStand_44 : decode cX8_canStand 44 = .ok (.isub, 1) := by decide +kernel
theorem dX8_canStand_45 : decode cX8_canStand 45 = .ok (.iaload, 1) := by decide +kernel
theorem dX8_canStand_46 : decode cX8_canStand 46 = .ok (.bipush 48, 2) := by decide +kernel
theorem dX8_canStand_48 : decode cX8_canStand 48 = .ok (.isub, 1) := by decide +kernel
theorem dX8_canStand_49 : decode cX8_canStand 49 = .ok (.iconst 1, 1) := by decide +kernel
theorem dX8_canStand_50 : decode cX8_canStand 50 = .ok (.iadd, 1) := by decide +kernel
theorem dX8_canStand_51 : decode cX8_canStand 51 = .ok (.aload_n 0, 1) := by decide +kernel
theorem dX8_canStand_52 : decode cX8_canStand 52 = .ok (.getfield 7, 3) := by decide +kernel
theorem dX8_canStand_55 : decode cX8_canStand 55 = .ok (.iconst 0, 1) := by decide +kernel
theorem dX8_canStand_56 : decode cX8_canStand 56 = .ok (.iaload, 1) := by decide +kernel
theorem dX8_canStand_57 : decode cX8_canStand 57 = .ok (.iconst 1, 1) := by decide +kernel
theorem dX8_canStand_58 : decode cX8_canStand 58 = .ok (.isub, 1) := by decide +kernel
theorem dX8_canStand_59 : decode cX8_canStand 59 = .ok (.invokestatic 48, 3) := by decide +kernel
theorem dX8_canStand_62 : decode cX8_canStand 62 = .ok (.goto 19, 3) := by decide +kernel
theorem dX8_canStand_65 : decode cX8_canStand 65 = .ok (.aload_n 0, 1) := by decide +kernel
theorem dX8_canStand_66 : decode cX8_canStand 66 = .ok (.getfield 22, 3) := by decide +kernel
theorem dX8_canStand_69 : decode cX8_canStand 69 = .ok (.iload_n 1, 1) := by decide +kernel
theorem dX8_canStand_70 : decode cX8_canStand 70 = .ok (.iaload, 1) := by decide +kernel
theorem dX8_canStand_71 : decode cX8_canStand 71 = .ok (.bipush 44, 2) := by decide +kernel
theorem dX8_canStand_73 : decode cX8_canStand 73 = .ok (.if_icmp .ne 7, 3) := by decide +kernel
theorem dX8_canStand_76 : decode cX8_canStand 76 = .ok (.iconst 1, 1) := by decide +kernel
theorem dX8_canStand_77 : decode cX8_canStand 77 = .ok (.goto 4, 3) := by decide +kernel
theorem dX8_canStand_80 : decode cX8_canStand 80 = .ok (.iconst 0, 1) := by decide +kernel
theorem dX8_canStand_81 : decode cX8_canStand 81 = .ok (.ireturn, 1) := by decide +kernel
theorem dX8_rightUpTo_0 : decode cX8_rightUpTo 0 = .ok (.iconst 0, 1) := by decide +kernel
theorem dX8_rightUpTo_1 : decode cX8_rightUpTo 1 = .ok (.istore_n 1, 1) := by decide +kernel
theorem dX8_rightUpTo_2 : decode cX8_rightUpTo 2 = .ok (.iload_n 1, 1) := by decide +kernel
theorem dX8_rightUpTo_3 : decode cX8_rightUpTo 3 = .ok (.aload_n 0, 1) := by decide +kernel
theorem dX8_rightUpTo_4 : decode cX8_rightUpTo 4 = .ok (.getfield 168, 3) := by decide +kernel
theorem dX8_rightUpTo_7 : decode cX8_rightUpTo 7 = .ok (.if_icmp .ge 17, 3) := by decide +kernel
theorem dX8_rightUpTo_10 : decode cX8_rightUpTo 10 = .ok (.aload_n 0, 1) := by decide +kernel
theorem dX8_rightUpTo_11 : decode cX8_rightUpTo 11 = .ok (.iload_n 1, 1) := by decide +kernel
theorem dX8_rightUpTo_12 : decode cX8_rightUpTo 12 = .ok (.invokevirtual 171, 3) := by decide +kernel
theorem dX8_rightUpTo_15 : decode cX8_rightUpTo 15 = .ok (.ifCond .eq 9, 3) := by decide +kernel
theorem dX8_rightUpTo_18 : decode cX8_rightUpTo 18 = .ok (.iinc 1 1, 3) := by decide +kernel
theorem dX8_rightUpTo_21 : decode cX8_rightUpTo 21 = .ok (.goto (-19), 3) := by decide +kernel
theorem dX8_rightUpTo_24 : decode cX8_rightUpTo 24 = .ok (.iload_n 1, 1) := by decide +kernel
theorem dX8_rightUpTo_25 : decode cX8_rightUpTo 25 = .ok (.ireturn, 1) := by decide +kernel
theorem dX8_firstError_0 : decode cX8_firstError 0 = .ok (.aload_n 0, 1) := by decide +kernel
theorem dX8_firstError_1 : decode cX8_firstError 1 = .ok (.iconst 0, 1) := by decide +kernel
theorem dX8_firstError_2 : decode cX8_firstError 2 = .ok (.putfield 41, 3) := by decide +kernel
theorem dX8_firstError_5 : decode cX8_firstError 5 = .ok (.aload_n 0, 1) := by decide +kernel
theorem dX8_firstError_6 : decode cX8_firstError 6 = .ok (.invokevirtual 174, 3) := by decide +kernel
theorem dX8_firstError_9 : decode cX8_firstError 9 = .ok (.ireturn, 1) := by decide +kernel
theorem dX8_read_0 : decode cX8_read 0 = .ok (.aload_n 0, 1) := by decide +kernel
theorem dX8_read_1 : decode cX8_read 1 = .ok (.aload_n 0, 1) := by decide +kernel
theorem dX8_read_2 : decode cX8_read 2 = .ok (.invokevirtual 174, 3) := by decide +kernel
theorem dX8_read_5 : decode cX8_read 5 = .ok (.aload_n 0, 1) := by decide +kernel
theorem dX8_read_6 : decode cX8_read 6 = .ok (.getfield 168, 3) := by decide +kernel
theorem dX8_read_9 : decode cX8_read 9 = .ok (.if_icmp .ne 17, 3) := by decide +kernel
theorem dX8_read_12 : decode cX8_read 12 = .ok (.aload_n 0, 1) := by decide +kernel
theorem dX8_read_13 : decode cX8_read 13 = .ok (.getfield 168, 3) := by decide +kernel
theorem dX8_read_16 : decode cX8_read 16 = .ok (.iconst 3, 1) := by decide +kernel
theorem dX8_read_17 : decode cX8_read 17 = .ok (.irem, 1) := by decide +kernel
theorem dX8_read_18 : decode cX8_read 18 = .ok (.iconst 2, 1) := by decide +kernel
theorem dX8_read_19 : decode cX8_read 19 = .ok (.if_icmp .ne 7, 3) := by decide +kernel
theorem dX8_read_22 : decode cX8_read 22 = .ok (.iconst 0, 1) := by decide +kernel
theorem dX8_read_23 : decode cX8_read 23 = .ok (.goto 4, 3) := by decide +kernel
theorem dX8_read_26 : decode cX8_read 26 = .ok (.iconst 1, 1) := by decide +kernel
theorem dX8_read_27 : decode cX8_read 27 = .ok (.putfield 41, 3) := by decide +kernel
theorem dX8_read_30 : decode cX8_read 30 = .ok (.aload_n 0, 1) := by decide +kernel
theorem dX8_read_31 : decode cX8_read 31 = .ok (.getfield 41, 3) := by decide +kernel
theorem dX8_read_34 : decode cX8_read 34 = .ok (.ifCond .le 5, 3) := by decide +kernel
theorem dX8_read_37 : decode cX8_read 37 = .ok (.iconst 0, 1) := by decide +kernel
theorem dX8_read_38 : decode cX8_read 38 = .ok (.ireturn, 1) := by decide +kernel
theorem dX8_read_39 : decode cX8_read 39 = .ok (.aload_n 0, 1) := by decide +kernel
theorem dX8_read_40 : decode cX8_read 40 = .ok (.invokevirtual 110, 3) := by decide +kernel
theorem dX8_read_43 : decode cX8_read 43 = .ok (.iconst 0, 1) := by decide +kernel
theorem dX8_read_44 : decode cX8_read 44 = .ok (.istore_n 1, 1) := by decide +kernel
theorem dX8_read_45 : decode cX8_read 45 = .ok (.iload_n 1, 1) := by decide +kernel
theorem dX8_read_46 : decode cX8_read 46 = .ok (.aload_n 0, 1) := by decide +kernel
theorem dX8_read_47 : decode cX8_read 47 = .ok (.getfield 168, 3) := by decide +kernel
theorem dX8_read_50 : decode cX8_read 50 = .ok (.if_icmp .ge 34, 3) := by decide +kernel
theorem dX8_read_53 : decode cX8_read 53 = .ok (.aload_n 0, 1) := by decide +kernel
theorem dX8_read_54 : decode cX8_read 54 = .ok (.aload_n 0, 1) := by decide +kernel
theorem dX8_read_55 : decode cX8_read 55 = .ok (.getfield 22, 3) := by decide +kernel
theorem dX8_read_58 : decode cX8_read 58 = .ok (.iload_n 1, 1) := by decide +kernel
theorem dX8_read_59 : decode cX8_read 59 = .ok (.iaload, 1) := by decide +kernel
theorem dX8_read_60 : decode cX8_read 60 = .ok (.bipush 48, 2) := by decide +kernel
theorem dX8_read_62 : decode cX8_read 62 = .ok (.isub, 1) := by decide +kernel
theorem dX8_read_63 : decode cX8_read 63 = .ok (.aload_n 0, 1) := by decide +kernel
theorem dX8_read_64 : decode cX8_read 64 = .ok (.getfield 22, 3) := by decide +kernel
theorem dX8_read_67 : decode cX8_read 67 = .ok (.iload_n 1, 1) := by decide +kernel
theorem dX8_read_68 : decode cX8_read 68 = .ok (.iconst 1, 1) := by decide +kernel
theorem dX8_read_69 : decode cX8_read 69 = .ok (.iadd, 1) := by decide +kernel
theorem dX8_read_70 : decode cX8_read 70 = .ok (.iaload, 1) := by decide +kernel
theorem dX8_read_71 : decode cX8_read 71 = .ok (.bipush 48, 2) := by decide +kernel
theorem dX8_read_73 : decode cX8_read 73 = .ok (.isub, 1) := by decide +kernel
theorem dX8_read_74 : decode cX8_read 74 = .ok (.iconst 1, 1) := by decide +kernel
theorem dX8_read_75 : decode cX8_read 75 = .ok (.invokevirtual 116, 3) := by decide +kernel
theorem dX8_read_78 : decode cX8_read 78 = .ok (.iinc 1 3, 3) := by decide +kernel
theorem dX8_read_81 : decode cX8_read 81 = .ok (.goto (-36), 3) := by decide +kernel
theorem dX8_read_84 : decode cX8_read 84 = .ok (.aload_n 0, 1) := by decide +kernel
theorem dX8_read_85 : decode cX8_read 85 = .ok (.iconst 0, 1) := by decide +kernel
theorem dX8_read_86 : decode cX8_read 86 = .ok (.putfield 168, 3) := by decide +kernel
theorem dX8_read_89 : decode cX8_read 89 = .ok (.aload_n 0, 1) := by decide +kernel
theorem dX8_read_90 : decode cX8_read 90 = .ok (.invokevirtual 120, 3) := by decide +kernel
theorem dX8_read_93 : decode cX8_read 93 = .ok (.ireturn, 1) := by decide +kernel
theorem dX8_take_0 : decode cX8_take 0 = .ok (.aload_n 0, 1) := by decide +kernel
theorem dX8_take_1 : decode cX8_take 1 = .ok (.iload_n 1, 1) := by decide +kernel
theorem dX8_take_2 : decode cX8_take 2 = .ok (.invokestatic 135, 3) := by decide +kernel
theorem dX8_take_5 : decode cX8_take 5 = .ok (.ifCond .eq 7, 3) := by decide +kernel
theorem dX8_take_8 : decode cX8_take 8 = .ok (.iconst 0, 1) := by decide +kernel
theorem dX8_take_9 : decode cX8_take 9 = .ok (.goto 4, 3) := by decide +kernel
theorem dX8_take_12 : decode cX8_take 12 = .ok (.iconst 1, 1) := by decide +kernel
theorem dX8_take_13 : decode cX8_take 13 = .ok (.putfield 41, 3) := by decide +kernel
theorem dX8_take_16 : decode cX8_take 16 = .ok (.aload_n 0, 1) := by decide +kernel
theorem dX8_take_17 : decode cX8_take 17 = .ok (.getfield 41, 3) := by decide +kernel
theorem dX8_take_20 : decode cX8_take 20 = .ok (.ifCond .le 5, 3) := by decide +kernel
theorem dX8_take_23 : decode cX8_take 23 = .ok (.iconst 0, 1) := by decide +kernel
theorem dX8_take_24 : decode cX8_take 24 = .ok (.ireturn, 1) := by decide +kernel
theorem dX8_take_25 : decode cX8_take 25 = .ok (.aload_n 0, 1) := by decide +kernel
theorem dX8_take_26 : decode cX8_take 26 = .ok (.getfield 19, 3) := by decide +kernel
theorem dX8_take_29 : decode cX8_take 29 = .ok (.iload_n 1, 1) := by decide +kernel
theorem dX8_take_30 : decode cX8_take 30 = .ok (.iconst 1, 1) := by decide +kernel
theorem dX8_take_31 : decode cX8_take 31 = .ok (.iastore, 1) := by decide +kernel
theorem dX8_take_32 : decode cX8_take 32 = .ok (.iconst 0, 1) := by decide +kernel
theorem dX8_take_33 : decode cX8_take 33 = .ok (.istore_n 2, 1) := by decide +kernel
theorem dX8_take_34 : decode cX8_take 34 = .ok (.iload_n 2, 1) := by decide +kernel
theorem dX8_take_35 : decode cX8_take 35 = .ok (.bipush 55, 2) := by decide +kernel
theorem dX8_take_37 : decode cX8_take 37 = .ok (.if_icmp .ge 26, 3) := by decide +kernel
theorem dX8_take_40 : decode cX8_take 40 = .ok (.aload_n 0, 1) := by decide +kernel
theorem dX8_take_41 : decode cX8_take 41 = .ok (.getfield 16, 3) := by decide +kernel
theorem dX8_take_44 : decode cX8_take 44 = .ok (.bipush 55, 2) := by decide +kernel
theorem dX8_take_46 : decode cX8_take 46 = .ok (.iload_n 1, 1) := by decide +kernel
theorem dX8_take_47 : decode cX8_take 47 = .ok (.imul, 1) := by decide +kernel
theorem dX8_take_48 : decode cX8_take 48 = .ok (.iload_n 2, 1) := by decide +kernel
theorem dX8_take_49 : decode cX8_take 49 = .ok (.iadd, 1) := by decide +kernel
theorem dX8_take_50 : decode cX8_take 50 = .ok (.aload_n 0, 1) := by decide +kernel
theorem dX8_take_51 : decode cX8_take 51 = .ok (.getfield 7, 3) := by decide +kernel
theorem dX8_take_54 : decode cX8_take 54 = .ok (.iload_n 2, 1) := by decide +kernel
theorem dX8_take_55 : decode cX8_take 55 = .ok (.iaload, 1) := by decide +kernel
theorem dX8_take_56 : decode cX8_take 56 = .ok (.iastore, 1) := by decide +kernel
theorem dX8_take_57 : decode cX8_take 57 = .ok (.iinc 2 1, 3) := by decide +kernel
theorem dX8_take_60 : decode cX8_take 60 = .ok (.goto (-26), 3) := by decide +kernel
theorem dX8_take_63 : decode cX8_take 63 = .ok (.aload_n 0, 1) := by decide +kernel
theorem dX8_take_64 : decode cX8_take 64 = .ok (.getfield 7, 3) := by decide +kernel
theorem dX8_take_67 : decode cX8_take 67 = .ok (.iconst 0, 1) := by decide +kernel
theorem dX8_take_68 : decode cX8_take 68 = .ok (.iaload, 1) := by decide +kernel
theorem dX8_take_69 : decode cX8_take 69 = .ok (.ireturn, 1) := by decide +kernel
theorem dX8_restore_0 : decode cX8_restore 0 = .ok (.aload_n 0, 1) := by decide +kernel
theorem dX8_restore_1 : decode cX8_restore 1 = .ok (.aload_n 0, 1) := by decide +kernel
theorem dX8_restore_2 : decode cX8_restore 2 = .ok (.iload_n 1, 1) := by decide +kernel
theorem dX8_restore_3 : decode cX8_restore 3 = .ok (.invokevirtual 138, 3) := by decide +kernel
theorem dX8_restore_6 : decode cX8_restore 6 = .ok (.putfield 41, 3) := by decide +kernel
theorem dX8_restore_9 : decode cX8_restore 9 = .ok (.aload_n 0, 1) := by decide +kernel
theorem dX8_restore_10 : decode cX8_restore 10 = .ok (.getfield 41, 3) := by decide +kernel
theorem dX8_restore_13 : decode cX8_restore 13 = .ok (.ifCond .le 5, 3) := by decide +kernel
theorem dX8_restore_16 : decode cX8_restore 16 = .ok (.iconst 0, 1) := by decide +kernel
theorem dX8_restore_17 : decode cX8_restore 17 = .ok (.ireturn, 1) := by decide +kernel
theorem dX8_restore_18 : decode cX8_restore 18 = .ok (.aload_n 0, 1) := by decide +kernel
theorem dX8_restore_19 : decode cX8_restore 19 = .ok (.invokevirtual 110, 3) := by decide +kernel
theorem dX8_restore_22 : decode cX8_restore 22 = .ok (.iconst 0, 1) := by decide +kernel
theorem dX8_restore_23 : decode cX8_restore 23 = .ok (.istore_n 2, 1) := by decide +kernel
theorem dX8_restore_24 : decode cX8_restore 24 = .ok (.iload_n 2, 1) := by decide +kernel
theorem dX8_restore_25 : decode cX8_restore 25 = .ok (.bipush 54, 2) := by decide +kernel
theorem dX8_restore_27 : decode cX8_restore 27 = .ok (.if_icmp .ge 21, 3) := by decide +kernel
theorem dX8_restore_30 : decode cX8_restore 30 = .ok (.aload_n 0, 1) := by decide +kernel
theorem dX8_restore_31 : decode cX8_restore 31 = .ok (.getfield 7, 3) := by decide +kernel
theorem dX8_restore_34 : decode cX8_restore 34 = .ok (.iload_n 2, 1) := by decide +kernel
theorem dX8_restore_35 : decode cX8_restore 35 = .ok (.aload_n 0, 1) := by decide +kernel
theorem dX8_restore_36 : decode cX8_restore 36 = .ok (.iload_n 1, 1) := by decide +kernel
theorem dX8_restore_37 : decode cX8_restore 37 = .ok (.iload_n 2, 1) := by decide +kernel
theorem dX8_restore_38 : decode cX8_restore 38 = .ok (.invokevirtual 129, 3) := by decide +kernel
theorem dX8_restore_41 : decode cX8_restore 41 = .ok (.iastore, 1) := by decide +kernel
theorem dX8_restore_42 : decode cX8_restore 42 = .ok (.iinc 2 1, 3) := by decide +kernel
theorem dX8_restore_45 : decode cX8_restore 45 = .ok (.goto (-21), 3) := by decide +kernel
theorem dX8_restore_48 : decode cX8_restore 48 = .ok (.aload_n 0, 1) := by decide +kernel
theorem dX8_restore_49 : decode cX8_restore 49 = .ok (.getfield 7, 3) := by decide +kernel
theorem dX8_restore_52 : decode cX8_restore 52 = .ok (.iconst 0, 1) := by decide +kernel
theorem dX8_restore_53 : decode cX8_restore 53 = .ok (.iaload, 1) := by decide +kernel
theorem dX8_restore_54 : decode cX8_restore 54 = .ok (.ireturn, 1) := by decide +kernel
theorem dX8_undo_0 : decode cX8_undo 0 = .ok (.aload_n 0, 1) := by decide +kernel
theorem dX8_undo_1 : decode cX8_undo 1 = .ok (.aload_n 0, 1) := by decide +kernel
theorem dX8_undo_2 : decode cX8_undo 2 = .ok (.getfield 45, 3) := by decide +kernel
theorem dX8_undo_5 : decode cX8_undo 5 = .ok (.ifCond .le 7, 3) := by decide +kernel
theorem dX8_undo_8 : decode cX8_undo 8 = .ok (.iconst 0, 1) := by decide +kernel
theorem dX8_undo_9 : decode cX8_undo 9 = .ok (.goto 4, 3) := by decide +kernel
theorem dX8_undo_12 : decode cX8_undo 12 = .ok (.iconst 1, 1) := by decide +kernel
theorem dX8_undo_13 : decode cX8_undo 13 = .ok (.putfield 41, 3) := by decide +kernel
theorem dX8_undo_16 : decode cX8_undo 16 = .ok (.aload_n 0, 1) := by decide +kernel
theorem dX8_undo_17 : decode cX8_undo 17 = .ok (.getfield 41, 3) := by decide +kernel
theorem dX8_undo_20 : decode cX8_undo 20 = .ok (.ifCond .le 5, 3) := by decide +kernel
theorem dX8_undo_23 : decode cX8_undo 23 = .ok (.iconst 0, 1) := by decide +kernel
theorem dX8_undo_24 : decode cX8_undo 24 = .ok (.ireturn, 1) := by decide +kernel
theorem dX8_undo_25 : decode cX8_undo 25 = .ok (.aload_n 0, 1) := by decide +kernel
theorem dX8_undo_26 : decode cX8_undo 26 = .ok (.dup, 1) := by decide +kernel
theorem dX8_undo_27 : decode cX8_undo 27 = .ok (.getfield 45, 3) := by decide +kernel
theorem dX8_undo_30 : decode cX8_undo 30 = .ok (.iconst 1, 1) := by decide +kernel
theorem dX8_undo_31 : decode cX8_undo 31 = .ok (.isub, 1) := by decide +kernel
theorem dX8_undo_32 : decode cX8_undo 32 = .ok (.putfield 45, 3) := by decide +kernel
theorem dX8_undo_35 : decode cX8_undo 35 = .ok (.iconst 0, 1) := by decide +kernel
theorem dX8_undo_36 : decode cX8_undo 36 = .ok (.istore_n 1, 1) := by decide +kernel
theorem dX8_undo_37 : decode cX8_undo 37 = .ok (.iload_n 1, 1) := by decide +kernel
theorem dX8_undo_38 : decode cX8_undo 38 = .ok (.bipush 55, 2) := by decide +kernel
theorem dX8_undo_40 : decode cX8_undo 40 = .ok (.if_icmp .ge 29, 3) := by decide +kernel
theorem dX8_undo_43 : decode cX8_undo 43 = .ok (.aload_n 0, 1) := by decide +kernel
theorem dX8_undo_44 : decode cX8_undo 44 = .ok (.getfield 7, 3) := by decide +kernel
theorem dX8_undo_47 : decode cX8_undo 47 = .ok (.iload_n 1, 1) := by decide +kernel
theorem dX8_undo_48 : decode cX8_undo 48 = .ok (.aload_n 0, 1) := by decide +kernel
theorem dX8_undo_49 : decode cX8_undo 49 = .ok (.getfield 13, 3) := by decide +kernel
theorem dX8_undo_52 : decode cX8_undo 52 = .ok (.bipush 55, 2) := by decide +kernel
theorem dX8_undo_54 : decode cX8_undo 54 = .ok (.aload_n 0, 1) := by decide +kernel
theorem dX8_undo_55 : decode cX8_undo 55 = .ok (.getfield 45, 3) := by decide +kernel
theorem dX8_undo_58 : decode cX8_undo 58 = .ok (.imul, 1) := by decide +kernel
theorem dX8_undo_59 : decode cX8_undo 59 = .ok (.iload_n 1, 1) := by decide +kernel
theorem dX8_undo_60 : decode cX8_undo 60 = .ok (.iadd, 1) := by decide +kernel
theorem dX8_undo_61 : decode cX8_undo 61 = .ok (.iaload, 1) := by decide +kernel
theorem dX8_undo_62 : decode cX8_undo 62 = .ok (.iastore, 1) := by decide +kernel
theorem dX8_undo_63 : decode cX8_undo 63 = .ok (.iinc 1 1, 3) := by decide +kernel
theorem dX8_undo_66 : decode cX8_undo 66 = .ok (.goto (-29), 3) := by decide +kernel
theorem dX8_undo_69 : decode cX8_undo 69 = .ok (.aload_n 0, 1) := by decide +kernel
theorem dX8_undo_70 : decode cX8_undo 70 = .ok (.getfield 45, 3) := by decide +kernel
theorem dX8_undo_73 : decode cX8_undo 73 = .ok (.ireturn, 1) := by decide +kernel
theorem dX8_joined_0 : decode cX8_joined 0 = .ok (.aload_n 0, 1) := by decide +kernel
theorem dX8_joined_1 : decode cX8_joined 1 = .ok (.aload_n 0, 1) := by decide +kernel
theorem dX8_joined_2 : decode cX8_joined 2 = .ok (.iload_n 1, 1) := by decide +kernel
theorem dX8_joined_3 : decode cX8_joined 3 = .ok (.invokevirtual 113, 3) := by decide +kernel
theorem dX8_joined_6 : decode cX8_joined 6 = .ok (.ifCond .eq 15, 3) := by decide +kernel
theorem dX8_joined_9 : decode cX8_joined 9 = .ok (.aload_n 0, 1) := by decide +kernel
theorem dX8_joined_10 : decode cX8_joined 10 = .ok (.iload_n 2, 1) := by decide +kernel
theorem dX8_joined_11 : decode cX8_joined 11 = .ok (.invokevirtual 113, 3) := by decide +kernel
theorem dX8_joined_14 : decode cX8_joined 14 = .ok (.ifCond .eq 7, 3) := by decide +kernel
theorem dX8_joined_17 : decode cX8_joined 17 = .ok (.iconst 0, 1) := by decide +kernel
theorem dX8_joined_18 : decode cX8_joined 18 = .ok (.goto 4, 3) := by decide +kernel
theorem dX8_joined_21 : decode cX8_joined 21 = .ok (.iconst 1, 1) := by decide +kernel
theorem dX8_joined_22 : decode cX8_joined 22 = .ok (.putfield 41, 3) := by decide +kernel
theorem dX8_joined_25 : decode cX8_joined 25 = .ok (.aload_n 0, 1) := by decide +kernel
theorem dX8_joined_26 : decode cX8_joined 26 = .ok (.getfield 41, 3) := by decide +kernel
theorem dX8_joined_29 : decode cX8_joined 29 = .ok (.ifCond .gt 12, 3) := by decide +kernel
theorem dX8_joined_32 : decode cX8_joined 32 = .ok (.aload_n 0, 1) := by decide +kernel
theorem dX8_joined_33 : decode cX8_joined 33 = .ok (.iload_n 1, 1) := by decide +kernel
theorem dX8_joined_34 : decode cX8_joined 34 = .ok (.iload_n 2, 1) := by decide +kernel
theorem dX8_joined_35 : decode cX8_joined 35 = .ok (.invokevirtual 67, 3) := by decide +kernel
theorem dX8_joined_38 : decode cX8_joined 38 = .ok (.ifCond .ne 7, 3) := by decide +kernel
theorem dX8_joined_41 : decode cX8_joined 41 = .ok (.iconst 0, 1) := by decide +kernel
theorem dX8_joined_42 : decode cX8_joined 42 = .ok (.goto 4, 3) := by decide +kernel
theorem dX8_joined_45 : decode cX8_joined 45 = .ok (.iconst 1, 1) := by decide +kernel
theorem dX8_joined_46 : decode cX8_joined 46 = .ok (.ireturn, 1) := by decide +kernel
theorem dX8_colorOf_0 : decode cX8_colorOf 0 = .ok (.aload_n 0, 1) := by decide +kernel
theorem dX8_colorOf_1 : decode cX8_colorOf 1 = .ok (.invokevirtual 147, 3) := by decide +kernel
theorem dX8_colorOf_4 : decode cX8_colorOf 4 = .ok (.istore_n 2, 1) := by decide +kernel
theorem dX8_colorOf_5 : decode cX8_colorOf 5 = .ok (.iload_n 2, 1) := by decide +kernel
theorem dX8_colorOf_6 : decode cX8_colorOf 6 = .ok (.ifCond .le 12, 3) := by decide +kernel
theorem dX8_colorOf_9 : decode cX8_colorOf 9 = .ok (.aload_n 0, 1) := by decide +kernel
theorem dX8_colorOf_10 : decode cX8_colorOf 10 = .ok (.getfield 25, 3) := by decide +kernel
theorem dX8_colorOf_13 : decode cX8_colorOf 13 = .ok (.iload_n 1, 1) := by decide +kernel
theorem dX8_colorOf_14 : decode cX8_colorOf 14 = .ok (.iaload, 1) := by decide +kernel
theorem dX8_colorOf_15 : decode cX8_colorOf 15 = .ok (.goto 4, 3) := by decide +kernel
theorem dX8_colorOf_18 : decode cX8_colorOf 18 = .ok (.iconst (-1), 1) := by decide +kernel
theorem dX8_colorOf_19 : decode cX8_colorOf 19 = .ok (.ireturn, 1) := by decide +kernel
theorem dX8_vertexNow_0 : decode cX8_vertexNow 0 = .ok (.iload_n 2, 1) := by decide +kernel
theorem dX8_vertexNow_1 : decode cX8_vertexNow 1 = .ok (.tableswitch 95 0 5 #[39, 45, 58, 71, 77, 83], 39) := by decide +kernel
theorem dX8_vertexNow_40 : decode cX8_vertexNow 40 = .ok (.aload_n 0, 1) := by decide +kernel
theorem dX8_vertexNow_41 : decode cX8_vertexNow 41 = .ok (.iload_n 1, 1) := by decide +kernel
theorem dX8_vertexNow_42 : decode cX8_vertexNow 42 = .ok (.invokevirtual 70, 3) := by decide +kernel
theorem dX8_vertexNow_45 : decode cX8_vertexNow 45 = .ok (.ireturn, 1) := by decide +kernel
theorem dX8_vertexNow_46 : decode cX8_vertexNow 46 = .ok (.aload_n 0, 1) := by decide +kernel
theorem dX8_vertexNow_47 : decode cX8_vertexNow 47 = .ok (.getfield 7, 3) := by decide +kernel
theorem dX8_vertexNow_50 : decode cX8_vertexNow 50 = .ok (.bipush 10, 2) := by decide +kernel
theorem dX8_vertexNow_52 : decode cX8_vertexNow 52 = .ok (.iload_n 1, 1) := by decide +kernel
theorem dX8_vertexNow_53 : decode cX8_vertexNow 53 = .ok (.iadd, 1) := by decide +kernel
theorem dX8_vertexNow_54 : decode cX8_vertexNow 54 = .ok (.iaload, 1) := by decide +kernel
theorem dX8_vertexNow_55 : decode cX8_vertexNow 55 = .ok (.invokestatic 64, 3) := by decide +kernel
theorem dX8_vertexNow_58 : decode cX8_vertexNow 58 = .ok (.ireturn, 1) := by decide +kernel
theorem dX8_vertexNow_59 : decode cX8_vertexNow 59 = .ok (.aload_n 0, 1) := by decide +kernel
theorem dX8_vertexNow_60 : decode cX8_vertexNow 60 = .ok (.iload_n 1, 1) := by decide +kernel
theorem dX8_vertexNow_61 : decode cX8_vertexNow 61 = .ok (.invokestatic 56, 3) := by decide +kernel
theorem dX8_vertexNow_64 : decode cX8_vertexNow 64 = .ok (.iload_n 1, 1) := by decide +kernel
theorem dX8_vertexNow_65 : decode cX8_vertexNow 65 = .ok (.invokestatic 56, 3) := by decide +kernel
theorem dX8_vertexNow_68 : decode cX8_vertexNow 68 = .ok (.invokevirtual 60, 3) := by decide +kernel
theorem dX8_vertexNow_71 : decode cX8_vertexNow 71 = .ok (.ireturn, 1) := by decide +kernel
theorem dX8_vertexNow_72 : decode cX8_vertexNow 72 = .ok (.aload_n 0, 1) := by decide +kernel
theorem dX8_vertexNow_73 : decode cX8_vertexNow 73 = .ok (.iload_n 1, 1) := by decide +kernel
theorem dX8_vertexNow_74 : decode cX8_vertexNow 74 = .ok (.invokevirtual 73, 3) := by decide +kernel
theorem dX8_vertexNow_77 : decode cX8_vertexNow 77 = .ok (.ireturn, 1) := by decide +kernel
theorem dX8_vertexNow_78 : decode cX8_vertexNow 78 = .ok (.aload_n 0, 1) := by decide +kernel
theorem dX8_vertexNow_79 : decode cX8_vertexNow 79 = .ok (.iload_n 1, 1) := by decide +kernel
theorem dX8_vertexNow_80 : decode cX8_vertexNow 80 = .ok (.invokevirtual 177, 3) := by decide +kernel
theorem dX8_vertexNow_83 : decode cX8_vertexNow 83 = .ok (.ireturn, 1) := by decide +kernel
theorem dX8_vertexNow_84 : decode cX8_vertexNow 84 = .ok (.aload_n 0, 1) := by decide +kernel
theorem dX8_vertexNow_85 : decode cX8_vertexNow 85 = .ok (.aload_n 0, 1) := by decide +kernel
theorem dX8_vertexNow_86 : decode cX8_vertexNow 86 = .ok (.iconst 1, 1) := by decide +kernel
theorem dX8_vertexNow_87 : decode cX8_vertexNow 87 = .ok (.iload_n 1, 1) := by decide +kernel
theorem dX8_vertexNow_88 : decode cX8_vertexNow 88 = .ok (.ishl, 1) := by decide +kernel
theorem dX8_vertexNow_89 : decode cX8_vertexNow 89 = .ok (.invokevirtual 180, 3) := by decide +kernel
theorem dX8_vertexNow_92 : decode cX8_vertexNow 92 = .ok (.invokevirtual 101, 3) := by decide +kernel
theorem dX8_vertexNow_95 : decode cX8_vertexNow 95 = .ok (.ireturn, 1) := by decide +kernel
theorem dX8_vertexNow_96 : decode cX8_vertexNow 96 = .ok (.aload_n 0, 1) := by decide +kernel
theorem dX8_vertexNow_97 : decode cX8_vertexNow 97 = .ok (.getfield 7, 3) := by decide +kernel
theorem dX8_vertexNow_100 : decode cX8_vertexNow 100 = .ok (.iload_n 1, 1) := by decide +kernel
theorem dX8_vertexNow_101 : decode cX8_vertexNow 101 = .ok (.invokestatic 56, 3) := by decide +kernel
theorem dX8_vertexNow_104 : decode cX8_vertexNow 104 = .ok (.iload_n 2, 1) := by decide +kernel
theorem dX8_vertexNow_105 : decode cX8_vertexNow 105 = .ok (.iadd, 1) := by decide +kernel
theorem dX8_vertexNow_106 : decode cX8_vertexNow 106 = .ok (.bipush 10, 2) := by decide +kernel
theorem dX8_vertexNow_108 : decode cX8_vertexNow 108 = .ok (.isub, 1) := by decide +kernel
theorem dX8_vertexNow_109 : decode cX8_vertexNow 109 = .ok (.iaload, 1) := by decide +kernel
theorem dX8_vertexNow_110 : decode cX8_vertexNow 110 = .ok (.ireturn, 1) := by decide +kernel
theorem dX8_vertex_0 : decode cX8_vertex 0 = .ok (.aload_n 0, 1) := by decide +kernel
theorem dX8_vertex_1 : decode cX8_vertex 1 = .ok (.aload_n 0, 1) := by decide +kernel
theorem dX8_vertex_2 : decode cX8_vertex 2 = .ok (.iload_n 1, 1) := by decide +kernel
theorem dX8_vertex_3 : decode cX8_vertex 3 = .ok (.invokevirtual 113, 3) := by decide +kernel
theorem dX8_vertex_6 : decode cX8_vertex 6 = .ok (.ifCond .ne 7, 3) := by decide +kernel
theorem dX8_vertex_9 : decode cX8_vertex 9 = .ok (.iconst 1, 1) := by decide +kernel
theorem dX8_vertex_10 : decode cX8_vertex 10 = .ok (.goto 28, 3) := by decide +kernel
theorem dX8_vertex_13 : decode cX8_vertex 13 = .ok (.iload_n 2, 1) := by decide +kernel
theorem dX8_vertex_14 : decode cX8_vertex 14 = .ok (.iconst 0, 1) := by decide +kernel
theorem dX8_vertex_15 : decode cX8_vertex 15 = .ok (.iconst 5, 1) := by decide +kernel
theorem dX8_vertex_16 : decode cX8_vertex 16 = .ok (.invokestatic 48, 3) := by decide +kernel
theorem dX8_vertex_19 : decode cX8_vertex 19 = .ok (.ifCond .ne 14, 3) := by decide +kernel
theorem dX8_vertex_22 : decode cX8_vertex 22 = .ok (.iload_n 2, 1) := by decide +kernel
theorem dX8_vertex_23 : decode cX8_vertex 23 = .ok (.bipush 10, 2) := by decide +kernel
theorem dX8_vertex_25 : decode cX8_vertex 25 = .ok (.bipush 13, 2) := by decide +kernel
theorem dX8_vertex_27 : decode cX8_vertex 27 = .ok (.invokestatic 48, 3) := by decide +kernel
theorem dX8_vertex_30 : decode cX8_vertex 30 = .ok (.ifCond .eq 7, 3) := by decide +kernel
theorem dX8_vertex_33 : decode cX8_vertex 33 = .ok (.iconst 0, 1) := by decide +kernel
theorem dX8_vertex_34 : decode cX8_vertex 34 = .ok (.goto 4, 3) := by decide +kernel
theorem dX8_vertex_37 : decode cX8_vertex 37 = .ok (.iconst 2, 1) := by decide +kernel
theorem dX8_vertex_38 : decode cX8_vertex 38 = .ok (.putfield 41, 3) := by decide +kernel
theorem dX8_vertex_41 : decode cX8_vertex 41 = .ok (.aload_n 0, 1) := by decide +kernel
theorem dX8_vertex_42 : decode cX8_vertex 42 = .ok (.getfield 41, 3) := by decide +kernel
theorem dX8_vertex_45 : decode cX8_vertex 45 = .ok (.ifCond .le 7, 3) := by decide +kernel
theorem dX8_vertex_48 : decode cX8_vertex 48 = .ok (.iconst 0, 1) := by decide +kernel
theorem dX8_vertex_49 : decode cX8_vertex 49 = .ok (.goto 9, 3) := by decide +kernel
theorem dX8_vertex_52 : decode cX8_vertex 52 = .ok (.aload_n 0, 1) := by decide +kernel
theorem dX8_vertex_53 : decode cX8_vertex 53 = .ok (.iload_n 1, 1) := by decide +kernel
theorem dX8_vertex_54 : decode cX8_vertex 54 = .ok (.iload_n 2, 1) := by decide +kernel
theorem dX8_vertex_55 : decode cX8_vertex 55 = .ok (.invokevirtual 183, 3) := by decide +kernel
theorem dX8_vertex_58 : decode cX8_vertex 58 = .ok (.ireturn, 1) := by decide +kernel
theorem dX8_handle_0 : decode cX8_handle 0 = .ok (.aload_n 0, 1) := by decide +kernel
theorem dX8_handle_1 : decode cX8_handle 1 = .ok (.aload_n 0, 1) := by decide +kernel
theorem dX8_handle_2 : decode cX8_handle 2 = .ok (.iload_n 1, 1) := by decide +kernel
theorem dX8_handle_3 : decode cX8_handle 3 = .ok (.invokevirtual 144, 3) := by decide +kernel
theorem dX8_handle_6 : decode cX8_handle 6 = .ok (.ifCond .eq 7, 3) := by decide +kernel
theorem dX8_handle_9 : decode cX8_handle 9 = .ok (.iconst 0, 1) := by decide +kernel
theorem dX8_handle_10 : decode cX8_handle 10 = .ok (.goto 4, 3) := by decide +kernel
theorem dX8_handle_13 : decode cX8_handle 13 = .ok (.iconst 1, 1) := by decide +kernel
theorem dX8_handle_14 : decode cX8_handle 14 = .ok (.putfield 41, 3) := by decide +kernel
theorem dX8_handle_17 : decode cX8_handle 17 = .ok (.aload_n 0, 1) := by decide +kernel
theorem dX8_handle_18 : decode cX8_handle 18 = .ok (.getfield 41, 3) := by decide +kernel
theorem dX8_handle_21 : decode cX8_handle 21 = .ok (.ifCond .le 7, 3) := by decide +kernel
theorem dX8_handle_24 : decode cX8_handle 24 = .ok (.iconst 0, 1) := by decide +kernel
theorem dX8_handle_25 : decode cX8_handle 25 = .ok (.goto 12, 3) := by decide +kernel
theorem dX8_handle_28 : decode cX8_handle 28 = .ok (.aload_n 0, 1) := by decide +kernel
theorem dX8_handle_29 : decode cX8_handle 29 = .ok (.getfield 7, 3) := by decide +kernel
theorem dX8_handle_32 : decode cX8_handle 32 = .ok (.bipush 50, 2) := by decide +kernel
theorem dX8_handle_34 : decode cX8_handle 34 = .ok (.iload_n 1, 1) := by decide +kernel
theorem dX8_handle_35 : decode cX8_handle 35 = .ok (.iadd, 1) := by decide +kernel
theorem dX8_handle_36 : decode cX8_handle 36 = .ok (.iaload, 1) := by decide +kernel
theorem dX8_handle_37 : decode cX8_handle 37 = .ok (.ireturn, 1) := by decide +kernel
theorem dX8_boundNow_0 : decode cX8_boundNow 0 = .ok (.aload_n 0, 1) := by decide +kernel
theorem dX8_boundNow_1 : decode cX8_boundNow 1 = .ok (.invokevirtual 186, 3) := by decide +kernel
theorem dX8_boundNow_4 : decode cX8_boundNow 4 = .ok (.ifCond .le 7, 3) := by decide +kernel
theorem dX8_boundNow_7 : decode cX8_boundNow 7 = .ok (.ldc2_w 189, 3) := by decide +kernel
theorem dX8_boundNow_10 : decode cX8_boundNow 10 = .ok (.lreturn, 1) := by decide +kernel
theorem dX8_boundNow_11 : decode cX8_boundNow 11 = .ok (.aload_n 0, 1) := by decide +kernel
theorem dX8_boundNow_12 : decode cX8_boundNow 12 = .ok (.invokevirtual 156, 3) := by decide +kernel
theorem dX8_boundNow_15 : decode cX8_boundNow 15 = .ok (.iload_n 1, 1) := by decide +kernel
theorem dX8_boundNow_16 : decode cX8_boundNow 16 = .ok (.ifCond .ne 10, 3) := by decide +kernel
theorem dX8_boundNow_19 : decode cX8_boundNow 19 = .ok (.aload_n 0, 1) := by decide +kernel
theorem dX8_boundNow_20 : decode cX8_boundNow 20 = .ok (.getfield 83, 3) := by decide +kernel
theorem dX8_boundNow_23 : decode cX8_boundNow 23 = .ok (.goto 20, 3) := by decide +kernel
theorem dX8_boundNow_26 : decode cX8_boundNow 26 = .ok (.iload_n 1, 1) := by decide +kernel
theorem dX8_boundNow_27 : decode cX8_boundNow 27 = .ok (.iconst 1, 1) := by decide +kernel
theorem dX8_boundNow_28 : decode cX8_boundNow 28 = .ok (.if_icmp .ne 10, 3) := by decide +kernel
theorem dX8_boundNow_31 : decode cX8_boundNow 31 = .ok (.aload_n 0, 1) := by decide +kernel
theorem dX8_boundNow_32 : decode cX8_boundNow 32 = .ok (.getfield 87, 3) := by decide +kernel
theorem dX8_boundNow_35 : decode cX8_boundNow 35 = .ok (.goto 8, 3) := by decide +kernel
theorem dX8_boundNow_38 : decode cX8_boundNow 38 = .ok (.aload_n 0, 1) := by decide +kernel
theorem dX8_boundNow_39 : decode cX8_boundNow 39 = .ok (.getfield 90, 3) := by decide +kernel
theorem dX8_boundNow_42 : decode cX8_boundNow 42 = .ok (.i2l, 1) := by decide +kernel
theorem dX8_boundNow_43 : decode cX8_boundNow 43 = .ok (.lreturn, 1) := by decide +kernel
theorem dX8_bound_0 : decode cX8_bound 0 = .ok (.aload_n 0, 1) := by decide +kernel
theorem dX8_bound_1 : decode cX8_bound 1 = .ok (.iload_n 1, 1) := by decide +kernel
theorem dX8_bound_2 : decode cX8_bound 2 = .ok (.iconst 0, 1) := by decide +kernel
theorem dX8_bound_3 : decode cX8_bound 3 = .ok (.iconst 2, 1) := by decide +kernel
theorem dX8_bound_4 : decode cX8_bound 4 = .ok (.invokestatic 48, 3) := by decide +kernel
theorem dX8_bound_7 : decode cX8_bound 7 = .ok (.ifCond .eq 7, 3) := by decide +kernel
theorem dX8_bound_10 : decode cX8_bound 10 = .ok (.iconst 0, 1) := by decide +kernel
theorem dX8_bound_11 : decode cX8_bound 11 = .ok (.goto 4, 3) := by decide +kernel
theorem dX8_bound_14 : decode cX8_bound 14 = .ok (.iconst 1, 1) := by decide +kernel
theorem dX8_bound_15 : decode cX8_bound 15 = .ok (.putfield 41, 3) := by decide +kernel
theorem dX8_bound_18 : decode cX8_bound 18 = .ok (.aload_n 0, 1) := by decide +kernel
theorem dX8_bound_19 : decode cX8_bound 19 = .ok (.getfield 41, 3) := by decide +kernel
theorem dX8_bound_22 : decode cX8_bound 22 = .ok (.ifCond .le 7, 3) := by decide +kernel
theorem dX8_bound_25 : decode cX8_bound 25 = .ok (.lconst 0, 1) := by decide +kernel
theorem dX8_bound_26 : decode cX8_bound 26 = .ok (.goto 8, 3) := by decide +kernel
theorem dX8_bound_29 : decode cX8_bound 29 = .ok (.aload_n 0, 1) := by decide +kernel
theorem dX8_bound_30 : decode cX8_bound 30 = .ok (.iload_n 1, 1) := by decide +kernel
theorem dX8_bound_31 : decode cX8_bound 31 = .ok (.invokevirtual 191, 3) := by decide +kernel
theorem dX8_bound_34 : decode cX8_bound 34 = .ok (.lreturn, 1) := by decide +kernel
theorem dX8_reasonNow_0 : decode cX8_reasonNow 0 = .ok (.aload_n 0, 1) := by decide +kernel
theorem dX8_reasonNow_1 : decode cX8_reasonNow 1 = .ok (.invokevirtual 76, 3) := by decide +kernel
theorem dX8_reasonNow_4 : decode cX8_reasonNow 4 = .ok (.istore_n 2, 1) := by decide +kernel
theorem dX8_reasonNow_5 : decode cX8_reasonNow 5 = .ok (.iload_n 1, 1) := by decide +kernel
theorem dX8_reasonNow_6 : decode cX8_reasonNow 6 = .ok (.ifCond .ne 8, 3) := by decide +kernel
theorem dX8_reasonNow_9 : decode cX8_reasonNow 9 = .ok (.aload_n 0, 1) := by decide +kernel
theorem dX8_reasonNow_10 : decode cX8_reasonNow 10 = .ok (.invokevirtual 186, 3) := by decide +kernel
theorem dX8_reasonNow_13 : decode cX8_reasonNow 13 = .ok (.ireturn, 1) := by decide +kernel
theorem dX8_reasonNow_14 : decode cX8_reasonNow 14 = .ok (.iload_n 2, 1) := by decide +kernel
theorem dX8_reasonNow_15 : decode cX8_reasonNow 15 = .ok (.iconst (-1), 1) := by decide +kernel
theorem dX8_reasonNow_16 : decode cX8_reasonNow 16 = .ok (.if_icmp .eq 20, 3) := by decide +kernel
theorem dX8_reasonNow_19 : decode cX8_reasonNow 19 = .ok (.iload_n 1, 1) := by decide +kernel
theorem dX8_reasonNow_20 : decode cX8_reasonNow 20 = .ok (.iconst 1, 1) := by decide +kernel
theorem dX8_reasonNow_21 : decode cX8_reasonNow 21 = .ok (.if_icmp .ne 10, 3) := by decide +kernel
theorem dX8_reasonNow_24 : decode cX8_reasonNow 24 = .ok (.iload_n 2, 1) := by decide +kernel
theorem dX8_reasonNow_25 : decode cX8_reasonNow 25 = .ok (.bipush 8, 2) := by decide +kernel
theorem dX8_reasonNow_27 : decode cX8_reasonNow 27 = .ok (.idiv, 1) := by decide +kernel
theorem dX8_reasonNow_28 : decode cX8_reasonNow 28 = .ok (.goto 7, 3) := by decide +kernel
theorem dX8_reasonNow_31 : decode cX8_reasonNow 31 = .ok (.iload_n 2, 1) := by decide +kernel
theorem dX8_reasonNow_32 : decode cX8_reasonNow 32 = .ok (.bipush 8, 2) := by decide +kernel
theorem dX8_reasonNow_34 : decode cX8_reasonNow 34 = .ok (.irem, 1) := by decide +kernel
theorem dX8_reasonNow_35 : decode cX8_reasonNow 35 = .ok (.ireturn, 1) := by decide +kernel
theorem dX8_reasonNow_36 : decode cX8_reasonNow 36 = .ok (.iload_n 1, 1) := by decide +kernel
theorem dX8_reasonNow_37 : decode cX8_reasonNow 37 = .ok (.iconst 1, 1) := by decide +kernel
theorem dX8_reasonNow_38 : decode cX8_reasonNow 38 = .ok (.if_icmp .ne 10, 3) := by decide +kernel
theorem dX8_reasonNow_41 : decode cX8_reasonNow 41 = .ok (.aload_n 0, 1) := by decide +kernel
theorem dX8_reasonNow_42 : decode cX8_reasonNow 42 = .ok (.invokevirtual 80, 3) := by decide +kernel
theorem dX8_reasonNow_45 : decode cX8_reasonNow 45 = .ok (.goto 4, 3) := by decide +kernel
theorem dX8_reasonNow_48 : decode cX8_reasonNow 48 = .ok (.iconst (-1), 1) := by decide +kernel
theorem dX8_reasonNow_49 : decode cX8_reasonNow 49 = .ok (.ireturn, 1) := by decide +kernel
theorem dX8_whyNot_0 : decode cX8_whyNot 0 = .ok (.aload_n 0, 1) := by decide +kernel
theorem dX8_whyNot_1 : decode cX8_whyNot 1 = .ok (.iload_n 1, 1) := by decide +kernel
theorem dX8_whyNot_2 : decode cX8_whyNot 2 = .ok (.iconst 0, 1) := by decide +kernel
theorem dX8_whyNot_3 : decode cX8_whyNot 3 = .ok (.iconst 2, 1) := by decide +kernel
theorem dX8_whyNot_4 : decode cX8_whyNot 4 = .ok (.invokestatic 48, 3) := by decide +kernel
theorem dX8_whyNot_7 : decode cX8_whyNot 7 = .ok (.ifCond .eq 7, 3) := by decide +kernel
theorem dX8_whyNot_10 : decode cX8_whyNot 10 = .ok (.iconst 0, 1) := by decide +kernel
theorem dX8_whyNot_11 : decode cX8_whyNot 11 = .ok (.goto 4, 3) := by decide +kernel
theorem dX8_whyNot_14 : decode cX8_whyNot 14 = .ok (.iconst 1, 1) := by decide +kernel
theorem dX8_whyNot_15 : decode cX8_whyNot 15 = .ok (.putfield 41, 3) := by decide +kernel
theorem dX8_whyNot_18 : decode cX8_whyNot 18 = .ok (.aload_n 0, 1) := by decide +kernel
theorem dX8_whyNot_19 : decode cX8_whyNot 19 = .ok (.getfield 41, 3) := by decide +kernel
theorem dX8_whyNot_22 : decode cX8_whyNot 22 = .ok (.ifCond .le 7, 3) := by decide +kernel
theorem dX8_whyNot_25 : decode cX8_whyNot 25 = .ok (.iconst 0, 1) := by decide +kernel
theorem dX8_whyNot_26 : decode cX8_whyNot 26 = .ok (.goto 8, 3) := by decide +kernel
theorem dX8_whyNot_29 : decode cX8_whyNot 29 = .ok (.aload_n 0, 1) := by decide +kernel
theorem dX8_whyNot_30 : decode cX8_whyNot 30 = .ok (.iload_n 1, 1) := by decide +kernel
theorem dX8_whyNot_31 : decode cX8_whyNot 31 = .ok (.invokevirtual 195, 3) := by decide +kernel
theorem dX8_whyNot_34 : decode cX8_whyNot 34 = .ok (.ireturn, 1) := by decide +kernel
theorem dX8_whyNotMultiply_0 : decode cX8_whyNotMultiply 0 = .ok (.aload_n 0, 1) := by decide +kernel
theorem dX8_whyNotMultiply_1 : decode cX8_whyNotMultiply 1 = .ok (.aload_n 0, 1) := by decide +kernel
theorem dX8_whyNotMultiply_2 : decode cX8_whyNotMultiply 2 = .ok (.iload_n 1, 1) := by decide +kernel
theorem dX8_whyNotMultiply_3 : decode cX8_whyNotMultiply 3 = .ok (.invokevirtual 138, 3) := by decide +kernel
theorem dX8_whyNotMultiply_6 : decode cX8_whyNotMultiply 6 = .ok (.putfield 41, 3) := by decide +kernel
theorem dX8_whyNotMultiply_9 : decode cX8_whyNotMultiply 9 = .ok (.aload_n 0, 1) := by decide +kernel
theorem dX8_whyNotMultiply_10 : decode cX8_whyNotMultiply 10 = .ok (.getfield 41, 3) := by decide +kernel
theorem dX8_whyNotMultiply_13 : decode cX8_whyNotMultiply 13 = .ok (.ifCond .le 7, 3) := by decide +kernel
theorem dX8_whyNotMultiply_16 : decode cX8_whyNotMultiply 16 = .ok (.iconst 0, 1) := by decide +kernel
theorem dX8_whyNotMultiply_17 : decode cX8_whyNotMultiply 17 = .ok (.goto 8, 3) := by decide +kernel
theorem dX8_whyNotMultiply_20 : decode cX8_whyNotMultiply 20 = .ok (.aload_n 0, 1) := by decide +kernel
theorem dX8_whyNotMultiply_21 : decode cX8_whyNotMultiply 21 = .ok (.iload_n 1, 1) := by decide +kernel
theorem dX8_whyNotMultiply_22 : decode cX8_whyNotMultiply 22 = .ok (.invokevirtual 141, 3) := by decide +kernel
theorem dX8_whyNotMultiply_25 : decode cX8_whyNotMultiply 25 = .ok (.ireturn, 1) := by decide +kernel
theorem dX8_bestNow_0 : decode cX8_bestNow 0 = .ok (.aload_n 0, 1) := by decide +kernel
theorem dX8_bestNow_1 : decode cX8_bestNow 1 = .ok (.iload_n 1, 1) := by decide +kernel
theorem dX8_bestNow_2 : decode cX8_bestNow 2 = .ok (.invokevirtual 165, 3) := by decide +kernel
theorem dX8_bestNow_5 : decode cX8_bestNow 5 = .ok (.istore_n 3, 1) := by decide +kernel
theorem dX8_bestNow_6 : decode cX8_bestNow 6 = .ok (.iload_n 2, 1) := by decide +kernel
theorem dX8_bestNow_7 : decode cX8_bestNow 7 = .ok (.iconst 2, 1) := by decide +kernel
theorem dX8_bestNow_8 : decode cX8_bestNow 8 = .ok (.if_icmp .ge 29, 3) := by decide +kernel
theorem dX8_bestNow_11 : decode cX8_bestNow 11 = .ok (.iload_n 3, 1) := by decide +kernel
theorem dX8_bestNow_12 : decode cX8_bestNow 12 = .ok (.ifCond .ne 9, 3) := by decide +kernel
theorem dX8_bestNow_15 : decode cX8_bestNow 15 = .ok (.ldc2_w 189, 3) := by decide +kernel
theorem dX8_bestNow_18 : decode cX8_bestNow 18 = .ok (.goto 18, 3) := by decide +kernel
theorem dX8_bestNow_21 : decode cX8_bestNow 21 = .ok (.iload_n 2, 1) := by decide +kernel
theorem dX8_bestNow_22 : decode cX8_bestNow 22 = .ok (.ifCond .ne 10, 3) := by decide +kernel
theorem dX8_bestNow_25 : decode cX8_bestNow 25 = .ok (.aload_n 0, 1) := by decide +kernel
theorem dX8_bestNow_26 : decode cX8_bestNow 26 = .ok (.getfield 159, 3) := by decide +kernel
theorem dX8_bestNow_29 : decode cX8_bestNow 29 = .ok (.goto 7, 3) := by decide +kernel
theorem dX8_bestNow_32 : decode cX8_bestNow 32 = .ok (.aload_n 0, 1) := by decide +kernel
theorem dX8_bestNow_33 : decode cX8_bestNow 33 = .ok (.getfield 150, 3) := by decide +kernel
theorem dX8_bestNow_36 : decode cX8_bestNow 36 = .ok (.lreturn, 1) := by decide +kernel
theorem dX8_bestNow_37 : decode cX8_bestNow 37 = .ok (.aload_n 0, 1) := by decide +kernel
theorem dX8_bestNow_38 : decode cX8_bestNow 38 = .ok (.getfield 31, 3) := by decide +kernel
theorem dX8_bestNow_41 : decode cX8_bestNow 41 = .ok (.iload_n 2, 1) := by decide +kernel
theorem dX8_bestNow_42 : decode cX8_bestNow 42 = .ok (.bipush 10, 2) := by decide +kernel
theorem dX8_bestNow_44 : decode cX8_bestNow 44 = .ok (.isub, 1) := by decide +kernel
theorem dX8_bestNow_45 : decode cX8_bestNow 45 = .ok (.iaload, 1) := by decide +kernel
theorem dX8_bestNow_46 : decode cX8_bestNow 46 = .ok (.i2l, 1) := by decide +kernel
theorem dX8_bestNow_47 : decode cX8_bestNow 47 = .ok (.lreturn, 1) := by decide +kernel
theorem dX8_bestHandle_0 : decode cX8_bestHandle 0 = .ok (.aload_n 0, 1) := by decide +kernel
theorem dX8_bestHandle_1 : decode cX8_bestHandle 1 = .ok (.iload_n 1, 1) := by decide +kernel
theorem dX8_bestHandle_2 : decode cX8_bestHandle 2 = .ok (.invokestatic 162, 3) := by decide +kernel
theorem dX8_bestHandle_5 : decode cX8_bestHandle 5 = .ok (.ifCond .eq 27, 3) := by decide +kernel
theorem dX8_bestHandle_8 : decode cX8_bestHandle 8 = .ok (.iload_n 2, 1) := by decide +kernel
theorem dX8_bestHandle_9 : decode cX8_bestHandle 9 = .ok (.iconst 0, 1) := by decide +kernel
theorem dX8_bestHandle_10 : decode cX8_bestHandle 10 = .ok (.iconst 1, 1) := by decide +kernel
theorem dX8_bestHandle_11 : decode cX8_bestHandle 11 = .ok (.invokestatic 48, 3) := by decide +kernel
theorem dX8_bestHandle_14 : decode cX8_bestHandle 14 = .ok (.ifCond .ne 14, 3) := by decide +kernel
theorem dX8_bestHandle_17 : decode cX8_bestHandle 17 = .ok (.iload_n 2, 1) := by decide +kernel
theorem dX8_bestHandle_18 : decode cX8_bestHandle 18 = .ok (.bipush 10, 2) := by decide +kernel
theorem dX8_bestHandle_20 : decode cX8_bestHandle 20 = .ok (.bipush 13, 2) := by decide +kernel
theorem dX8_bestHandle_22 : decode cX8_bestHandle 22 = .ok (.invokestatic 48, 3) := by decide +kernel
theorem dX8_bestHandle_25 : decode cX8_bestHandle 25 = .ok (.ifCond .eq 7, 3) := by decide +kernel
theorem dX8_bestHandle_28 : decode cX8_bestHandle 28 = .ok (.iconst 0, 1) := by decide +kernel
theorem dX8_bestHandle_29 : decode cX8_bestHandle 29 = .ok (.goto 4, 3) := by decide +kernel
theorem dX8_bestHandle_32 : decode cX8_bestHandle 32 = .ok (.iconst 1, 1) := by decide +kernel
theorem dX8_bestHandle_33 : decode cX8_bestHandle 33 = .ok (.putfield 41, 3) := by decide +kernel
theorem dX8_bestHandle_36 : decode cX8_bestHandle 36 = .ok (.aload_n 0, 1) := by decide +kernel
theorem dX8_bestHandle_37 : decode cX8_bestHandle 37 = .ok (.getfield 41, 3) := by decide +kernel
theorem dX8_bestHandle_40 : decode cX8_bestHandle 40 = .ok (.ifCond .le 7, 3) := by decide +kernel
theorem dX8_bestHandle_43 : decode cX8_bestHandle 43 = .ok (.lconst 0, 1) := by decide +kernel
theorem dX8_bestHandle_44 : decode cX8_bestHandle 44 = .ok (.goto 9, 3) := by decide +kernel
theorem dX8_bestHandle_47 : decode cX8_bestHandle 47 = .ok (.aload_n 0, 1) := by decide +kernel
theorem dX8_bestHandle_48 : decode cX8_bestHandle 48 = .ok (.iload_n 1, 1) := by decide +kernel
theorem dX8_bestHandle_49 : decode cX8_bestHandle 49 = .ok (.iload_n 2, 1) := by decide +kernel
theorem dX8_bestHandle_50 : decode cX8_bestHandle 50 = .ok (.invokevirtual 198, 3) := by decide +kernel
theorem dX8_bestHandle_53 : decode cX8_bestHandle 53 = .ok (.lreturn, 1) := by decide +kernel
theorem dX8_counted_0 : decode cX8_counted 0 = .ok (.iload_n 1, 1) := by decide +kernel
theorem dX8_counted_1 : decode cX8_counted 1 = .ok (.tableswitch 133 0 10 #[59, 59, 66, 71, 81, 87, 92, 97, 102, 111, 119], 59) := by decide +kernel
theorem dX8_counted_60 : decode cX8_counted 60 = .ok (.aload_n 0, 1) := by decide +kernel
theorem dX8_counted_61 : decode cX8_counted 61 = .ok (.getfield 7, 3) := by decide +kernel
theorem dX8_counted_64 : decode cX8_counted 64 = .ok (.iload_n 1, 1) := by decide +kernel
theorem dX8_counted_65 : decode cX8_counted 65 = .ok (.iaload, 1) := by decide +kernel
theorem dX8_counted_66 : decode cX8_counted 66 = .ok (.ireturn, 1) := by decide +kernel
theorem dX8_counted_67 : decode cX8_counted 67 = .ok (.aload_n 0, 1) := by decide +kernel
theorem dX8_counted_68 : decode cX8_counted 68 = .ok (.invokevirtual 120, 3) := by decide +kernel
theorem dX8_counted_71 : decode cX8_counted 71 = .ok (.ireturn, 1) := by decide +kernel
theorem dX8_counted_72 : decode cX8_counted 72 = .ok (.aload_n 0, 1) := by decide +kernel
theorem dX8_counted_73 : decode cX8_counted 73 = .ok (.aload_n 0, 1) := by decide +kernel
theorem dX8_counted_74 : decode cX8_counted 74 = .ok (.iconst 0, 1) := by decide +kernel
theorem dX8_counted_75 : decode cX8_counted 75 = .ok (.invokevirtual 180, 3) := by decide +kernel
theorem dX8_counted_78 : decode cX8_counted 78 = .ok (.invokevirtual 101, 3) := by decide +kernel
theorem dX8_counted_81 : decode cX8_counted 81 = .ok (.ireturn, 1) := by decide +kernel
theorem dX8_counted_82 : decode cX8_counted 82 = .ok (.aload_n 0, 1) := by decide +kernel
theorem dX8_counted_83 : decode cX8_counted 83 = .ok (.iconst 0, 1) := by decide +kernel
theorem dX8_counted_84 : decode cX8_counted 84 = .ok (.invokevirtual 180, 3) := by decide +kernel
theorem dX8_counted_87 : decode cX8_counted 87 = .ok (.ireturn, 1) := by decide +kernel
theorem dX8_counted_88 : decode cX8_counted 88 = .ok (.aload_n 0, 1) := by decide +kernel
theorem dX8_counted_89 : decode cX8_counted 89 = .ok (.invokevirtual 202, 3) := by decide +kernel
theorem dX8_counted_92 : decode cX8_counted 92 = .ok (.ireturn, 1) := by decide +kernel
theorem dX8_counted_93 : decode cX8_counted 93 = .ok (.aload_n 0, 1) := by decide +kernel
theorem dX8_counted_94 : decode cX8_counted 94 = .ok (.invokevirtual 147, 3) := by decide +kernel
theorem dX8_counted_97 : decode cX8_counted 97 = .ok (.ireturn, 1) := by decide +kernel
theorem dX8_counted_98 : decode cX8_counted 98 = .ok (.aload_n 0, 1) := by decide +kernel
theorem dX8_counted_99 : decode cX8_counted 99 = .ok (.invokevirtual 205, 3) := by decide +kernel
theorem dX8_counted_102 : decode cX8_counted 102 = .ok (.ireturn, 1) := by decide +kernel
theorem dX8_counted_103 : decode cX8_counted 103 = .ok (.aload_n 0, 1) := by decide +kernel
theorem dX8_counted_104 : decode cX8_counted 104 = .ok (.bipush 50, 2) := by decide +kernel
theorem dX8_counted_106 : decode cX8_counted 106 = .ok (.bipush 50, 2) := by decide +kernel
theorem dX8_counted_108 : decode cX8_counted 108 = .ok (.invokevirtual 60, 3) := by decide +kernel
theorem dX8_counted_111 : decode cX8_counted 111 = .ok (.ireturn, 1) := by decide +kernel
theorem dX8_counted_112 : decode cX8_counted 112 = .ok (.aload_n 0, 1) := by decide +kernel
theorem dX8_counted_113 : decode cX8_counted 113 = .ok (.getfield 7, 3) := by decide +kernel
theorem dX8_counted_116 : decode cX8_counted 116 = .ok (.bipush 54, 2) := by decide +kernel
theorem dX8_counted_118 : decode cX8_counted 118 = .ok (.iaload, 1) := by decide +kernel
theorem dX8_counted_119 : decode cX8_counted 119 = .ok (.ireturn, 1) := by decide +kernel
theorem dX8_counted_120 : decode cX8_counted 120 = .ok (.aload_n 0, 1) := by decide +kernel
theorem dX8_counted_121 : decode cX8_counted 121 = .ok (.getfield 19, 3) := by decide +kernel
theorem dX8_counted_124 : decode cX8_counted 124 = .ok (.iconst 0, 1) := by decide +kernel
theorem dX8_counted_125 : decode cX8_counted 125 = .ok (.iaload, 1) := by decide +kernel
theorem dX8_counted_126 : decode cX8_counted 126 = .ok (.aload_n 0, 1) := by decide +kernel
theorem dX8_counted_127 : decode cX8_counted 127 = .ok (.getfield 19, 3) := by decide +kernel
theorem dX8_counted_130 : decode cX8_counted 130 = .ok (.iconst 1, 1) := by decide +kernel
theorem dX8_counted_131 : decode cX8_counted 131 = .ok (.iaload, 1) := by decide +kernel
theorem dX8_counted_132 : decode cX8_counted 132 = .ok (.iadd, 1) := by decide +kernel
theorem dX8_counted_133 : decode cX8_counted 133 = .ok (.ireturn, 1) := by decide +kernel
theorem dX8_counted_134 : decode cX8_counted 134 = .ok (.aload_n 0, 1) := by decide +kernel
theorem dX8_counted_135 : decode cX8_counted 135 = .ok (.getfield 45, 3) := by decide +kernel
theorem dX8_counted_138 : decode cX8_counted 138 = .ok (.ireturn, 1) := by decide +kernel
theorem dX8_count_0 : decode cX8_count 0 = .ok (.aload_n 0, 1) := by decide +kernel
theorem dX8_count_1 : decode cX8_count 1 = .ok (.iload_n 1, 1) := by decide +kernel
theorem dX8_count_2 : decode cX8_count 2 = .ok (.iconst 0, 1) := by decide +kernel
theorem dX8_count_3 : decode cX8_count 3 = .ok (.bipush 11, 2) := by decide +kernel
theorem dX8_count_5 : decode cX8_count 5 = .ok (.invokestatic 48, 3) := by decide +kernel
theorem dX8_count_8 : decode cX8_count 8 = .ok (.ifCond .eq 7, 3) := by decide +kernel
theorem dX8_count_11 : decode cX8_count 11 = .ok (.iconst 0, 1) := by decide +kernel
theorem dX8_count_12 : decode cX8_count 12 = .ok (.goto 4, 3) := by decide +kernel
theorem dX8_count_15 : decode cX8_count 15 = .ok (.iconst 1, 1) := by decide +kernel
theorem dX8_count_16 : decode cX8_count 16 = .ok (.putfield 41, 3) := by decide +kernel
theorem dX8_count_19 : decode cX8_count 19 = .ok (.aload_n 0, 1) := by decide +kernel
theorem dX8_count_20 : decode cX8_count 20 = .ok (.getfield 41, 3) := by decide +kernel
theorem dX8_count_23 : decode cX8_count 23 = .ok (.ifCond .le 7, 3) := by decide +kernel
theorem dX8_count_26 : decode cX8_count 26 = .ok (.iconst 0, 1) := by decide +kernel
theorem dX8_count_27 : decode cX8_count 27 = .ok (.goto 8, 3) := by decide +kernel
theorem dX8_count_30 : decode cX8_count 30 = .ok (.aload_n 0, 1) := by decide +kernel
theorem dX8_count_31 : decode cX8_count 31 = .ok (.iload_n 1, 1) := by decide +kernel
theorem dX8_count_32 : decode cX8_count 32 = .ok (.invokevirtual 208, 3) := by decide +kernel
theorem dX8_count_35 : decode cX8_count 35 = .ok (.ireturn, 1) := by decide +kernel
theorem dX8_near_0 : decode cX8_near 0 = .ok (.aload_n 0, 1) := by decide +kernel
theorem dX8_near_1 : decode cX8_near 1 = .ok (.invokevirtual 186, 3) := by decide +kernel
theorem dX8_near_4 : decode cX8_near 4 = .ok (.ifCond .le 5, 3) := by decide +kernel
theorem dX8_near_7 : decode cX8_near 7 = .ok (.dconst 0, 1) := by decide +kernel
theorem dX8_near_8 : decode cX8_near 8 = .ok (.dreturn, 1) := by decide +kernel
theorem dX8_near_9 : decode cX8_near 9 = .ok (.aload_n 0, 1) := by decide +kernel
theorem dX8_near_10 : decode cX8_near 10 = .ok (.invokevirtual 156, 3) := by decide +kernel
theorem dX8_near_13 : decode cX8_near 13 = .ok (.aload_n 0, 1) := by decide +kernel
theorem dX8_near_14 : decode cX8_near 14 = .ok (.getfield 83, 3) := by decide +kernel
theorem dX8_near_17 : decode cX8_near 17 = .ok (.lconst 0, 1) := by decide +kernel
theorem dX8_near_18 : decode cX8_near 18 = .ok (.lcmp, 1) := by decide +kernel
theorem dX8_near_19 : decode cX8_near 19 = .ok (.ifCond .ne 7, 3) := by decide +kernel
theorem dX8_near_22 : decode cX8_near 22 = .ok (.dconst 0, 1) := by decide +kernel
theorem dX8_near_23 : decode cX8_near 23 = .ok (.goto 25, 3) := by decide +kernel
theorem dX8_near_26 : decode cX8_near 26 = .ok (.aload_n 0, 1) := by decide +kernel
theorem dX8_near_27 : decode cX8_near 27 = .ok (.aload_n 0, 1) := by decide +kernel
theorem dX8_near_28 : decode cX8_near 28 = .ok (.iconst 0, 1) := by decide +kernel
theorem dX8_near_29 : decode cX8_near 29 = .ok (.invokevirtual 180, 3) := by decide +kernel
theorem dX8_near_32 : decode cX8_near 32 = .ok (.invokevirtual 101, 3) := by decide +kernel
theorem dX8_near_35 : decode cX8_near 35 = .ok (.i2d, 1) := by decide +kernel
theorem dX8_near_36 : decode cX8_near 36 = .ok (.aload_n 0, 1) := by decide +kernel
theorem dX8_near_37 : decode cX8_near 37 = .ok (.getfield 87, 3) := by decide +kernel
theorem dX8_near_40 : decode cX8_near 40 = .ok (.l2d, 1) := by decide +kernel
theorem dX8_near_41 : decode cX8_near 41 = .ok (.dmul, 1) := by decide +kernel
theorem dX8_near_42 : decode cX8_near 42 = .ok (.aload_n 0, 1) := by decide +kernel
theorem dX8_near_43 : decode cX8_near 43 = .ok (.getfield 83, 3) := by decide +kernel
theorem dX8_near_46 : decode cX8_near 46 = .ok (.l2d, 1) := by decide +kernel
theorem dX8_near_47 : decode cX8_near 47 = .ok (.ddiv, 1) := by decide +kernel
theorem dX8_near_48 : decode cX8_near 48 = .ok (.dreturn, 1) := by decide +kernel
theorem dX8_nearness_0 : decode cX8_nearness 0 = .ok (.aload_n 0, 1) := by decide +kernel
theorem dX8_nearness_1 : decode cX8_nearness 1 = .ok (.iconst 0, 1) := by decide +kernel
theorem dX8_nearness_2 : decode cX8_nearness 2 = .ok (.putfield 41, 3) := by decide +kernel
theorem dX8_nearness_5 : decode cX8_nearness 5 = .ok (.aload_n 0, 1) := by decide +kernel
theorem dX8_nearness_6 : decode cX8_nearness 6 = .ok (.invokevirtual 211, 3) := by decide +kernel
theorem dX8_nearness_9 : decode cX8_nearness 9 = .ok (.dreturn, 1) := by decide +kernel
theorem dX8_mix_0 : decode cX8_mix 0 = .ok (.aload_n 0, 1) := by decide +kernel
theorem dX8_mix_1 : decode cX8_mix 1 = .ok (.ldc2_w 215, 3) := by decide +kernel
theorem dX8_mix_4 : decode cX8_mix 4 = .ok (.aload_n 0, 1) := by decide +kernel
theorem dX8_mix_5 : decode cX8_mix 5 = .ok (.getfield 217, 3) := by decide +kernel
theorem dX8_mix_8 : decode cX8_mix 8 = .ok (.lmul, 1) := by decide +kernel
theorem dX8_mix_9 : decode cX8_mix 9 = .ok (.lload_n 1, 1) := by decide +kernel
theorem dX8_mix_10 : decode cX8_mix 10 = .ok (.ladd, 1) := by decide +kernel
theorem dX8_mix_11 : decode cX8_mix 11 = .ok (.putfield 217, 3) := by decide +kernel
theorem dX8_mix_14 : decode cX8_mix 14 = .ok (.return_, 1) := by decide +kernel
theorem dX8_mixVertex_0 : decode cX8_mixVertex 0 = .ok (.iconst 0, 1) := by decide +kernel
theorem dX8_mixVertex_1 : decode cX8_mixVertex 1 = .ok (.istore_n 2, 1) := by decide +kernel
theorem dX8_mixVertex_2 : decode cX8_mixVertex 2 = .ok (.iload_n 2, 1) := by decide +kernel
theorem dX8_mixVertex_3 : decode cX8_mixVertex 3 = .ok (.bipush 14, 2) := by decide +kernel
theorem dX8_mixVertex_5 : decode cX8_mixVertex 5 = .ok (.if_icmp .ge 32, 3) := by decide +kernel
theorem dX8_mixVertex_8 : decode cX8_mixVertex 8 = .ok (.iload_n 2, 1) := by decide +kernel
theorem dX8_mixVertex_9 : decode cX8_mixVertex 9 = .ok (.bipush 6, 2) := by decide +kernel
theorem dX8_mixVertex_11 : decode cX8_mixVertex 11 = .ok (.if_icmp .lt 9, 3) := by decide +kernel
theorem dX8_mixVertex_14 : decode cX8_mixVertex 14 = .ok (.iload_n 2, 1) := by decide +kernel
theorem dX8_mixVertex_15 : decode cX8_mixVertex 15 = .ok (.bipush 9, 2) := by decide +kernel
theorem dX8_mixVertex_17 : decode cX8_mixVertex 17 = .ok (.if_icmp .le 14, 3) := by decide +kernel
theorem dX8_mixVertex_20 : decode cX8_mixVertex 20 = .ok (.aload_n 0, 1) := by decide +kernel
theorem dX8_mixVertex_21 : decode cX8_mixVertex 21 = .ok (.aload_n 0, 1) := by decide +kernel
theorem dX8_mixVertex_22 : decode cX8_mixVertex 22 = .ok (.iload_n 1, 1) := by decide +kernel
theorem dX8_mixVertex_23 : decode cX8_mixVertex 23 = .ok (.iload_n 2, 1) := by decide +kernel
theorem dX8_mixVertex_24 : decode cX8_mixVertex 24 = .ok (.invokevirtual 183, 3) := by decide +kernel
theorem dX8_mixVertex_27 : decode cX8_mixVertex 27 = .ok (.i2l, 1) := by decide +kernel
theorem dX8_mixVertex_28 : decode cX8_mixVertex 28 = .ok (.invokevirtual 220, 3) := by decide +kernel
theorem dX8_mixVertex_31 : decode cX8_mixVertex 31 = .ok (.iinc 2 1, 3) := by decide +kernel
theorem dX8_mixVertex_34 : decode cX8_mixVertex 34 = .ok (.goto (-32), 3) := by decide +kernel
theorem dX8_mixVertex_37 : decode cX8_mixVertex 37 = .ok (.iconst 0, 1) := by decide +kernel
theorem dX8_mixVertex_38 : decode cX8_mixVertex 38 = .ok (.istore_n 2, 1) := by decide +kernel
theorem dX8_mixVertex_39 : decode cX8_mixVertex 39 = .ok (.iload_n 2, 1) := by decide +kernel
theorem dX8_mixVertex_40 : decode cX8_mixVertex 40 = .ok (.aload_n 0, 1) := by decide +kernel
theorem dX8_mixVertex_41 : decode cX8_mixVertex 41 = .ok (.getfield 7, 3) := by decide +kernel
theorem dX8_mixVertex_44 : decode cX8_mixVertex 44 = .ok (.iconst 0, 1) := by decide +kernel
theorem dX8_mixVertex_45 : decode cX8_mixVertex 45 = .ok (.iaload, 1) := by decide +kernel
theorem dX8_mixVertex_46 : decode cX8_mixVertex 46 = .ok (.if_icmp .ge 27, 3) := by decide +kernel
theorem dX8_mixVertex_49 : decode cX8_mixVertex 49 = .ok (.aload_n 0, 1) := by decide +kernel
theorem dX8_mixVertex_50 : decode cX8_mixVertex 50 = .ok (.aload_n 0, 1) := by decide +kernel
theorem dX8_mixVertex_51 : decode cX8_mixVertex 51 = .ok (.iload_n 1, 1) := by decide +kernel
theorem dX8_mixVertex_52 : decode cX8_mixVertex 52 = .ok (.iload_n 2, 1) := by decide +kernel
theorem dX8_mixVertex_53 : decode cX8_mixVertex 53 = .ok (.invokevirtual 67, 3) := by decide +kernel
theorem dX8_mixVertex_56 : decode cX8_mixVertex 56 = .ok (.ifCond .eq 7, 3) := by decide +kernel
theorem dX8_mixVertex_59 : decode cX8_mixVertex 59 = .ok (.lconst 1, 1) := by decide +kernel
theorem dX8_mixVertex_60 : decode cX8_mixVertex 60 = .ok (.goto 4, 3) := by decide +kernel
theorem dX8_mixVertex_63 : decode cX8_mixVertex 63 = .ok (.lconst 0, 1) := by decide +kernel
theorem dX8_mixVertex_64 : decode cX8_mixVertex 64 = .ok (.invokevirtual 220, 3) := by decide +kernel
theorem dX8_mixVertex_67 : decode cX8_mixVertex 67 = .ok (.iinc 2 1, 3) := by decide +kernel
theorem dX8_mixVertex_70 : decode cX8_mixVertex 70 = .ok (.goto (-31), 3) := by decide +kernel
theorem dX8_mixVertex_73 : decode cX8_mixVertex 73 = .ok (.return_, 1) := by decide +kernel
theorem dX8_digest_0 : decode cX8_digest 0 = .ok (.aload_n 0, 1) := by decide +kernel
theorem dX8_digest_1 : decode cX8_digest 1 = .ok (.iconst 0, 1) := by decide +kernel
theorem dX8_digest_2 : decode cX8_digest 2 = .ok (.putfield 41, 3) := by decide +kernel
theorem dX8_digest_5 : decode cX8_digest 5 = .ok (.aload_n 0, 1) := by decide +kernel
theorem dX8_digest_6 : decode cX8_digest 6 = .ok (.ldc2_w 224, 3) := by decide +kernel
theorem dX8_digest_9 : decode cX8_digest 9 = .ok (.putfield 217, 3) := by decide +kernel
theorem dX8_digest_12 : decode cX8_digest 12 = .ok (.iconst 0, 1) := by decide +kernel
theorem dX8_digest_13 : decode cX8_digest 13 = .ok (.istore_n 1, 1) := by decide +kernel
theorem dX8_digest_14 : decode cX8_digest 14 = .ok (.iload_n 1, 1) := by decide +kernel
theorem dX8_digest_15 : decode cX8_digest 15 = .ok (.bipush 12, 2) := by decide +kernel
theorem dX8_digest_17 : decode cX8_digest 17 = .ok (.if_icmp .ge 19, 3) := by decide +kernel
theorem dX8_digest_20 : decode cX8_digest 20 = .ok (.aload_n 0, 1) := by decide +kernel
theorem dX8_digest_21 : decode cX8_digest 21 = .ok (.aload_n 0, 1) := by decide +kernel
theorem dX8_digest_22 : decode cX8_digest 22 = .ok (.iload_n 1, 1) := by decide +kernel
theorem dX8_digest_23 : decode cX8_digest 23 = .ok (.invokevirtual 208, 3) := by decide +kernel
theorem dX8_digest_26 : decode cX8_digest 26 = .ok (.i2l, 1) := by decide +kernel
theorem dX8_digest_27 : decode cX8_digest 27 = .ok (.invokevirtual 220, 3) := by decide +kernel
theorem dX8_digest_30 : decode cX8_digest 30 = .ok (.iinc 1 1, 3) := by decide +kernel
theorem dX8_digest_33 : decode cX8_digest 33 = .ok (.goto (-19), 3) := by decide +kernel
theorem dX8_digest_36 : decode cX8_digest 36 = .ok (.iconst 0, 1) := by decide +kernel
theorem dX8_digest_37 : decode cX8_digest 37 = .ok (.istore_n 1, 1) := by decide +kernel
theorem dX8_digest_38 : decode cX8_digest 38 = .ok (.iload_n 1, 1) := by decide +kernel
theorem dX8_digest_39 : decode cX8_digest 39 = .ok (.aload_n 0, 1) := by decide +kernel
theorem dX8_digest_40 : decode cX8_digest 40 = .ok (.getfield 7, 3) := by decide +kernel
theorem dX8_digest_43 : decode cX8_digest 43 = .ok (.iconst 0, 1) := by decide +kernel
theorem dX8_digest_44 : decode cX8_digest 44 = .ok (.iaload, 1) := by decide +kernel
theorem dX8_digest_45 : decode cX8_digest 45 = .ok (.if_icmp .ge 14, 3) := by decide +kernel
theorem dX8_digest_48 : decode cX8_digest 48 = .ok (.aload_n 0, 1) := by decide +kernel
theorem dX8_digest_49 : decode cX8_digest 49 = .ok (.iload_n 1, 1) := by decide +kernel
theorem dX8_digest_50 : decode cX8_digest 50 = .ok (.invokevirtual 226, 3) := by decide +kernel
theorem dX8_digest_53 : decode cX8_digest 53 = .ok (.iinc 1 1, 3) := by decide +kernel
theorem dX8_digest_56 : decode cX8_digest 56 = .ok (.goto (-18), 3) := by decide +kernel
theorem dX8_digest_59 : decode cX8_digest 59 = .ok (.iconst 0, 1) := by decide +kernel
theorem dX8_digest_60 : decode cX8_digest 60 = .ok (.istore_n 1, 1) := by decide +kernel
theorem dX8_digest_61 : decode cX8_digest 61 = .ok (.iload_n 1, 1) := by decide +kernel
theorem dX8_digest_62 : decode cX8_digest 62 = .ok (.aload_n 0, 1) := by decide +kernel
theorem dX8_digest_63 : decode cX8_digest 63 = .ok (.getfield 7, 3) := by decide +kernel
theorem dX8_digest_66 : decode cX8_digest 66 = .ok (.iconst 1, 1) := by decide +kernel
theorem dX8_digest_67 : decode cX8_digest 67 = .ok (.iaload, 1) := by decide +kernel
theorem dX8_digest_68 : decode cX8_digest 68 = .ok (.if_icmp .ge 23, 3) := by decide +kernel
theorem dX8_digest_71 : decode cX8_digest 71 = .ok (.aload_n 0, 1) := by decide +kernel
theorem dX8_digest_72 : decode cX8_digest 72 = .ok (.aload_n 0, 1) := by decide +kernel
theorem dX8_digest_73 : decode cX8_digest 73 = .ok (.getfield 7, 3) := by decide +kernel
theorem dX8_digest_76 : decode cX8_digest 76 = .ok (.bipush 50, 2) := by decide +kernel
theorem dX8_digest_78 : decode cX8_digest 78 = .ok (.iload_n 1, 1) := by decide +kernel
theorem dX8_digest_79 : decode cX8_digest 79 = .ok (.iadd, 1) := by decide +kernel
theorem dX8_digest_80 : decode cX8_digest 80 = .ok (.iaload, 1) := by decide +kernel
theorem dX8_digest_81 : decode cX8_digest 81 = .ok (.i2l, 1) := by decide +kernel
theorem dX8_digest_82 : decode cX8_digest 82 = .ok (.invokevirtual 220, 3) := by decide +kernel
theorem dX8_digest_85 : decode cX8_digest 85 = .ok (.iinc 1 1, 3) := by decide +kernel
theorem dX8_digest_88 : decode cX8_digest 88 = .ok (.goto (-27), 3) := by decide +kernel
theorem dX8_digest_91 : decode cX8_digest 91 = .ok (.iconst 0, 1) := by decide +kernel
theorem dX8_digest_92 : decode cX8_digest 92 = .ok (.istore_n 1, 1) := by decide +kernel
theorem dX8_digest_93 : decode cX8_digest 93 = .ok (.iload_n 1, 1) := by decide +kernel
theorem dX8_digest_94 : decode cX8_digest 94 = .ok (.iconst 3, 1) := by decide +kernel
theorem dX8_digest_95 : decode cX8_digest 95 = .ok (.if_icmp .ge 18, 3) := by decide +kernel
theorem dX8_digest_98 : decode cX8_digest 98 = .ok (.aload_n 0, 1) := by decide +kernel
theorem dX8_digest_99 : decode cX8_digest 99 = .ok (.aload_n 0, 1) := by decide +kernel
theorem dX8_digest_100 : decode cX8_digest 100 = .ok (.iload_n 1, 1) := by decide +kernel
theorem dX8_digest_101 : decode cX8_digest 101 = .ok (.invokevirtual 191, 3) := by decide +kernel
theorem dX8_digest_104 : decode cX8_digest 104 = .ok (.invokevirtual 220, 3) := by decide +kernel
theorem dX8_digest_107 : decode cX8_digest 107 = .ok (.iinc 1 1, 3) := by decide +kernel
theorem dX8_digest_110 : decode cX8_digest 110 = .ok (.goto (-17), 3) := by decide +kernel
theorem dX8_digest_113 : decode cX8_digest 113 = .ok (.iconst 0, 1) := by decide +kernel
theorem dX8_digest_114 : decode cX8_digest 114 = .ok (.istore_n 1, 1) := by decide +kernel
theorem dX8_digest_115 : decode cX8_digest 115 = .ok (.iload_n 1, 1) := by decide +kernel
theorem dX8_digest_116 : decode cX8_digest 116 = .ok (.iconst 3, 1) := by decide +kernel
theorem dX8_digest_117 : decode cX8_digest 117 = .ok (.if_icmp .ge 19, 3) := by decide +kernel
theorem dX8_digest_120 : decode cX8_digest 120 = .ok (.aload_n 0, 1) := by decide +kernel
theorem dX8_digest_121 : decode cX8_digest 121 = .ok (.aload_n 0, 1) := by decide +kernel
theorem dX8_digest_122 : decode cX8_digest 122 = .ok (.iload_n 1, 1) := by decide +kernel
theorem dX8_digest_123 : decode cX8_digest 123 = .ok (.invokevirtual 195, 3) := by decide +kernel
theorem dX8_digest_126 : decode cX8_digest 126 = .ok (.i2l, 1) := by decide +kernel
theorem dX8_digest_127 : decode cX8_digest 127 = .ok (.invokevirtual 220, 3) := by decide +kernel
theorem dX8_digest_130 : decode cX8_digest 130 = .ok (.iinc 1 1, 3) := by decide +kernel
theorem dX8_digest_133 : decode cX8_digest 133 = .ok (.goto (-18), 3) := by decide +kernel
theorem dX8_digest_136 : decode cX8_digest 136 = .ok (.iconst 0, 1) := by decide +kernel
theorem dX8_digest_137 : decode cX8_digest 137 = .ok (.istore_n 1, 1) := by decide +kernel
theorem dX8_digest_138 : decode cX8_digest 138 = .ok (.iload_n 1, 1) := by decide +kernel
theorem dX8_digest_139 : decode cX8_digest 139 = .ok (.bipush 14, 2) := by decide +kernel
theorem dX8_digest_141 : decode cX8_digest 141 = .ok (.if_icmp .ge 30, 3) := by decide +kernel
theorem dX8_digest_144 : decode cX8_digest 144 = .ok (.iload_n 1, 1) := by decide +kernel
theorem dX8_digest_145 : decode cX8_digest 145 = .ok (.iconst 2, 1) := by decide +kernel
theorem dX8_digest_146 : decode cX8_digest 146 = .ok (.if_icmp .lt 9, 3) := by decide +kernel
theorem dX8_digest_149 : decode cX8_digest 149 = .ok (.iload_n 1, 1) := by decide +kernel
theorem dX8_digest_150 : decode cX8_digest 150 = .ok (.bipush 9, 2) := by decide +kernel
theorem dX8_digest_152 : decode cX8_digest 152 = .ok (.if_icmp .le 13, 3) := by decide +kernel
theorem dX8_digest_155 : decode cX8_digest 155 = .ok (.aload_n 0, 1) := by decide +kernel
theorem dX8_digest_156 : decode cX8_digest 156 = .ok (.aload_n 0, 1) := by decide +kernel
theorem dX8_digest_157 : decode cX8_digest 157 = .ok (.iconst 1, 1) := by decide +kernel
theorem dX8_digest_158 : decode cX8_digest 158 = .ok (.iload_n 1, 1) := by decide +kernel
theorem dX8_digest_159 : decode cX8_digest 159 = .ok (.invokevirtual 198, 3) := by decide +kernel
theorem dX8_digest_162 : decode cX8_digest 162 = .ok (.invokevirtual 220, 3) := by decide +kernel
theorem dX8_digest_165 : decode cX8_digest 165 = .ok (.iinc 1 1, 3) := by decide +kernel
theorem dX8_digest_168 : decode cX8_digest 168 = .ok (.goto (-30), 3) := by decide +kernel
theorem dX8_digest_171 : decode cX8_digest 171 = .ok (.aload_n 0, 1) := by decide +kernel
theorem dX8_digest_172 : decode cX8_digest 172 = .ok (.aload_n 0, 1) := by decide +kernel
theorem dX8_digest_173 : decode cX8_digest 173 = .ok (.invokevirtual 211, 3) := by decide +kernel
theorem dX8_digest_176 : decode cX8_digest 176 = .ok (.invokestatic 230, 3) := by decide +kernel
theorem dX8_digest_179 : decode cX8_digest 179 = .ok (.invokevirtual 220, 3) := by decide +kernel
theorem dX8_digest_182 : decode cX8_digest 182 = .ok (.aload_n 0, 1) := by decide +kernel
theorem dX8_digest_183 : decode cX8_digest 183 = .ok (.aload_n 0, 1) := by decide +kernel
theorem dX8_digest_184 : decode cX8_digest 184 = .ok (.getfield 168, 3) := by decide +kernel
theorem dX8_digest_187 : decode cX8_digest 187 = .ok (.i2l, 1) := by decide +kernel
theorem dX8_digest_188 : decode cX8_digest 188 = .ok (.invokevirtual 220, 3) := by decide +kernel
theorem dX8_digest_191 : decode cX8_digest 191 = .ok (.iconst 0, 1) := by decide +kernel
theorem dX8_digest_192 : decode cX8_digest 192 = .ok (.istore_n 1, 1) := by decide +kernel
theorem dX8_digest_193 : decode cX8_digest 193 = .ok (.iload_n 1, 1) := by decide +kernel
theorem dX8_digest_194 : decode cX8_digest 194 = .ok (.aload_n 0, 1) := by decide +kernel
theorem dX8_digest_195 : decode cX8_digest 195 = .ok (.getfield 168, 3) := by decide +kernel
theorem dX8_digest_198 : decode cX8_digest 198 = .ok (.if_icmp .ge 20, 3) := by decide +kernel
theorem dX8_digest_201 : decode cX8_digest 201 = .ok (.aload_n 0, 1) := by decide +kernel
theorem dX8_digest_202 : decode cX8_digest 202 = .ok (.aload_n 0, 1) := by decide +kernel
theorem dX8_digest_203 : decode cX8_digest 203 = .ok (.getfield 22, 3) := by decide +kernel
theorem dX8_digest_206 : decode cX8_digest 206 = .ok (.iload_n 1, 1) := by decide +kernel
theorem dX8_digest_207 : decode cX8_digest 207 = .ok (.iaload, 1) := by decide +kernel
theorem dX8_digest_208 : decode cX8_digest 208 = .ok (.i2l, 1) := by decide +kernel
theorem dX8_digest_209 : decode cX8_digest 209 = .ok (.invokevirtual 220, 3) := by decide +kernel
theorem dX8_digest_212 : decode cX8_digest 212 = .ok (.iinc 1 1, 3) := by decide +kernel
theorem dX8_digest_215 : decode cX8_digest 215 = .ok (.goto (-22), 3) := by decide +kernel
theorem dX8_digest_218 : decode cX8_digest 218 = .ok (.aload_n 0, 1) := by decide +kernel
theorem dX8_digest_219 : decode cX8_digest 219 = .ok (.getfield 217, 3) := by decide +kernel
theorem dX8_digest_222 : decode cX8_digest 222 = .ok (.lreturn, 1) := by decide +kernel
theorem dJxe99ae_isNaN_b9ae7_0 : decode cJxe99ae_isNaN_b9ae7 0 = .ok (.dload_n 0, 1) := by decide +kernel
theorem dJxe99ae_isNaN_b9ae7_1 : decode cJxe99ae_isNaN_b9ae7 1 = .ok (.dload_n 0, 1) := by decide +kernel
theorem dJxe99ae_isNaN_b9ae7_2 : decode cJxe99ae_isNaN_b9ae7 2 = .ok (.dcmp .l, 1) := by decide +kernel
theorem dJxe99ae_isNaN_b9ae7_3 : decode cJxe99ae_isNaN_b9ae7 3 = .ok (.ifCond .eq 7, 3) := by decide +kernel
theorem dJxe99ae_isNaN_b9ae7_6 : decode cJxe99ae_isNaN_b9ae7 6 = .ok (.iconst 1, 1) := by decide +kernel
theorem dJxe99ae_isNaN_b9ae7_7 : decode cJxe99ae_isNaN_b9ae7 7 = .ok (.goto 4, 3) := by decide +kernel
theorem dJxe99ae_isNaN_b9ae7_10 : decode cJxe99ae_isNaN_b9ae7 10 = .ok (.iconst 0, 1) := by decide +kernel
theorem dJxe99ae_isNaN_b9ae7_11 : decode cJxe99ae_isNaN_b9ae7 11 = .ok (.ireturn, 1) := by decide +kernel
theorem dJxe99ae_doubleToLongBits_ccdee_0 : decode cJxe99ae_doubleToLongBits_ccdee 0 = .ok (.dload_n 0, 1) := by decide +kernel
theorem dJxe99ae_doubleToLongBits_ccdee_1 : decode cJxe99ae_doubleToLongBits_ccdee 1 = .ok (.invokestatic 122, 3) := by decide +kernel
theorem dJxe99ae_doubleToLongBits_ccdee_4 : decode cJxe99ae_doubleToLongBits_ccdee 4 = .ok (.ifCond .ne 8, 3) := by decide +kernel
theorem dJxe99ae_doubleToLongBits_ccdee_7 : decode cJxe99ae_doubleToLongBits_ccdee 7 = .ok (.dload_n 0, 1) := by decide +kernel
theorem dJxe99ae_doubleToLongBits_ccdee_8 : decode cJxe99ae_doubleToLongBits_ccdee 8 = .ok (.invokestatic 134, 3) := by decide +kernel
theorem dJxe99ae_doubleToLongBits_ccdee_11 : decode cJxe99ae_doubleToLongBits_ccdee 11 = .ok (.lreturn, 1) := by decide +kernel
theorem dJxe99ae_doubleToLongBits_ccdee_12 : decode cJxe99ae_doubleToLongBits_ccdee 12 = .ok (.ldc2_w 137, 3) := by decide +kernel
theorem dJxe99ae_doubleToLongBits_ccdee_15 : decode cJxe99ae_doubleToLongBits_ccdee 15 = .ok (.lreturn, 1) := by decide +kernel
theorem dJ6_bitCount_0f7a4_0 : decode cJ6_bitCount_0f7a4 0 = .ok (.iload_n 0, 1) := by decide +kernel
theorem dJ6_bitCount_0f7a4_1 : decode cJ6_bitCount_0f7a4 1 = .ok (.iload_n 0, 1) := by decide +kernel
theorem dJ6_bitCount_0f7a4_2 : decode cJ6_bitCount_0f7a4 2 = .ok (.iconst 1, 1) := by decide +kernel
theorem dJ6_bitCount_0f7a4_3 : decode cJ6_bitCount_0f7a4 3 = .ok (.iushr, 1) := by decide +kernel
theorem dJ6_bitCount_0f7a4_4 : decode cJ6_bitCount_0f7a4 4 = .ok (.ldc_w 265, 3) := by decide +kernel
theorem dJ6_bitCount_0f7a4_7 : decode cJ6_bitCount_0f7a4 7 = .ok (.iand, 1) := by decide +kernel
theorem dJ6_bitCount_0f7a4_8 : decode cJ6_bitCount_0f7a4 8 = .ok (.isub, 1) := by decide +kernel
theorem dJ6_bitCount_0f7a4_9 : decode cJ6_bitCount_0f7a4 9 = .ok (.istore_n 0, 1) := by decide +kernel
theorem dJ6_bitCount_0f7a4_10 : decode cJ6_bitCount_0f7a4 10 = .ok (.iload_n 0, 1) := by decide +kernel
theorem dJ6_bitCount_0f7a4_11 : decode cJ6_bitCount_0f7a4 11 = .ok (.ldc_w 266, 3) := by decide +kernel
theorem dJ6_bitCount_0f7a4_14 : decode cJ6_bitCount_0f7a4 14 = .ok (.iand, 1) := by decide +kernel
theorem dJ6_bitCount_0f7a4_15 : decode cJ6_bitCount_0f7a4 15 = .ok (.iload_n 0, 1) := by decide +kernel
theorem dJ6_bitCount_0f7a4_16 : decode cJ6_bitCount_0f7a4 16 = .ok (.iconst 2, 1) := by decide +kernel
theorem dJ6_bitCount_0f7a4_17 : decode cJ6_bitCount_0f7a4 17 = .ok (.iushr, 1) := by decide +kernel
theorem dJ6_bitCount_0f7a4_18 : decode cJ6_bitCount_0f7a4 18 = .ok (.ldc_w 266, 3) := by decide +kernel
theorem dJ6_bitCount_0f7a4_21 : decode cJ6_bitCount_0f7a4 21 = .ok (.iand, 1) := by decide +kernel
theorem dJ6_bitCount_0f7a4_22 : decode cJ6_bitCount_0f7a4 22 = .ok (.iadd, 1) := by decide +kernel
theorem dJ6_bitCount_0f7a4_23 : decode cJ6_bitCount_0f7a4 23 = .ok (.istore_n 0, 1) := by decide +kernel
theorem dJ6_bitCount_0f7a4_24 : decode cJ6_bitCount_0f7a4 24 = .ok (.iload_n 0, 1) := by decide +kernel
theorem dJ6_bitCount_0f7a4_25 : decode cJ6_bitCount_0f7a4 25 = .ok (.iload_n 0, 1) := by decide +kernel
theorem dJ6_bitCount_0f7a4_26 : decode cJ6_bitCount_0f7a4 26 = .ok (.iconst 4, 1) := by decide +kernel
theorem dJ6_bitCount_0f7a4_27 : decode cJ6_bitCount_0f7a4 27 = .ok (.iushr, 1) := by decide +kernel
theorem dJ6_bitCount_0f7a4_28 : decode cJ6_bitCount_0f7a4 28 = .ok (.iadd, 1) := by decide +kernel
theorem dJ6_bitCount_0f7a4_29 : decode cJ6_bitCount_0f7a4 29 = .ok (.ldc_w 267, 3) := by decide +kernel
theorem dJ6_bitCount_0f7a4_32 : decode cJ6_bitCount_0f7a4 32 = .ok (.iand, 1) := by decide +kernel
theorem dJ6_bitCount_0f7a4_33 : decode cJ6_bitCount_0f7a4 33 = .ok (.istore_n 0, 1) := by decide +kernel
theorem dJ6_bitCount_0f7a4_34 : decode cJ6_bitCount_0f7a4 34 = .ok (.iload_n 0, 1) := by decide +kernel
theorem dJ6_bitCount_0f7a4_35 : decode cJ6_bitCount_0f7a4 35 = .ok (.iload_n 0, 1) := by decide +kernel
theorem dJ6_bitCount_0f7a4_36 : decode cJ6_bitCount_0f7a4 36 = .ok (.bipush 8, 2) := by decide +kernel
theorem dJ6_bitCount_0f7a4_38 : decode cJ6_bitCount_0f7a4 38 = .ok (.iushr, 1) := by decide +kernel
theorem dJ6_bitCount_0f7a4_39 : decode cJ6_bitCount_0f7a4 39 = .ok (.iadd, 1) := by decide +kernel
theorem dJ6_bitCount_0f7a4_40 : decode cJ6_bitCount_0f7a4 40 = .ok (.istore_n 0, 1) := by decide +kernel
theorem dJ6_bitCount_0f7a4_41 : decode cJ6_bitCount_0f7a4 41 = .ok (.iload_n 0, 1) := by decide +kernel
theorem dJ6_bitCount_0f7a4_42 : decode cJ6_bitCount_0f7a4 42 = .ok (.iload_n 0, 1) := by decide +kernel
theorem dJ6_bitCount_0f7a4_43 : decode cJ6_bitCount_0f7a4 43 = .ok (.bipush 16, 2) := by decide +kernel
theorem dJ6_bitCount_0f7a4_45 : decode cJ6_bitCount_0f7a4 45 = .ok (.iushr, 1) := by decide +kernel
theorem dJ6_bitCount_0f7a4_46 : decode cJ6_bitCount_0f7a4 46 = .ok (.iadd, 1) := by decide +kernel
theorem dJ6_bitCount_0f7a4_47 : decode cJ6_bitCount_0f7a4 47 = .ok (.istore_n 0, 1) := by decide +kernel
theorem dJ6_bitCount_0f7a4_48 : decode cJ6_bitCount_0f7a4 48 = .ok (.iload_n 0, 1) := by decide +kernel
theorem dJ6_bitCount_0f7a4_49 : decode cJ6_bitCount_0f7a4 49 = .ok (.bipush 63, 2) := by decide +kernel
theorem dJ6_bitCount_0f7a4_51 : decode cJ6_bitCount_0f7a4 51 = .ok (.iand, 1) := by decide +kernel
theorem dJ6_bitCount_0f7a4_52 : decode cJ6_bitCount_0f7a4 52 = .ok (.ireturn, 1) := by decide +kernel
theorem dJ9_abs_0f7a4_0 : decode cJ9_abs_0f7a4 0 = .ok (.iload_n 0, 1) := by decide +kernel
theorem dJ9_abs_0f7a4_1 : decode cJ9_abs_0f7a4 1 = .ok (.ifCond .ge 8, 3) := by decide +kernel
theorem dJ9_abs_0f7a4_4 : decode cJ9_abs_0f7a4 4 = .ok (.iload_n 0, 1) := by decide +kernel
theorem dJ9_abs_0f7a4_5 : decode cJ9_abs_0f7a4 5 = .ok (.ineg, 1) := by decide +kernel
theorem dJ9_abs_0f7a4_6 : decode cJ9_abs_0f7a4 6 = .ok (.goto 4, 3) := by decide +kernel
theorem dJ9_abs_0f7a4_9 : decode cJ9_abs_0f7a4 9 = .ok (.iload_n 0, 1) := by decide +kernel
theorem dJ9_abs_0f7a4_10 : decode cJ9_abs_0f7a4 10 = .ok (.ireturn, 1) := by decide +kernel
theorem dJ9_max_7cf53_0 : decode cJ9_max_7cf53 0 = .ok (.iload_n 0, 1) := by decide +kernel
theorem dJ9_max_7cf53_1 : decode cJ9_max_7cf53 1 = .ok (.iload_n 1, 1) := by decide +kernel
theorem dJ9_max_7cf53_2 : decode cJ9_max_7cf53 2 = .ok (.if_icmp .lt 7, 3) := by decide +kernel
theorem dJ9_max_7cf53_5 : decode cJ9_max_7cf53 5 = .ok (.iload_n 0, 1) := by decide +kernel
theorem dJ9_max_7cf53_6 : decode cJ9_max_7cf53 6 = .ok (.goto 4, 3) := by decide +kernel
theorem dJ9_max_7cf53_9 : decode cJ9_max_7cf53 9 = .ok (.iload_n 1, 1) := by decide +kernel
theorem dJ9_max_7cf53_10 : decode cJ9_max_7cf53 10 = .ok (.ireturn, 1) := by decide +kernel
theorem dJ9_min_7cf53_0 : decode cJ9_min_7cf53 0 = .ok (.iload_n 0, 1) := by decide +kernel
theorem dJ9_min_7cf53_1 : decode cJ9_min_7cf53 1 = .ok (.iload_n 1, 1) := by decide +kernel
theorem dJ9_min_7cf53_2 : decode cJ9_min_7cf53 2 = .ok (.if_icmp .gt 7, 3) := by decide +kernel
theorem dJ9_min_7cf53_5 : decode cJ9_min_7cf53 5 = .ok (.iload_n 0, 1) := by decide +kernel
theorem dJ9_min_7cf53_6 : decode cJ9_min_7cf53 6 = .ok (.goto 4, 3) := by decide +kernel
theorem dJ9_min_7cf53_9 : decode cJ9_min_7cf53 9 = .ok (.iload_n 1, 1) := by decide +kernel
theorem dJ9_min_7cf53_10 : decode cJ9_min_7cf53 10 = .ok (.ireturn, 1) := by decide +kernel
theorem dJ7_fill_53178_0 : decode cJ7_fill_53178 0 = .ok (.iconst 0, 1) := by decide +kernel
theorem dJ7_fill_53178_1 : decode cJ7_fill_53178 1 = .ok (.istore_n 2, 1) := by decide +kernel
theorem dJ7_fill_53178_2 : decode cJ7_fill_53178 2 = .ok (.aload_n 0, 1) := by decide +kernel
theorem dJ7_fill_53178_3 : decode cJ7_fill_53178 3 = .ok (.arraylength, 1) := by decide +kernel
theorem dJ7_fill_53178_4 : decode cJ7_fill_53178 4 = .ok (.istore_n 3, 1) := by decide +kernel
theorem dJ7_fill_53178_5 : decode cJ7_fill_53178 5 = .ok (.iload_n 2, 1) := by decide +kernel
theorem dJ7_fill_53178_6 : decode cJ7_fill_53178 6 = .ok (.iload_n 3, 1) := by decide +kernel
theorem dJ7_fill_53178_7 : decode cJ7_fill_53178 7 = .ok (.if_icmp .ge 13, 3) := by decide +kernel
theorem dJ7_fill_53178_10 : decode cJ7_fill_53178 10 = .ok (.aload_n 0, 1) := by decide +kernel
theorem dJ7_fill_53178_11 : decode cJ7_fill_53178 11 = .ok (.iload_n 2, 1) := by decide +kernel
theorem dJ7_fill_53178_12 : decode cJ7_fill_53178 12 = .ok (.iload_n 1, 1) := by decide +kernel
theorem dJ7_fill_53178_13 : decode cJ7_fill_53178 13 = .ok (.iastore, 1) := by decide +kernel
theorem dJ7_fill_53178_14 : decode cJ7_fill_53178 14 = .ok (.iinc 2 1, 3) := by decide +kernel
theorem dJ7_fill_53178_17 : decode cJ7_fill_53178 17 = .ok (.goto (-12), 3) := by decide +kernel
theorem dJ7_fill_53178_20 : decode cJ7_fill_53178 20 = .ok (.return_, 1) := by decide +kernel
theorem dL_begin_0 : decode cL_begin 0 = .ok (.aload_n 3, 1) := by decide +kernel
theorem dL_begin_1 : decode cL_begin 1 = .ok (.iconst 0, 1) := by decide +kernel
theorem dL_begin_2 : decode cL_begin 2 = .ok (.aload_n 0, 1) := by decide +kernel
theorem dL_begin_3 : decode cL_begin 3 = .ok (.iload_n 1, 1) := by decide +kernel
theorem dL_begin_4 : decode cL_begin 4 = .ok (.iload_n 2, 1) := by decide +kernel
theorem dL_begin_5 : decode cL_begin 5 = .ok (.invokevirtual 7, 3) := by decide +kernel
theorem dL_begin_8 : decode cL_begin 8 = .ok (.i2l, 1) := by decide +kernel
theorem dL_begin_9 : decode cL_begin 9 = .ok (.lastore, 1) := by decide +kernel
theorem dL_begin_10 : decode cL_begin 10 = .ok (.goto 7, 3) := by decide +kernel
theorem dL_begin_13 : decode cL_begin 13 = .ok (.astore 4, 2) := by decide +kernel
theorem dL_begin_15 : decode cL_begin 15 = .ok (.iconst 1, 1) := by decide +kernel
theorem dL_begin_16 : decode cL_begin 16 = .ok (.ireturn, 1) := by decide +kernel
theorem dL_begin_17 : decode cL_begin 17 = .ok (.iconst 0, 1) := by decide +kernel
theorem dL_begin_18 : decode cL_begin 18 = .ok (.ireturn, 1) := by decide +kernel
theorem dL_join_0 : decode cL_join 0 = .ok (.aload 4, 2) := by decide +kernel
theorem dL_join_2 : decode cL_join 2 = .ok (.iconst 0, 1) := by decide +kernel
theorem dL_join_3 : decode cL_join 3 = .ok (.aload_n 0, 1) := by decide +kernel
theorem dL_join_4 : decode cL_join 4 = .ok (.iload_n 1, 1) := by decide +kernel
theorem dL_join_5 : decode cL_join 5 = .ok (.iload_n 2, 1) := by decide +kernel
theorem dL_join_6 : decode cL_join 6 = .ok (.iload_n 3, 1) := by decide +kernel
theorem dL_join_7 : decode cL_join 7 = .ok (.invokevirtual 15, 3) := by decide +kernel
theorem dL_join_10 : decode cL_join 10 = .ok (.i2l, 1) := by decide +kernel
theorem dL_join_11 : decode cL_join 11 = .ok (.lastore, 1) := by decide +kernel
theorem dL_join_12 : decode cL_join 12 = .ok (.goto 11, 3) := by decide +kernel
theorem dL_join_15 : decode cL_join 15 = .ok (.astore 5, 2) := by decide +kernel
theorem dL_join_17 : decode cL_join 17 = .ok (.iconst 1, 1) := by decide +kernel
theorem dL_join_18 : decode cL_join 18 = .ok (.ireturn, 1) := by decide +kernel
theorem dL_join_19 : decode cL_join 19 = .ok (.astore 5, 2) := by decide +kernel
theorem dL_join_21 : decode cL_join 21 = .ok (.iconst 2, 1) := by decide +kernel
theorem dL_join_22 : decode cL_join 22 = .ok (.ireturn, 1) := by decide +kernel
theorem dL_join_23 : decode cL_join 23 = .ok (.iconst 0, 1) := by decide +kernel
theorem dL_join_24 : decode cL_join 24 = .ok (.ireturn, 1) := by decide +kernel
theorem dL_weigh_0 : decode cL_weigh 0 = .ok (.aload_n 3, 1) := by decide +kernel
theorem dL_weigh_1 : decode cL_weigh 1 = .ok (.iconst 0, 1) := by decide +kernel
theorem dL_weigh_2 : decode cL_weigh 2 = .ok (.aload_n 0, 1) := by decide +kernel
theorem dL_weigh_3 : decode cL_weigh 3 = .ok (.iload_n 1, 1) := by decide +kernel
theorem dL_weigh_4 : decode cL_weigh 4 = .ok (.iload_n 2, 1) := by decide +kernel
theorem dL_weigh_5 : decode cL_weigh 5 = .ok (.invokevirtual 21, 3) := by decide +kernel
theorem dL_weigh_8 : decode cL_weigh 8 = .ok (.i2l, 1) := by decide +kernel
theorem dL_weigh_9 : decode cL_weigh 9 = .ok (.lastore, 1) := by decide +kernel
theorem dL_weigh_10 : decode cL_weigh 10 = .ok (.goto 11, 3) := by decide +kernel
theorem dL_weigh_13 : decode cL_weigh 13 = .ok (.astore 4, 2) := by decide +kernel
theorem dL_weigh_15 : decode cL_weigh 15 = .ok (.iconst 1, 1) := by decide +kernel
theorem dL_weigh_16 : decode cL_weigh 16 = .ok (.ireturn, 1) := by decide +kernel
theorem dL_weigh_17 : decode cL_weigh 17 = .ok (.astore 4, 2) := by decide +kernel
theorem dL_weigh_19 : decode cL_weigh 19 = .ok (.iconst 2, 1) := by decide +kernel
theorem dL_weigh_20 : decode cL_weigh 20 = .ok (.ireturn, 1) := by decide +kernel
theorem dL_weigh_21 : decode cL_weigh 21 = .ok (.iconst 0, 1) := by decide +kernel
theorem dL_weigh_22 : decode cL_weigh 22 = .ok (.ireturn, 1) := by decide +kernel
theorem dL_remove_0 : decode cL_remove 0 = .ok (.aload_n 2, 1) := by decide +kernel
theorem dL_remove_1 : decode cL_remove 1 = .ok (.iconst 0, 1) := by decide +kernel
theorem dL_remove_2 : decode cL_remove 2 = .ok (.aload_n 0, 1) := by decide +kernel
theorem dL_remove_3 : decode cL_remove 3 = .ok (.iload_n 1, 1) := by decide +kernel
theorem dL_remove_4 : decode cL_remove 4 = .ok (.invokevirtual 24, 3) := by decide +kernel
theorem dL_remove_7 : decode cL_remove 7 = .ok (.i2l, 1) := by decide +kernel
theorem dL_remove_8 : decode cL_remove 8 = .ok (.lastore, 1) := by decide +kernel
theorem dL_remove_9 : decode cL_remove 9 = .ok (.goto 9, 3) := by decide +kernel
theorem dL_remove_12 : decode cL_remove 12 = .ok (.astore_n 3, 1) := by decide +kernel
theorem dL_remove_13 : decode cL_remove 13 = .ok (.iconst 1, 1) := by decide +kernel
theorem dL_remove_14 : decode cL_remove 14 = .ok (.ireturn, 1) := by decide +kernel
theorem dL_remove_15 : decode cL_remove 15 = .ok (.astore_n 3, 1) := by decide +kernel
theorem dL_remove_16 : decode cL_remove 16 = .ok (.iconst 2, 1) := by decide +kernel
theorem dL_remove_17 : decode cL_remove 17 = .ok (.ireturn, 1) := by decide +kernel
theorem dL_remove_18 : decode cL_remove 18 = .ok (.iconst 0, 1) := by decide +kernel
theorem dL_remove_19 : decode cL_remove 19 = .ok (.ireturn, 1) := by decide +kernel
theorem dL_multiply_0 : decode cL_multiply 0 = .ok (.aload_n 2, 1) := by decide +kernel
theorem dL_multiply_1 : decode cL_multiply 1 = .ok (.iconst 0, 1) := by decide +kernel
theorem dL_multiply_2 : decode cL_multiply 2 = .ok (.aload_n 0, 1) := by decide +kernel
theorem dL_multiply_3 : decode cL_multiply 3 = .ok (.iload_n 1, 1) := by decide +kernel
theorem dL_multiply_4 : decode cL_multiply 4 = .ok (.invokevirtual 30, 3) := by decide +kernel
theorem dL_multiply_7 : decode cL_multiply 7 = .ok (.i2l, 1) := by decide +kernel
theorem dL_multiply_8 : decode cL_multiply 8 = .ok (.lastore, 1) := by decide +kernel
theorem dL_multiply_9 : decode cL_multiply 9 = .ok (.goto 9, 3) := by decide +kernel
theorem dL_multiply_12 : decode cL_multiply 12 = .ok (.astore_n 3, 1) := by decide +kernel
theorem dL_multiply_13 : decode cL_multiply 13 = .ok (.iconst 1, 1) := by decide +kernel
theorem dL_multiply_14 : decode cL_multiply 14 = .ok (.ireturn, 1) := by decide +kernel
theorem dL_multiply_15 : decode cL_multiply 15 = .ok (.astore_n 3, 1) := by decide +kernel
theorem dL_multiply_16 : decode cL_multiply 16 = .ok (.iconst 2, 1) := by decide +kernel
theorem dL_multiply_17 : decode cL_multiply 17 = .ok (.ireturn, 1) := by decide +kernel
theorem dL_multiply_18 : decode cL_multiply 18 = .ok (.iconst 0, 1) := by decide +kernel
theorem dL_multiply_19 : decode cL_multiply 19 = .ok (.ireturn, 1) := by decide +kernel
theorem dL_label_0 : decode cL_label 0 = .ok (.aload 4, 2) := by decide +kernel
theorem dL_label_2 : decode cL_label 2 = .ok (.iconst 0, 1) := by decide +kernel
theorem dL_label_3 : decode cL_label 3 = .ok (.aload_n 0, 1) := by decide +kernel
theorem dL_label_4 : decode cL_label 4 = .ok (.iload_n 1, 1) := by decide +kernel
theorem dL_label_5 : decode cL_label 5 = .ok (.iload_n 2, 1) := by decide +kernel
theorem dL_label_6 : decode cL_label 6 = .ok (.iload_n 3, 1) := by decide +kernel
theorem dL_label_7 : decode cL_label 7 = .ok (.invokevirtual 33, 3) := by decide +kernel
theorem dL_label_10 : decode cL_label 10 = .ok (.i2l, 1) := by decide +kernel
theorem dL_label_11 : decode cL_label 11 = .ok (.lastore, 1) := by decide +kernel
theorem dL_label_12 : decode cL_label 12 = .ok (.goto 11, 3) := by decide +kernel
theorem dL_label_15 : decode cL_label 15 = .ok (.astore 5, 2) := by decide +kernel
theorem dL_label_17 : decode cL_label 17 = .ok (.iconst 1, 1) := by decide +kernel
theorem dL_label_18 : decode cL_label 18 = .ok (.ireturn, 1) := by decide +kernel
theorem dL_label_19 : decode cL_label 19 = .ok (.astore 5, 2) := by decide +kernel
theorem dL_label_21 : decode cL_label 21 = .ok (.iconst 2, 1) := by decide +kernel
theorem dL_label_22 : decode cL_label 22 = .ok (.ireturn, 1) := by decide +kernel
theorem dL_label_23 : decode cL_label 23 = .ok (.iconst 0, 1) := by decide +kernel
theorem dL_label_24 : decode cL_label 24 = .ok (.ireturn, 1) := by decide +kernel
theorem dL_hold_0 : decode cL_hold 0 = .ok (.aload_n 3, 1) := by decide +kernel
theorem dL_hold_1 : decode cL_hold 1 = .ok (.iconst 0, 1) := by decide +kernel
theorem dL_hold_2 : decode cL_hold 2 = .ok (.aload_n 0, 1) := by decide +kernel
theorem dL_hold_3 : decode cL_hold 3 = .ok (.iload_n 1, 1) := by decide +kernel
theorem dL_hold_4 : decode cL_hold 4 = .ok (.iload_n 2, 1) := by decide +kernel
theorem dL_hold_5 : decode cL_hold 5 = .ok (.invokevirtual 37, 3) := by decide +kernel
theorem dL_hold_8 : decode cL_hold 8 = .ok (.i2l, 1) := by decide +kernel
theorem dL_hold_9 : decode cL_hold 9 = .ok (.lastore, 1) := by decide +kernel
theorem dL_hold_10 : decode cL_hold 10 = .ok (.goto 11, 3) := by decide +kernel
theorem dL_hold_13 : decode cL_hold 13 = .ok (.astore 4, 2) := by decide +kernel
theorem dL_hold_15 : decode cL_hold 15 = .ok (.iconst 1, 1) := by decide +kernel
theorem dL_hold_16 : decode cL_hold 16 = .ok (.ireturn, 1) := by decide +kernel
theorem dL_hold_17 : decode cL_hold 17 = .ok (.astore 4, 2) := by decide +kernel
theorem dL_hold_19 : decode cL_hold 19 = .ok (.iconst 2, 1) := by decide +kernel
theorem dL_hold_20 : decode cL_hold 20 = .ok (.ireturn, 1) := by decide +kernel
theorem dL_hold_21 : decode cL_hold 21 = .ok (.iconst 0, 1) := by decide +kernel
theorem dL_hold_22 : decode cL_hold 22 = .ok (.ireturn, 1) := by decide +kernel
theorem dL_labelByColors_0 : decode cL_labelByColors 0 = .ok (.aload_n 1, 1) := by decide +kernel
theorem dL_labelByColors_1 : decode cL_labelByColors 1 = .ok (.iconst 0, 1) := by decide +kernel
theorem dL_labelByColors_2 : decode cL_labelByColors 2 = .ok (.aload_n 0, 1) := by decide +kernel
theorem dL_labelByColors_3 : decode cL_labelByColors 3 = .ok (.invokevirtual 40, 3) := by decide +kernel
theorem dL_labelByColors_6 : decode cL_labelByColors 6 = .ok (.i2l, 1) := by decide +kernel
theorem dL_labelByColors_7 : decode cL_labelByColors 7 = .ok (.lastore, 1) := by decide +kernel
theorem dL_labelByColors_8 : decode cL_labelByColors 8 = .ok (.goto 6, 3) := by decide +kernel
theorem dL_labelByColors_11 : decode cL_labelByColors 11 = .ok (.astore_n 2, 1) := by decide +kernel
theorem dL_labelByColors_12 : decode cL_labelByColors 12 = .ok (.iconst 1, 1) := by decide +kernel
theorem dL_labelByColors_13 : decode cL_labelByColors 13 = .ok (.ireturn, 1) := by decide +kernel
theorem dL_labelByColors_14 : decode cL_labelByColors 14 = .ok (.iconst 0, 1) := by decide +kernel
theorem dL_labelByColors_15 : decode cL_labelByColors 15 = .ok (.ireturn, 1) := by decide +kernel
theorem dL_takeHandle_0 : decode cL_takeHandle 0 = .ok (.aload_n 2, 1) := by decide +kernel
theorem dL_takeHandle_1 : decode cL_takeHandle 1 = .ok (.iconst 0, 1) := by decide +kernel
theorem dL_takeHandle_2 : decode cL_takeHandle 2 = .ok (.aload_n 0, 1) := by decide +kernel
theorem dL_takeHandle_3 : decode cL_takeHandle 3 = .ok (.iload_n 1, 1) := by decide +kernel
theorem dL_takeHandle_4 : decode cL_takeHandle 4 = .ok (.invokevirtual 44, 3) := by decide +kernel
theorem dL_takeHandle_7 : decode cL_takeHandle 7 = .ok (.i2l, 1) := by decide +kernel
theorem dL_takeHandle_8 : decode cL_takeHandle 8 = .ok (.lastore, 1) := by decide +kernel
theorem dL_takeHandle_9 : decode cL_takeHandle 9 = .ok (.goto 6, 3) := by decide +kernel
theorem dL_takeHandle_12 : decode cL_takeHandle 12 = .ok (.astore_n 3, 1) := by decide +kernel
theorem dL_takeHandle_13 : decode cL_takeHandle 13 = .ok (.iconst 1, 1) := by decide +kernel
theorem dL_takeHandle_14 : decode cL_takeHandle 14 = .ok (.ireturn, 1) := by decide +kernel
theorem dL_takeHandle_15 : decode cL_takeHandle 15 = .ok (.iconst 0, 1) := by decide +kernel
theorem dL_takeHandle_16 : decode cL_takeHandle 16 = .ok (.ireturn, 1) := by decide +kernel
theorem dL_append_0 : decode cL_append 0 = .ok (.aload_n 2, 1) := by decide +kernel
theorem dL_append_1 : decode cL_append 1 = .ok (.iconst 0, 1) := by decide +kernel
theorem dL_append_2 : decode cL_append 2 = .ok (.aload_n 0, 1) := by decide +kernel
theorem dL_append_3 : decode cL_append 3 = .ok (.iload_n 1, 1) := by decide +kernel
theorem dL_append_4 : decode cL_append 4 = .ok (.invokevirtual 47, 3) := by decide +kernel
theorem dL_append_7 : decode cL_append 7 = .ok (.i2l, 1) := by decide +kernel
theorem dL_append_8 : decode cL_append 8 = .ok (.lastore, 1) := by decide +kernel
theorem dL_append_9 : decode cL_append 9 = .ok (.goto 9, 3) := by decide +kernel
theorem dL_append_12 : decode cL_append 12 = .ok (.astore_n 3, 1) := by decide +kernel
theorem dL_append_13 : decode cL_append 13 = .ok (.iconst 1, 1) := by decide +kernel
theorem dL_append_14 : decode cL_append 14 = .ok (.ireturn, 1) := by decide +kernel
theorem dL_append_15 : decode cL_append 15 = .ok (.astore_n 3, 1) := by decide +kernel
theorem dL_append_16 : decode cL_append 16 = .ok (.iconst 2, 1) := by decide +kernel
theorem dL_append_17 : decode cL_append 17 = .ok (.ireturn, 1) := by decide +kernel
theorem dL_append_18 : decode cL_append 18 = .ok (.iconst 0, 1) := by decide +kernel
theorem dL_append_19 : decode cL_append 19 = .ok (.ireturn, 1) := by decide +kernel
theorem dL_read_0 : decode cL_read 0 = .ok (.aload_n 1, 1) := by decide +kernel
theorem dL_read_1 : decode cL_read 1 = .ok (.iconst 0, 1) := by decide +kernel
theorem dL_read_2 : decode cL_read 2 = .ok (.aload_n 0, 1) := by decide +kernel
theorem dL_read_3 : decode cL_read 3 = .ok (.invokevirtual 50, 3) := by decide +kernel
theorem dL_read_6 : decode cL_read 6 = .ok (.i2l, 1) := by decide +kernel
theorem dL_read_7 : decode cL_read 7 = .ok (.lastore, 1) := by decide +kernel
theorem dL_read_8 : decode cL_read 8 = .ok (.goto 6, 3) := by decide +kernel
theorem dL_read_11 : decode cL_read 11 = .ok (.astore_n 2, 1) := by decide +kernel
theorem dL_read_12 : decode cL_read 12 = .ok (.iconst 1, 1) := by decide +kernel
theorem dL_read_13 : decode cL_read 13 = .ok (.ireturn, 1) := by decide +kernel
theorem dL_read_14 : decode cL_read 14 = .ok (.iconst 0, 1) := by decide +kernel
theorem dL_read_15 : decode cL_read 15 = .ok (.ireturn, 1) := by decide +kernel
theorem dL_take_0 : decode cL_take 0 = .ok (.aload_n 2, 1) := by decide +kernel
theorem dL_take_1 : decode cL_take 1 = .ok (.iconst 0, 1) := by decide +kernel
theorem dL_take_2 : decode cL_take 2 = .ok (.aload_n 0, 1) := by decide +kernel
theorem dL_take_3 : decode cL_take 3 = .ok (.iload_n 1, 1) := by decide +kernel
theorem dL_take_4 : decode cL_take 4 = .ok (.invokevirtual 53, 3) := by decide +kernel
theorem dL_take_7 : decode cL_take 7 = .ok (.i2l, 1) := by decide +kernel
theorem dL_take_8 : decode cL_take 8 = .ok (.lastore, 1) := by decide +kernel
theorem dL_take_9 : decode cL_take 9 = .ok (.goto 6, 3) := by decide +kernel
theorem dL_take_12 : decode cL_take 12 = .ok (.astore_n 3, 1) := by decide +kernel
theorem dL_take_13 : decode cL_take 13 = .ok (.iconst 1, 1) := by decide +kernel
theorem dL_take_14 : decode cL_take 14 = .ok (.ireturn, 1) := by decide +kernel
theorem dL_take_15 : decode cL_take 15 = .ok (.iconst 0, 1) := by decide +kernel
theorem dL_take_16 : decode cL_take 16 = .ok (.ireturn, 1) := by decide +kernel
theorem dL_restore_0 : decode cL_restore 0 = .ok (.aload_n 2, 1) := by decide +kernel
theorem dL_restore_1 : decode cL_restore 1 = .ok (.iconst 0, 1) := by decide +kernel
theorem dL_restore_2 : decode cL_restore 2 = .ok (.aload_n 0, 1) := by decide +kernel
theorem dL_restore_3 : decode cL_restore 3 = .ok (.iload_n 1, 1) := by decide +kernel
theorem dL_restore_4 : decode cL_restore 4 = .ok (.invokevirtual 56, 3) := by decide +kernel
theorem dL_restore_7 : decode cL_restore 7 = .ok (.i2l, 1) := by decide +kernel
theorem dL_restore_8 : decode cL_restore 8 = .ok (.lastore, 1) := by decide +kernel
theorem dL_restore_9 : decode cL_restore 9 = .ok (.goto 9, 3) := by decide +kernel
theorem dL_restore_12 : decode cL_restore 12 = .ok (.astore_n 3, 1) := by decide +kernel
theorem dL_restore_13 : decode cL_restore 13 = .ok (.iconst 1, 1) := by decide +kernel
theorem dL_restore_14 : decode cL_restore 14 = .ok (.ireturn, 1) := by decide +kernel
theorem dL_restore_15 : decode cL_restore 15 = .ok (.astore_n 3, 1) := by decide +kernel
theorem dL_restore_16 : decode cL_restore 16 = .ok (.iconst 2, 1) := by decide +kernel
theorem dL_restore_17 : decode cL_restore 17 = .ok (.ireturn, 1) := by decide +kernel
theorem dL_restore_18 : decode cL_restore 18 = .ok (.iconst 0, 1) := by decide +kernel
theorem dL_restore_19 : decode cL_restore 19 = .ok (.ireturn, 1) := by decide +kernel
theorem dL_undo_0 : decode cL_undo 0 = .ok (.aload_n 1, 1) := by decide +kernel
theorem dL_undo_1 : decode cL_undo 1 = .ok (.iconst 0, 1) := by decide +kernel
theorem dL_undo_2 : decode cL_undo 2 = .ok (.aload_n 0, 1) := by decide +kernel
theorem dL_undo_3 : decode cL_undo 3 = .ok (.invokevirtual 59, 3) := by decide +kernel
theorem dL_undo_6 : decode cL_undo 6 = .ok (.i2l, 1) := by decide +kernel
theorem dL_undo_7 : decode cL_undo 7 = .ok (.lastore, 1) := by decide +kernel
theorem dL_undo_8 : decode cL_undo 8 = .ok (.goto 6, 3) := by decide +kernel
theorem dL_undo_11 : decode cL_undo 11 = .ok (.astore_n 2, 1) := by decide +kernel
theorem dL_undo_12 : decode cL_undo 12 = .ok (.iconst 1, 1) := by decide +kernel
theorem dL_undo_13 : decode cL_undo 13 = .ok (.ireturn, 1) := by decide +kernel
theorem dL_undo_14 : decode cL_undo 14 = .ok (.iconst 0, 1) := by decide +kernel
theorem dL_undo_15 : decode cL_undo 15 = .ok (.ireturn, 1) := by decide +kernel
theorem dL_joined_0 : decode cL_joined 0 = .ok (.aload_n 3, 1) := by decide +kernel
theorem dL_joined_1 : decode cL_joined 1 = .ok (.iconst 0, 1) := by decide +kernel
theorem dL_joined_2 : decode cL_joined 2 = .ok (.aload_n 0, 1) := by decide +kernel
theorem dL_joined_3 : decode cL_joined 3 = .ok (.iload_n 1, 1) := by decide +kernel
theorem dL_joined_4 : decode cL_joined 4 = .ok (.iload_n 2, 1) := by decide +kernel
theorem dL_joined_5 : decode cL_joined 5 = .ok (.invokevirtual 62, 3) := by decide +kernel
theorem dL_joined_8 : decode cL_joined 8 = .ok (.i2l, 1) := by decide +kernel
theorem dL_joined_9 : decode cL_joined 9 = .ok (.lastore, 1) := by decide +kernel
theorem dL_joined_10 : decode cL_joined 10 = .ok (.goto 7, 3) := by decide +kernel
theorem dL_joined_13 : decode cL_joined 13 = .ok (.astore 4, 2) := by decide +kernel
theorem dL_joined_15 : decode cL_joined 15 = .ok (.iconst 1, 1) := by decide +kernel
theorem dL_joined_16 : decode cL_joined 16 = .ok (.ireturn, 1) := by decide +kernel
theorem dL_joined_17 : decode cL_joined 17 = .ok (.iconst 0, 1) := by decide +kernel
theorem dL_joined_18 : decode cL_joined 18 = .ok (.ireturn, 1) := by decide +kernel
theorem dL_vertex_0 : decode cL_vertex 0 = .ok (.aload_n 3, 1) := by decide +kernel
theorem dL_vertex_1 : decode cL_vertex 1 = .ok (.iconst 0, 1) := by decide +kernel
theorem dL_vertex_2 : decode cL_vertex 2 = .ok (.aload_n 0, 1) := by decide +kernel
theorem dL_vertex_3 : decode cL_vertex 3 = .ok (.iload_n 1, 1) := by decide +kernel
theorem dL_vertex_4 : decode cL_vertex 4 = .ok (.iload_n 2, 1) := by decide +kernel
theorem dL_vertex_5 : decode cL_vertex 5 = .ok (.invokevirtual 65, 3) := by decide +kernel
theorem dL_vertex_8 : decode cL_vertex 8 = .ok (.i2l, 1) := by decide +kernel
theorem dL_vertex_9 : decode cL_vertex 9 = .ok (.lastore, 1) := by decide +kernel
theorem dL_vertex_10 : decode cL_vertex 10 = .ok (.goto 11, 3) := by decide +kernel
theorem dL_vertex_13 : decode cL_vertex 13 = .ok (.astore 4, 2) := by decide +kernel
theorem dL_vertex_15 : decode cL_vertex 15 = .ok (.iconst 1, 1) := by decide +kernel
theorem dL_vertex_16 : decode cL_vertex 16 = .ok (.ireturn, 1) := by decide +kernel
theorem dL_vertex_17 : decode cL_vertex 17 = .ok (.astore 4, 2) := by decide +kernel
theorem dL_vertex_19 : decode cL_vertex 19 = .ok (.iconst 2, 1) := by decide +kernel
theorem dL_vertex_20 : decode cL_vertex 20 = .ok (.ireturn, 1) := by decide +kernel
theorem dL_vertex_21 : decode cL_vertex 21 = .ok (.iconst 0, 1) := by decide +kernel
theorem dL_vertex_22 : decode cL_vertex 22 = .ok (.ireturn, 1) := by decide +kernel
theorem dL_handle_0 : decode cL_handle 0 = .ok (.aload_n 2, 1) := by decide +kernel
theorem dL_handle_1 : decode cL_handle 1 = .ok (.iconst 0, 1) := by decide +kernel
theorem dL_handle_2 : decode cL_handle 2 = .ok (.aload_n 0, 1) := by decide +kernel
theorem dL_handle_3 : decode cL_handle 3 = .ok (.iload_n 1, 1) := by decide +kernel
theorem dL_handle_4 : decode cL_handle 4 = .ok (.invokevirtual 68, 3) := by decide +kernel
theorem dL_handle_7 : decode cL_handle 7 = .ok (.i2l, 1) := by decide +kernel
theorem dL_handle_8 : decode cL_handle 8 = .ok (.lastore, 1) := by decide +kernel
theorem dL_handle_9 : decode cL_handle 9 = .ok (.goto 6, 3) := by decide +kernel
theorem dL_handle_12 : decode cL_handle 12 = .ok (.astore_n 3, 1) := by decide +kernel
theorem dL_handle_13 : decode cL_handle 13 = .ok (.iconst 1, 1) := by decide +kernel
theorem dL_handle_14 : decode cL_handle 14 = .ok (.ireturn, 1) := by decide +kernel
theorem dL_handle_15 : decode cL_handle 15 = .ok (.iconst 0, 1) := by decide +kernel
theorem dL_handle_16 : decode cL_handle 16 = .ok (.ireturn, 1) := by decide +kernel
theorem dL_bound_0 : decode cL_bound 0 = .ok (.aload_n 2, 1) := by decide +kernel
theorem dL_bound_1 : decode cL_bound 1 = .ok (.iconst 0, 1) := by decide +kernel
theorem dL_bound_2 : decode cL_bound 2 = .ok (.aload_n 0, 1) := by decide +kernel
theorem dL_bound_3 : decode cL_bound 3 = .ok (.iload_n 1, 1) := by decide +kernel
theorem dL_bound_4 : decode cL_bound 4 = .ok (.invokevirtual 71, 3) := by decide +kernel
theorem dL_bound_7 : decode cL_bound 7 = .ok (.lastore, 1) := by decide +kernel
theorem dL_bound_8 : decode cL_bound 8 = .ok (.goto 6, 3) := by decide +kernel
theorem dL_bound_11 : decode cL_bound 11 = .ok (.astore_n 3, 1) := by decide +kernel
theorem dL_bound_12 : decode cL_bound 12 = .ok (.iconst 1, 1) := by decide +kernel
theorem dL_bound_13 : decode cL_bound 13 = .ok (.ireturn, 1) := by decide +kernel
theorem dL_bound_14 : decode cL_bound 14 = .ok (.iconst 0, 1) := by decide +kernel
theorem dL_bound_15 : decode cL_bound 15 = .ok (.ireturn, 1) := by decide +kernel
theorem dL_whyNot_0 : decode cL_whyNot 0 = .ok (.aload_n 2, 1) := by decide +kernel
theorem dL_whyNot_1 : decode cL_whyNot 1 = .ok (.iconst 0, 1) := by decide +kernel
theorem dL_whyNot_2 : decode cL_whyNot 2 = .ok (.aload_n 0, 1) := by decide +kernel
theorem dL_whyNot_3 : decode cL_whyNot 3 = .ok (.iload_n 1, 1) := by decide +kernel
theorem dL_whyNot_4 : decode cL_whyNot 4 = .ok (.invokevirtual 75, 3) := by decide +kernel
theorem dL_whyNot_7 : decode cL_whyNot 7 = .ok (.i2l, 1) := by decide +kernel
theorem dL_whyNot_8 : decode cL_whyNot 8 = .ok (.lastore, 1) := by decide +kernel
theorem dL_whyNot_9 : decode cL_whyNot 9 = .ok (.goto 6, 3) := by decide +kernel
theorem dL_whyNot_12 : decode cL_whyNot 12 = .ok (.astore_n 3, 1) := by decide +kernel
theorem dL_whyNot_13 : decode cL_whyNot 13 = .ok (.iconst 1, 1) := by decide +kernel
theorem dL_whyNot_14 : decode cL_whyNot 14 = .ok (.ireturn, 1) := by decide +kernel
theorem dL_whyNot_15 : decode cL_whyNot 15 = .ok (.iconst 0, 1) := by decide +kernel
theorem dL_whyNot_16 : decode cL_whyNot 16 = .ok (.ireturn, 1) := by decide +kernel
theorem dL_whyNotMultiply_0 : decode cL_whyNotMultiply 0 = .ok (.aload_n 2, 1) := by decide +kernel
theorem dL_whyNotMultiply_1 : decode cL_whyNotMultiply 1 = .ok (.iconst 0, 1) := by decide +kernel
theorem dL_whyNotMultiply_2 : decode cL_whyNotMultiply 2 = .ok (.aload_n 0, 1) := by decide +kernel
theorem dL_whyNotMultiply_3 : decode cL_whyNotMultiply 3 = .ok (.iload_n 1, 1) := by decide +kernel
theorem dL_whyNotMultiply_4 : decode cL_whyNotMultiply 4 = .ok (.invokevirtual 78, 3) := by decide +kernel
theorem dL_whyNotMultiply_7 : decode cL_whyNotMultiply 7 = .ok (.i2l, 1) := by decide +kernel
theorem dL_whyNotMultiply_8 : decode cL_whyNotMultiply 8 = .ok (.lastore, 1) := by decide +kernel
theorem dL_whyNotMultiply_9 : decode cL_whyNotMultiply 9 = .ok (.goto 9, 3) := by decide +kernel
theorem dL_whyNotMultiply_12 : decode cL_whyNotMultiply 12 = .ok (.astore_n 3, 1) := by decide +kernel
theorem dL_whyNotMultiply_13 : decode cL_whyNotMultiply 13 = .ok (.iconst 1, 1) := by decide +kernel
theorem dL_whyNotMultiply_14 : decode cL_whyNotMultiply 14 = .ok (.ireturn, 1) := by decide +kernel
theorem dL_whyNotMultiply_15 : decode cL_whyNotMultiply 15 = .ok (.astore_n 3, 1) := by decide +kernel
theorem dL_whyNotMultiply_16 : decode cL_whyNotMultiply 16 = .ok (.iconst 2, 1) := by decide +kernel
theorem dL_whyNotMultiply_17 : decode cL_whyNotMultiply 17 = .ok (.ireturn, 1) := by decide +kernel
theorem dL_whyNotMultiply_18 : decode cL_whyNotMultiply 18 = .ok (.iconst 0, 1) := by decide +kernel
theorem dL_whyNotMultiply_19 : decode cL_whyNotMultiply 19 = .ok (.ireturn, 1) := by decide +kernel
theorem dL_bestHandle_0 : decode cL_bestHandle 0 = .ok (.aload_n 3, 1) := by decide +kernel
theorem dL_bestHandle_1 : decode cL_bestHandle 1 = .ok (.iconst 0, 1) := by decide +kernel
theorem dL_bestHandle_2 : decode cL_bestHandle 2 = .ok (.aload_n 0, 1) := by decide +kernel
theorem dL_bestHandle_3 : decode cL_bestHandle 3 = .ok (.iload_n 1, 1) := by decide +kernel
theorem dL_bestHandle_4 : decode cL_bestHandle 4 = .ok (.iload_n 2, 1) := by decide +kernel
theorem dL_bestHandle_5 : decode cL_bestHandle 5 = .ok (.invokevirtual 81, 3) := by decide +kernel
theorem dL_bestHandle_8 : decode cL_bestHandle 8 = .ok (.lastore, 1) := by decide +kernel
theorem dL_bestHandle_9 : decode cL_bestHandle 9 = .ok (.goto 7, 3) := by decide +kernel
theorem dL_bestHandle_12 : decode cL_bestHandle 12 = .ok (.astore 4, 2) := by decide +kernel
theorem dL_bestHandle_14 : decode cL_bestHandle 14 = .ok (.iconst 1, 1) := by decide +kernel
theorem dL_bestHandle_15 : decode cL_bestHandle 15 = .ok (.ireturn, 1) := by decide +kernel
theorem dL_bestHandle_16 : decode cL_bestHandle 16 = .ok (.iconst 0, 1) := by decide +kernel
theorem dL_bestHandle_17 : decode cL_bestHandle 17 = .ok (.ireturn, 1) := by decide +kernel
theorem dL_count_0 : decode cL_count 0 = .ok (.aload_n 2, 1) := by decide +kernel
theorem dL_count_1 : decode cL_count 1 = .ok (.iconst 0, 1) := by decide +kernel
theorem dL_count_2 : decode cL_count 2 = .ok (.aload_n 0, 1) := by decide +kernel
theorem dL_count_3 : decode cL_count 3 = .ok (.iload_n 1, 1) := by decide +kernel
theorem dL_count_4 : decode cL_count 4 = .ok (.invokevirtual 85, 3) := by decide +kernel
theorem dL_count_7 : decode cL_count 7 = .ok (.i2l, 1) := by decide +kernel
theorem dL_count_8 : decode cL_count 8 = .ok (.lastore, 1) := by decide +kernel
theorem dL_count_9 : decode cL_count 9 = .ok (.goto 6, 3) := by decide +kernel
theorem dL_count_12 : decode cL_count 12 = .ok (.astore_n 3, 1) := by decide +kernel
theorem dL_count_13 : decode cL_count 13 = .ok (.iconst 1, 1) := by decide +kernel
theorem dL_count_14 : decode cL_count 14 = .ok (.ireturn, 1) := by decide +kernel
theorem dL_count_15 : decode cL_count 15 = .ok (.iconst 0, 1) := by decide +kernel
theorem dL_count_16 : decode cL_count 16 = .ok (.ireturn, 1) := by decide +kernel
theorem dL_law_0 : decode cL_law 0 = .ok (.new 8, 3) := by decide +kernel
theorem dL_law_3 : decode cL_law 3 = .ok (.dup, 1) := by decide +kernel
theorem dL_law_4 : decode cL_law 4 = .ok (.invokespecial 88, 3) := by decide +kernel
theorem dL_law_7 : decode cL_law 7 = .ok (.astore_n 1, 1) := by decide +kernel
theorem dL_law_8 : decode cL_law 8 = .ok (.new 89, 3) := by decide +kernel
theorem dL_law_11 : decode cL_law 11 = .ok (.dup, 1) := by decide +kernel
theorem dL_law_12 : decode cL_law 12 = .ok (.invokespecial 91, 3) := by decide +kernel
theorem dL_law_15 : decode cL_law 15 = .ok (.astore_n 2, 1) := by decide +kernel
theorem dL_law_16 : decode cL_law 16 = .ok (.iconst 1, 1) := by decide +kernel
theorem dL_law_17 : decode cL_law 17 = .ok (.newarray .long, 2) := by decide +kernel
theorem dL_law_19 : decode cL_law 19 = .ok (.astore_n 3, 1) := by decide +kernel
theorem dL_law_20 : decode cL_law 20 = .ok (.iconst 0, 1) := by decide +kernel
theorem dL_law_21 : decode cL_law 21 = .ok (.istore 4, 2) := by decide +kernel
theorem dL_law_23 : decode cL_law 23 = .ok (.iload 4, 2) := by decide +kernel
theorem dL_law_25 : decode cL_law 25 = .ok (.aload_n 0, 1) := by decide +kernel
theorem dL_law_26 : decode cL_law 26 = .ok (.arraylength, 1) := by decide +kernel
theorem dL_law_27 : decode cL_law 27 = .ok (.iconst 4, 1) := by decide +kernel
theorem dL_law_28 : decode cL_law 28 = .ok (.isub, 1) := by decide +kernel
theorem dL_law_29 : decode cL_law 29 = .ok (.if_icmp .gt 1561, 3) := by decide +kernel
theorem dL_law_32 : decode cL_law 32 = .ok (.aload_n 0, 1) := by decide +kernel
theorem dL_law_33 : decode cL_law 33 = .ok (.iload 4, 2) := by decide +kernel
theorem dL_law_35 : decode cL_law 35 = .ok (.iaload, 1) := by decide +kernel
theorem dL_law_36 : decode cL_law 36 = .ok (.bipush 31, 2) := by decide +kernel
theorem dL_law_38 : decode cL_law 38 = .ok (.iand, 1) := by decide +kernel
theorem dL_law_39 : decode cL_law 39 = .ok (.tableswitch 1545 0 26 #[121, 189, 285, 353, 366, 422, 478, 558, 626, 670, 726, 782, 795, 808, 852, 908, 964, 1008, 1076, 1144, 1200, 1255, 1311, 1367, 1434, 1490, 1531], 121) := by decide +kernel
theorem dL_law_160 : decode cL_law 160 = .ok (.aload_n 1, 1) := by decide +kernel
theorem dL_law_161 : decode cL_law 161 = .ok (.aload_n 0, 1) := by decide +kernel
theorem dL_law_162 : decode cL_law 162 = .ok (.iload 4, 2) := by decide +kernel
theorem dL_law_164 : decode cL_law 164 = .ok (.iconst 1, 1) := by decide +kernel
theorem dL_law_165 : decode cL_law 165 = .ok (.iadd, 1) := by decide +kernel
theorem dL_law_166 : decode cL_law 166 = .ok (.iaload, 1) := by decide +kernel
theorem dL_law_167 : decode cL_law 167 = .ok (.aload_n 0, 1) := by decide +kernel
theorem dL_law_168 : decode cL_law 168 = .ok (.iload 4, 2) := by decide +kernel
theorem dL_law_170 : decode cL_law 170 = .ok (.iconst 2, 1) := by decide +kernel
theorem dL_law_171 : decode cL_law 171 = .ok (.iadd, 1) := by decide +kernel
theorem dL_law_172 : decode cL_law 172 = .ok (.iaload, 1) := by decide +kernel
theorem dL_law_173 : decode cL_law 173 = .ok (.aload_n 3, 1) := by decide +kernel
theorem dL_law_174 : decode cL_law 174 = .ok (.invokestatic 92, 3) := by decide +kernel
theorem dL_law_177 : decode cL_law 177 = .ok (.istore 5, 2) := by decide +kernel
theorem dL_law_179 : decode cL_law 179 = .ok (.aload_n 2, 1) := by decide +kernel
theorem dL_law_180 : decode cL_law 180 = .ok (.aload_n 0, 1) := by decide +kernel
theorem dL_law_181 : decode cL_law 181 = .ok (.iload 4, 2) := by decide +kernel
theorem dL_law_183 : decode cL_law 183 = .ok (.iconst 1, 1) := by decide +kernel
theorem dL_law_184 : decode cL_law 184 = .ok (.iadd, 1) := by decide +kernel
theorem dL_law_185 : decode cL_law 185 = .ok (.iaload, 1) := by decide +kernel
theorem dL_law_186 : decode cL_law 186 = .ok (.aload_n 0, 1) := by decide +kernel
theorem dL_law_187 : decode cL_law 187 = .ok (.iload 4, 2) := by decide +kernel
theorem dL_law_189 : decode cL_law 189 = .ok (.iconst 2, 1) := by decide +kernel
theorem dL_law_190 : decode cL_law 190 = .ok (.iadd, 1) := by decide +kernel
theorem dL_law_191 : decode cL_law 191 = .ok (.iaload, 1) := by decide +kernel
theorem dL_law_192 : decode cL_law 192 = .ok (.invokevirtual 97, 3) := by decide +kernel
theorem dL_law_195 : decode cL_law 195 = .ok (.istore 6, 2) := by decide +kernel
theorem dL_law_197 : decode cL_law 197 = .ok (.aload_n 2, 1) := by decide +kernel
theorem dL_law_198 : decode cL_law 198 = .ok (.invokevirtual 98, 3) := by decide +kernel
theorem dL_law_201 : decode cL_law 201 = .ok (.iload 5, 2) := by decide +kernel
theorem dL_law_203 : decode cL_law 203 = .ok (.if_icmp .eq 5, 3) := by decide +kernel
theorem dL_law_206 : decode cL_law 206 = .ok (.iconst 0, 1) := by decide +kernel
theorem dL_law_207 : decode cL_law 207 = .ok (.ireturn, 1) := by decide +kernel
theorem dL_law_208 : decode cL_law 208 = .ok (.iload 5, 2) := by decide +kernel
theorem dL_law_210 : decode cL_law 210 = .ok (.ifCond .ne 15, 3) := by decide +kernel
theorem dL_law_213 : decode cL_law 213 = .ok (.aload_n 3, 1) := by decide +kernel
theorem dL_law_214 : decode cL_law 214 = .ok (.iconst 0, 1) := by decide +kernel
theorem dL_law_215 : decode cL_law 215 = .ok (.laload, 1) := by decide +kernel
theorem dL_law_216 : decode cL_law 216 = .ok (.iload 6, 2) := by decide +kernel
theorem dL_law_218 : decode cL_law 218 = .ok (.i2l, 1) := by decide +kernel
theorem dL_law_219 : decode cL_law 219 = .ok (.lcmp, 1) := by decide +kernel
theorem dL_law_220 : decode cL_law 220 = .ok (.ifCond .eq 5, 3) := by decide +kernel
theorem dL_law_223 : decode cL_law 223 = .ok (.iconst 0, 1) := by decide +kernel
theorem dL_law_224 : decode cL_law 224 = .ok (.ireturn, 1) := by decide +kernel
theorem dL_law_225 : decode cL_law 225 = .ok (.goto 1359, 3) := by decide +kernel
theorem dL_law_228 : decode cL_law 228 = .ok (.aload_n 1, 1) := by decide +kernel
theorem dL_law_229 : decode cL_law 229 = .ok (.aload_n 0, 1) := by decide +kernel
theorem dL_law_230 : decode cL_law 230 = .ok (.iload 4, 2) := by decide +kernel
theorem dL_law_232 : decode cL_law 232 = .ok (.iconst 1, 1) := by decide +kernel
theorem dL_law_233 : decode cL_law 233 = .ok (.iadd, 1) := by decide +kernel
theorem dL_law_234 : decode cL_law 234 = .ok (.iaload, 1) := by decide +kernel
theorem dL_law_235 : decode cL_law 235 = .ok (.aload_n 0, 1) := by decide +kernel
theorem dL_law_236 : decode cL_law 236 = .ok (.iload 4, 2) := by decide +kernel
theorem dL_law_238 : decode cL_law 238 = .ok (.iconst 2, 1) := by decide +kernel
theorem dL_law_239 : decode cL_law 239 = .ok (.iadd, 1) := by decide +kernel
theorem dL_law_240 : decode cL_law 240 = .ok (.iaload, 1) := by decide +kernel
theorem dL_law_241 : decode cL_law 241 = .ok (.aload_n 0, 1) := by decide +kernel
theorem dL_law_242 : decode cL_law 242 = .ok (.iload 4, 2) := by decide +kernel
end
section
theorem dL_law_244 : decode cL_law 244 = .ok (.iconst 3, 1) := by decide +kernel
theorem dL_law_245 : decode cL_law 245 = .ok (.iadd, 1) := by decide +kernel
theorem dL_law_246 : decode cL_law 246 = .ok (.iaload, 1) := by decide +kernel
theorem dL_law_247 : decode cL_law 247 = .ok (.ifCond .eq 7, 3) := by decide +kernel
theorem dL_law_250 : decode cL_law 250 = .ok (.iconst 1, 1) := by decide +kernel
theorem dL_law_251 : decode cL_law 251 = .ok (.goto 4, 3) := by decide +kernel
theorem dL_law_254 : decode cL_law 254 = .ok (.iconst 0, 1) := by decide +kernel
theorem dL_law_255 : decode cL_law 255 = .ok (.aload_n 3, 1) := by decide +kernel
theorem dL_law_256 : decode cL_law 256 = .ok (.invokestatic 101, 3) := by decide +kernel
theorem dL_law_259 : decode cL_law 259 = .ok (.istore 5, 2) := by decide +kernel
theorem dL_law_261 : decode cL_law 261 = .ok (.aload_n 2, 1) := by decide +kernel
theorem dL_law_262 : decode cL_law 262 = .ok (.aload_n 0, 1) := by decide +kernel
theorem dL_law_263 : decode cL_law 263 = .ok (.iload 4, 2) := by decide +kernel
theorem dL_law_265 : decode cL_law 265 = .ok (.iconst 1, 1) := by decide +kernel
theorem dL_law_266 : decode cL_law 266 = .ok (.iadd, 1) := by decide +kernel
theorem dL_law_267 : decode cL_law 267 = .ok (.iaload, 1) := by decide +kernel
theorem dL_law_268 : decode cL_law 268 = .ok (.aload_n 0, 1) := by decide +kernel
theorem dL_law_269 : decode cL_law 269 = .ok (.iload 4, 2) := by decide +kernel
theorem dL_law_271 : decode cL_law 271 = .ok (.iconst 2, 1) := by decide +kernel
theorem dL_law_272 : decode cL_law 272 = .ok (.iadd, 1) := by decide +kernel
theorem dL_law_273 : decode cL_law 273 = .ok (.iaload, 1) := by decide +kernel
theorem dL_law_274 : decode cL_law 274 = .ok (.aload_n 0, 1) := by decide +kernel
theorem dL_law_275 : decode cL_law 275 = .ok (.iload 4, 2) := by decide +kernel
theorem dL_law_277 : decode cL_law 277 = .ok (.iconst 3, 1) := by decide +kernel
theorem dL_law_278 : decode cL_law 278 = .ok (.iadd, 1) := by decide +kernel
theorem dL_law_279 : decode cL_law 279 = .ok (.iaload, 1) := by decide +kernel
theorem dL_law_280 : decode cL_law 280 = .ok (.ifCond .eq 7, 3) := by decide +kernel
theorem dL_law_283 : decode cL_law 283 = .ok (.iconst 1, 1) := by decide +kernel
theorem dL_law_284 : decode cL_law 284 = .ok (.goto 4, 3) := by decide +kernel
theorem dL_law_287 : decode cL_law 287 = .ok (.iconst 0, 1) := by decide +kernel
theorem dL_law_288 : decode cL_law 288 = .ok (.invokevirtual 104, 3) := by decide +kernel
theorem dL_law_291 : decode cL_law 291 = .ok (.istore 6, 2) := by decide +kernel
theorem dL_law_293 : decode cL_law 293 = .ok (.aload_n 2, 1) := by decide +kernel
theorem dL_law_294 : decode cL_law 294 = .ok (.invokevirtual 98, 3) := by decide +kernel
theorem dL_law_297 : decode cL_law 297 = .ok (.iload 5, 2) := by decide +kernel
theorem dL_law_299 : decode cL_law 299 = .ok (.if_icmp .eq 5, 3) := by decide +kernel
theorem dL_law_302 : decode cL_law 302 = .ok (.iconst 0, 1) := by decide +kernel
theorem dL_law_303 : decode cL_law 303 = .ok (.ireturn, 1) := by decide +kernel
theorem dL_law_304 : decode cL_law 304 = .ok (.iload 5, 2) := by decide +kernel
theorem dL_law_306 : decode cL_law 306 = .ok (.ifCond .ne 15, 3) := by decide +kernel
theorem dL_law_309 : decode cL_law 309 = .ok (.aload_n 3, 1) := by decide +kernel
theorem dL_law_310 : decode cL_law 310 = .ok (.iconst 0, 1) := by decide +kernel
theorem dL_law_311 : decode cL_law 311 = .ok (.laload, 1) := by decide +kernel
theorem dL_law_312 : decode cL_law 312 = .ok (.iload 6, 2) := by decide +kernel
theorem dL_law_314 : decode cL_law 314 = .ok (.i2l, 1) := by decide +kernel
theorem dL_law_315 : decode cL_law 315 = .ok (.lcmp, 1) := by decide +kernel
theorem dL_law_316 : decode cL_law 316 = .ok (.ifCond .eq 5, 3) := by decide +kernel
theorem dL_law_319 : decode cL_law 319 = .ok (.iconst 0, 1) := by decide +kernel
theorem dL_law_320 : decode cL_law 320 = .ok (.ireturn, 1) := by decide +kernel
theorem dL_law_321 : decode cL_law 321 = .ok (.goto 1263, 3) := by decide +kernel
theorem dL_law_324 : decode cL_law 324 = .ok (.aload_n 1, 1) := by decide +kernel
theorem dL_law_325 : decode cL_law 325 = .ok (.aload_n 0, 1) := by decide +kernel
theorem dL_law_326 : decode cL_law 326 = .ok (.iload 4, 2) := by decide +kernel
theorem dL_law_328 : decode cL_law 328 = .ok (.iconst 1, 1) := by decide +kernel
theorem dL_law_329 : decode cL_law 329 = .ok (.iadd, 1) := by decide +kernel
theorem dL_law_330 : decode cL_law 330 = .ok (.iaload, 1) := by decide +kernel
theorem dL_law_331 : decode cL_law 331 = .ok (.aload_n 0, 1) := by decide +kernel
theorem dL_law_332 : decode cL_law 332 = .ok (.iload 4, 2) := by decide +kernel
theorem dL_law_334 : decode cL_law 334 = .ok (.iconst 2, 1) := by decide +kernel
theorem dL_law_335 : decode cL_law 335 = .ok (.iadd, 1) := by decide +kernel
theorem dL_law_336 : decode cL_law 336 = .ok (.iaload, 1) := by decide +kernel
theorem dL_law_337 : decode cL_law 337 = .ok (.aload_n 3, 1) := by decide +kernel
theorem dL_law_338 : decode cL_law 338 = .ok (.invokestatic 105, 3) := by decide +kernel
theorem dL_law_341 : decode cL_law 341 = .ok (.istore 5, 2) := by decide +kernel
theorem dL_law_343 : decode cL_law 343 = .ok (.aload_n 2, 1) := by decide +kernel
theorem dL_law_344 : decode cL_law 344 = .ok (.aload_n 0, 1) := by decide +kernel
theorem dL_law_345 : decode cL_law 345 = .ok (.iload 4, 2) := by decide +kernel
theorem dL_law_347 : decode cL_law 347 = .ok (.iconst 1, 1) := by decide +kernel
theorem dL_law_348 : decode cL_law 348 = .ok (.iadd, 1) := by decide +kernel
theorem dL_law_349 : decode cL_law 349 = .ok (.iaload, 1) := by decide +kernel
theorem dL_law_350 : decode cL_law 350 = .ok (.aload_n 0, 1) := by decide +kernel
theorem dL_law_351 : decode cL_law 351 = .ok (.iload 4, 2) := by decide +kernel
theorem dL_law_353 : decode cL_law 353 = .ok (.iconst 2, 1) := by decide +kernel
theorem dL_law_354 : decode cL_law 354 = .ok (.iadd, 1) := by decide +kernel
theorem dL_law_355 : decode cL_law 355 = .ok (.iaload, 1) := by decide +kernel
theorem dL_law_356 : decode cL_law 356 = .ok (.invokevirtual 107, 3) := by decide +kernel
theorem dL_law_359 : decode cL_law 359 = .ok (.istore 6, 2) := by decide +kernel
theorem dL_law_361 : decode cL_law 361 = .ok (.aload_n 2, 1) := by decide +kernel
theorem dL_law_362 : decode cL_law 362 = .ok (.invokevirtual 98, 3) := by decide +kernel
theorem dL_law_365 : decode cL_law 365 = .ok (.iload 5, 2) := by decide +kernel
theorem dL_law_367 : decode cL_law 367 = .ok (.if_icmp .eq 5, 3) := by decide +kernel
theorem dL_law_370 : decode cL_law 370 = .ok (.iconst 0, 1) := by decide +kernel
theorem dL_law_371 : decode cL_law 371 = .ok (.ireturn, 1) := by decide +kernel
theorem dL_law_372 : decode cL_law 372 = .ok (.iload 5, 2) := by decide +kernel
theorem dL_law_374 : decode cL_law 374 = .ok (.ifCond .ne 15, 3) := by decide +kernel
theorem dL_law_377 : decode cL_law 377 = .ok (.aload_n 3, 1) := by decide +kernel
theorem dL_law_378 : decode cL_law 378 = .ok (.iconst 0, 1) := by decide +kernel
theorem dL_law_379 : decode cL_law 379 = .ok (.laload, 1) := by decide +kernel
theorem dL_law_380 : decode cL_law 380 = .ok (.iload 6, 2) := by decide +kernel
theorem dL_law_382 : decode cL_law 382 = .ok (.i2l, 1) := by decide +kernel
theorem dL_law_383 : decode cL_law 383 = .ok (.lcmp, 1) := by decide +kernel
theorem dL_law_384 : decode cL_law 384 = .ok (.ifCond .eq 5, 3) := by decide +kernel
theorem dL_law_387 : decode cL_law 387 = .ok (.iconst 0, 1) := by decide +kernel
theorem dL_law_388 : decode cL_law 388 = .ok (.ireturn, 1) := by decide +kernel
theorem dL_law_389 : decode cL_law 389 = .ok (.goto 1195, 3) := by decide +kernel
theorem dL_law_392 : decode cL_law 392 = .ok (.aload_n 1, 1) := by decide +kernel
theorem dL_law_393 : decode cL_law 393 = .ok (.invokevirtual 108, 3) := by decide +kernel
theorem dL_law_396 : decode cL_law 396 = .ok (.aload_n 2, 1) := by decide +kernel
theorem dL_law_397 : decode cL_law 397 = .ok (.invokevirtual 111, 3) := by decide +kernel
theorem dL_law_400 : decode cL_law 400 = .ok (.if_icmp .eq 1184, 3) := by decide +kernel
theorem dL_law_403 : decode cL_law 403 = .ok (.iconst 0, 1) := by decide +kernel
theorem dL_law_404 : decode cL_law 404 = .ok (.ireturn, 1) := by decide +kernel
theorem dL_law_405 : decode cL_law 405 = .ok (.aload_n 1, 1) := by decide +kernel
theorem dL_law_406 : decode cL_law 406 = .ok (.aload_n 0, 1) := by decide +kernel
theorem dL_law_407 : decode cL_law 407 = .ok (.iload 4, 2) := by decide +kernel
theorem dL_law_409 : decode cL_law 409 = .ok (.iconst 1, 1) := by decide +kernel
theorem dL_law_410 : decode cL_law 410 = .ok (.iadd, 1) := by decide +kernel
theorem dL_law_411 : decode cL_law 411 = .ok (.iaload, 1) := by decide +kernel
theorem dL_law_412 : decode cL_law 412 = .ok (.aload_n 3, 1) := by decide +kernel
theorem dL_law_413 : decode cL_law 413 = .ok (.invokestatic 112, 3) := by decide +kernel
theorem dL_law_416 : decode cL_law 416 = .ok (.istore 5, 2) := by decide +kernel
theorem dL_law_418 : decode cL_law 418 = .ok (.aload_n 2, 1) := by decide +kernel
theorem dL_law_419 : decode cL_law 419 = .ok (.aload_n 0, 1) := by decide +kernel
theorem dL_law_420 : decode cL_law 420 = .ok (.iload 4, 2) := by decide +kernel
theorem dL_law_422 : decode cL_law 422 = .ok (.iconst 1, 1) := by decide +kernel
theorem dL_law_423 : decode cL_law 423 = .ok (.iadd, 1) := by decide +kernel
theorem dL_law_424 : decode cL_law 424 = .ok (.iaload, 1) := by decide +kernel
theorem dL_law_425 : decode cL_law 425 = .ok (.invokevirtual 115, 3) := by decide +kernel
theorem dL_law_428 : decode cL_law 428 = .ok (.istore 6, 2) := by decide +kernel
theorem dL_law_430 : decode cL_law 430 = .ok (.aload_n 2, 1) := by decide +kernel
theorem dL_law_431 : decode cL_law 431 = .ok (.invokevirtual 98, 3) := by decide +kernel
theorem dL_law_434 : decode cL_law 434 = .ok (.iload 5, 2) := by decide +kernel
theorem dL_law_436 : decode cL_law 436 = .ok (.if_icmp .eq 5, 3) := by decide +kernel
theorem dL_law_439 : decode cL_law 439 = .ok (.iconst 0, 1) := by decide +kernel
theorem dL_law_440 : decode cL_law 440 = .ok (.ireturn, 1) := by decide +kernel
theorem dL_law_441 : decode cL_law 441 = .ok (.iload 5, 2) := by decide +kernel
theorem dL_law_443 : decode cL_law 443 = .ok (.ifCond .ne 15, 3) := by decide +kernel
theorem dL_law_446 : decode cL_law 446 = .ok (.aload_n 3, 1) := by decide +kernel
theorem dL_law_447 : decode cL_law 447 = .ok (.iconst 0, 1) := by decide +kernel
theorem dL_law_448 : decode cL_law 448 = .ok (.laload, 1) := by decide +kernel
theorem dL_law_449 : decode cL_law 449 = .ok (.iload 6, 2) := by decide +kernel
theorem dL_law_451 : decode cL_law 451 = .ok (.i2l, 1) := by decide +kernel
theorem dL_law_452 : decode cL_law 452 = .ok (.lcmp, 1) := by decide +kernel
theorem dL_law_453 : decode cL_law 453 = .ok (.ifCond .eq 5, 3) := by decide +kernel
theorem dL_law_456 : decode cL_law 456 = .ok (.iconst 0, 1) := by decide +kernel
theorem dL_law_457 : decode cL_law 457 = .ok (.ireturn, 1) := by decide +kernel
theorem dL_law_458 : decode cL_law 458 = .ok (.goto 1126, 3) := by decide +kernel
theorem dL_law_461 : decode cL_law 461 = .ok (.aload_n 1, 1) := by decide +kernel
theorem dL_law_462 : decode cL_law 462 = .ok (.aload_n 0, 1) := by decide +kernel
theorem dL_law_463 : decode cL_law 463 = .ok (.iload 4, 2) := by decide +kernel
theorem dL_law_465 : decode cL_law 465 = .ok (.iconst 1, 1) := by decide +kernel
theorem dL_law_466 : decode cL_law 466 = .ok (.iadd, 1) := by decide +kernel
theorem dL_law_467 : decode cL_law 467 = .ok (.iaload, 1) := by decide +kernel
theorem dL_law_468 : decode cL_law 468 = .ok (.aload_n 3, 1) := by decide +kernel
theorem dL_law_469 : decode cL_law 469 = .ok (.invokestatic 116, 3) := by decide +kernel
theorem dL_law_472 : decode cL_law 472 = .ok (.istore 5, 2) := by decide +kernel
theorem dL_law_474 : decode cL_law 474 = .ok (.aload_n 2, 1) := by decide +kernel
theorem dL_law_475 : decode cL_law 475 = .ok (.aload_n 0, 1) := by decide +kernel
theorem dL_law_476 : decode cL_law 476 = .ok (.iload 4, 2) := by decide +kernel
theorem dL_law_478 : decode cL_law 478 = .ok (.iconst 1, 1) := by decide +kernel
theorem dL_law_479 : decode cL_law 479 = .ok (.iadd, 1) := by decide +kernel
theorem dL_law_480 : decode cL_law 480 = .ok (.iaload, 1) := by decide +kernel
theorem dL_law_481 : decode cL_law 481 = .ok (.invokevirtual 118, 3) := by decide +kernel
theorem dL_law_484 : decode cL_law 484 = .ok (.istore 6, 2) := by decide +kernel
theorem dL_law_486 : decode cL_law 486 = .ok (.aload_n 2, 1) := by decide +kernel
theorem dL_law_487 : decode cL_law 487 = .ok (.invokevirtual 98, 3) := by decide +kernel
theorem dL_law_490 : decode cL_law 490 = .ok (.iload 5, 2) := by decide +kernel
theorem dL_law_492 : decode cL_law 492 = .ok (.if_icmp .eq 5, 3) := by decide +kernel
theorem dL_law_495 : decode cL_law 495 = .ok (.iconst 0, 1) := by decide +kernel
theorem dL_law_496 : decode cL_law 496 = .ok (.ireturn, 1) := by decide +kernel
theorem dL_law_497 : decode cL_law 497 = .ok (.iload 5, 2) := by decide +kernel
theorem dL_law_499 : decode cL_law 499 = .ok (.ifCond .ne 15, 3) := by decide +kernel
theorem dL_law_502 : decode cL_law 502 = .ok (.aload_n 3, 1) := by decide +kernel
theorem dL_law_503 : decode cL_law 503 = .ok (.iconst 0, 1) := by decide +kernel
theorem dL_law_504 : decode cL_law 504 = .ok (.laload, 1) := by decide +kernel
theorem dL_law_505 : decode cL_law 505 = .ok (.iload 6, 2) := by decide +kernel
theorem dL_law_507 : decode cL_law 507 = .ok (.i2l, 1) := by decide +kernel
theorem dL_law_508 : decode cL_law 508 = .ok (.lcmp, 1) := by decide +kernel
theorem dL_law_509 : decode cL_law 509 = .ok (.ifCond .eq 5, 3) := by decide +kernel
theorem dL_law_512 : decode cL_law 512 = .ok (.iconst 0, 1) := by decide +kernel
theorem dL_law_513 : decode cL_law 513 = .ok (.ireturn, 1) := by decide +kernel
theorem dL_law_514 : decode cL_law 514 = .ok (.goto 1070, 3) := by decide +kernel
theorem dL_law_517 : decode cL_law 517 = .ok (.aload_n 1, 1) := by decide +kernel
theorem dL_law_518 : decode cL_law 518 = .ok (.aload_n 0, 1) := by decide +kernel
theorem dL_law_519 : decode cL_law 519 = .ok (.iload 4, 2) := by decide +kernel
theorem dL_law_521 : decode cL_law 521 = .ok (.iconst 1, 1) := by decide +kernel
theorem dL_law_522 : decode cL_law 522 = .ok (.iadd, 1) := by decide +kernel
theorem dL_law_523 : decode cL_law 523 = .ok (.iaload, 1) := by decide +kernel
theorem dL_law_524 : decode cL_law 524 = .ok (.aload_n 0, 1) := by decide +kernel
theorem dL_law_525 : decode cL_law 525 = .ok (.iload 4, 2) := by decide +kernel
theorem dL_law_527 : decode cL_law 527 = .ok (.iconst 2, 1) := by decide +kernel
theorem dL_law_528 : decode cL_law 528 = .ok (.iadd, 1) := by decide +kernel
theorem dL_law_529 : decode cL_law 529 = .ok (.iaload, 1) := by decide +kernel
theorem dL_law_530 : decode cL_law 530 = .ok (.aload_n 0, 1) := by decide +kernel
theorem dL_law_531 : decode cL_law 531 = .ok (.iload 4, 2) := by decide +kernel
theorem dL_law_533 : decode cL_law 533 = .ok (.iconst 3, 1) := by decide +kernel
theorem dL_law_534 : decode cL_law 534 = .ok (.iadd, 1) := by decide +kernel
theorem dL_law_535 : decode cL_law 535 = .ok (.iaload, 1) := by decide +kernel
theorem dL_law_536 : decode cL_law 536 = .ok (.aload_n 3, 1) := by decide +kernel
theorem dL_law_537 : decode cL_law 537 = .ok (.invokestatic 119, 3) := by decide +kernel
theorem dL_law_540 : decode cL_law 540 = .ok (.istore 5, 2) := by decide +kernel
theorem dL_law_542 : decode cL_law 542 = .ok (.aload_n 2, 1) := by decide +kernel
theorem dL_law_543 : decode cL_law 543 = .ok (.aload_n 0, 1) := by decide +kernel
theorem dL_law_544 : decode cL_law 544 = .ok (.iload 4, 2) := by decide +kernel
theorem dL_law_546 : decode cL_law 546 = .ok (.iconst 1, 1) := by decide +kernel
theorem dL_law_547 : decode cL_law 547 = .ok (.iadd, 1) := by decide +kernel
theorem dL_law_548 : decode cL_law 548 = .ok (.iaload, 1) := by decide +kernel
theorem dL_law_549 : decode cL_law 549 = .ok (.aload_n 0, 1) := by decide +kernel
theorem dL_law_550 : decode cL_law 550 = .ok (.iload 4, 2) := by decide +kernel
theorem dL_law_552 : decode cL_law 552 = .ok (.iconst 2, 1) := by decide +kernel
theorem dL_law_553 : decode cL_law 553 = .ok (.iadd, 1) := by decide +kernel
theorem dL_law_554 : decode cL_law 554 = .ok (.iaload, 1) := by decide +kernel
theorem dL_law_555 : decode cL_law 555 = .ok (.aload_n 0, 1) := by decide +kernel
theorem dL_law_556 : decode cL_law 556 = .ok (.iload 4, 2) := by decide +kernel
theorem dL_law_558 : decode cL_law 558 = .ok (.iconst 3, 1) := by decide +kernel
theorem dL_law_559 : decode cL_law 559 = .ok (.iadd, 1) := by decide +kernel
theorem dL_law_560 : decode cL_law 560 = .ok (.iaload, 1) := by decide +kernel
theorem dL_law_561 : decode cL_law 561 = .ok (.invokevirtual 122, 3) := by decide +kernel
theorem dL_law_564 : decode cL_law 564 = .ok (.istore 6, 2) := by decide +kernel
theorem dL_law_566 : decode cL_law 566 = .ok (.aload_n 2, 1) := by decide +kernel
theorem dL_law_567 : decode cL_law 567 = .ok (.invokevirtual 98, 3) := by decide +kernel
theorem dL_law_570 : decode cL_law 570 = .ok (.iload 5, 2) := by decide +kernel
theorem dL_law_572 : decode cL_law 572 = .ok (.if_icmp .eq 5, 3) := by decide +kernel
theorem dL_law_575 : decode cL_law 575 = .ok (.iconst 0, 1) := by decide +kernel
theorem dL_law_576 : decode cL_law 576 = .ok (.ireturn, 1) := by decide +kernel
theorem dL_law_577 : decode cL_law 577 = .ok (.iload 5, 2) := by decide +kernel
theorem dL_law_579 : decode cL_law 579 = .ok (.ifCond .ne 15, 3) := by decide +kernel
theorem dL_law_582 : decode cL_law 582 = .ok (.aload_n 3, 1) := by decide +kernel
theorem dL_law_583 : decode cL_law 583 = .ok (.iconst 0, 1) := by decide +kernel
theorem dL_law_584 : decode cL_law 584 = .ok (.laload, 1) := by decide +kernel
theorem dL_law_585 : decode cL_law 585 = .ok (.iload 6, 2) := by decide +kernel
theorem dL_law_587 : decode cL_law 587 = .ok (.i2l, 1) := by decide +kernel
theorem dL_law_588 : decode cL_law 588 = .ok (.lcmp, 1) := by decide +kernel
theorem dL_law_589 : decode cL_law 589 = .ok (.ifCond .eq 5, 3) := by decide +kernel
theorem dL_law_592 : decode cL_law 592 = .ok (.iconst 0, 1) := by decide +kernel
theorem dL_law_593 : decode cL_law 593 = .ok (.ireturn, 1) := by decide +kernel
theorem dL_law_594 : decode cL_law 594 = .ok (.goto 990, 3) := by decide +kernel
theorem dL_law_597 : decode cL_law 597 = .ok (.aload_n 1, 1) := by decide +kernel
theorem dL_law_598 : decode cL_law 598 = .ok (.aload_n 0, 1) := by decide +kernel
theorem dL_law_599 : decode cL_law 599 = .ok (.iload 4, 2) := by decide +kernel
theorem dL_law_601 : decode cL_law 601 = .ok (.iconst 1, 1) := by decide +kernel
theorem dL_law_602 : decode cL_law 602 = .ok (.iadd, 1) := by decide +kernel
theorem dL_law_603 : decode cL_law 603 = .ok (.iaload, 1) := by decide +kernel
theorem dL_law_604 : decode cL_law 604 = .ok (.aload_n 0, 1) := by decide +kernel
theorem dL_law_605 : decode cL_law 605 = .ok (.iload 4, 2) := by decide +kernel
theorem dL_law_607 : decode cL_law 607 = .ok (.iconst 2, 1) := by decide +kernel
theorem dL_law_608 : decode cL_law 608 = .ok (.iadd, 1) := by decide +kernel
theorem dL_law_609 : decode cL_law 609 = .ok (.iaload, 1) := by decide +kernel
theorem dL_law_610 : decode cL_law 610 = .ok (.aload_n 3, 1) := by decide +kernel
theorem dL_law_611 : decode cL_law 611 = .ok (.invokestatic 123, 3) := by decide +kernel
theorem dL_law_614 : decode cL_law 614 = .ok (.istore 5, 2) := by decide +kernel
theorem dL_law_616 : decode cL_law 616 = .ok (.aload_n 2, 1) := by decide +kernel
theorem dL_law_617 : decode cL_law 617 = .ok (.aload_n 0, 1) := by decide +kernel
theorem dL_law_618 : decode cL_law 618 = .ok (.iload 4, 2) := by decide +kernel
theorem dL_law_620 : decode cL_law 620 = .ok (.iconst 1, 1) := by decide +kernel
theorem dL_law_621 : decode cL_law 621 = .ok (.iadd, 1) := by decide +kernel
theorem dL_law_622 : decode cL_law 622 = .ok (.iaload, 1) := by decide +kernel
theorem dL_law_623 : decode cL_law 623 = .ok (.aload_n 0, 1) := by decide +kernel
theorem dL_law_624 : decode cL_law 624 = .ok (.iload 4, 2) := by decide +kernel
theorem dL_law_626 : decode cL_law 626 = .ok (.iconst 2, 1) := by decide +kernel
theorem dL_law_627 : decode cL_law 627 = .ok (.iadd, 1) := by decide +kernel
theorem dL_law_628 : decode cL_law 628 = .ok (.iaload, 1) := by decide +kernel
theorem dL_law_629 : decode cL_law 629 = .ok (.invokevirtual 125, 3) := by decide +kernel
theorem dL_law_632 : decode cL_law 632 = .ok (.istore 6, 2) := by decide +kernel
theorem dL_law_634 : decode cL_law 634 = .ok (.aload_n 2, 1) := by decide +kernel
theorem dL_law_635 : decode cL_law 635 = .ok (.invokevirtual 98, 3) := by decide +kernel
theorem dL_law_638 : decode cL_law 638 = .ok (.iload 5, 2) := by decide +kernel
theorem dL_law_640 : decode cL_law 640 = .ok (.if_icmp .eq 5, 3) := by decide +kernel
theorem dL_law_643 : decode cL_law 643 = .ok (.iconst 0, 1) := by decide +kernel
theorem dL_law_644 : decode cL_law 644 = .ok (.ireturn, 1) := by decide +kernel
theorem dL_law_645 : decode cL_law 645 = .ok (.iload 5, 2) := by decide +kernel
theorem dL_law_647 : decode cL_law 647 = .ok (.ifCond .ne 15, 3) := by decide +kernel
theorem dL_law_650 : decode cL_law 650 = .ok (.aload_n 3, 1) := by decide +kernel
theorem dL_law_651 : decode cL_law 651 = .ok (.iconst 0, 1) := by decide +kernel
theorem dL_law_652 : decode cL_law 652 = .ok (.laload, 1) := by decide +kernel
theorem dL_law_653 : decode cL_law 653 = .ok (.iload 6, 2) := by decide +kernel
theorem dL_law_655 : decode cL_law 655 = .ok (.i2l, 1) := by decide +kernel
theorem dL_law_656 : decode cL_law 656 = .ok (.lcmp, 1) := by decide +kernel
theorem dL_law_657 : decode cL_law 657 = .ok (.ifCond .eq 5, 3) := by decide +kernel
theorem dL_law_660 : decode cL_law 660 = .ok (.iconst 0, 1) := by decide +kernel
theorem dL_law_661 : decode cL_law 661 = .ok (.ireturn, 1) := by decide +kernel
theorem dL_law_662 : decode cL_law 662 = .ok (.goto 922, 3) := by decide +kernel
theorem dL_law_665 : decode cL_law 665 = .ok (.aload_n 1, 1) := by decide +kernel
theorem dL_law_666 : decode cL_law 666 = .ok (.aload_n 3, 1) := by decide +kernel
theorem dL_law_667 : decode cL_law 667 = .ok (.invokestatic 126, 3) := by decide +kernel
theorem dL_law_670 : decode cL_law 670 = .ok (.istore 5, 2) := by decide +kernel
theorem dL_law_672 : decode cL_law 672 = .ok (.aload_n 2, 1) := by decide +kernel
theorem dL_law_673 : decode cL_law 673 = .ok (.invokevirtual 129, 3) := by decide +kernel
theorem dL_law_676 : decode cL_law 676 = .ok (.istore 6, 2) := by decide +kernel
theorem dL_law_678 : decode cL_law 678 = .ok (.aload_n 2, 1) := by decide +kernel
theorem dL_law_679 : decode cL_law 679 = .ok (.invokevirtual 98, 3) := by decide +kernel
theorem dL_law_682 : decode cL_law 682 = .ok (.iload 5, 2) := by decide +kernel
theorem dL_law_684 : decode cL_law 684 = .ok (.if_icmp .eq 5, 3) := by decide +kernel
theorem dL_law_687 : decode cL_law 687 = .ok (.iconst 0, 1) := by decide +kernel
theorem dL_law_688 : decode cL_law 688 = .ok (.ireturn, 1) := by decide +kernel
theorem dL_law_689 : decode cL_law 689 = .ok (.iload 5, 2) := by decide +kernel
theorem dL_law_691 : decode cL_law 691 = .ok (.ifCond .ne 15, 3) := by decide +kernel
theorem dL_law_694 : decode cL_law 694 = .ok (.aload_n 3, 1) := by decide +kernel
theorem dL_law_695 : decode cL_law 695 = .ok (.iconst 0, 1) := by decide +kernel
theorem dL_law_696 : decode cL_law 696 = .ok (.laload, 1) := by decide +kernel
theorem dL_law_697 : decode cL_law 697 = .ok (.iload 6, 2) := by decide +kernel
theorem dL_law_699 : decode cL_law 699 = .ok (.i2l, 1) := by decide +kernel
theorem dL_law_700 : decode cL_law 700 = .ok (.lcmp, 1) := by decide +kernel
theorem dL_law_701 : decode cL_law 701 = .ok (.ifCond .eq 5, 3) := by decide +kernel
theorem dL_law_704 : decode cL_law 704 = .ok (.iconst 0, 1) := by decide +kernel
theorem dL_law_705 : decode cL_law 705 = .ok (.ireturn, 1) := by decide +kernel
theorem dL_law_706 : decode cL_law 706 = .ok (.goto 878, 3) := by decide +kernel
theorem dL_law_709 : decode cL_law 709 = .ok (.aload_n 1, 1) := by decide +kernel
theorem dL_law_710 : decode cL_law 710 = .ok (.aload_n 0, 1) := by decide +kernel
theorem dL_law_711 : decode cL_law 711 = .ok (.iload 4, 2) := by decide +kernel
theorem dL_law_713 : decode cL_law 713 = .ok (.iconst 1, 1) := by decide +kernel
theorem dL_law_714 : decode cL_law 714 = .ok (.iadd, 1) := by decide +kernel
theorem dL_law_715 : decode cL_law 715 = .ok (.iaload, 1) := by decide +kernel
theorem dL_law_716 : decode cL_law 716 = .ok (.aload_n 3, 1) := by decide +kernel
theorem dL_law_717 : decode cL_law 717 = .ok (.invokestatic 130, 3) := by decide +kernel
theorem dL_law_720 : decode cL_law 720 = .ok (.istore 5, 2) := by decide +kernel
theorem dL_law_722 : decode cL_law 722 = .ok (.aload_n 2, 1) := by decide +kernel
theorem dL_law_723 : decode cL_law 723 = .ok (.aload_n 0, 1) := by decide +kernel
theorem dL_law_724 : decode cL_law 724 = .ok (.iload 4, 2) := by decide +kernel
theorem dL_law_726 : decode cL_law 726 = .ok (.iconst 1, 1) := by decide +kernel
theorem dL_law_727 : decode cL_law 727 = .ok (.iadd, 1) := by decide +kernel
theorem dL_law_728 : decode cL_law 728 = .ok (.iaload, 1) := by decide +kernel
theorem dL_law_729 : decode cL_law 729 = .ok (.invokevirtual 132, 3) := by decide +kernel
theorem dL_law_732 : decode cL_law 732 = .ok (.istore 6, 2) := by decide +kernel
theorem dL_law_734 : decode cL_law 734 = .ok (.aload_n 2, 1) := by decide +kernel
theorem dL_law_735 : decode cL_law 735 = .ok (.invokevirtual 98, 3) := by decide +kernel
theorem dL_law_738 : decode cL_law 738 = .ok (.iload 5, 2) := by decide +kernel
theorem dL_law_740 : decode cL_law 740 = .ok (.if_icmp .eq 5, 3) := by decide +kernel
theorem dL_law_743 : decode cL_law 743 = .ok (.iconst 0, 1) := by decide +kernel
theorem dL_law_744 : decode cL_law 744 = .ok (.ireturn, 1) := by decide +kernel
theorem dL_law_745 : decode cL_law 745 = .ok (.iload 5, 2) := by decide +kernel
theorem dL_law_747 : decode cL_law 747 = .ok (.ifCond .ne 15, 3) := by decide +kernel
theorem dL_law_750 : decode cL_law 750 = .ok (.aload_n 3, 1) := by decide +kernel
theorem dL_law_751 : decode cL_law 751 = .ok (.iconst 0, 1) := by decide +kernel
theorem dL_law_752 : decode cL_law 752 = .ok (.laload, 1) := by decide +kernel
theorem dL_law_753 : decode cL_law 753 = .ok (.iload 6, 2) := by decide +kernel
theorem dL_law_755 : decode cL_law 755 = .ok (.i2l, 1) := by decide +kernel
theorem dL_law_756 : decode cL_law 756 = .ok (.lcmp, 1) := by decide +kernel
theorem dL_law_757 : decode cL_law 757 = .ok (.ifCond .eq 5, 3) := by decide +kernel
theorem dL_law_760 : decode cL_law 760 = .ok (.iconst 0, 1) := by decide +kernel
theorem dL_law_761 : decode cL_law 761 = .ok (.ireturn, 1) := by decide +kernel
theorem dL_law_762 : decode cL_law 762 = .ok (.goto 822, 3) := by decide +kernel
theorem dL_law_765 : decode cL_law 765 = .ok (.aload_n 1, 1) := by decide +kernel
theorem dL_law_766 : decode cL_law 766 = .ok (.aload_n 0, 1) := by decide +kernel
theorem dL_law_767 : decode cL_law 767 = .ok (.iload 4, 2) := by decide +kernel
theorem dL_law_769 : decode cL_law 769 = .ok (.iconst 1, 1) := by decide +kernel
theorem dL_law_770 : decode cL_law 770 = .ok (.iadd, 1) := by decide +kernel
theorem dL_law_771 : decode cL_law 771 = .ok (.iaload, 1) := by decide +kernel
theorem dL_law_772 : decode cL_law 772 = .ok (.aload_n 3, 1) := by decide +kernel
theorem dL_law_773 : decode cL_law 773 = .ok (.invokestatic 133, 3) := by decide +kernel
theorem dL_law_776 : decode cL_law 776 = .ok (.istore 5, 2) := by decide +kernel
theorem dL_law_778 : decode cL_law 778 = .ok (.aload_n 2, 1) := by decide +kernel
theorem dL_law_779 : decode cL_law 779 = .ok (.aload_n 0, 1) := by decide +kernel
theorem dL_law_780 : decode cL_law 780 = .ok (.iload 4, 2) := by decide +kernel
theorem dL_law_782 : decode cL_law 782 = .ok (.iconst 1, 1) := by decide +kernel
theorem dL_law_783 : decode cL_law 783 = .ok (.iadd, 1) := by decide +kernel
theorem dL_law_784 : decode cL_law 784 = .ok (.iaload, 1) := by decide +kernel
theorem dL_law_785 : decode cL_law 785 = .ok (.invokevirtual 135, 3) := by decide +kernel
theorem dL_law_788 : decode cL_law 788 = .ok (.istore 6, 2) := by decide +kernel
theorem dL_law_790 : decode cL_law 790 = .ok (.aload_n 2, 1) := by decide +kernel
theorem dL_law_791 : decode cL_law 791 = .ok (.invokevirtual 98, 3) := by decide +kernel
theorem dL_law_794 : decode cL_law 794 = .ok (.iload 5, 2) := by decide +kernel
theorem dL_law_796 : decode cL_law 796 = .ok (.if_icmp .eq 5, 3) := by decide +kernel
theorem dL_law_799 : decode cL_law 799 = .ok (.iconst 0, 1) := by decide +kernel
theorem dL_law_800 : decode cL_law 800 = .ok (.ireturn, 1) := by decide +kernel
theorem dL_law_801 : decode cL_law 801 = .ok (.iload 5, 2) := by decide +kernel
theorem dL_law_803 : decode cL_law 803 = .ok (.ifCond .ne 15, 3) := by decide +kernel
theorem dL_law_806 : decode cL_law 806 = .ok (.aload_n 3, 1) := by decide +kernel
theorem dL_law_807 : decode cL_law 807 = .ok (.iconst 0, 1) := by decide +kernel
theorem dL_law_808 : decode cL_law 808 = .ok (.laload, 1) := by decide +kernel
theorem dL_law_809 : decode cL_law 809 = .ok (.iload 6, 2) := by decide +kernel
theorem dL_law_811 : decode cL_law 811 = .ok (.i2l, 1) := by decide +kernel
theorem dL_law_812 : decode cL_law 812 = .ok (.lcmp, 1) := by decide +kernel
theorem dL_law_813 : decode cL_law 813 = .ok (.ifCond .eq 5, 3) := by decide +kernel
theorem dL_law_816 : decode cL_law 816 = .ok (.iconst 0, 1) := by decide +kernel
theorem dL_law_817 : decode cL_law 817 = .ok (.ireturn, 1) := by decide +kernel
theorem dL_law_818 : decode cL_law 818 = .ok (.goto 766, 3) := by decide +kernel
theorem dL_law_821 : decode cL_law 821 = .ok (.aload_n 1, 1) := by decide +kernel
theorem dL_law_822 : decode cL_law 822 = .ok (.invokevirtual 136, 3) := by decide +kernel
theorem dL_law_825 : decode cL_law 825 = .ok (.aload_n 2, 1) := by decide +kernel
theorem dL_law_826 : decode cL_law 826 = .ok (.invokevirtual 139, 3) := by decide +kernel
theorem dL_law_829 : decode cL_law 829 = .ok (.if_icmp .eq 755, 3) := by decide +kernel
theorem dL_law_832 : decode cL_law 832 = .ok (.iconst 0, 1) := by decide +kernel
theorem dL_law_833 : decode cL_law 833 = .ok (.ireturn, 1) := by decide +kernel
theorem dL_law_834 : decode cL_law 834 = .ok (.aload_n 1, 1) := by decide +kernel
theorem dL_law_835 : decode cL_law 835 = .ok (.invokevirtual 140, 3) := by decide +kernel
theorem dL_law_838 : decode cL_law 838 = .ok (.aload_n 2, 1) := by decide +kernel
theorem dL_law_839 : decode cL_law 839 = .ok (.invokevirtual 143, 3) := by decide +kernel
theorem dL_law_842 : decode cL_law 842 = .ok (.if_icmp .eq 742, 3) := by decide +kernel
theorem dL_law_845 : decode cL_law 845 = .ok (.iconst 0, 1) := by decide +kernel
theorem dL_law_846 : decode cL_law 846 = .ok (.ireturn, 1) := by decide +kernel
theorem dL_law_847 : decode cL_law 847 = .ok (.aload_n 1, 1) := by decide +kernel
theorem dL_law_848 : decode cL_law 848 = .ok (.aload_n 3, 1) := by decide +kernel
theorem dL_law_849 : decode cL_law 849 = .ok (.invokestatic 144, 3) := by decide +kernel
theorem dL_law_852 : decode cL_law 852 = .ok (.istore 5, 2) := by decide +kernel
theorem dL_law_854 : decode cL_law 854 = .ok (.aload_n 2, 1) := by decide +kernel
theorem dL_law_855 : decode cL_law 855 = .ok (.invokevirtual 146, 3) := by decide +kernel
theorem dL_law_858 : decode cL_law 858 = .ok (.istore 6, 2) := by decide +kernel
theorem dL_law_860 : decode cL_law 860 = .ok (.aload_n 2, 1) := by decide +kernel
theorem dL_law_861 : decode cL_law 861 = .ok (.invokevirtual 98, 3) := by decide +kernel
theorem dL_law_864 : decode cL_law 864 = .ok (.iload 5, 2) := by decide +kernel
theorem dL_law_866 : decode cL_law 866 = .ok (.if_icmp .eq 5, 3) := by decide +kernel
theorem dL_law_869 : decode cL_law 869 = .ok (.iconst 0, 1) := by decide +kernel
theorem dL_law_870 : decode cL_law 870 = .ok (.ireturn, 1) := by decide +kernel
theorem dL_law_871 : decode cL_law 871 = .ok (.iload 5, 2) := by decide +kernel
theorem dL_law_873 : decode cL_law 873 = .ok (.ifCond .ne 15, 3) := by decide +kernel
theorem dL_law_876 : decode cL_law 876 = .ok (.aload_n 3, 1) := by decide +kernel
theorem dL_law_877 : decode cL_law 877 = .ok (.iconst 0, 1) := by decide +kernel
theorem dL_law_878 : decode cL_law 878 = .ok (.laload, 1) := by decide +kernel
theorem dL_law_879 : decode cL_law 879 = .ok (.iload 6, 2) := by decide +kernel
theorem dL_law_881 : decode cL_law 881 = .ok (.i2l, 1) := by decide +kernel
theorem dL_law_882 : decode cL_law 882 = .ok (.lcmp, 1) := by decide +kernel
theorem dL_law_883 : decode cL_law 883 = .ok (.ifCond .eq 5, 3) := by decide +kernel
theorem dL_law_886 : decode cL_law 886 = .ok (.iconst 0, 1) := by decide +kernel
theorem dL_law_887 : decode cL_law 887 = .ok (.ireturn, 1) := by decide +kernel
theorem dL_law_888 : decode cL_law 888 = .ok (.goto 696, 3) := by decide +kernel
theorem dL_law_891 : decode cL_law 891 = .ok (.aload_n 1, 1) := by decide +kernel
theorem dL_law_892 : decode cL_law 892 = .ok (.aload_n 0, 1) := by decide +kernel
theorem dL_law_893 : decode cL_law 893 = .ok (.iload 4, 2) := by decide +kernel
theorem dL_law_895 : decode cL_law 895 = .ok (.iconst 1, 1) := by decide +kernel
theorem dL_law_896 : decode cL_law 896 = .ok (.iadd, 1) := by decide +kernel
theorem dL_law_897 : decode cL_law 897 = .ok (.iaload, 1) := by decide +kernel
theorem dL_law_898 : decode cL_law 898 = .ok (.aload_n 3, 1) := by decide +kernel
theorem dL_law_899 : decode cL_law 899 = .ok (.invokestatic 147, 3) := by decide +kernel
theorem dL_law_902 : decode cL_law 902 = .ok (.istore 5, 2) := by decide +kernel
theorem dL_law_904 : decode cL_law 904 = .ok (.aload_n 2, 1) := by decide +kernel
theorem dL_law_905 : decode cL_law 905 = .ok (.aload_n 0, 1) := by decide +kernel
theorem dL_law_906 : decode cL_law 906 = .ok (.iload 4, 2) := by decide +kernel
theorem dL_law_908 : decode cL_law 908 = .ok (.iconst 1, 1) := by decide +kernel
theorem dL_law_909 : decode cL_law 909 = .ok (.iadd, 1) := by decide +kernel
theorem dL_law_910 : decode cL_law 910 = .ok (.iaload, 1) := by decide +kernel
theorem dL_law_911 : decode cL_law 911 = .ok (.invokevirtual 149, 3) := by decide +kernel
theorem dL_law_914 : decode cL_law 914 = .ok (.istore 6, 2) := by decide +kernel
theorem dL_law_916 : decode cL_law 916 = .ok (.aload_n 2, 1) := by decide +kernel
theorem dL_law_917 : decode cL_law 917 = .ok (.invokevirtual 98, 3) := by decide +kernel
theorem dL_law_920 : decode cL_law 920 = .ok (.iload 5, 2) := by decide +kernel
theorem dL_law_922 : decode cL_law 922 = .ok (.if_icmp .eq 5, 3) := by decide +kernel
theorem dL_law_925 : decode cL_law 925 = .ok (.iconst 0, 1) := by decide +kernel
theorem dL_law_926 : decode cL_law 926 = .ok (.ireturn, 1) := by decide +kernel
theorem dL_law_927 : decode cL_law 927 = .ok (.iload 5, 2) := by decide +kernel
theorem dL_law_929 : decode cL_law 929 = .ok (.ifCond .ne 15, 3) := by decide +kernel
theorem dL_law_932 : decode cL_law 932 = .ok (.aload_n 3, 1) := by decide +kernel
theorem dL_law_933 : decode cL_law 933 = .ok (.iconst 0, 1) := by decide +kernel
theorem dL_law_934 : decode cL_law 934 = .ok (.laload, 1) := by decide +kernel
theorem dL_law_935 : decode cL_law 935 = .ok (.iload 6, 2) := by decide +kernel
theorem dL_law_937 : decode cL_law 937 = .ok (.i2l, 1) := by decide +kernel
theorem dL_law_938 : decode cL_law 938 = .ok (.lcmp, 1) := by decide +kernel
theorem dL_law_939 : decode cL_law 939 = .ok (.ifCond .eq 5, 3) := by decide +kernel
theorem dL_law_942 : decode cL_law 942 = .ok (.iconst 0, 1) := by decide +kernel
theorem dL_law_943 : decode cL_law 943 = .ok (.ireturn, 1) := by decide +kernel
theorem dL_law_944 : decode cL_law 944 = .ok (.goto 640, 3) := by decide +kernel
theorem dL_law_947 : decode cL_law 947 = .ok (.aload_n 1, 1) := by decide +kernel
theorem dL_law_948 : decode cL_law 948 = .ok (.aload_n 0, 1) := by decide +kernel
theorem dL_law_949 : decode cL_law 949 = .ok (.iload 4, 2) := by decide +kernel
theorem dL_law_951 : decode cL_law 951 = .ok (.iconst 1, 1) := by decide +kernel
theorem dL_law_952 : decode cL_law 952 = .ok (.iadd, 1) := by decide +kernel
theorem dL_law_953 : decode cL_law 953 = .ok (.iaload, 1) := by decide +kernel
theorem dL_law_954 : decode cL_law 954 = .ok (.aload_n 3, 1) := by decide +kernel
theorem dL_law_955 : decode cL_law 955 = .ok (.invokestatic 150, 3) := by decide +kernel
theorem dL_law_958 : decode cL_law 958 = .ok (.istore 5, 2) := by decide +kernel
theorem dL_law_960 : decode cL_law 960 = .ok (.aload_n 2, 1) := by decide +kernel
theorem dL_law_961 : decode cL_law 961 = .ok (.aload_n 0, 1) := by decide +kernel
theorem dL_law_962 : decode cL_law 962 = .ok (.iload 4, 2) := by decide +kernel
theorem dL_law_964 : decode cL_law 964 = .ok (.iconst 1, 1) := by decide +kernel
theorem dL_law_965 : decode cL_law 965 = .ok (.iadd, 1) := by decide +kernel
theorem dL_law_966 : decode cL_law 966 = .ok (.iaload, 1) := by decide +kernel
theorem dL_law_967 : decode cL_law 967 = .ok (.invokevirtual 152, 3) := by decide +kernel
theorem dL_law_970 : decode cL_law 970 = .ok (.istore 6, 2) := by decide +kernel
theorem dL_law_972 : decode cL_law 972 = .ok (.aload_n 2, 1) := by decide +kernel
theorem dL_law_973 : decode cL_law 973 = .ok (.invokevirtual 98, 3) := by decide +kernel
theorem dL_law_976 : decode cL_law 976 = .ok (.iload 5, 2) := by decide +kernel
theorem dL_law_978 : decode cL_law 978 = .ok (.if_icmp .eq 5, 3) := by decide +kernel
theorem dL_law_981 : decode cL_law 981 = .ok (.iconst 0, 1) := by decide +kernel
theorem dL_law_982 : decode cL_law 982 = .ok (.ireturn, 1) := by decide +kernel
theorem dL_law_983 : decode cL_law 983 = .ok (.iload 5, 2) := by decide +kernel
theorem dL_law_985 : decode cL_law 985 = .ok (.ifCond .ne 15, 3) := by decide +kernel
theorem dL_law_988 : decode cL_law 988 = .ok (.aload_n 3, 1) := by decide +kernel
theorem dL_law_989 : decode cL_law 989 = .ok (.iconst 0, 1) := by decide +kernel
theorem dL_law_990 : decode cL_law 990 = .ok (.laload, 1) := by decide +kernel
theorem dL_law_991 : decode cL_law 991 = .ok (.iload 6, 2) := by decide +kernel
theorem dL_law_993 : decode cL_law 993 = .ok (.i2l, 1) := by decide +kernel
theorem dL_law_994 : decode cL_law 994 = .ok (.lcmp, 1) := by decide +kernel
theorem dL_law_995 : decode cL_law 995 = .ok (.ifCond .eq 5, 3) := by decide +kernel
theorem dL_law_998 : decode cL_law 998 = .ok (.iconst 0, 1) := by decide +kernel
theorem dL_law_999 : decode cL_law 999 = .ok (.ireturn, 1) := by decide +kernel
theorem dL_law_1000 : decode cL_law 1000 = .ok (.goto 584, 3) := by decide +kernel
theorem dL_law_1003 : decode cL_law 1003 = .ok (.aload_n 1, 1) := by decide +kernel
theorem dL_law_1004 : decode cL_law 1004 = .ok (.aload_n 3, 1) := by decide +kernel
theorem dL_law_1005 : decode cL_law 1005 = .ok (.invokestatic 153, 3) := by decide +kernel
theorem dL_law_1008 : decode cL_law 1008 = .ok (.istore 5, 2) := by decide +kernel
theorem dL_law_1010 : decode cL_law 1010 = .ok (.aload_n 2, 1) := by decide +kernel
theorem dL_law_1011 : decode cL_law 1011 = .ok (.invokevirtual 155, 3) := by decide +kernel
theorem dL_law_1014 : decode cL_law 1014 = .ok (.istore 6, 2) := by decide +kernel
theorem dL_law_1016 : decode cL_law 1016 = .ok (.aload_n 2, 1) := by decide +kernel
theorem dL_law_1017 : decode cL_law 1017 = .ok (.invokevirtual 98, 3) := by decide +kernel
theorem dL_law_1020 : decode cL_law 1020 = .ok (.iload 5, 2) := by decide +kernel
theorem dL_law_1022 : decode cL_law 1022 = .ok (.if_icmp .eq 5, 3) := by decide +kernel
theorem dL_law_1025 : decode cL_law 1025 = .ok (.iconst 0, 1) := by decide +kernel
theorem dL_law_1026 : decode cL_law 1026 = .ok (.ireturn, 1) := by decide +kernel
theorem dL_law_1027 : decode cL_law 1027 = .ok (.iload 5, 2) := by decide +kernel
theorem dL_law_1029 : decode cL_law 1029 = .ok (.ifCond .ne 15, 3) := by decide +kernel
theorem dL_law_1032 : decode cL_law 1032 = .ok (.aload_n 3, 1) := by decide +kernel
theorem dL_law_1033 : decode cL_law 1033 = .ok (.iconst 0, 1) := by decide +kernel
theorem dL_law_1034 : decode cL_law 1034 = .ok (.laload, 1) := by decide +kernel
theorem dL_law_1035 : decode cL_law 1035 = .ok (.iload 6, 2) := by decide +kernel
theorem dL_law_1037 : decode cL_law 1037 = .ok (.i2l, 1) := by decide +kernel
theorem dL_law_1038 : decode cL_law 1038 = .ok (.lcmp, 1) := by decide +kernel
theorem dL_law_1039 : decode cL_law 1039 = .ok (.ifCond .eq 5, 3) := by decide +kernel
theorem dL_law_1042 : decode cL_law 1042 = .ok (.iconst 0, 1) := by decide +kernel
theorem dL_law_1043 : decode cL_law 1043 = .ok (.ireturn, 1) := by decide +kernel
theorem dL_law_1044 : decode cL_law 1044 = .ok (.goto 540, 3) := by decide +kernel
theorem dL_law_1047 : decode cL_law 1047 = .ok (.aload_n 1, 1) := by decide +kernel
theorem dL_law_1048 : decode cL_law 1048 = .ok (.aload_n 0, 1) := by decide +kernel
theorem dL_law_1049 : decode cL_law 1049 = .ok (.iload 4, 2) := by decide +kernel
theorem dL_law_1051 : decode cL_law 1051 = .ok (.iconst 1, 1) := by decide +kernel
theorem dL_law_1052 : decode cL_law 1052 = .ok (.iadd, 1) := by decide +kernel
theorem dL_law_1053 : decode cL_law 1053 = .ok (.iaload, 1) := by decide +kernel
theorem dL_law_1054 : decode cL_law 1054 = .ok (.aload_n 0, 1) := by decide +kernel
theorem dL_law_1055 : decode cL_law 1055 = .ok (.iload 4, 2) := by decide +kernel
theorem dL_law_1057 : decode cL_law 1057 = .ok (.iconst 2, 1) := by decide +kernel
theorem dL_law_1058 : decode cL_law 1058 = .ok (.iadd, 1) := by decide +kernel
theorem dL_law_1059 : decode cL_law 1059 = .ok (.iaload, 1) := by decide +kernel
theorem dL_law_1060 : decode cL_law 1060 = .ok (.aload_n 3, 1) := by decide +kernel
theorem dL_law_1061 : decode cL_law 1061 = .ok (.invokestatic 156, 3) := by decide +kernel
theorem dL_law_1064 : decode cL_law 1064 = .ok (.istore 5, 2) := by decide +kernel
theorem dL_law_1066 : decode cL_law 1066 = .ok (.aload_n 2, 1) := by decide +kernel
theorem dL_law_1067 : decode cL_law 1067 = .ok (.aload_n 0, 1) := by decide +kernel
theorem dL_law_1068 : decode cL_law 1068 = .ok (.iload 4, 2) := by decide +kernel
theorem dL_law_1070 : decode cL_law 1070 = .ok (.iconst 1, 1) := by decide +kernel
theorem dL_law_1071 : decode cL_law 1071 = .ok (.iadd, 1) := by decide +kernel
theorem dL_law_1072 : decode cL_law 1072 = .ok (.iaload, 1) := by decide +kernel
theorem dL_law_1073 : decode cL_law 1073 = .ok (.aload_n 0, 1) := by decide +kernel
theorem dL_law_1074 : decode cL_law 1074 = .ok (.iload 4, 2) := by decide +kernel
theorem dL_law_1076 : decode cL_law 1076 = .ok (.iconst 2, 1) := by decide +kernel
theorem dL_law_1077 : decode cL_law 1077 = .ok (.iadd, 1) := by decide +kernel
theorem dL_law_1078 : decode cL_law 1078 = .ok (.iaload, 1) := by decide +kernel
theorem dL_law_1079 : decode cL_law 1079 = .ok (.invokevirtual 158, 3) := by decide +kernel
theorem dL_law_1082 : decode cL_law 1082 = .ok (.istore 6, 2) := by decide +kernel
theorem dL_law_1084 : decode cL_law 1084 = .ok (.aload_n 2, 1) := by decide +kernel
theorem dL_law_1085 : decode cL_law 1085 = .ok (.invokevirtual 98, 3) := by decide +kernel
theorem dL_law_1088 : decode cL_law 1088 = .ok (.iload 5, 2) := by decide +kernel
theorem dL_law_1090 : decode cL_law 1090 = .ok (.if_icmp .eq 5, 3) := by decide +kernel
theorem dL_law_1093 : decode cL_law 1093 = .ok (.iconst 0, 1) := by decide +kernel
theorem dL_law_1094 : decode cL_law 1094 = .ok (.ireturn, 1) := by decide +kernel
theorem dL_law_1095 : decode cL_law 1095 = .ok (.iload 5, 2) := by decide +kernel
theorem dL_law_1097 : decode cL_law 1097 = .ok (.ifCond .ne 15, 3) := by decide +kernel
theorem dL_law_1100 : decode cL_law 1100 = .ok (.aload_n 3, 1) := by decide +kernel
theorem dL_law_1101 : decode cL_law 1101 = .ok (.iconst 0, 1) := by decide +kernel
theorem dL_law_1102 : decode cL_law 1102 = .ok (.laload, 1) := by decide +kernel
theorem dL_law_1103 : decode cL_law 1103 = .ok (.iload 6, 2) := by decide +kernel
theorem dL_law_1105 : decode cL_law 1105 = .ok (.i2l, 1) := by decide +kernel
theorem dL_law_1106 : decode cL_law 1106 = .ok (.lcmp, 1) := by decide +kernel
theorem dL_law_1107 : decode cL_law 1107 = .ok (.ifCond .eq 5, 3) := by decide +kernel
theorem dL_law_1110 : decode cL_law 1110 = .ok (.iconst 0, 1) := by decide +kernel
theorem dL_law_1111 : decode cL_law 1111 = .ok (.ireturn, 1) := by decide +kernel
theorem dL_law_1112 : decode cL_law 1112 = .ok (.goto 472, 3) := by decide +kernel
theorem dL_law_1115 : decode cL_law 1115 = .ok (.aload_n 1, 1) := by decide +kernel
theorem dL_law_1116 : decode cL_law 1116 = .ok (.aload_n 0, 1) := by decide +kernel
theorem dL_law_1117 : decode cL_law 1117 = .ok (.iload 4, 2) := by decide +kernel
theorem dL_law_1119 : decode cL_law 1119 = .ok (.iconst 1, 1) := by decide +kernel
theorem dL_law_1120 : decode cL_law 1120 = .ok (.iadd, 1) := by decide +kernel
theorem dL_law_1121 : decode cL_law 1121 = .ok (.iaload, 1) := by decide +kernel
theorem dL_law_1122 : decode cL_law 1122 = .ok (.aload_n 0, 1) := by decide +kernel
theorem dL_law_1123 : decode cL_law 1123 = .ok (.iload 4, 2) := by decide +kernel
theorem dL_law_1125 : decode cL_law 1125 = .ok (.iconst 2, 1) := by decide +kernel
theorem dL_law_1126 : decode cL_law 1126 = .ok (.iadd, 1) := by decide +kernel
theorem dL_law_1127 : decode cL_law 1127 = .ok (.iaload, 1) := by decide +kernel
theorem dL_law_1128 : decode cL_law 1128 = .ok (.aload_n 3, 1) := by decide +kernel
theorem dL_law_1129 : decode cL_law 1129 = .ok (.invokestatic 159, 3) := by decide +kernel
theorem dL_law_1132 : decode cL_law 1132 = .ok (.istore 5, 2) := by decide +kernel
theorem dL_law_1134 : decode cL_law 1134 = .ok (.aload_n 2, 1) := by decide +kernel
theorem dL_law_1135 : decode cL_law 1135 = .ok (.aload_n 0, 1) := by decide +kernel
theorem dL_law_1136 : decode cL_law 1136 = .ok (.iload 4, 2) := by decide +kernel
theorem dL_law_1138 : decode cL_law 1138 = .ok (.iconst 1, 1) := by decide +kernel
theorem dL_law_1139 : decode cL_law 1139 = .ok (.iadd, 1) := by decide +kernel
theorem dL_law_1140 : decode cL_law 1140 = .ok (.iaload, 1) := by decide +kernel
theorem dL_law_1141 : decode cL_law 1141 = .ok (.aload_n 0, 1) := by decide +kernel
theorem dL_law_1142 : decode cL_law 1142 = .ok (.iload 4, 2) := by decide +kernel
theorem dL_law_1144 : decode cL_law 1144 = .ok (.iconst 2, 1) := by decide +kernel
theorem dL_law_1145 : decode cL_law 1145 = .ok (.iadd, 1) := by decide +kernel
theorem dL_law_1146 : decode cL_law 1146 = .ok (.iaload, 1) := by decide +kernel
theorem dL_law_1147 : decode cL_law 1147 = .ok (.invokevirtual 161, 3) := by decide +kernel
theorem dL_law_1150 : decode cL_law 1150 = .ok (.istore 6, 2) := by decide +kernel
theorem dL_law_1152 : decode cL_law 1152 = .ok (.aload_n 2, 1) := by decide +kernel
theorem dL_law_1153 : decode cL_law 1153 = .ok (.invokevirtual 98, 3) := by decide +kernel
theorem dL_law_1156 : decode cL_law 1156 = .ok (.iload 5, 2) := by decide +kernel
theorem dL_law_1158 : decode cL_law 1158 = .ok (.if_icmp .eq 5, 3) := by decide +kernel
theorem dL_law_1161 : decode cL_law 1161 = .ok (.iconst 0, 1) := by decide +kernel
theorem dL_law_1162 : decode cL_law 1162 = .ok (.ireturn, 1) := by decide +kernel
theorem dL_law_1163 : decode cL_law 1163 = .ok (.iload 5, 2) := by decide +kernel
theorem dL_law_1165 : decode cL_law 1165 = .ok (.ifCond .ne 15, 3) := by decide +kernel
theorem dL_law_1168 : decode cL_law 1168 = .ok (.aload_n 3, 1) := by decide +kernel
theorem dL_law_1169 : decode cL_law 1169 = .ok (.iconst 0, 1) := by decide +kernel
theorem dL_law_1170 : decode cL_law 1170 = .ok (.laload, 1) := by decide +kernel
theorem dL_law_1171 : decode cL_law 1171 = .ok (.iload 6, 2) := by decide +kernel
theorem dL_law_1173 : decode cL_law 1173 = .ok (.i2l, 1) := by decide +kernel
theorem dL_law_1174 : decode cL_law 1174 = .ok (.lcmp, 1) := by decide +kernel
theorem dL_law_1175 : decode cL_law 1175 = .ok (.ifCond .eq 5, 3) := by decide +kernel
theorem dL_law_1178 : decode cL_law 1178 = .ok (.iconst 0, 1) := by decide +kernel
theorem dL_law_1179 : decode cL_law 1179 = .ok (.ireturn, 1) := by decide +kernel
theorem dL_law_1180 : decode cL_law 1180 = .ok (.goto 404, 3) := by decide +kernel
theorem dL_law_1183 : decode cL_law 1183 = .ok (.aload_n 1, 1) := by decide +kernel
theorem dL_law_1184 : decode cL_law 1184 = .ok (.aload_n 0, 1) := by decide +kernel
theorem dL_law_1185 : decode cL_law 1185 = .ok (.iload 4, 2) := by decide +kernel
theorem dL_law_1187 : decode cL_law 1187 = .ok (.iconst 1, 1) := by decide +kernel
theorem dL_law_1188 : decode cL_law 1188 = .ok (.iadd, 1) := by decide +kernel
theorem dL_law_1189 : decode cL_law 1189 = .ok (.iaload, 1) := by decide +kernel
theorem dL_law_1190 : decode cL_law 1190 = .ok (.aload_n 3, 1) := by decide +kernel
theorem dL_law_1191 : decode cL_law 1191 = .ok (.invokestatic 162, 3) := by decide +kernel
theorem dL_law_1194 : decode cL_law 1194 = .ok (.istore 5, 2) := by decide +kernel
theorem dL_law_1196 : decode cL_law 1196 = .ok (.aload_n 2, 1) := by decide +kernel
theorem dL_law_1197 : decode cL_law 1197 = .ok (.aload_n 0, 1) := by decide +kernel
theorem dL_law_1198 : decode cL_law 1198 = .ok (.iload 4, 2) := by decide +kernel
theorem dL_law_1200 : decode cL_law 1200 = .ok (.iconst 1, 1) := by decide +kernel
theorem dL_law_1201 : decode cL_law 1201 = .ok (.iadd, 1) := by decide +kernel
theorem dL_law_1202 : decode cL_law 1202 = .ok (.iaload, 1) := by decide +kernel
theorem dL_law_1203 : decode cL_law 1203 = .ok (.invokevirtual 164, 3) := by decide +kernel
theorem dL_law_1206 : decode cL_law 1206 = .ok (.istore 6, 2) := by decide +kernel
theorem dL_law_1208 : decode cL_law 1208 = .ok (.aload_n 2, 1) := by decide +kernel
theorem dL_law_1209 : decode cL_law 1209 = .ok (.invokevirtual 98, 3) := by decide +kernel
theorem dL_law_1212 : decode cL_law 1212 = .ok (.iload 5, 2) := by decide +kernel
theorem dL_law_1214 : decode cL_law 1214 = .ok (.if_icmp .eq 5, 3) := by decide +kernel
theorem dL_law_1217 : decode cL_law 1217 = .ok (.iconst 0, 1) := by decide +kernel
theorem dL_law_1218 : decode cL_law 1218 = .ok (.ireturn, 1) := by decide +kernel
theorem dL_law_1219 : decode cL_law 1219 = .ok (.iload 5, 2) := by decide +kernel
theorem dL_law_1221 : decode cL_law 1221 = .ok (.ifCond .ne 15, 3) := by decide +kernel
theorem dL_law_1224 : decode cL_law 1224 = .ok (.aload_n 3, 1) := by decide +kernel
theorem dL_law_1225 : decode cL_law 1225 = .ok (.iconst 0, 1) := by decide +kernel
theorem dL_law_1226 : decode cL_law 1226 = .ok (.laload, 1) := by decide +kernel
theorem dL_law_1227 : decode cL_law 1227 = .ok (.iload 6, 2) := by decide +kernel
theorem dL_law_1229 : decode cL_law 1229 = .ok (.i2l, 1) := by decide +kernel
theorem dL_law_1230 : decode cL_law 1230 = .ok (.lcmp, 1) := by decide +kernel
theorem dL_law_1231 : decode cL_law 1231 = .ok (.ifCond .eq 5, 3) := by decide +kernel
theorem dL_law_1234 : decode cL_law 1234 = .ok (.iconst 0, 1) := by decide +kernel
theorem dL_law_1235 : decode cL_law 1235 = .ok (.ireturn, 1) := by decide +kernel
theorem dL_law_1236 : decode cL_law 1236 = .ok (.goto 348, 3) := by decide +kernel
theorem dL_law_1239 : decode cL_law 1239 = .ok (.aload_n 1, 1) := by decide +kernel
theorem dL_law_1240 : decode cL_law 1240 = .ok (.aload_n 0, 1) := by decide +kernel
theorem dL_law_1241 : decode cL_law 1241 = .ok (.iload 4, 2) := by decide +kernel
theorem dL_law_1243 : decode cL_law 1243 = .ok (.iconst 1, 1) := by decide +kernel
theorem dL_law_1244 : decode cL_law 1244 = .ok (.iadd, 1) := by decide +kernel
theorem dL_law_1245 : decode cL_law 1245 = .ok (.iaload, 1) := by decide +kernel
theorem dL_law_1246 : decode cL_law 1246 = .ok (.aload_n 3, 1) := by decide +kernel
theorem dL_law_1247 : decode cL_law 1247 = .ok (.invokestatic 165, 3) := by decide +kernel
theorem dL_law_1250 : decode cL_law 1250 = .ok (.istore 5, 2) := by decide +kernel
theorem dL_law_1252 : decode cL_law 1252 = .ok (.aload_n 2, 1) := by decide +kernel
theorem dL_law_1253 : decode cL_law 1253 = .ok (.aload_n 0, 1) := by decide +kernel
theorem dL_law_1254 : decode cL_law 1254 = .ok (.iload 4, 2) := by decide +kernel
theorem dL_law_1256 : decode cL_law 1256 = .ok (.iconst 1, 1) := by decide +kernel
theorem dL_law_1257 : decode cL_law 1257 = .ok (.iadd, 1) := by decide +kernel
theorem dL_law_1258 : decode cL_law 1258 = .ok (.iaload, 1) := by decide +kernel
theorem dL_law_1259 : decode cL_law 1259 = .ok (.invokevirtual 167, 3) := by decide +kernel
theorem dL_law_1262 : decode cL_law 1262 = .ok (.lstore 6, 2) := by decide +kernel
theorem dL_law_1264 : decode cL_law 1264 = .ok (.aload_n 2, 1) := by decide +kernel
theorem dL_law_1265 : decode cL_law 1265 = .ok (.invokevirtual 98, 3) := by decide +kernel
theorem dL_law_1268 : decode cL_law 1268 = .ok (.iload 5, 2) := by decide +kernel
theorem dL_law_1270 : decode cL_law 1270 = .ok (.if_icmp .eq 5, 3) := by decide +kernel
theorem dL_law_1273 : decode cL_law 1273 = .ok (.iconst 0, 1) := by decide +kernel
theorem dL_law_1274 : decode cL_law 1274 = .ok (.ireturn, 1) := by decide +kernel
theorem dL_law_1275 : decode cL_law 1275 = .ok (.iload 5, 2) := by decide +kernel
theorem dL_law_1277 : decode cL_law 1277 = .ok (.ifCond .ne 14, 3) := by decide +kernel
theorem dL_law_1280 : decode cL_law 1280 = .ok (.aload_n 3, 1) := by decide +kernel
theorem dL_law_1281 : decode cL_law 1281 = .ok (.iconst 0, 1) := by decide +kernel
theorem dL_law_1282 : decode cL_law 1282 = .ok (.laload, 1) := by decide +kernel
theorem dL_law_1283 : decode cL_law 1283 = .ok (.lload 6, 2) := by decide +kernel
theorem dL_law_1285 : decode cL_law 1285 = .ok (.lcmp, 1) := by decide +kernel
theorem dL_law_1286 : decode cL_law 1286 = .ok (.ifCond .eq 5, 3) := by decide +kernel
theorem dL_law_1289 : decode cL_law 1289 = .ok (.iconst 0, 1) := by decide +kernel
theorem dL_law_1290 : decode cL_law 1290 = .ok (.ireturn, 1) := by decide +kernel
theorem dL_law_1291 : decode cL_law 1291 = .ok (.goto 293, 3) := by decide +kernel
theorem dL_law_1294 : decode cL_law 1294 = .ok (.aload_n 1, 1) := by decide +kernel
theorem dL_law_1295 : decode cL_law 1295 = .ok (.aload_n 0, 1) := by decide +kernel
theorem dL_law_1296 : decode cL_law 1296 = .ok (.iload 4, 2) := by decide +kernel
theorem dL_law_1298 : decode cL_law 1298 = .ok (.iconst 1, 1) := by decide +kernel
theorem dL_law_1299 : decode cL_law 1299 = .ok (.iadd, 1) := by decide +kernel
theorem dL_law_1300 : decode cL_law 1300 = .ok (.iaload, 1) := by decide +kernel
theorem dL_law_1301 : decode cL_law 1301 = .ok (.aload_n 3, 1) := by decide +kernel
theorem dL_law_1302 : decode cL_law 1302 = .ok (.invokestatic 168, 3) := by decide +kernel
theorem dL_law_1305 : decode cL_law 1305 = .ok (.istore 5, 2) := by decide +kernel
theorem dL_law_1307 : decode cL_law 1307 = .ok (.aload_n 2, 1) := by decide +kernel
theorem dL_law_1308 : decode cL_law 1308 = .ok (.aload_n 0, 1) := by decide +kernel
theorem dL_law_1309 : decode cL_law 1309 = .ok (.iload 4, 2) := by decide +kernel
theorem dL_law_1311 : decode cL_law 1311 = .ok (.iconst 1, 1) := by decide +kernel
theorem dL_law_1312 : decode cL_law 1312 = .ok (.iadd, 1) := by decide +kernel
theorem dL_law_1313 : decode cL_law 1313 = .ok (.iaload, 1) := by decide +kernel
theorem dL_law_1314 : decode cL_law 1314 = .ok (.invokevirtual 170, 3) := by decide +kernel
theorem dL_law_1317 : decode cL_law 1317 = .ok (.istore 6, 2) := by decide +kernel
theorem dL_law_1319 : decode cL_law 1319 = .ok (.aload_n 2, 1) := by decide +kernel
theorem dL_law_1320 : decode cL_law 1320 = .ok (.invokevirtual 98, 3) := by decide +kernel
theorem dL_law_1323 : decode cL_law 1323 = .ok (.iload 5, 2) := by decide +kernel
theorem dL_law_1325 : decode cL_law 1325 = .ok (.if_icmp .eq 5, 3) := by decide +kernel
theorem dL_law_1328 : decode cL_law 1328 = .ok (.iconst 0, 1) := by decide +kernel
theorem dL_law_1329 : decode cL_law 1329 = .ok (.ireturn, 1) := by decide +kernel
theorem dL_law_1330 : decode cL_law 1330 = .ok (.iload 5, 2) := by decide +kernel
theorem dL_law_1332 : decode cL_law 1332 = .ok (.ifCond .ne 15, 3) := by decide +kernel
theorem dL_law_1335 : decode cL_law 1335 = .ok (.aload_n 3, 1) := by decide +kernel
theorem dL_law_1336 : decode cL_law 1336 = .ok (.iconst 0, 1) := by decide +kernel
theorem dL_law_1337 : decode cL_law 1337 = .ok (.laload, 1) := by decide +kernel
theorem dL_law_1338 : decode cL_law 1338 = .ok (.iload 6, 2) := by decide +kernel
theorem dL_law_1340 : decode cL_law 1340 = .ok (.i2l, 1) := by decide +kernel
theorem dL_law_1341 : decode cL_law 1341 = .ok (.lcmp, 1) := by decide +kernel
theorem dL_law_1342 : decode cL_law 1342 = .ok (.ifCond .eq 5, 3) := by decide +kernel
theorem dL_law_1345 : decode cL_law 1345 = .ok (.iconst 0, 1) := by decide +kernel
theorem dL_law_1346 : decode cL_law 1346 = .ok (.ireturn, 1) := by decide +kernel
theorem dL_law_1347 : decode cL_law 1347 = .ok (.goto 237, 3) := by decide +kernel
theorem dL_law_1350 : decode cL_law 1350 = .ok (.aload_n 1, 1) := by decide +kernel
theorem dL_law_1351 : decode cL_law 1351 = .ok (.aload_n 0, 1) := by decide +kernel
theorem dL_law_1352 : decode cL_law 1352 = .ok (.iload 4, 2) := by decide +kernel
theorem dL_law_1354 : decode cL_law 1354 = .ok (.iconst 1, 1) := by decide +kernel
theorem dL_law_1355 : decode cL_law 1355 = .ok (.iadd, 1) := by decide +kernel
theorem dL_law_1356 : decode cL_law 1356 = .ok (.iaload, 1) := by decide +kernel
theorem dL_law_1357 : decode cL_law 1357 = .ok (.aload_n 3, 1) := by decide +kernel
theorem dL_law_1358 : decode cL_law 1358 = .ok (.invokestatic 171, 3) := by decide +kernel
theorem dL_law_1361 : decode cL_law 1361 = .ok (.istore 5, 2) := by decide +kernel
theorem dL_law_1363 : decode cL_law 1363 = .ok (.aload_n 2, 1) := by decide +kernel
theorem dL_law_1364 : decode cL_law 1364 = .ok (.aload_n 0, 1) := by decide +kernel
theorem dL_law_1365 : decode cL_law 1365 = .ok (.iload 4, 2) := by decide +kernel
theorem dL_law_1367 : decode cL_law 1367 = .ok (.iconst 1, 1) := by decide +kernel
theorem dL_law_1368 : decode cL_law 1368 = .ok (.iadd, 1) := by decide +kernel
theorem dL_law_1369 : decode cL_law 1369 = .ok (.iaload, 1) := by decide +kernel
theorem dL_law_1370 : decode cL_law 1370 = .ok (.invokevirtual 173, 3) := by decide +kernel
theorem dL_law_1373 : decode cL_law 1373 = .ok (.istore 6, 2) := by decide +kernel
theorem dL_law_1375 : decode cL_law 1375 = .ok (.aload_n 2, 1) := by decide +kernel
theorem dL_law_1376 : decode cL_law 1376 = .ok (.invokevirtual 98, 3) := by decide +kernel
theorem dL_law_1379 : decode cL_law 1379 = .ok (.iload 5, 2) := by decide +kernel
theorem dL_law_1381 : decode cL_law 1381 = .ok (.if_icmp .eq 5, 3) := by decide +kernel
theorem dL_law_1384 : decode cL_law 1384 = .ok (.iconst 0, 1) := by decide +kernel
theorem dL_law_1385 : decode cL_law 1385 = .ok (.ireturn, 1) := by decide +kernel
theorem dL_law_1386 : decode cL_law 1386 = .ok (.iload 5, 2) := by decide +kernel
theorem dL_law_1388 : decode cL_law 1388 = .ok (.ifCond .ne 15, 3) := by decide +kernel
theorem dL_law_1391 : decode cL_law 1391 = .ok (.aload_n 3, 1) := by decide +kernel
theorem dL_law_1392 : decode cL_law 1392 = .ok (.iconst 0, 1) := by decide +kernel
theorem dL_law_1393 : decode cL_law 1393 = .ok (.laload, 1) := by decide +kernel
theorem dL_law_1394 : decode cL_law 1394 = .ok (.iload 6, 2) := by decide +kernel
theorem dL_law_1396 : decode cL_law 1396 = .ok (.i2l, 1) := by decide +kernel
theorem dL_law_1397 : decode cL_law 1397 = .ok (.lcmp, 1) := by decide +kernel
theorem dL_law_1398 : decode cL_law 1398 = .ok (.ifCond .eq 5, 3) := by decide +kernel
theorem dL_law_1401 : decode cL_law 1401 = .ok (.iconst 0, 1) := by decide +kernel
theorem dL_law_1402 : decode cL_law 1402 = .ok (.ireturn, 1) := by decide +kernel
theorem dL_law_1403 : decode cL_law 1403 = .ok (.goto 181, 3) := by decide +kernel
theorem dL_law_1406 : decode cL_law 1406 = .ok (.aload_n 1, 1) := by decide +kernel
theorem dL_law_1407 : decode cL_law 1407 = .ok (.aload_n 0, 1) := by decide +kernel
theorem dL_law_1408 : decode cL_law 1408 = .ok (.iload 4, 2) := by decide +kernel
theorem dL_law_1410 : decode cL_law 1410 = .ok (.iconst 1, 1) := by decide +kernel
theorem dL_law_1411 : decode cL_law 1411 = .ok (.iadd, 1) := by decide +kernel
theorem dL_law_1412 : decode cL_law 1412 = .ok (.iaload, 1) := by decide +kernel
theorem dL_law_1413 : decode cL_law 1413 = .ok (.aload_n 0, 1) := by decide +kernel
theorem dL_law_1414 : decode cL_law 1414 = .ok (.iload 4, 2) := by decide +kernel
theorem dL_law_1416 : decode cL_law 1416 = .ok (.iconst 2, 1) := by decide +kernel
theorem dL_law_1417 : decode cL_law 1417 = .ok (.iadd, 1) := by decide +kernel
theorem dL_law_1418 : decode cL_law 1418 = .ok (.iaload, 1) := by decide +kernel
theorem dL_law_1419 : decode cL_law 1419 = .ok (.aload_n 3, 1) := by decide +kernel
theorem dL_law_1420 : decode cL_law 1420 = .ok (.invokestatic 174, 3) := by decide +kernel
theorem dL_law_1423 : decode cL_law 1423 = .ok (.istore 5, 2) := by decide +kernel
theorem dL_law_1425 : decode cL_law 1425 = .ok (.aload_n 2, 1) := by decide +kernel
theorem dL_law_1426 : decode cL_law 1426 = .ok (.aload_n 0, 1) := by decide +kernel
theorem dL_law_1427 : decode cL_law 1427 = .ok (.iload 4, 2) := by decide +kernel
theorem dL_law_1429 : decode cL_law 1429 = .ok (.iconst 1, 1) := by decide +kernel
theorem dL_law_1430 : decode cL_law 1430 = .ok (.iadd, 1) := by decide +kernel
theorem dL_law_1431 : decode cL_law 1431 = .ok (.iaload, 1) := by decide +kernel
theorem dL_law_1432 : decode cL_law 1432 = .ok (.aload_n 0, 1) := by decide +kernel
theorem dL_law_1433 : decode cL_law 1433 = .ok (.iload 4, 2) := by decide +kernel
theorem dL_law_1435 : decode cL_law 1435 = .ok (.iconst 2, 1) := by decide +kernel
theorem dL_law_1436 : decode cL_law 1436 = .ok (.iadd, 1) := by decide +kernel
theorem dL_law_1437 : decode cL_law 1437 = .ok (.iaload, 1) := by decide +kernel
theorem dL_law_1438 : decode cL_law 1438 = .ok (.invokevirtual 176, 3) := by decide +kernel
theorem dL_law_1441 : decode cL_law 1441 = .ok (.lstore 6, 2) := by decide +kernel
theorem dL_law_1443 : decode cL_law 1443 = .ok (.aload_n 2, 1) := by decide +kernel
theorem dL_law_1444 : decode cL_law 1444 = .ok (.invokevirtual 98, 3) := by decide +kernel
theorem dL_law_1447 : decode cL_law 1447 = .ok (.iload 5, 2) := by decide +kernel
theorem dL_law_1449 : decode cL_law 1449 = .ok (.if_icmp .eq 5, 3) := by decide +kernel
theorem dL_law_1452 : decode cL_law 1452 = .ok (.iconst 0, 1) := by decide +kernel
theorem dL_law_1453 : decode cL_law 1453 = .ok (.ireturn, 1) := by decide +kernel
theorem dL_law_1454 : decode cL_law 1454 = .ok (.iload 5, 2) := by decide +kernel
theorem dL_law_1456 : decode cL_law 1456 = .ok (.ifCond .ne 14, 3) := by decide +kernel
theorem dL_law_1459 : decode cL_law 1459 = .ok (.aload_n 3, 1) := by decide +kernel
theorem dL_law_1460 : decode cL_law 1460 = .ok (.iconst 0, 1) := by decide +kernel
theorem dL_law_1461 : decode cL_law 1461 = .ok (.laload, 1) := by decide +kernel
theorem dL_law_1462 : decode cL_law 1462 = .ok (.lload 6, 2) := by decide +kernel
theorem dL_law_1464 : decode cL_law 1464 = .ok (.lcmp, 1) := by decide +kernel
theorem dL_law_1465 : decode cL_law 1465 = .ok (.ifCond .eq 5, 3) := by decide +kernel
theorem dL_law_1468 : decode cL_law 1468 = .ok (.iconst 0, 1) := by decide +kernel
theorem dL_law_1469 : decode cL_law 1469 = .ok (.ireturn, 1) := by decide +kernel
theorem dL_law_1470 : decode cL_law 1470 = .ok (.goto 114, 3) := by decide +kernel
theorem dL_law_1473 : decode cL_law 1473 = .ok (.aload_n 1, 1) := by decide +kernel
theorem dL_law_1474 : decode cL_law 1474 = .ok (.aload_n 0, 1) := by decide +kernel
theorem dL_law_1475 : decode cL_law 1475 = .ok (.iload 4, 2) := by decide +kernel
theorem dL_law_1477 : decode cL_law 1477 = .ok (.iconst 1, 1) := by decide +kernel
theorem dL_law_1478 : decode cL_law 1478 = .ok (.iadd, 1) := by decide +kernel
theorem dL_law_1479 : decode cL_law 1479 = .ok (.iaload, 1) := by decide +kernel
theorem dL_law_1480 : decode cL_law 1480 = .ok (.aload_n 3, 1) := by decide +kernel
theorem dL_law_1481 : decode cL_law 1481 = .ok (.invokestatic 177, 3) := by decide +kernel
theorem dL_law_1484 : decode cL_law 1484 = .ok (.istore 5, 2) := by decide +kernel
theorem dL_law_1486 : decode cL_law 1486 = .ok (.aload_n 2, 1) := by decide +kernel
theorem dL_law_1487 : decode cL_law 1487 = .ok (.aload_n 0, 1) := by decide +kernel
theorem dL_law_1488 : decode cL_law 1488 = .ok (.iload 4, 2) := by decide +kernel
theorem dL_law_1490 : decode cL_law 1490 = .ok (.iconst 1, 1) := by decide +kernel
theorem dL_law_1491 : decode cL_law 1491 = .ok (.iadd, 1) := by decide +kernel
theorem dL_law_1492 : decode cL_law 1492 = .ok (.iaload, 1) := by decide +kernel
theorem dL_law_1493 : decode cL_law 1493 = .ok (.invokevirtual 179, 3) := by decide +kernel
theorem dL_law_1496 : decode cL_law 1496 = .ok (.istore 6, 2) := by decide +kernel
theorem dL_law_1498 : decode cL_law 1498 = .ok (.aload_n 2, 1) := by decide +kernel
theorem dL_law_1499 : decode cL_law 1499 = .ok (.invokevirtual 98, 3) := by decide +kernel
theorem dL_law_1502 : decode cL_law 1502 = .ok (.iload 5, 2) := by decide +kernel
theorem dL_law_1504 : decode cL_law 1504 = .ok (.if_icmp .eq 5, 3) := by decide +kernel
theorem dL_law_1507 : decode cL_law 1507 = .ok (.iconst 0, 1) := by decide +kernel
theorem dL_law_1508 : decode cL_law 1508 = .ok (.ireturn, 1) := by decide +kernel
theorem dL_law_1509 : decode cL_law 1509 = .ok (.iload 5, 2) := by decide +kernel
theorem dL_law_1511 : decode cL_law 1511 = .ok (.ifCond .ne 15, 3) := by decide +kernel
theorem dL_law_1514 : decode cL_law 1514 = .ok (.aload_n 3, 1) := by decide +kernel
theorem dL_law_1515 : decode cL_law 1515 = .ok (.iconst 0, 1) := by decide +kernel
theorem dL_law_1516 : decode cL_law 1516 = .ok (.laload, 1) := by decide +kernel
theorem dL_law_1517 : decode cL_law 1517 = .ok (.iload 6, 2) := by decide +kernel
theorem dL_law_1519 : decode cL_law 1519 = .ok (.i2l, 1) := by decide +kernel
theorem dL_law_1520 : decode cL_law 1520 = .ok (.lcmp, 1) := by decide +kernel
theorem dL_law_1521 : decode cL_law 1521 = .ok (.ifCond .eq 5, 3) := by decide +kernel
theorem dL_law_1524 : decode cL_law 1524 = .ok (.iconst 0, 1) := by decide +kernel
theorem dL_law_1525 : decode cL_law 1525 = .ok (.ireturn, 1) := by decide +kernel
theorem dL_law_1526 : decode cL_law 1526 = .ok (.goto 58, 3) := by decide +kernel
theorem dL_law_1529 : decode cL_law 1529 = .ok (.aload_n 1, 1) := by decide +kernel
theorem dL_law_1530 : decode cL_law 1530 = .ok (.invokevirtual 180, 3) := by decide +kernel
theorem dL_law_1533 : decode cL_law 1533 = .ok (.dstore 5, 2) := by decide +kernel
theorem dL_law_1535 : decode cL_law 1535 = .ok (.aload_n 2, 1) := by decide +kernel
theorem dL_law_1536 : decode cL_law 1536 = .ok (.invokevirtual 184, 3) := by decide +kernel
theorem dL_law_1539 : decode cL_law 1539 = .ok (.dstore 7, 2) := by decide +kernel
theorem dL_law_1541 : decode cL_law 1541 = .ok (.dload 5, 2) := by decide +kernel
theorem dL_law_1543 : decode cL_law 1543 = .ok (.dload 7, 2) := by decide +kernel
theorem dL_law_1545 : decode cL_law 1545 = .ok (.dcmp .l, 1) := by decide +kernel
theorem dL_law_1546 : decode cL_law 1546 = .ok (.ifCond .eq 21, 3) := by decide +kernel
theorem dL_law_1549 : decode cL_law 1549 = .ok (.dload 5, 2) := by decide +kernel
theorem dL_law_1551 : decode cL_law 1551 = .ok (.dload 5, 2) := by decide +kernel
theorem dL_law_1553 : decode cL_law 1553 = .ok (.dcmp .l, 1) := by decide +kernel
theorem dL_law_1554 : decode cL_law 1554 = .ok (.ifCond .eq 11, 3) := by decide +kernel
theorem dL_law_1557 : decode cL_law 1557 = .ok (.dload 7, 2) := by decide +kernel
theorem dL_law_1559 : decode cL_law 1559 = .ok (.dload 7, 2) := by decide +kernel
theorem dL_law_1561 : decode cL_law 1561 = .ok (.dcmp .l, 1) := by decide +kernel
theorem dL_law_1562 : decode cL_law 1562 = .ok (.ifCond .ne 5, 3) := by decide +kernel
theorem dL_law_1565 : decode cL_law 1565 = .ok (.iconst 0, 1) := by decide +kernel
theorem dL_law_1566 : decode cL_law 1566 = .ok (.ireturn, 1) := by decide +kernel
theorem dL_law_1567 : decode cL_law 1567 = .ok (.goto 17, 3) := by decide +kernel
theorem dL_law_1570 : decode cL_law 1570 = .ok (.aload_n 1, 1) := by decide +kernel
theorem dL_law_1571 : decode cL_law 1571 = .ok (.invokevirtual 185, 3) := by decide +kernel
theorem dL_law_1574 : decode cL_law 1574 = .ok (.aload_n 2, 1) := by decide +kernel
theorem dL_law_1575 : decode cL_law 1575 = .ok (.invokevirtual 189, 3) := by decide +kernel
theorem dL_law_1578 : decode cL_law 1578 = .ok (.lcmp, 1) := by decide +kernel
theorem dL_law_1579 : decode cL_law 1579 = .ok (.ifCond .eq 5, 3) := by decide +kernel
theorem dL_law_1582 : decode cL_law 1582 = .ok (.iconst 0, 1) := by decide +kernel
theorem dL_law_1583 : decode cL_law 1583 = .ok (.ireturn, 1) := by decide +kernel
theorem dL_law_1584 : decode cL_law 1584 = .ok (.iinc 4 4, 3) := by decide +kernel
theorem dL_law_1587 : decode cL_law 1587 = .ok (.goto (-1564), 3) := by decide +kernel
theorem dL_law_1590 : decode cL_law 1590 = .ok (.iconst 1, 1) := by decide +kernel
theorem dL_law_1591 : decode cL_law 1591 = .ok (.ireturn, 1) := by decide +kernel
end
section
/-! ===== the universal list of words, the world, the judgement VV (written by wip/whole/gen/base.py) ===== -/
/-- the words that any method may be handed: the good ones of the law's own -/
def TT : List Cond := lw_tbl.filter goodWord
theorem tt_m {w : Cond} (i : Nat) (h : lw_tbl[i]? = some w) (g : goodWord w = true) : w ∈ TT := List.mem_filter.mpr ⟨List.mem_of_getElem? h, g⟩
theorem tt_g {w : Cond} (h : w ∈ TT) : (w.onTables && w.keeps) = true ∨ ∃ ty, w = .arrayClass ty := good_of_word (List.mem_filter.mp h).2
theorem tt_in {ws : List Cond} (h : ∀ w ∈ ws, w ∈ TT) : GoodIn TT ws := fun w hw => ⟨h w hw, tt_g (h w hw)⟩
theorem tt_c {w : Cond} {ws : List Cond} (h : w ∈ TT) (t : ∀ v ∈ ws, v ∈ TT) : ∀ v ∈ w :: ws, v ∈ TT := fun v hv => (List.mem_cons.mp hv).elim (fun e => by rw [e]; exact h) (t v)
theorem tt_n : ∀ v ∈ ([] : List Cond), v ∈ TT := fun _ h => nomatch h
theorem tt_S {own : String} {idx : Nat} {y : MethodName} {b : ByteArray} {n : Nat} {rt : Option FieldType} (h1 : Cond.methodLink own idx y ∈ TT) (h2 : Cond.static y ∈ TT) (h3 : Cond.initialized own ∈ TT) (h4 : Cond.code y b n rt ∈ TT) : GoodIn TT (wsS own idx y (.code y b n rt :: TT)) := tt_in (tt_c h1 (tt_c h2 (tt_c h3 (tt_c h4 fun _ h => h))))
theorem tt_S2 {own : String} {idx : Nat} {y : MethodName} {b : ByteArray} {n : Nat} {rt : Option FieldType} (h1 : Cond.methodLink own idx y ∈ TT) (h2 : Cond.static y ∈ TT) (h3 : Cond.initialized y.cls ∈ TT) (h4 : Cond.code y b n rt ∈ TT) : GoodIn TT (va_wsS own idx y (.code y b n rt :: TT)) := tt_in (tt_c h1 (tt_c h2 (tt_c h3 (tt_c h4 fun _ h => h))))
theorem tt_V {own C : String} {idx : Nat} {y : MethodName} {b : ByteArray} {n : Nat} {rt : Option FieldType} (h1 : Cond.methodLink own idx y ∈ TT) (h2 : Cond.instanceMethod y ∈ TT) (h5 : Cond.selects C y y ∈ TT) (h3 : Cond.initialized C ∈ TT) (h4 : Cond.code y b n rt ∈ TT) : GoodIn TT (wsV own idx C y (.code y b n rt :: TT)) := tt_in (tt_c h1 (tt_c h2 (tt_c h5 (tt_c h3 (tt_c h4 fun _ h => h)))))
/-- memory: a row of ints and a row of longs for each thing, by its number -/
abbrev Mm : Type := (Nat → Nat → Int32) × (Nat → Nat → Int64)
def gO (k : Nat) : Nat := 13 * k
def gN (k : Nat) : Nat := 13 * k + 1
def gW (k : Nat) : Nat := 13 * k + 2
def gL (k : Nat) : Nat := 13 * k + 3
def gR (k v : Nat) : Nat := 13 * k + 4 + v
def gH (k : Nat) : Nat := 13 * k + 12
/-- what lies at the thing i: things 0 to 116 are nine graphs (now, two snapshots, six saved ones), of 13 things each -/
def wF (cs : Nat → ClassId) (ad : Nat → Nat) (i : Nat) (x : Nat → Int32) (y : Nat → Int64) : va_E :=
  if i < 117 then
    if i % 13 = 0 then .inr (4, [.int (x 0), .int (x 1), .ref (ad (i + 1)), .ref (ad (i + 2)), .ref (ad (i + 3)), .ref (ad (i + 12))])
    else if i % 13 = 3 then .inl (cs 4, 8, .inr (.inr (.inr (.inr (fun j => if j < 8 then some (ad (i + 1 + j)) else none)))))
    else if i % 13 = 1 then .inl (cs 0, 8, .inl x)
    else if i % 13 = 2 then .inl (cs 0, 8, .inl x)
    else .inl (cs 0, 4, .inl x)
  else match i - 117 with
  | 0 => .inr (7, [.ref (ad 0), .ref (ad 118), .ref (ad 119), .ref (ad 120), .ref (ad 123), .ref (ad 125), .ref (ad 127), .ref (ad 129), .ref (ad 130), .int (x 9)])
  | 1 => .inl (cs 5, 2, .inr (.inr (.inr (.inr (fun j => if j < 2 then some (ad (13 * (1 + j))) else none)))))
  | 2 => .inl (cs 2, 2, .inl x)
  | 3 => .inr (6, [.ref (ad 121), .ref (ad 122), .int (x 2), .int (x 3)])
  | 4 => .inl (cs 5, 6, .inr (.inr (.inr (.inr (fun j => if j < 6 then some (ad (13 * (3 + j))) else none)))))
  | 5 => .inl (cs 0, 6, .inl x)
  | 6 => .inr (3, [.ref (ad 124), .int (x 1)])
  | 7 => .inl (cs 1, 60, .inl x)
  | 8 => .inr (2, [.ref (ad 126), .int (x 1)])
  | 9 => .inl (cs 0, 8, .inl x)
  | 10 => .inr (1, [.ref (ad 128), .int (x 1)])
  | 11 => .inl (cs 0, 256, .inl x)
  | 12 => .inr (0, [.int (x 0), .long (y 1), .long (y 2), .int (x 3)])
  | 13 => .inr (5, [.ref (ad 131), .ref (ad 132), .ref (ad 133), .ref (ad 134)])
  | 14 => .inl (cs 0, 4, .inl x)
  | 15 => .inr (0, [.int (x 0), .long (y 1), .long (y 2), .int (x 3)])
  | 16 => .inl (cs 0, 4, .inl x)
  | 17 => .inr (0, [.int (x 0), .long (y 1), .long (y 2), .int (x 3)])
  | 18 => .inr (8, [.ref (ad 136), .int (x 1), .ref (ad 137), .ref (ad 138), .ref (ad 139), .int (x 5), .ref (ad 140), .int (x 7), .long (y 8), .long (y 9), .int (x 10), .ref (ad 141), .ref (ad 142), .long (y 13), .long (y 14), .ref (ad 143), .ref (ad 144), .long (y 17)])
  | 19 => .inl (cs 0, 55, .inl x)
  | 20 => .inl (cs 0, 330, .inl x)
  | 21 => .inl (cs 0, 110, .inl x)
  | 22 => .inl (cs 0, 2, .inl x)
  | 23 => .inl (cs 0, 60, .inl x)
  | 24 => .inl (cs 0, 8, .inl x)
  | 25 => .inl (cs 0, 55, .inl x)
  | 26 => .inl (cs 0, 4, .inl x)
  | 27 => .inl (cs 0, 4, .inl x)
  | _ => .inl (cs 3, 1, .inr (.inl y))
theorem wF_O (cs : Nat → ClassId) (ad : Nat → Nat) {k : Nat} (h : k < 9) (x : Nat → Int32) (y : Nat → Int64) : wF cs ad (gO k) x y = .inr (4, [.int (x 0), .int (x 1), .ref (ad (gN k)), .ref (ad (gW k)), .ref (ad (gL k)), .ref (ad (gH k))]) := by
  unfold wF gO gN gW gL gH
  rw [if_pos (by omega), if_pos (by omega)]
theorem wF_L (cs : Nat → ClassId) (ad : Nat → Nat) {k : Nat} (h : k < 9) (x : Nat → Int32) (y : Nat → Int64) : wF cs ad (gL k) x y = .inl (cs 4, 8, .inr (.inr (.inr (.inr (fun j => if j < 8 then some (ad (gR k j)) else none))))) := by
  unfold wF gL gR
  rw [if_pos (by omega), if_neg (by omega), if_pos (by omega)]
theorem wF_N (cs : Nat → ClassId) (ad : Nat → Nat) {k : Nat} (h : k < 9) (x : Nat → Int32) (y : Nat → Int64) : wF cs ad (gN k) x y = .inl (cs 0, 8, .inl x) := by
  unfold wF gN
  rw [if_pos (by omega), if_neg (by omega), if_neg (by omega), if_pos (by omega)]
theorem wF_W (cs : Nat → ClassId) (ad : Nat → Nat) {k : Nat} (h : k < 9) (x : Nat → Int32) (y : Nat → Int64) : wF cs ad (gW k) x y = .inl (cs 0, 8, .inl x) := by
  unfold wF gW
  rw [if_pos (by omega), if_neg (by omega), if_neg (by omega), if_neg (by omega), if_pos (by omega)]
theorem wF_R (cs : Nat → ClassId) (ad : Nat → Nat) {k v : Nat} (h : k < 9) (hv : v < 8) (x : Nat → Int32) (y : Nat → Int64) : wF cs ad (gR k v) x y = .inl (cs 0, 4, .inl x) := by
  unfold wF gR
  rw [if_pos (by omega), if_neg (by omega), if_neg (by omega), if_neg (by omega), if_neg (by omega)]
theorem wF_H (cs : Nat → ClassId) (ad : Nat → Nat) {k : Nat} (h : k < 9) (x : Nat → Int32) (y : Nat → Int64) : wF cs ad (gH k) x y = .inl (cs 0, 4, .inl x) := by
  unfold wF gH
  rw [if_pos (by omega), if_neg (by omega), if_neg (by omega), if_neg (by omega), if_neg (by omega)]
def wW (cs : Nat → ClassId) (ad : Nat → Nat) (M : Mm) : va_W := (List.range 146).map (fun i => (ad i, wF cs ad i (M.1 i) (M.2 i)))
theorem wW_get (cs : Nat → ClassId) (ad : Nat → Nat) (M : Mm) {i : Nat} (h : i < 146) : (wW cs ad M)[i]? = some (ad i, wF cs ad i (M.1 i) (M.2 i)) := by
  unfold wW
  rw [List.getElem?_map, List.getElem?_range h]
  rfl
theorem wW_inv {cs : Nat → ClassId} {ad : Nat → Nat} {M : Mm} {k : Nat} {q : Nat × va_E} (h : (wW cs ad M)[k]? = some q) : k < 146 ∧ q = (ad k, wF cs ad k (M.1 k) (M.2 k)) := by
  have hk : k < 146 := by
    have := (List.getElem?_eq_some_iff.mp h).1
    simpa [wW] using this
  rw [wW_get cs ad M hk] at h
  exact ⟨hk, (Option.some.inj h).symm⟩
theorem wW_set (cs : Nat → ClassId) (ad : Nat → Nat) {M M' : Mm} {i : Nat} {z : va_E} (hi : i < 146) (h : ∀ j, j ≠ i → M'.1 j = M.1 j ∧ M'.2 j = M.2 j) (hz : wF cs ad i (M'.1 i) (M'.2 i) = z) : (wW cs ad M).set i (ad i, z) = wW cs ad M' := by
  apply List.ext_getElem?
  intro j
  rw [List.getElem?_set]
  by_cases e : i = j
  · subst e
    rw [if_pos rfl, wW_get cs ad M' hi, hz, if_pos (by simpa [wW] using hi)]
  · rw [if_neg e]
    rcases Nat.lt_or_ge j 146 with q | q
    · rw [wW_get cs ad M q, wW_get cs ad M' q, (h j (fun w => e w.symm)).1, (h j (fun w => e w.symm)).2]
    · rw [List.getElem?_eq_none (by simpa [wW] using q), List.getElem?_eq_none (by simpa [wW] using q)]
def tyC (cs : Nat → ClassId) : List (ClassId × FieldType) := [(cs 0, .int), (cs 1, .char), (cs 2, .boolean), (cs 3, .long), (cs 4, .array .int), (cs 5, .object RX4)]
def fA (ad : Nat → Nat) (sz : Nat) : Nat → Prop := fun q => (∃ i, i < 146 ∧ q = ad i) ∨ sz ≤ q
def wB (D : va_G) (cs : Nat → ClassId) (ad : Nat → Nat) (A : Nat → Prop) (M : Mm) (U : State) : Prop := va_P D vwCl (wW cs ad M) U.heap ∧ va_K D vwCl (tyC cs) U ∧ va_D A (wW cs ad M)
theorem wD_any {cs : Nat → ClassId} {ad : Nat → Nat} {A B : Nat → Prop} {M : Mm} (hB : ∀ i, i < 146 → B (ad i)) (h : va_D A (wW cs ad M)) (M' : Mm) : va_D B (wW cs ad M') := by
  refine ⟨fun i j p q hp hq e => ?_, fun k q hk => ?_⟩
  · obtain ⟨h1, rfl⟩ := wW_inv hp
    obtain ⟨h2, rfl⟩ := wW_inv hq
    exact h.1 i j _ _ (wW_get cs ad M h1) (wW_get cs ad M h2) e
  · obtain ⟨h1, rfl⟩ := wW_inv hk
    exact hB k h1
theorem fA_in {ad : Nat → Nat} {sz i : Nat} (h : i < 146) : fA ad sz (ad i) := Or.inl ⟨i, h, rfl⟩
/-- what a walk is inside of: program, environment, room, start, method, arguments, frames below, the method's own, cells and slots so far, the aim -/
abbrev Kx : Type := Program × Env × Room × State × MethodId × Array Value × List Frame × Method × Code × Nat × Nat × (State → Prop)
/-- THE JUDGEMENT: from the method's frame at pc, with these locals and this stack, over any heap that holds the memory M (u exceptions' room used), the machine comes to the aim -/
def VV (l : Launch) (D : va_G) (cs : Nat → ClassId) (ad : Nat → Nat) (nL : Nat) : Kx → Nat → Mm → Nat → List (Nat × Value) → List Value → Prop
  | (p, e, R, s, m, args, below, meth, c, c0, s0, Q), u, M, pc, lv, st => ∀ (H : Heap) (locs : List Loc) (ls : Array Slot), va_P D vwCl (wW cs ad M) H → va_S (fA ad s.heap.size) s.heap H locs → lv_has ls nL lv → W p l e R s m args below meth c H locs (c0 + u) (s0 + 6 * u) Q (F0 m pc ls st)
/-- what stays through a walk -/
def CX (D : va_G) (cs : Nat → ClassId) (ad : Nat → Nat) (cc : ByteArray) (nL : Nat) (own : String) (fr lo U : Nat) : Kx → Prop
  | (p, _, R, s, m, args, _, _, c, c0, s0, _) => p.tables.exec = Jvm.exec ∧ c.code = cc ∧ c.maxLocals = nL ∧ s.vm.findClass own = some m.cls ∧ (∀ w ∈ TT, w.before args s = true) ∧ va_K D vwCl (tyC cs) s ∧ (∀ M, va_D (fA ad s.heap.size) (wW cs ad M)) ∧ R.frames = fr ∧ R.locals = lo ∧ c0 + U ≤ R.cells ∧ s0 + 6 * U ≤ R.slots
def mI (M : Mm) (i k : Nat) (v : Int32) : Mm := (fun a => if a = i then upd (M.1 a) k v else M.1 a, M.2)
def mJ (M : Mm) (i k : Nat) (v : Int64) : Mm := (M.1, fun a => if a = i then vp_updL (M.2 a) k v else M.2 a)
def mA (M : Mm) (i : Nat) (f : Nat → Int32) : Mm := (fun a => if a = i then f else M.1 a, M.2)
theorem mI_ne (M : Mm) {i j k : Nat} {v : Int32} (h : j ≠ i) : (mI M i k v).1 j = M.1 j := if_neg h
theorem mI_eq (M : Mm) {i k : Nat} {v : Int32} : (mI M i k v).1 i = upd (M.1 i) k v := if_pos rfl
theorem mI_2 (M : Mm) {i k : Nat} {v : Int32} : (mI M i k v).2 = M.2 := rfl
theorem mJ_1 (M : Mm) {i k : Nat} {v : Int64} : (mJ M i k v).1 = M.1 := rfl
theorem mJ_ne (M : Mm) {i j k : Nat} {v : Int64} (h : j ≠ i) : (mJ M i k v).2 j = M.2 j := if_neg h
theorem mJ_eq (M : Mm) {i k : Nat} {v : Int64} : (mJ M i k v).2 i = vp_updL (M.2 i) k v := if_pos rfl
theorem mA_ne (M : Mm) {i j : Nat} {f : Nat → Int32} (h : j ≠ i) : (mA M i f).1 j = M.1 j := if_neg h
theorem mA_eq (M : Mm) {i : Nat} {f : Nat → Int32} : (mA M i f).1 i = f := if_pos rfl
theorem mA_2 (M : Mm) {i : Nat} {f : Nat → Int32} : (mA M i f).2 = M.2 := rfl
theorem upd_e (f : Nat → Int32) (k : Nat) (v : Int32) : upd f k v k = v := if_pos rfl
theorem upd_n (f : Nat → Int32) {k j : Nat} (v : Int32) (h : j ≠ k) : upd f k v j = f j := if_neg h
def bI (b : Bool) : Int32 := if b then 1 else 0
theorem bI_t : bI true = 1 := rfl
theorem bI_f : bI false = 0 := rfl
theorem bI_0 (b : Bool) : bI b = 0 ↔ b = false := by cases b <;> decide
theorem bI_n (b : Bool) : narrow .boolean (.int (bI b)) = .int (bI b) := by cases b <;> rfl
section VVS
variable {l : Launch} {D : va_G} {cs : Nat → ClassId} {ad : Nat → Nat} {nL : Nat} {κ : Kx} {u : Nat} {M : Mm} {pc : Nat} {lv : List (Nat × Value)} {st : List Value} {cc : ByteArray} {own : String} {fr lo U : Nat}
theorem r_iconst (C : CX D cs ad cc nL own fr lo U κ) {n : Int} (v : Int32) (d : decode cc pc = .ok (.iconst n, 1)) (hv : Int32.ofInt n = v) (k : VV l D cs ad nL κ u M (pc + 1) lv (.int v :: st)) : VV l D cs ad nL κ u M pc lv st := by
  obtain ⟨p, e, R, s, m, args, below, meth, c, c0, s0, Q⟩ := κ
  obtain ⟨hx, hb, hml, hown, hts, hK, hD, hfr, hlo, hc0, hs0⟩ := C
  intro H locs ls hP hS hl
  exact lv_iconst hx hb d hv (k H locs ls hP hS hl)
theorem r_bipush (C : CX D cs ad cc nL own fr lo U κ) {n : Int} (v : Int32) (d : decode cc pc = .ok (.bipush n, 2)) (hv : (Int8.ofInt n).toInt32 = v) (k : VV l D cs ad nL κ u M (pc + 2) lv (.int v :: st)) : VV l D cs ad nL κ u M pc lv st := by
  obtain ⟨p, e, R, s, m, args, below, meth, c, c0, s0, Q⟩ := κ
  obtain ⟨hx, hb, hml, hown, hts, hK, hD, hfr, hlo, hc0, hs0⟩ := C
  intro H locs ls hP hS hl
  exact lv_bipush hx hb d hv (k H locs ls hP hS hl)
theorem r_sipush (C : CX D cs ad cc nL own fr lo U κ) {n : Int} (v : Int32) (d : decode cc pc = .ok (.sipush n, 3)) (hv : (Int16.ofInt n).toInt32 = v) (k : VV l D cs ad nL κ u M (pc + 3) lv (.int v :: st)) : VV l D cs ad nL κ u M pc lv st := by
  obtain ⟨p, e, R, s, m, args, below, meth, c, c0, s0, Q⟩ := κ
  obtain ⟨hx, hb, hml, hown, hts, hK, hD, hfr, hlo, hc0, hs0⟩ := C
  intro H locs ls hP hS hl
  exact lv_sipush hx hb d hv (k H locs ls hP hS hl)
theorem r_lconst (C : CX D cs ad cc nL own fr lo U κ) {n : Fin 2} (v : Int64) (d : decode cc pc = .ok (.lconst n, 1)) (hv : Int64.ofNat (n : Nat) = v) (k : VV l D cs ad nL κ u M (pc + 1) lv (.long v :: st)) : VV l D cs ad nL κ u M pc lv st := by
  obtain ⟨p, e, R, s, m, args, below, meth, c, c0, s0, Q⟩ := κ
  obtain ⟨hx, hb, hml, hown, hts, hK, hD, hfr, hlo, hc0, hs0⟩ := C
  intro H locs ls hP hS hl
  exact lv_lconst hx hb d hv (k H locs ls hP hS hl)
theorem r_dconst0 (C : CX D cs ad cc nL own fr lo U κ) (d : decode cc pc = .ok (.dconst 0, 1)) (k : VV l D cs ad nL κ u M (pc + 1) lv (.double 0 :: st)) : VV l D cs ad nL κ u M pc lv st := by
  obtain ⟨p, e, R, s, m, args, below, meth, c, c0, s0, Q⟩ := κ
  obtain ⟨hx, hb, hml, hown, hts, hK, hD, hfr, hlo, hc0, hs0⟩ := C
  intro H locs ls hP hS hl
  exact lv_dconst0 hx hb d (k H locs ls hP hS hl)
theorem r_ldc (C : CX D cs ad cc nL own fr lo U κ) {i : Nat} (v : Int32) (w : Cond.constant own i v ∈ TT) (d : decode cc pc = .ok (.ldc i, 2)) (k : VV l D cs ad nL κ u M (pc + 2) lv (.int v :: st)) : VV l D cs ad nL κ u M pc lv st := by
  obtain ⟨p, e, R, s, m, args, below, meth, c, c0, s0, Q⟩ := κ
  obtain ⟨hx, hb, hml, hown, hts, hK, hD, hfr, hlo, hc0, hs0⟩ := C
  intro H locs ls hP hS hl
  exact lv_ldc hx hb hown (hts _ w) d (k H locs ls hP hS hl)
theorem r_ldcw (C : CX D cs ad cc nL own fr lo U κ) {i : Nat} (v : Int32) (w : Cond.constant own i v ∈ TT) (d : decode cc pc = .ok (.ldc_w i, 3)) (k : VV l D cs ad nL κ u M (pc + 3) lv (.int v :: st)) : VV l D cs ad nL κ u M pc lv st := by
  obtain ⟨p, e, R, s, m, args, below, meth, c, c0, s0, Q⟩ := κ
  obtain ⟨hx, hb, hml, hown, hts, hK, hD, hfr, hlo, hc0, hs0⟩ := C
  intro H locs ls hP hS hl
  exact lv_ldcw hx hb hown (hts _ w) d (k H locs ls hP hS hl)
theorem r_ldc2 (C : CX D cs ad cc nL own fr lo U κ) {i : Nat} (v : Int64) (w : Cond.constantLong own i v ∈ TT) (d : decode cc pc = .ok (.ldc2_w i, 3)) (k : VV l D cs ad nL κ u M (pc + 3) lv (.long v :: st)) : VV l D cs ad nL κ u M pc lv st := by
  obtain ⟨p, e, R, s, m, args, below, meth, c, c0, s0, Q⟩ := κ
  obtain ⟨hx, hb, hml, hown, hts, hK, hD, hfr, hlo, hc0, hs0⟩ := C
  intro H locs ls hP hS hl
  exact lv_ldc2 hx hb hown (hts _ w) d (k H locs ls hP hS hl)
theorem r_ldc2d (C : CX D cs ad cc nL own fr lo U κ) {i : Nat} (v : UInt64) (w : Cond.constantDouble own i v ∈ TT) (d : decode cc pc = .ok (.ldc2_w i, 3)) (k : VV l D cs ad nL κ u M (pc + 3) lv (.double v :: st)) : VV l D cs ad nL κ u M pc lv st := by
  obtain ⟨p, e, R, s, m, args, below, meth, c, c0, s0, Q⟩ := κ
  obtain ⟨hx, hb, hml, hown, hts, hK, hD, hfr, hlo, hc0, hs0⟩ := C
  intro H locs ls hP hS hl
  exact lv_ldc2d hx hb hown (hts _ w) d (k H locs ls hP hS hl)
theorem r_iload_n (C : CX D cs ad cc nL own fr lo U κ) {k9 : Fin 4} {i : Nat} {x : Int32} (d : decode cc pc = .ok (.iload_n k9, 1)) (hi : (k9 : Nat) = i) (j : Nat) (hj : lv[j]? = some (i, .int x)) (k : VV l D cs ad nL κ u M (pc + 1) lv (.int x :: st)) : VV l D cs ad nL κ u M pc lv st := by
  obtain ⟨p, e, R, s, m, args, below, meth, c, c0, s0, Q⟩ := κ
  obtain ⟨hx, hb, hml, hown, hts, hK, hD, hfr, hlo, hc0, hs0⟩ := C
  intro H locs ls hP hS hl
  exact lv_iload_n hx hb d hi (lv_at hl j hj) (k H locs ls hP hS hl)
theorem r_iload (C : CX D cs ad cc nL own fr lo U κ) {i : Nat} {x : Int32} (d : decode cc pc = .ok (.iload i, 2)) (j : Nat) (hj : lv[j]? = some (i, .int x)) (k : VV l D cs ad nL κ u M (pc + 2) lv (.int x :: st)) : VV l D cs ad nL κ u M pc lv st := by
  obtain ⟨p, e, R, s, m, args, below, meth, c, c0, s0, Q⟩ := κ
  obtain ⟨hx, hb, hml, hown, hts, hK, hD, hfr, hlo, hc0, hs0⟩ := C
  intro H locs ls hP hS hl
  exact lv_iload hx hb d (lv_at hl j hj) (k H locs ls hP hS hl)
theorem r_istore_n (C : CX D cs ad cc nL own fr lo U κ) {k9 : Fin 4} {i : Nat} {x : Int32} (lv2 : List (Nat × Value)) (d : decode cc pc = .ok (.istore_n k9, 1)) (hi : (k9 : Nat) = i) (hn : i < nL) (h2 : (i, Value.int x) :: lv.filter (fun q => !(q.1 == i) && !(q.1 + 1 == i && q.2.category == 2)) = lv2) (k : VV l D cs ad nL κ u M (pc + 1) lv2 st) : VV l D cs ad nL κ u M pc lv (.int x :: st) := by
  obtain ⟨p, e, R, s, m, args, below, meth, c, c0, s0, Q⟩ := κ
  obtain ⟨hx, hb, hml, hown, hts, hK, hD, hfr, hlo, hc0, hs0⟩ := C
  intro H locs ls hP hS hl
  exact lv_istore_n hx hb d hi hl hn h2 (fun ls hl => k H locs ls hP hS hl)
theorem r_istore (C : CX D cs ad cc nL own fr lo U κ) {i : Nat} {x : Int32} (lv2 : List (Nat × Value)) (d : decode cc pc = .ok (.istore i, 2)) (hn : i < nL) (h2 : (i, Value.int x) :: lv.filter (fun q => !(q.1 == i) && !(q.1 + 1 == i && q.2.category == 2)) = lv2) (k : VV l D cs ad nL κ u M (pc + 2) lv2 st) : VV l D cs ad nL κ u M pc lv (.int x :: st) := by
  obtain ⟨p, e, R, s, m, args, below, meth, c, c0, s0, Q⟩ := κ
  obtain ⟨hx, hb, hml, hown, hts, hK, hD, hfr, hlo, hc0, hs0⟩ := C
  intro H locs ls hP hS hl
  exact lv_istore hx hb d hl hn h2 (fun ls hl => k H locs ls hP hS hl)
theorem r_lload_n (C : CX D cs ad cc nL own fr lo U κ) {k9 : Fin 4} {i : Nat} {x : Int64} (d : decode cc pc = .ok (.lload_n k9, 1)) (hi : (k9 : Nat) = i) (j : Nat) (hj : lv[j]? = some (i, .long x)) (k : VV l D cs ad nL κ u M (pc + 1) lv (.long x :: st)) : VV l D cs ad nL κ u M pc lv st := by
  obtain ⟨p, e, R, s, m, args, below, meth, c, c0, s0, Q⟩ := κ
  obtain ⟨hx, hb, hml, hown, hts, hK, hD, hfr, hlo, hc0, hs0⟩ := C
  intro H locs ls hP hS hl
  exact lv_lload_n hx hb d hi (lv_at hl j hj) (k H locs ls hP hS hl)
theorem r_lload (C : CX D cs ad cc nL own fr lo U κ) {i : Nat} {x : Int64} (d : decode cc pc = .ok (.lload i, 2)) (j : Nat) (hj : lv[j]? = some (i, .long x)) (k : VV l D cs ad nL κ u M (pc + 2) lv (.long x :: st)) : VV l D cs ad nL κ u M pc lv st := by
  obtain ⟨p, e, R, s, m, args, below, meth, c, c0, s0, Q⟩ := κ
  obtain ⟨hx, hb, hml, hown, hts, hK, hD, hfr, hlo, hc0, hs0⟩ := C
  intro H locs ls hP hS hl
  exact lv_lload hx hb d (lv_at hl j hj) (k H locs ls hP hS hl)
theorem r_lstore_n (C : CX D cs ad cc nL own fr lo U κ) {k9 : Fin 4} {i : Nat} {x : Int64} (lv2 : List (Nat × Value)) (d : decode cc pc = .ok (.lstore_n k9, 1)) (hi : (k9 : Nat) = i) (hn : i + 1 < nL) (h2 : (i, Value.long x) :: lv.filter (fun q => !(q.1 == i) && (!(q.1 == i + 1) && !(q.1 + 1 == i && q.2.category == 2))) = lv2) (k : VV l D cs ad nL κ u M (pc + 1) lv2 st) : VV l D cs ad nL κ u M pc lv (.long x :: st) := by
  obtain ⟨p, e, R, s, m, args, below, meth, c, c0, s0, Q⟩ := κ
  obtain ⟨hx, hb, hml, hown, hts, hK, hD, hfr, hlo, hc0, hs0⟩ := C
  intro H locs ls hP hS hl
  exact lv_lstore_n hx hb d hi hl hn h2 (fun ls hl => k H locs ls hP hS hl)
theorem r_lstore (C : CX D cs ad cc nL own fr lo U κ) {i : Nat} {x : Int64} (lv2 : List (Nat × Value)) (d : decode cc pc = .ok (.lstore i, 2)) (hn : i + 1 < nL) (h2 : (i, Value.long x) :: lv.filter (fun q => !(q.1 == i) && (!(q.1 == i + 1) && !(q.1 + 1 == i && q.2.category == 2))) = lv2) (k : VV l D cs ad nL κ u M (pc + 2) lv2 st) : VV l D cs ad nL κ u M pc lv (.long x :: st) := by
  obtain ⟨p, e, R, s, m, args, below, meth, c, c0, s0, Q⟩ := κ
  obtain ⟨hx, hb, hml, hown, hts, hK, hD, hfr, hlo, hc0, hs0⟩ := C
  intro H locs ls hP hS hl
  exact lv_lstore hx hb d hl hn h2 (fun ls hl => k H locs ls hP hS hl)
theorem r_aload_n (C : CX D cs ad cc nL own fr lo U κ) {k9 : Fin 4} {i : Nat} {x : Nat} (d : decode cc pc = .ok (.aload_n k9, 1)) (hi : (k9 : Nat) = i) (j : Nat) (hj : lv[j]? = some (i, .ref x)) (k : VV l D cs ad nL κ u M (pc + 1) lv (.ref x :: st)) : VV l D cs ad nL κ u M pc lv st := by
  obtain ⟨p, e, R, s, m, args, below, meth, c, c0, s0, Q⟩ := κ
  obtain ⟨hx, hb, hml, hown, hts, hK, hD, hfr, hlo, hc0, hs0⟩ := C
  intro H locs ls hP hS hl
  exact lv_aload_n hx hb d hi (lv_at hl j hj) (k H locs ls hP hS hl)
theorem r_aload (C : CX D cs ad cc nL own fr lo U κ) {i : Nat} {x : Nat} (d : decode cc pc = .ok (.aload i, 2)) (j : Nat) (hj : lv[j]? = some (i, .ref x)) (k : VV l D cs ad nL κ u M (pc + 2) lv (.ref x :: st)) : VV l D cs ad nL κ u M pc lv st := by
  obtain ⟨p, e, R, s, m, args, below, meth, c, c0, s0, Q⟩ := κ
  obtain ⟨hx, hb, hml, hown, hts, hK, hD, hfr, hlo, hc0, hs0⟩ := C
  intro H locs ls hP hS hl
  exact lv_aload hx hb d (lv_at hl j hj) (k H locs ls hP hS hl)
theorem r_astore_n (C : CX D cs ad cc nL own fr lo U κ) {k9 : Fin 4} {i : Nat} {x : Nat} (lv2 : List (Nat × Value)) (d : decode cc pc = .ok (.astore_n k9, 1)) (hi : (k9 : Nat) = i) (hn : i < nL) (h2 : (i, Value.ref x) :: lv.filter (fun q => !(q.1 == i) && !(q.1 + 1 == i && q.2.category == 2)) = lv2) (k : VV l D cs ad nL κ u M (pc + 1) lv2 st) : VV l D cs ad nL κ u M pc lv (.ref x :: st) := by
  obtain ⟨p, e, R, s, m, args, below, meth, c, c0, s0, Q⟩ := κ
  obtain ⟨hx, hb, hml, hown, hts, hK, hD, hfr, hlo, hc0, hs0⟩ := C
  intro H locs ls hP hS hl
  exact lv_astore_n hx hb d hi hl hn h2 (fun ls hl => k H locs ls hP hS hl)
theorem r_astore (C : CX D cs ad cc nL own fr lo U κ) {i : Nat} {x : Nat} (lv2 : List (Nat × Value)) (d : decode cc pc = .ok (.astore i, 2)) (hn : i < nL) (h2 : (i, Value.ref x) :: lv.filter (fun q => !(q.1 == i) && !(q.1 + 1 == i && q.2.category == 2)) = lv2) (k : VV l D cs ad nL κ u M (pc + 2) lv2 st) : VV l D cs ad nL κ u M pc lv (.ref x :: st) := by
  obtain ⟨p, e, R, s, m, args, below, meth, c, c0, s0, Q⟩ := κ
  obtain ⟨hx, hb, hml, hown, hts, hK, hD, hfr, hlo, hc0, hs0⟩ := C
  intro H locs ls hP hS hl
  exact lv_astore hx hb d hl hn h2 (fun ls hl => k H locs ls hP hS hl)
theorem r_dload_n (C : CX D cs ad cc nL own fr lo U κ) {k9 : Fin 4} {i : Nat} {x : UInt64} (d : decode cc pc = .ok (.dload_n k9, 1)) (hi : (k9 : Nat) = i) (j : Nat) (hj : lv[j]? = some (i, .double x)) (k : VV l D cs ad nL κ u M (pc + 1) lv (.double x :: st)) : VV l D cs ad nL κ u M pc lv st := by
  obtain ⟨p, e, R, s, m, args, below, meth, c, c0, s0, Q⟩ := κ
  obtain ⟨hx, hb, hml, hown, hts, hK, hD, hfr, hlo, hc0, hs0⟩ := C
  intro H locs ls hP hS hl
  exact lv_dload_n hx hb d hi (lv_at hl j hj) (k H locs ls hP hS hl)
theorem r_dload (C : CX D cs ad cc nL own fr lo U κ) {i : Nat} {x : UInt64} (d : decode cc pc = .ok (.dload i, 2)) (j : Nat) (hj : lv[j]? = some (i, .double x)) (k : VV l D cs ad nL κ u M (pc + 2) lv (.double x :: st)) : VV l D cs ad nL κ u M pc lv st := by
  obtain ⟨p, e, R, s, m, args, below, meth, c, c0, s0, Q⟩ := κ
  obtain ⟨hx, hb, hml, hown, hts, hK, hD, hfr, hlo, hc0, hs0⟩ := C
  intro H locs ls hP hS hl
  exact lv_dload hx hb d (lv_at hl j hj) (k H locs ls hP hS hl)
theorem r_dstore_n (C : CX D cs ad cc nL own fr lo U κ) {k9 : Fin 4} {i : Nat} {x : UInt64} (lv2 : List (Nat × Value)) (d : decode cc pc = .ok (.dstore_n k9, 1)) (hi : (k9 : Nat) = i) (hn : i + 1 < nL) (h2 : (i, Value.double x) :: lv.filter (fun q => !(q.1 == i) && (!(q.1 == i + 1) && !(q.1 + 1 == i && q.2.category == 2))) = lv2) (k : VV l D cs ad nL κ u M (pc + 1) lv2 st) : VV l D cs ad nL κ u M pc lv (.double x :: st) := by
  obtain ⟨p, e, R, s, m, args, below, meth, c, c0, s0, Q⟩ := κ
  obtain ⟨hx, hb, hml, hown, hts, hK, hD, hfr, hlo, hc0, hs0⟩ := C
  intro H locs ls hP hS hl
  exact lv_dstore_n hx hb d hi hl hn h2 (fun ls hl => k H locs ls hP hS hl)
theorem r_dstore (C : CX D cs ad cc nL own fr lo U κ) {i : Nat} {x : UInt64} (lv2 : List (Nat × Value)) (d : decode cc pc = .ok (.dstore i, 2)) (hn : i + 1 < nL) (h2 : (i, Value.double x) :: lv.filter (fun q => !(q.1 == i) && (!(q.1 == i + 1) && !(q.1 + 1 == i && q.2.category == 2))) = lv2) (k : VV l D cs ad nL κ u M (pc + 2) lv2 st) : VV l D cs ad nL κ u M pc lv (.double x :: st) := by
  obtain ⟨p, e, R, s, m, args, below, meth, c, c0, s0, Q⟩ := κ
  obtain ⟨hx, hb, hml, hown, hts, hK, hD, hfr, hlo, hc0, hs0⟩ := C
  intro H locs ls hP hS hl
  exact lv_dstore hx hb d hl hn h2 (fun ls hl => k H locs ls hP hS hl)
theorem r_iinc (C : CX D cs ad cc nL own fr lo U κ) {i j : Nat} {n : Int} {x : Int32} (v : Int32) (lv2 : List (Nat × Value)) (d : decode cc pc = .ok (.iinc i n, 3)) (hj : lv[j]? = some (i, .int x)) (hv : x + Int32.ofInt n = v) (hn : i < nL) (h2 : (i, Value.int v) :: lv.filter (fun q => !(q.1 == i) && !(q.1 + 1 == i && q.2.category == 2)) = lv2) (k : VV l D cs ad nL κ u M (pc + 3) lv2 st) : VV l D cs ad nL κ u M pc lv st := by
  obtain ⟨p, e, R, s, m, args, below, meth, c, c0, s0, Q⟩ := κ
  obtain ⟨hx, hb, hml, hown, hts, hK, hD, hfr, hlo, hc0, hs0⟩ := C
  intro H locs ls hP hS hl
  exact lv_iinc hx hb d hl hj hv hn h2 (fun ls hl => k H locs ls hP hS hl)
theorem r_iadd (C : CX D cs ad cc nL own fr lo U κ) {x y : Int32} (d : decode cc pc = .ok (.iadd, 1)) (k : VV l D cs ad nL κ u M (pc + 1) lv (.int (x + y) :: st)) : VV l D cs ad nL κ u M pc lv (.int y :: .int x :: st) := by
  obtain ⟨p, e, R, s, m, args, below, meth, c, c0, s0, Q⟩ := κ
  obtain ⟨hx, hb, hml, hown, hts, hK, hD, hfr, hlo, hc0, hs0⟩ := C
  intro H locs ls hP hS hl
  exact lv_iadd hx hb d (k H locs ls hP hS hl)
theorem r_isub (C : CX D cs ad cc nL own fr lo U κ) {x y : Int32} (d : decode cc pc = .ok (.isub, 1)) (k : VV l D cs ad nL κ u M (pc + 1) lv (.int (x - y) :: st)) : VV l D cs ad nL κ u M pc lv (.int y :: .int x :: st) := by
  obtain ⟨p, e, R, s, m, args, below, meth, c, c0, s0, Q⟩ := κ
  obtain ⟨hx, hb, hml, hown, hts, hK, hD, hfr, hlo, hc0, hs0⟩ := C
  intro H locs ls hP hS hl
  exact lv_isub hx hb d (k H locs ls hP hS hl)
theorem r_imul (C : CX D cs ad cc nL own fr lo U κ) {x y : Int32} (d : decode cc pc = .ok (.imul, 1)) (k : VV l D cs ad nL κ u M (pc + 1) lv (.int (x * y) :: st)) : VV l D cs ad nL κ u M pc lv (.int y :: .int x :: st) := by
  obtain ⟨p, e, R, s, m, args, below, meth, c, c0, s0, Q⟩ := κ
  obtain ⟨hx, hb, hml, hown, hts, hK, hD, hfr, hlo, hc0, hs0⟩ := C
  intro H locs ls hP hS hl
  exact lv_imul hx hb d (k H locs ls hP hS hl)
theorem r_iand (C : CX D cs ad cc nL own fr lo U κ) {x y : Int32} (d : decode cc pc = .ok (.iand, 1)) (k : VV l D cs ad nL κ u M (pc + 1) lv (.int (x &&& y) :: st)) : VV l D cs ad nL κ u M pc lv (.int y :: .int x :: st) := by
  obtain ⟨p, e, R, s, m, args, below, meth, c, c0, s0, Q⟩ := κ
  obtain ⟨hx, hb, hml, hown, hts, hK, hD, hfr, hlo, hc0, hs0⟩ := C
  intro H locs ls hP hS hl
  exact lv_iand hx hb d (k H locs ls hP hS hl)
theorem r_ior (C : CX D cs ad cc nL own fr lo U κ) {x y : Int32} (d : decode cc pc = .ok (.ior, 1)) (k : VV l D cs ad nL κ u M (pc + 1) lv (.int (x ||| y) :: st)) : VV l D cs ad nL κ u M pc lv (.int y :: .int x :: st) := by
  obtain ⟨p, e, R, s, m, args, below, meth, c, c0, s0, Q⟩ := κ
  obtain ⟨hx, hb, hml, hown, hts, hK, hD, hfr, hlo, hc0, hs0⟩ := C
  intro H locs ls hP hS hl
  exact lv_ior hx hb d (k H locs ls hP hS hl)
theorem r_ixor (C : CX D cs ad cc nL own fr lo U κ) {x y : Int32} (d : decode cc pc = .ok (.ixor, 1)) (k : VV l D cs ad nL κ u M (pc + 1) lv (.int (x ^^^ y) :: st)) : VV l D cs ad nL κ u M pc lv (.int y :: .int x :: st) := by
  obtain ⟨p, e, R, s, m, args, below, meth, c, c0, s0, Q⟩ := κ
  obtain ⟨hx, hb, hml, hown, hts, hK, hD, hfr, hlo, hc0, hs0⟩ := C
  intro H locs ls hP hS hl
  exact lv_ixor hx hb d (k H locs ls hP hS hl)
theorem r_ladd (C : CX D cs ad cc nL own fr lo U κ) {x y : Int64} (d : decode cc pc = .ok (.ladd, 1)) (k : VV l D cs ad nL κ u M (pc + 1) lv (.long (x + y) :: st)) : VV l D cs ad nL κ u M pc lv (.long y :: .long x :: st) := by
  obtain ⟨p, e, R, s, m, args, below, meth, c, c0, s0, Q⟩ := κ
  obtain ⟨hx, hb, hml, hown, hts, hK, hD, hfr, hlo, hc0, hs0⟩ := C
  intro H locs ls hP hS hl
  exact lv_ladd hx hb d (k H locs ls hP hS hl)
theorem r_lsub (C : CX D cs ad cc nL own fr lo U κ) {x y : Int64} (d : decode cc pc = .ok (.lsub, 1)) (k : VV l D cs ad nL κ u M (pc + 1) lv (.long (x - y) :: st)) : VV l D cs ad nL κ u M pc lv (.long y :: .long x :: st) := by
  obtain ⟨p, e, R, s, m, args, below, meth, c, c0, s0, Q⟩ := κ
  obtain ⟨hx, hb, hml, hown, hts, hK, hD, hfr, hlo, hc0, hs0⟩ := C
  intro H locs ls hP hS hl
  exact lv_lsub hx hb d (k H locs ls hP hS hl)
theorem r_lmul (C : CX D cs ad cc nL own fr lo U κ) {x y : Int64} (d : decode cc pc = .ok (.lmul, 1)) (k : VV l D cs ad nL κ u M (pc + 1) lv (.long (x * y) :: st)) : VV l D cs ad nL κ u M pc lv (.long y :: .long x :: st) := by
  obtain ⟨p, e, R, s, m, args, below, meth, c, c0, s0, Q⟩ := κ
  obtain ⟨hx, hb, hml, hown, hts, hK, hD, hfr, hlo, hc0, hs0⟩ := C
  intro H locs ls hP hS hl
  exact lv_lmul hx hb d (k H locs ls hP hS hl)
theorem r_land (C : CX D cs ad cc nL own fr lo U κ) {x y : Int64} (d : decode cc pc = .ok (.land, 1)) (k : VV l D cs ad nL κ u M (pc + 1) lv (.long (x &&& y) :: st)) : VV l D cs ad nL κ u M pc lv (.long y :: .long x :: st) := by
  obtain ⟨p, e, R, s, m, args, below, meth, c, c0, s0, Q⟩ := κ
  obtain ⟨hx, hb, hml, hown, hts, hK, hD, hfr, hlo, hc0, hs0⟩ := C
  intro H locs ls hP hS hl
  exact lv_land hx hb d (k H locs ls hP hS hl)
theorem r_lor (C : CX D cs ad cc nL own fr lo U κ) {x y : Int64} (d : decode cc pc = .ok (.lor, 1)) (k : VV l D cs ad nL κ u M (pc + 1) lv (.long (x ||| y) :: st)) : VV l D cs ad nL κ u M pc lv (.long y :: .long x :: st) := by
  obtain ⟨p, e, R, s, m, args, below, meth, c, c0, s0, Q⟩ := κ
  obtain ⟨hx, hb, hml, hown, hts, hK, hD, hfr, hlo, hc0, hs0⟩ := C
  intro H locs ls hP hS hl
  exact lv_lor hx hb d (k H locs ls hP hS hl)
theorem r_idiv (C : CX D cs ad cc nL own fr lo U κ) {x y : Int32} (d : decode cc pc = .ok (.idiv, 1)) (hne : ¬ y = 0) (k : VV l D cs ad nL κ u M (pc + 1) lv (.int (x / y) :: st)) : VV l D cs ad nL κ u M pc lv (.int y :: .int x :: st) := by
  obtain ⟨p, e, R, s, m, args, below, meth, c, c0, s0, Q⟩ := κ
  obtain ⟨hx, hb, hml, hown, hts, hK, hD, hfr, hlo, hc0, hs0⟩ := C
  intro H locs ls hP hS hl
  exact lv_idiv hx hb d hne (k H locs ls hP hS hl)
theorem r_irem (C : CX D cs ad cc nL own fr lo U κ) {x y : Int32} (d : decode cc pc = .ok (.irem, 1)) (hne : ¬ y = 0) (k : VV l D cs ad nL κ u M (pc + 1) lv (.int (x - x / y * y) :: st)) : VV l D cs ad nL κ u M pc lv (.int y :: .int x :: st) := by
  obtain ⟨p, e, R, s, m, args, below, meth, c, c0, s0, Q⟩ := κ
  obtain ⟨hx, hb, hml, hown, hts, hK, hD, hfr, hlo, hc0, hs0⟩ := C
  intro H locs ls hP hS hl
  exact lv_irem hx hb d hne (k H locs ls hP hS hl)
theorem r_ldiv (C : CX D cs ad cc nL own fr lo U κ) {x y : Int64} (d : decode cc pc = .ok (.ldiv, 1)) (hne : ¬ y = 0) (k : VV l D cs ad nL κ u M (pc + 1) lv (.long (x / y) :: st)) : VV l D cs ad nL κ u M pc lv (.long y :: .long x :: st) := by
  obtain ⟨p, e, R, s, m, args, below, meth, c, c0, s0, Q⟩ := κ
  obtain ⟨hx, hb, hml, hown, hts, hK, hD, hfr, hlo, hc0, hs0⟩ := C
  intro H locs ls hP hS hl
  exact lv_ldiv hx hb d hne (k H locs ls hP hS hl)
theorem r_lrem (C : CX D cs ad cc nL own fr lo U κ) {x y : Int64} (d : decode cc pc = .ok (.lrem, 1)) (hne : ¬ y = 0) (k : VV l D cs ad nL κ u M (pc + 1) lv (.long (x - x / y * y) :: st)) : VV l D cs ad nL κ u M pc lv (.long y :: .long x :: st) := by
  obtain ⟨p, e, R, s, m, args, below, meth, c, c0, s0, Q⟩ := κ
  obtain ⟨hx, hb, hml, hown, hts, hK, hD, hfr, hlo, hc0, hs0⟩ := C
  intro H locs ls hP hS hl
  exact lv_lrem hx hb d hne (k H locs ls hP hS hl)
theorem r_ishl (C : CX D cs ad cc nL own fr lo U κ) {x y : Int32} (d : decode cc pc = .ok (.ishl, 1)) (k : VV l D cs ad nL κ u M (pc + 1) lv (.int (x <<< (y &&& 31)) :: st)) : VV l D cs ad nL κ u M pc lv (.int y :: .int x :: st) := by
  obtain ⟨p, e, R, s, m, args, below, meth, c, c0, s0, Q⟩ := κ
  obtain ⟨hx, hb, hml, hown, hts, hK, hD, hfr, hlo, hc0, hs0⟩ := C
  intro H locs ls hP hS hl
  exact lv_ishl hx hb d (k H locs ls hP hS hl)
theorem r_ishr (C : CX D cs ad cc nL own fr lo U κ) {x y : Int32} (d : decode cc pc = .ok (.ishr, 1)) (k : VV l D cs ad nL κ u M (pc + 1) lv (.int (x >>> (y &&& 31)) :: st)) : VV l D cs ad nL κ u M pc lv (.int y :: .int x :: st) := by
  obtain ⟨p, e, R, s, m, args, below, meth, c, c0, s0, Q⟩ := κ
  obtain ⟨hx, hb, hml, hown, hts, hK, hD, hfr, hlo, hc0, hs0⟩ := C
  intro H locs ls hP hS hl
  exact lv_ishr hx hb d (k H locs ls hP hS hl)
theorem r_iushr (C : CX D cs ad cc nL own fr lo U κ) {x y : Int32} (d : decode cc pc = .ok (.iushr, 1)) (k : VV l D cs ad nL κ u M (pc + 1) lv (.int (x.toUInt32 >>> (y.toUInt32 &&& Int32.toUInt32 31)).toInt32 :: st)) : VV l D cs ad nL κ u M pc lv (.int y :: .int x :: st) := by
  obtain ⟨p, e, R, s, m, args, below, meth, c, c0, s0, Q⟩ := κ
  obtain ⟨hx, hb, hml, hown, hts, hK, hD, hfr, hlo, hc0, hs0⟩ := C
  intro H locs ls hP hS hl
  exact lv_iushr hx hb d rfl (k H locs ls hP hS hl)
theorem r_lshl (C : CX D cs ad cc nL own fr lo U κ) {x : Int64} {y : Int32} (d : decode cc pc = .ok (.lshl, 1)) (k : VV l D cs ad nL κ u M (pc + 1) lv (.long (x <<< (y.toInt64 &&& 63)) :: st)) : VV l D cs ad nL κ u M pc lv (.int y :: .long x :: st) := by
  obtain ⟨p, e, R, s, m, args, below, meth, c, c0, s0, Q⟩ := κ
  obtain ⟨hx, hb, hml, hown, hts, hK, hD, hfr, hlo, hc0, hs0⟩ := C
  intro H locs ls hP hS hl
  exact lv_lshl hx hb d rfl (k H locs ls hP hS hl)
theorem r_i2l (C : CX D cs ad cc nL own fr lo U κ) {x : Int32} (d : decode cc pc = .ok (.i2l, 1)) (k : VV l D cs ad nL κ u M (pc + 1) lv (.long x.toInt64 :: st)) : VV l D cs ad nL κ u M pc lv (.int x :: st) := by
  obtain ⟨p, e, R, s, m, args, below, meth, c, c0, s0, Q⟩ := κ
  obtain ⟨hx, hb, hml, hown, hts, hK, hD, hfr, hlo, hc0, hs0⟩ := C
  intro H locs ls hP hS hl
  exact lv_i2l hx hb d rfl (k H locs ls hP hS hl)
theorem r_l2i (C : CX D cs ad cc nL own fr lo U κ) {x : Int64} (d : decode cc pc = .ok (.l2i, 1)) (k : VV l D cs ad nL κ u M (pc + 1) lv (.int x.toInt32 :: st)) : VV l D cs ad nL κ u M pc lv (.long x :: st) := by
  obtain ⟨p, e, R, s, m, args, below, meth, c, c0, s0, Q⟩ := κ
  obtain ⟨hx, hb, hml, hown, hts, hK, hD, hfr, hlo, hc0, hs0⟩ := C
  intro H locs ls hP hS hl
  exact lv_l2i hx hb d rfl (k H locs ls hP hS hl)
theorem r_i2c (C : CX D cs ad cc nL own fr lo U κ) {x : Int32} (d : decode cc pc = .ok (.i2c, 1)) (k : VV l D cs ad nL κ u M (pc + 1) lv (.int (x.toUInt32 % 65536).toInt32 :: st)) : VV l D cs ad nL κ u M pc lv (.int x :: st) := by
  obtain ⟨p, e, R, s, m, args, below, meth, c, c0, s0, Q⟩ := κ
  obtain ⟨hx, hb, hml, hown, hts, hK, hD, hfr, hlo, hc0, hs0⟩ := C
  intro H locs ls hP hS hl
  exact lv_i2c hx hb d rfl (k H locs ls hP hS hl)
theorem r_lcmp (C : CX D cs ad cc nL own fr lo U κ) {x y : Int64} (d : decode cc pc = .ok (.lcmp, 1)) (k : VV l D cs ad nL κ u M (pc + 1) lv (.int (lg_cmp x y) :: st)) : VV l D cs ad nL κ u M pc lv (.long y :: .long x :: st) := by
  obtain ⟨p, e, R, s, m, args, below, meth, c, c0, s0, Q⟩ := κ
  obtain ⟨hx, hb, hml, hown, hts, hK, hD, hfr, hlo, hc0, hs0⟩ := C
  intro H locs ls hP hS hl
  exact W.lcmp hx hb d (k H locs ls hP hS hl)
theorem r_dcmp (C : CX D cs ad cc nL own fr lo U κ) {x y : UInt64} {op : CmpOp} (d : decode cc pc = .ok (.dcmp op, 1)) (k : VV l D cs ad nL κ u M (pc + 1) lv (.int (Op.cmpValue (FP.dcmp x y) op) :: st)) : VV l D cs ad nL κ u M pc lv (.double y :: .double x :: st) := by
  obtain ⟨p, e, R, s, m, args, below, meth, c, c0, s0, Q⟩ := κ
  obtain ⟨hx, hb, hml, hown, hts, hK, hD, hfr, hlo, hc0, hs0⟩ := C
  intro H locs ls hP hS hl
  exact lv_dcmp hx hb d (k H locs ls hP hS hl)
theorem r_dmul (C : CX D cs ad cc nL own fr lo U κ) {x y : UInt64} (d : decode cc pc = .ok (.dmul, 1)) (hne : vf_n64 (FP.dmul x y)) (k : VV l D cs ad nL κ u M (pc + 1) lv (.double (FP.dmul x y) :: st)) : VV l D cs ad nL κ u M pc lv (.double y :: .double x :: st) := by
  obtain ⟨p, e, R, s, m, args, below, meth, c, c0, s0, Q⟩ := κ
  obtain ⟨hx, hb, hml, hown, hts, hK, hD, hfr, hlo, hc0, hs0⟩ := C
  intro H locs ls hP hS hl
  exact lv_dmul hx hb d hne (k H locs ls hP hS hl)
theorem r_ddiv (C : CX D cs ad cc nL own fr lo U κ) {x y : UInt64} (d : decode cc pc = .ok (.ddiv, 1)) (hne : vf_n64 (FP.ddiv x y)) (k : VV l D cs ad nL κ u M (pc + 1) lv (.double (FP.ddiv x y) :: st)) : VV l D cs ad nL κ u M pc lv (.double y :: .double x :: st) := by
  obtain ⟨p, e, R, s, m, args, below, meth, c, c0, s0, Q⟩ := κ
  obtain ⟨hx, hb, hml, hown, hts, hK, hD, hfr, hlo, hc0, hs0⟩ := C
  intro H locs ls hP hS hl
  exact lv_ddiv hx hb d hne (k H locs ls hP hS hl)
theorem r_dsub (C : CX D cs ad cc nL own fr lo U κ) {x y : UInt64} (d : decode cc pc = .ok (.dsub, 1)) (hne : vf_n64 (FP.dsub x y)) (k : VV l D cs ad nL κ u M (pc + 1) lv (.double (FP.dsub x y) :: st)) : VV l D cs ad nL κ u M pc lv (.double y :: .double x :: st) := by
  obtain ⟨p, e, R, s, m, args, below, meth, c, c0, s0, Q⟩ := κ
  obtain ⟨hx, hb, hml, hown, hts, hK, hD, hfr, hlo, hc0, hs0⟩ := C
  intro H locs ls hP hS hl
  exact lv_dsub hx hb d hne (k H locs ls hP hS hl)
theorem r_dadd (C : CX D cs ad cc nL own fr lo U κ) {x y : UInt64} (d : decode cc pc = .ok (.dadd, 1)) (hne : vf_n64 (FP.dadd x y)) (k : VV l D cs ad nL κ u M (pc + 1) lv (.double (FP.dadd x y) :: st)) : VV l D cs ad nL κ u M pc lv (.double y :: .double x :: st) := by
  obtain ⟨p, e, R, s, m, args, below, meth, c, c0, s0, Q⟩ := κ
  obtain ⟨hx, hb, hml, hown, hts, hK, hD, hfr, hlo, hc0, hs0⟩ := C
  intro H locs ls hP hS hl
  exact lv_dadd hx hb d hne (k H locs ls hP hS hl)
theorem r_i2d (C : CX D cs ad cc nL own fr lo U κ) {x : Int32} (d : decode cc pc = .ok (.i2d, 1)) (k : VV l D cs ad nL κ u M (pc + 1) lv (.double (FP.i2d x) :: st)) : VV l D cs ad nL κ u M pc lv (.int x :: st) := by
  obtain ⟨p, e, R, s, m, args, below, meth, c, c0, s0, Q⟩ := κ
  obtain ⟨hx, hb, hml, hown, hts, hK, hD, hfr, hlo, hc0, hs0⟩ := C
  intro H locs ls hP hS hl
  exact lv_i2d hx hb d (k H locs ls hP hS hl)
theorem r_l2d (C : CX D cs ad cc nL own fr lo U κ) {x : Int64} (d : decode cc pc = .ok (.l2d, 1)) (k : VV l D cs ad nL κ u M (pc + 1) lv (.double (FP.l2d x) :: st)) : VV l D cs ad nL κ u M pc lv (.long x :: st) := by
  obtain ⟨p, e, R, s, m, args, below, meth, c, c0, s0, Q⟩ := κ
  obtain ⟨hx, hb, hml, hown, hts, hK, hD, hfr, hlo, hc0, hs0⟩ := C
  intro H locs ls hP hS hl
  exact lv_l2d hx hb d (k H locs ls hP hS hl)
theorem r_d2l (C : CX D cs ad cc nL own fr lo U κ) {x : UInt64} (d : decode cc pc = .ok (.d2l, 1)) (k : VV l D cs ad nL κ u M (pc + 1) lv (.long (FP.d2l x) :: st)) : VV l D cs ad nL κ u M pc lv (.double x :: st) := by
  obtain ⟨p, e, R, s, m, args, below, meth, c, c0, s0, Q⟩ := κ
  obtain ⟨hx, hb, hml, hown, hts, hK, hD, hfr, hlo, hc0, hs0⟩ := C
  intro H locs ls hP hS hl
  exact lv_d2l hx hb d (k H locs ls hP hS hl)
theorem r_dup (C : CX D cs ad cc nL own fr lo U κ) {v : Value} (d : decode cc pc = .ok (.dup, 1)) (h1 : v.category = 1) (k : VV l D cs ad nL κ u M (pc + 1) lv (v :: v :: st)) : VV l D cs ad nL κ u M pc lv (v :: st) := by
  obtain ⟨p, e, R, s, m, args, below, meth, c, c0, s0, Q⟩ := κ
  obtain ⟨hx, hb, hml, hown, hts, hK, hD, hfr, hlo, hc0, hs0⟩ := C
  intro H locs ls hP hS hl
  exact lv_dup hx hb d h1 (k H locs ls hP hS hl)
theorem r_pop (C : CX D cs ad cc nL own fr lo U κ) {v : Value} (d : decode cc pc = .ok (.pop, 1)) (h1 : v.category = 1) (k : VV l D cs ad nL κ u M (pc + 1) lv st) : VV l D cs ad nL κ u M pc lv (v :: st) := by
  obtain ⟨p, e, R, s, m, args, below, meth, c, c0, s0, Q⟩ := κ
  obtain ⟨hx, hb, hml, hown, hts, hK, hD, hfr, hlo, hc0, hs0⟩ := C
  intro H locs ls hP hS hl
  exact lv_pop hx hb d h1 (k H locs ls hP hS hl)
theorem r_dup_x1 (C : CX D cs ad cc nL own fr lo U κ) {v w : Value} (d : decode cc pc = .ok (.dup_x1, 1)) (h1 : v.category = 1) (h2 : w.category = 1) (k : VV l D cs ad nL κ u M (pc + 1) lv (v :: w :: v :: st)) : VV l D cs ad nL κ u M pc lv (v :: w :: st) := by
  obtain ⟨p, e, R, s, m, args, below, meth, c, c0, s0, Q⟩ := κ
  obtain ⟨hx, hb, hml, hown, hts, hK, hD, hfr, hlo, hc0, hs0⟩ := C
  intro H locs ls hP hS hl
  exact lv_dup_x1 hx hb d h1 h2 (k H locs ls hP hS hl)
theorem r_dup_x2 (C : CX D cs ad cc nL own fr lo U κ) {v w x : Value} (d : decode cc pc = .ok (.dup_x2, 1)) (h1 : v.category = 1) (h2 : w.category = 1) (h3 : x.category = 1) (k : VV l D cs ad nL κ u M (pc + 1) lv (v :: w :: x :: v :: st)) : VV l D cs ad nL κ u M pc lv (v :: w :: x :: st) := by
  obtain ⟨p, e, R, s, m, args, below, meth, c, c0, s0, Q⟩ := κ
  obtain ⟨hx, hb, hml, hown, hts, hK, hD, hfr, hlo, hc0, hs0⟩ := C
  intro H locs ls hP hS hl
  exact lv_dup_x2 hx hb d h1 h2 h3 (k H locs ls hP hS hl)
theorem r_dup2_11 (C : CX D cs ad cc nL own fr lo U κ) {v w : Value} (d : decode cc pc = .ok (.dup2, 1)) (h1 : v.category = 1) (h2 : w.category = 1) (k : VV l D cs ad nL κ u M (pc + 1) lv (v :: w :: v :: w :: st)) : VV l D cs ad nL κ u M pc lv (v :: w :: st) := by
  obtain ⟨p, e, R, s, m, args, below, meth, c, c0, s0, Q⟩ := κ
  obtain ⟨hx, hb, hml, hown, hts, hK, hD, hfr, hlo, hc0, hs0⟩ := C
  intro H locs ls hP hS hl
  exact lv_dup2_11 hx hb d h1 h2 (k H locs ls hP hS hl)
theorem r_dup2_2 (C : CX D cs ad cc nL own fr lo U κ) {v : Value} (d : decode cc pc = .ok (.dup2, 1)) (h1 : v.category = 2) (k : VV l D cs ad nL κ u M (pc + 1) lv (v :: v :: st)) : VV l D cs ad nL κ u M pc lv (v :: st) := by
  obtain ⟨p, e, R, s, m, args, below, meth, c, c0, s0, Q⟩ := κ
  obtain ⟨hx, hb, hml, hown, hts, hK, hD, hfr, hlo, hc0, hs0⟩ := C
  intro H locs ls hP hS hl
  exact lv_dup2_2 hx hb d h1 (k H locs ls hP hS hl)
theorem r_goto (C : CX D cs ad cc nL own fr lo U κ) {off : Int} (tgt : Nat) (d : decode cc pc = .ok (.goto off, 3)) (ht : (pc : Int) + off = (tgt : Int)) (k : VV l D cs ad nL κ u M tgt lv st) : VV l D cs ad nL κ u M pc lv st := by
  obtain ⟨p, e, R, s, m, args, below, meth, c, c0, s0, Q⟩ := κ
  obtain ⟨hx, hb, hml, hown, hts, hK, hD, hfr, hlo, hc0, hs0⟩ := C
  intro H locs ls hP hS hl
  exact lv_goto hx hb d ht (k H locs ls hP hS hl)
theorem r_if_eq (C : CX D cs ad cc nL own fr lo U κ) {x : Int32} {off : Int} (tgt : Nat) (d : decode cc pc = .ok (.ifCond .eq off, 3)) (ht : (pc : Int) + off = (tgt : Int)) (kt : x = 0 → VV l D cs ad nL κ u M tgt lv st) (kf : ¬ (x = 0) → VV l D cs ad nL κ u M (pc + 3) lv st) : VV l D cs ad nL κ u M pc lv (.int x :: st) := by
  obtain ⟨p, e, R, s, m, args, below, meth, c, c0, s0, Q⟩ := κ
  obtain ⟨hx, hb, hml, hown, hts, hK, hD, hfr, hlo, hc0, hs0⟩ := C
  intro H locs ls hP hS hl
  exact lv_if_eq hx hb d ht (fun h => kt (by first | exact h | simpa using h) H locs ls hP hS hl) (fun h => kf (by first | exact h | simpa using h) H locs ls hP hS hl)
theorem r_if_ne (C : CX D cs ad cc nL own fr lo U κ) {x : Int32} {off : Int} (tgt : Nat) (d : decode cc pc = .ok (.ifCond .ne off, 3)) (ht : (pc : Int) + off = (tgt : Int)) (kt : ¬ x = 0 → VV l D cs ad nL κ u M tgt lv st) (kf : ¬ (¬ x = 0) → VV l D cs ad nL κ u M (pc + 3) lv st) : VV l D cs ad nL κ u M pc lv (.int x :: st) := by
  obtain ⟨p, e, R, s, m, args, below, meth, c, c0, s0, Q⟩ := κ
  obtain ⟨hx, hb, hml, hown, hts, hK, hD, hfr, hlo, hc0, hs0⟩ := C
  intro H locs ls hP hS hl
  exact lv_if_ne hx hb d ht (fun h => kt (by first | exact h | simpa using h) H locs ls hP hS hl) (fun h => kf (by first | exact h | simpa using h) H locs ls hP hS hl)
theorem r_if_lt (C : CX D cs ad cc nL own fr lo U κ) {x : Int32} {off : Int} (tgt : Nat) (d : decode cc pc = .ok (.ifCond .lt off, 3)) (ht : (pc : Int) + off = (tgt : Int)) (kt : x < 0 → VV l D cs ad nL κ u M tgt lv st) (kf : ¬ (x < 0) → VV l D cs ad nL κ u M (pc + 3) lv st) : VV l D cs ad nL κ u M pc lv (.int x :: st) := by
  obtain ⟨p, e, R, s, m, args, below, meth, c, c0, s0, Q⟩ := κ
  obtain ⟨hx, hb, hml, hown, hts, hK, hD, hfr, hlo, hc0, hs0⟩ := C
  intro H locs ls hP hS hl
  exact lv_if_lt hx hb d ht (fun h => kt (by first | exact h | simpa using h) H locs ls hP hS hl) (fun h => kf (by first | exact h | simpa using h) H locs ls hP hS hl)
theorem r_if_ge (C : CX D cs ad cc nL own fr lo U κ) {x : Int32} {off : Int} (tgt : Nat) (d : decode cc pc = .ok (.ifCond .ge off, 3)) (ht : (pc : Int) + off = (tgt : Int)) (kt : 0 ≤ x → VV l D cs ad nL κ u M tgt lv st) (kf : ¬ (0 ≤ x) → VV l D cs ad nL κ u M (pc + 3) lv st) : VV l D cs ad nL κ u M pc lv (.int x :: st) := by
  obtain ⟨p, e, R, s, m, args, below, meth, c, c0, s0, Q⟩ := κ
  obtain ⟨hx, hb, hml, hown, hts, hK, hD, hfr, hlo, hc0, hs0⟩ := C
  intro H locs ls hP hS hl
  exact lv_if_ge hx hb d ht (fun h => kt (by first | exact h | simpa using h) H locs ls hP hS hl) (fun h => kf (by first | exact h | simpa using h) H locs ls hP hS hl)
theorem r_if_gt (C : CX D cs ad cc nL own fr lo U κ) {x : Int32} {off : Int} (tgt : Nat) (d : decode cc pc = .ok (.ifCond .gt off, 3)) (ht : (pc : Int) + off = (tgt : Int)) (kt : 0 < x → VV l D cs ad nL κ u M tgt lv st) (kf : ¬ (0 < x) → VV l D cs ad nL κ u M (pc + 3) lv st) : VV l D cs ad nL κ u M pc lv (.int x :: st) := by
  obtain ⟨p, e, R, s, m, args, below, meth, c, c0, s0, Q⟩ := κ
  obtain ⟨hx, hb, hml, hown, hts, hK, hD, hfr, hlo, hc0, hs0⟩ := C
  intro H locs ls hP hS hl
  exact lv_if_gt hx hb d ht (fun h => kt (by first | exact h | simpa using h) H locs ls hP hS hl) (fun h => kf (by first | exact h | simpa using h) H locs ls hP hS hl)
theorem r_if_le (C : CX D cs ad cc nL own fr lo U κ) {x : Int32} {off : Int} (tgt : Nat) (d : decode cc pc = .ok (.ifCond .le off, 3)) (ht : (pc : Int) + off = (tgt : Int)) (kt : x ≤ 0 → VV l D cs ad nL κ u M tgt lv st) (kf : ¬ (x ≤ 0) → VV l D cs ad nL κ u M (pc + 3) lv st) : VV l D cs ad nL κ u M pc lv (.int x :: st) := by
  obtain ⟨p, e, R, s, m, args, below, meth, c, c0, s0, Q⟩ := κ
  obtain ⟨hx, hb, hml, hown, hts, hK, hD, hfr, hlo, hc0, hs0⟩ := C
  intro H locs ls hP hS hl
  exact lv_if_le hx hb d ht (fun h => kt (by first | exact h | simpa using h) H locs ls hP hS hl) (fun h => kf (by first | exact h | simpa using h) H locs ls hP hS hl)
theorem r_icmp_eq (C : CX D cs ad cc nL own fr lo U κ) {x y : Int32} {off : Int} (tgt : Nat) (d : decode cc pc = .ok (.if_icmp .eq off, 3)) (ht : (pc : Int) + off = (tgt : Int)) (kt : x = y → VV l D cs ad nL κ u M tgt lv st) (kf : ¬ (x = y) → VV l D cs ad nL κ u M (pc + 3) lv st) : VV l D cs ad nL κ u M pc lv (.int y :: .int x :: st) := by
  obtain ⟨p, e, R, s, m, args, below, meth, c, c0, s0, Q⟩ := κ
  obtain ⟨hx, hb, hml, hown, hts, hK, hD, hfr, hlo, hc0, hs0⟩ := C
  intro H locs ls hP hS hl
  exact lv_icmp_eq hx hb d ht (fun h => kt (by first | exact h | simpa using h) H locs ls hP hS hl) (fun h => kf (by first | exact h | simpa using h) H locs ls hP hS hl)
theorem r_icmpN_eq (C : CX D cs ad cc nL own fr lo U κ) {a b : Nat} {off : Int} (tgt : Nat) (d : decode cc pc = .ok (.if_icmp .eq off, 3)) (ht : (pc : Int) + off = (tgt : Int)) (ha : a < 2 ^ 31) (hb9 : b < 2 ^ 31) (kt : a = b → VV l D cs ad nL κ u M tgt lv st) (kf : ¬ (a = b) → VV l D cs ad nL κ u M (pc + 3) lv st) : VV l D cs ad nL κ u M pc lv (.int (nI b) :: .int (nI a) :: st) := r_icmp_eq C tgt d ht (fun h => kt ((nI_eq ha hb9).mp h)) (fun h => kf (fun q => h ((nI_eq ha hb9).mpr q)))
theorem r_icmp_ne (C : CX D cs ad cc nL own fr lo U κ) {x y : Int32} {off : Int} (tgt : Nat) (d : decode cc pc = .ok (.if_icmp .ne off, 3)) (ht : (pc : Int) + off = (tgt : Int)) (kt : ¬ x = y → VV l D cs ad nL κ u M tgt lv st) (kf : ¬ (¬ x = y) → VV l D cs ad nL κ u M (pc + 3) lv st) : VV l D cs ad nL κ u M pc lv (.int y :: .int x :: st) := by
  obtain ⟨p, e, R, s, m, args, below, meth, c, c0, s0, Q⟩ := κ
  obtain ⟨hx, hb, hml, hown, hts, hK, hD, hfr, hlo, hc0, hs0⟩ := C
  intro H locs ls hP hS hl
  exact lv_icmp_ne hx hb d ht (fun h => kt (by first | exact h | simpa using h) H locs ls hP hS hl) (fun h => kf (by first | exact h | simpa using h) H locs ls hP hS hl)
theorem r_icmpN_ne (C : CX D cs ad cc nL own fr lo U κ) {a b : Nat} {off : Int} (tgt : Nat) (d : decode cc pc = .ok (.if_icmp .ne off, 3)) (ht : (pc : Int) + off = (tgt : Int)) (ha : a < 2 ^ 31) (hb9 : b < 2 ^ 31) (kt : ¬ a = b → VV l D cs ad nL κ u M tgt lv st) (kf : ¬ (¬ a = b) → VV l D cs ad nL κ u M (pc + 3) lv st) : VV l D cs ad nL κ u M pc lv (.int (nI b) :: .int (nI a) :: st) := r_icmp_ne C tgt d ht (fun h => kt ((not_congr (nI_eq ha hb9)).mp h)) (fun h => kf (fun q => h ((not_congr (nI_eq ha hb9)).mpr q)))
theorem r_icmp_lt (C : CX D cs ad cc nL own fr lo U κ) {x y : Int32} {off : Int} (tgt : Nat) (d : decode cc pc = .ok (.if_icmp .lt off, 3)) (ht : (pc : Int) + off = (tgt : Int)) (kt : x < y → VV l D cs ad nL κ u M tgt lv st) (kf : ¬ (x < y) → VV l D cs ad nL κ u M (pc + 3) lv st) : VV l D cs ad nL κ u M pc lv (.int y :: .int x :: st) := by
  obtain ⟨p, e, R, s, m, args, below, meth, c, c0, s0, Q⟩ := κ
  obtain ⟨hx, hb, hml, hown, hts, hK, hD, hfr, hlo, hc0, hs0⟩ := C
  intro H locs ls hP hS hl
  exact lv_icmp_lt hx hb d ht (fun h => kt (by first | exact h | simpa using h) H locs ls hP hS hl) (fun h => kf (by first | exact h | simpa using h) H locs ls hP hS hl)
theorem r_icmpN_lt (C : CX D cs ad cc nL own fr lo U κ) {a b : Nat} {off : Int} (tgt : Nat) (d : decode cc pc = .ok (.if_icmp .lt off, 3)) (ht : (pc : Int) + off = (tgt : Int)) (ha : a < 2 ^ 31) (hb9 : b < 2 ^ 31) (kt : a < b → VV l D cs ad nL κ u M tgt lv st) (kf : ¬ (a < b) → VV l D cs ad nL κ u M (pc + 3) lv st) : VV l D cs ad nL κ u M pc lv (.int (nI b) :: .int (nI a) :: st) := r_icmp_lt C tgt d ht (fun h => kt ((nI_ltI ha hb9).mp h)) (fun h => kf (fun q => h ((nI_ltI ha hb9).mpr q)))
theorem r_icmp_ge (C : CX D cs ad cc nL own fr lo U κ) {x y : Int32} {off : Int} (tgt : Nat) (d : decode cc pc = .ok (.if_icmp .ge off, 3)) (ht : (pc : Int) + off = (tgt : Int)) (kt : y ≤ x → VV l D cs ad nL κ u M tgt lv st) (kf : ¬ (y ≤ x) → VV l D cs ad nL κ u M (pc + 3) lv st) : VV l D cs ad nL κ u M pc lv (.int y :: .int x :: st) := by
  obtain ⟨p, e, R, s, m, args, below, meth, c, c0, s0, Q⟩ := κ
  obtain ⟨hx, hb, hml, hown, hts, hK, hD, hfr, hlo, hc0, hs0⟩ := C
  intro H locs ls hP hS hl
  exact lv_icmp_ge hx hb d ht (fun h => kt (by first | exact h | simpa using h) H locs ls hP hS hl) (fun h => kf (by first | exact h | simpa using h) H locs ls hP hS hl)
theorem r_icmpN_ge (C : CX D cs ad cc nL own fr lo U κ) {a b : Nat} {off : Int} (tgt : Nat) (d : decode cc pc = .ok (.if_icmp .ge off, 3)) (ht : (pc : Int) + off = (tgt : Int)) (ha : a < 2 ^ 31) (hb9 : b < 2 ^ 31) (kt : b ≤ a → VV l D cs ad nL κ u M tgt lv st) (kf : ¬ (b ≤ a) → VV l D cs ad nL κ u M (pc + 3) lv st) : VV l D cs ad nL κ u M pc lv (.int (nI b) :: .int (nI a) :: st) := r_icmp_ge C tgt d ht (fun h => kt ((nI_leI hb9 ha).mp h)) (fun h => kf (fun q => h ((nI_leI hb9 ha).mpr q)))
theorem r_icmp_gt (C : CX D cs ad cc nL own fr lo U κ) {x y : Int32} {off : Int} (tgt : Nat) (d : decode cc pc = .ok (.if_icmp .gt off, 3)) (ht : (pc : Int) + off = (tgt : Int)) (kt : y < x → VV l D cs ad nL κ u M tgt lv st) (kf : ¬ (y < x) → VV l D cs ad nL κ u M (pc + 3) lv st) : VV l D cs ad nL κ u M pc lv (.int y :: .int x :: st) := by
  obtain ⟨p, e, R, s, m, args, below, meth, c, c0, s0, Q⟩ := κ
  obtain ⟨hx, hb, hml, hown, hts, hK, hD, hfr, hlo, hc0, hs0⟩ := C
  intro H locs ls hP hS hl
  exact lv_icmp_gt hx hb d ht (fun h => kt (by first | exact h | simpa using h) H locs ls hP hS hl) (fun h => kf (by first | exact h | simpa using h) H locs ls hP hS hl)
theorem r_icmpN_gt (C : CX D cs ad cc nL own fr lo U κ) {a b : Nat} {off : Int} (tgt : Nat) (d : decode cc pc = .ok (.if_icmp .gt off, 3)) (ht : (pc : Int) + off = (tgt : Int)) (ha : a < 2 ^ 31) (hb9 : b < 2 ^ 31) (kt : b < a → VV l D cs ad nL κ u M tgt lv st) (kf : ¬ (b < a) → VV l D cs ad nL κ u M (pc + 3) lv st) : VV l D cs ad nL κ u M pc lv (.int (nI b) :: .int (nI a) :: st) := r_icmp_gt C tgt d ht (fun h => kt ((nI_ltI hb9 ha).mp h)) (fun h => kf (fun q => h ((nI_ltI hb9 ha).mpr q)))
theorem r_icmp_le (C : CX D cs ad cc nL own fr lo U κ) {x y : Int32} {off : Int} (tgt : Nat) (d : decode cc pc = .ok (.if_icmp .le off, 3)) (ht : (pc : Int) + off = (tgt : Int)) (kt : x ≤ y → VV l D cs ad nL κ u M tgt lv st) (kf : ¬ (x ≤ y) → VV l D cs ad nL κ u M (pc + 3) lv st) : VV l D cs ad nL κ u M pc lv (.int y :: .int x :: st) := by
  obtain ⟨p, e, R, s, m, args, below, meth, c, c0, s0, Q⟩ := κ
  obtain ⟨hx, hb, hml, hown, hts, hK, hD, hfr, hlo, hc0, hs0⟩ := C
  intro H locs ls hP hS hl
  exact lv_icmp_le hx hb d ht (fun h => kt (by first | exact h | simpa using h) H locs ls hP hS hl) (fun h => kf (by first | exact h | simpa using h) H locs ls hP hS hl)
theorem r_icmpN_le (C : CX D cs ad cc nL own fr lo U κ) {a b : Nat} {off : Int} (tgt : Nat) (d : decode cc pc = .ok (.if_icmp .le off, 3)) (ht : (pc : Int) + off = (tgt : Int)) (ha : a < 2 ^ 31) (hb9 : b < 2 ^ 31) (kt : a ≤ b → VV l D cs ad nL κ u M tgt lv st) (kf : ¬ (a ≤ b) → VV l D cs ad nL κ u M (pc + 3) lv st) : VV l D cs ad nL κ u M pc lv (.int (nI b) :: .int (nI a) :: st) := r_icmp_le C tgt d ht (fun h => kt ((nI_leI ha hb9).mp h)) (fun h => kf (fun q => h ((nI_leI ha hb9).mpr q)))
theorem r_ifB_eq (C : CX D cs ad cc nL own fr lo U κ) {b : Bool} {off : Int} (tgt : Nat) (d : decode cc pc = .ok (.ifCond .eq off, 3)) (ht : (pc : Int) + off = (tgt : Int)) (kt : b = false → VV l D cs ad nL κ u M tgt lv st) (kf : b = true → VV l D cs ad nL κ u M (pc + 3) lv st) : VV l D cs ad nL κ u M pc lv (.int (bI b) :: st) := r_if_eq C tgt d ht (fun h => kt (by cases b <;> first | rfl | exact absurd h (by decide))) (fun h => kf (by cases b <;> first | rfl | exact absurd h (by decide)))
theorem r_ifB_ne (C : CX D cs ad cc nL own fr lo U κ) {b : Bool} {off : Int} (tgt : Nat) (d : decode cc pc = .ok (.ifCond .ne off, 3)) (ht : (pc : Int) + off = (tgt : Int)) (kt : b = true → VV l D cs ad nL κ u M tgt lv st) (kf : b = false → VV l D cs ad nL κ u M (pc + 3) lv st) : VV l D cs ad nL κ u M pc lv (.int (bI b) :: st) := r_if_ne C tgt d ht (fun h => kt (by cases b <;> first | rfl | exact absurd h (by decide))) (fun h => kf (by cases b <;> first | rfl | exact absurd h (by decide)))
theorem r_tableIn (C : CX D cs ad cc nL own fr lo U κ) {dflt lo9 hi : Int} {offs : Array Int} {len : Nat} {x : Int32} {off : Int} (tgt : Nat) (d : decode cc pc = .ok (.tableswitch dflt lo9 hi offs, len)) (h1 : ¬ x.toInt < lo9) (h2 : ¬ hi < x.toInt) (ho : offs[(x.toInt - lo9).toNat]? = some off) (ht : (pc : Int) + off = (tgt : Int)) (k : VV l D cs ad nL κ u M tgt lv st) : VV l D cs ad nL κ u M pc lv (.int x :: st) := by
  obtain ⟨p, e, R, s, m, args, below, meth, c, c0, s0, Q⟩ := κ
  obtain ⟨hx, hb, hml, hown, hts, hK, hD, hfr, hlo, hc0, hs0⟩ := C
  intro H locs ls hP hS hl
  exact lv_tableIn hx hb d h1 h2 ho ht (k H locs ls hP hS hl)
theorem r_tableOut (C : CX D cs ad cc nL own fr lo U κ) {dflt lo9 hi : Int} {offs : Array Int} {len : Nat} {x : Int32} (tgt : Nat) (d : decode cc pc = .ok (.tableswitch dflt lo9 hi offs, len)) (h : x.toInt < lo9 ∨ hi < x.toInt) (ht : (pc : Int) + dflt = (tgt : Int)) (k : VV l D cs ad nL κ u M tgt lv st) : VV l D cs ad nL κ u M pc lv (.int x :: st) := by
  obtain ⟨p, e, R, s, m, args, below, meth, c, c0, s0, Q⟩ := κ
  obtain ⟨hx, hb, hml, hown, hts, hK, hD, hfr, hlo, hc0, hs0⟩ := C
  intro H locs ls hP hS hl
  exact lv_tableOut hx hb d h ht (k H locs ls hP hS hl)
theorem r_lookup (C : CX D cs ad cc nL own fr lo U κ) {dflt : Int} {ps : Array (Int × Int)} {len : Nat} {x : Int32} {off : Int} (tgt : Nat) (d : decode cc pc = .ok (.lookupswitch dflt ps, len)) (hp : (ps.toList.zip (ps.toList.drop 1)).all (fun (a, next) => a.1 < next.1) = true) (ho : Op.lookupswitch.offset ps.toList dflt x.toInt = off) (ht : (pc : Int) + off = (tgt : Int)) (k : VV l D cs ad nL κ u M tgt lv st) : VV l D cs ad nL κ u M pc lv (.int x :: st) := by
  obtain ⟨p, e, R, s, m, args, below, meth, c, c0, s0, Q⟩ := κ
  obtain ⟨hx, hb, hml, hown, hts, hK, hD, hfr, hlo, hc0, hs0⟩ := C
  intro H locs ls hP hS hl
  exact lv_lookup hx hb d hp ho ht (k H locs ls hP hS hl)
theorem r_st {st2 : List Value} (h : st = st2) (k : VV l D cs ad nL κ u M pc lv st2) : VV l D cs ad nL κ u M pc lv st := h ▸ k
theorem r_top {v w : Value} (h : v = w) (k : VV l D cs ad nL κ u M pc lv (w :: st)) : VV l D cs ad nL κ u M pc lv (v :: st) := h ▸ k
theorem r_topi {v w : Int32} (h : v = w) (k : VV l D cs ad nL κ u M pc lv (.int w :: st)) : VV l D cs ad nL κ u M pc lv (.int v :: st) := h ▸ k
theorem r_topl {v w : Int64} (h : v = w) (k : VV l D cs ad nL κ u M pc lv (.long w :: st)) : VV l D cs ad nL κ u M pc lv (.long v :: st) := h ▸ k
theorem r_lv {lv2 : List (Nat × Value)} (ks : List Nat) (h : lv_pick lv ks = lv2) (k : VV l D cs ad nL κ u M pc lv2 st) : VV l D cs ad nL κ u M pc lv st := by
  obtain ⟨p, e, R, s, m, args, below, meth, c, c0, s0, Q⟩ := κ
  exact fun H locs ls hP hS hl => k H locs ls hP hS (lv_sub hl ks h)
theorem r_mem {M2 : Mm} (h : M = M2) (k : VV l D cs ad nL κ u M2 pc lv st) : VV l D cs ad nL κ u M pc lv st := h ▸ k
theorem r_nm {st1 : List Value} (k : ∀ M2, M2 = M → VV l D cs ad nL κ u M2 pc lv st1) : VV l D cs ad nL κ u M pc lv st1 := k M rfl
theorem r_get (C : CX D cs ad cc nL own fr lo U κ) {ref Cn : String} {T : u_T} {N ci index id : Nat} (hid : id < 146) (hin : ∀ w ∈ u_ws Cn T N, w ∈ TT) {fs : List Value} (he : wF cs ad id (M.1 id) (M.2 id) = .inr (ci, fs)) (hc : vwCl[ci]? = some (Cn, T, N)) (k9 : Nat) (hk9 : k9 < N) (href : (T k9).1 = ref) (w : Cond.fieldLink own index ref (T k9).2.1 (T k9).2.2.1 ∈ TT) {v : Value} (hv : fs[k9]? = some v) (d : decode cc pc = .ok (.getfield index, 3)) (k : VV l D cs ad nL κ u M (pc + 3) lv (v :: st)) : VV l D cs ad nL κ u M pc lv (.ref (ad id) :: st) := by
  obtain ⟨p, e, R, s, m, args, below, meth, c, c0, s0, Q⟩ := κ
  obtain ⟨hx, hb, hml, hown, hts, hK, hD, hfr, hlo, hc0, hs0⟩ := C
  intro H locs ls hP hS hl
  exact va_get hx hb hts hin hown hK hP id (by rw [wW_get cs ad M hid, he]) hc k9 hk9 (hts _ w) (fun x h9 => by rw [href] at h9; exact h9) hv d (k H locs ls hP hS hl)
theorem r_put (C : CX D cs ad cc nL own fr lo U κ) {ref Cn : String} {T : u_T} {N ci index id : Nat} {M2 : Mm} (hid : id < 146) (hin : ∀ w ∈ u_ws Cn T N, w ∈ TT) {ty0 : Nat → FieldType} (hty : ∀ k, k < N → parseFieldDescriptor (T k).2.2.1 = some (ty0 k)) (hnm : ∀ a, a < N → ∀ b, b < N → a ≠ b → (T a).2.1 ≠ (T b).2.1) {fs : List Value} (he : wF cs ad id (M.1 id) (M.2 id) = .inr (ci, fs)) (hc : vwCl[ci]? = some (Cn, T, N)) (k9 : Nat) (hk9 : k9 < N) (href : (T k9).1 = ref) (w : Cond.fieldLink own index ref (T k9).2.1 (T k9).2.2.1 ∈ TT) (hfin : (T k9).2.2.2 = false) {v : Value} (hn : narrow (ty0 k9) v = v) (hfit : fits (ty0 k9) v = true) (hl9 : k9 < fs.length) (hM : ∀ j, j ≠ id → M2.1 j = M.1 j ∧ M2.2 j = M.2 j) (h2 : wF cs ad id (M2.1 id) (M2.2 id) = .inr (ci, fs.set k9 v)) (d : decode cc pc = .ok (.putfield index, 3)) (k : VV l D cs ad nL κ u M2 (pc + 3) lv st) : VV l D cs ad nL κ u M pc lv (v :: .ref (ad id) :: st) := by
  obtain ⟨p, e, R, s, m, args, below, meth, c, c0, s0, Q⟩ := κ
  obtain ⟨hx, hb, hml, hown, hts, hK, hD, hfr, hlo, hc0, hs0⟩ := C
  intro H locs ls hP hS hl
  refine va_put hx hb hts hin ty0 hty hnm hown hK hP (hD M) hS id (by rw [wW_get cs ad M hid, he]) hc k9 hk9 (hts _ w) (fun x h9 => by rw [href] at h9; exact h9) hfin (hty k9 hk9) hn hfit hl9 d (fun H1 locs1 hP1 hD1 hS1 => ?_)
  rw [wW_set cs ad hid hM h2] at hP1
  exact k H1 locs1 ls hP1 hS1 hl
theorem r_iald (C : CX D cs ad cc nL own fr lo U κ) {id n a : Nat} (hid : id < 146) (he : wF cs ad id (M.1 id) (M.2 id) = .inl (cs 0, n, .inl (M.1 id))) (ha : a < n) (hn : n < 2 ^ 31) (d : decode cc pc = .ok (.iaload, 1)) (k : VV l D cs ad nL κ u M (pc + 1) lv (.int (M.1 id a) :: st)) : VV l D cs ad nL κ u M pc lv (.int (nI a) :: .ref (ad id) :: st) := by
  obtain ⟨p, e, R, s, m, args, below, meth, c, c0, s0, Q⟩ := κ
  obtain ⟨hx, hb, hml, hown, hts, hK, hD, hfr, hlo, hc0, hs0⟩ := C
  intro H locs ls hP hS hl
  refine va_iald hx hb hK hP id 0 (by rw [wW_get cs ad M hid, he]) rfl (vp_in_nI ha hn) d ?_
  rw [nI_clamp (by omega)]
  exact (k H locs ls hP hS hl)
theorem r_cald (C : CX D cs ad cc nL own fr lo U κ) {id n a : Nat} (hid : id < 146) (he : wF cs ad id (M.1 id) (M.2 id) = .inl (cs 1, n, .inl (M.1 id))) (ha : a < n) (hn : n < 2 ^ 31) (d : decode cc pc = .ok (.caload, 1)) (k : VV l D cs ad nL κ u M (pc + 1) lv (.int (M.1 id a) :: st)) : VV l D cs ad nL κ u M pc lv (.int (nI a) :: .ref (ad id) :: st) := by
  obtain ⟨p, e, R, s, m, args, below, meth, c, c0, s0, Q⟩ := κ
  obtain ⟨hx, hb, hml, hown, hts, hK, hD, hfr, hlo, hc0, hs0⟩ := C
  intro H locs ls hP hS hl
  refine va_cald hx hb hK hP id 1 (by rw [wW_get cs ad M hid, he]) rfl (vp_in_nI ha hn) d ?_
  rw [nI_clamp (by omega)]
  exact (k H locs ls hP hS hl)
theorem r_zald (C : CX D cs ad cc nL own fr lo U κ) {id n a : Nat} (hid : id < 146) (he : wF cs ad id (M.1 id) (M.2 id) = .inl (cs 2, n, .inl (M.1 id))) (ha : a < n) (hn : n < 2 ^ 31) (d : decode cc pc = .ok (.baload, 1)) (k : VV l D cs ad nL κ u M (pc + 1) lv (.int (M.1 id a) :: st)) : VV l D cs ad nL κ u M pc lv (.int (nI a) :: .ref (ad id) :: st) := by
  obtain ⟨p, e, R, s, m, args, below, meth, c, c0, s0, Q⟩ := κ
  obtain ⟨hx, hb, hml, hown, hts, hK, hD, hfr, hlo, hc0, hs0⟩ := C
  intro H locs ls hP hS hl
  refine va_zald hx hb hK hP id 2 (by rw [wW_get cs ad M hid, he]) rfl (vp_in_nI ha hn) d ?_
  rw [nI_clamp (by omega)]
  exact (k H locs ls hP hS hl)
theorem r_lald (C : CX D cs ad cc nL own fr lo U κ) {id n a : Nat} (hid : id < 146) (he : wF cs ad id (M.1 id) (M.2 id) = .inl (cs 3, n, .inr (.inl (M.2 id)))) (ha : a < n) (hn : n < 2 ^ 31) (d : decode cc pc = .ok (.laload, 1)) (k : VV l D cs ad nL κ u M (pc + 1) lv (.long (M.2 id a) :: st)) : VV l D cs ad nL κ u M pc lv (.int (nI a) :: .ref (ad id) :: st) := by
  obtain ⟨p, e, R, s, m, args, below, meth, c, c0, s0, Q⟩ := κ
  obtain ⟨hx, hb, hml, hown, hts, hK, hD, hfr, hlo, hc0, hs0⟩ := C
  intro H locs ls hP hS hl
  refine va_lald hx hb hK hP id 3 (by rw [wW_get cs ad M hid, he]) rfl (vp_in_nI ha hn) d ?_
  rw [nI_clamp (by omega)]
  exact (k H locs ls hP hS hl)
theorem r_iast (C : CX D cs ad cc nL own fr lo U κ) {id n a : Nat} {x : Int32} (hid : id < 146) (he2 : ∀ f, wF cs ad id f (M.2 id) = .inl (cs 0, n, .inl f)) (ha : a < n) (hn : n < 2 ^ 31) (d : decode cc pc = .ok (.iastore, 1)) (k : VV l D cs ad nL κ u (mI M id a x) (pc + 1) lv st) : VV l D cs ad nL κ u M pc lv (.int x :: .int (nI a) :: .ref (ad id) :: st) := by
  obtain ⟨p, e, R, s, m, args, below, meth, c, c0, s0, Q⟩ := κ
  obtain ⟨hx, hb, hml, hown, hts, hK, hD, hfr, hlo, hc0, hs0⟩ := C
  intro H locs ls hP hS hl
  refine va_iast hx hb hK hP (hD M) hS id 0 (by rw [wW_get cs ad M hid, he2]) rfl (vp_in_nI ha hn) d (fun H1 locs1 hP1 hD1 hS1 => ?_)
  rw [nI_clamp (by omega), wW_set cs ad (M := M) (M' := mI M id a x) hid (fun j hj => ⟨mI_ne M hj, rfl⟩) (by rw [mI_eq]; exact he2 _)] at hP1
  exact k H1 locs1 ls hP1 hS1 hl
theorem r_last (C : CX D cs ad cc nL own fr lo U κ) {id n a : Nat} {x : Int64} (hid : id < 146) (he2 : ∀ f, wF cs ad id (M.1 id) f = .inl (cs 3, n, .inr (.inl f))) (ha : a < n) (hn : n < 2 ^ 31) (d : decode cc pc = .ok (.lastore, 1)) (k : VV l D cs ad nL κ u (mJ M id a x) (pc + 1) lv st) : VV l D cs ad nL κ u M pc lv (.long x :: .int (nI a) :: .ref (ad id) :: st) := by
  obtain ⟨p, e, R, s, m, args, below, meth, c, c0, s0, Q⟩ := κ
  obtain ⟨hx, hb, hml, hown, hts, hK, hD, hfr, hlo, hc0, hs0⟩ := C
  intro H locs ls hP hS hl
  refine va_last hx hb hK hP (hD M) hS id 3 (by rw [wW_get cs ad M hid, he2]) rfl (vp_in_nI ha hn) d (fun H1 locs1 hP1 hD1 hS1 => ?_)
  rw [nI_clamp (by omega), wW_set cs ad (M := M) (M' := mJ M id a x) hid (fun j hj => ⟨rfl, mJ_ne M hj⟩) (by rw [mJ_eq]; exact he2 _)] at hP1
  exact k H1 locs1 ls hP1 hS1 hl
theorem r_cast (C : CX D cs ad cc nL own fr lo U κ) {id n a : Nat} {x : Int32} (hid : id < 146) (he2 : ∀ f, wF cs ad id f (M.2 id) = .inl (cs 1, n, .inl f)) (ha : a < n) (hn : n < 2 ^ 31) (hx9 : vp_nar .char x = x) (d : decode cc pc = .ok (.castore, 1)) (k : VV l D cs ad nL κ u (mI M id a x) (pc + 1) lv st) : VV l D cs ad nL κ u M pc lv (.int x :: .int (nI a) :: .ref (ad id) :: st) := by
  obtain ⟨p, e, R, s, m, args, below, meth, c, c0, s0, Q⟩ := κ
  obtain ⟨hx, hb, hml, hown, hts, hK, hD, hfr, hlo, hc0, hs0⟩ := C
  intro H locs ls hP hS hl
  refine va_cast hx hb hK hP (hD M) hS id 1 (by rw [wW_get cs ad M hid, he2]) rfl (vp_in_nI ha hn) d (fun H1 locs1 hP1 hD1 hS1 => ?_)
  rw [hx9, nI_clamp (by omega), wW_set cs ad (M := M) (M' := mI M id a x) hid (fun j hj => ⟨mI_ne M hj, rfl⟩) (by rw [mI_eq]; exact he2 _)] at hP1
  exact k H1 locs1 ls hP1 hS1 hl
theorem r_zast (C : CX D cs ad cc nL own fr lo U κ) {id n a : Nat} {x : Int32} (hid : id < 146) (he2 : ∀ f, wF cs ad id f (M.2 id) = .inl (cs 2, n, .inl f)) (ha : a < n) (hn : n < 2 ^ 31) (hx9 : vp_nar .boolean x = x) (d : decode cc pc = .ok (.bastore, 1)) (k : VV l D cs ad nL κ u (mI M id a x) (pc + 1) lv st) : VV l D cs ad nL κ u M pc lv (.int x :: .int (nI a) :: .ref (ad id) :: st) := by
  obtain ⟨p, e, R, s, m, args, below, meth, c, c0, s0, Q⟩ := κ
  obtain ⟨hx, hb, hml, hown, hts, hK, hD, hfr, hlo, hc0, hs0⟩ := C
  intro H locs ls hP hS hl
  refine va_zast hx hb hK hP (hD M) hS id 2 (by rw [wW_get cs ad M hid, he2]) rfl (vp_in_nI ha hn) d (fun H1 locs1 hP1 hD1 hS1 => ?_)
  rw [hx9, nI_clamp (by omega), wW_set cs ad (M := M) (M' := mI M id a x) hid (fun j hj => ⟨mI_ne M hj, rfl⟩) (by rw [mI_eq]; exact he2 _)] at hP1
  exact k H1 locs1 ls hP1 hS1 hl
theorem r_aald (C : CX D cs ad cc nL own fr lo U κ) {id n a id2 t0 : Nat} {cA : ClassId} {ty : FieldType} {f : Nat → Option Nat} (hid : id < 146) (he : wF cs ad id (M.1 id) (M.2 id) = .inl (cA, n, .inr (.inr (.inr (.inr f))))) (ht0 : (tyC cs)[t0]? = some (cA, ty)) (hty : ty.isReference = true) (ha : a < n) (hn : n < 2 ^ 31) (hf : f a = some (ad id2)) (d : decode cc pc = .ok (.aaload, 1)) (k : VV l D cs ad nL κ u M (pc + 1) lv (.ref (ad id2) :: st)) : VV l D cs ad nL κ u M pc lv (.int (nI a) :: .ref (ad id) :: st) := by
  obtain ⟨p, e, R, s, m, args, below, meth, c, c0, s0, Q⟩ := κ
  obtain ⟨hx, hb, hml, hown, hts, hK, hD, hfr, hlo, hc0, hs0⟩ := C
  intro H locs ls hP hS hl
  have hlt : (nI a).toNatClampNeg < n := by rw [nI_clamp (by omega)]; exact ha
  have hin := vp_in_nI ha hn
  have hcell := hP id _ (by rw [wW_get cs ad M hid, he])
  refine W.aald (v := va_rf (f (nI a).toNatClampNeg)) (ty := ty) hx hb hcell ((hK.2 t0 _ ht0).1 n (fun j => va_rf (f j))) hty (fun q => by cases q) (by show ¬ (nI a < 0 ∨ (arrV _ _ _).slots.size ≤ _); rw [arrV_size]; exact hin) (by show (arrV _ _ _).slots[_]? = _; rw [arrV_read _ _ hlt]) rfl rfl d ?_
  rw [nI_clamp (by omega), hf]
  exact (k H locs ls hP hS hl)
theorem r_copyi (C : CX D cs ad cc nL own fr lo U κ) {index id0 id1 n0 n1 a b n : Nat} (hid0 : id0 < 146) (hid1 : id1 < 146) (he0 : wF cs ad id0 (M.1 id0) (M.2 id0) = .inl (cs 0, n0, .inl (M.1 id0))) (he1 : ∀ f, wF cs ad id1 f (M.2 id1) = .inl (cs 0, n1, .inl f)) (h0 : a + n ≤ n0) (h1 : b + n ≤ n1) (hn0 : n0 < 2 ^ 31) (hn1 : n1 < 2 ^ 31) (w1 : Cond.methodLink own index arraycopyName ∈ TT) (w2 : Cond.native arraycopyName ∈ TT) (w3 : Cond.static arraycopyName ∈ TT) (w4 : Cond.initialized "java/lang/System" ∈ TT) (hfr1 : 1 ≤ fr) (hlo1 : (st.map fun v => v.category).sum + (nativeFrameWords "java/lang/System" "arraycopy" 5 + 11) ≤ lo) (d : decode cc pc = .ok (.invokestatic index, 3)) (k : VV l D cs ad nL κ u (mA M id1 (va_cpy (M.1 id0) (M.1 id1) a b n)) (pc + 3) lv st) : VV l D cs ad nL κ u M pc lv (.int (nI n) :: .int (nI b) :: .ref (ad id1) :: .int (nI a) :: .ref (ad id0) :: st) := by
  obtain ⟨p, e, R, s, m, args, below, meth, c, c0, s0, Q⟩ := κ
  obtain ⟨hx, hb, hml, hown, hts, hK, hD, hfr, hlo, hc0, hs0⟩ := C
  intro H locs ls hP hS hl
  have ea : (nI a).toNatClampNeg = a := nI_clamp (by omega)
  have eb : (nI b).toNatClampNeg = b := nI_clamp (by omega)
  have en : (nI n).toNatClampNeg = n := nI_clamp (by omega)
  refine va_copyi hx hb (hml.trans hl.1.symm) hown (hts _ w1) (hts _ w2) (hts _ w3) (hts _ w4) hK hP (hD M) hS id0 id1 0 0 (by rw [wW_get cs ad M hid0, he0]) (by rw [wW_get cs ad M hid1, he1]) rfl rfl rfl (nI_pos (by omega)) (nI_pos (by omega)) (nI_pos (by omega)) (by rw [ea, en]; exact h0) (by rw [eb, en]; exact h1) (fun _ _ => rfl) (by rw [hfr]; exact hfr1) (by rw [hlo]; exact hlo1) d (fun H1 locs1 hP1 hD1 hS1 => ?_)
  rw [ea, eb, en, wW_set cs ad (M := M) (M' := mA M id1 (va_cpy (M.1 id0) (M.1 id1) a b n)) hid1 (fun j hj => ⟨mA_ne M hj, rfl⟩) (by rw [mA_eq]; exact he1 _)] at hP1
  exact k H1 locs1 ls hP1 hS1 hl
theorem r_mmax (C : CX D cs ad cc nL own fr lo U κ) (hu : u ≤ U) {x y : Int32} {index : Nat} (w1 : Cond.methodLink own index Lib.Math.max.name ∈ TT) (w2 : Cond.static Lib.Math.max.name ∈ TT) (w3 : Cond.initialized "java/lang/Math" ∈ TT) (w4 : Cond.code Lib.Math.max.name Lib.Math.max.code 2 (some .int) ∈ TT) (hfr1 : 1 ≤ fr) (hlo1 : (st.map fun v => v.category).sum + 13 ≤ lo) (d : decode cc pc = .ok (.invokestatic index, 3)) (k : VV l D cs ad nL κ u M (pc + 3) lv (.int (if x < y then y else x) :: st)) : VV l D cs ad nL κ u M pc lv (.int y :: .int x :: st) := by
  obtain ⟨p, e, R, s, m, args, below, meth, c, c0, s0, Q⟩ := κ
  obtain ⟨hx, hb, hml, hown, hts, hK, hD, hfr, hlo, hc0, hs0⟩ := C
  intro H locs ls hP hS hl
  exact va_mmax hx hb (hml.trans hl.1.symm) hown (hts _ w1) (hts _ w2) (hts _ w3) (hts _ w4) (by rw [hfr]; exact hfr1) (by rw [hlo]; exact hlo1) (by omega) (by omega) d (k H locs ls hP hS hl)
theorem r_mmin (C : CX D cs ad cc nL own fr lo U κ) (hu : u ≤ U) {x y : Int32} {index : Nat} (w1 : Cond.methodLink own index Lib.Math.min.name ∈ TT) (w2 : Cond.static Lib.Math.min.name ∈ TT) (w3 : Cond.initialized "java/lang/Math" ∈ TT) (w4 : Cond.code Lib.Math.min.name Lib.Math.min.code 2 (some .int) ∈ TT) (hfr1 : 1 ≤ fr) (hlo1 : (st.map fun v => v.category).sum + 13 ≤ lo) (d : decode cc pc = .ok (.invokestatic index, 3)) (k : VV l D cs ad nL κ u M (pc + 3) lv (.int (if y < x then y else x) :: st)) : VV l D cs ad nL κ u M pc lv (.int y :: .int x :: st) := by
  obtain ⟨p, e, R, s, m, args, below, meth, c, c0, s0, Q⟩ := κ
  obtain ⟨hx, hb, hml, hown, hts, hK, hD, hfr, hlo, hc0, hs0⟩ := C
  intro H locs ls hP hS hl
  exact va_mmin hx hb (hml.trans hl.1.symm) hown (hts _ w1) (hts _ w2) (hts _ w3) (hts _ w4) (by rw [hfr]; exact hfr1) (by rw [hlo]; exact hlo1) (by omega) (by omega) d (k H locs ls hP hS hl)
theorem r_mabs (C : CX D cs ad cc nL own fr lo U κ) (hu : u ≤ U) {x : Int32} {index : Nat} (w1 : Cond.methodLink own index Lib.Math.abs.name ∈ TT) (w2 : Cond.static Lib.Math.abs.name ∈ TT) (w3 : Cond.initialized "java/lang/Math" ∈ TT) (w4 : Cond.code Lib.Math.abs.name Lib.Math.abs.code 1 (some .int) ∈ TT) (hfr1 : 1 ≤ fr) (hlo1 : (st.map fun v => v.category).sum + 13 ≤ lo) (d : decode cc pc = .ok (.invokestatic index, 3)) (k : VV l D cs ad nL κ u M (pc + 3) lv (.int (if 0 ≤ x then x else 0 - x) :: st)) : VV l D cs ad nL κ u M pc lv (.int x :: st) := by
  obtain ⟨p, e, R, s, m, args, below, meth, c, c0, s0, Q⟩ := κ
  obtain ⟨hx, hb, hml, hown, hts, hK, hD, hfr, hlo, hc0, hs0⟩ := C
  intro H locs ls hP hS hl
  exact va_mabs hx hb (hml.trans hl.1.symm) hown (hts _ w1) (hts _ w2) (hts _ w3) (hts _ w4) (by rw [hfr]; exact hfr1) (by rw [hlo]; exact hlo1) (by omega) (by omega) d (k H locs ls hP hS hl)
theorem fA_mono {sz sz2 q : Nat} (h : sz ≤ sz2) (hq : fA ad sz2 q) : fA ad sz q := hq.elim Or.inl (fun w => Or.inr (Nat.le_trans h w))
theorem fb_B {As : List Value} {sz : Nat} : FrameBlind (va_Pc As (fun U9 => U9.heap.size = sz ∧ wB D cs ad (fA ad sz) M U9)) := fun a U g mk q => by
  obtain ⟨q0, q1, qP, qK, qD⟩ := q
  exact ⟨q0, q1, qP, va_K.moved (u := U) (U := U.calling g mk a) (Vm.Alike.refl U.vm) qK, qD⟩
theorem pr_B {s : State} {H : Heap} {As : List Value} (hK : va_K D vwCl (tyC cs) s) (hP : va_P D vwCl (wW cs ad M) H) (hD : va_D (fA ad s.heap.size) (wW cs ad M)) : ∀ U9 : State, U9.heap = H → s.WarmedH U9.vm → va_Pc As (fun U9 => U9.heap.size = H.size ∧ wB D cs ad (fA ad H.size) M U9) As.toArray U9 :=
  fun U9 hU hW => ⟨rfl, by rw [hU], by rw [hU]; exact hP, va_K.moved hW.alike hK, wD_any (fun i hi => fA_in hi) hD M⟩
theorem r_callS_i (C : CX D cs ad cc nL own fr lo U κ) (hu : u ≤ U) {y : MethodName} {b : ByteArray} {n nA idx : Nat} {rt : Option FieldType} {rm : Room} {rest : List Value} {post : Int32 → Mm → Prop} (As9 : List Value) (hM : ∀ sz, Met l y (.code y b n rt :: TT) rm (va_Pc As9 (fun U9 => U9.heap.size = sz ∧ wB D cs ad (fA ad sz) M U9)) (va_Qi post (wB D cs ad (fA ad sz)) (fA ad sz)) 0 0 (fA ad sz)) (hG : GoodIn TT (wsS own idx y (.code y b n rt :: TT))) (hrm : rm.cells = 0 ∧ rm.slots = 0) (hyd : y.cls = own ∧ y.cls ≠ "java/lang/invoke/MethodHandle" ∧ y.cls ≠ "java/lang/invoke/VarHandle" ∧ (parseMethodDescriptor y.desc).map (fun d => d.parameters.length) = some nA) (hR : rm.frames + 1 ≤ fr ∧ 8 + (n + 11) + rm.locals ≤ lo) (hn : As9.length = nA) (hst : st = As9.reverse ++ rest) (hW8 : (rest.map fun v => v.category).sum ≤ 8) (d : decode cc pc = .ok (.invokestatic idx, 3)) (k : ∀ (r : Int32) (M2 : Mm), post r M2 → VV l D cs ad nL κ u M2 (pc + 3) lv (.int r :: rest)) : VV l D cs ad nL κ u M pc lv st := by
  obtain ⟨p, e, R, s, m, args, below, meth, c, c0, s0, Q⟩ := κ
  obtain ⟨hx, hb, hml, hown, hts, hK, hD, hfr, hlo, hc0, hs0⟩ := C
  intro H locs ls hP hS hl
  subst hst
  refine va_calli (va_runS (As := As9) (rest := rest) ⟨hx, hb, hml, hown, hts⟩ (hM H.size) (cwS nA hts hG rfl hrm.1 hrm.2 hyd ⟨by rw [hfr]; exact hR.1, by rw [hlo]; exact hR.2⟩) ⟨fb_B, pr_B hK hP (hD M)⟩ rfl hn hl.1 rfl (lv_room hW8) d ⟨by omega, by omega⟩) hS (fun q _ h => fA_mono hS.1 h) (fun q h => fA_mono hS.1 h) (fun r M2 t H1 locs1 ht hvm hw hB hz1 hk1 hS1 => ?_)
  exact k r M2 hw H1 locs1 ls (by rw [← ht]; exact hB.1) hS1 hl
theorem r_callS2_i (C : CX D cs ad cc nL own fr lo U κ) (hu : u ≤ U) {y : MethodName} {b : ByteArray} {n nA idx : Nat} {rt : Option FieldType} {rm : Room} {rest : List Value} {post : Int32 → Mm → Prop} (As9 : List Value) (hM : ∀ sz, Met l y (.code y b n rt :: TT) rm (va_Pc As9 (fun U9 => U9.heap.size = sz ∧ wB D cs ad (fA ad sz) M U9)) (va_Qi post (wB D cs ad (fA ad sz)) (fA ad sz)) 0 0 (fA ad sz)) (hG : GoodIn TT (va_wsS own idx y (.code y b n rt :: TT))) (hrm : rm.cells = 0 ∧ rm.slots = 0) (hyd : y.cls ≠ "java/lang/invoke/MethodHandle" ∧ y.cls ≠ "java/lang/invoke/VarHandle" ∧ (parseMethodDescriptor y.desc).map (fun d => d.parameters.length) = some nA) (hR : rm.frames + 1 ≤ fr ∧ 8 + (n + 11) + rm.locals ≤ lo) (hn : As9.length = nA) (hst : st = As9.reverse ++ rest) (hW8 : (rest.map fun v => v.category).sum ≤ 8) (d : decode cc pc = .ok (.invokestatic idx, 3)) (k : ∀ (r : Int32) (M2 : Mm), post r M2 → VV l D cs ad nL κ u M2 (pc + 3) lv (.int r :: rest)) : VV l D cs ad nL κ u M pc lv st := by
  obtain ⟨p, e, R, s, m, args, below, meth, c, c0, s0, Q⟩ := κ
  obtain ⟨hx, hb, hml, hown, hts, hK, hD, hfr, hlo, hc0, hs0⟩ := C
  intro H locs ls hP hS hl
  subst hst
  refine va_calli (va_runS (As := As9) (rest := rest) ⟨hx, hb, hml, hown, hts⟩ (hM H.size) (va_cwS nA hts hG rfl hrm.1 hrm.2 hyd ⟨by rw [hfr]; exact hR.1, by rw [hlo]; exact hR.2⟩) ⟨fb_B, pr_B hK hP (hD M)⟩ rfl hn hl.1 rfl (lv_room hW8) d ⟨by omega, by omega⟩) hS (fun q _ h => fA_mono hS.1 h) (fun q h => fA_mono hS.1 h) (fun r M2 t H1 locs1 ht hvm hw hB hz1 hk1 hS1 => ?_)
  exact k r M2 hw H1 locs1 ls (by rw [← ht]; exact hB.1) hS1 hl
theorem r_callV_i (C : CX D cs ad cc nL own fr lo U κ) (hu : u ≤ U) {y : MethodName} {b : ByteArray} {n nA idx : Nat} {rt : Option FieldType} {rm : Room} {rest : List Value} {Cn : String} {ci id : Nat} {q9 : vw_C} {fs : List Value} {post : Int32 → Mm → Prop} (As9 : List Value) (hM : ∀ sz, Met l y (.code y b n rt :: TT) rm (va_Pc (.ref (ad id) :: As9) (fun U9 => U9.heap.size = sz ∧ wB D cs ad (fA ad sz) M U9)) (va_Qi post (wB D cs ad (fA ad sz)) (fA ad sz)) 0 0 (fA ad sz)) (hG : GoodIn TT (wsV own idx Cn y (.code y b n rt :: TT))) (hrm : rm.cells = 0 ∧ rm.slots = 0) (hyd : y.cls = Cn ∧ y.cls ≠ "java/lang/invoke/MethodHandle" ∧ y.cls ≠ "java/lang/invoke/VarHandle" ∧ (parseMethodDescriptor y.desc).map (fun d => d.parameters.length) = some nA) (hR : rm.frames + 1 ≤ fr ∧ 8 + (n + 11) + rm.locals ≤ lo) (hid : id < 146) (he : wF cs ad id (M.1 id) (M.2 id) = .inr (ci, fs)) (hc : vwCl[ci]? = some q9) (hq9 : q9.1 = Cn) (hn : As9.length = nA) (hst : st = As9.reverse ++ .ref (ad id) :: rest) (hW8 : (rest.map fun v => v.category).sum ≤ 8) (d : decode cc pc = .ok (.invokevirtual idx, 3)) (k : ∀ (r : Int32) (M2 : Mm), post r M2 → VV l D cs ad nL κ u M2 (pc + 3) lv (.int r :: rest)) : VV l D cs ad nL κ u M pc lv st := by
  obtain ⟨p, e, R, s, m, args, below, meth, c, c0, s0, Q⟩ := κ
  obtain ⟨hx, hb, hml, hown, hts, hK, hD, hfr, hlo, hc0, hs0⟩ := C
  intro H locs ls hP hS hl
  subst hst
  refine va_calli (va_runV (As := As9) (rest := rest) ⟨hx, hb, hml, hown, hts⟩ (hM H.size) (cwV nA hts hG rfl hrm.1 hrm.2 hyd ⟨by rw [hfr]; exact hR.1, by rw [hlo]; exact hR.2⟩) ⟨fb_B, ?_, pr_B hK hP (hD M)⟩ rfl hn hl.1 rfl (lv_room hW8) d ⟨by omega, by omega⟩) hS (fun q _ h => fA_mono hS.1 h) (fun q h => fA_mono hS.1 h) (fun r M2 t H1 locs1 ht hvm hw hB hz1 hk1 hS1 => ?_)
  · have h9 := va_recv hK hP hc (show (wW cs ad M)[id]? = _ by rw [wW_get cs ad M hid, he])
    rw [hq9] at h9
    exact h9
  · exact k r M2 hw H1 locs1 ls (by rw [← ht]; exact hB.1) hS1 hl
theorem r_callS_l (C : CX D cs ad cc nL own fr lo U κ) (hu : u ≤ U) {y : MethodName} {b : ByteArray} {n nA idx : Nat} {rt : Option FieldType} {rm : Room} {rest : List Value} {post : Int64 → Mm → Prop} (As9 : List Value) (hM : ∀ sz, Met l y (.code y b n rt :: TT) rm (va_Pc As9 (fun U9 => U9.heap.size = sz ∧ wB D cs ad (fA ad sz) M U9)) (va_Ql post (wB D cs ad (fA ad sz)) (fA ad sz)) 0 0 (fA ad sz)) (hG : GoodIn TT (wsS own idx y (.code y b n rt :: TT))) (hrm : rm.cells = 0 ∧ rm.slots = 0) (hyd : y.cls = own ∧ y.cls ≠ "java/lang/invoke/MethodHandle" ∧ y.cls ≠ "java/lang/invoke/VarHandle" ∧ (parseMethodDescriptor y.desc).map (fun d => d.parameters.length) = some nA) (hR : rm.frames + 1 ≤ fr ∧ 8 + (n + 11) + rm.locals ≤ lo) (hn : As9.length = nA) (hst : st = As9.reverse ++ rest) (hW8 : (rest.map fun v => v.category).sum ≤ 8) (d : decode cc pc = .ok (.invokestatic idx, 3)) (k : ∀ (r : Int64) (M2 : Mm), post r M2 → VV l D cs ad nL κ u M2 (pc + 3) lv (.long r :: rest)) : VV l D cs ad nL κ u M pc lv st := by
  obtain ⟨p, e, R, s, m, args, below, meth, c, c0, s0, Q⟩ := κ
  obtain ⟨hx, hb, hml, hown, hts, hK, hD, hfr, hlo, hc0, hs0⟩ := C
  intro H locs ls hP hS hl
  subst hst
  refine va_calll (va_runS (As := As9) (rest := rest) ⟨hx, hb, hml, hown, hts⟩ (hM H.size) (cwS nA hts hG rfl hrm.1 hrm.2 hyd ⟨by rw [hfr]; exact hR.1, by rw [hlo]; exact hR.2⟩) ⟨fb_B, pr_B hK hP (hD M)⟩ rfl hn hl.1 rfl (lv_room hW8) d ⟨by omega, by omega⟩) hS (fun q _ h => fA_mono hS.1 h) (fun q h => fA_mono hS.1 h) (fun r M2 t H1 locs1 ht hvm hw hB hz1 hk1 hS1 => ?_)
  exact k r M2 hw H1 locs1 ls (by rw [← ht]; exact hB.1) hS1 hl
theorem r_callS2_l (C : CX D cs ad cc nL own fr lo U κ) (hu : u ≤ U) {y : MethodName} {b : ByteArray} {n nA idx : Nat} {rt : Option FieldType} {rm : Room} {rest : List Value} {post : Int64 → Mm → Prop} (As9 : List Value) (hM : ∀ sz, Met l y (.code y b n rt :: TT) rm (va_Pc As9 (fun U9 => U9.heap.size = sz ∧ wB D cs ad (fA ad sz) M U9)) (va_Ql post (wB D cs ad (fA ad sz)) (fA ad sz)) 0 0 (fA ad sz)) (hG : GoodIn TT (va_wsS own idx y (.code y b n rt :: TT))) (hrm : rm.cells = 0 ∧ rm.slots = 0) (hyd : y.cls ≠ "java/lang/invoke/MethodHandle" ∧ y.cls ≠ "java/lang/invoke/VarHandle" ∧ (parseMethodDescriptor y.desc).map (fun d => d.parameters.length) = some nA) (hR : rm.frames + 1 ≤ fr ∧ 8 + (n + 11) + rm.locals ≤ lo) (hn : As9.length = nA) (hst : st = As9.reverse ++ rest) (hW8 : (rest.map fun v => v.category).sum ≤ 8) (d : decode cc pc = .ok (.invokestatic idx, 3)) (k : ∀ (r : Int64) (M2 : Mm), post r M2 → VV l D cs ad nL κ u M2 (pc + 3) lv (.long r :: rest)) : VV l D cs ad nL κ u M pc lv st := by
  obtain ⟨p, e, R, s, m, args, below, meth, c, c0, s0, Q⟩ := κ
  obtain ⟨hx, hb, hml, hown, hts, hK, hD, hfr, hlo, hc0, hs0⟩ := C
  intro H locs ls hP hS hl
  subst hst
  refine va_calll (va_runS (As := As9) (rest := rest) ⟨hx, hb, hml, hown, hts⟩ (hM H.size) (va_cwS nA hts hG rfl hrm.1 hrm.2 hyd ⟨by rw [hfr]; exact hR.1, by rw [hlo]; exact hR.2⟩) ⟨fb_B, pr_B hK hP (hD M)⟩ rfl hn hl.1 rfl (lv_room hW8) d ⟨by omega, by omega⟩) hS (fun q _ h => fA_mono hS.1 h) (fun q h => fA_mono hS.1 h) (fun r M2 t H1 locs1 ht hvm hw hB hz1 hk1 hS1 => ?_)
  exact k r M2 hw H1 locs1 ls (by rw [← ht]; exact hB.1) hS1 hl
theorem r_callV_l (C : CX D cs ad cc nL own fr lo U κ) (hu : u ≤ U) {y : MethodName} {b : ByteArray} {n nA idx : Nat} {rt : Option FieldType} {rm : Room} {rest : List Value} {Cn : String} {ci id : Nat} {q9 : vw_C} {fs : List Value} {post : Int64 → Mm → Prop} (As9 : List Value) (hM : ∀ sz, Met l y (.code y b n rt :: TT) rm (va_Pc (.ref (ad id) :: As9) (fun U9 => U9.heap.size = sz ∧ wB D cs ad (fA ad sz) M U9)) (va_Ql post (wB D cs ad (fA ad sz)) (fA ad sz)) 0 0 (fA ad sz)) (hG : GoodIn TT (wsV own idx Cn y (.code y b n rt :: TT))) (hrm : rm.cells = 0 ∧ rm.slots = 0) (hyd : y.cls = Cn ∧ y.cls ≠ "java/lang/invoke/MethodHandle" ∧ y.cls ≠ "java/lang/invoke/VarHandle" ∧ (parseMethodDescriptor y.desc).map (fun d => d.parameters.length) = some nA) (hR : rm.frames + 1 ≤ fr ∧ 8 + (n + 11) + rm.locals ≤ lo) (hid : id < 146) (he : wF cs ad id (M.1 id) (M.2 id) = .inr (ci, fs)) (hc : vwCl[ci]? = some q9) (hq9 : q9.1 = Cn) (hn : As9.length = nA) (hst : st = As9.reverse ++ .ref (ad id) :: rest) (hW8 : (rest.map fun v => v.category).sum ≤ 8) (d : decode cc pc = .ok (.invokevirtual idx, 3)) (k : ∀ (r : Int64) (M2 : Mm), post r M2 → VV l D cs ad nL κ u M2 (pc + 3) lv (.long r :: rest)) : VV l D cs ad nL κ u M pc lv st := by
  obtain ⟨p, e, R, s, m, args, below, meth, c, c0, s0, Q⟩ := κ
  obtain ⟨hx, hb, hml, hown, hts, hK, hD, hfr, hlo, hc0, hs0⟩ := C
  intro H locs ls hP hS hl
  subst hst
  refine va_calll (va_runV (As := As9) (rest := rest) ⟨hx, hb, hml, hown, hts⟩ (hM H.size) (cwV nA hts hG rfl hrm.1 hrm.2 hyd ⟨by rw [hfr]; exact hR.1, by rw [hlo]; exact hR.2⟩) ⟨fb_B, ?_, pr_B hK hP (hD M)⟩ rfl hn hl.1 rfl (lv_room hW8) d ⟨by omega, by omega⟩) hS (fun q _ h => fA_mono hS.1 h) (fun q h => fA_mono hS.1 h) (fun r M2 t H1 locs1 ht hvm hw hB hz1 hk1 hS1 => ?_)
  · have h9 := va_recv hK hP hc (show (wW cs ad M)[id]? = _ by rw [wW_get cs ad M hid, he])
    rw [hq9] at h9
    exact h9
  · exact k r M2 hw H1 locs1 ls (by rw [← ht]; exact hB.1) hS1 hl
theorem r_callS_d (C : CX D cs ad cc nL own fr lo U κ) (hu : u ≤ U) {y : MethodName} {b : ByteArray} {n nA idx : Nat} {rt : Option FieldType} {rm : Room} {rest : List Value} {post : UInt64 → Mm → Prop} (As9 : List Value) (hM : ∀ sz, Met l y (.code y b n rt :: TT) rm (va_Pc As9 (fun U9 => U9.heap.size = sz ∧ wB D cs ad (fA ad sz) M U9)) (va_Qd post (wB D cs ad (fA ad sz)) (fA ad sz)) 0 0 (fA ad sz)) (hG : GoodIn TT (wsS own idx y (.code y b n rt :: TT))) (hrm : rm.cells = 0 ∧ rm.slots = 0) (hyd : y.cls = own ∧ y.cls ≠ "java/lang/invoke/MethodHandle" ∧ y.cls ≠ "java/lang/invoke/VarHandle" ∧ (parseMethodDescriptor y.desc).map (fun d => d.parameters.length) = some nA) (hR : rm.frames + 1 ≤ fr ∧ 8 + (n + 11) + rm.locals ≤ lo) (hn : As9.length = nA) (hst : st = As9.reverse ++ rest) (hW8 : (rest.map fun v => v.category).sum ≤ 8) (d : decode cc pc = .ok (.invokestatic idx, 3)) (k : ∀ (r : UInt64) (M2 : Mm), post r M2 → VV l D cs ad nL κ u M2 (pc + 3) lv (.double r :: rest)) : VV l D cs ad nL κ u M pc lv st := by
  obtain ⟨p, e, R, s, m, args, below, meth, c, c0, s0, Q⟩ := κ
  obtain ⟨hx, hb, hml, hown, hts, hK, hD, hfr, hlo, hc0, hs0⟩ := C
  intro H locs ls hP hS hl
  subst hst
  refine va_calld (va_runS (As := As9) (rest := rest) ⟨hx, hb, hml, hown, hts⟩ (hM H.size) (cwS nA hts hG rfl hrm.1 hrm.2 hyd ⟨by rw [hfr]; exact hR.1, by rw [hlo]; exact hR.2⟩) ⟨fb_B, pr_B hK hP (hD M)⟩ rfl hn hl.1 rfl (lv_room hW8) d ⟨by omega, by omega⟩) hS (fun q _ h => fA_mono hS.1 h) (fun q h => fA_mono hS.1 h) (fun r M2 t H1 locs1 ht hvm hw hB hz1 hk1 hS1 => ?_)
  exact k r M2 hw H1 locs1 ls (by rw [← ht]; exact hB.1) hS1 hl
theorem r_callS2_d (C : CX D cs ad cc nL own fr lo U κ) (hu : u ≤ U) {y : MethodName} {b : ByteArray} {n nA idx : Nat} {rt : Option FieldType} {rm : Room} {rest : List Value} {post : UInt64 → Mm → Prop} (As9 : List Value) (hM : ∀ sz, Met l y (.code y b n rt :: TT) rm (va_Pc As9 (fun U9 => U9.heap.size = sz ∧ wB D cs ad (fA ad sz) M U9)) (va_Qd post (wB D cs ad (fA ad sz)) (fA ad sz)) 0 0 (fA ad sz)) (hG : GoodIn TT (va_wsS own idx y (.code y b n rt :: TT))) (hrm : rm.cells = 0 ∧ rm.slots = 0) (hyd : y.cls ≠ "java/lang/invoke/MethodHandle" ∧ y.cls ≠ "java/lang/invoke/VarHandle" ∧ (parseMethodDescriptor y.desc).map (fun d => d.parameters.length) = some nA) (hR : rm.frames + 1 ≤ fr ∧ 8 + (n + 11) + rm.locals ≤ lo) (hn : As9.length = nA) (hst : st = As9.reverse ++ rest) (hW8 : (rest.map fun v => v.category).sum ≤ 8) (d : decode cc pc = .ok (.invokestatic idx, 3)) (k : ∀ (r : UInt64) (M2 : Mm), post r M2 → VV l D cs ad nL κ u M2 (pc + 3) lv (.double r :: rest)) : VV l D cs ad nL κ u M pc lv st := by
  obtain ⟨p, e, R, s, m, args, below, meth, c, c0, s0, Q⟩ := κ
  obtain ⟨hx, hb, hml, hown, hts, hK, hD, hfr, hlo, hc0, hs0⟩ := C
  intro H locs ls hP hS hl
  subst hst
  refine va_calld (va_runS (As := As9) (rest := rest) ⟨hx, hb, hml, hown, hts⟩ (hM H.size) (va_cwS nA hts hG rfl hrm.1 hrm.2 hyd ⟨by rw [hfr]; exact hR.1, by rw [hlo]; exact hR.2⟩) ⟨fb_B, pr_B hK hP (hD M)⟩ rfl hn hl.1 rfl (lv_room hW8) d ⟨by omega, by omega⟩) hS (fun q _ h => fA_mono hS.1 h) (fun q h => fA_mono hS.1 h) (fun r M2 t H1 locs1 ht hvm hw hB hz1 hk1 hS1 => ?_)
  exact k r M2 hw H1 locs1 ls (by rw [← ht]; exact hB.1) hS1 hl
theorem r_callV_d (C : CX D cs ad cc nL own fr lo U κ) (hu : u ≤ U) {y : MethodName} {b : ByteArray} {n nA idx : Nat} {rt : Option FieldType} {rm : Room} {rest : List Value} {Cn : String} {ci id : Nat} {q9 : vw_C} {fs : List Value} {post : UInt64 → Mm → Prop} (As9 : List Value) (hM : ∀ sz, Met l y (.code y b n rt :: TT) rm (va_Pc (.ref (ad id) :: As9) (fun U9 => U9.heap.size = sz ∧ wB D cs ad (fA ad sz) M U9)) (va_Qd post (wB D cs ad (fA ad sz)) (fA ad sz)) 0 0 (fA ad sz)) (hG : GoodIn TT (wsV own idx Cn y (.code y b n rt :: TT))) (hrm : rm.cells = 0 ∧ rm.slots = 0) (hyd : y.cls = Cn ∧ y.cls ≠ "java/lang/invoke/MethodHandle" ∧ y.cls ≠ "java/lang/invoke/VarHandle" ∧ (parseMethodDescriptor y.desc).map (fun d => d.parameters.length) = some nA) (hR : rm.frames + 1 ≤ fr ∧ 8 + (n + 11) + rm.locals ≤ lo) (hid : id < 146) (he : wF cs ad id (M.1 id) (M.2 id) = .inr (ci, fs)) (hc : vwCl[ci]? = some q9) (hq9 : q9.1 = Cn) (hn : As9.length = nA) (hst : st = As9.reverse ++ .ref (ad id) :: rest) (hW8 : (rest.map fun v => v.category).sum ≤ 8) (d : decode cc pc = .ok (.invokevirtual idx, 3)) (k : ∀ (r : UInt64) (M2 : Mm), post r M2 → VV l D cs ad nL κ u M2 (pc + 3) lv (.double r :: rest)) : VV l D cs ad nL κ u M pc lv st := by
  obtain ⟨p, e, R, s, m, args, below, meth, c, c0, s0, Q⟩ := κ
  obtain ⟨hx, hb, hml, hown, hts, hK, hD, hfr, hlo, hc0, hs0⟩ := C
  intro H locs ls hP hS hl
  subst hst
  refine va_calld (va_runV (As := As9) (rest := rest) ⟨hx, hb, hml, hown, hts⟩ (hM H.size) (cwV nA hts hG rfl hrm.1 hrm.2 hyd ⟨by rw [hfr]; exact hR.1, by rw [hlo]; exact hR.2⟩) ⟨fb_B, ?_, pr_B hK hP (hD M)⟩ rfl hn hl.1 rfl (lv_room hW8) d ⟨by omega, by omega⟩) hS (fun q _ h => fA_mono hS.1 h) (fun q h => fA_mono hS.1 h) (fun r M2 t H1 locs1 ht hvm hw hB hz1 hk1 hS1 => ?_)
  · have h9 := va_recv hK hP hc (show (wW cs ad M)[id]? = _ by rw [wW_get cs ad M hid, he])
    rw [hq9] at h9
    exact h9
  · exact k r M2 hw H1 locs1 ls (by rw [← ht]; exact hB.1) hS1 hl
theorem r_callS_v (C : CX D cs ad cc nL own fr lo U κ) (hu : u ≤ U) {y : MethodName} {b : ByteArray} {n nA idx : Nat} {rt : Option FieldType} {rm : Room} {rest : List Value} {post : Mm → Prop} (As9 : List Value) (hM : ∀ sz, Met l y (.code y b n rt :: TT) rm (va_Pc As9 (fun U9 => U9.heap.size = sz ∧ wB D cs ad (fA ad sz) M U9)) (va_Qv post (wB D cs ad (fA ad sz)) (fA ad sz)) 0 0 (fA ad sz)) (hG : GoodIn TT (wsS own idx y (.code y b n rt :: TT))) (hrm : rm.cells = 0 ∧ rm.slots = 0) (hyd : y.cls = own ∧ y.cls ≠ "java/lang/invoke/MethodHandle" ∧ y.cls ≠ "java/lang/invoke/VarHandle" ∧ (parseMethodDescriptor y.desc).map (fun d => d.parameters.length) = some nA) (hR : rm.frames + 1 ≤ fr ∧ 8 + (n + 11) + rm.locals ≤ lo) (hn : As9.length = nA) (hst : st = As9.reverse ++ rest) (hW8 : (rest.map fun v => v.category).sum ≤ 8) (d : decode cc pc = .ok (.invokestatic idx, 3)) (k : ∀ (M2 : Mm), post M2 → VV l D cs ad nL κ u M2 (pc + 3) lv rest) : VV l D cs ad nL κ u M pc lv st := by
  obtain ⟨p, e, R, s, m, args, below, meth, c, c0, s0, Q⟩ := κ
  obtain ⟨hx, hb, hml, hown, hts, hK, hD, hfr, hlo, hc0, hs0⟩ := C
  intro H locs ls hP hS hl
  subst hst
  refine va_callv (va_runS (As := As9) (rest := rest) ⟨hx, hb, hml, hown, hts⟩ (hM H.size) (cwS nA hts hG rfl hrm.1 hrm.2 hyd ⟨by rw [hfr]; exact hR.1, by rw [hlo]; exact hR.2⟩) ⟨fb_B, pr_B hK hP (hD M)⟩ rfl hn hl.1 rfl (lv_room hW8) d ⟨by omega, by omega⟩) hS (fun q _ h => fA_mono hS.1 h) (fun q h => fA_mono hS.1 h) (fun M2 t H1 locs1 ht hvm hw hB hz1 hk1 hS1 => ?_)
  exact k M2 hw H1 locs1 ls (by rw [← ht]; exact hB.1) hS1 hl
theorem r_callS2_v (C : CX D cs ad cc nL own fr lo U κ) (hu : u ≤ U) {y : MethodName} {b : ByteArray} {n nA idx : Nat} {rt : Option FieldType} {rm : Room} {rest : List Value} {post : Mm → Prop} (As9 : List Value) (hM : ∀ sz, Met l y (.code y b n rt :: TT) rm (va_Pc As9 (fun U9 => U9.heap.size = sz ∧ wB D cs ad (fA ad sz) M U9)) (va_Qv post (wB D cs ad (fA ad sz)) (fA ad sz)) 0 0 (fA ad sz)) (hG : GoodIn TT (va_wsS own idx y (.code y b n rt :: TT))) (hrm : rm.cells = 0 ∧ rm.slots = 0) (hyd : y.cls ≠ "java/lang/invoke/MethodHandle" ∧ y.cls ≠ "java/lang/invoke/VarHandle" ∧ (parseMethodDescriptor y.desc).map (fun d => d.parameters.length) = some nA) (hR : rm.frames + 1 ≤ fr ∧ 8 + (n + 11) + rm.locals ≤ lo) (hn : As9.length = nA) (hst : st = As9.reverse ++ rest) (hW8 : (rest.map fun v => v.category).sum ≤ 8) (d : decode cc pc = .ok (.invokestatic idx, 3)) (k : ∀ (M2 : Mm), post M2 → VV l D cs ad nL κ u M2 (pc + 3) lv rest) : VV l D cs ad nL κ u M pc lv st := by
  obtain ⟨p, e, R, s, m, args, below, meth, c, c0, s0, Q⟩ := κ
  obtain ⟨hx, hb, hml, hown, hts, hK, hD, hfr, hlo, hc0, hs0⟩ := C
  intro H locs ls hP hS hl
  subst hst
  refine va_callv (va_runS (As := As9) (rest := rest) ⟨hx, hb, hml, hown, hts⟩ (hM H.size) (va_cwS nA hts hG rfl hrm.1 hrm.2 hyd ⟨by rw [hfr]; exact hR.1, by rw [hlo]; exact hR.2⟩) ⟨fb_B, pr_B hK hP (hD M)⟩ rfl hn hl.1 rfl (lv_room hW8) d ⟨by omega, by omega⟩) hS (fun q _ h => fA_mono hS.1 h) (fun q h => fA_mono hS.1 h) (fun M2 t H1 locs1 ht hvm hw hB hz1 hk1 hS1 => ?_)
  exact k M2 hw H1 locs1 ls (by rw [← ht]; exact hB.1) hS1 hl
theorem r_callV_v (C : CX D cs ad cc nL own fr lo U κ) (hu : u ≤ U) {y : MethodName} {b : ByteArray} {n nA idx : Nat} {rt : Option FieldType} {rm : Room} {rest : List Value} {Cn : String} {ci id : Nat} {q9 : vw_C} {fs : List Value} {post : Mm → Prop} (As9 : List Value) (hM : ∀ sz, Met l y (.code y b n rt :: TT) rm (va_Pc (.ref (ad id) :: As9) (fun U9 => U9.heap.size = sz ∧ wB D cs ad (fA ad sz) M U9)) (va_Qv post (wB D cs ad (fA ad sz)) (fA ad sz)) 0 0 (fA ad sz)) (hG : GoodIn TT (wsV own idx Cn y (.code y b n rt :: TT))) (hrm : rm.cells = 0 ∧ rm.slots = 0) (hyd : y.cls = Cn ∧ y.cls ≠ "java/lang/invoke/MethodHandle" ∧ y.cls ≠ "java/lang/invoke/VarHandle" ∧ (parseMethodDescriptor y.desc).map (fun d => d.parameters.length) = some nA) (hR : rm.frames + 1 ≤ fr ∧ 8 + (n + 11) + rm.locals ≤ lo) (hid : id < 146) (he : wF cs ad id (M.1 id) (M.2 id) = .inr (ci, fs)) (hc : vwCl[ci]? = some q9) (hq9 : q9.1 = Cn) (hn : As9.length = nA) (hst : st = As9.reverse ++ .ref (ad id) :: rest) (hW8 : (rest.map fun v => v.category).sum ≤ 8) (d : decode cc pc = .ok (.invokevirtual idx, 3)) (k : ∀ (M2 : Mm), post M2 → VV l D cs ad nL κ u M2 (pc + 3) lv rest) : VV l D cs ad nL κ u M pc lv st := by
  obtain ⟨p, e, R, s, m, args, below, meth, c, c0, s0, Q⟩ := κ
  obtain ⟨hx, hb, hml, hown, hts, hK, hD, hfr, hlo, hc0, hs0⟩ := C
  intro H locs ls hP hS hl
  subst hst
  refine va_callv (va_runV (As := As9) (rest := rest) ⟨hx, hb, hml, hown, hts⟩ (hM H.size) (cwV nA hts hG rfl hrm.1 hrm.2 hyd ⟨by rw [hfr]; exact hR.1, by rw [hlo]; exact hR.2⟩) ⟨fb_B, ?_, pr_B hK hP (hD M)⟩ rfl hn hl.1 rfl (lv_room hW8) d ⟨by omega, by omega⟩) hS (fun q _ h => fA_mono hS.1 h) (fun q h => fA_mono hS.1 h) (fun M2 t H1 locs1 ht hvm hw hB hz1 hk1 hS1 => ?_)
  · have h9 := va_recv hK hP hc (show (wW cs ad M)[id]? = _ by rw [wW_get cs ad M hid, he])
    rw [hq9] at h9
    exact h9
  · exact k M2 hw H1 locs1 ls (by rw [← ht]; exact hB.1) hS1 hl
/-- the method's end, with its answer -/
def eI (l : Launch) (D : va_G) (cs : Nat → ClassId) (ad : Nat → Nat) (nL : Nat) (cc : ByteArray) (U : Nat) (κ : Kx) (post : Int32 → Mm → Prop) : Prop := ∀ (u : Nat) (M : Mm) (pc : Nat) (lv : List (Nat × Value)) (v : Int32), u ≤ U → decode cc pc = .ok (.ireturn, 1) → post v M → VV l D cs ad nL κ u M pc lv [.int v]
/-- the method's end, with its answer -/
def eZ (l : Launch) (D : va_G) (cs : Nat → ClassId) (ad : Nat → Nat) (nL : Nat) (cc : ByteArray) (U : Nat) (κ : Kx) (post : Int32 → Mm → Prop) : Prop := ∀ (u : Nat) (M : Mm) (pc : Nat) (lv : List (Nat × Value)) (v : Int32), u ≤ U → decode cc pc = .ok (.ireturn, 1) → narrow .boolean (.int v) = .int v → post v M → VV l D cs ad nL κ u M pc lv [.int v]
/-- the method's end, with its answer -/
def eL (l : Launch) (D : va_G) (cs : Nat → ClassId) (ad : Nat → Nat) (nL : Nat) (cc : ByteArray) (U : Nat) (κ : Kx) (post : Int64 → Mm → Prop) : Prop := ∀ (u : Nat) (M : Mm) (pc : Nat) (lv : List (Nat × Value)) (v : Int64), u ≤ U → decode cc pc = .ok (.lreturn, 1) → post v M → VV l D cs ad nL κ u M pc lv [.long v]
/-- the method's end, with its answer -/
def eD (l : Launch) (D : va_G) (cs : Nat → ClassId) (ad : Nat → Nat) (nL : Nat) (cc : ByteArray) (U : Nat) (κ : Kx) (post : UInt64 → Mm → Prop) : Prop := ∀ (u : Nat) (M : Mm) (pc : Nat) (lv : List (Nat × Value)) (v : UInt64), u ≤ U → decode cc pc = .ok (.dreturn, 1) → post v M → VV l D cs ad nL κ u M pc lv [.double v]
def eV (l : Launch) (D : va_G) (cs : Nat → ClassId) (ad : Nat → Nat) (nL : Nat) (cc : ByteArray) (U : Nat) (κ : Kx) (post : Mm → Prop) : Prop := ∀ (u : Nat) (M : Mm) (pc : Nat) (lv : List (Nat × Value)), u ≤ U → decode cc pc = .ok (.return_, 1) → post M → VV l D cs ad nL κ u M pc lv []
theorem st_I {y : MethodName} {b : ByteArray} {n : Nat} {As : List Value} {post : Int32 → Mm → Prop} (hy : plainName y.cls = true) (hAs : (lg_sl As).length ≤ n) (body : ∀ κ, CX D cs ad b n y.cls fr lo 0 κ → eI l D cs ad n b 0 κ post → VV l D cs ad n κ 0 M 0 (lv_args 0 As) []) (sz : Nat) : Met l y (.code y b n (some .int) :: TT) { frames := fr, cells := 0, slots := 0, locals := lo } (va_Pc As (fun U9 => U9.heap.size = sz ∧ wB D cs ad (fA ad sz) M U9)) (va_Qi post (wB D cs ad (fA ad sz)) (fA ad sz)) 0 0 (fA ad sz) := by
  refine Met.ofW (cc := b) (maxL := n) (ret := (some .int)) hy rfl ?_
  intro p e s m args below meth c s₁ B hml hv
  obtain ⟨rfl, hsz, hP, hK, hD0⟩ := hv
  have hx := B.exec
  have hb := B.bytes
  have hr := B.returns
  have hts0 := atoms_spec (ws := .code y b n (some .int) :: TT) B.pre
  have hts : ∀ w ∈ TT, w.before As.toArray s = true := fun w hw => hts0 w (List.mem_cons_of_mem _ hw)
  have hown := findClass_of_methodNamed B.named
  have hlocks := B.notSynchronized
  subst hsz
  have hD : ∀ M, va_D (fA ad s.heap.size) (wW cs ad M) := fun M' => wD_any (fun i hi => fA_in hi) hD0 M'
  have hl := lv_entry As (n := n) hAs
  rw [lg_entry_eq]
  generalize (lg_sl As ++ List.replicate (n - (lg_sl As).length) Slot.unset).toArray = ls at hl ⊢
  refine body (p, e, _, s, m, As.toArray, below, meth, c, 0, 0, _) ⟨hx, hb, hml, hown, hts, hK, hD, rfl, rfl, Nat.le_refl _, Nat.le_refl _⟩ ?_ s.heap [] ls hP va_S.rf hl
  intro u M2 pc lv v hu d hpost
  obtain rfl : u = 0 := by omega
  intro H locs ls hP hS hl
  exact W.iret hx hb hr (fun t ht hW => ⟨⟨v, M2, rfl, hpost, by rw [ht]; exact hP, va_K.moved hW.alike hK, hD M2⟩, hS.F ht⟩) hS.2.2 d hlocks
theorem st_Z {y : MethodName} {b : ByteArray} {n : Nat} {As : List Value} {post : Int32 → Mm → Prop} (hy : plainName y.cls = true) (hAs : (lg_sl As).length ≤ n) (body : ∀ κ, CX D cs ad b n y.cls fr lo 0 κ → eZ l D cs ad n b 0 κ post → VV l D cs ad n κ 0 M 0 (lv_args 0 As) []) (sz : Nat) : Met l y (.code y b n (some .boolean) :: TT) { frames := fr, cells := 0, slots := 0, locals := lo } (va_Pc As (fun U9 => U9.heap.size = sz ∧ wB D cs ad (fA ad sz) M U9)) (va_Qi post (wB D cs ad (fA ad sz)) (fA ad sz)) 0 0 (fA ad sz) := by
  refine Met.ofW (cc := b) (maxL := n) (ret := (some .boolean)) hy rfl ?_
  intro p e s m args below meth c s₁ B hml hv
  obtain ⟨rfl, hsz, hP, hK, hD0⟩ := hv
  have hx := B.exec
  have hb := B.bytes
  have hr := B.returns
  have hts0 := atoms_spec (ws := .code y b n (some .boolean) :: TT) B.pre
  have hts : ∀ w ∈ TT, w.before As.toArray s = true := fun w hw => hts0 w (List.mem_cons_of_mem _ hw)
  have hown := findClass_of_methodNamed B.named
  have hlocks := B.notSynchronized
  subst hsz
  have hD : ∀ M, va_D (fA ad s.heap.size) (wW cs ad M) := fun M' => wD_any (fun i hi => fA_in hi) hD0 M'
  have hl := lv_entry As (n := n) hAs
  rw [lg_entry_eq]
  generalize (lg_sl As ++ List.replicate (n - (lg_sl As).length) Slot.unset).toArray = ls at hl ⊢
  refine body (p, e, _, s, m, As.toArray, below, meth, c, 0, 0, _) ⟨hx, hb, hml, hown, hts, hK, hD, rfl, rfl, Nat.le_refl _, Nat.le_refl _⟩ ?_ s.heap [] ls hP va_S.rf hl
  intro u M2 pc lv v hu d hnr hpost
  obtain rfl : u = 0 := by omega
  intro H locs ls hP hS hl
  exact W.zret hx hb hr hnr (fun t ht hW => ⟨⟨v, M2, rfl, hpost, by rw [ht]; exact hP, va_K.moved hW.alike hK, hD M2⟩, hS.F ht⟩) hS.2.2 d hlocks
theorem st_L {y : MethodName} {b : ByteArray} {n : Nat} {As : List Value} {post : Int64 → Mm → Prop} (hy : plainName y.cls = true) (hAs : (lg_sl As).length ≤ n) (body : ∀ κ, CX D cs ad b n y.cls fr lo 0 κ → eL l D cs ad n b 0 κ post → VV l D cs ad n κ 0 M 0 (lv_args 0 As) []) (sz : Nat) : Met l y (.code y b n (some .long) :: TT) { frames := fr, cells := 0, slots := 0, locals := lo } (va_Pc As (fun U9 => U9.heap.size = sz ∧ wB D cs ad (fA ad sz) M U9)) (va_Ql post (wB D cs ad (fA ad sz)) (fA ad sz)) 0 0 (fA ad sz) := by
  refine Met.ofW (cc := b) (maxL := n) (ret := (some .long)) hy rfl ?_
  intro p e s m args below meth c s₁ B hml hv
  obtain ⟨rfl, hsz, hP, hK, hD0⟩ := hv
  have hx := B.exec
  have hb := B.bytes
  have hr := B.returns
  have hts0 := atoms_spec (ws := .code y b n (some .long) :: TT) B.pre
  have hts : ∀ w ∈ TT, w.before As.toArray s = true := fun w hw => hts0 w (List.mem_cons_of_mem _ hw)
  have hown := findClass_of_methodNamed B.named
  have hlocks := B.notSynchronized
  subst hsz
  have hD : ∀ M, va_D (fA ad s.heap.size) (wW cs ad M) := fun M' => wD_any (fun i hi => fA_in hi) hD0 M'
  have hl := lv_entry As (n := n) hAs
  rw [lg_entry_eq]
  generalize (lg_sl As ++ List.replicate (n - (lg_sl As).length) Slot.unset).toArray = ls at hl ⊢
  refine body (p, e, _, s, m, As.toArray, below, meth, c, 0, 0, _) ⟨hx, hb, hml, hown, hts, hK, hD, rfl, rfl, Nat.le_refl _, Nat.le_refl _⟩ ?_ s.heap [] ls hP va_S.rf hl
  intro u M2 pc lv v hu d hpost
  obtain rfl : u = 0 := by omega
  intro H locs ls hP hS hl
  exact W.lret hx hb hr (fun t ht hW => ⟨⟨v, M2, rfl, hpost, by rw [ht]; exact hP, va_K.moved hW.alike hK, hD M2⟩, hS.F ht⟩) hS.2.2 d hlocks
theorem st_D {y : MethodName} {b : ByteArray} {n : Nat} {As : List Value} {post : UInt64 → Mm → Prop} (hy : plainName y.cls = true) (hAs : (lg_sl As).length ≤ n) (body : ∀ κ, CX D cs ad b n y.cls fr lo 0 κ → eD l D cs ad n b 0 κ post → VV l D cs ad n κ 0 M 0 (lv_args 0 As) []) (sz : Nat) : Met l y (.code y b n (some .double) :: TT) { frames := fr, cells := 0, slots := 0, locals := lo } (va_Pc As (fun U9 => U9.heap.size = sz ∧ wB D cs ad (fA ad sz) M U9)) (va_Qd post (wB D cs ad (fA ad sz)) (fA ad sz)) 0 0 (fA ad sz) := by
  refine Met.ofW (cc := b) (maxL := n) (ret := (some .double)) hy rfl ?_
  intro p e s m args below meth c s₁ B hml hv
  obtain ⟨rfl, hsz, hP, hK, hD0⟩ := hv
  have hx := B.exec
  have hb := B.bytes
  have hr := B.returns
  have hts0 := atoms_spec (ws := .code y b n (some .double) :: TT) B.pre
  have hts : ∀ w ∈ TT, w.before As.toArray s = true := fun w hw => hts0 w (List.mem_cons_of_mem _ hw)
  have hown := findClass_of_methodNamed B.named
  have hlocks := B.notSynchronized
  subst hsz
  have hD : ∀ M, va_D (fA ad s.heap.size) (wW cs ad M) := fun M' => wD_any (fun i hi => fA_in hi) hD0 M'
  have hl := lv_entry As (n := n) hAs
  rw [lg_entry_eq]
  generalize (lg_sl As ++ List.replicate (n - (lg_sl As).length) Slot.unset).toArray = ls at hl ⊢
  refine body (p, e, _, s, m, As.toArray, below, meth, c, 0, 0, _) ⟨hx, hb, hml, hown, hts, hK, hD, rfl, rfl, Nat.le_refl _, Nat.le_refl _⟩ ?_ s.heap [] ls hP va_S.rf hl
  intro u M2 pc lv v hu d hpost
  obtain rfl : u = 0 := by omega
  intro H locs ls hP hS hl
  exact W.dret hx hb hr (fun t ht hW => ⟨⟨v, M2, rfl, hpost, by rw [ht]; exact hP, va_K.moved hW.alike hK, hD M2⟩, hS.F ht⟩) hS.2.2 d hlocks
theorem st_V {y : MethodName} {b : ByteArray} {n : Nat} {As : List Value} {post : Mm → Prop} (hy : plainName y.cls = true) (hAs : (lg_sl As).length ≤ n) (body : ∀ κ, CX D cs ad b n y.cls fr lo 0 κ → eV l D cs ad n b 0 κ post → VV l D cs ad n κ 0 M 0 (lv_args 0 As) []) (sz : Nat) : Met l y (.code y b n none :: TT) { frames := fr, cells := 0, slots := 0, locals := lo } (va_Pc As (fun U9 => U9.heap.size = sz ∧ wB D cs ad (fA ad sz) M U9)) (va_Qv post (wB D cs ad (fA ad sz)) (fA ad sz)) 0 0 (fA ad sz) := by
  refine Met.ofW (cc := b) (maxL := n) (ret := none) hy rfl ?_
  intro p e s m args below meth c s₁ B hml hv
  obtain ⟨rfl, hsz, hP, hK, hD0⟩ := hv
  have hx := B.exec
  have hb := B.bytes
  have hr := B.returns
  have hts0 := atoms_spec (ws := .code y b n none :: TT) B.pre
  have hts : ∀ w ∈ TT, w.before As.toArray s = true := fun w hw => hts0 w (List.mem_cons_of_mem _ hw)
  have hown := findClass_of_methodNamed B.named
  have hlocks := B.notSynchronized
  subst hsz
  have hD : ∀ M, va_D (fA ad s.heap.size) (wW cs ad M) := fun M' => wD_any (fun i hi => fA_in hi) hD0 M'
  have hl := lv_entry As (n := n) hAs
  rw [lg_entry_eq]
  generalize (lg_sl As ++ List.replicate (n - (lg_sl As).length) Slot.unset).toArray = ls at hl ⊢
  refine body (p, e, _, s, m, As.toArray, below, meth, c, 0, 0, _) ⟨hx, hb, hml, hown, hts, hK, hD, rfl, rfl, Nat.le_refl _, Nat.le_refl _⟩ ?_ s.heap [] ls hP va_S.rf hl
  intro u M2 pc lv hu d hpost
  obtain rfl : u = 0 := by omega
  intro H locs ls hP hS hl
  exact W.vret hx hb hr (fun t ht hW => ⟨⟨M2, rfl, hpost, by rw [ht]; exact hP, va_K.moved hW.alike hK, hD M2⟩, hS.F ht⟩) hS.2.2 d hlocks
end VVS
end
section
/-! ===== each word of the universal list by its place (written by wip/whole/gen/words.py) ===== -/
theorem se_X7_saveState : Cond.selects RX7 yX7_saveState yX7_saveState ∈ TT := tt_m 0 (by decide +kernel) rfl
theorem se_X3_goesOn : Cond.selects RX3 yX3_goesOn yX3_goesOn ∈ TT := tt_m 1 (by decide +kernel) rfl
theorem se_X7_searchGraph : Cond.selects RX7 yX7_searchGraph yX7_searchGraph ∈ TT := tt_m 2 (by decide +kernel) rfl
theorem se_X7_share : Cond.selects RX7 yX7_share yX7_share ∈ TT := tt_m 3 (by decide +kernel) rfl
theorem se_X0_raise : Cond.selects RX0 yX0_raise yX0_raise ∈ TT := tt_m 4 (by decide +kernel) rfl
theorem se_X7_numberOf : Cond.selects RX7 yX7_numberOf yX7_numberOf ∈ TT := tt_m 5 (by decide +kernel) rfl
theorem se_X7_takenSnapshots : Cond.selects RX7 yX7_takenSnapshots yX7_takenSnapshots ∈ TT := tt_m 6 (by decide +kernel) rfl
theorem se_X7_mixVertices : Cond.selects RX7 yX7_mixVertices yX7_mixVertices ∈ TT := tt_m 7 (by decide +kernel) rfl
theorem se_X7_propertyOf : Cond.selects RX7 yX7_propertyOf yX7_propertyOf ∈ TT := tt_m 8 (by decide +kernel) rfl
theorem se_X7_mixBounds : Cond.selects RX7 yX7_mixBounds yX7_mixBounds ∈ TT := tt_m 9 (by decide +kernel) rfl
theorem se_X7_whyNoBound : Cond.selects RX7 yX7_whyNoBound yX7_whyNoBound ∈ TT := tt_m 10 (by decide +kernel) rfl
theorem se_X5_begins : Cond.selects RX5 yX5_begins yX5_begins ∈ TT := tt_m 11 (by decide +kernel) rfl
theorem se_X5_goOn : Cond.selects RX5 yX5_goOn yX5_goOn ∈ TT := tt_m 12 (by decide +kernel) rfl
theorem se_X7_checkVertex : Cond.selects RX7 yX7_checkVertex yX7_checkVertex ∈ TT := tt_m 14 (by decide +kernel) rfl
theorem se_X7_checkTaken : Cond.selects RX7 yX7_checkTaken yX7_checkTaken ∈ TT := tt_m 15 (by decide +kernel) rfl
theorem se_X7_checkSnapshot : Cond.selects RX7 yX7_checkSnapshot yX7_checkSnapshot ∈ TT := tt_m 16 (by decide +kernel) rfl
theorem se_X7_checkPlace : Cond.selects RX7 yX7_checkPlace yX7_checkPlace ∈ TT := tt_m 17 (by decide +kernel) rfl
theorem se_X8_empties : Cond.selects RX8 yX8_empties yX8_empties ∈ TT := tt_m 18 (by decide +kernel) rfl
theorem se_X8_save : Cond.selects RX8 yX8_save yX8_save ∈ TT := tt_m 19 (by decide +kernel) rfl
theorem se_X8_isVertex : Cond.selects RX8 yX8_isVertex yX8_isVertex ∈ TT := tt_m 20 (by decide +kernel) rfl
theorem se_X8_joins : Cond.selects RX8 yX8_joins yX8_joins ∈ TT := tt_m 21 (by decide +kernel) rfl
theorem se_X8_edges : Cond.selects RX8 yX8_edges yX8_edges ∈ TT := tt_m 22 (by decide +kernel) rfl
theorem se_X8_weight : Cond.selects RX8 yX8_weight yX8_weight ∈ TT := tt_m 23 (by decide +kernel) rfl
theorem se_X8_clearBehind : Cond.selects RX8 yX8_clearBehind yX8_clearBehind ∈ TT := tt_m 24 (by decide +kernel) rfl
theorem se_X8_refusedSnapshot : Cond.selects RX8 yX8_refusedSnapshot yX8_refusedSnapshot ∈ TT := tt_m 25 (by decide +kernel) rfl
theorem se_X8_layProduct : Cond.selects RX8 yX8_layProduct yX8_layProduct ∈ TT := tt_m 26 (by decide +kernel) rfl
theorem se_X8_other : Cond.selects RX8 yX8_other yX8_other ∈ TT := tt_m 27 (by decide +kernel) rfl
theorem se_X8_areJoined : Cond.selects RX8 yX8_areJoined yX8_areJoined ∈ TT := tt_m 28 (by decide +kernel) rfl
theorem se_X8_isPlace : Cond.selects RX8 yX8_isPlace yX8_isPlace ∈ TT := tt_m 29 (by decide +kernel) rfl
theorem se_X8_colorAll : Cond.selects RX8 yX8_colorAll yX8_colorAll ∈ TT := tt_m 30 (by decide +kernel) rfl
theorem se_X8_colorBy : Cond.selects RX8 yX8_colorBy yX8_colorBy ∈ TT := tt_m 31 (by decide +kernel) rfl
theorem se_X8_canStay : Cond.selects RX8 yX8_canStay yX8_canStay ∈ TT := tt_m 32 (by decide +kernel) rfl
theorem se_X8_layBest : Cond.selects RX8 yX8_layBest yX8_layBest ∈ TT := tt_m 33 (by decide +kernel) rfl
theorem se_X8_misfit : Cond.selects RX8 yX8_misfit yX8_misfit ∈ TT := tt_m 34 (by decide +kernel) rfl
theorem se_X8_product : Cond.selects RX8 yX8_product yX8_product ∈ TT := tt_m 35 (by decide +kernel) rfl
theorem se_X8_setHandle : Cond.selects RX8 yX8_setHandle yX8_setHandle ∈ TT := tt_m 36 (by decide +kernel) rfl
theorem se_X8_unreached : Cond.selects RX8 yX8_unreached yX8_unreached ∈ TT := tt_m 37 (by decide +kernel) rfl
theorem se_X8_byHandle : Cond.selects RX8 yX8_byHandle yX8_byHandle ∈ TT := tt_m 38 (by decide +kernel) rfl
theorem se_X8_layBound : Cond.selects RX8 yX8_layBound yX8_layBound ∈ TT := tt_m 39 (by decide +kernel) rfl
theorem se_X8_rightUpTo : Cond.selects RX8 yX8_rightUpTo yX8_rightUpTo ∈ TT := tt_m 40 (by decide +kernel) rfl
theorem se_X8_canStand : Cond.selects RX8 yX8_canStand yX8_canStand ∈ TT := tt_m 41 (by decide +kernel) rfl
theorem se_X8_vertexNow : Cond.selects RX8 yX8_vertexNow yX8_vertexNow ∈ TT := tt_m 42 (by decide +kernel) rfl
theorem se_X8_colorOf : Cond.selects RX8 yX8_colorOf yX8_colorOf ∈ TT := tt_m 43 (by decide +kernel) rfl
theorem se_X8_heaviest : Cond.selects RX8 yX8_heaviest yX8_heaviest ∈ TT := tt_m 44 (by decide +kernel) rfl
theorem se_X8_isClique : Cond.selects RX8 yX8_isClique yX8_isClique ∈ TT := tt_m 45 (by decide +kernel) rfl
theorem se_X8_weightOf : Cond.selects RX8 yX8_weightOf yX8_weightOf ∈ TT := tt_m 46 (by decide +kernel) rfl
theorem se_X8_boundNow : Cond.selects RX8 yX8_boundNow yX8_boundNow ∈ TT := tt_m 47 (by decide +kernel) rfl
theorem se_X8_reason : Cond.selects RX8 yX8_reason yX8_reason ∈ TT := tt_m 48 (by decide +kernel) rfl
theorem se_X8_reasonNow : Cond.selects RX8 yX8_reasonNow yX8_reasonNow ∈ TT := tt_m 49 (by decide +kernel) rfl
theorem se_X8_bestNow : Cond.selects RX8 yX8_bestNow yX8_bestNow ∈ TT := tt_m 50 (by decide +kernel) rfl
theorem se_X8_counted : Cond.selects RX8 yX8_counted yX8_counted ∈ TT := tt_m 51 (by decide +kernel) rfl
theorem se_X8_mostVertices : Cond.selects RX8 yX8_mostVertices yX8_mostVertices ∈ TT := tt_m 52 (by decide +kernel) rfl
theorem se_X8_misfits : Cond.selects RX8 yX8_misfits yX8_misfits ∈ TT := tt_m 53 (by decide +kernel) rfl
theorem se_X8_near : Cond.selects RX8 yX8_near yX8_near ∈ TT := tt_m 54 (by decide +kernel) rfl
theorem se_X8_mix : Cond.selects RX8 yX8_mix yX8_mix ∈ TT := tt_m 55 (by decide +kernel) rfl
theorem se_X8_mixVertex : Cond.selects RX8 yX8_mixVertex yX8_mixVertex ∈ TT := tt_m 56 (by decide +kernel) rfl
theorem in_L : Cond.initialized RL ∈ TT := tt_m 57 (by decide +kernel) rfl
theorem in_X7 : Cond.initialized RX7 ∈ TT := tt_m 58 (by decide +kernel) rfl
theorem in_X4 : Cond.initialized RX4 ∈ TT := tt_m 59 (by decide +kernel) rfl
theorem in_J7 : Cond.initialized RJ7 ∈ TT := tt_m 60 (by decide +kernel) rfl
theorem in_X6 : Cond.initialized RX6 ∈ TT := tt_m 61 (by decide +kernel) rfl
theorem in_X3 : Cond.initialized RX3 ∈ TT := tt_m 62 (by decide +kernel) rfl
theorem in_X2 : Cond.initialized RX2 ∈ TT := tt_m 63 (by decide +kernel) rfl
theorem in_X1 : Cond.initialized RX1 ∈ TT := tt_m 64 (by decide +kernel) rfl
theorem in_X0 : Cond.initialized RX0 ∈ TT := tt_m 65 (by decide +kernel) rfl
theorem in_X5 : Cond.initialized RX5 ∈ TT := tt_m 66 (by decide +kernel) rfl
theorem in_X8 : Cond.initialized RX8 ∈ TT := tt_m 67 (by decide +kernel) rfl
theorem in_Throwable : Cond.initialized "java/lang/Throwable" ∈ TT := tt_m 68 (by decide +kernel) rfl
theorem in_Exception : Cond.initialized "java/lang/Exception" ∈ TT := tt_m 69 (by decide +kernel) rfl
theorem in_RuntimeException : Cond.initialized "java/lang/RuntimeException" ∈ TT := tt_m 70 (by decide +kernel) rfl
theorem in_IllegalArgumentException : Cond.initialized "java/lang/IllegalArgumentException" ∈ TT := tt_m 71 (by decide +kernel) rfl
theorem in_J10 : Cond.initialized RJ10 ∈ TT := tt_m 72 (by decide +kernel) rfl
theorem in_J9 : Cond.initialized RJ9 ∈ TT := tt_m 73 (by decide +kernel) rfl
theorem in_IndexOutOfBoundsException : Cond.initialized "java/lang/IndexOutOfBoundsException" ∈ TT := tt_m 74 (by decide +kernel) rfl
theorem in_Jxd2413 : Cond.initialized RJxd2413 ∈ TT := tt_m 75 (by decide +kernel) rfl
theorem in_J6 : Cond.initialized RJ6 ∈ TT := tt_m 76 (by decide +kernel) rfl
theorem in_IllegalStateException : Cond.initialized "java/lang/IllegalStateException" ∈ TT := tt_m 77 (by decide +kernel) rfl
theorem in_Jxe99ae : Cond.initialized RJxe99ae ∈ TT := tt_m 78 (by decide +kernel) rfl
theorem cl_L_8 : Cond.classLink RL 8 RX7 ∈ TT := tt_m 79 (by decide +kernel) rfl
theorem ib_X7 : Cond.instantiable RX7 10 ∈ TT := tt_m 80 (by decide +kernel) rfl
theorem ml_L_88 : Cond.methodLink RL 88 yX7_init ∈ TT := tt_m 81 (by decide +kernel) rfl
theorem im_X7_init : Cond.instanceMethod yX7_init ∈ TT := tt_m 82 (by decide +kernel) rfl
theorem co_X7_init : Cond.code yX7_init cX7_init 2 none ∈ TT := tt_m 83 (by decide +kernel) rfl
theorem ml_X7_3 : Cond.methodLink RX7 3 objectInit ∈ TT := tt_m 84 (by decide +kernel) rfl
theorem im_oinit : Cond.instanceMethod objectInit ∈ TT := tt_m 85 (by decide +kernel) rfl
theorem co_oinit : Cond.code objectInit ⟨#[0xb1]⟩ 1 none ∈ TT := tt_m 86 (by decide +kernel) rfl
theorem cl_X7_9 : Cond.classLink RX7 9 RX4 ∈ TT := tt_m 87 (by decide +kernel) rfl
theorem ib_X4 : Cond.instantiable RX4 6 ∈ TT := tt_m 88 (by decide +kernel) rfl
theorem ml_X7_11 : Cond.methodLink RX7 11 yX4_init ∈ TT := tt_m 89 (by decide +kernel) rfl
theorem im_X4_init : Cond.instanceMethod yX4_init ∈ TT := tt_m 90 (by decide +kernel) rfl
theorem co_X4_init : Cond.code yX4_init cX4_init 1 none ∈ TT := tt_m 91 (by decide +kernel) rfl
theorem ml_X4_3 : Cond.methodLink RX4 3 objectInit ∈ TT := tt_m 92 (by decide +kernel) rfl
theorem cl_X4_25 : Cond.classLink RX4 25 "[[I" ∈ TT := tt_m 93 (by decide +kernel) rfl
theorem ml_X4_33 : Cond.methodLink RX4 33 yJ7_fill_53178 ∈ TT := tt_m 95 (by decide +kernel) rfl
theorem st_J7_fill_53178 : Cond.static yJ7_fill_53178 ∈ TT := tt_m 96 (by decide +kernel) rfl
theorem co_J7_fill_53178 : Cond.code yJ7_fill_53178 cJ7_fill_53178 4 none ∈ TT := tt_m 97 (by decide +kernel) rfl
theorem fl_X4_9 : Cond.fieldLink RX4 9 "CliqueLabels$Graph" "n" "I" ∈ TT := tt_m 98 (by decide +kernel) rfl
theorem fl_X2_19 : Cond.fieldLink RX2 19 "CliqueLabels$Graph" "n" "I" ∈ TT := tt_m 99 (by decide +kernel) rfl
theorem fl_X1_19 : Cond.fieldLink RX1 19 "CliqueLabels$Graph" "n" "I" ∈ TT := tt_m 100 (by decide +kernel) rfl
theorem fl_X7_77 : Cond.fieldLink RX7 77 "CliqueLabels$Graph" "n" "I" ∈ TT := tt_m 101 (by decide +kernel) rfl
theorem fl_X0_56 : Cond.fieldLink RX0 56 "CliqueLabels$Graph" "n" "I" ∈ TT := tt_m 102 (by decide +kernel) rfl
theorem fl_X4_15 : Cond.fieldLink RX4 15 "CliqueLabels$Graph" "d" "I" ∈ TT := tt_m 103 (by decide +kernel) rfl
theorem fl_X5_43 : Cond.fieldLink RX5 43 "CliqueLabels$Graph" "d" "I" ∈ TT := tt_m 104 (by decide +kernel) rfl
theorem fl_X7_155 : Cond.fieldLink RX7 155 "CliqueLabels$Graph" "d" "I" ∈ TT := tt_m 105 (by decide +kernel) rfl
theorem fl_X4_18 : Cond.fieldLink RX4 18 "CliqueLabels$Graph" "neighbors" "[I" ∈ TT := tt_m 106 (by decide +kernel) rfl
theorem fl_X1_24 : Cond.fieldLink RX1 24 "CliqueLabels$Graph" "neighbors" "[I" ∈ TT := tt_m 107 (by decide +kernel) rfl
theorem fl_X7_306 : Cond.fieldLink RX7 306 "CliqueLabels$Graph" "neighbors" "[I" ∈ TT := tt_m 108 (by decide +kernel) rfl
theorem fl_X4_22 : Cond.fieldLink RX4 22 "CliqueLabels$Graph" "weights" "[I" ∈ TT := tt_m 109 (by decide +kernel) rfl
theorem fl_X1_27 : Cond.fieldLink RX1 27 "CliqueLabels$Graph" "weights" "[I" ∈ TT := tt_m 110 (by decide +kernel) rfl
theorem fl_X7_103 : Cond.fieldLink RX7 103 "CliqueLabels$Graph" "weights" "[I" ∈ TT := tt_m 111 (by decide +kernel) rfl
theorem fl_X0_59 : Cond.fieldLink RX0 59 "CliqueLabels$Graph" "weights" "[I" ∈ TT := tt_m 112 (by decide +kernel) rfl
theorem fl_X4_27 : Cond.fieldLink RX4 27 "CliqueLabels$Graph" "labels" "[[I" ∈ TT := tt_m 113 (by decide +kernel) rfl
theorem fl_X0_62 : Cond.fieldLink RX0 62 "CliqueLabels$Graph" "labels" "[[I" ∈ TT := tt_m 114 (by decide +kernel) rfl
theorem fl_X7_141 : Cond.fieldLink RX7 141 "CliqueLabels$Graph" "labels" "[[I" ∈ TT := tt_m 115 (by decide +kernel) rfl
theorem fl_X4_30 : Cond.fieldLink RX4 30 "CliqueLabels$Graph" "handle" "[I" ∈ TT := tt_m 116 (by decide +kernel) rfl
theorem fl_X0_37 : Cond.fieldLink RX0 37 "CliqueLabels$Graph" "handle" "[I" ∈ TT := tt_m 117 (by decide +kernel) rfl
theorem fl_X7_145 : Cond.fieldLink RX7 145 "CliqueLabels$Graph" "handle" "[I" ∈ TT := tt_m 118 (by decide +kernel) rfl
theorem ac_int : Cond.arrayClass .int ∈ TT := tt_m 132 (by decide +kernel) rfl
theorem cl_X7_24 : Cond.classLink RX7 24 RX6 ∈ TT := tt_m 134 (by decide +kernel) rfl
theorem ib_X6 : Cond.instantiable RX6 4 ∈ TT := tt_m 135 (by decide +kernel) rfl
theorem ml_X7_26 : Cond.methodLink RX7 26 yX6_init ∈ TT := tt_m 136 (by decide +kernel) rfl
theorem im_X6_init : Cond.instanceMethod yX6_init ∈ TT := tt_m 137 (by decide +kernel) rfl
theorem co_X6_init : Cond.code yX6_init cX6_init 2 none ∈ TT := tt_m 138 (by decide +kernel) rfl
theorem ml_X6_3 : Cond.methodLink RX6 3 objectInit ∈ TT := tt_m 139 (by decide +kernel) rfl
theorem cl_X6_9 : Cond.classLink RX6 9 RX4 ∈ TT := tt_m 140 (by decide +kernel) rfl
theorem ml_X6_28 : Cond.methodLink RX6 28 yX4_init ∈ TT := tt_m 141 (by decide +kernel) rfl
theorem fl_X6_11 : Cond.fieldLink RX6 11 "CliqueLabels$History" "graphs" "[LCliqueLabels$Graph;" ∈ TT := tt_m 142 (by decide +kernel) rfl
theorem fl_X6_17 : Cond.fieldLink RX6 17 "CliqueLabels$History" "products" "[I" ∈ TT := tt_m 143 (by decide +kernel) rfl
theorem fl_X6_21 : Cond.fieldLink RX6 21 "CliqueLabels$History" "latest" "I" ∈ TT := tt_m 144 (by decide +kernel) rfl
theorem fl_X6_25 : Cond.fieldLink RX6 25 "CliqueLabels$History" "size" "I" ∈ TT := tt_m 145 (by decide +kernel) rfl
theorem fl_X7_217 : Cond.fieldLink RX7 217 "CliqueLabels$History" "size" "I" ∈ TT := tt_m 146 (by decide +kernel) rfl
theorem ac_boolean : Cond.arrayClass .boolean ∈ TT := tt_m 156 (by decide +kernel) rfl
theorem cl_X7_31 : Cond.classLink RX7 31 RX3 ∈ TT := tt_m 157 (by decide +kernel) rfl
theorem ib_X3 : Cond.instantiable RX3 2 ∈ TT := tt_m 158 (by decide +kernel) rfl
theorem im_X3_init : Cond.instanceMethod yX3_init ∈ TT := tt_m 160 (by decide +kernel) rfl
theorem co_X3_init : Cond.code yX3_init cX3_init 1 none ∈ TT := tt_m 161 (by decide +kernel) rfl
theorem ml_X3_3 : Cond.methodLink RX3 3 objectInit ∈ TT := tt_m 162 (by decide +kernel) rfl
theorem fl_X3_9 : Cond.fieldLink RX3 9 "CliqueLabels$EdgeText" "codes" "[C" ∈ TT := tt_m 163 (by decide +kernel) rfl
theorem fl_X7_194 : Cond.fieldLink RX7 194 "CliqueLabels$EdgeText" "codes" "[C" ∈ TT := tt_m 164 (by decide +kernel) rfl
theorem fl_X3_15 : Cond.fieldLink RX3 15 "CliqueLabels$EdgeText" "length" "I" ∈ TT := tt_m 165 (by decide +kernel) rfl
theorem fl_X7_189 : Cond.fieldLink RX7 189 "CliqueLabels$EdgeText" "length" "I" ∈ TT := tt_m 166 (by decide +kernel) rfl
theorem ac_char : Cond.arrayClass .char ∈ TT := tt_m 172 (by decide +kernel) rfl
theorem cl_X7_38 : Cond.classLink RX7 38 RX2 ∈ TT := tt_m 173 (by decide +kernel) rfl
theorem ib_X2 : Cond.instantiable RX2 2 ∈ TT := tt_m 174 (by decide +kernel) rfl
theorem im_X2_init : Cond.instanceMethod yX2_init ∈ TT := tt_m 176 (by decide +kernel) rfl
theorem co_X2_init : Cond.code yX2_init cX2_init 1 none ∈ TT := tt_m 177 (by decide +kernel) rfl
theorem ml_X2_3 : Cond.methodLink RX2 3 objectInit ∈ TT := tt_m 178 (by decide +kernel) rfl
theorem fl_X2_9 : Cond.fieldLink RX2 9 "CliqueLabels$Coloring" "colors" "[I" ∈ TT := tt_m 179 (by decide +kernel) rfl
theorem fl_X4_67 : Cond.fieldLink RX4 67 "CliqueLabels$Coloring" "colors" "[I" ∈ TT := tt_m 180 (by decide +kernel) rfl
theorem fl_X7_318 : Cond.fieldLink RX7 318 "CliqueLabels$Coloring" "colors" "[I" ∈ TT := tt_m 181 (by decide +kernel) rfl
theorem fl_X2_15 : Cond.fieldLink RX2 15 "CliqueLabels$Coloring" "number" "I" ∈ TT := tt_m 182 (by decide +kernel) rfl
theorem fl_X7_152 : Cond.fieldLink RX7 152 "CliqueLabels$Coloring" "number" "I" ∈ TT := tt_m 183 (by decide +kernel) rfl
theorem fl_X4_72 : Cond.fieldLink RX4 72 "CliqueLabels$Coloring" "number" "I" ∈ TT := tt_m 184 (by decide +kernel) rfl
theorem cl_X7_45 : Cond.classLink RX7 45 RX1 ∈ TT := tt_m 190 (by decide +kernel) rfl
theorem ib_X1 : Cond.instantiable RX1 2 ∈ TT := tt_m 191 (by decide +kernel) rfl
theorem im_X1_init : Cond.instanceMethod yX1_init ∈ TT := tt_m 193 (by decide +kernel) rfl
theorem co_X1_init : Cond.code yX1_init cX1_init 1 none ∈ TT := tt_m 194 (by decide +kernel) rfl
theorem ml_X1_3 : Cond.methodLink RX1 3 objectInit ∈ TT := tt_m 195 (by decide +kernel) rfl
theorem fl_X1_9 : Cond.fieldLink RX1 9 "CliqueLabels$Cliques" "weights" "[I" ∈ TT := tt_m 196 (by decide +kernel) rfl
theorem fl_X1_15 : Cond.fieldLink RX1 15 "CliqueLabels$Cliques" "masks" "I" ∈ TT := tt_m 197 (by decide +kernel) rfl
theorem cl_X7_52 : Cond.classLink RX7 52 RX0 ∈ TT := tt_m 203 (by decide +kernel) rfl
theorem ib_X0 : Cond.instantiable RX0 4 ∈ TT := tt_m 204 (by decide +kernel) rfl
theorem im_X0_init : Cond.instanceMethod yX0_init ∈ TT := tt_m 206 (by decide +kernel) rfl
theorem co_X0_init : Cond.code yX0_init cX0_init 1 none ∈ TT := tt_m 207 (by decide +kernel) rfl
theorem ml_X0_3 : Cond.methodLink RX0 3 objectInit ∈ TT := tt_m 208 (by decide +kernel) rfl
theorem k_X0_15 : Cond.constantLong RX0 15 (-1) ∈ TT := tt_m 209 (by decide +kernel) rfl
theorem fl_X0_9 : Cond.fieldLink RX0 9 "CliqueLabels$Bound" "exists" "Z" ∈ TT := tt_m 210 (by decide +kernel) rfl
theorem fl_X5_55 : Cond.fieldLink RX5 55 "CliqueLabels$Bound" "exists" "Z" ∈ TT := tt_m 211 (by decide +kernel) rfl
theorem fl_X7_174 : Cond.fieldLink RX7 174 "CliqueLabels$Bound" "exists" "Z" ∈ TT := tt_m 212 (by decide +kernel) rfl
theorem fl_X0_17 : Cond.fieldLink RX0 17 "CliqueLabels$Bound" "above" "J" ∈ TT := tt_m 213 (by decide +kernel) rfl
theorem fl_X7_336 : Cond.fieldLink RX7 336 "CliqueLabels$Bound" "above" "J" ∈ TT := tt_m 214 (by decide +kernel) rfl
theorem fl_X0_21 : Cond.fieldLink RX0 21 "CliqueLabels$Bound" "below" "J" ∈ TT := tt_m 215 (by decide +kernel) rfl
theorem fl_X7_340 : Cond.fieldLink RX7 340 "CliqueLabels$Bound" "below" "J" ∈ TT := tt_m 216 (by decide +kernel) rfl
theorem fl_X0_24 : Cond.fieldLink RX0 24 "CliqueLabels$Bound" "teller" "I" ∈ TT := tt_m 217 (by decide +kernel) rfl
theorem cl_X7_59 : Cond.classLink RX7 59 RX5 ∈ TT := tt_m 227 (by decide +kernel) rfl
theorem ib_X5 : Cond.instantiable RX5 4 ∈ TT := tt_m 228 (by decide +kernel) rfl
theorem im_X5_init : Cond.instanceMethod yX5_init ∈ TT := tt_m 230 (by decide +kernel) rfl
theorem co_X5_init : Cond.code yX5_init cX5_init 1 none ∈ TT := tt_m 231 (by decide +kernel) rfl
theorem ml_X5_3 : Cond.methodLink RX5 3 objectInit ∈ TT := tt_m 232 (by decide +kernel) rfl
theorem cl_X5_15 : Cond.classLink RX5 15 RX0 ∈ TT := tt_m 233 (by decide +kernel) rfl
theorem fl_X5_9 : Cond.fieldLink RX5 9 "CliqueLabels$HandleSearch" "best" "[I" ∈ TT := tt_m 235 (by decide +kernel) rfl
theorem fl_X7_178 : Cond.fieldLink RX7 178 "CliqueLabels$HandleSearch" "best" "[I" ∈ TT := tt_m 236 (by decide +kernel) rfl
theorem fl_X5_18 : Cond.fieldLink RX5 18 "CliqueLabels$HandleSearch" "least" "LCliqueLabels$Bound;" ∈ TT := tt_m 237 (by decide +kernel) rfl
theorem fl_X7_171 : Cond.fieldLink RX7 171 "CliqueLabels$HandleSearch" "least" "LCliqueLabels$Bound;" ∈ TT := tt_m 238 (by decide +kernel) rfl
theorem fl_X5_22 : Cond.fieldLink RX5 22 "CliqueLabels$HandleSearch" "trial" "[I" ∈ TT := tt_m 239 (by decide +kernel) rfl
theorem fl_X5_25 : Cond.fieldLink RX5 25 "CliqueLabels$HandleSearch" "tried" "LCliqueLabels$Bound;" ∈ TT := tt_m 240 (by decide +kernel) rfl
theorem fl_X7_12 : Cond.fieldLink RX7 12 "CliqueLabels" "now" "LCliqueLabels$Graph;" ∈ TT := tt_m 250 (by decide +kernel) rfl
theorem fl_X7_16 : Cond.fieldLink RX7 16 "CliqueLabels" "snapshots" "[LCliqueLabels$Graph;" ∈ TT := tt_m 251 (by decide +kernel) rfl
theorem fl_X7_20 : Cond.fieldLink RX7 20 "CliqueLabels" "taken" "[Z" ∈ TT := tt_m 252 (by decide +kernel) rfl
theorem fl_X7_27 : Cond.fieldLink RX7 27 "CliqueLabels" "history" "LCliqueLabels$History;" ∈ TT := tt_m 253 (by decide +kernel) rfl
theorem fl_X7_34 : Cond.fieldLink RX7 34 "CliqueLabels" "text" "LCliqueLabels$EdgeText;" ∈ TT := tt_m 254 (by decide +kernel) rfl
theorem fl_X7_41 : Cond.fieldLink RX7 41 "CliqueLabels" "coloring" "LCliqueLabels$Coloring;" ∈ TT := tt_m 255 (by decide +kernel) rfl
theorem fl_X7_48 : Cond.fieldLink RX7 48 "CliqueLabels" "cliques" "LCliqueLabels$Cliques;" ∈ TT := tt_m 256 (by decide +kernel) rfl
theorem fl_X7_55 : Cond.fieldLink RX7 55 "CliqueLabels" "told" "LCliqueLabels$Bound;" ∈ TT := tt_m 257 (by decide +kernel) rfl
theorem fl_X7_62 : Cond.fieldLink RX7 62 "CliqueLabels" "search" "LCliqueLabels$HandleSearch;" ∈ TT := tt_m 258 (by decide +kernel) rfl
theorem fl_X7_66 : Cond.fieldLink RX7 66 "CliqueLabels" "productsMade" "I" ∈ TT := tt_m 259 (by decide +kernel) rfl
theorem ml_L_108 : Cond.methodLink RL 108 yX7_complement ∈ TT := tt_m 281 (by decide +kernel) rfl
theorem im_X7_complement : Cond.instanceMethod yX7_complement ∈ TT := tt_m 282 (by decide +kernel) rfl
theorem se_X7_complement : Cond.selects RX7 yX7_complement yX7_complement ∈ TT := tt_m 283 (by decide +kernel) rfl
theorem co_X7_complement : Cond.code yX7_complement cX7_complement 1 (some .int) ∈ TT := tt_m 284 (by decide +kernel) rfl
theorem ml_X7_80 : Cond.methodLink RX7 80 yX7_saveState ∈ TT := tt_m 285 (by decide +kernel) rfl
theorem im_X7_saveState : Cond.instanceMethod yX7_saveState ∈ TT := tt_m 287 (by decide +kernel) rfl
theorem co_X7_saveState : Cond.code yX7_saveState cX7_saveState 1 none ∈ TT := tt_m 288 (by decide +kernel) rfl
theorem ml_X7_302 : Cond.methodLink RX7 302 yX6_save ∈ TT := tt_m 289 (by decide +kernel) rfl
theorem im_X6_save : Cond.instanceMethod yX6_save ∈ TT := tt_m 290 (by decide +kernel) rfl
theorem se_X6_save : Cond.selects RX6 yX6_save yX6_save ∈ TT := tt_m 291 (by decide +kernel) rfl
theorem co_X6_save : Cond.code yX6_save cX6_save 3 none ∈ TT := tt_m 292 (by decide +kernel) rfl
theorem ml_X6_29 : Cond.methodLink RX6 29 yX4_copyFrom ∈ TT := tt_m 293 (by decide +kernel) rfl
theorem im_X4_copyFrom : Cond.instanceMethod yX4_copyFrom ∈ TT := tt_m 294 (by decide +kernel) rfl
theorem se_X4_copyFrom : Cond.selects RX4 yX4_copyFrom yX4_copyFrom ∈ TT := tt_m 295 (by decide +kernel) rfl
theorem co_X4_copyFrom : Cond.code yX4_copyFrom cX4_copyFrom 3 none ∈ TT := tt_m 296 (by decide +kernel) rfl
theorem ml_X4_39 : Cond.methodLink RX4 39 arraycopyName ∈ TT := tt_m 297 (by decide +kernel) rfl
theorem st_acopy : Cond.static arraycopyName ∈ TT := tt_m 298 (by decide +kernel) rfl
theorem na_acopy : Cond.native arraycopyName ∈ TT := tt_m 299 (by decide +kernel) rfl
theorem ml_X6_33 : Cond.methodLink RX6 33 Lib.Math.min.name ∈ TT := tt_m 300 (by decide +kernel) rfl
theorem st_mmin : Cond.static Lib.Math.min.name ∈ TT := tt_m 301 (by decide +kernel) rfl
theorem co_mmin : Cond.code Lib.Math.min.name Lib.Math.min.code 2 (some .int) ∈ TT := tt_m 302 (by decide +kernel) rfl
theorem ml_X7_107 : Cond.methodLink RX7 107 yX4_flipEdges ∈ TT := tt_m 303 (by decide +kernel) rfl
theorem im_X4_flipEdges : Cond.instanceMethod yX4_flipEdges ∈ TT := tt_m 304 (by decide +kernel) rfl
theorem se_X4_flipEdges : Cond.selects RX4 yX4_flipEdges yX4_flipEdges ∈ TT := tt_m 305 (by decide +kernel) rfl
theorem co_X4_flipEdges : Cond.code yX4_flipEdges cX4_flipEdges 3 none ∈ TT := tt_m 306 (by decide +kernel) rfl
theorem ml_X7_97 : Cond.methodLink RX7 97 yX4_edges ∈ TT := tt_m 307 (by decide +kernel) rfl
theorem im_X4_edges : Cond.instanceMethod yX4_edges ∈ TT := tt_m 308 (by decide +kernel) rfl
theorem se_X4_edges : Cond.selects RX4 yX4_edges yX4_edges ∈ TT := tt_m 309 (by decide +kernel) rfl
theorem co_X4_edges : Cond.code yX4_edges cX4_edges 3 (some .int) ∈ TT := tt_m 310 (by decide +kernel) rfl
theorem ml_X4_45 : Cond.methodLink RX4 45 yJ6_bitCount_0f7a4 ∈ TT := tt_m 311 (by decide +kernel) rfl
theorem st_J6_bitCount_0f7a4 : Cond.static yJ6_bitCount_0f7a4 ∈ TT := tt_m 312 (by decide +kernel) rfl
theorem co_J6_bitCount_0f7a4 : Cond.code yJ6_bitCount_0f7a4 cJ6_bitCount_0f7a4 1 (some .int) ∈ TT := tt_m 313 (by decide +kernel) rfl
theorem k_J6_265 : Cond.constant RJ6 265 (1431655765) ∈ TT := tt_m 314 (by decide +kernel) rfl
theorem k_J6_266 : Cond.constant RJ6 266 (858993459) ∈ TT := tt_m 315 (by decide +kernel) rfl
theorem k_J6_267 : Cond.constant RJ6 267 (252645135) ∈ TT := tt_m 316 (by decide +kernel) rfl
theorem ml_L_136 : Cond.methodLink RL 136 yX7_clearBuffer ∈ TT := tt_m 317 (by decide +kernel) rfl
theorem im_X7_clearBuffer : Cond.instanceMethod yX7_clearBuffer ∈ TT := tt_m 318 (by decide +kernel) rfl
theorem se_X7_clearBuffer : Cond.selects RX7 yX7_clearBuffer yX7_clearBuffer ∈ TT := tt_m 319 (by decide +kernel) rfl
theorem co_X7_clearBuffer : Cond.code yX7_clearBuffer cX7_clearBuffer 2 (some .int) ∈ TT := tt_m 320 (by decide +kernel) rfl
theorem ml_L_140 : Cond.methodLink RL 140 yX7_firstError ∈ TT := tt_m 321 (by decide +kernel) rfl
theorem im_X7_firstError : Cond.instanceMethod yX7_firstError ∈ TT := tt_m 322 (by decide +kernel) rfl
theorem se_X7_firstError : Cond.selects RX7 yX7_firstError yX7_firstError ∈ TT := tt_m 323 (by decide +kernel) rfl
theorem co_X7_firstError : Cond.code yX7_firstError cX7_firstError 1 (some .int) ∈ TT := tt_m 324 (by decide +kernel) rfl
theorem ml_X7_198 : Cond.methodLink RX7 198 yX3_firstFault ∈ TT := tt_m 325 (by decide +kernel) rfl
theorem im_X3_firstFault : Cond.instanceMethod yX3_firstFault ∈ TT := tt_m 326 (by decide +kernel) rfl
theorem se_X3_firstFault : Cond.selects RX3 yX3_firstFault yX3_firstFault ∈ TT := tt_m 327 (by decide +kernel) rfl
theorem co_X3_firstFault : Cond.code yX3_firstFault cX3_firstFault 3 (some .int) ∈ TT := tt_m 328 (by decide +kernel) rfl
theorem ml_X3_19 : Cond.methodLink RX3 19 yX3_goesOn ∈ TT := tt_m 329 (by decide +kernel) rfl
theorem im_X3_goesOn : Cond.instanceMethod yX3_goesOn ∈ TT := tt_m 331 (by decide +kernel) rfl
theorem co_X3_goesOn : Cond.code yX3_goesOn cX3_goesOn 4 (some .boolean) ∈ TT := tt_m 332 (by decide +kernel) rfl
theorem ml_L_180 : Cond.methodLink RL 180 yX7_nearness ∈ TT := tt_m 333 (by decide +kernel) rfl
theorem im_X7_nearness : Cond.instanceMethod yX7_nearness ∈ TT := tt_m 334 (by decide +kernel) rfl
theorem se_X7_nearness : Cond.selects RX7 yX7_nearness yX7_nearness ∈ TT := tt_m 335 (by decide +kernel) rfl
theorem co_X7_nearness : Cond.code yX7_nearness cX7_nearness 1 (some .double) ∈ TT := tt_m 336 (by decide +kernel) rfl
theorem ml_X7_234 : Cond.methodLink RX7 234 yX7_searchGraph ∈ TT := tt_m 337 (by decide +kernel) rfl
theorem im_X7_searchGraph : Cond.instanceMethod yX7_searchGraph ∈ TT := tt_m 339 (by decide +kernel) rfl
theorem co_X7_searchGraph : Cond.code yX7_searchGraph cX7_searchGraph 1 none ∈ TT := tt_m 340 (by decide +kernel) rfl
theorem ml_X7_148 : Cond.methodLink RX7 148 yX2_find ∈ TT := tt_m 341 (by decide +kernel) rfl
theorem im_X2_find : Cond.instanceMethod yX2_find ∈ TT := tt_m 342 (by decide +kernel) rfl
theorem se_X2_find : Cond.selects RX2 yX2_find yX2_find ∈ TT := tt_m 343 (by decide +kernel) rfl
theorem co_X2_find : Cond.code yX2_find cX2_find 3 none ∈ TT := tt_m 344 (by decide +kernel) rfl
theorem ml_X2_24 : Cond.methodLink RX2 24 yX2_paint ∈ TT := tt_m 345 (by decide +kernel) rfl
theorem st_X2_paint : Cond.static yX2_paint ∈ TT := tt_m 346 (by decide +kernel) rfl
theorem co_X2_paint : Cond.code yX2_paint cX2_paint 6 (some .boolean) ∈ TT := tt_m 347 (by decide +kernel) rfl
theorem ml_X2_28 : Cond.methodLink RX2 28 yX2_isFree ∈ TT := tt_m 348 (by decide +kernel) rfl
theorem st_X2_isFree : Cond.static yX2_isFree ∈ TT := tt_m 349 (by decide +kernel) rfl
theorem co_X2_isFree : Cond.code yX2_isFree cX2_isFree 5 (some .boolean) ∈ TT := tt_m 350 (by decide +kernel) rfl
theorem ml_X2_38 : Cond.methodLink RX2 38 yX4_areJoined ∈ TT := tt_m 351 (by decide +kernel) rfl
theorem im_X4_areJoined : Cond.instanceMethod yX4_areJoined ∈ TT := tt_m 352 (by decide +kernel) rfl
theorem se_X4_areJoined : Cond.selects RX4 yX4_areJoined yX4_areJoined ∈ TT := tt_m 353 (by decide +kernel) rfl
theorem co_X4_areJoined : Cond.code yX4_areJoined cX4_areJoined 3 (some .boolean) ∈ TT := tt_m 354 (by decide +kernel) rfl
theorem ml_X2_32 : Cond.methodLink RX2 32 Lib.Math.max.name ∈ TT := tt_m 355 (by decide +kernel) rfl
theorem st_mmax : Cond.static Lib.Math.max.name ∈ TT := tt_m 356 (by decide +kernel) rfl
theorem co_mmax : Cond.code Lib.Math.max.name Lib.Math.max.code 2 (some .int) ∈ TT := tt_m 357 (by decide +kernel) rfl
theorem ml_X7_305 : Cond.methodLink RX7 305 yX1_find ∈ TT := tt_m 358 (by decide +kernel) rfl
theorem im_X1_find : Cond.instanceMethod yX1_find ∈ TT := tt_m 359 (by decide +kernel) rfl
theorem se_X1_find : Cond.selects RX1 yX1_find yX1_find ∈ TT := tt_m 360 (by decide +kernel) rfl
theorem co_X1_find : Cond.code yX1_find cX1_find 5 none ∈ TT := tt_m 361 (by decide +kernel) rfl
theorem ml_X7_264 : Cond.methodLink RX7 264 yX7_share ∈ TT := tt_m 362 (by decide +kernel) rfl
theorem im_X7_share : Cond.instanceMethod yX7_share ∈ TT := tt_m 364 (by decide +kernel) rfl
theorem co_X7_share : Cond.code yX7_share cX7_share 3 (some .double) ∈ TT := tt_m 365 (by decide +kernel) rfl
theorem ml_X7_244 : Cond.methodLink RX7 244 yX0_tellOf ∈ TT := tt_m 366 (by decide +kernel) rfl
theorem im_X0_tellOf : Cond.instanceMethod yX0_tellOf ∈ TT := tt_m 367 (by decide +kernel) rfl
theorem se_X0_tellOf : Cond.selects RX0 yX0_tellOf yX0_tellOf ∈ TT := tt_m 368 (by decide +kernel) rfl
theorem co_X0_tellOf : Cond.code yX0_tellOf cX0_tellOf 2 none ∈ TT := tt_m 369 (by decide +kernel) rfl
theorem ml_X0_28 : Cond.methodLink RX0 28 yX4_firstUnfit ∈ TT := tt_m 370 (by decide +kernel) rfl
theorem im_X4_firstUnfit : Cond.instanceMethod yX4_firstUnfit ∈ TT := tt_m 371 (by decide +kernel) rfl
theorem se_X4_firstUnfit : Cond.selects RX4 yX4_firstUnfit yX4_firstUnfit ∈ TT := tt_m 372 (by decide +kernel) rfl
theorem co_X4_firstUnfit : Cond.code yX4_firstUnfit cX4_firstUnfit 2 (some .int) ∈ TT := tt_m 373 (by decide +kernel) rfl
theorem ml_X4_92 : Cond.methodLink RX4 92 yX4_unfitPartner ∈ TT := tt_m 374 (by decide +kernel) rfl
theorem im_X4_unfitPartner : Cond.instanceMethod yX4_unfitPartner ∈ TT := tt_m 375 (by decide +kernel) rfl
theorem se_X4_unfitPartner : Cond.selects RX4 yX4_unfitPartner yX4_unfitPartner ∈ TT := tt_m 376 (by decide +kernel) rfl
theorem co_X4_unfitPartner : Cond.code yX4_unfitPartner cX4_unfitPartner 3 (some .int) ∈ TT := tt_m 377 (by decide +kernel) rfl
theorem ml_X4_89 : Cond.methodLink RX4 89 yX4_unfit ∈ TT := tt_m 378 (by decide +kernel) rfl
theorem im_X4_unfit : Cond.instanceMethod yX4_unfit ∈ TT := tt_m 379 (by decide +kernel) rfl
theorem se_X4_unfit : Cond.selects RX4 yX4_unfit yX4_unfit ∈ TT := tt_m 380 (by decide +kernel) rfl
theorem co_X4_unfit : Cond.code yX4_unfit cX4_unfit 3 (some .boolean) ∈ TT := tt_m 381 (by decide +kernel) rfl
theorem ml_X4_63 : Cond.methodLink RX4 63 yX4_areJoined ∈ TT := tt_m 382 (by decide +kernel) rfl
theorem st_X7_product : Cond.static yX7_product ∈ TT := tt_m 384 (by decide +kernel) rfl
theorem co_X7_product : Cond.code yX7_product cX7_product 4 (some .int) ∈ TT := tt_m 385 (by decide +kernel) rfl
theorem ml_X0_34 : Cond.methodLink RX0 34 yX0_tellNone ∈ TT := tt_m 386 (by decide +kernel) rfl
theorem im_X0_tellNone : Cond.instanceMethod yX0_tellNone ∈ TT := tt_m 387 (by decide +kernel) rfl
theorem se_X0_tellNone : Cond.selects RX0 yX0_tellNone yX0_tellNone ∈ TT := tt_m 388 (by decide +kernel) rfl
theorem co_X0_tellNone : Cond.code yX0_tellNone cX0_tellNone 1 none ∈ TT := tt_m 389 (by decide +kernel) rfl
theorem ml_X0_41 : Cond.methodLink RX0 41 yX0_measure ∈ TT := tt_m 390 (by decide +kernel) rfl
theorem im_X0_measure : Cond.instanceMethod yX0_measure ∈ TT := tt_m 391 (by decide +kernel) rfl
theorem se_X0_measure : Cond.selects RX0 yX0_measure yX0_measure ∈ TT := tt_m 392 (by decide +kernel) rfl
theorem co_X0_measure : Cond.code yX0_measure cX0_measure 9 none ∈ TT := tt_m 393 (by decide +kernel) rfl
theorem ml_X0_48 : Cond.methodLink RX0 48 yX4_firstMissed ∈ TT := tt_m 394 (by decide +kernel) rfl
theorem im_X4_firstMissed : Cond.instanceMethod yX4_firstMissed ∈ TT := tt_m 395 (by decide +kernel) rfl
theorem se_X4_firstMissed : Cond.selects RX4 yX4_firstMissed yX4_firstMissed ∈ TT := tt_m 396 (by decide +kernel) rfl
theorem co_X4_firstMissed : Cond.code yX4_firstMissed cX4_firstMissed 3 (some .int) ∈ TT := tt_m 397 (by decide +kernel) rfl
theorem ml_X0_66 : Cond.methodLink RX0 66 yX0_raise ∈ TT := tt_m 399 (by decide +kernel) rfl
theorem im_X0_raise : Cond.instanceMethod yX0_raise ∈ TT := tt_m 401 (by decide +kernel) rfl
theorem co_X0_raise : Cond.code yX0_raise cX0_raise 6 none ∈ TT := tt_m 402 (by decide +kernel) rfl
theorem ml_X0_45 : Cond.methodLink RX0 45 yX0_reduce ∈ TT := tt_m 403 (by decide +kernel) rfl
theorem im_X0_reduce : Cond.instanceMethod yX0_reduce ∈ TT := tt_m 404 (by decide +kernel) rfl
theorem se_X0_reduce : Cond.selects RX0 yX0_reduce yX0_reduce ∈ TT := tt_m 405 (by decide +kernel) rfl
theorem co_X0_reduce : Cond.code yX0_reduce cX0_reduce 8 none ∈ TT := tt_m 406 (by decide +kernel) rfl
theorem ml_X7_321 : Cond.methodLink RX7 321 yX1_heaviestWith ∈ TT := tt_m 407 (by decide +kernel) rfl
theorem im_X1_heaviestWith : Cond.instanceMethod yX1_heaviestWith ∈ TT := tt_m 408 (by decide +kernel) rfl
theorem se_X1_heaviestWith : Cond.selects RX1 yX1_heaviestWith yX1_heaviestWith ∈ TT := tt_m 409 (by decide +kernel) rfl
theorem co_X1_heaviestWith : Cond.code yX1_heaviestWith cX1_heaviestWith 4 (some .int) ∈ TT := tt_m 410 (by decide +kernel) rfl
theorem ml_X7_324 : Cond.methodLink RX7 324 yX1_weightOf ∈ TT := tt_m 411 (by decide +kernel) rfl
theorem im_X1_weightOf : Cond.instanceMethod yX1_weightOf ∈ TT := tt_m 412 (by decide +kernel) rfl
theorem se_X1_weightOf : Cond.selects RX1 yX1_weightOf yX1_weightOf ∈ TT := tt_m 413 (by decide +kernel) rfl
theorem co_X1_weightOf : Cond.code yX1_weightOf cX1_weightOf 2 (some .int) ∈ TT := tt_m 414 (by decide +kernel) rfl
theorem ml_L_185 : Cond.methodLink RL 185 yX7_digest ∈ TT := tt_m 415 (by decide +kernel) rfl
theorem im_X7_digest : Cond.instanceMethod yX7_digest ∈ TT := tt_m 416 (by decide +kernel) rfl
theorem se_X7_digest : Cond.selects RX7 yX7_digest yX7_digest ∈ TT := tt_m 417 (by decide +kernel) rfl
theorem co_X7_digest : Cond.code yX7_digest cX7_digest 4 (some .long) ∈ TT := tt_m 418 (by decide +kernel) rfl
theorem k_X7_268 : Cond.constantLong RX7 268 (2521) ∈ TT := tt_m 419 (by decide +kernel) rfl
theorem ml_X7_261 : Cond.methodLink RX7 261 yX7_numberOf ∈ TT := tt_m 420 (by decide +kernel) rfl
theorem im_X7_numberOf : Cond.instanceMethod yX7_numberOf ∈ TT := tt_m 422 (by decide +kernel) rfl
theorem co_X7_numberOf : Cond.code yX7_numberOf cX7_numberOf 2 (some .int) ∈ TT := tt_m 423 (by decide +kernel) rfl
theorem ml_X7_327 : Cond.methodLink RX7 327 yX1_mostVertices ∈ TT := tt_m 424 (by decide +kernel) rfl
theorem im_X1_mostVertices : Cond.instanceMethod yX1_mostVertices ∈ TT := tt_m 425 (by decide +kernel) rfl
theorem se_X1_mostVertices : Cond.selects RX1 yX1_mostVertices yX1_mostVertices ∈ TT := tt_m 426 (by decide +kernel) rfl
theorem co_X1_mostVertices : Cond.code yX1_mostVertices cX1_mostVertices 3 (some .int) ∈ TT := tt_m 427 (by decide +kernel) rfl
theorem ml_X1_28 : Cond.methodLink RX1 28 yJ6_bitCount_0f7a4 ∈ TT := tt_m 428 (by decide +kernel) rfl
theorem ml_X1_34 : Cond.methodLink RX1 34 Lib.Math.max.name ∈ TT := tt_m 429 (by decide +kernel) rfl
theorem ml_X7_330 : Cond.methodLink RX7 330 yX4_unfitPairs ∈ TT := tt_m 430 (by decide +kernel) rfl
theorem im_X4_unfitPairs : Cond.instanceMethod yX4_unfitPairs ∈ TT := tt_m 431 (by decide +kernel) rfl
theorem se_X4_unfitPairs : Cond.selects RX4 yX4_unfitPairs yX4_unfitPairs ∈ TT := tt_m 432 (by decide +kernel) rfl
theorem co_X4_unfitPairs : Cond.code yX4_unfitPairs cX4_unfitPairs 4 (some .int) ∈ TT := tt_m 433 (by decide +kernel) rfl
theorem ml_X7_314 : Cond.methodLink RX7 314 yX7_product ∈ TT := tt_m 434 (by decide +kernel) rfl
theorem ml_X7_333 : Cond.methodLink RX7 333 yX7_takenSnapshots ∈ TT := tt_m 435 (by decide +kernel) rfl
theorem im_X7_takenSnapshots : Cond.instanceMethod yX7_takenSnapshots ∈ TT := tt_m 437 (by decide +kernel) rfl
theorem co_X7_takenSnapshots : Cond.code yX7_takenSnapshots cX7_takenSnapshots 3 (some .int) ∈ TT := tt_m 438 (by decide +kernel) rfl
theorem ml_X7_270 : Cond.methodLink RX7 270 yX7_mix ∈ TT := tt_m 439 (by decide +kernel) rfl
theorem st_X7_mix : Cond.static yX7_mix ∈ TT := tt_m 440 (by decide +kernel) rfl
theorem co_X7_mix : Cond.code yX7_mix cX7_mix 4 (some .long) ∈ TT := tt_m 441 (by decide +kernel) rfl
theorem k_X7_362 : Cond.constantLong RX7 362 (31) ∈ TT := tt_m 442 (by decide +kernel) rfl
theorem ml_X7_274 : Cond.methodLink RX7 274 yX7_mixVertices ∈ TT := tt_m 443 (by decide +kernel) rfl
theorem im_X7_mixVertices : Cond.instanceMethod yX7_mixVertices ∈ TT := tt_m 445 (by decide +kernel) rfl
theorem co_X7_mixVertices : Cond.code yX7_mixVertices cX7_mixVertices 7 (some .long) ∈ TT := tt_m 446 (by decide +kernel) rfl
theorem ml_X7_237 : Cond.methodLink RX7 237 yX7_propertyOf ∈ TT := tt_m 447 (by decide +kernel) rfl
theorem im_X7_propertyOf : Cond.instanceMethod yX7_propertyOf ∈ TT := tt_m 449 (by decide +kernel) rfl
theorem co_X7_propertyOf : Cond.code yX7_propertyOf cX7_propertyOf 3 (some .int) ∈ TT := tt_m 450 (by decide +kernel) rfl
theorem ml_X7_309 : Cond.methodLink RX7 309 yJ6_bitCount_0f7a4 ∈ TT := tt_m 451 (by decide +kernel) rfl
theorem ml_X7_228 : Cond.methodLink RX7 228 yX4_areJoined ∈ TT := tt_m 452 (by decide +kernel) rfl
theorem ml_X7_278 : Cond.methodLink RX7 278 yX7_mixBounds ∈ TT := tt_m 453 (by decide +kernel) rfl
theorem im_X7_mixBounds : Cond.instanceMethod yX7_mixBounds ∈ TT := tt_m 455 (by decide +kernel) rfl
theorem co_X7_mixBounds : Cond.code yX7_mixBounds cX7_mixBounds 6 (some .long) ∈ TT := tt_m 456 (by decide +kernel) rfl
theorem ml_X7_247 : Cond.methodLink RX7 247 yX0_partOf ∈ TT := tt_m 457 (by decide +kernel) rfl
theorem im_X0_partOf : Cond.instanceMethod yX0_partOf ∈ TT := tt_m 458 (by decide +kernel) rfl
theorem se_X0_partOf : Cond.selects RX0 yX0_partOf yX0_partOf ∈ TT := tt_m 459 (by decide +kernel) rfl
theorem co_X0_partOf : Cond.code yX0_partOf cX0_partOf 2 (some .long) ∈ TT := tt_m 460 (by decide +kernel) rfl
theorem ml_X7_251 : Cond.methodLink RX7 251 yX7_whyNoBound ∈ TT := tt_m 461 (by decide +kernel) rfl
theorem im_X7_whyNoBound : Cond.instanceMethod yX7_whyNoBound ∈ TT := tt_m 463 (by decide +kernel) rfl
theorem co_X7_whyNoBound : Cond.code yX7_whyNoBound cX7_whyNoBound 4 (some .int) ∈ TT := tt_m 464 (by decide +kernel) rfl
theorem ml_X7_343 : Cond.methodLink RX7 343 yX4_firstUnfit ∈ TT := tt_m 465 (by decide +kernel) rfl
theorem ml_X7_346 : Cond.methodLink RX7 346 yX4_unfitPartner ∈ TT := tt_m 466 (by decide +kernel) rfl
theorem ml_X7_349 : Cond.methodLink RX7 349 yX4_firstMissed ∈ TT := tt_m 467 (by decide +kernel) rfl
theorem ml_X7_167 : Cond.methodLink RX7 167 yX5_run ∈ TT := tt_m 468 (by decide +kernel) rfl
theorem im_X5_run : Cond.instanceMethod yX5_run ∈ TT := tt_m 469 (by decide +kernel) rfl
theorem se_X5_run : Cond.selects RX5 yX5_run yX5_run ∈ TT := tt_m 470 (by decide +kernel) rfl
theorem co_X5_run : Cond.code yX5_run cX5_run 5 none ∈ TT := tt_m 471 (by decide +kernel) rfl
theorem ml_X5_28 : Cond.methodLink RX5 28 yJ7_fill_53178 ∈ TT := tt_m 472 (by decide +kernel) rfl
theorem ml_X5_34 : Cond.methodLink RX5 34 yX0_tellNone ∈ TT := tt_m 473 (by decide +kernel) rfl
theorem ml_X5_37 : Cond.methodLink RX5 37 yX4_firstUnfit ∈ TT := tt_m 474 (by decide +kernel) rfl
theorem ml_X5_47 : Cond.methodLink RX5 47 yX5_begins ∈ TT := tt_m 475 (by decide +kernel) rfl
theorem im_X5_begins : Cond.instanceMethod yX5_begins ∈ TT := tt_m 477 (by decide +kernel) rfl
theorem co_X5_begins : Cond.code yX5_begins cX5_begins 5 (some .int) ∈ TT := tt_m 478 (by decide +kernel) rfl
theorem ml_X5_51 : Cond.methodLink RX5 51 yX0_measure ∈ TT := tt_m 479 (by decide +kernel) rfl
theorem ml_X5_59 : Cond.methodLink RX5 59 yX0_isLessThan ∈ TT := tt_m 480 (by decide +kernel) rfl
theorem im_X0_isLessThan : Cond.instanceMethod yX0_isLessThan ∈ TT := tt_m 481 (by decide +kernel) rfl
theorem se_X0_isLessThan : Cond.selects RX0 yX0_isLessThan yX0_isLessThan ∈ TT := tt_m 482 (by decide +kernel) rfl
theorem co_X0_isLessThan : Cond.code yX0_isLessThan cX0_isLessThan 2 (some .boolean) ∈ TT := tt_m 483 (by decide +kernel) rfl
theorem ml_X5_63 : Cond.methodLink RX5 63 yX0_copyFrom ∈ TT := tt_m 484 (by decide +kernel) rfl
theorem im_X0_copyFrom : Cond.instanceMethod yX0_copyFrom ∈ TT := tt_m 485 (by decide +kernel) rfl
theorem se_X0_copyFrom : Cond.selects RX0 yX0_copyFrom yX0_copyFrom ∈ TT := tt_m 486 (by decide +kernel) rfl
theorem co_X0_copyFrom : Cond.code yX0_copyFrom cX0_copyFrom 2 none ∈ TT := tt_m 487 (by decide +kernel) rfl
theorem ml_X5_67 : Cond.methodLink RX5 67 arraycopyName ∈ TT := tt_m 488 (by decide +kernel) rfl
theorem ml_X5_73 : Cond.methodLink RX5 73 yX5_goOn ∈ TT := tt_m 489 (by decide +kernel) rfl
theorem im_X5_goOn : Cond.instanceMethod yX5_goOn ∈ TT := tt_m 491 (by decide +kernel) rfl
theorem co_X5_goOn : Cond.code yX5_goOn cX5_goOn 4 none ∈ TT := tt_m 492 (by decide +kernel) rfl
theorem ml_X5_77 : Cond.methodLink RX5 77 yX0_reduce ∈ TT := tt_m 493 (by decide +kernel) rfl
theorem ml_X7_256 : Cond.methodLink RX7 256 yX5_answer ∈ TT := tt_m 494 (by decide +kernel) rfl
theorem im_X5_answer : Cond.instanceMethod yX5_answer ∈ TT := tt_m 495 (by decide +kernel) rfl
theorem se_X5_answer : Cond.selects RX5 yX5_answer yX5_answer ∈ TT := tt_m 496 (by decide +kernel) rfl
theorem co_X5_answer : Cond.code yX5_answer cX5_answer 2 (some .long) ∈ TT := tt_m 497 (by decide +kernel) rfl
theorem ml_X5_80 : Cond.methodLink RX5 80 yX0_partOf ∈ TT := tt_m 498 (by decide +kernel) rfl
theorem ml_X7_281 : Cond.methodLink RX7 281 yX7_bitsOf ∈ TT := tt_m 499 (by decide +kernel) rfl
theorem st_X7_bitsOf : Cond.static yX7_bitsOf ∈ TT := tt_m 500 (by decide +kernel) rfl
theorem co_X7_bitsOf : Cond.code yX7_bitsOf cX7_bitsOf 7 (some .long) ∈ TT := tt_m 501 (by decide +kernel) rfl
theorem k_X7_364 : Cond.constantLong RX7 364 (1023) ∈ TT := tt_m 502 (by decide +kernel) rfl
theorem k_X7_366 : Cond.constantDouble RX7 366 (4611686018427387904) ∈ TT := tt_m 503 (by decide +kernel) rfl
theorem k_X7_368 : Cond.constantDouble RX7 368 (4841369599423283200) ∈ TT := tt_m 504 (by decide +kernel) rfl
theorem ml_L_92 : Cond.methodLink RL 92 yL_begin ∈ TT := tt_m 505 (by decide +kernel) rfl
theorem st_L_begin : Cond.static yL_begin ∈ TT := tt_m 506 (by decide +kernel) rfl
theorem co_L_begin : Cond.codeWith yL_begin cL_begin 5 (some .int) [(0, 10, 13, 13)] ∈ TT := tt_m 507 (by decide +kernel) rfl
theorem cl_L_13 : Cond.classLink RL 13 "java/lang/IllegalArgumentException" ∈ TT := tt_m 508 (by decide +kernel) rfl
theorem ml_L_7 : Cond.methodLink RL 7 yX7_begin ∈ TT := tt_m 509 (by decide +kernel) rfl
theorem im_X7_begin : Cond.instanceMethod yX7_begin ∈ TT := tt_m 510 (by decide +kernel) rfl
theorem se_X7_begin : Cond.selects RX7 yX7_begin yX7_begin ∈ TT := tt_m 511 (by decide +kernel) rfl
theorem co_X7_begin : Cond.code yX7_begin cX7_begin 4 (some .int) ∈ TT := tt_m 512 (by decide +kernel) rfl
theorem cl_X7_70 : Cond.classLink RX7 70 "java/lang/IllegalArgumentException" ∈ TT := tt_m 513 (by decide +kernel) rfl
theorem ib_IllegalArgumentException : Cond.instantiable "java/lang/IllegalArgumentException" 6 ∈ TT := tt_m 514 (by decide +kernel) rfl
theorem ib_Throwable : Cond.instantiable "java/lang/Throwable" 6 ∈ TT := tt_m 552 (by decide +kernel) rfl
theorem ac_byte : Cond.arrayClass .byte ∈ TT := tt_m 580 (by decide +kernel) rfl
theorem ml_X7_83 : Cond.methodLink RX7 83 yX4_clear ∈ TT := tt_m 581 (by decide +kernel) rfl
theorem im_X4_clear : Cond.instanceMethod yX4_clear ∈ TT := tt_m 582 (by decide +kernel) rfl
theorem se_X4_clear : Cond.selects RX4 yX4_clear yX4_clear ∈ TT := tt_m 583 (by decide +kernel) rfl
theorem co_X4_clear : Cond.code yX4_clear cX4_clear 4 none ∈ TT := tt_m 584 (by decide +kernel) rfl
theorem ml_L_101 : Cond.methodLink RL 101 yL_join ∈ TT := tt_m 585 (by decide +kernel) rfl
theorem st_L_join : Cond.static yL_join ∈ TT := tt_m 586 (by decide +kernel) rfl
theorem co_L_join : Cond.codeWith yL_join cL_join 6 (some .int) [(0, 12, 15, 19), (0, 12, 19, 13)] ∈ TT := tt_m 587 (by decide +kernel) rfl
theorem cl_L_19 : Cond.classLink RL 19 "java/lang/IndexOutOfBoundsException" ∈ TT := tt_m 588 (by decide +kernel) rfl
theorem ml_L_15 : Cond.methodLink RL 15 yX7_join ∈ TT := tt_m 589 (by decide +kernel) rfl
theorem im_X7_join : Cond.instanceMethod yX7_join ∈ TT := tt_m 590 (by decide +kernel) rfl
theorem se_X7_join : Cond.selects RX7 yX7_join yX7_join ∈ TT := tt_m 591 (by decide +kernel) rfl
theorem co_X7_join : Cond.code yX7_join cX7_join 4 (some .int) ∈ TT := tt_m 592 (by decide +kernel) rfl
theorem ml_X7_87 : Cond.methodLink RX7 87 yX7_checkVertex ∈ TT := tt_m 593 (by decide +kernel) rfl
theorem im_X7_checkVertex : Cond.instanceMethod yX7_checkVertex ∈ TT := tt_m 595 (by decide +kernel) rfl
theorem co_X7_checkVertex : Cond.code yX7_checkVertex cX7_checkVertex 2 none ∈ TT := tt_m 596 (by decide +kernel) rfl
theorem cl_X7_285 : Cond.classLink RX7 285 "java/lang/IndexOutOfBoundsException" ∈ TT := tt_m 597 (by decide +kernel) rfl
theorem ib_IndexOutOfBoundsException : Cond.instantiable "java/lang/IndexOutOfBoundsException" 6 ∈ TT := tt_m 598 (by decide +kernel) rfl
theorem ml_X7_93 : Cond.methodLink RX7 93 yX4_connect ∈ TT := tt_m 614 (by decide +kernel) rfl
theorem im_X4_connect : Cond.instanceMethod yX4_connect ∈ TT := tt_m 615 (by decide +kernel) rfl
theorem se_X4_connect : Cond.selects RX4 yX4_connect yX4_connect ∈ TT := tt_m 616 (by decide +kernel) rfl
theorem co_X4_connect : Cond.code yX4_connect cX4_connect 4 none ∈ TT := tt_m 617 (by decide +kernel) rfl
theorem ml_L_105 : Cond.methodLink RL 105 yL_weigh ∈ TT := tt_m 618 (by decide +kernel) rfl
theorem st_L_weigh : Cond.static yL_weigh ∈ TT := tt_m 619 (by decide +kernel) rfl
theorem co_L_weigh : Cond.codeWith yL_weigh cL_weigh 5 (some .int) [(0, 10, 13, 19), (0, 10, 17, 13)] ∈ TT := tt_m 620 (by decide +kernel) rfl
theorem ml_L_21 : Cond.methodLink RL 21 yX7_weigh ∈ TT := tt_m 621 (by decide +kernel) rfl
theorem im_X7_weigh : Cond.instanceMethod yX7_weigh ∈ TT := tt_m 622 (by decide +kernel) rfl
theorem se_X7_weigh : Cond.selects RX7 yX7_weigh yX7_weigh ∈ TT := tt_m 623 (by decide +kernel) rfl
theorem co_X7_weigh : Cond.code yX7_weigh cX7_weigh 4 (some .int) ∈ TT := tt_m 624 (by decide +kernel) rfl
theorem ml_L_112 : Cond.methodLink RL 112 yL_remove ∈ TT := tt_m 626 (by decide +kernel) rfl
theorem st_L_remove : Cond.static yL_remove ∈ TT := tt_m 627 (by decide +kernel) rfl
theorem co_L_remove : Cond.codeWith yL_remove cL_remove 4 (some .int) [(0, 9, 12, 19), (0, 9, 15, 28)] ∈ TT := tt_m 628 (by decide +kernel) rfl
theorem cl_L_28 : Cond.classLink RL 28 "java/lang/IllegalStateException" ∈ TT := tt_m 629 (by decide +kernel) rfl
theorem ml_L_24 : Cond.methodLink RL 24 yX7_remove ∈ TT := tt_m 630 (by decide +kernel) rfl
theorem im_X7_remove : Cond.instanceMethod yX7_remove ∈ TT := tt_m 631 (by decide +kernel) rfl
theorem se_X7_remove : Cond.selects RX7 yX7_remove yX7_remove ∈ TT := tt_m 632 (by decide +kernel) rfl
theorem co_X7_remove : Cond.code yX7_remove cX7_remove 2 (some .int) ∈ TT := tt_m 633 (by decide +kernel) rfl
theorem cl_X7_110 : Cond.classLink RX7 110 "java/lang/IllegalStateException" ∈ TT := tt_m 634 (by decide +kernel) rfl
theorem ib_IllegalStateException : Cond.instantiable "java/lang/IllegalStateException" 6 ∈ TT := tt_m 635 (by decide +kernel) rfl
theorem ml_X7_115 : Cond.methodLink RX7 115 yX4_drop ∈ TT := tt_m 650 (by decide +kernel) rfl
theorem im_X4_drop : Cond.instanceMethod yX4_drop ∈ TT := tt_m 651 (by decide +kernel) rfl
theorem se_X4_drop : Cond.selects RX4 yX4_drop yX4_drop ∈ TT := tt_m 652 (by decide +kernel) rfl
theorem co_X4_drop : Cond.code yX4_drop cX4_drop 5 none ∈ TT := tt_m 653 (by decide +kernel) rfl
theorem ml_L_116 : Cond.methodLink RL 116 yL_multiply ∈ TT := tt_m 654 (by decide +kernel) rfl
theorem st_L_multiply : Cond.static yL_multiply ∈ TT := tt_m 655 (by decide +kernel) rfl
theorem co_L_multiply : Cond.codeWith yL_multiply cL_multiply 4 (some .int) [(0, 9, 12, 19), (0, 9, 15, 28)] ∈ TT := tt_m 656 (by decide +kernel) rfl
theorem ml_L_30 : Cond.methodLink RL 30 yX7_multiply ∈ TT := tt_m 657 (by decide +kernel) rfl
theorem im_X7_multiply : Cond.instanceMethod yX7_multiply ∈ TT := tt_m 658 (by decide +kernel) rfl
theorem se_X7_multiply : Cond.selects RX7 yX7_multiply yX7_multiply ∈ TT := tt_m 659 (by decide +kernel) rfl
theorem co_X7_multiply : Cond.code yX7_multiply cX7_multiply 3 (some .int) ∈ TT := tt_m 660 (by decide +kernel) rfl
theorem ml_X7_118 : Cond.methodLink RX7 118 yX7_checkTaken ∈ TT := tt_m 661 (by decide +kernel) rfl
theorem im_X7_checkTaken : Cond.instanceMethod yX7_checkTaken ∈ TT := tt_m 663 (by decide +kernel) rfl
theorem co_X7_checkTaken : Cond.code yX7_checkTaken cX7_checkTaken 2 none ∈ TT := tt_m 664 (by decide +kernel) rfl
theorem ml_X7_211 : Cond.methodLink RX7 211 yX7_checkSnapshot ∈ TT := tt_m 665 (by decide +kernel) rfl
theorem im_X7_checkSnapshot : Cond.instanceMethod yX7_checkSnapshot ∈ TT := tt_m 667 (by decide +kernel) rfl
theorem co_X7_checkSnapshot : Cond.code yX7_checkSnapshot cX7_checkSnapshot 2 none ∈ TT := tt_m 668 (by decide +kernel) rfl
theorem ml_X7_121 : Cond.methodLink RX7 121 yX7_reasonAgainst ∈ TT := tt_m 671 (by decide +kernel) rfl
theorem st_X7_reasonAgainst : Cond.static yX7_reasonAgainst ∈ TT := tt_m 672 (by decide +kernel) rfl
theorem co_X7_reasonAgainst : Cond.code yX7_reasonAgainst cX7_reasonAgainst 2 (some .int) ∈ TT := tt_m 673 (by decide +kernel) rfl
theorem ml_X7_353 : Cond.methodLink RX7 353 yX4_greatestWeight ∈ TT := tt_m 674 (by decide +kernel) rfl
theorem im_X4_greatestWeight : Cond.instanceMethod yX4_greatestWeight ∈ TT := tt_m 675 (by decide +kernel) rfl
theorem se_X4_greatestWeight : Cond.selects RX4 yX4_greatestWeight yX4_greatestWeight ∈ TT := tt_m 676 (by decide +kernel) rfl
theorem co_X4_greatestWeight : Cond.code yX4_greatestWeight cX4_greatestWeight 3 (some .int) ∈ TT := tt_m 677 (by decide +kernel) rfl
theorem ml_X4_75 : Cond.methodLink RX4 75 Lib.Math.max.name ∈ TT := tt_m 678 (by decide +kernel) rfl
theorem ml_X7_356 : Cond.methodLink RX7 356 yX4_furthestOfLabels ∈ TT := tt_m 679 (by decide +kernel) rfl
theorem im_X4_furthestOfLabels : Cond.instanceMethod yX4_furthestOfLabels ∈ TT := tt_m 680 (by decide +kernel) rfl
theorem se_X4_furthestOfLabels : Cond.selects RX4 yX4_furthestOfLabels yX4_furthestOfLabels ∈ TT := tt_m 681 (by decide +kernel) rfl
theorem co_X4_furthestOfLabels : Cond.code yX4_furthestOfLabels cX4_furthestOfLabels 3 (some .int) ∈ TT := tt_m 682 (by decide +kernel) rfl
theorem st_X7_furthest : Cond.static yX7_furthest ∈ TT := tt_m 684 (by decide +kernel) rfl
theorem co_X7_furthest : Cond.code yX7_furthest cX7_furthest 3 (some .int) ∈ TT := tt_m 685 (by decide +kernel) rfl
theorem ml_X7_370 : Cond.methodLink RX7 370 Lib.Math.abs.name ∈ TT := tt_m 686 (by decide +kernel) rfl
theorem st_mabs : Cond.static Lib.Math.abs.name ∈ TT := tt_m 687 (by decide +kernel) rfl
theorem co_mabs : Cond.code Lib.Math.abs.name Lib.Math.abs.code 1 (some .int) ∈ TT := tt_m 688 (by decide +kernel) rfl
theorem ml_X7_375 : Cond.methodLink RX7 375 Lib.Math.max.name ∈ TT := tt_m 689 (by decide +kernel) rfl
theorem ml_X7_359 : Cond.methodLink RX7 359 yX7_furthest ∈ TT := tt_m 690 (by decide +kernel) rfl
theorem ml_X7_127 : Cond.methodLink RX7 127 yX6_latestGraph ∈ TT := tt_m 692 (by decide +kernel) rfl
theorem im_X6_latestGraph : Cond.instanceMethod yX6_latestGraph ∈ TT := tt_m 693 (by decide +kernel) rfl
theorem se_X6_latestGraph : Cond.selects RX6 yX6_latestGraph yX6_latestGraph ∈ TT := tt_m 694 (by decide +kernel) rfl
theorem co_X6_latestGraph : Cond.code yX6_latestGraph cX6_latestGraph 1 (some (.object "CliqueLabels$Graph")) ∈ TT := tt_m 695 (by decide +kernel) rfl
theorem ml_X7_131 : Cond.methodLink RX7 131 yX4_becomeProduct ∈ TT := tt_m 696 (by decide +kernel) rfl
theorem im_X4_becomeProduct : Cond.instanceMethod yX4_becomeProduct ∈ TT := tt_m 697 (by decide +kernel) rfl
theorem se_X4_becomeProduct : Cond.selects RX4 yX4_becomeProduct yX4_becomeProduct ∈ TT := tt_m 698 (by decide +kernel) rfl
theorem co_X4_becomeProduct : Cond.code yX4_becomeProduct cX4_becomeProduct 6 none ∈ TT := tt_m 699 (by decide +kernel) rfl
theorem ml_X4_51 : Cond.methodLink RX4 51 yX4_clear ∈ TT := tt_m 700 (by decide +kernel) rfl
theorem ml_X4_55 : Cond.methodLink RX4 55 yX4_productNeighbors ∈ TT := tt_m 701 (by decide +kernel) rfl
theorem st_X4_productNeighbors : Cond.static yX4_productNeighbors ∈ TT := tt_m 702 (by decide +kernel) rfl
theorem co_X4_productNeighbors : Cond.code yX4_productNeighbors cX4_productNeighbors 7 (some .int) ∈ TT := tt_m 703 (by decide +kernel) rfl
theorem ml_X4_59 : Cond.methodLink RX4 59 yX4_fillProduct ∈ TT := tt_m 704 (by decide +kernel) rfl
theorem st_X4_fillProduct : Cond.static yX4_fillProduct ∈ TT := tt_m 705 (by decide +kernel) rfl
theorem co_X4_fillProduct : Cond.code yX4_fillProduct cX4_fillProduct 7 none ∈ TT := tt_m 706 (by decide +kernel) rfl
theorem ml_L_119 : Cond.methodLink RL 119 yL_label ∈ TT := tt_m 707 (by decide +kernel) rfl
theorem st_L_label : Cond.static yL_label ∈ TT := tt_m 708 (by decide +kernel) rfl
theorem co_L_label : Cond.codeWith yL_label cL_label 6 (some .int) [(0, 12, 15, 19), (0, 12, 19, 13)] ∈ TT := tt_m 709 (by decide +kernel) rfl
theorem ml_L_33 : Cond.methodLink RL 33 yX7_label ∈ TT := tt_m 710 (by decide +kernel) rfl
theorem im_X7_label : Cond.instanceMethod yX7_label ∈ TT := tt_m 711 (by decide +kernel) rfl
theorem se_X7_label : Cond.selects RX7 yX7_label yX7_label ∈ TT := tt_m 712 (by decide +kernel) rfl
theorem co_X7_label : Cond.code yX7_label cX7_label 5 (some .int) ∈ TT := tt_m 713 (by decide +kernel) rfl
theorem ml_X7_135 : Cond.methodLink RX7 135 yX7_checkPlace ∈ TT := tt_m 714 (by decide +kernel) rfl
theorem im_X7_checkPlace : Cond.instanceMethod yX7_checkPlace ∈ TT := tt_m 716 (by decide +kernel) rfl
theorem co_X7_checkPlace : Cond.code yX7_checkPlace cX7_checkPlace 2 none ∈ TT := tt_m 717 (by decide +kernel) rfl
theorem ml_X7_138 : Cond.methodLink RX7 138 yX7_checkNumber ∈ TT := tt_m 719 (by decide +kernel) rfl
theorem st_X7_checkNumber : Cond.static yX7_checkNumber ∈ TT := tt_m 720 (by decide +kernel) rfl
theorem co_X7_checkNumber : Cond.code yX7_checkNumber cX7_checkNumber 1 none ∈ TT := tt_m 721 (by decide +kernel) rfl
theorem ml_L_123 : Cond.methodLink RL 123 yL_hold ∈ TT := tt_m 723 (by decide +kernel) rfl
theorem st_L_hold : Cond.static yL_hold ∈ TT := tt_m 724 (by decide +kernel) rfl
theorem co_L_hold : Cond.codeWith yL_hold cL_hold 5 (some .int) [(0, 10, 13, 19), (0, 10, 17, 13)] ∈ TT := tt_m 725 (by decide +kernel) rfl
theorem ml_L_37 : Cond.methodLink RL 37 yX7_hold ∈ TT := tt_m 726 (by decide +kernel) rfl
theorem im_X7_hold : Cond.instanceMethod yX7_hold ∈ TT := tt_m 727 (by decide +kernel) rfl
theorem se_X7_hold : Cond.selects RX7 yX7_hold yX7_hold ∈ TT := tt_m 728 (by decide +kernel) rfl
theorem co_X7_hold : Cond.code yX7_hold cX7_hold 4 (some .int) ∈ TT := tt_m 729 (by decide +kernel) rfl
theorem ml_L_126 : Cond.methodLink RL 126 yL_labelByColors ∈ TT := tt_m 730 (by decide +kernel) rfl
theorem st_L_labelByColors : Cond.static yL_labelByColors ∈ TT := tt_m 731 (by decide +kernel) rfl
theorem co_L_labelByColors : Cond.codeWith yL_labelByColors cL_labelByColors 3 (some .int) [(0, 8, 11, 28)] ∈ TT := tt_m 732 (by decide +kernel) rfl
theorem ml_L_40 : Cond.methodLink RL 40 yX7_labelByColors ∈ TT := tt_m 733 (by decide +kernel) rfl
theorem im_X7_labelByColors : Cond.instanceMethod yX7_labelByColors ∈ TT := tt_m 734 (by decide +kernel) rfl
theorem se_X7_labelByColors : Cond.selects RX7 yX7_labelByColors yX7_labelByColors ∈ TT := tt_m 735 (by decide +kernel) rfl
theorem co_X7_labelByColors : Cond.code yX7_labelByColors cX7_labelByColors 1 (some .int) ∈ TT := tt_m 736 (by decide +kernel) rfl
theorem ml_X7_160 : Cond.methodLink RX7 160 yX4_labelBy ∈ TT := tt_m 738 (by decide +kernel) rfl
theorem im_X4_labelBy : Cond.instanceMethod yX4_labelBy ∈ TT := tt_m 739 (by decide +kernel) rfl
theorem se_X4_labelBy : Cond.selects RX4 yX4_labelBy yX4_labelBy ∈ TT := tt_m 740 (by decide +kernel) rfl
theorem co_X4_labelBy : Cond.code yX4_labelBy cX4_labelBy 4 none ∈ TT := tt_m 741 (by decide +kernel) rfl
theorem ml_L_130 : Cond.methodLink RL 130 yL_takeHandle ∈ TT := tt_m 742 (by decide +kernel) rfl
theorem st_L_takeHandle : Cond.static yL_takeHandle ∈ TT := tt_m 743 (by decide +kernel) rfl
theorem co_L_takeHandle : Cond.codeWith yL_takeHandle cL_takeHandle 4 (some .int) [(0, 9, 12, 13)] ∈ TT := tt_m 744 (by decide +kernel) rfl
theorem ml_L_44 : Cond.methodLink RL 44 yX7_takeHandle ∈ TT := tt_m 745 (by decide +kernel) rfl
theorem im_X7_takeHandle : Cond.instanceMethod yX7_takeHandle ∈ TT := tt_m 746 (by decide +kernel) rfl
theorem se_X7_takeHandle : Cond.selects RX7 yX7_takeHandle yX7_takeHandle ∈ TT := tt_m 747 (by decide +kernel) rfl
theorem co_X7_takeHandle : Cond.code yX7_takeHandle cX7_takeHandle 2 (some .int) ∈ TT := tt_m 748 (by decide +kernel) rfl
theorem ml_X7_164 : Cond.methodLink RX7 164 yX7_checkSize ∈ TT := tt_m 749 (by decide +kernel) rfl
theorem st_X7_checkSize : Cond.static yX7_checkSize ∈ TT := tt_m 750 (by decide +kernel) rfl
theorem co_X7_checkSize : Cond.code yX7_checkSize cX7_checkSize 1 none ∈ TT := tt_m 751 (by decide +kernel) rfl
theorem ml_X7_181 : Cond.methodLink RX7 181 arraycopyName ∈ TT := tt_m 753 (by decide +kernel) rfl
theorem ml_L_133 : Cond.methodLink RL 133 yL_append ∈ TT := tt_m 754 (by decide +kernel) rfl
theorem st_L_append : Cond.static yL_append ∈ TT := tt_m 755 (by decide +kernel) rfl
theorem co_L_append : Cond.codeWith yL_append cL_append 4 (some .int) [(0, 9, 12, 13), (0, 9, 15, 28)] ∈ TT := tt_m 756 (by decide +kernel) rfl
theorem ml_L_47 : Cond.methodLink RL 47 yX7_append ∈ TT := tt_m 757 (by decide +kernel) rfl
theorem im_X7_append : Cond.instanceMethod yX7_append ∈ TT := tt_m 758 (by decide +kernel) rfl
theorem se_X7_append : Cond.selects RX7 yX7_append yX7_append ∈ TT := tt_m 759 (by decide +kernel) rfl
theorem co_X7_append : Cond.code yX7_append cX7_append 2 (some .int) ∈ TT := tt_m 760 (by decide +kernel) rfl
theorem ml_L_144 : Cond.methodLink RL 144 yL_read ∈ TT := tt_m 763 (by decide +kernel) rfl
theorem st_L_read : Cond.static yL_read ∈ TT := tt_m 764 (by decide +kernel) rfl
theorem co_L_read : Cond.codeWith yL_read cL_read 3 (some .int) [(0, 8, 11, 13)] ∈ TT := tt_m 765 (by decide +kernel) rfl
theorem ml_L_50 : Cond.methodLink RL 50 yX7_read ∈ TT := tt_m 766 (by decide +kernel) rfl
theorem im_X7_read : Cond.instanceMethod yX7_read ∈ TT := tt_m 767 (by decide +kernel) rfl
theorem se_X7_read : Cond.selects RX7 yX7_read yX7_read ∈ TT := tt_m 768 (by decide +kernel) rfl
theorem co_X7_read : Cond.code yX7_read cX7_read 1 (some .int) ∈ TT := tt_m 769 (by decide +kernel) rfl
theorem ml_X7_202 : Cond.methodLink RX7 202 yX3_isWhole ∈ TT := tt_m 770 (by decide +kernel) rfl
theorem im_X3_isWhole : Cond.instanceMethod yX3_isWhole ∈ TT := tt_m 771 (by decide +kernel) rfl
theorem se_X3_isWhole : Cond.selects RX3 yX3_isWhole yX3_isWhole ∈ TT := tt_m 772 (by decide +kernel) rfl
theorem co_X3_isWhole : Cond.code yX3_isWhole cX3_isWhole 2 (some .boolean) ∈ TT := tt_m 773 (by decide +kernel) rfl
theorem ml_X3_23 : Cond.methodLink RX3 23 yX3_firstFault ∈ TT := tt_m 774 (by decide +kernel) rfl
theorem ml_X7_208 : Cond.methodLink RX7 208 yX3_joinAll ∈ TT := tt_m 776 (by decide +kernel) rfl
theorem im_X3_joinAll : Cond.instanceMethod yX3_joinAll ∈ TT := tt_m 777 (by decide +kernel) rfl
theorem se_X3_joinAll : Cond.selects RX3 yX3_joinAll yX3_joinAll ∈ TT := tt_m 778 (by decide +kernel) rfl
theorem co_X3_joinAll : Cond.code yX3_joinAll cX3_joinAll 3 none ∈ TT := tt_m 779 (by decide +kernel) rfl
theorem ml_X3_27 : Cond.methodLink RX3 27 yX4_connect ∈ TT := tt_m 780 (by decide +kernel) rfl
theorem ml_L_147 : Cond.methodLink RL 147 yL_take ∈ TT := tt_m 781 (by decide +kernel) rfl
theorem st_L_take : Cond.static yL_take ∈ TT := tt_m 782 (by decide +kernel) rfl
theorem co_L_take : Cond.codeWith yL_take cL_take 4 (some .int) [(0, 9, 12, 19)] ∈ TT := tt_m 783 (by decide +kernel) rfl
theorem ml_L_53 : Cond.methodLink RL 53 yX7_take ∈ TT := tt_m 784 (by decide +kernel) rfl
theorem im_X7_take : Cond.instanceMethod yX7_take ∈ TT := tt_m 785 (by decide +kernel) rfl
theorem se_X7_take : Cond.selects RX7 yX7_take yX7_take ∈ TT := tt_m 786 (by decide +kernel) rfl
theorem co_X7_take : Cond.code yX7_take cX7_take 2 (some .int) ∈ TT := tt_m 787 (by decide +kernel) rfl
theorem ml_X7_214 : Cond.methodLink RX7 214 yX4_copyFrom ∈ TT := tt_m 788 (by decide +kernel) rfl
theorem ml_L_150 : Cond.methodLink RL 150 yL_restore ∈ TT := tt_m 789 (by decide +kernel) rfl
theorem st_L_restore : Cond.static yL_restore ∈ TT := tt_m 790 (by decide +kernel) rfl
theorem co_L_restore : Cond.codeWith yL_restore cL_restore 4 (some .int) [(0, 9, 12, 19), (0, 9, 15, 28)] ∈ TT := tt_m 791 (by decide +kernel) rfl
theorem ml_L_56 : Cond.methodLink RL 56 yX7_restore ∈ TT := tt_m 792 (by decide +kernel) rfl
theorem im_X7_restore : Cond.instanceMethod yX7_restore ∈ TT := tt_m 793 (by decide +kernel) rfl
theorem se_X7_restore : Cond.selects RX7 yX7_restore yX7_restore ∈ TT := tt_m 794 (by decide +kernel) rfl
theorem co_X7_restore : Cond.code yX7_restore cX7_restore 2 (some .int) ∈ TT := tt_m 795 (by decide +kernel) rfl
theorem ml_L_153 : Cond.methodLink RL 153 yL_undo ∈ TT := tt_m 796 (by decide +kernel) rfl
theorem st_L_undo : Cond.static yL_undo ∈ TT := tt_m 797 (by decide +kernel) rfl
theorem co_L_undo : Cond.codeWith yL_undo cL_undo 3 (some .int) [(0, 8, 11, 28)] ∈ TT := tt_m 798 (by decide +kernel) rfl
theorem ml_L_59 : Cond.methodLink RL 59 yX7_undo ∈ TT := tt_m 799 (by decide +kernel) rfl
theorem im_X7_undo : Cond.instanceMethod yX7_undo ∈ TT := tt_m 800 (by decide +kernel) rfl
theorem se_X7_undo : Cond.selects RX7 yX7_undo yX7_undo ∈ TT := tt_m 801 (by decide +kernel) rfl
theorem co_X7_undo : Cond.code yX7_undo cX7_undo 1 (some .int) ∈ TT := tt_m 802 (by decide +kernel) rfl
theorem ml_X7_222 : Cond.methodLink RX7 222 yX6_latestProducts ∈ TT := tt_m 804 (by decide +kernel) rfl
theorem im_X6_latestProducts : Cond.instanceMethod yX6_latestProducts ∈ TT := tt_m 805 (by decide +kernel) rfl
theorem se_X6_latestProducts : Cond.selects RX6 yX6_latestProducts yX6_latestProducts ∈ TT := tt_m 806 (by decide +kernel) rfl
theorem co_X6_latestProducts : Cond.code yX6_latestProducts cX6_latestProducts 1 (some .int) ∈ TT := tt_m 807 (by decide +kernel) rfl
theorem ml_X7_225 : Cond.methodLink RX7 225 yX6_dropLatest ∈ TT := tt_m 808 (by decide +kernel) rfl
theorem im_X6_dropLatest : Cond.instanceMethod yX6_dropLatest ∈ TT := tt_m 809 (by decide +kernel) rfl
theorem se_X6_dropLatest : Cond.selects RX6 yX6_dropLatest yX6_dropLatest ∈ TT := tt_m 810 (by decide +kernel) rfl
theorem co_X6_dropLatest : Cond.code yX6_dropLatest cX6_dropLatest 1 none ∈ TT := tt_m 811 (by decide +kernel) rfl
theorem ml_L_156 : Cond.methodLink RL 156 yL_joined ∈ TT := tt_m 812 (by decide +kernel) rfl
theorem st_L_joined : Cond.static yL_joined ∈ TT := tt_m 813 (by decide +kernel) rfl
theorem co_L_joined : Cond.codeWith yL_joined cL_joined 5 (some .int) [(0, 10, 13, 19)] ∈ TT := tt_m 814 (by decide +kernel) rfl
theorem ml_L_62 : Cond.methodLink RL 62 yX7_joined ∈ TT := tt_m 815 (by decide +kernel) rfl
theorem im_X7_joined : Cond.instanceMethod yX7_joined ∈ TT := tt_m 816 (by decide +kernel) rfl
theorem se_X7_joined : Cond.selects RX7 yX7_joined yX7_joined ∈ TT := tt_m 817 (by decide +kernel) rfl
theorem co_X7_joined : Cond.code yX7_joined cX7_joined 3 (some .int) ∈ TT := tt_m 818 (by decide +kernel) rfl
theorem ml_L_159 : Cond.methodLink RL 159 yL_vertex ∈ TT := tt_m 819 (by decide +kernel) rfl
theorem st_L_vertex : Cond.static yL_vertex ∈ TT := tt_m 820 (by decide +kernel) rfl
theorem co_L_vertex : Cond.codeWith yL_vertex cL_vertex 5 (some .int) [(0, 10, 13, 19), (0, 10, 17, 13)] ∈ TT := tt_m 821 (by decide +kernel) rfl
theorem ml_L_65 : Cond.methodLink RL 65 yX7_vertex ∈ TT := tt_m 822 (by decide +kernel) rfl
theorem im_X7_vertex : Cond.instanceMethod yX7_vertex ∈ TT := tt_m 823 (by decide +kernel) rfl
theorem se_X7_vertex : Cond.selects RX7 yX7_vertex yX7_vertex ∈ TT := tt_m 824 (by decide +kernel) rfl
theorem co_X7_vertex : Cond.code yX7_vertex cX7_vertex 3 (some .int) ∈ TT := tt_m 825 (by decide +kernel) rfl
theorem ml_L_162 : Cond.methodLink RL 162 yL_handle ∈ TT := tt_m 827 (by decide +kernel) rfl
theorem st_L_handle : Cond.static yL_handle ∈ TT := tt_m 828 (by decide +kernel) rfl
theorem co_L_handle : Cond.codeWith yL_handle cL_handle 4 (some .int) [(0, 9, 12, 19)] ∈ TT := tt_m 829 (by decide +kernel) rfl
theorem ml_L_68 : Cond.methodLink RL 68 yX7_handle ∈ TT := tt_m 830 (by decide +kernel) rfl
theorem im_X7_handle : Cond.instanceMethod yX7_handle ∈ TT := tt_m 831 (by decide +kernel) rfl
theorem se_X7_handle : Cond.selects RX7 yX7_handle yX7_handle ∈ TT := tt_m 832 (by decide +kernel) rfl
theorem co_X7_handle : Cond.code yX7_handle cX7_handle 2 (some .int) ∈ TT := tt_m 833 (by decide +kernel) rfl
theorem ml_L_165 : Cond.methodLink RL 165 yL_bound ∈ TT := tt_m 834 (by decide +kernel) rfl
theorem st_L_bound : Cond.static yL_bound ∈ TT := tt_m 835 (by decide +kernel) rfl
theorem co_L_bound : Cond.codeWith yL_bound cL_bound 4 (some .int) [(0, 8, 11, 13)] ∈ TT := tt_m 836 (by decide +kernel) rfl
theorem ml_L_71 : Cond.methodLink RL 71 yX7_bound ∈ TT := tt_m 837 (by decide +kernel) rfl
theorem im_X7_bound : Cond.instanceMethod yX7_bound ∈ TT := tt_m 838 (by decide +kernel) rfl
theorem se_X7_bound : Cond.selects RX7 yX7_bound yX7_bound ∈ TT := tt_m 839 (by decide +kernel) rfl
theorem co_X7_bound : Cond.code yX7_bound cX7_bound 2 (some .long) ∈ TT := tt_m 840 (by decide +kernel) rfl
theorem ml_X7_241 : Cond.methodLink RX7 241 yX7_checkPart ∈ TT := tt_m 841 (by decide +kernel) rfl
theorem st_X7_checkPart : Cond.static yX7_checkPart ∈ TT := tt_m 842 (by decide +kernel) rfl
theorem co_X7_checkPart : Cond.code yX7_checkPart cX7_checkPart 1 none ∈ TT := tt_m 843 (by decide +kernel) rfl
theorem ml_L_168 : Cond.methodLink RL 168 yL_whyNot ∈ TT := tt_m 845 (by decide +kernel) rfl
theorem st_L_whyNot : Cond.static yL_whyNot ∈ TT := tt_m 846 (by decide +kernel) rfl
theorem co_L_whyNot : Cond.codeWith yL_whyNot cL_whyNot 4 (some .int) [(0, 9, 12, 13)] ∈ TT := tt_m 847 (by decide +kernel) rfl
theorem ml_L_75 : Cond.methodLink RL 75 yX7_whyNot ∈ TT := tt_m 848 (by decide +kernel) rfl
theorem im_X7_whyNot : Cond.instanceMethod yX7_whyNot ∈ TT := tt_m 849 (by decide +kernel) rfl
theorem se_X7_whyNot : Cond.selects RX7 yX7_whyNot yX7_whyNot ∈ TT := tt_m 850 (by decide +kernel) rfl
theorem co_X7_whyNot : Cond.code yX7_whyNot cX7_whyNot 2 (some .int) ∈ TT := tt_m 851 (by decide +kernel) rfl
theorem ml_L_171 : Cond.methodLink RL 171 yL_whyNotMultiply ∈ TT := tt_m 852 (by decide +kernel) rfl
theorem st_L_whyNotMultiply : Cond.static yL_whyNotMultiply ∈ TT := tt_m 853 (by decide +kernel) rfl
theorem co_L_whyNotMultiply : Cond.codeWith yL_whyNotMultiply cL_whyNotMultiply 4 (some .int) [(0, 9, 12, 19), (0, 9, 15, 28)] ∈ TT := tt_m 854 (by decide +kernel) rfl
theorem ml_L_78 : Cond.methodLink RL 78 yX7_whyNotMultiply ∈ TT := tt_m 855 (by decide +kernel) rfl
theorem im_X7_whyNotMultiply : Cond.instanceMethod yX7_whyNotMultiply ∈ TT := tt_m 856 (by decide +kernel) rfl
theorem se_X7_whyNotMultiply : Cond.selects RX7 yX7_whyNotMultiply yX7_whyNotMultiply ∈ TT := tt_m 857 (by decide +kernel) rfl
theorem co_X7_whyNotMultiply : Cond.code yX7_whyNotMultiply cX7_whyNotMultiply 2 (some .int) ∈ TT := tt_m 858 (by decide +kernel) rfl
theorem ml_L_174 : Cond.methodLink RL 174 yL_bestHandle ∈ TT := tt_m 859 (by decide +kernel) rfl
theorem st_L_bestHandle : Cond.static yL_bestHandle ∈ TT := tt_m 860 (by decide +kernel) rfl
theorem co_L_bestHandle : Cond.codeWith yL_bestHandle cL_bestHandle 5 (some .int) [(0, 9, 12, 13)] ∈ TT := tt_m 861 (by decide +kernel) rfl
theorem ml_L_81 : Cond.methodLink RL 81 yX7_bestHandle ∈ TT := tt_m 862 (by decide +kernel) rfl
theorem im_X7_bestHandle : Cond.instanceMethod yX7_bestHandle ∈ TT := tt_m 863 (by decide +kernel) rfl
theorem se_X7_bestHandle : Cond.selects RX7 yX7_bestHandle yX7_bestHandle ∈ TT := tt_m 864 (by decide +kernel) rfl
theorem co_X7_bestHandle : Cond.code yX7_bestHandle cX7_bestHandle 3 (some .long) ∈ TT := tt_m 865 (by decide +kernel) rfl
theorem ml_L_177 : Cond.methodLink RL 177 yL_count ∈ TT := tt_m 867 (by decide +kernel) rfl
theorem st_L_count : Cond.static yL_count ∈ TT := tt_m 868 (by decide +kernel) rfl
theorem co_L_count : Cond.codeWith yL_count cL_count 4 (some .int) [(0, 9, 12, 13)] ∈ TT := tt_m 869 (by decide +kernel) rfl
theorem ml_L_85 : Cond.methodLink RL 85 yX7_count ∈ TT := tt_m 870 (by decide +kernel) rfl
theorem im_X7_count : Cond.instanceMethod yX7_count ∈ TT := tt_m 871 (by decide +kernel) rfl
theorem se_X7_count : Cond.selects RX7 yX7_count yX7_count ∈ TT := tt_m 872 (by decide +kernel) rfl
theorem co_X7_count : Cond.code yX7_count cX7_count 2 (some .int) ∈ TT := tt_m 873 (by decide +kernel) rfl
theorem cl_L_89 : Cond.classLink RL 89 RX8 ∈ TT := tt_m 875 (by decide +kernel) rfl
theorem ib_X8 : Cond.instantiable RX8 18 ∈ TT := tt_m 876 (by decide +kernel) rfl
theorem ml_L_91 : Cond.methodLink RL 91 yX8_init ∈ TT := tt_m 877 (by decide +kernel) rfl
theorem im_X8_init : Cond.instanceMethod yX8_init ∈ TT := tt_m 878 (by decide +kernel) rfl
theorem co_X8_init : Cond.code yX8_init cX8_init 1 none ∈ TT := tt_m 879 (by decide +kernel) rfl
theorem ml_X8_1 : Cond.methodLink RX8 1 objectInit ∈ TT := tt_m 880 (by decide +kernel) rfl
theorem ml_X8_37 : Cond.methodLink RX8 37 yX8_empties ∈ TT := tt_m 881 (by decide +kernel) rfl
theorem im_X8_empties : Cond.instanceMethod yX8_empties ∈ TT := tt_m 883 (by decide +kernel) rfl
theorem co_X8_empties : Cond.code yX8_empties cX8_empties 4 none ∈ TT := tt_m 884 (by decide +kernel) rfl
theorem fl_X8_7 : Cond.fieldLink RX8 7 "CliqueLabelsModel" "z" "[I" ∈ TT := tt_m 885 (by decide +kernel) rfl
theorem fl_X8_45 : Cond.fieldLink RX8 45 "CliqueLabelsModel" "states" "I" ∈ TT := tt_m 886 (by decide +kernel) rfl
theorem fl_X8_13 : Cond.fieldLink RX8 13 "CliqueLabelsModel" "history" "[I" ∈ TT := tt_m 887 (by decide +kernel) rfl
theorem fl_X8_16 : Cond.fieldLink RX8 16 "CliqueLabelsModel" "snaps" "[I" ∈ TT := tt_m 888 (by decide +kernel) rfl
theorem fl_X8_19 : Cond.fieldLink RX8 19 "CliqueLabelsModel" "taken" "[I" ∈ TT := tt_m 889 (by decide +kernel) rfl
theorem fl_X8_168 : Cond.fieldLink RX8 168 "CliqueLabelsModel" "length" "I" ∈ TT := tt_m 890 (by decide +kernel) rfl
theorem fl_X8_22 : Cond.fieldLink RX8 22 "CliqueLabelsModel" "text" "[I" ∈ TT := tt_m 891 (by decide +kernel) rfl
theorem fl_X8_41 : Cond.fieldLink RX8 41 "CliqueLabelsModel" "thrown" "I" ∈ TT := tt_m 892 (by decide +kernel) rfl
theorem fl_X8_83 : Cond.fieldLink RX8 83 "CliqueLabelsModel" "above" "J" ∈ TT := tt_m 893 (by decide +kernel) rfl
theorem fl_X8_87 : Cond.fieldLink RX8 87 "CliqueLabelsModel" "below" "J" ∈ TT := tt_m 894 (by decide +kernel) rfl
theorem fl_X8_90 : Cond.fieldLink RX8 90 "CliqueLabelsModel" "teller" "I" ∈ TT := tt_m 895 (by decide +kernel) rfl
theorem fl_X8_25 : Cond.fieldLink RX8 25 "CliqueLabelsModel" "color" "[I" ∈ TT := tt_m 896 (by decide +kernel) rfl
theorem fl_X8_28 : Cond.fieldLink RX8 28 "CliqueLabelsModel" "made" "[I" ∈ TT := tt_m 897 (by decide +kernel) rfl
theorem fl_X8_159 : Cond.fieldLink RX8 159 "CliqueLabelsModel" "leastAbove" "J" ∈ TT := tt_m 898 (by decide +kernel) rfl
theorem fl_X8_150 : Cond.fieldLink RX8 150 "CliqueLabelsModel" "leastBelow" "J" ∈ TT := tt_m 899 (by decide +kernel) rfl
theorem fl_X8_31 : Cond.fieldLink RX8 31 "CliqueLabelsModel" "best" "[I" ∈ TT := tt_m 900 (by decide +kernel) rfl
theorem fl_X8_34 : Cond.fieldLink RX8 34 "CliqueLabelsModel" "kept" "[I" ∈ TT := tt_m 901 (by decide +kernel) rfl
theorem fl_X8_217 : Cond.fieldLink RX8 217 "CliqueLabelsModel" "hash" "J" ∈ TT := tt_m 902 (by decide +kernel) rfl
theorem ml_L_98 : Cond.methodLink RL 98 yX8_thrown ∈ TT := tt_m 940 (by decide +kernel) rfl
theorem im_X8_thrown : Cond.instanceMethod yX8_thrown ∈ TT := tt_m 941 (by decide +kernel) rfl
theorem se_X8_thrown : Cond.selects RX8 yX8_thrown yX8_thrown ∈ TT := tt_m 942 (by decide +kernel) rfl
theorem co_X8_thrown : Cond.code yX8_thrown cX8_thrown 1 (some .int) ∈ TT := tt_m 943 (by decide +kernel) rfl
theorem ml_L_97 : Cond.methodLink RL 97 yX8_begin ∈ TT := tt_m 944 (by decide +kernel) rfl
theorem im_X8_begin : Cond.instanceMethod yX8_begin ∈ TT := tt_m 945 (by decide +kernel) rfl
theorem se_X8_begin : Cond.selects RX8 yX8_begin yX8_begin ∈ TT := tt_m 946 (by decide +kernel) rfl
theorem co_X8_begin : Cond.code yX8_begin cX8_begin 4 (some .int) ∈ TT := tt_m 947 (by decide +kernel) rfl
theorem ml_X8_48 : Cond.methodLink RX8 48 yX8_within ∈ TT := tt_m 948 (by decide +kernel) rfl
theorem st_X8_within : Cond.static yX8_within ∈ TT := tt_m 949 (by decide +kernel) rfl
theorem co_X8_within : Cond.code yX8_within cX8_within 3 (some .boolean) ∈ TT := tt_m 950 (by decide +kernel) rfl
theorem ml_X8_110 : Cond.methodLink RX8 110 yX8_save ∈ TT := tt_m 951 (by decide +kernel) rfl
theorem im_X8_save : Cond.instanceMethod yX8_save ∈ TT := tt_m 953 (by decide +kernel) rfl
theorem co_X8_save : Cond.code yX8_save cX8_save 2 none ∈ TT := tt_m 954 (by decide +kernel) rfl
theorem ml_L_104 : Cond.methodLink RL 104 yX8_join ∈ TT := tt_m 955 (by decide +kernel) rfl
theorem im_X8_join : Cond.instanceMethod yX8_join ∈ TT := tt_m 956 (by decide +kernel) rfl
theorem se_X8_join : Cond.selects RX8 yX8_join yX8_join ∈ TT := tt_m 957 (by decide +kernel) rfl
theorem co_X8_join : Cond.code yX8_join cX8_join 4 (some .int) ∈ TT := tt_m 958 (by decide +kernel) rfl
theorem ml_X8_113 : Cond.methodLink RX8 113 yX8_isVertex ∈ TT := tt_m 959 (by decide +kernel) rfl
theorem im_X8_isVertex : Cond.instanceMethod yX8_isVertex ∈ TT := tt_m 961 (by decide +kernel) rfl
theorem co_X8_isVertex : Cond.code yX8_isVertex cX8_isVertex 2 (some .boolean) ∈ TT := tt_m 962 (by decide +kernel) rfl
theorem ml_X8_116 : Cond.methodLink RX8 116 yX8_joins ∈ TT := tt_m 963 (by decide +kernel) rfl
theorem im_X8_joins : Cond.instanceMethod yX8_joins ∈ TT := tt_m 965 (by decide +kernel) rfl
theorem co_X8_joins : Cond.code yX8_joins cX8_joins 4 none ∈ TT := tt_m 966 (by decide +kernel) rfl
theorem ml_X8_120 : Cond.methodLink RX8 120 yX8_edges ∈ TT := tt_m 967 (by decide +kernel) rfl
theorem im_X8_edges : Cond.instanceMethod yX8_edges ∈ TT := tt_m 969 (by decide +kernel) rfl
theorem co_X8_edges : Cond.code yX8_edges cX8_edges 3 (some .int) ∈ TT := tt_m 970 (by decide +kernel) rfl
theorem ml_X8_64 : Cond.methodLink RX8 64 yX8_ones ∈ TT := tt_m 971 (by decide +kernel) rfl
theorem st_X8_ones : Cond.static yX8_ones ∈ TT := tt_m 972 (by decide +kernel) rfl
theorem co_X8_ones : Cond.code yX8_ones cX8_ones 3 (some .int) ∈ TT := tt_m 973 (by decide +kernel) rfl
theorem ml_L_107 : Cond.methodLink RL 107 yX8_weigh ∈ TT := tt_m 974 (by decide +kernel) rfl
theorem im_X8_weigh : Cond.instanceMethod yX8_weigh ∈ TT := tt_m 975 (by decide +kernel) rfl
theorem se_X8_weigh : Cond.selects RX8 yX8_weigh yX8_weigh ∈ TT := tt_m 976 (by decide +kernel) rfl
theorem co_X8_weigh : Cond.code yX8_weigh cX8_weigh 4 (some .int) ∈ TT := tt_m 977 (by decide +kernel) rfl
theorem ml_X8_70 : Cond.methodLink RX8 70 yX8_weight ∈ TT := tt_m 978 (by decide +kernel) rfl
theorem im_X8_weight : Cond.instanceMethod yX8_weight ∈ TT := tt_m 980 (by decide +kernel) rfl
theorem co_X8_weight : Cond.code yX8_weight cX8_weight 2 (some .int) ∈ TT := tt_m 981 (by decide +kernel) rfl
theorem ml_L_111 : Cond.methodLink RL 111 yX8_complement ∈ TT := tt_m 982 (by decide +kernel) rfl
theorem im_X8_complement : Cond.instanceMethod yX8_complement ∈ TT := tt_m 983 (by decide +kernel) rfl
theorem se_X8_complement : Cond.selects RX8 yX8_complement yX8_complement ∈ TT := tt_m 984 (by decide +kernel) rfl
theorem co_X8_complement : Cond.code yX8_complement cX8_complement 2 (some .int) ∈ TT := tt_m 985 (by decide +kernel) rfl
theorem ml_L_115 : Cond.methodLink RL 115 yX8_remove ∈ TT := tt_m 986 (by decide +kernel) rfl
theorem im_X8_remove : Cond.instanceMethod yX8_remove ∈ TT := tt_m 987 (by decide +kernel) rfl
theorem se_X8_remove : Cond.selects RX8 yX8_remove yX8_remove ∈ TT := tt_m 988 (by decide +kernel) rfl
theorem co_X8_remove : Cond.code yX8_remove cX8_remove 4 (some .int) ∈ TT := tt_m 989 (by decide +kernel) rfl
theorem ml_X8_56 : Cond.methodLink RX8 56 yX8_labelAt ∈ TT := tt_m 990 (by decide +kernel) rfl
theorem st_X8_labelAt : Cond.static yX8_labelAt ∈ TT := tt_m 991 (by decide +kernel) rfl
theorem co_X8_labelAt : Cond.code yX8_labelAt cX8_labelAt 1 (some .int) ∈ TT := tt_m 992 (by decide +kernel) rfl
theorem ml_X8_123 : Cond.methodLink RX8 123 yX8_without ∈ TT := tt_m 993 (by decide +kernel) rfl
theorem st_X8_without : Cond.static yX8_without ∈ TT := tt_m 994 (by decide +kernel) rfl
theorem co_X8_without : Cond.code yX8_without cX8_without 2 (some .int) ∈ TT := tt_m 995 (by decide +kernel) rfl
theorem ml_X8_126 : Cond.methodLink RX8 126 yX8_clearBehind ∈ TT := tt_m 996 (by decide +kernel) rfl
theorem im_X8_clearBehind : Cond.instanceMethod yX8_clearBehind ∈ TT := tt_m 998 (by decide +kernel) rfl
theorem co_X8_clearBehind : Cond.code yX8_clearBehind cX8_clearBehind 3 none ∈ TT := tt_m 999 (by decide +kernel) rfl
theorem ml_L_118 : Cond.methodLink RL 118 yX8_multiply ∈ TT := tt_m 1000 (by decide +kernel) rfl
theorem im_X8_multiply : Cond.instanceMethod yX8_multiply ∈ TT := tt_m 1001 (by decide +kernel) rfl
theorem se_X8_multiply : Cond.selects RX8 yX8_multiply yX8_multiply ∈ TT := tt_m 1002 (by decide +kernel) rfl
theorem co_X8_multiply : Cond.code yX8_multiply cX8_multiply 3 (some .int) ∈ TT := tt_m 1003 (by decide +kernel) rfl
theorem ml_X8_138 : Cond.methodLink RX8 138 yX8_refusedSnapshot ∈ TT := tt_m 1004 (by decide +kernel) rfl
theorem im_X8_refusedSnapshot : Cond.instanceMethod yX8_refusedSnapshot ∈ TT := tt_m 1006 (by decide +kernel) rfl
theorem co_X8_refusedSnapshot : Cond.code yX8_refusedSnapshot cX8_refusedSnapshot 2 (some .int) ∈ TT := tt_m 1007 (by decide +kernel) rfl
theorem ml_X8_135 : Cond.methodLink RX8 135 yX8_isSnapshot ∈ TT := tt_m 1008 (by decide +kernel) rfl
theorem st_X8_isSnapshot : Cond.static yX8_isSnapshot ∈ TT := tt_m 1009 (by decide +kernel) rfl
theorem co_X8_isSnapshot : Cond.code yX8_isSnapshot cX8_isSnapshot 1 (some .boolean) ∈ TT := tt_m 1010 (by decide +kernel) rfl
theorem ml_X8_141 : Cond.methodLink RX8 141 yX8_layProduct ∈ TT := tt_m 1011 (by decide +kernel) rfl
theorem im_X8_layProduct : Cond.instanceMethod yX8_layProduct ∈ TT := tt_m 1013 (by decide +kernel) rfl
theorem co_X8_layProduct : Cond.code yX8_layProduct cX8_layProduct 9 (some .int) ∈ TT := tt_m 1014 (by decide +kernel) rfl
theorem ml_X8_129 : Cond.methodLink RX8 129 yX8_other ∈ TT := tt_m 1015 (by decide +kernel) rfl
theorem im_X8_other : Cond.instanceMethod yX8_other ∈ TT := tt_m 1017 (by decide +kernel) rfl
theorem co_X8_other : Cond.code yX8_other cX8_other 3 (some .int) ∈ TT := tt_m 1018 (by decide +kernel) rfl
theorem ml_X8_67 : Cond.methodLink RX8 67 yX8_areJoined ∈ TT := tt_m 1019 (by decide +kernel) rfl
theorem im_X8_areJoined : Cond.instanceMethod yX8_areJoined ∈ TT := tt_m 1021 (by decide +kernel) rfl
theorem co_X8_areJoined : Cond.code yX8_areJoined cX8_areJoined 3 (some .boolean) ∈ TT := tt_m 1022 (by decide +kernel) rfl
theorem ml_X8_52 : Cond.methodLink RX8 52 yX8_has ∈ TT := tt_m 1023 (by decide +kernel) rfl
theorem st_X8_has : Cond.static yX8_has ∈ TT := tt_m 1024 (by decide +kernel) rfl
theorem co_X8_has : Cond.code yX8_has cX8_has 2 (some .boolean) ∈ TT := tt_m 1025 (by decide +kernel) rfl
theorem ml_X8_132 : Cond.methodLink RX8 132 yX8_isNumber ∈ TT := tt_m 1026 (by decide +kernel) rfl
theorem st_X8_isNumber : Cond.static yX8_isNumber ∈ TT := tt_m 1027 (by decide +kernel) rfl
theorem co_X8_isNumber : Cond.code yX8_isNumber cX8_isNumber 1 (some .boolean) ∈ TT := tt_m 1028 (by decide +kernel) rfl
theorem ml_L_122 : Cond.methodLink RL 122 yX8_label ∈ TT := tt_m 1029 (by decide +kernel) rfl
theorem im_X8_label : Cond.instanceMethod yX8_label ∈ TT := tt_m 1030 (by decide +kernel) rfl
theorem se_X8_label : Cond.selects RX8 yX8_label yX8_label ∈ TT := tt_m 1031 (by decide +kernel) rfl
theorem co_X8_label : Cond.code yX8_label cX8_label 5 (some .int) ∈ TT := tt_m 1032 (by decide +kernel) rfl
theorem ml_X8_144 : Cond.methodLink RX8 144 yX8_isPlace ∈ TT := tt_m 1033 (by decide +kernel) rfl
theorem im_X8_isPlace : Cond.instanceMethod yX8_isPlace ∈ TT := tt_m 1035 (by decide +kernel) rfl
theorem co_X8_isPlace : Cond.code yX8_isPlace cX8_isPlace 2 (some .boolean) ∈ TT := tt_m 1036 (by decide +kernel) rfl
theorem ml_L_125 : Cond.methodLink RL 125 yX8_hold ∈ TT := tt_m 1037 (by decide +kernel) rfl
theorem im_X8_hold : Cond.instanceMethod yX8_hold ∈ TT := tt_m 1038 (by decide +kernel) rfl
theorem se_X8_hold : Cond.selects RX8 yX8_hold yX8_hold ∈ TT := tt_m 1039 (by decide +kernel) rfl
theorem co_X8_hold : Cond.code yX8_hold cX8_hold 4 (some .int) ∈ TT := tt_m 1040 (by decide +kernel) rfl
theorem ml_L_129 : Cond.methodLink RL 129 yX8_labelByColors ∈ TT := tt_m 1041 (by decide +kernel) rfl
theorem im_X8_labelByColors : Cond.instanceMethod yX8_labelByColors ∈ TT := tt_m 1042 (by decide +kernel) rfl
theorem se_X8_labelByColors : Cond.selects RX8 yX8_labelByColors yX8_labelByColors ∈ TT := tt_m 1043 (by decide +kernel) rfl
theorem co_X8_labelByColors : Cond.code yX8_labelByColors cX8_labelByColors 4 (some .int) ∈ TT := tt_m 1044 (by decide +kernel) rfl
theorem ml_X8_147 : Cond.methodLink RX8 147 yX8_colorAll ∈ TT := tt_m 1045 (by decide +kernel) rfl
theorem im_X8_colorAll : Cond.instanceMethod yX8_colorAll ∈ TT := tt_m 1047 (by decide +kernel) rfl
theorem co_X8_colorAll : Cond.code yX8_colorAll cX8_colorAll 2 (some .int) ∈ TT := tt_m 1048 (by decide +kernel) rfl
theorem ml_X8_107 : Cond.methodLink RX8 107 yX8_colorBy ∈ TT := tt_m 1049 (by decide +kernel) rfl
theorem im_X8_colorBy : Cond.instanceMethod yX8_colorBy ∈ TT := tt_m 1051 (by decide +kernel) rfl
theorem co_X8_colorBy : Cond.code yX8_colorBy cX8_colorBy 3 (some .boolean) ∈ TT := tt_m 1052 (by decide +kernel) rfl
theorem ml_X8_104 : Cond.methodLink RX8 104 yX8_canStay ∈ TT := tt_m 1053 (by decide +kernel) rfl
theorem im_X8_canStay : Cond.instanceMethod yX8_canStay ∈ TT := tt_m 1055 (by decide +kernel) rfl
theorem co_X8_canStay : Cond.code yX8_canStay cX8_canStay 4 (some .boolean) ∈ TT := tt_m 1056 (by decide +kernel) rfl
theorem ml_L_132 : Cond.methodLink RL 132 yX8_takeHandle ∈ TT := tt_m 1057 (by decide +kernel) rfl
theorem im_X8_takeHandle : Cond.instanceMethod yX8_takeHandle ∈ TT := tt_m 1058 (by decide +kernel) rfl
theorem se_X8_takeHandle : Cond.selects RX8 yX8_takeHandle yX8_takeHandle ∈ TT := tt_m 1059 (by decide +kernel) rfl
theorem co_X8_takeHandle : Cond.code yX8_takeHandle cX8_takeHandle 3 (some .int) ∈ TT := tt_m 1060 (by decide +kernel) rfl
theorem ml_X8_162 : Cond.methodLink RX8 162 yX8_isSize ∈ TT := tt_m 1061 (by decide +kernel) rfl
theorem st_X8_isSize : Cond.static yX8_isSize ∈ TT := tt_m 1062 (by decide +kernel) rfl
theorem co_X8_isSize : Cond.code yX8_isSize cX8_isSize 1 (some .boolean) ∈ TT := tt_m 1063 (by decide +kernel) rfl
theorem ml_X8_165 : Cond.methodLink RX8 165 yX8_layBest ∈ TT := tt_m 1064 (by decide +kernel) rfl
theorem im_X8_layBest : Cond.instanceMethod yX8_layBest ∈ TT := tt_m 1066 (by decide +kernel) rfl
theorem co_X8_layBest : Cond.code yX8_layBest cX8_layBest 5 (some .boolean) ∈ TT := tt_m 1067 (by decide +kernel) rfl
theorem ml_X8_76 : Cond.methodLink RX8 76 yX8_misfit ∈ TT := tt_m 1068 (by decide +kernel) rfl
theorem im_X8_misfit : Cond.instanceMethod yX8_misfit ∈ TT := tt_m 1070 (by decide +kernel) rfl
theorem co_X8_misfit : Cond.code yX8_misfit cX8_misfit 4 (some .int) ∈ TT := tt_m 1071 (by decide +kernel) rfl
theorem ml_X8_60 : Cond.methodLink RX8 60 yX8_product ∈ TT := tt_m 1072 (by decide +kernel) rfl
theorem im_X8_product : Cond.instanceMethod yX8_product ∈ TT := tt_m 1074 (by decide +kernel) rfl
theorem co_X8_product : Cond.code yX8_product cX8_product 5 (some .int) ∈ TT := tt_m 1075 (by decide +kernel) rfl
theorem ml_X8_153 : Cond.methodLink RX8 153 yX8_setHandle ∈ TT := tt_m 1076 (by decide +kernel) rfl
theorem im_X8_setHandle : Cond.instanceMethod yX8_setHandle ∈ TT := tt_m 1078 (by decide +kernel) rfl
theorem co_X8_setHandle : Cond.code yX8_setHandle cX8_setHandle 5 none ∈ TT := tt_m 1079 (by decide +kernel) rfl
theorem ml_X8_80 : Cond.methodLink RX8 80 yX8_unreached ∈ TT := tt_m 1080 (by decide +kernel) rfl
theorem im_X8_unreached : Cond.instanceMethod yX8_unreached ∈ TT := tt_m 1082 (by decide +kernel) rfl
theorem co_X8_unreached : Cond.code yX8_unreached cX8_unreached 2 (some .int) ∈ TT := tt_m 1083 (by decide +kernel) rfl
theorem ml_X8_73 : Cond.methodLink RX8 73 yX8_byHandle ∈ TT := tt_m 1084 (by decide +kernel) rfl
theorem im_X8_byHandle : Cond.instanceMethod yX8_byHandle ∈ TT := tt_m 1086 (by decide +kernel) rfl
theorem co_X8_byHandle : Cond.code yX8_byHandle cX8_byHandle 2 (some .int) ∈ TT := tt_m 1087 (by decide +kernel) rfl
theorem ml_X8_156 : Cond.methodLink RX8 156 yX8_layBound ∈ TT := tt_m 1088 (by decide +kernel) rfl
theorem im_X8_layBound : Cond.instanceMethod yX8_layBound ∈ TT := tt_m 1090 (by decide +kernel) rfl
theorem co_X8_layBound : Cond.code yX8_layBound cX8_layBound 6 none ∈ TT := tt_m 1091 (by decide +kernel) rfl
theorem ml_X8_93 : Cond.methodLink RX8 93 yX8_common ∈ TT := tt_m 1092 (by decide +kernel) rfl
theorem st_X8_common : Cond.static yX8_common ∈ TT := tt_m 1093 (by decide +kernel) rfl
theorem co_X8_common : Cond.code yX8_common cX8_common 10 (some .long) ∈ TT := tt_m 1094 (by decide +kernel) rfl
theorem ml_L_135 : Cond.methodLink RL 135 yX8_append ∈ TT := tt_m 1095 (by decide +kernel) rfl
theorem im_X8_append : Cond.instanceMethod yX8_append ∈ TT := tt_m 1096 (by decide +kernel) rfl
theorem se_X8_append : Cond.selects RX8 yX8_append yX8_append ∈ TT := tt_m 1097 (by decide +kernel) rfl
theorem co_X8_append : Cond.code yX8_append cX8_append 2 (some .int) ∈ TT := tt_m 1098 (by decide +kernel) rfl
theorem ml_L_139 : Cond.methodLink RL 139 yX8_clearBuffer ∈ TT := tt_m 1099 (by decide +kernel) rfl
theorem im_X8_clearBuffer : Cond.instanceMethod yX8_clearBuffer ∈ TT := tt_m 1100 (by decide +kernel) rfl
theorem se_X8_clearBuffer : Cond.selects RX8 yX8_clearBuffer yX8_clearBuffer ∈ TT := tt_m 1101 (by decide +kernel) rfl
theorem co_X8_clearBuffer : Cond.code yX8_clearBuffer cX8_clearBuffer 2 (some .int) ∈ TT := tt_m 1102 (by decide +kernel) rfl
theorem ml_L_143 : Cond.methodLink RL 143 yX8_firstError ∈ TT := tt_m 1103 (by decide +kernel) rfl
theorem im_X8_firstError : Cond.instanceMethod yX8_firstError ∈ TT := tt_m 1104 (by decide +kernel) rfl
theorem se_X8_firstError : Cond.selects RX8 yX8_firstError yX8_firstError ∈ TT := tt_m 1105 (by decide +kernel) rfl
theorem co_X8_firstError : Cond.code yX8_firstError cX8_firstError 1 (some .int) ∈ TT := tt_m 1106 (by decide +kernel) rfl
theorem ml_X8_174 : Cond.methodLink RX8 174 yX8_rightUpTo ∈ TT := tt_m 1107 (by decide +kernel) rfl
theorem im_X8_rightUpTo : Cond.instanceMethod yX8_rightUpTo ∈ TT := tt_m 1109 (by decide +kernel) rfl
theorem co_X8_rightUpTo : Cond.code yX8_rightUpTo cX8_rightUpTo 2 (some .int) ∈ TT := tt_m 1110 (by decide +kernel) rfl
theorem ml_X8_171 : Cond.methodLink RX8 171 yX8_canStand ∈ TT := tt_m 1111 (by decide +kernel) rfl
theorem im_X8_canStand : Cond.instanceMethod yX8_canStand ∈ TT := tt_m 1113 (by decide +kernel) rfl
theorem co_X8_canStand : Cond.code yX8_canStand cX8_canStand 3 (some .boolean) ∈ TT := tt_m 1114 (by decide +kernel) rfl
theorem ml_L_146 : Cond.methodLink RL 146 yX8_read ∈ TT := tt_m 1115 (by decide +kernel) rfl
theorem im_X8_read : Cond.instanceMethod yX8_read ∈ TT := tt_m 1116 (by decide +kernel) rfl
theorem se_X8_read : Cond.selects RX8 yX8_read yX8_read ∈ TT := tt_m 1117 (by decide +kernel) rfl
theorem co_X8_read : Cond.code yX8_read cX8_read 2 (some .int) ∈ TT := tt_m 1118 (by decide +kernel) rfl
theorem ml_L_149 : Cond.methodLink RL 149 yX8_take ∈ TT := tt_m 1119 (by decide +kernel) rfl
theorem im_X8_take : Cond.instanceMethod yX8_take ∈ TT := tt_m 1120 (by decide +kernel) rfl
theorem se_X8_take : Cond.selects RX8 yX8_take yX8_take ∈ TT := tt_m 1121 (by decide +kernel) rfl
theorem co_X8_take : Cond.code yX8_take cX8_take 3 (some .int) ∈ TT := tt_m 1122 (by decide +kernel) rfl
theorem ml_L_152 : Cond.methodLink RL 152 yX8_restore ∈ TT := tt_m 1123 (by decide +kernel) rfl
theorem im_X8_restore : Cond.instanceMethod yX8_restore ∈ TT := tt_m 1124 (by decide +kernel) rfl
theorem se_X8_restore : Cond.selects RX8 yX8_restore yX8_restore ∈ TT := tt_m 1125 (by decide +kernel) rfl
theorem co_X8_restore : Cond.code yX8_restore cX8_restore 3 (some .int) ∈ TT := tt_m 1126 (by decide +kernel) rfl
theorem ml_L_155 : Cond.methodLink RL 155 yX8_undo ∈ TT := tt_m 1127 (by decide +kernel) rfl
theorem im_X8_undo : Cond.instanceMethod yX8_undo ∈ TT := tt_m 1128 (by decide +kernel) rfl
theorem se_X8_undo : Cond.selects RX8 yX8_undo yX8_undo ∈ TT := tt_m 1129 (by decide +kernel) rfl
theorem co_X8_undo : Cond.code yX8_undo cX8_undo 2 (some .int) ∈ TT := tt_m 1130 (by decide +kernel) rfl
theorem ml_L_158 : Cond.methodLink RL 158 yX8_joined ∈ TT := tt_m 1131 (by decide +kernel) rfl
theorem im_X8_joined : Cond.instanceMethod yX8_joined ∈ TT := tt_m 1132 (by decide +kernel) rfl
theorem se_X8_joined : Cond.selects RX8 yX8_joined yX8_joined ∈ TT := tt_m 1133 (by decide +kernel) rfl
theorem co_X8_joined : Cond.code yX8_joined cX8_joined 3 (some .int) ∈ TT := tt_m 1134 (by decide +kernel) rfl
theorem ml_L_161 : Cond.methodLink RL 161 yX8_vertex ∈ TT := tt_m 1135 (by decide +kernel) rfl
theorem im_X8_vertex : Cond.instanceMethod yX8_vertex ∈ TT := tt_m 1136 (by decide +kernel) rfl
theorem se_X8_vertex : Cond.selects RX8 yX8_vertex yX8_vertex ∈ TT := tt_m 1137 (by decide +kernel) rfl
theorem co_X8_vertex : Cond.code yX8_vertex cX8_vertex 3 (some .int) ∈ TT := tt_m 1138 (by decide +kernel) rfl
theorem ml_X8_183 : Cond.methodLink RX8 183 yX8_vertexNow ∈ TT := tt_m 1139 (by decide +kernel) rfl
theorem im_X8_vertexNow : Cond.instanceMethod yX8_vertexNow ∈ TT := tt_m 1141 (by decide +kernel) rfl
theorem co_X8_vertexNow : Cond.code yX8_vertexNow cX8_vertexNow 3 (some .int) ∈ TT := tt_m 1142 (by decide +kernel) rfl
theorem ml_X8_177 : Cond.methodLink RX8 177 yX8_colorOf ∈ TT := tt_m 1143 (by decide +kernel) rfl
theorem im_X8_colorOf : Cond.instanceMethod yX8_colorOf ∈ TT := tt_m 1145 (by decide +kernel) rfl
theorem co_X8_colorOf : Cond.code yX8_colorOf cX8_colorOf 3 (some .int) ∈ TT := tt_m 1146 (by decide +kernel) rfl
theorem ml_X8_180 : Cond.methodLink RX8 180 yX8_heaviest ∈ TT := tt_m 1147 (by decide +kernel) rfl
theorem im_X8_heaviest : Cond.instanceMethod yX8_heaviest ∈ TT := tt_m 1149 (by decide +kernel) rfl
theorem co_X8_heaviest : Cond.code yX8_heaviest cX8_heaviest 5 (some .int) ∈ TT := tt_m 1150 (by decide +kernel) rfl
theorem ml_X8_97 : Cond.methodLink RX8 97 yX8_isClique ∈ TT := tt_m 1151 (by decide +kernel) rfl
theorem im_X8_isClique : Cond.instanceMethod yX8_isClique ∈ TT := tt_m 1153 (by decide +kernel) rfl
theorem co_X8_isClique : Cond.code yX8_isClique cX8_isClique 4 (some .boolean) ∈ TT := tt_m 1154 (by decide +kernel) rfl
theorem ml_X8_101 : Cond.methodLink RX8 101 yX8_weightOf ∈ TT := tt_m 1155 (by decide +kernel) rfl
theorem im_X8_weightOf : Cond.instanceMethod yX8_weightOf ∈ TT := tt_m 1157 (by decide +kernel) rfl
theorem co_X8_weightOf : Cond.code yX8_weightOf cX8_weightOf 4 (some .int) ∈ TT := tt_m 1158 (by decide +kernel) rfl
theorem ml_L_164 : Cond.methodLink RL 164 yX8_handle ∈ TT := tt_m 1159 (by decide +kernel) rfl
theorem im_X8_handle : Cond.instanceMethod yX8_handle ∈ TT := tt_m 1160 (by decide +kernel) rfl
theorem se_X8_handle : Cond.selects RX8 yX8_handle yX8_handle ∈ TT := tt_m 1161 (by decide +kernel) rfl
theorem co_X8_handle : Cond.code yX8_handle cX8_handle 2 (some .int) ∈ TT := tt_m 1162 (by decide +kernel) rfl
theorem ml_L_167 : Cond.methodLink RL 167 yX8_bound ∈ TT := tt_m 1163 (by decide +kernel) rfl
theorem im_X8_bound : Cond.instanceMethod yX8_bound ∈ TT := tt_m 1164 (by decide +kernel) rfl
theorem se_X8_bound : Cond.selects RX8 yX8_bound yX8_bound ∈ TT := tt_m 1165 (by decide +kernel) rfl
theorem co_X8_bound : Cond.code yX8_bound cX8_bound 2 (some .long) ∈ TT := tt_m 1166 (by decide +kernel) rfl
theorem ml_X8_191 : Cond.methodLink RX8 191 yX8_boundNow ∈ TT := tt_m 1167 (by decide +kernel) rfl
theorem im_X8_boundNow : Cond.instanceMethod yX8_boundNow ∈ TT := tt_m 1169 (by decide +kernel) rfl
theorem co_X8_boundNow : Cond.code yX8_boundNow cX8_boundNow 2 (some .long) ∈ TT := tt_m 1170 (by decide +kernel) rfl
theorem ml_X8_186 : Cond.methodLink RX8 186 yX8_reason ∈ TT := tt_m 1171 (by decide +kernel) rfl
theorem im_X8_reason : Cond.instanceMethod yX8_reason ∈ TT := tt_m 1173 (by decide +kernel) rfl
theorem co_X8_reason : Cond.code yX8_reason cX8_reason 1 (some .int) ∈ TT := tt_m 1174 (by decide +kernel) rfl
theorem k_X8_189 : Cond.constantLong RX8 189 (-1) ∈ TT := tt_m 1175 (by decide +kernel) rfl
theorem ml_L_170 : Cond.methodLink RL 170 yX8_whyNot ∈ TT := tt_m 1176 (by decide +kernel) rfl
theorem im_X8_whyNot : Cond.instanceMethod yX8_whyNot ∈ TT := tt_m 1177 (by decide +kernel) rfl
theorem se_X8_whyNot : Cond.selects RX8 yX8_whyNot yX8_whyNot ∈ TT := tt_m 1178 (by decide +kernel) rfl
theorem co_X8_whyNot : Cond.code yX8_whyNot cX8_whyNot 2 (some .int) ∈ TT := tt_m 1179 (by decide +kernel) rfl
theorem ml_X8_195 : Cond.methodLink RX8 195 yX8_reasonNow ∈ TT := tt_m 1180 (by decide +kernel) rfl
theorem im_X8_reasonNow : Cond.instanceMethod yX8_reasonNow ∈ TT := tt_m 1182 (by decide +kernel) rfl
theorem co_X8_reasonNow : Cond.code yX8_reasonNow cX8_reasonNow 3 (some .int) ∈ TT := tt_m 1183 (by decide +kernel) rfl
theorem ml_L_173 : Cond.methodLink RL 173 yX8_whyNotMultiply ∈ TT := tt_m 1184 (by decide +kernel) rfl
theorem im_X8_whyNotMultiply : Cond.instanceMethod yX8_whyNotMultiply ∈ TT := tt_m 1185 (by decide +kernel) rfl
theorem se_X8_whyNotMultiply : Cond.selects RX8 yX8_whyNotMultiply yX8_whyNotMultiply ∈ TT := tt_m 1186 (by decide +kernel) rfl
theorem co_X8_whyNotMultiply : Cond.code yX8_whyNotMultiply cX8_whyNotMultiply 2 (some .int) ∈ TT := tt_m 1187 (by decide +kernel) rfl
theorem ml_L_176 : Cond.methodLink RL 176 yX8_bestHandle ∈ TT := tt_m 1188 (by decide +kernel) rfl
theorem im_X8_bestHandle : Cond.instanceMethod yX8_bestHandle ∈ TT := tt_m 1189 (by decide +kernel) rfl
theorem se_X8_bestHandle : Cond.selects RX8 yX8_bestHandle yX8_bestHandle ∈ TT := tt_m 1190 (by decide +kernel) rfl
theorem co_X8_bestHandle : Cond.code yX8_bestHandle cX8_bestHandle 3 (some .long) ∈ TT := tt_m 1191 (by decide +kernel) rfl
theorem ml_X8_198 : Cond.methodLink RX8 198 yX8_bestNow ∈ TT := tt_m 1192 (by decide +kernel) rfl
theorem im_X8_bestNow : Cond.instanceMethod yX8_bestNow ∈ TT := tt_m 1194 (by decide +kernel) rfl
theorem co_X8_bestNow : Cond.code yX8_bestNow cX8_bestNow 4 (some .long) ∈ TT := tt_m 1195 (by decide +kernel) rfl
theorem ml_L_179 : Cond.methodLink RL 179 yX8_count ∈ TT := tt_m 1196 (by decide +kernel) rfl
theorem im_X8_count : Cond.instanceMethod yX8_count ∈ TT := tt_m 1197 (by decide +kernel) rfl
theorem se_X8_count : Cond.selects RX8 yX8_count yX8_count ∈ TT := tt_m 1198 (by decide +kernel) rfl
theorem co_X8_count : Cond.code yX8_count cX8_count 2 (some .int) ∈ TT := tt_m 1199 (by decide +kernel) rfl
theorem ml_X8_208 : Cond.methodLink RX8 208 yX8_counted ∈ TT := tt_m 1200 (by decide +kernel) rfl
theorem im_X8_counted : Cond.instanceMethod yX8_counted ∈ TT := tt_m 1202 (by decide +kernel) rfl
theorem co_X8_counted : Cond.code yX8_counted cX8_counted 2 (some .int) ∈ TT := tt_m 1203 (by decide +kernel) rfl
theorem ml_X8_202 : Cond.methodLink RX8 202 yX8_mostVertices ∈ TT := tt_m 1204 (by decide +kernel) rfl
theorem im_X8_mostVertices : Cond.instanceMethod yX8_mostVertices ∈ TT := tt_m 1206 (by decide +kernel) rfl
theorem co_X8_mostVertices : Cond.code yX8_mostVertices cX8_mostVertices 3 (some .int) ∈ TT := tt_m 1207 (by decide +kernel) rfl
theorem ml_X8_205 : Cond.methodLink RX8 205 yX8_misfits ∈ TT := tt_m 1208 (by decide +kernel) rfl
theorem im_X8_misfits : Cond.instanceMethod yX8_misfits ∈ TT := tt_m 1210 (by decide +kernel) rfl
theorem co_X8_misfits : Cond.code yX8_misfits cX8_misfits 5 (some .int) ∈ TT := tt_m 1211 (by decide +kernel) rfl
theorem ml_L_184 : Cond.methodLink RL 184 yX8_nearness ∈ TT := tt_m 1212 (by decide +kernel) rfl
theorem im_X8_nearness : Cond.instanceMethod yX8_nearness ∈ TT := tt_m 1213 (by decide +kernel) rfl
theorem se_X8_nearness : Cond.selects RX8 yX8_nearness yX8_nearness ∈ TT := tt_m 1214 (by decide +kernel) rfl
theorem co_X8_nearness : Cond.code yX8_nearness cX8_nearness 1 (some .double) ∈ TT := tt_m 1215 (by decide +kernel) rfl
theorem ml_X8_211 : Cond.methodLink RX8 211 yX8_near ∈ TT := tt_m 1216 (by decide +kernel) rfl
theorem im_X8_near : Cond.instanceMethod yX8_near ∈ TT := tt_m 1218 (by decide +kernel) rfl
theorem co_X8_near : Cond.code yX8_near cX8_near 1 (some .double) ∈ TT := tt_m 1219 (by decide +kernel) rfl
theorem ml_L_189 : Cond.methodLink RL 189 yX8_digest ∈ TT := tt_m 1220 (by decide +kernel) rfl
theorem im_X8_digest : Cond.instanceMethod yX8_digest ∈ TT := tt_m 1221 (by decide +kernel) rfl
theorem se_X8_digest : Cond.selects RX8 yX8_digest yX8_digest ∈ TT := tt_m 1222 (by decide +kernel) rfl
theorem co_X8_digest : Cond.code yX8_digest cX8_digest 2 (some .long) ∈ TT := tt_m 1223 (by decide +kernel) rfl
theorem k_X8_224 : Cond.constantLong RX8 224 (2521) ∈ TT := tt_m 1224 (by decide +kernel) rfl
theorem ml_X8_220 : Cond.methodLink RX8 220 yX8_mix ∈ TT := tt_m 1225 (by decide +kernel) rfl
theorem im_X8_mix : Cond.instanceMethod yX8_mix ∈ TT := tt_m 1227 (by decide +kernel) rfl
theorem co_X8_mix : Cond.code yX8_mix cX8_mix 3 none ∈ TT := tt_m 1228 (by decide +kernel) rfl
theorem k_X8_215 : Cond.constantLong RX8 215 (31) ∈ TT := tt_m 1229 (by decide +kernel) rfl
theorem ml_X8_226 : Cond.methodLink RX8 226 yX8_mixVertex ∈ TT := tt_m 1230 (by decide +kernel) rfl
theorem im_X8_mixVertex : Cond.instanceMethod yX8_mixVertex ∈ TT := tt_m 1232 (by decide +kernel) rfl
theorem co_X8_mixVertex : Cond.code yX8_mixVertex cX8_mixVertex 3 none ∈ TT := tt_m 1233 (by decide +kernel) rfl
theorem ml_X8_230 : Cond.methodLink RX8 230 yJxe99ae_doubleToLongBits_ccdee ∈ TT := tt_m 1234 (by decide +kernel) rfl
theorem st_Jxe99ae_doubleToLongBits_ccdee : Cond.static yJxe99ae_doubleToLongBits_ccdee ∈ TT := tt_m 1235 (by decide +kernel) rfl
theorem co_Jxe99ae_doubleToLongBits_ccdee : Cond.code yJxe99ae_doubleToLongBits_ccdee cJxe99ae_doubleToLongBits_ccdee 2 (some .long) ∈ TT := tt_m 1236 (by decide +kernel) rfl
theorem ml_Jxe99ae_122 : Cond.methodLink RJxe99ae 122 yJxe99ae_isNaN_b9ae7 ∈ TT := tt_m 1237 (by decide +kernel) rfl
theorem st_Jxe99ae_isNaN_b9ae7 : Cond.static yJxe99ae_isNaN_b9ae7 ∈ TT := tt_m 1238 (by decide +kernel) rfl
theorem co_Jxe99ae_isNaN_b9ae7 : Cond.code yJxe99ae_isNaN_b9ae7 cJxe99ae_isNaN_b9ae7 2 (some .boolean) ∈ TT := tt_m 1239 (by decide +kernel) rfl
theorem k_Jxe99ae_137 : Cond.constantLong RJxe99ae 137 (9221120237041090560) ∈ TT := tt_m 1243 (by decide +kernel) rfl
theorem ac_long : Cond.arrayClass .long ∈ TT := tt_m 1244 (by decide +kernel) rfl
theorem inw_X0 : ∀ w ∈ u_ws RX0 TX0 4, w ∈ TT := fun w hw => List.mem_filter.mpr ⟨(List.all_eq_true.mp (show (u_ws RX0 TX0 4).all (fun w => decide (w ∈ lw_tbl) && goodWord w) = true by decide +kernel) w hw |> fun h => by simp only [Bool.and_eq_true, decide_eq_true_eq] at h; exact h.1), (List.all_eq_true.mp (show (u_ws RX0 TX0 4).all (fun w => decide (w ∈ lw_tbl) && goodWord w) = true by decide +kernel) w hw |> fun h => by simp only [Bool.and_eq_true, decide_eq_true_eq] at h; exact h.2)⟩
theorem inw_X1 : ∀ w ∈ u_ws RX1 TX1 2, w ∈ TT := fun w hw => List.mem_filter.mpr ⟨(List.all_eq_true.mp (show (u_ws RX1 TX1 2).all (fun w => decide (w ∈ lw_tbl) && goodWord w) = true by decide +kernel) w hw |> fun h => by simp only [Bool.and_eq_true, decide_eq_true_eq] at h; exact h.1), (List.all_eq_true.mp (show (u_ws RX1 TX1 2).all (fun w => decide (w ∈ lw_tbl) && goodWord w) = true by decide +kernel) w hw |> fun h => by simp only [Bool.and_eq_true, decide_eq_true_eq] at h; exact h.2)⟩
theorem inw_X2 : ∀ w ∈ u_ws RX2 TX2 2, w ∈ TT := fun w hw => List.mem_filter.mpr ⟨(List.all_eq_true.mp (show (u_ws RX2 TX2 2).all (fun w => decide (w ∈ lw_tbl) && goodWord w) = true by decide +kernel) w hw |> fun h => by simp only [Bool.and_eq_true, decide_eq_true_eq] at h; exact h.1), (List.all_eq_true.mp (show (u_ws RX2 TX2 2).all (fun w => decide (w ∈ lw_tbl) && goodWord w) = true by decide +kernel) w hw |> fun h => by simp only [Bool.and_eq_true, decide_eq_true_eq] at h; exact h.2)⟩
theorem inw_X3 : ∀ w ∈ u_ws RX3 TX3 2, w ∈ TT := fun w hw => List.mem_filter.mpr ⟨(List.all_eq_true.mp (show (u_ws RX3 TX3 2).all (fun w => decide (w ∈ lw_tbl) && goodWord w) = true by decide +kernel) w hw |> fun h => by simp only [Bool.and_eq_true, decide_eq_true_eq] at h; exact h.1), (List.all_eq_true.mp (show (u_ws RX3 TX3 2).all (fun w => decide (w ∈ lw_tbl) && goodWord w) = true by decide +kernel) w hw |> fun h => by simp only [Bool.and_eq_true, decide_eq_true_eq] at h; exact h.2)⟩
theorem inw_X4 : ∀ w ∈ u_ws RX4 TX4 6, w ∈ TT := fun w hw => List.mem_filter.mpr ⟨(List.all_eq_true.mp (show (u_ws RX4 TX4 6).all (fun w => decide (w ∈ lw_tbl) && goodWord w) = true by decide +kernel) w hw |> fun h => by simp only [Bool.and_eq_true, decide_eq_true_eq] at h; exact h.1), (List.all_eq_true.mp (show (u_ws RX4 TX4 6).all (fun w => decide (w ∈ lw_tbl) && goodWord w) = true by decide +kernel) w hw |> fun h => by simp only [Bool.and_eq_true, decide_eq_true_eq] at h; exact h.2)⟩
theorem inw_X5 : ∀ w ∈ u_ws RX5 TX5 4, w ∈ TT := fun w hw => List.mem_filter.mpr ⟨(List.all_eq_true.mp (show (u_ws RX5 TX5 4).all (fun w => decide (w ∈ lw_tbl) && goodWord w) = true by decide +kernel) w hw |> fun h => by simp only [Bool.and_eq_true, decide_eq_true_eq] at h; exact h.1), (List.all_eq_true.mp (show (u_ws RX5 TX5 4).all (fun w => decide (w ∈ lw_tbl) && goodWord w) = true by decide +kernel) w hw |> fun h => by simp only [Bool.and_eq_true, decide_eq_true_eq] at h; exact h.2)⟩
theorem inw_X6 : ∀ w ∈ u_ws RX6 TX6 4, w ∈ TT := fun w hw => List.mem_filter.mpr ⟨(List.all_eq_true.mp (show (u_ws RX6 TX6 4).all (fun w => decide (w ∈ lw_tbl) && goodWord w) = true by decide +kernel) w hw |> fun h => by simp only [Bool.and_eq_true, decide_eq_true_eq] at h; exact h.1), (List.all_eq_true.mp (show (u_ws RX6 TX6 4).all (fun w => decide (w ∈ lw_tbl) && goodWord w) = true by decide +kernel) w hw |> fun h => by simp only [Bool.and_eq_true, decide_eq_true_eq] at h; exact h.2)⟩
theorem inw_X7 : ∀ w ∈ u_ws RX7 TX7 10, w ∈ TT := fun w hw => List.mem_filter.mpr ⟨(List.all_eq_true.mp (show (u_ws RX7 TX7 10).all (fun w => decide (w ∈ lw_tbl) && goodWord w) = true by decide +kernel) w hw |> fun h => by simp only [Bool.and_eq_true, decide_eq_true_eq] at h; exact h.1), (List.all_eq_true.mp (show (u_ws RX7 TX7 10).all (fun w => decide (w ∈ lw_tbl) && goodWord w) = true by decide +kernel) w hw |> fun h => by simp only [Bool.and_eq_true, decide_eq_true_eq] at h; exact h.2)⟩
theorem inw_X8 : ∀ w ∈ u_ws RX8 TX8 18, w ∈ TT := fun w hw => List.mem_filter.mpr ⟨(List.all_eq_true.mp (show (u_ws RX8 TX8 18).all (fun w => decide (w ∈ lw_tbl) && goodWord w) = true by decide +kernel) w hw |> fun h => by simp only [Bool.and_eq_true, decide_eq_true_eq] at h; exact h.1), (List.all_eq_true.mp (show (u_ws RX8 TX8 18).all (fun w => decide (w ∈ lw_tbl) && goodWord w) = true by decide +kernel) w hw |> fun h => by simp only [Bool.and_eq_true, decide_eq_true_eq] at h; exact h.2)⟩
end
