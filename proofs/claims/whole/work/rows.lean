section
-- ===== PART A: goes FIRST, ahead of the names: the tables' words, and 'selects' of the private methods out of them =====
/-- a private method of a class that the tables say can be made, by its rows of tables_1 -/
def lw_okq (q : MethodName × Nat) : Prop := (q.1.cls ≠ "java/lang/invoke/MethodHandle" ∧ q.1.cls ≠ "java/lang/invoke/VarHandle") ∧ Cond.instantiable q.1.cls q.2 ∈ tables_1 ∧ Cond.privateMethod q.1 ∈ tables_1 ∧ Cond.instanceMethod q.1 ∈ tables_1
theorem lw_p0 : lw_okq (⟨"java/lang/Throwable", "fillInStackTrace", "(I)Ljava/lang/Throwable;"⟩, 6) := ⟨⟨by decide +kernel, by decide +kernel⟩, List.mem_of_getElem? (i := 223) (by decide +kernel), List.mem_of_getElem? (i := 221) (by decide +kernel), List.mem_of_getElem? (i := 222) (by decide +kernel)⟩
theorem lw_p1 : lw_okq (⟨"Glosstemplate", "isWord", "(I)Z"⟩, 11) := ⟨⟨by decide +kernel, by decide +kernel⟩, List.mem_of_getElem? (i := 19) (by decide +kernel), List.mem_of_getElem? (i := 298) (by decide +kernel), List.mem_of_getElem? (i := 299) (by decide +kernel)⟩
theorem lw_p2 : lw_okq (⟨"Glosstemplate$Words", "endingAt", "(II)LGlosstemplate$Signs;"⟩, 4) := ⟨⟨by decide +kernel, by decide +kernel⟩, List.mem_of_getElem? (i := 41) (by decide +kernel), List.mem_of_getElem? (i := 339) (by decide +kernel), List.mem_of_getElem? (i := 340) (by decide +kernel)⟩
theorem lw_p3 : lw_okq (⟨"Glosstemplate", "templateAt", "(II)LGlosstemplate$Template;"⟩, 11) := ⟨⟨by decide +kernel, by decide +kernel⟩, List.mem_of_getElem? (i := 19) (by decide +kernel), List.mem_of_getElem? (i := 397) (by decide +kernel), List.mem_of_getElem? (i := 398) (by decide +kernel)⟩
theorem lw_p4 : lw_okq (⟨"Glosstemplate", "clauseAt", "(I)LGlosstemplate$Clause;"⟩, 11) := ⟨⟨by decide +kernel, by decide +kernel⟩, List.mem_of_getElem? (i := 19) (by decide +kernel), List.mem_of_getElem? (i := 401) (by decide +kernel), List.mem_of_getElem? (i := 402) (by decide +kernel)⟩
theorem lw_p5 : lw_okq (⟨"Glosstemplate$Clause", "howIndex", "(II)I"⟩, 3) := ⟨⟨by decide +kernel, by decide +kernel⟩, List.mem_of_getElem? (i := 358) (by decide +kernel), List.mem_of_getElem? (i := 460) (by decide +kernel), List.mem_of_getElem? (i := 461) (by decide +kernel)⟩
theorem lw_p6 : lw_okq (⟨"Glosstemplate$Clause", "isSameCount", "(I)Z"⟩, 3) := ⟨⟨by decide +kernel, by decide +kernel⟩, List.mem_of_getElem? (i := 358) (by decide +kernel), List.mem_of_getElem? (i := 479) (by decide +kernel), List.mem_of_getElem? (i := 480) (by decide +kernel)⟩
theorem lw_p7 : lw_okq (⟨"Glosstemplate", "letterAt", "(I)LGlosstemplate$Letter;"⟩, 11) := ⟨⟨by decide +kernel, by decide +kernel⟩, List.mem_of_getElem? (i := 19) (by decide +kernel), List.mem_of_getElem? (i := 521) (by decide +kernel), List.mem_of_getElem? (i := 522) (by decide +kernel)⟩
theorem lw_p8 : lw_okq (⟨"Glosstemplate", "dataAt", "(I)LGlosstemplate$Data;"⟩, 11) := ⟨⟨by decide +kernel, by decide +kernel⟩, List.mem_of_getElem? (i := 19) (by decide +kernel), List.mem_of_getElem? (i := 573) (by decide +kernel), List.mem_of_getElem? (i := 574) (by decide +kernel)⟩
theorem lw_p9 : lw_okq (⟨"Glosstemplate", "isIn", "(LGlosstemplate$Letter;LGlosstemplate$Data;I)Z"⟩, 11) := ⟨⟨by decide +kernel, by decide +kernel⟩, List.mem_of_getElem? (i := 19) (by decide +kernel), List.mem_of_getElem? (i := 606) (by decide +kernel), List.mem_of_getElem? (i := 607) (by decide +kernel)⟩
theorem lw_p10 : lw_okq (⟨"Glosstemplate", "faultAt", "(LGlosstemplate$Letter;LGlosstemplate$Data;III)I"⟩, 11) := ⟨⟨by decide +kernel, by decide +kernel⟩, List.mem_of_getElem? (i := 19) (by decide +kernel), List.mem_of_getElem? (i := 618) (by decide +kernel), List.mem_of_getElem? (i := 619) (by decide +kernel)⟩
theorem lw_p11 : lw_okq (⟨"Glosstemplate", "isRelated", "(LGlosstemplate$Letter;LGlosstemplate$Data;III)Z"⟩, 11) := ⟨⟨by decide +kernel, by decide +kernel⟩, List.mem_of_getElem? (i := 19) (by decide +kernel), List.mem_of_getElem? (i := 622) (by decide +kernel), List.mem_of_getElem? (i := 623) (by decide +kernel)⟩
theorem lw_p12 : lw_okq (⟨"Glosstemplate", "build", "(LGlosstemplate$Letter;LGlosstemplate$Data;I)V"⟩, 11) := ⟨⟨by decide +kernel, by decide +kernel⟩, List.mem_of_getElem? (i := 19) (by decide +kernel), List.mem_of_getElem? (i := 634) (by decide +kernel), List.mem_of_getElem? (i := 635) (by decide +kernel)⟩
theorem lw_p13 : lw_okq (⟨"Glosstemplate", "laidAt", "(LGlosstemplate$Letter;ILGlosstemplate$Data;I)LGlosstemplate$Template;"⟩, 11) := ⟨⟨by decide +kernel, by decide +kernel⟩, List.mem_of_getElem? (i := 19) (by decide +kernel), List.mem_of_getElem? (i := 643) (by decide +kernel), List.mem_of_getElem? (i := 644) (by decide +kernel)⟩
theorem lw_p14 : lw_okq (⟨"Glosstemplate", "layTemplate", "(LGlosstemplate$Template;LGlosstemplate$Data;I)V"⟩, 11) := ⟨⟨by decide +kernel, by decide +kernel⟩, List.mem_of_getElem? (i := 19) (by decide +kernel), List.mem_of_getElem? (i := 663) (by decide +kernel), List.mem_of_getElem? (i := 664) (by decide +kernel)⟩
theorem lw_p15 : lw_okq (⟨"Glosstemplate", "layForm", "(III)V"⟩, 11) := ⟨⟨by decide +kernel, by decide +kernel⟩, List.mem_of_getElem? (i := 19) (by decide +kernel), List.mem_of_getElem? (i := 679) (by decide +kernel), List.mem_of_getElem? (i := 680) (by decide +kernel)⟩
def lw_privs_1 : List (MethodName × Nat) := [(⟨"java/lang/Throwable", "fillInStackTrace", "(I)Ljava/lang/Throwable;"⟩, 6), (⟨"Glosstemplate", "isWord", "(I)Z"⟩, 11), (⟨"Glosstemplate$Words", "endingAt", "(II)LGlosstemplate$Signs;"⟩, 4), (⟨"Glosstemplate", "templateAt", "(II)LGlosstemplate$Template;"⟩, 11), (⟨"Glosstemplate", "clauseAt", "(I)LGlosstemplate$Clause;"⟩, 11), (⟨"Glosstemplate$Clause", "howIndex", "(II)I"⟩, 3), (⟨"Glosstemplate$Clause", "isSameCount", "(I)Z"⟩, 3), (⟨"Glosstemplate", "letterAt", "(I)LGlosstemplate$Letter;"⟩, 11), (⟨"Glosstemplate", "dataAt", "(I)LGlosstemplate$Data;"⟩, 11), (⟨"Glosstemplate", "isIn", "(LGlosstemplate$Letter;LGlosstemplate$Data;I)Z"⟩, 11), (⟨"Glosstemplate", "faultAt", "(LGlosstemplate$Letter;LGlosstemplate$Data;III)I"⟩, 11), (⟨"Glosstemplate", "isRelated", "(LGlosstemplate$Letter;LGlosstemplate$Data;III)Z"⟩, 11), (⟨"Glosstemplate", "build", "(LGlosstemplate$Letter;LGlosstemplate$Data;I)V"⟩, 11), (⟨"Glosstemplate", "laidAt", "(LGlosstemplate$Letter;ILGlosstemplate$Data;I)LGlosstemplate$Template;"⟩, 11), (⟨"Glosstemplate", "layTemplate", "(LGlosstemplate$Template;LGlosstemplate$Data;I)V"⟩, 11), (⟨"Glosstemplate", "layForm", "(III)V"⟩, 11)]
theorem lw_r1 : ∀ q ∈ lw_privs_1, lw_okq q := List.forall_mem_cons.mpr ⟨lw_p0, List.forall_mem_cons.mpr ⟨lw_p1, List.forall_mem_cons.mpr ⟨lw_p2, List.forall_mem_cons.mpr ⟨lw_p3, List.forall_mem_cons.mpr ⟨lw_p4, List.forall_mem_cons.mpr ⟨lw_p5, List.forall_mem_cons.mpr ⟨lw_p6, List.forall_mem_cons.mpr ⟨lw_p7, List.forall_mem_cons.mpr ⟨lw_p8, List.forall_mem_cons.mpr ⟨lw_p9, List.forall_mem_cons.mpr ⟨lw_p10, List.forall_mem_cons.mpr ⟨lw_p11, List.forall_mem_cons.mpr ⟨lw_p12, List.forall_mem_cons.mpr ⟨lw_p13, List.forall_mem_cons.mpr ⟨lw_p14, List.forall_mem_cons.mpr ⟨lw_p15, fun _ h => absurd h List.not_mem_nil⟩⟩⟩⟩⟩⟩⟩⟩⟩⟩⟩⟩⟩⟩⟩⟩
theorem lw_p16 : lw_okq (⟨"Glosstemplate$Words", "ownAt", "(III)LGlosstemplate$Signs;"⟩, 4) := ⟨⟨by decide +kernel, by decide +kernel⟩, List.mem_of_getElem? (i := 41) (by decide +kernel), List.mem_of_getElem? (i := 687) (by decide +kernel), List.mem_of_getElem? (i := 688) (by decide +kernel)⟩
theorem lw_p17 : lw_okq (⟨"Glosstemplate$Words", "stemAt", "(I)LGlosstemplate$Signs;"⟩, 4) := ⟨⟨by decide +kernel, by decide +kernel⟩, List.mem_of_getElem? (i := 41) (by decide +kernel), List.mem_of_getElem? (i := 692) (by decide +kernel), List.mem_of_getElem? (i := 693) (by decide +kernel)⟩
theorem lw_p18 : lw_okq (⟨"Glosstemplate", "seek", "(LGlosstemplate$Letter;LGlosstemplate$Data;I)V"⟩, 11) := ⟨⟨by decide +kernel, by decide +kernel⟩, List.mem_of_getElem? (i := 19) (by decide +kernel), List.mem_of_getElem? (i := 727) (by decide +kernel), List.mem_of_getElem? (i := 728) (by decide +kernel)⟩
theorem lw_p19 : lw_okq (⟨"Glosstemplate", "seekTemplate", "(LGlosstemplate$Template;LGlosstemplate$Data;I)V"⟩, 11) := ⟨⟨by decide +kernel, by decide +kernel⟩, List.mem_of_getElem? (i := 19) (by decide +kernel), List.mem_of_getElem? (i := 741) (by decide +kernel), List.mem_of_getElem? (i := 742) (by decide +kernel)⟩
theorem lw_p20 : lw_okq (⟨"Glosstemplate", "mostBranches", "(LGlosstemplate$Letter;I)I"⟩, 11) := ⟨⟨by decide +kernel, by decide +kernel⟩, List.mem_of_getElem? (i := 19) (by decide +kernel), List.mem_of_getElem? (i := 776) (by decide +kernel), List.mem_of_getElem? (i := 777) (by decide +kernel)⟩
theorem lw_p21 : lw_okq (⟨"Glosstemplate", "branches", "(LGlosstemplate$Letter;LGlosstemplate$Data;)I"⟩, 11) := ⟨⟨by decide +kernel, by decide +kernel⟩, List.mem_of_getElem? (i := 19) (by decide +kernel), List.mem_of_getElem? (i := 780) (by decide +kernel), List.mem_of_getElem? (i := 781) (by decide +kernel)⟩
theorem lw_p22 : lw_okq (⟨"GlosstemplateModel", "goes", "(I)Z"⟩, 27) := ⟨⟨by decide +kernel, by decide +kernel⟩, List.mem_of_getElem? (i := 790) (by decide +kernel), List.mem_of_getElem? (i := 887) (by decide +kernel), List.mem_of_getElem? (i := 888) (by decide +kernel)⟩
theorem lw_p23 : lw_okq (⟨"GlosstemplateModel", "isAll", "(II)Z"⟩, 27) := ⟨⟨by decide +kernel, by decide +kernel⟩, List.mem_of_getElem? (i := 790) (by decide +kernel), List.mem_of_getElem? (i := 899) (by decide +kernel), List.mem_of_getElem? (i := 900) (by decide +kernel)⟩
theorem lw_p24 : lw_okq (⟨"GlosstemplateModel", "takes", "([CI)I"⟩, 27) := ⟨⟨by decide +kernel, by decide +kernel⟩, List.mem_of_getElem? (i := 790) (by decide +kernel), List.mem_of_getElem? (i := 906) (by decide +kernel), List.mem_of_getElem? (i := 907) (by decide +kernel)⟩
theorem lw_p25 : lw_okq (⟨"GlosstemplateModel", "isWord", "(I)Z"⟩, 27) := ⟨⟨by decide +kernel, by decide +kernel⟩, List.mem_of_getElem? (i := 790) (by decide +kernel), List.mem_of_getElem? (i := 920) (by decide +kernel), List.mem_of_getElem? (i := 921) (by decide +kernel)⟩
theorem lw_p26 : lw_okq (⟨"GlosstemplateModel", "faultOfBuffer", "()I"⟩, 27) := ⟨⟨by decide +kernel, by decide +kernel⟩, List.mem_of_getElem? (i := 790) (by decide +kernel), List.mem_of_getElem? (i := 932) (by decide +kernel), List.mem_of_getElem? (i := 933) (by decide +kernel)⟩
theorem lw_p27 : lw_okq (⟨"GlosstemplateModel", "isClause", "(I)Z"⟩, 27) := ⟨⟨by decide +kernel, by decide +kernel⟩, List.mem_of_getElem? (i := 790) (by decide +kernel), List.mem_of_getElem? (i := 946) (by decide +kernel), List.mem_of_getElem? (i := 947) (by decide +kernel)⟩
theorem lw_p28 : lw_okq (⟨"GlosstemplateModel", "often", "(II)I"⟩, 27) := ⟨⟨by decide +kernel, by decide +kernel⟩, List.mem_of_getElem? (i := 790) (by decide +kernel), List.mem_of_getElem? (i := 965) (by decide +kernel), List.mem_of_getElem? (i := 966) (by decide +kernel)⟩
theorem lw_p29 : lw_okq (⟨"GlosstemplateModel", "isLetter", "(I)Z"⟩, 27) := ⟨⟨by decide +kernel, by decide +kernel⟩, List.mem_of_getElem? (i := 790) (by decide +kernel), List.mem_of_getElem? (i := 977) (by decide +kernel), List.mem_of_getElem? (i := 978) (by decide +kernel)⟩
theorem lw_p30 : lw_okq (⟨"GlosstemplateModel", "has", "(II)Z"⟩, 27) := ⟨⟨by decide +kernel, by decide +kernel⟩, List.mem_of_getElem? (i := 790) (by decide +kernel), List.mem_of_getElem? (i := 981) (by decide +kernel), List.mem_of_getElem? (i := 982) (by decide +kernel)⟩
theorem lw_p31 : lw_okq (⟨"GlosstemplateModel", "isData", "(I)Z"⟩, 27) := ⟨⟨by decide +kernel, by decide +kernel⟩, List.mem_of_getElem? (i := 790) (by decide +kernel), List.mem_of_getElem? (i := 993) (by decide +kernel), List.mem_of_getElem? (i := 994) (by decide +kernel)⟩
def lw_privs_2 : List (MethodName × Nat) := [(⟨"Glosstemplate$Words", "ownAt", "(III)LGlosstemplate$Signs;"⟩, 4), (⟨"Glosstemplate$Words", "stemAt", "(I)LGlosstemplate$Signs;"⟩, 4), (⟨"Glosstemplate", "seek", "(LGlosstemplate$Letter;LGlosstemplate$Data;I)V"⟩, 11), (⟨"Glosstemplate", "seekTemplate", "(LGlosstemplate$Template;LGlosstemplate$Data;I)V"⟩, 11), (⟨"Glosstemplate", "mostBranches", "(LGlosstemplate$Letter;I)I"⟩, 11), (⟨"Glosstemplate", "branches", "(LGlosstemplate$Letter;LGlosstemplate$Data;)I"⟩, 11), (⟨"GlosstemplateModel", "goes", "(I)Z"⟩, 27), (⟨"GlosstemplateModel", "isAll", "(II)Z"⟩, 27), (⟨"GlosstemplateModel", "takes", "([CI)I"⟩, 27), (⟨"GlosstemplateModel", "isWord", "(I)Z"⟩, 27), (⟨"GlosstemplateModel", "faultOfBuffer", "()I"⟩, 27), (⟨"GlosstemplateModel", "isClause", "(I)Z"⟩, 27), (⟨"GlosstemplateModel", "often", "(II)I"⟩, 27), (⟨"GlosstemplateModel", "isLetter", "(I)Z"⟩, 27), (⟨"GlosstemplateModel", "has", "(II)Z"⟩, 27), (⟨"GlosstemplateModel", "isData", "(I)Z"⟩, 27)]
theorem lw_r2 : ∀ q ∈ lw_privs_2, lw_okq q := List.forall_mem_cons.mpr ⟨lw_p16, List.forall_mem_cons.mpr ⟨lw_p17, List.forall_mem_cons.mpr ⟨lw_p18, List.forall_mem_cons.mpr ⟨lw_p19, List.forall_mem_cons.mpr ⟨lw_p20, List.forall_mem_cons.mpr ⟨lw_p21, List.forall_mem_cons.mpr ⟨lw_p22, List.forall_mem_cons.mpr ⟨lw_p23, List.forall_mem_cons.mpr ⟨lw_p24, List.forall_mem_cons.mpr ⟨lw_p25, List.forall_mem_cons.mpr ⟨lw_p26, List.forall_mem_cons.mpr ⟨lw_p27, List.forall_mem_cons.mpr ⟨lw_p28, List.forall_mem_cons.mpr ⟨lw_p29, List.forall_mem_cons.mpr ⟨lw_p30, List.forall_mem_cons.mpr ⟨lw_p31, fun _ h => absurd h List.not_mem_nil⟩⟩⟩⟩⟩⟩⟩⟩⟩⟩⟩⟩⟩⟩⟩⟩
theorem lw_p32 : lw_okq (⟨"GlosstemplateModel", "meets", "(II)Z"⟩, 27) := ⟨⟨by decide +kernel, by decide +kernel⟩, List.mem_of_getElem? (i := 790) (by decide +kernel), List.mem_of_getElem? (i := 1005) (by decide +kernel), List.mem_of_getElem? (i := 1006) (by decide +kernel)⟩
theorem lw_p33 : lw_okq (⟨"GlosstemplateModel", "isBroken", "(IIIII)Z"⟩, 27) := ⟨⟨by decide +kernel, by decide +kernel⟩, List.mem_of_getElem? (i := 790) (by decide +kernel), List.mem_of_getElem? (i := 1009) (by decide +kernel), List.mem_of_getElem? (i := 1010) (by decide +kernel)⟩
theorem lw_p34 : lw_okq (⟨"GlosstemplateModel", "signOf", "(IIII)C"⟩, 27) := ⟨⟨by decide +kernel, by decide +kernel⟩, List.mem_of_getElem? (i := 790) (by decide +kernel), List.mem_of_getElem? (i := 1017) (by decide +kernel), List.mem_of_getElem? (i := 1018) (by decide +kernel)⟩
theorem lw_p35 : lw_okq (⟨"GlosstemplateModel", "builds", "(III)V"⟩, 27) := ⟨⟨by decide +kernel, by decide +kernel⟩, List.mem_of_getElem? (i := 790) (by decide +kernel), List.mem_of_getElem? (i := 1021) (by decide +kernel), List.mem_of_getElem? (i := 1022) (by decide +kernel)⟩
theorem lw_p36 : lw_okq (⟨"GlosstemplateModel", "lays", "(C)V"⟩, 27) := ⟨⟨by decide +kernel, by decide +kernel⟩, List.mem_of_getElem? (i := 790) (by decide +kernel), List.mem_of_getElem? (i := 1025) (by decide +kernel), List.mem_of_getElem? (i := 1026) (by decide +kernel)⟩
theorem lw_p37 : lw_okq (⟨"GlosstemplateModel", "laysText", "(III)V"⟩, 27) := ⟨⟨by decide +kernel, by decide +kernel⟩, List.mem_of_getElem? (i := 790) (by decide +kernel), List.mem_of_getElem? (i := 1029) (by decide +kernel), List.mem_of_getElem? (i := 1030) (by decide +kernel)⟩
theorem lw_p38 : lw_okq (⟨"GlosstemplateModel", "laysForm", "(III)V"⟩, 27) := ⟨⟨by decide +kernel, by decide +kernel⟩, List.mem_of_getElem? (i := 790) (by decide +kernel), List.mem_of_getElem? (i := 1036) (by decide +kernel), List.mem_of_getElem? (i := 1037) (by decide +kernel)⟩
theorem lw_p39 : lw_okq (⟨"GlosstemplateModel", "branches", "(II)I"⟩, 27) := ⟨⟨by decide +kernel, by decide +kernel⟩, List.mem_of_getElem? (i := 790) (by decide +kernel), List.mem_of_getElem? (i := 1055) (by decide +kernel), List.mem_of_getElem? (i := 1056) (by decide +kernel)⟩
def lw_privs_3 : List (MethodName × Nat) := [(⟨"GlosstemplateModel", "meets", "(II)Z"⟩, 27), (⟨"GlosstemplateModel", "isBroken", "(IIIII)Z"⟩, 27), (⟨"GlosstemplateModel", "signOf", "(IIII)C"⟩, 27), (⟨"GlosstemplateModel", "builds", "(III)V"⟩, 27), (⟨"GlosstemplateModel", "lays", "(C)V"⟩, 27), (⟨"GlosstemplateModel", "laysText", "(III)V"⟩, 27), (⟨"GlosstemplateModel", "laysForm", "(III)V"⟩, 27), (⟨"GlosstemplateModel", "branches", "(II)I"⟩, 27)]
theorem lw_r3 : ∀ q ∈ lw_privs_3, lw_okq q := List.forall_mem_cons.mpr ⟨lw_p32, List.forall_mem_cons.mpr ⟨lw_p33, List.forall_mem_cons.mpr ⟨lw_p34, List.forall_mem_cons.mpr ⟨lw_p35, List.forall_mem_cons.mpr ⟨lw_p36, List.forall_mem_cons.mpr ⟨lw_p37, List.forall_mem_cons.mpr ⟨lw_p38, List.forall_mem_cons.mpr ⟨lw_p39, fun _ h => absurd h List.not_mem_nil⟩⟩⟩⟩⟩⟩⟩⟩
def lw_privs : List (MethodName × Nat) := lw_privs_1 ++ (lw_privs_2 ++ (lw_privs_3))
def lw_tbl : List Cond := k2_sels lw_privs ++ tables_1
theorem lw_privs_ok : ∀ q ∈ lw_privs, lw_okq q := by
  show ∀ q ∈ lw_privs_1 ++ (lw_privs_2 ++ (lw_privs_3)), lw_okq q
  exact List.forall_mem_append.mpr ⟨lw_r1, List.forall_mem_append.mpr ⟨lw_r2, lw_r3⟩⟩
end
section
/-! ===== BEGIN words of one list among another's, by their places ===== -/
theorem goodIn_r {big : List Cond} (ws : List Cond) (ps : List Nat) (hp : ws = ps.filterMap (fun i => big[i]?)) (h : ws.all goodWord = true) : GoodIn big ws := by
  intro w hw
  have h1 := List.all_eq_true.mp h w hw
  rw [hp] at hw
  obtain ⟨i, -, hi⟩ := List.mem_filterMap.mp hw
  have hm : w ∈ big := by first | exact List.mem_of_getElem? hi | exact List.getElem?_mem hi
  exact ⟨hm, good_of_word h1⟩
theorem goodIn_app {big a b : List Cond} (ha : GoodIn big a) (hb : GoodIn big b) : GoodIn big (a ++ b) := fun w h => (List.mem_append.mp h).elim (ha w) (hb w)
theorem goodIn_ca {big a b : List Cond} {c : Cond} (ha : GoodIn big (c :: a)) (hb : GoodIn big b) : GoodIn big (c :: (a ++ b)) := fun w h => (List.mem_cons.mp h).elim (fun e => ha w (List.mem_cons.mpr (Or.inl e))) (fun h => (List.mem_append.mp h).elim (fun h => ha w (List.mem_cons.mpr (Or.inr h))) (hb w))
theorem goodIn_sub {big ws : List Cond} (hm : ∀ w ∈ ws, w ∈ big) (h : ws.all goodWord = true) : GoodIn big ws := fun w hw => ⟨hm w hw, good_of_word (List.all_eq_true.mp h w hw)⟩
/-! ===== END ===== -/

/-! ===== BEGIN exceptions that leave a method, and their catching by the caller (launches without stack traces) ===== -/
section VXA
/-! The laws vx_back, vx_callV, vx_callS, vx_callSW, vx_throw0, vx_throwS follow proofs of the library, with one case more: JvmDerived/Free/Laws.lean (Back.of_free), Shelf42/LK1.lean (callV, callS), Shelf/KitTraced.lean (throwNew0V, throwNewS). -/
/-- where a method has thrown q: the class by its name, the cell, what was written, the world -/
def vx_T (XC : String → State → State → Prop) (st : State) (q : Addr) (t : State) (mc ms : Nat) (free : Addr → Prop) : Prop :=
  ∃ (E : String) (ce : Cell) (L : List Loc), XC E st t ∧ t.heap[q]? = some ce ∧ ce.vm = .none ∧ st.vm.findClass E = some ce.cls ∧ st.WarmedH t.vm ∧ st.sameButNew ({ t with vm := st.vm } : State) L mc ms ∧ ∀ z ∈ L, free z.base
def vx_Q (Qc : Array Value → State → Outcome → State → Prop) (XC : String → State → State → Prop) (mc ms : Nat) (free : Addr → Prop) : Array Value → State → Outcome → State → Prop := fun a st o t =>
  (Qc a st o t ∧ ∃ L, FrameEnd st o t L mc ms ∧ ∀ q ∈ L, free q.base) ∨ ∃ q, o = .threw q ∧ vx_T XC st q t mc ms free
/-- a callee that returns or throws -/
def vx_Met (l : Launch) (y : MethodName) (ws : List Cond) (rm : Room) (Pc : Array Value → State → Prop) (Qc : Array Value → State → Outcome → State → Prop) (XC : String → State → State → Prop) (mc ms : Nat) (free : Addr → Prop) : Prop :=
  MetFree l y (headSpec ws rm) Pc (fun _ _ _ _ _ => True) (vx_Q Qc XC mc ms free)
def vx_Post (XC : String → State → State → Prop) (mc ms : Nat) (free : Addr → Prop) : Pt → Array Value → Addr → Pt → Prop := fun A a q B =>
  ∃ (g : JFrame) (mk : MethodId) (t : State) (L : List Loc) (E : String) (ce : Cell), B.U.heap = t.heap ∧ B.U.vm = t.vm ∧ XC E (A.U.calling g mk a) t ∧ t.heap[q]? = some ce ∧ ce.vm = .none ∧ A.U.vm.findClass E = some ce.cls ∧ B.locs = A.locs ++ L ∧ (∀ z ∈ L, free z.base) ∧ B.cells = A.cells + mc ∧ B.slots = A.slots + ms
def vx_Back (l : Launch) (R : Room) (p : Program) (e : Env) (below : List Frame) (s : State) (sargs : Array Value) (y : MethodName) (len W9 : Nat)
    (Pre : Pt → Array Value → Prop) (Post : Pt → Array Value → Option Value → Pt → Prop) (PostX : Pt → Array Value → Addr → Pt → Prop) : Prop :=
  ∀ (m : MethodId) (meth : Method) (c : Code) (A : Pt) (g : JFrame) (ig : Instr) (mk : MethodId) (a : Array Value),
    Stand p l e R s m sargs below meth c A.U A.locs A.cells A.slots → g.method = m → g.locals.size = c.maxLocals → decode c.code g.pc = .ok (ig, len) →
    2 * g.monitorRoom + (g.stack.map fun v => v.category).sum ≤ W9 → A.U.methodNamed? y = some mk → Pre A a →
    (∃ (v : Option Value) (B : Pt), Stand p l e R s m sargs below meth c B.U B.locs B.cells B.slots ∧ Post A a v B ∧
      Steps p.tables e below (doInvoke e (A.U.setTop g) [] mk a).1 (B.U.setTop { g with pc := g.pc + len, stack := v.toList ++ g.stack })) ∨
    (∃ (q : Addr) (B : Pt), Stand p l e R s m sargs below meth c B.U B.locs B.cells B.slots ∧ PostX A a q B ∧
      Steps p.tables e below (doInvoke e (A.U.setTop g) [] mk a).1 ((B.U.setTop g).pushFrame (.throwing q)))
section Payer
variable {l : Launch} {R : Room} {p : Program} {e : Env} {below : List Frame} {s : State} {sargs : Array Value} {y : MethodName} {len W9 : Nat}
theorem vx_back {ws : List Cond} {rm : Room} {Pc : Array Value → State → Prop} {Qc : Array Value → State → Outcome → State → Prop} {XC : String → State → State → Prop} {mc ms : Nat} {free : Addr → Prop} {bytes : ByteArray} {maxL : Nat} {ret : Option FieldType}
    (hM : vx_Met l y ws rm Pc Qc XC mc ms free) (hblind : FrameBlind Pc) (hrc : rm.cells = mc) (hrs : rm.slots = ms)
    (hframes : rm.frames + 1 ≤ R.frames) (hlocals : W9 + (maxL + 11) + rm.locals ≤ R.locals)
    (hws : ∀ w ∈ ws, ∀ a' U, s.WarmedH U.vm → w.before a' U = true) (hcode : Cond.code y bytes maxL ret ∈ ws) (hinit : ∀ a' U, s.WarmedH U.vm → (Cond.initialized y.cls).before a' U = true) :
    vx_Back l R p e below s sargs y len W9 (PreOf R mc ms Pc) (PostOf Qc mc ms free) (vx_Post XC mc ms free) := by
  intro m meth c A g ig mk a X hg hsize hdg hW hn hp
  have h1 : (headSpec ws rm).pre.before a A.U = true := atoms_intro fun w hw => hws w hw _ _ X.warmed
  have h2 : (Cond.code y bytes maxL ret).before a A.U = true := hws _ hcode _ _ X.warmed
  have h3 : (Cond.initialized y.cls).before a A.U = true := hinit _ _ X.warmed
  have h4 : A.cells + (headSpec ws rm).room.cells ≤ R.cells := by rw [show (headSpec ws rm).room.cells = mc from hrc]; exact hp.1
  have h5 : A.slots + (headSpec ws rm).room.slots ≤ R.slots := by rw [show (headSpec ws rm).room.slots = ms from hrs]; exact hp.2.1
  have hPc : Pc a (A.U.calling g mk a) := hblind _ _ _ _ hp.2.2
  obtain ⟨U, Ls, c0, s0⟩ := A
  dsimp only [Pt.U, Pt.locs, Pt.cells, Pt.slots] at h1 h2 h3 h4 h5 X hn hPc ⊢
  obtain ⟨methY, cY, hmY, hcY, -, hlY, -, -, -, -⟩ := Cond.code_spec hn h2
  obtain ⟨kY, hkY, -⟩ := className_of_methodNamed hn
  have hinitY : kY.init = .initialized := Cond.initialized_spec (findClass_of_methodNamed hn) hkY h3
  have h : At U g.method c below := by rw [hg]; exact X.here
  have hlocals9 : W9 + (maxL + 11) + (headSpec ws rm).room.locals ≤ R.locals := hlocals
  have happ : (headSpec ws rm).appliesLoose y e.platform (U.calling g mk a) = true :=
    Spec.appliesLoose_calling (g := g) h hdg hn hkY hinitY
      (X.room_calling (g := g) (R' := (headSpec ws rm).room) hsize hmY hcY hframes (by rw [hlY]; omega) h4 h5) h1
  obtain ⟨mid, hmid⟩ := h.above
  have hfr : (U.setTop g).frames = (.java g :: mid) ++ below := by rw [State.frames_setTop' g h.top, hmid]; rfl
  obtain ⟨o, s₂, hsteps, -, hend, hq⟩ := Steps.callFree hM p X.admits X.cas X.clock (acts := []) hfr happ hPc trivial
  have hq' : vx_Q Qc XC mc ms free a (U.calling g mk a) o s₂ := hq
  rw [State.frames_setTop' g h.top] at hend
  obtain ⟨g₀, hg0⟩ := Option.isSome_iff_exists.mp h.top
  obtain ⟨r, hr⟩ := State.topJava?_eq_some.mp hg0
  have hr' : (({ U with heap := s₂.heap, slotsUsed := s₂.slotsUsed } : State).setVm s₂.vm).frames = .java g₀ :: r := hr
  rcases hq' with ⟨hqc, L, hfe, hL⟩ | ⟨q, rfl, E, ce, L, hx, hce, hcv, hcl, hW₂, hsm, hL⟩
  · obtain ⟨⟨v, rfl⟩, hW₂, e2, q2, q3, q4, q5, q6⟩ := id hfe
    have e3 : s₂ = ({ (U.calling g mk a).setFrames s₂.frames with heap := s₂.heap, slotsUsed := s₂.slotsUsed } : State).setVm s₂.vm := by
      have : s₂ = ({ s₂ with vm := (U.calling g mk a).vm } : State).setVm s₂.vm := rfl
      rw [e2] at this
      exact this
    obtain ⟨c₂, i₂, len₂, hc₂, hd₂, hf₂⟩ := hend
    have hW' : U.WarmedH s₂.vm := hW₂
    have hcc : c₂ = c := by
      have h1 : s₂.code? g.method = U.code? g.method := by
        rw [State.code?_eq, State.code?_eq, hW'.alike.method?]
      exact Option.some.inj (hc₂.symm.trans (h1.trans h.code))
    subst hcc
    have hlen : len₂ = len := by rw [hdg] at hd₂; cases hd₂; rfl
    subst hlen
    have hs₂ : s₂ = (({ U with heap := s₂.heap, slotsUsed := s₂.slotsUsed } : State).setVm s₂.vm).setTop { g with pc := g.pc + len₂, stack := v.toList ++ g.stack } := by
      refine e3.trans ?_
      rw [hf₂, State.calling_eq h.top, State.setFrames_setFrames, State.setTop_of_frames _ hr', hr]
      rfl
    have hsame : U.sameButNew ({ U with heap := s₂.heap, slotsUsed := s₂.slotsUsed } : State) L mc ms := by
      refine ⟨?_, q2, q3, q4, q5, q6⟩
      obtain ⟨t, ht, -⟩ := State.frames_cons hr
      show ({ U with heap := s₂.heap, slotsUsed := s₂.slotsUsed } : State) = { U.setFrames U.frames with heap := s₂.heap, slotsUsed := s₂.slotsUsed }
      rw [State.setFrames_self ht]
    subst hg
    refine Or.inl ⟨v, ⟨(({ U with heap := s₂.heap, slotsUsed := s₂.slotsUsed } : State).setVm s₂.vm), Ls ++ L, c0 + mc, s0 + ms⟩,
      ⟨X.admits, X.cas, X.clock, X.frames, X.room, X.hears, X.method, X.code, (X.here.setHeapUsed s₂.heap s₂.slotsUsed).setVm hW'.alike, X.tail, State.WarmedH.trans X.warmed hW', X.limits, X.bytes, X.same.trans (hsame.setVm s.vm)⟩,
      ⟨g, mk, s₂, L, rfl, rfl, hqc, rfl, hL, rfl, rfl⟩, ?_⟩
    show Steps p.tables e below _ ((({ U with heap := s₂.heap, slotsUsed := s₂.slotsUsed } : State).setVm s₂.vm).setTop { g with pc := g.pc + len₂, stack := v.toList ++ g.stack })
    rw [← hs₂]
    exact hsteps
  · obtain ⟨e2, q2, q3, q4, q5, q6⟩ := id hsm
    have e3 : s₂ = ({ (U.calling g mk a).setFrames s₂.frames with heap := s₂.heap, slotsUsed := s₂.slotsUsed } : State).setVm s₂.vm := by
      have : s₂ = ({ s₂ with vm := (U.calling g mk a).vm } : State).setVm s₂.vm := rfl
      rw [e2] at this
      exact this
    have hf₂ : s₂.frames = .throwing q :: .java g :: U.frames.tail := hend
    have hW' : U.WarmedH s₂.vm := hW₂
    have hs₂ : s₂ = ((({ U with heap := s₂.heap, slotsUsed := s₂.slotsUsed } : State).setVm s₂.vm).setTop g).pushFrame (.throwing q) := by
      refine e3.trans ?_
      rw [hf₂, State.calling_eq h.top, State.setFrames_setFrames, State.pushFrame, State.frames_setTop _ hr', State.setTop_of_frames _ hr', State.setFrames_setFrames, hr]
      rfl
    have hsame : U.sameButNew ({ U with heap := s₂.heap, slotsUsed := s₂.slotsUsed } : State) L mc ms := by
      refine ⟨?_, q2, q3, q4, q5, q6⟩
      obtain ⟨t, ht, -⟩ := State.frames_cons hr
      show ({ U with heap := s₂.heap, slotsUsed := s₂.slotsUsed } : State) = { U.setFrames U.frames with heap := s₂.heap, slotsUsed := s₂.slotsUsed }
      rw [State.setFrames_self ht]
    subst hg
    refine Or.inr ⟨q, ⟨(({ U with heap := s₂.heap, slotsUsed := s₂.slotsUsed } : State).setVm s₂.vm), Ls ++ L, c0 + mc, s0 + ms⟩,
      ⟨X.admits, X.cas, X.clock, X.frames, X.room, X.hears, X.method, X.code, (X.here.setHeapUsed s₂.heap s₂.slotsUsed).setVm hW'.alike, X.tail, State.WarmedH.trans X.warmed hW', X.limits, X.bytes, X.same.trans (hsame.setVm s.vm)⟩,
      ⟨g, mk, s₂, L, E, ce, rfl, rfl, hx, hce, hcv, hcl, rfl, hL, rfl, rfl⟩, ?_⟩
    show Steps p.tables e below _ (((({ U with heap := s₂.heap, slotsUsed := s₂.slotsUsed } : State).setVm s₂.vm).setTop g).pushFrame (.throwing q))
    rw [← hs₂]
    exact hsteps
end Payer
section Calls
variable {p : Program} {l : Launch} {e : Env} {R : Room} {s : State} {m : MethodId} {args : Array Value} {below : List Frame} {meth : Method} {c : Code} {T : State} {locs : List Loc} {cells slots : Nat}
theorem vx_callV (X : Stand p l e R s m args below meth c T locs cells slots) (hexec : p.tables.exec = Jvm.exec) {own C : String} {index : Nat} {y : MethodName} {bytes : ByteArray} {maxL : Nat} {ret : Option FieldType}
    (hown : s.vm.findClass own = some m.cls) (hlink : (Cond.methodLink own index y).before args s = true) (hinst : (Cond.instanceMethod y).before args s = true) (hsel : (Cond.selects C y y).before args s = true)
    (hcode : (Cond.code y bytes maxL ret).before args s = true) (hy : y.cls ≠ "java/lang/invoke/MethodHandle" ∧ y.cls ≠ "java/lang/invoke/VarHandle")
    {W9 : Nat} {Pre : Pt → Array Value → Prop} {Post : Pt → Array Value → Option Value → Pt → Prop} {PostX : Pt → Array Value → Addr → Pt → Prop} (hK : vx_Back l R p e below s args y 3 W9 Pre Post PostX)
    {b : Addr} {cellB : Cell} (hcell : T.heap[b]? = some cellB) (hobj : cellB.vm.isStatics = false) (hcls : s.vm.findClass C = some cellB.cls)
    {g : JFrame} (hg : g.method = m) (hsize : g.locals.size = c.maxLocals) {argsL rest : List Value} (hlen : ∀ sig, parseMethodDescriptor y.desc = some sig → argsL.length = sig.parameters.length)
    (hstack : g.stack = argsL.reverse ++ .ref b :: rest) (hW : 2 * g.monitorRoom + (rest.map fun v => v.category).sum ≤ W9) (hdg : decode c.code g.pc = .ok (.invokevirtual index, 3))
    (hpre : ∀ vm₁, s.WarmedH vm₁ → Pre ⟨T.setVm vm₁, locs, cells, slots⟩ (Value.ref b :: argsL).toArray) :
    (∃ (v : Option Value) (vm₁ : Vm) (B : Pt), s.WarmedH vm₁ ∧ Stand p l e R s m args below meth c B.U B.locs B.cells B.slots ∧ Post ⟨T.setVm vm₁, locs, cells, slots⟩ (Value.ref b :: argsL).toArray v B ∧
      ∀ target, Steps p.tables e below (B.U.setTop { g with pc := g.pc + 3, stack := v.toList ++ rest }) target → Steps p.tables e below (T.setTop g) target) ∨
    (∃ (q : Addr) (vm₁ : Vm) (B : Pt), s.WarmedH vm₁ ∧ Stand p l e R s m args below meth c B.U B.locs B.cells B.slots ∧ PostX ⟨T.setVm vm₁, locs, cells, slots⟩ (Value.ref b :: argsL).toArray q B ∧
      Steps p.tables e below (T.setTop g) ((B.U.setTop { g with stack := rest }).pushFrame (.throwing q))) := by
  obtain ⟨mk, methM, hnamed, hmethM, hstM, habM⟩ := Cond.instanceMethod_spec hinst
  obtain ⟨methM', cM, hmethM', -, -, -, -, -, -, hsigM⟩ := Cond.code_spec hnamed hcode
  cases hmethM.symm.trans hmethM'
  obtain ⟨c2, r2, m2, q1, q2, q3, q4, kP, hkP, hkPi⟩ := Cond.selects_spec hsel
  cases hcls.symm.trans q1
  cases (State.methodFound?_of_named hnamed hy).symm.trans q2
  cases hnamed.symm.trans q3
  have hselP : selectMethod e.platform s.vm cellB.cls mk = .method mk := by rw [Launch.admits_selectMethod X.admits]; exact q4
  obtain ⟨vm₁, X₁, hstep₁⟩ := X.invokevirtual hexec hown hlink hnamed hmethM hstM hkP hkPi hy (a := b) (cell := cellB) hcell
    (fun z h => by rw [h] at hobj; cases hobj) hselP hmethM habM hkP hkPi (g := g) hg (argsL := argsL) (rest := rest) (hlen _ hsigM) hstack hdg
  rcases hK m meth c ⟨T.setVm vm₁, locs, cells, slots⟩ { g with stack := rest } (.invokevirtual index) mk (Value.ref b :: argsL).toArray X₁ hg hsize hdg hW (X₁.named hnamed) (hpre vm₁ X₁.warmed) with ⟨v, B, X', hpost, hsteps⟩ | ⟨q, B, X', hpost, hsteps⟩
  · exact Or.inl ⟨v, vm₁, B, X₁.warmed, X', hpost, fun target h => hstep₁ _ fun acts => by rw [doInvoke_state]; exact hsteps.trans h⟩
  · exact Or.inr ⟨q, vm₁, B, X₁.warmed, X', hpost, hstep₁ _ fun acts => by rw [doInvoke_state]; exact hsteps⟩
theorem vx_callS (X : Stand p l e R s m args below meth c T locs cells slots) (hexec : p.tables.exec = Jvm.exec) {own : String} {index : Nat} {y : MethodName} {bytes : ByteArray} {maxL : Nat} {ret : Option FieldType}
    (hown : s.vm.findClass own = some m.cls) (hlink : (Cond.methodLink own index y).before args s = true) (hstat : (Cond.static y).before args s = true) (hinit : (Cond.initialized y.cls).before args s = true)
    (hcode : (Cond.code y bytes maxL ret).before args s = true) (hy : y.cls ≠ "java/lang/invoke/MethodHandle" ∧ y.cls ≠ "java/lang/invoke/VarHandle")
    {W9 : Nat} {Pre : Pt → Array Value → Prop} {Post : Pt → Array Value → Option Value → Pt → Prop} {PostX : Pt → Array Value → Addr → Pt → Prop} (hK : vx_Back l R p e below s args y 3 W9 Pre Post PostX)
    {g : JFrame} (hg : g.method = m) (hsize : g.locals.size = c.maxLocals) {argsL rest : List Value} (hlen : ∀ sig, parseMethodDescriptor y.desc = some sig → argsL.length = sig.parameters.length)
    (hstack : g.stack = argsL.reverse ++ rest) (hW : 2 * g.monitorRoom + (rest.map fun v => v.category).sum ≤ W9) (hdg : decode c.code g.pc = .ok (.invokestatic index, 3))
    (hpre : ∀ vm₁, s.WarmedH vm₁ → Pre ⟨T.setVm vm₁, locs, cells, slots⟩ argsL.toArray) :
    (∃ (v : Option Value) (vm₁ : Vm) (B : Pt), s.WarmedH vm₁ ∧ Stand p l e R s m args below meth c B.U B.locs B.cells B.slots ∧ Post ⟨T.setVm vm₁, locs, cells, slots⟩ argsL.toArray v B ∧
      ∀ target, Steps p.tables e below (B.U.setTop { g with pc := g.pc + 3, stack := v.toList ++ rest }) target → Steps p.tables e below (T.setTop g) target) ∨
    (∃ (q : Addr) (vm₁ : Vm) (B : Pt), s.WarmedH vm₁ ∧ Stand p l e R s m args below meth c B.U B.locs B.cells B.slots ∧ PostX ⟨T.setVm vm₁, locs, cells, slots⟩ argsL.toArray q B ∧
      Steps p.tables e below (T.setTop g) ((B.U.setTop { g with stack := rest }).pushFrame (.throwing q))) := by
  obtain ⟨mk, hnamed⟩ := Cond.code_named hcode
  obtain ⟨methM, cM, hmethM, -, -, -, -, -, -, hsigM⟩ := Cond.code_spec hnamed hcode
  have hstatic : methM.isStatic = true := Cond.static_spec hnamed hmethM hstat
  obtain ⟨kP, hkP, -⟩ := className_of_methodNamed hnamed
  have hinitP : kP.init = .initialized := Cond.initialized_spec (findClass_of_methodNamed hnamed) hkP hinit
  obtain ⟨vm₁, X₁, hstep₁⟩ := X.invokestatic hexec hown hlink hnamed hmethM hstatic hkP hinitP hy (g := g) hg (argsL := argsL) (rest := rest) (hlen _ hsigM) hstack hdg
  rcases hK m meth c ⟨T.setVm vm₁, locs, cells, slots⟩ { g with stack := rest } (.invokestatic index) mk argsL.toArray X₁ hg hsize hdg hW (X₁.named hnamed) (hpre vm₁ X₁.warmed) with ⟨v, B, X', hpost, hsteps⟩ | ⟨q, B, X', hpost, hsteps⟩
  · exact Or.inl ⟨v, vm₁, B, X₁.warmed, X', hpost, fun target h => hstep₁ _ fun acts => by rw [doInvoke_state]; exact hsteps.trans h⟩
  · exact Or.inr ⟨q, vm₁, B, X₁.warmed, X', hpost, hstep₁ _ fun acts => by rw [doInvoke_state]; exact hsteps⟩
end Calls
theorem vx_cls {s : State} {T : State} {vm₁ : Vm} {E : String} {k : ClassId} (hW : s.WarmedH vm₁) (h : (T.setVm vm₁).vm.findClass E = some k) : s.vm.findClass E = some k := by
  have h1 : vm₁.findClass E = some k := h
  rw [hW.alike.findClass] at h1
  exact h1
/-- the method's frame g, with q thrown over it -/
def vx_W (p : Program) (l : Launch) (e : Env) (R : Room) (s : State) (m : MethodId) (args : Array Value) (below : List Frame) (meth : Method) (c : Code) (H : Heap) (locs : List Loc) (cells slots : Nat) (Q : State → Prop) (g : JFrame) (q : Addr) : Prop :=
  ∀ T : State, T.heap = H → Stand p l e R s m args below meth c T locs cells slots → ∃ t, Steps p.tables e below ((T.setTop g).pushFrame (.throwing q)) t ∧ Q t
def vx_Run (p : Program) (l : Launch) (e : Env) (R : Room) (s : State) (m : MethodId) (args : Array Value) (below : List Frame) (meth : Method) (c : Code) (H : Heap) (locs : List Loc) (cells slots mc ms : Nat) (g : JFrame) (rest : List Value) (Qa : State → Outcome → State → Prop) (XC : String → State → State → Prop) (free : Addr → Prop) : Prop :=
  ∀ T : State, T.heap = H → Stand p l e R s m args below meth c T locs cells slots →
    (∃ (v : Option Value) (st₀ t T' : State) (L : List Loc), st₀.heap = H ∧ Stand p l e R s m args below meth c T' (locs ++ L) (cells + mc) (slots + ms) ∧ (∀ q ∈ L, free q.base) ∧ T'.heap = t.heap ∧ T'.vm = t.vm ∧ Qa st₀ (.returned v) t ∧
      Goes p e below T g T' { g with pc := g.pc + 3, stack := v.toList ++ rest }) ∨
    (∃ (q : Addr) (st₀ t T' : State) (L : List Loc) (E : String) (ce : Cell), st₀.heap = H ∧ Stand p l e R s m args below meth c T' (locs ++ L) (cells + mc) (slots + ms) ∧ (∀ z ∈ L, free z.base) ∧ T'.heap = t.heap ∧ T'.vm = t.vm ∧ XC E st₀ t ∧ t.heap[q]? = some ce ∧ ce.vm = .none ∧ s.vm.findClass E = some ce.cls ∧
      Steps p.tables e below (T.setTop g) ((T'.setTop { g with stack := rest }).pushFrame (.throwing q)))
def vx_X {S : Type} (px : S → Prop) (B : String → S → State → Prop) (A : Nat → Prop) : String → State → State → Prop := fun E st t => ∃ u : S, px u ∧ B E u t ∧ va_F A st t
section Runs
variable {p : Program} {l : Launch} {e : Env} {R : Room} {s : State} {m : MethodId} {args : Array Value} {below : List Frame} {meth : Method} {c : Code} {H : Heap} {locs : List Loc} {cells slots : Nat}
variable {y : MethodName} {bytes cc : ByteArray} {maxL nL mc ms n index : Nat} {ret : Option FieldType} {ws : List Cond} {rm : Room} {Pc : Array Value → State → Prop} {Qc : Array Value → State → Outcome → State → Prop} {XC : String → State → State → Prop} {free : Addr → Prop} {Ts : List Cond} {own C : String} {b : Addr} {As rest : List Value} {g : JFrame}
theorem vx_callBack (cb : CallB R s args own index y bytes maxL ret ws rm mc ms n) (hM : vx_Met l y ws rm Pc Qc XC mc ms free) (hbl : FrameBlind Pc) : vx_Back l R p e below s args y 3 8 (PreOf R mc ms Pc) (PostOf Qc mc ms free) (vx_Post XC mc ms free) := by
  obtain ⟨hrc, hrs, hfr, hlo, hws, hcw, -, hini, -⟩ := cb
  exact vx_back (bytes := bytes) (maxL := maxL) (ret := ret) hM hbl hrc hrs hfr hlo hws hcw (fun a' U hW => word_at hW (Or.inl (by first | rfl | simp [Cond.onTables, Cond.keeps, Cond.steady])) hini)
theorem vx_runV (S : CallFix p m c cc nL s args Ts own) (hM : vx_Met l y ws rm Pc Qc XC mc ms free) (cw : CallW R s args own C index y bytes maxL ret ws rm mc ms n) (hp : PreV s H C b Pc As)
    (hg : g.method = m) (hn : As.length = n) (hsize : g.locals.size = nL) (hstack : g.stack = As.reverse ++ .ref b :: rest) (hW : 2 * g.monitorRoom + (rest.map fun v => v.category).sum ≤ 8) (hdg : decode cc g.pc = .ok (.invokevirtual index, 3)) (hf : cells + mc ≤ R.cells ∧ slots + ms ≤ R.slots) :
    vx_Run p l e R s m args below meth c H locs cells slots mc ms g rest (Qc (Value.ref b :: As).toArray) XC free := by
  have hK : vx_Back l R p e below s args y 3 8 (PreOf R mc ms Pc) (PostOf Qc mc ms free) (vx_Post XC mc ms free) := vx_callBack cw.1 hM hp.1
  obtain ⟨⟨-, -, -, -, -, -, hcode, -, hy, hlen, hl⟩, hin, hse⟩ := cw
  obtain ⟨hx, hb, hml, ho, -⟩ := S
  obtain ⟨-, ⟨cellB, hcB, hoB, hclB⟩, hPc⟩ := hp
  intro T hT X
  rcases vx_callV X hx (C := C) (bytes := bytes) (maxL := maxL) (ret := ret) ho hl hin hse hcode hy hK (by rw [hT]; exact hcB) hoB hclB hg (hsize.trans hml.symm) (argsL := As) (rest := rest) (fun sig h => hn.trans (hlen sig h)) hstack hW (by rw [hb]; exact hdg)
    (fun vm₁ hW₁ => ⟨hf.1, hf.2, hPc (T.setVm vm₁) hT hW₁⟩) with ⟨v, vm₁, ⟨U', l2, c2, s2⟩, hW₁, X', ⟨g', mk, t, L, e1, e2, hq, h1, hL, h2, h3⟩, st⟩ | ⟨q, vm₁, ⟨U', l2, c2, s2⟩, hW₁, X', ⟨g', mk, t, L, E, ce, e1, e2, hq, hce, hcv, hcl, h1, hL, h2, h3⟩, st⟩
  · dsimp only [Pt.U, Pt.locs, Pt.cells, Pt.slots] at X' e1 e2 h1 h2 h3 st
    subst h1; subst h2; subst h3
    exact Or.inl ⟨v, (T.setVm vm₁).calling g' mk (Value.ref b :: As).toArray, t, U', L, hT, X', hL, e1, e2, hq, st⟩
  · dsimp only [Pt.U, Pt.locs, Pt.cells, Pt.slots] at X' e1 e2 h1 h2 h3 st hcl
    subst h1; subst h2; subst h3
    exact Or.inr ⟨q, (T.setVm vm₁).calling g' mk (Value.ref b :: As).toArray, t, U', L, E, ce, hT, X', hL, e1, e2, hq, hce, hcv, vx_cls hW₁ hcl, st⟩
theorem vx_runS (S : CallFix p m c cc nL s args Ts own) (hM : vx_Met l y ws rm Pc Qc XC mc ms free) (cw : CallB R s args own index y bytes maxL ret ws rm mc ms n ∧ (Cond.static y).before args s = true) (hp : PreS s H Pc As)
    (hg : g.method = m) (hn : As.length = n) (hsize : g.locals.size = nL) (hstack : g.stack = As.reverse ++ rest) (hW : 2 * g.monitorRoom + (rest.map fun v => v.category).sum ≤ 8) (hdg : decode cc g.pc = .ok (.invokestatic index, 3)) (hf : cells + mc ≤ R.cells ∧ slots + ms ≤ R.slots) :
    vx_Run p l e R s m args below meth c H locs cells slots mc ms g rest (Qc As.toArray) XC free := by
  have hK : vx_Back l R p e below s args y 3 8 (PreOf R mc ms Pc) (PostOf Qc mc ms free) (vx_Post XC mc ms free) := vx_callBack cw.1 hM hp.1
  obtain ⟨⟨-, -, -, -, -, -, hcode, hini, hy, hlen, hl⟩, hstt⟩ := cw
  obtain ⟨hx, hb, hml, ho, -⟩ := S
  intro T hT X
  rcases vx_callS X hx (bytes := bytes) (maxL := maxL) (ret := ret) ho hl hstt hini hcode hy hK hg (hsize.trans hml.symm) (argsL := As) (rest := rest) (fun sig h => hn.trans (hlen sig h)) hstack hW (by rw [hb]; exact hdg)
    (fun vm₁ hW₁ => ⟨hf.1, hf.2, hp.2 (T.setVm vm₁) hT hW₁⟩) with ⟨v, vm₁, ⟨U', l2, c2, s2⟩, hW₁, X', ⟨g', mk, t, L, e1, e2, hq, h1, hL, h2, h3⟩, st⟩ | ⟨q, vm₁, ⟨U', l2, c2, s2⟩, hW₁, X', ⟨g', mk, t, L, E, ce, e1, e2, hq, hce, hcv, hcl, h1, hL, h2, h3⟩, st⟩
  · dsimp only [Pt.U, Pt.locs, Pt.cells, Pt.slots] at X' e1 e2 h1 h2 h3 st
    subst h1; subst h2; subst h3
    exact Or.inl ⟨v, (T.setVm vm₁).calling g' mk As.toArray, t, U', L, hT, X', hL, e1, e2, hq, st⟩
  · dsimp only [Pt.U, Pt.locs, Pt.cells, Pt.slots] at X' e1 e2 h1 h2 h3 st hcl
    subst h1; subst h2; subst h3
    exact Or.inr ⟨q, (T.setVm vm₁).calling g' mk As.toArray, t, U', L, E, ce, hT, X', hL, e1, e2, hq, hce, hcv, vx_cls hW₁ hcl, st⟩
end Runs
section Rows
variable {p : Program} {l : Launch} {e : Env} {R : Room} {s : State} {m : MethodId} {args : Array Value} {below : List Frame} {meth : Method} {c : Code} {H : Heap} {locs : List Loc} {cells slots : Nat} {Q : State → Prop}
variable {mc ms : Nat} {free : Addr → Prop} {A0 A1 : Nat → Prop} {H0 : Heap} {a : Array Value} {pc : Nat} {ls : Array Slot} {st0 rest : List Value}
theorem vx_keep {st₀ t T' : State} {L : List Loc} (h0 : st₀.heap = H) (e1 : T'.heap = t.heap) (hS : va_S A0 H0 H locs) (hA : ∀ q, q < H.size → A1 q → A0 q) (hf : ∀ q, free q → A0 q) (hL : ∀ q ∈ L, free q.base) (hF : va_F A1 st₀ t) :
    H.size ≤ T'.heap.size ∧ (∀ q : Nat, q < H.size → ¬ A1 q → T'.heap[q]? = H[q]?) ∧ va_S A0 H0 T'.heap (locs ++ L) := by
  obtain ⟨hz, hk⟩ := hF
  rw [h0] at hz hk
  exact ⟨by rw [e1]; exact hz, fun q h1 h2 => by rw [e1]; exact hk q h1 h2,
    ⟨Nat.le_trans hS.1 (by rw [e1]; exact hz), fun q h1 h2 => by rw [e1, hk q (Nat.lt_of_lt_of_le h1 hS.1) (fun z => h2 (hA q (Nat.lt_of_lt_of_le h1 hS.1) z))]; exact hS.2.1 q h1 h2, fun q hq => by
      rcases List.mem_append.mp hq with h | h
      · exact hS.2.2 q h
      · exact hf _ (hL q h)⟩⟩
theorem vx_calli {S SX : Type} {post : Int32 → S → Prop} {px : SX → Prop} {B : S → State → Prop} {BX : String → SX → State → Prop} {AX : Nat → Prop} (hr : vx_Run p l e R s m args below meth c H locs cells slots mc ms (F0 m pc ls st0) rest (va_Qi post B A1 a) (vx_X px BX AX) free) (hS : va_S A0 H0 H locs) (hA : ∀ q, q < H.size → A1 q → A0 q) (hf : ∀ q, free q → A0 q) (hAX : ∀ q, q < H.size → AX q → A0 q)
    (kx : ∀ (E : String) (ce : Cell) (q9 : Addr) (u : SX) (t : State) (H1 : Heap) (locs1 : List Loc), t.heap = H1 → s.vm.Alike t.vm → px u → BX E u t → H.size ≤ H1.size → (∀ q : Nat, q < H.size → ¬ AX q → H1[q]? = H[q]?) → va_S A0 H0 H1 locs1 → H1[q9]? = some ce → ce.vm = .none → s.vm.findClass E = some ce.cls → vx_W p l e R s m args below meth c H1 locs1 (cells + mc) (slots + ms) Q (F0 m pc ls rest) q9)
    (kk : ∀ (r : Int32) (u : S) (t : State) (H1 : Heap) (locs1 : List Loc), t.heap = H1 → s.vm.Alike t.vm → post r u → B u t → H.size ≤ H1.size → (∀ q : Nat, q < H.size → ¬ A1 q → H1[q]? = H[q]?) → va_S A0 H0 H1 locs1 → W p l e R s m args below meth c H1 locs1 (cells + mc) (slots + ms) Q (F0 m (pc + 3) ls (.int r :: rest))) : W p l e R s m args below meth c H locs cells slots Q (F0 m pc ls st0) := by
  intro T hT X
  rcases hr T hT X with ⟨v, st₀, t, T', L, h0, X', hL, e1, e2, ⟨⟨r, u, hv, hp, hb⟩, hF⟩, st⟩ | ⟨q, st₀, t, T', L, E, ce, h0, X', hL, e1, e2, ⟨u, hp, hb, hF⟩, hce, hcv, hcl, st⟩
  · cases hv
    obtain ⟨k1, k2, k3⟩ := vx_keep h0 e1 hS hA hf hL hF
    obtain ⟨t2, a1, b1⟩ := kk r u t T'.heap (locs ++ L) e1.symm (by rw [← e2]; exact X'.warmed.alike) hp hb k1 k2 k3 T' rfl X'
    exact ⟨t2, st t2 a1, b1⟩
  · obtain ⟨k1, k2, k3⟩ := vx_keep h0 e1 hS hAX hf hL hF
    obtain ⟨t2, a1, b1⟩ := kx E ce q u t T'.heap (locs ++ L) e1.symm (by rw [← e2]; exact X'.warmed.alike) hp hb k1 k2 k3 (by rw [e1]; exact hce) hcv hcl T' rfl X'
    exact ⟨t2, st.trans a1, b1⟩
theorem vx_calll {S SX : Type} {post : Int64 → S → Prop} {px : SX → Prop} {B : S → State → Prop} {BX : String → SX → State → Prop} {AX : Nat → Prop} (hr : vx_Run p l e R s m args below meth c H locs cells slots mc ms (F0 m pc ls st0) rest (va_Ql post B A1 a) (vx_X px BX AX) free) (hS : va_S A0 H0 H locs) (hA : ∀ q, q < H.size → A1 q → A0 q) (hf : ∀ q, free q → A0 q) (hAX : ∀ q, q < H.size → AX q → A0 q)
    (kx : ∀ (E : String) (ce : Cell) (q9 : Addr) (u : SX) (t : State) (H1 : Heap) (locs1 : List Loc), t.heap = H1 → s.vm.Alike t.vm → px u → BX E u t → H.size ≤ H1.size → (∀ q : Nat, q < H.size → ¬ AX q → H1[q]? = H[q]?) → va_S A0 H0 H1 locs1 → H1[q9]? = some ce → ce.vm = .none → s.vm.findClass E = some ce.cls → vx_W p l e R s m args below meth c H1 locs1 (cells + mc) (slots + ms) Q (F0 m pc ls rest) q9)
    (kk : ∀ (r : Int64) (u : S) (t : State) (H1 : Heap) (locs1 : List Loc), t.heap = H1 → s.vm.Alike t.vm → post r u → B u t → H.size ≤ H1.size → (∀ q : Nat, q < H.size → ¬ A1 q → H1[q]? = H[q]?) → va_S A0 H0 H1 locs1 → W p l e R s m args below meth c H1 locs1 (cells + mc) (slots + ms) Q (F0 m (pc + 3) ls (.long r :: rest))) : W p l e R s m args below meth c H locs cells slots Q (F0 m pc ls st0) := by
  intro T hT X
  rcases hr T hT X with ⟨v, st₀, t, T', L, h0, X', hL, e1, e2, ⟨⟨r, u, hv, hp, hb⟩, hF⟩, st⟩ | ⟨q, st₀, t, T', L, E, ce, h0, X', hL, e1, e2, ⟨u, hp, hb, hF⟩, hce, hcv, hcl, st⟩
  · cases hv
    obtain ⟨k1, k2, k3⟩ := vx_keep h0 e1 hS hA hf hL hF
    obtain ⟨t2, a1, b1⟩ := kk r u t T'.heap (locs ++ L) e1.symm (by rw [← e2]; exact X'.warmed.alike) hp hb k1 k2 k3 T' rfl X'
    exact ⟨t2, st t2 a1, b1⟩
  · obtain ⟨k1, k2, k3⟩ := vx_keep h0 e1 hS hAX hf hL hF
    obtain ⟨t2, a1, b1⟩ := kx E ce q u t T'.heap (locs ++ L) e1.symm (by rw [← e2]; exact X'.warmed.alike) hp hb k1 k2 k3 (by rw [e1]; exact hce) hcv hcl T' rfl X'
    exact ⟨t2, st.trans a1, b1⟩
theorem vx_callf {S SX : Type} {post : UInt32 → S → Prop} {px : SX → Prop} {B : S → State → Prop} {BX : String → SX → State → Prop} {AX : Nat → Prop} (hr : vx_Run p l e R s m args below meth c H locs cells slots mc ms (F0 m pc ls st0) rest (va_Qf post B A1 a) (vx_X px BX AX) free) (hS : va_S A0 H0 H locs) (hA : ∀ q, q < H.size → A1 q → A0 q) (hf : ∀ q, free q → A0 q) (hAX : ∀ q, q < H.size → AX q → A0 q)
    (kx : ∀ (E : String) (ce : Cell) (q9 : Addr) (u : SX) (t : State) (H1 : Heap) (locs1 : List Loc), t.heap = H1 → s.vm.Alike t.vm → px u → BX E u t → H.size ≤ H1.size → (∀ q : Nat, q < H.size → ¬ AX q → H1[q]? = H[q]?) → va_S A0 H0 H1 locs1 → H1[q9]? = some ce → ce.vm = .none → s.vm.findClass E = some ce.cls → vx_W p l e R s m args below meth c H1 locs1 (cells + mc) (slots + ms) Q (F0 m pc ls rest) q9)
    (kk : ∀ (r : UInt32) (u : S) (t : State) (H1 : Heap) (locs1 : List Loc), t.heap = H1 → s.vm.Alike t.vm → post r u → B u t → H.size ≤ H1.size → (∀ q : Nat, q < H.size → ¬ A1 q → H1[q]? = H[q]?) → va_S A0 H0 H1 locs1 → W p l e R s m args below meth c H1 locs1 (cells + mc) (slots + ms) Q (F0 m (pc + 3) ls (.float r :: rest))) : W p l e R s m args below meth c H locs cells slots Q (F0 m pc ls st0) := by
  intro T hT X
  rcases hr T hT X with ⟨v, st₀, t, T', L, h0, X', hL, e1, e2, ⟨⟨r, u, hv, hp, hb⟩, hF⟩, st⟩ | ⟨q, st₀, t, T', L, E, ce, h0, X', hL, e1, e2, ⟨u, hp, hb, hF⟩, hce, hcv, hcl, st⟩
  · cases hv
    obtain ⟨k1, k2, k3⟩ := vx_keep h0 e1 hS hA hf hL hF
    obtain ⟨t2, a1, b1⟩ := kk r u t T'.heap (locs ++ L) e1.symm (by rw [← e2]; exact X'.warmed.alike) hp hb k1 k2 k3 T' rfl X'
    exact ⟨t2, st t2 a1, b1⟩
  · obtain ⟨k1, k2, k3⟩ := vx_keep h0 e1 hS hAX hf hL hF
    obtain ⟨t2, a1, b1⟩ := kx E ce q u t T'.heap (locs ++ L) e1.symm (by rw [← e2]; exact X'.warmed.alike) hp hb k1 k2 k3 (by rw [e1]; exact hce) hcv hcl T' rfl X'
    exact ⟨t2, st.trans a1, b1⟩
theorem vx_calld {S SX : Type} {post : UInt64 → S → Prop} {px : SX → Prop} {B : S → State → Prop} {BX : String → SX → State → Prop} {AX : Nat → Prop} (hr : vx_Run p l e R s m args below meth c H locs cells slots mc ms (F0 m pc ls st0) rest (va_Qd post B A1 a) (vx_X px BX AX) free) (hS : va_S A0 H0 H locs) (hA : ∀ q, q < H.size → A1 q → A0 q) (hf : ∀ q, free q → A0 q) (hAX : ∀ q, q < H.size → AX q → A0 q)
    (kx : ∀ (E : String) (ce : Cell) (q9 : Addr) (u : SX) (t : State) (H1 : Heap) (locs1 : List Loc), t.heap = H1 → s.vm.Alike t.vm → px u → BX E u t → H.size ≤ H1.size → (∀ q : Nat, q < H.size → ¬ AX q → H1[q]? = H[q]?) → va_S A0 H0 H1 locs1 → H1[q9]? = some ce → ce.vm = .none → s.vm.findClass E = some ce.cls → vx_W p l e R s m args below meth c H1 locs1 (cells + mc) (slots + ms) Q (F0 m pc ls rest) q9)
    (kk : ∀ (r : UInt64) (u : S) (t : State) (H1 : Heap) (locs1 : List Loc), t.heap = H1 → s.vm.Alike t.vm → post r u → B u t → H.size ≤ H1.size → (∀ q : Nat, q < H.size → ¬ A1 q → H1[q]? = H[q]?) → va_S A0 H0 H1 locs1 → W p l e R s m args below meth c H1 locs1 (cells + mc) (slots + ms) Q (F0 m (pc + 3) ls (.double r :: rest))) : W p l e R s m args below meth c H locs cells slots Q (F0 m pc ls st0) := by
  intro T hT X
  rcases hr T hT X with ⟨v, st₀, t, T', L, h0, X', hL, e1, e2, ⟨⟨r, u, hv, hp, hb⟩, hF⟩, st⟩ | ⟨q, st₀, t, T', L, E, ce, h0, X', hL, e1, e2, ⟨u, hp, hb, hF⟩, hce, hcv, hcl, st⟩
  · cases hv
    obtain ⟨k1, k2, k3⟩ := vx_keep h0 e1 hS hA hf hL hF
    obtain ⟨t2, a1, b1⟩ := kk r u t T'.heap (locs ++ L) e1.symm (by rw [← e2]; exact X'.warmed.alike) hp hb k1 k2 k3 T' rfl X'
    exact ⟨t2, st t2 a1, b1⟩
  · obtain ⟨k1, k2, k3⟩ := vx_keep h0 e1 hS hAX hf hL hF
    obtain ⟨t2, a1, b1⟩ := kx E ce q u t T'.heap (locs ++ L) e1.symm (by rw [← e2]; exact X'.warmed.alike) hp hb k1 k2 k3 (by rw [e1]; exact hce) hcv hcl T' rfl X'
    exact ⟨t2, st.trans a1, b1⟩
theorem vx_callv {S SX : Type} {post : S → Prop} {px : SX → Prop} {B : S → State → Prop} {BX : String → SX → State → Prop} {AX : Nat → Prop} (hr : vx_Run p l e R s m args below meth c H locs cells slots mc ms (F0 m pc ls st0) rest (va_Qv post B A1 a) (vx_X px BX AX) free) (hS : va_S A0 H0 H locs) (hA : ∀ q, q < H.size → A1 q → A0 q) (hf : ∀ q, free q → A0 q) (hAX : ∀ q, q < H.size → AX q → A0 q)
    (kx : ∀ (E : String) (ce : Cell) (q9 : Addr) (u : SX) (t : State) (H1 : Heap) (locs1 : List Loc), t.heap = H1 → s.vm.Alike t.vm → px u → BX E u t → H.size ≤ H1.size → (∀ q : Nat, q < H.size → ¬ AX q → H1[q]? = H[q]?) → va_S A0 H0 H1 locs1 → H1[q9]? = some ce → ce.vm = .none → s.vm.findClass E = some ce.cls → vx_W p l e R s m args below meth c H1 locs1 (cells + mc) (slots + ms) Q (F0 m pc ls rest) q9)
    (kk : ∀ (u : S) (t : State) (H1 : Heap) (locs1 : List Loc), t.heap = H1 → s.vm.Alike t.vm → post u → B u t → H.size ≤ H1.size → (∀ q : Nat, q < H.size → ¬ A1 q → H1[q]? = H[q]?) → va_S A0 H0 H1 locs1 → W p l e R s m args below meth c H1 locs1 (cells + mc) (slots + ms) Q (F0 m (pc + 3) ls (rest))) : W p l e R s m args below meth c H locs cells slots Q (F0 m pc ls st0) := by
  intro T hT X
  rcases hr T hT X with ⟨v, st₀, t, T', L, h0, X', hL, e1, e2, ⟨⟨u, hv, hp, hb⟩, hF⟩, st⟩ | ⟨q, st₀, t, T', L, E, ce, h0, X', hL, e1, e2, ⟨u, hp, hb, hF⟩, hce, hcv, hcl, st⟩
  · cases hv
    obtain ⟨k1, k2, k3⟩ := vx_keep h0 e1 hS hA hf hL hF
    obtain ⟨t2, a1, b1⟩ := kk u t T'.heap (locs ++ L) e1.symm (by rw [← e2]; exact X'.warmed.alike) hp hb k1 k2 k3 T' rfl X'
    exact ⟨t2, st t2 a1, b1⟩
  · obtain ⟨k1, k2, k3⟩ := vx_keep h0 e1 hS hAX hf hL hF
    obtain ⟨t2, a1, b1⟩ := kx E ce q u t T'.heap (locs ++ L) e1.symm (by rw [← e2]; exact X'.warmed.alike) hp hb k1 k2 k3 (by rw [e1]; exact hce) hcv hcl T' rfl X'
    exact ⟨t2, st.trans a1, b1⟩
/-- caught by the row x of this method's table; the rows ahead don't take it -/
theorem vx_catch {own name : String} {E : String} {ce : Cell} {q : Addr} (hown : s.vm.findClass own = some m.cls) (pre : List ExceptionTableEntry) (x : ExceptionTableEntry) (suf : List ExceptionTableEntry) (hsplit : c.exceptionTable.toList = pre ++ x :: suf)
    (hpass : ∀ z ∈ pre, covers z pc = false ∨ (z.catchType ≠ 0 ∧ ∃ nm : String, (Cond.classLink own z.catchType nm).before args s = true ∧ va_Nc E nm s)) (hx : covers x pc = true) (h0 : x.catchType ≠ 0)
    (hlink : (Cond.classLink own x.catchType name).before args s = true) (hcast : (Cond.castable E name).before args s = true) (hcell : H[q]? = some ce) (hv : ce.vm = .none) (hcl : s.vm.findClass E = some ce.cls)
    (kk : W p l e R s m args below meth c H locs cells slots Q (F0 m x.handlerPc ls [.ref q])) : vx_W p l e R s m args below meth c H locs cells slots Q (F0 m pc ls rest) q := by
  intro T hT X
  have hpl : e.platform.magicAccessors = ({} : Platform).magicAccessors := by rw [X.admits.platform]
  obtain ⟨c3, c4, hc3, hc4, hasg⟩ := Cond.castable_spec hcast
  cases Option.some.inj (hc3.symm.trans hcl)
  obtain ⟨c5, hc5, hcl5⟩ := Cond.classLink_spec hown hlink e.platform hpl
  cases Option.some.inj (hc4.symm.trans hc5)
  obtain ⟨vm', X', st⟩ := X.thenCaughtThrough q (g := F0 m pc ls rest) rfl (Steps.refl _) (by rw [hT]; exact hcell) (by rw [hv]; rfl) (by obtain ⟨k9, h9, -⟩ := Vm.findClass_spec hcl; exact ⟨k9, h9⟩) pre x suf hsplit
    (fun z hz => by
      rcases hpass z hz with h | ⟨hz0, nm, hl1, hn1⟩
      · exact Or.inl h
      · obtain ⟨c6, hc6, hcl6⟩ := Cond.classLink_spec hown hl1 e.platform hpl
        obtain ⟨a8, b8, h1, h2, h3⟩ := hn1
        cases Option.some.inj (h1.symm.trans hcl)
        cases Option.some.inj (h2.symm.trans hc6)
        exact Or.inr ⟨hz0, _, hcl6, h3⟩) hx (Or.inr ⟨h0, c4, hcl5, hasg⟩)
  obtain ⟨t, a1, b1⟩ := kk (T.setVm vm') hT X'
  exact ⟨t, st.trans a1, b1⟩
end Rows
section Ends
variable {p : Program} {l : Launch} {e : Env} {R : Room} {s : State} {m : MethodId} {args : Array Value} {below : List Frame} {meth : Method} {c : Code} {H : Heap} {locs : List Loc} {cells slots : Nat} {Q : State → Prop}
variable {mc ms : Nat} {free : Addr → Prop} {A0 A1 : Nat → Prop} {H0 : Heap} {a : Array Value} {ls : Array Slot} {st0 rest : List Value}
variable {Qc : Array Value → State → Outcome → State → Prop} {XC : String → State → State → Prop}
/-- what a body that may throw owes at its end -/
def vx_MQ (below : List Frame) (Qc : Array Value → State → Outcome → State → Prop) (XC : String → State → State → Prop) (a : Array Value) (s : State) (mc ms : Nat) (free : Addr → Prop) : State → Prop := fun t =>
  ∃ o, t.status = .running ∧ Ended t below o ∧ vx_Q Qc XC mc ms free a s o t
theorem vx_ret {g : JFrame} {mc ms : Nat} (k : W p l e R s m args below meth c H locs cells slots (MQ below Qc args s mc ms free) g) : W p l e R s m args below meth c H locs cells slots (vx_MQ below Qc XC args s mc ms free) g := by
  intro T hT X
  obtain ⟨t, a1, o, b1, b2, b3, b4⟩ := k T hT X
  exact ⟨t, a1, o, b1, b2, Or.inl ⟨b3, b4⟩⟩
/-- not caught here: it goes on to the caller -/
theorem vx_widen {g : JFrame} {q : Addr} {k n : Nat} (h1 : cells ≤ k) (h2 : slots ≤ n) (kk : vx_W p l e R s m args below meth c H locs k n Q g q) : vx_W p l e R s m args below meth c H locs cells slots Q g q := fun T hT X => kk T hT (stand_widen X h1 h2)
theorem vx_out {pc : Nat} {E : String} {ce : Cell} {q : Addr} {mc ms : Nat} (hout : ∀ x ∈ c.exceptionTable.toList, covers x pc = false) (hlocks : meth.locks = false) (hcell : H[q]? = some ce) (hv : ce.vm = .none) (hcl : s.vm.findClass E = some ce.cls)
    (hx : ∀ t : State, t.heap = H → s.vm.Alike t.vm → XC E s t) (hf : ∀ z ∈ locs, free z.base) (hc : cells ≤ mc) (hs : slots ≤ ms) :
    vx_W p l e R s m args below meth c H locs cells slots (vx_MQ below Qc XC args s mc ms free) (F0 m pc ls rest) q := by
  intro T hT X
  obtain ⟨st1, hrun, hend, hW, hsm⟩ := X.leaveThrown q (g := F0 m pc ls rest) rfl rfl rfl hout hlocks
  have hcell9 : (T.setFrames (.throwing q :: below)).heap[q]? = some ce := by
    show T.heap[q]? = some ce
    rw [hT]; exact hcell
  exact ⟨_, st1, .threw q, hrun, hend, Or.inr ⟨q, rfl, E, ce, locs, hx _ hT hW.alike, hcell9, hv, hcl, hW, hsm.mono hc hs, hf⟩⟩
theorem vx_frame {U : State} {k n : Nat} (h : s.sameButNew ({ U with vm := s.vm } : State) locs k n) : s.heap.size ≤ U.heap.size ∧ ∀ q : Nat, q < s.heap.size → (∀ z ∈ locs, z.base ≠ q) → U.heap[q]? = s.heap[q]? := by
  obtain ⟨-, h2, -, -, -, h6⟩ := h
  refine ⟨h2, fun q hq hz => ?_⟩
  obtain ⟨c9, e1, e2, e3, e4⟩ := h6 q _ (Array.getElem?_eq_getElem hq)
  have hs : c9.slots = (s.heap[q]).slots := Array.ext_getElem? fun i => e4 i fun hm => hz _ hm rfl
  have h9 : c9 = s.heap[q] := by
    rw [hs] at e2
    exact e2
  have e5 : U.heap[q]? = some c9 := e1
  rw [e5, h9, Array.getElem?_eq_getElem hq]
/-- the words of a throw but the four that speak of the heap -/
def vx_no (w : Cond) : Bool := decide (w ≠ .isRef (.static Bundle.tN "UNASSIGNED_STACK" Bundle.steD)) && decide (w ≠ .isRef (.static Bundle.tN "SUPPRESSED_SENTINEL" Bundle.listD)) && decide (w ≠ .laysStatic Bundle.tN "UNASSIGNED_STACK" Bundle.steD) && decide (w ≠ .laysStatic Bundle.tN "SUPPRESSED_SENTINEL" Bundle.listD)
def vx_at0 (own : String) (ic : Nat) (X : String) (names : List String) : List Cond := (Bundle.ownAtoms0 own ic X names).filter vx_no
def vx_atS (own : String) (ic : Nat) (X : String) (names : List String) : List Cond := (Bundle.ownAtoms own ic X names).filter vx_no
/-- a word that the tables alone decide, or a good one -/
def vx_ot (w : Cond) : Bool := w.onTables || goodWord w
theorem vx_ot_at {args a' : Array Value} {s U : State} {w : Cond} (hW : s.WarmedH U.vm) (hvm : s.vm = U.vm) (hg : vx_ot w = true) (h : w.before args s = true) : w.before a' U = true := by
  simp only [vx_ot, Bool.or_eq_true] at hg
  rcases hg with hg | hg
  · exact va_tabs hg hvm h
  · exact word_at hW (good_of_word hg) h
/-- a list's words: the good ones out of the method's own list, the others by premises of their own -/
theorem vx_hat {args : Array Value} {s : State} {L B : List Cond} (h1 : ∀ w ∈ L.filter goodWord, w.before args s = true) (h2 : ∀ w ∈ L.filter (fun w => !goodWord w), w ∈ B) (h3 : ∀ w ∈ B, w.before args s = true) : ∀ w ∈ L, w.before args s = true := by
  intro w hw
  by_cases g : goodWord w = true
  · exact h1 w (List.mem_filter.mpr ⟨hw, g⟩)
  · refine h3 w (h2 w (List.mem_filter.mpr ⟨hw, ?_⟩))
    show (!goodWord w) = true
    cases hgw : goodWord w
    · rfl
    · exact absurd hgw g
theorem vx_c {args : Array Value} {s : State} {w : Cond} {B : List Cond} (h : w.before args s = true) (t : ∀ w ∈ B, w.before args s = true) : ∀ w' ∈ w :: B, w'.before args s = true := fun w' h' => (List.mem_cons.mp h').elim (fun e => by rw [e]; exact h) (t w')
theorem vx_n {args : Array Value} {s : State} : ∀ w ∈ ([] : List Cond), w.before args s = true := fun _ h => nomatch h
theorem vx_own {args : Array Value} {s : State} {L : List Cond} (h1 : ∀ w ∈ L.filter vx_no, w.before args s = true)
    (hU : (Cond.isRef (.static Bundle.tN "UNASSIGNED_STACK" Bundle.steD)).before args s = true) (hN : (Cond.isRef (.static Bundle.tN "SUPPRESSED_SENTINEL" Bundle.listD)).before args s = true)
    (lU : (Cond.laysStatic Bundle.tN "UNASSIGNED_STACK" Bundle.steD).before args s = true) (lN : (Cond.laysStatic Bundle.tN "SUPPRESSED_SENTINEL" Bundle.listD).before args s = true) : ∀ w ∈ L, w.before args s = true := by
  intro w hw
  by_cases e1 : w = .isRef (.static Bundle.tN "UNASSIGNED_STACK" Bundle.steD)
  · rw [e1]; exact hU
  · by_cases e2 : w = .isRef (.static Bundle.tN "SUPPRESSED_SENTINEL" Bundle.listD)
    · rw [e2]; exact hN
    · by_cases e3 : w = .laysStatic Bundle.tN "UNASSIGNED_STACK" Bundle.steD
      · rw [e3]; exact lU
      · by_cases e4 : w = .laysStatic Bundle.tN "SUPPRESSED_SENTINEL" Bundle.listD
        · rw [e4]; exact lN
        · exact h1 w (List.mem_filter.mpr ⟨hw, by unfold vx_no; rw [decide_eq_true e1, decide_eq_true e2, decide_eq_true e3, decide_eq_true e4]; rfl⟩)
/-- where a static field lies, its class's statics cell in H -/
def vx_L (C n d : String) (A : Nat → Prop) (U : State) (H : Heap) : Prop := ∃ (c : ClassId) (k : Class) (i : Nat) (f : Field) (a : Nat) (cell : Cell), U.vm.findClass C = some c ∧ U.fieldFound? C n d = some (c, k, i, f) ∧ f.isStatic = true ∧ k.statics = some a ∧ H[a]? = some cell ∧ cell.vm.isStatics = true ∧ cell.cls = c ∧ f.slot < cell.slots.size ∧ k.staticTypes[f.slot]? = some f.type ∧ ¬ A a
theorem vx_L.moved {C n d : String} {A : Nat → Prop} {u U : State} {H : Heap} (hvm : u.vm.Alike U.vm) (h : vx_L C n d A u H) : vx_L C n d A U H := by
  obtain ⟨c, k, i, f, a, cell, h1, h2, h3, h4, h5, h6, h7, h8, h9, h10⟩ := h
  obtain ⟨k', hi', he⟩ := State.fieldFound?_setVm hvm h2
  exact ⟨c, k', i, f, a, cell, by rw [hvm.findClass]; exact h1, hi', h3, by rw [he]; exact h4, h5, h6, h7, h8, by rw [he]; exact h9, h10⟩
theorem vx_L.kept {C n d : String} {A : Nat → Prop} {U : State} {H H1 : Heap} (h : vx_L C n d A U H) (hq : ∀ a : Nat, a < H.size → ¬ A a → H1[a]? = H[a]?) : vx_L C n d A U H1 := by
  obtain ⟨c, k, i, f, a, cell, h1, h2, h3, h4, h5, h6, h7, h8, h9, h10⟩ := h
  exact ⟨c, k, i, f, a, cell, h1, h2, h3, h4, by rw [hq a (Array.getElem?_eq_some_iff.mp h5).1 h10]; exact h5, h6, h7, h8, h9, h10⟩
theorem vx_L.narrow {C n d : String} {A B : Nat → Prop} {U : State} {H : Heap} (h : vx_L C n d A U H) (hAB : ∀ q, B q → A q) : vx_L C n d B U H := by
  obtain ⟨c, k, i, f, a, cell, h1, h2, h3, h4, h5, h6, h7, h8, h9, h10⟩ := h
  exact ⟨c, k, i, f, a, cell, h1, h2, h3, h4, h5, h6, h7, h8, h9, fun z => h10 (hAB _ z)⟩
theorem vx_L.word {C n d : String} {A : Nat → Prop} {s : State} {args : Array Value} (h : vx_L C n d A s s.heap) : (Cond.laysStatic C n d).before args s = true := by
  obtain ⟨c, k, i, f, a, cell, h1, h2, h3, h4, h5, h6, h7, h8, h9, -⟩ := h
  show (Cond.laysStatic C n d).holds args s none s [] = true
  exact Cond.laysStatic_of h1 h2 h3 h4 h5 h6 h7 h8 h9
/-- .. and what it holds: null or some reference -/
def vx_Zq (C n d : String) (A : Nat → Prop) (U : State) (H : Heap) : Prop := va_Zq C n d A U H ∧ vx_L C n d A U H
theorem vx_Zq.moved {C n d : String} {A : Nat → Prop} {u U : State} {H : Heap} (hvm : u.vm.Alike U.vm) (h : vx_Zq C n d A u H) : vx_Zq C n d A U H := ⟨va_Zq.moved hvm h.1, vx_L.moved hvm h.2⟩
theorem vx_Zq.kept {C n d : String} {A : Nat → Prop} {U : State} {H H1 : Heap} (h : vx_Zq C n d A U H) (hq : ∀ a : Nat, a < H.size → ¬ A a → H1[a]? = H[a]?) : vx_Zq C n d A U H1 := ⟨va_Zq.kept h.1 hq, vx_L.kept h.2 hq⟩
theorem vx_Zq.narrow {C n d : String} {A B : Nat → Prop} {U : State} {H : Heap} (h : vx_Zq C n d A U H) (hAB : ∀ q, B q → A q) : vx_Zq C n d B U H := ⟨va_Zq.narrow h.1 hAB, vx_L.narrow h.2 hAB⟩
theorem vx_Zqof {args : Array Value} {s : State} {C n d : String} {A : Nat → Prop} (hl : (Cond.laysStatic C n d).before args s = true) (hini : (Cond.initialized C).before args s = true) (h : (Cond.isRef (.static C n d)).before args s = true) (hA : ∀ a : Nat, a < s.heap.size → ¬ A a) : vx_Zq C n d A s s.heap := by
  refine ⟨va_Zqof hl hini h hA, ?_⟩
  obtain ⟨c, k, i, f, a, cell, h1, h2, h3, h4, h5, h6, h7, h8, h9⟩ := Cond.laysStatic_spec hl
  exact ⟨c, k, i, f, a, cell, h1, h2, h3, h4, h5, h6, h7, h8, h9, hA a (Array.getElem?_eq_some_iff.mp h5).1⟩
theorem vx_isRef {C n d : String} {v : Value} {A : Nat → Prop} {s : State} {args : Array Value} (h : va_Z C n d v A s s.heap) (hv : v.isRef = true) : (Cond.isRef (.static C n d)).before args s = true := by
  obtain ⟨cf, kf, fi, f, a, cell, h1, h2, h3, h4, h5, h6, h7, -⟩ := h
  have he : (Term.static C n d).eval args s none [] s = some v := by
    simp [Term.eval, State.fieldNamed?, h1, h2, h4, h5, h6, h7]
  simp only [Cond.before, Cond.holds, Cond.value, he]
  cases v <;> simp_all [Value.isRef]
theorem vx_isRefq {C n d : String} {A : Nat → Prop} {s : State} {args : Array Value} (h : va_Zq C n d A s s.heap) : (Cond.isRef (.static C n d)).before args s = true := by
  rcases h with h | ⟨t, h⟩
  · exact vx_isRef h rfl
  · exact vx_isRef h rfl
/-- the same frame, seen from here: as if the method were called anew in this heap -/
theorem vx_rebase {T : State} (X : Stand p l e R s m args below meth c T locs cells slots) {R' : Room} (hf : R'.frames ≤ R.frames) (hl : R'.locals ≤ R.locals) (hc : cells + R'.cells ≤ R.cells) (hs : slots + R'.slots ≤ R.slots) :
    Stand p l e R' ((T.setVm s.vm).setFrames (.invoking m args :: below)) m args below meth c T [] 0 0 := by
  have htop : (T.setVm s.vm).topJava?.isSome := X.here.top
  have hF : ((T.setVm s.vm).setFrames (.invoking m args :: below)).frames = .invoking m args :: below := State.frames_setFrames _ (State.cur_lt_of_top htop)
  obtain ⟨g₀, hg0⟩ := Option.isSome_iff_exists.mp htop
  obtain ⟨r, hr⟩ := State.topJava?_eq_some.mp hg0
  have hl9 : e.platform.stackLimits (T.setVm s.vm).me = e.platform.stackLimits s.me := X.limits
  have hb9 : (T.setVm s.vm).me.stackBytes = s.me.stackBytes := X.bytes
  refine ⟨X.admits, X.cas, X.clock, hF, ?_, X.hears, X.method, X.code, X.here, X.tail, X.warmed, ?_, ?_, ?_⟩
  · have h := X.room
    have hU : ((T.setVm s.vm).setFrames (.invoking m args :: below)).localsInUse = s.localsInUse := by
      rw [State.localsInUse_invoking hF (meth := meth) (c := c) X.method X.code, State.localsInUse_invoking X.frames X.method X.code]
    simp only [State.hasRoom, Bool.and_eq_true, decide_eq_true_eq] at h ⊢
    obtain ⟨⟨⟨⟨h1, h2, h3, h4, h5, h6⟩, h7⟩, h8⟩, h9⟩ := h
    rw [X.frames, List.length_cons] at h2 h3
    have q1 := X.heapSize
    have q2 := X.used
    simp only [hF, hU, List.length_cons, State.stackLimits_setFrames, State.stackBytes_setFrames, hl9, hb9]
    refine ⟨⟨⟨⟨by omega, by omega, by omega, by omega, by omega, h6⟩, ?_⟩, ?_⟩, X.book⟩
    · show T.heap.size + R'.cells ≤ e.platform.maxCells
      omega
    · show T.slotsUsed + R'.slots ≤ e.platform.maxSlots
      omega
  · rw [State.stackLimits_setFrames]; rfl
  · rw [State.stackBytes_setFrames]; rfl
  · refine ⟨?_, Nat.le_refl _, Nat.le_refl _, ?_, ?_, fun a c9 h9 => ⟨c9, h9, rfl, rfl, fun _ _ => rfl⟩⟩
    · obtain ⟨t, ht, -⟩ := State.frames_cons hr
      show T.setVm s.vm = { ((T.setVm s.vm).setFrames (.invoking m args :: below)).setFrames (T.setVm s.vm).frames with heap := T.heap, slotsUsed := T.slotsUsed }
      rw [State.setFrames_setFrames, State.setFrames_self ht]
      rfl
    · show T.slotsUsed = T.slotsUsed + ((T.heap.toList.drop T.heap.size).map (·.slots.size)).sum
      rw [List.drop_eq_nil_of_le (Nat.le_of_eq Array.length_toList)]
      rfl
    · show ((T.heap.toList.drop T.heap.size).map (·.slots.size)).sum ≤ 0
      rw [List.drop_eq_nil_of_le (Nat.le_of_eq Array.length_toList)]
      exact Nat.le_refl _
/-- 'throw new E()': new; dup; invokespecial; athrow -/
theorem vx_throw0 {cc : ByteArray} {pc : Nat} (hexec : p.tables.exec = Jvm.exec) (hb : c.code = cc) (hl : l.stackTraces = false) {own cls : String} {names : List String} {ik ic mc ms : Nat} {A : Nat → Prop}
    (hown : s.vm.findClass own = some m.cls) (hcls : Bundle.fit cls = true) (hnames : ∀ n ∈ names, Bundle.fit n = true)
    (hk : (Cond.classLink own ik cls).before args s = true) (hini : (Cond.initialized cls).before args s = true) (hat : ∀ w ∈ vx_at0 own ic cls names, w.before args s = true)
    (hgood : ∀ w ∈ Cond.classLink own ik cls :: Cond.initialized cls :: vx_at0 own ic cls names, vx_ot w = true)
    (hU : vx_Zq Bundle.tN "UNASSIGNED_STACK" Bundle.steD A s s.heap) (hN : vx_Zq Bundle.tN "SUPPRESSED_SENTINEL" Bundle.listD A s s.heap) (hS : va_S A s.heap H locs) (hsize : ls.size = c.maxLocals)
    (d0 : decode cc pc = .ok (.new ik, 3)) (d3 : decode cc (pc + 3) = .ok (.dup, 1)) (d4 : decode cc (pc + 4) = .ok (.invokespecial ic, 3)) (d7 : decode cc (pc + 7) = .ok (.athrow, 1))
    (hout : ∀ x ∈ c.exceptionTable.toList, covers x (pc + 7) = false)
    (hRframes : names.length + 3 < R.frames) (hRlocals : (rest.map fun v => v.category).sum + (13 * (names.length + 1) + 42) ≤ R.locals) (hRcells : cells + 1 ≤ R.cells) (hRslots : slots + 6 ≤ R.slots) (hlocks : meth.locks = false)
    (hx : ∀ t : State, s.vm.Alike t.vm → H.size ≤ t.heap.size → (∀ q : Nat, q < H.size → t.heap[q]? = H[q]?) → XC cls s t)
    (hf : ∀ z ∈ locs, free z.base) (hc : cells + 1 ≤ mc) (hs : slots + 6 ≤ ms) :
    W p l e R s m args below meth c H locs cells slots (vx_MQ below Qc XC args s mc ms free) (F0 m pc ls rest) := by
  intro T hT X
  have htr : e.platform.stackTraces = false := (show e.platform.stackTraces = l.stackTraces by rw [X.admits.platform]).trans hl
  have Y := vx_rebase X (R' := { frames := R.frames, locals := R.locals, cells := 1, slots := 6 }) (Nat.le_refl _) (Nat.le_refl _) hRcells hRslots
  obtain ⟨s', hA⟩ : ∃ z, z = (T.setVm s.vm).setFrames (.invoking m args :: below) := ⟨_, rfl⟩
  rw [← hA] at Y
  have hvm : s'.vm = s.vm := by rw [hA]; rfl
  have hhp : s'.heap = H := by rw [hA]; exact hT
  have hW0 : s.WarmedH s'.vm := by rw [hvm]; exact State.WarmedH.refl s
  have hat' : ∀ w ∈ vx_at0 own ic cls names, w.before args s' = true := fun w hw => vx_ot_at hW0 hvm.symm (hgood w (List.mem_cons_of_mem _ (List.mem_cons_of_mem _ hw))) (hat w hw)
  have hk' : (Cond.classLink own ik cls).before args s' = true := vx_ot_at hW0 hvm.symm (hgood _ List.mem_cons_self) hk
  have hini' : (Cond.initialized cls).before args s' = true := vx_ot_at hW0 hvm.symm (hgood _ (List.mem_cons_of_mem _ List.mem_cons_self)) hini
  have hU' : vx_Zq Bundle.tN "UNASSIGNED_STACK" Bundle.steD A s' s'.heap := by rw [hhp]; exact vx_Zq.moved hW0.alike (hU.kept hS.2.1)
  have hN' : vx_Zq Bundle.tN "SUPPRESSED_SENTINEL" Bundle.listD A s' s'.heap := by rw [hhp]; exact vx_Zq.moved hW0.alike (hN.kept hS.2.1)
  have h : ∀ w ∈ Bundle.ownAtoms0 own ic cls names, w.before args s' = true := vx_own hat' (vx_isRefq hU'.1) (vx_isRefq hN'.1) hU'.2.word hN'.2.word
  have hown' : s'.vm.findClass own = some m.cls := by rw [hvm]; exact hown
  have hins : (Cond.instantiable cls 6).before args s' = true := h _ (by simp [Bundle.ownAtoms0])
  obtain ⟨vm₁, cX, kX, hfX, hkX, -, -, X₁, st1⟩ := Y.newCold hexec (own := own) (C := cls) (index := ik) (n := 6) hown' hk' hins hini'
    (g := F0 m pc ls rest) rfl (by rw [hb]; exact d0) (Nat.le_refl _) (Nat.le_refl _)
  generalize hT1 : (T.setVm vm₁).pushCell { cls := cX, slots := kX.instanceTypes.map defaultValue, vm := .none } = T1 at X₁ st1
  have hcat : (Value.ref T.heap.size).category = 1 := rfl
  have hcellA : T1.heap[T.heap.size]? = some (freshCell cX kX) := by rw [← hT1]; exact State.heap_pushCell_size _ _
  have d3' : decode c.code (pc + 3) = .ok (.dup, 1) := by rw [hb]; exact d3
  obtain ⟨U, hsteps, hrun, hend, hW, hsame, ce, hce, hO⟩ := X₁.ctorThrow0 hexec htr (own := own) (cls := cls) (names := names) (ic := ic) hown' hcls hnames h (fun x hx => nomatch hx) hfX hkX hcellA (by rw [hhp, hT]; exact Nat.le_refl _)
    (g := { method := m, pc := pc + 4, locals := ls, stack := .ref T.heap.size :: .ref T.heap.size :: rest, locked := none }) rfl hsize rfl rfl (rest := rest) rfl
    (by rw [hb]; exact d4) (by rw [hb]; exact d7) hout hRframes (by simp only [List.map_cons, List.sum_cons, hcat]; omega) hlocks
  obtain ⟨f1, f2⟩ := vx_frame hsame
  rw [hhp] at f1 f2
  have hWs : s.WarmedH U.vm := State.WarmedH.trans hW0 hW
  have hcl : s.vm.findClass cls = some ce.cls := by
    have h9 := hO.cls
    rw [hvm] at h9
    exact h9
  have hall : s.sameButNew ({ U with vm := s.vm } : State) locs mc ms := by
    subst hA
    obtain ⟨e1, e2⟩ := hsame
    rw [State.setFrames_setFrames] at e1
    have h2 : (T.setVm s.vm).sameButNew ({ U with vm := s.vm } : State) [] (0 + 1) (0 + 6) := ⟨e1, e2⟩
    have h3 := X.same.trans h2
    rw [List.append_nil] at h3
    exact h3.mono hc hs
  refine ⟨U, ?_, .threw T.heap.size, hrun, hend, Or.inr ⟨T.heap.size, rfl, cls, ce, locs, hx U hWs.alike f1 (fun q hq => f2 q hq (fun z hz => nomatch hz)), hce, hO.vm, hcl, hWs, hall, hf⟩⟩
  refine st1 _ ?_
  show Steps p.tables e below (T1.setTop { method := m, pc := pc + 3, locals := ls, stack := .ref T.heap.size :: rest, locked := none }) _
  jvm_step X₁.here [X₁.here.top, hexec, d3', Value.category]
  exact hsteps
/-- 'throw new E("text")': new; dup; ldc; invokespecial; athrow -/
theorem vx_throwS {cc : ByteArray} {pc : Nat} (hexec : p.tables.exec = Jvm.exec) (hb : c.code = cc) (hl : l.stackTraces = false) {own cls text : String} {names : List String} {ik is ic mc ms sa : Nat} {A : Nat → Prop}
    (hown : s.vm.findClass own = some m.cls) (hcls : Bundle.fit cls = true) (hnames : ∀ n ∈ names, Bundle.fit n = true)
    (hk : (Cond.classLink own ik cls).before args s = true) (hini : (Cond.initialized cls).before args s = true) (hstr : vk_R own is text sa s) (hat : ∀ w ∈ vx_atS own ic cls names, w.before args s = true)
    (hgood : ∀ w ∈ Cond.classLink own ik cls :: Cond.initialized cls :: vx_atS own ic cls names, vx_ot w = true)
    (hU : vx_Zq Bundle.tN "UNASSIGNED_STACK" Bundle.steD A s s.heap) (hN : vx_Zq Bundle.tN "SUPPRESSED_SENTINEL" Bundle.listD A s s.heap) (hS : va_S A s.heap H locs) (hsize : ls.size = c.maxLocals)
    (d0 : decode cc pc = .ok (.new ik, 3)) (d3 : decode cc (pc + 3) = .ok (.dup, 1)) (d4 : decode cc (pc + 4) = .ok (.ldc is, 2)) (d6 : decode cc (pc + 6) = .ok (.invokespecial ic, 3)) (d9 : decode cc (pc + 9) = .ok (.athrow, 1))
    (hout : ∀ x ∈ c.exceptionTable.toList, covers x (pc + 9) = false)
    (hRframes : names.length + 3 < R.frames) (hRlocals : (rest.map fun v => v.category).sum + (13 * (names.length + 1) + 43) ≤ R.locals) (hRcells : cells + 1 ≤ R.cells) (hRslots : slots + 6 ≤ R.slots) (hlocks : meth.locks = false)
    (hx : ∀ t : State, s.vm.Alike t.vm → H.size ≤ t.heap.size → (∀ q : Nat, q < H.size → t.heap[q]? = H[q]?) → XC cls s t)
    (hf : ∀ z ∈ locs, free z.base) (hc : cells + 1 ≤ mc) (hs : slots + 6 ≤ ms) :
    W p l e R s m args below meth c H locs cells slots (vx_MQ below Qc XC args s mc ms free) (F0 m pc ls rest) := by
  intro T hT X
  have htr : e.platform.stackTraces = false := (show e.platform.stackTraces = l.stackTraces by rw [X.admits.platform]).trans hl
  have Y := vx_rebase X (R' := { frames := R.frames, locals := R.locals, cells := 1, slots := 6 }) (Nat.le_refl _) (Nat.le_refl _) hRcells hRslots
  obtain ⟨s', hA⟩ : ∃ z, z = (T.setVm s.vm).setFrames (.invoking m args :: below) := ⟨_, rfl⟩
  rw [← hA] at Y
  have hvm : s'.vm = s.vm := by rw [hA]; rfl
  have hhp : s'.heap = H := by rw [hA]; exact hT
  have hW0 : s.WarmedH s'.vm := by rw [hvm]; exact State.WarmedH.refl s
  have hat' : ∀ w ∈ vx_atS own ic cls names, w.before args s' = true := fun w hw => vx_ot_at hW0 hvm.symm (hgood w (List.mem_cons_of_mem _ (List.mem_cons_of_mem _ hw))) (hat w hw)
  have hk' : (Cond.classLink own ik cls).before args s' = true := vx_ot_at hW0 hvm.symm (hgood _ List.mem_cons_self) hk
  have hini' : (Cond.initialized cls).before args s' = true := vx_ot_at hW0 hvm.symm (hgood _ (List.mem_cons_of_mem _ List.mem_cons_self)) hini
  have hU' : vx_Zq Bundle.tN "UNASSIGNED_STACK" Bundle.steD A s' s'.heap := by rw [hhp]; exact vx_Zq.moved hW0.alike (hU.kept hS.2.1)
  have hN' : vx_Zq Bundle.tN "SUPPRESSED_SENTINEL" Bundle.listD A s' s'.heap := by rw [hhp]; exact vx_Zq.moved hW0.alike (hN.kept hS.2.1)
  have h : ∀ w ∈ Bundle.ownAtoms own ic cls names, w.before args s' = true := vx_own hat' (vx_isRefq hU'.1) (vx_isRefq hN'.1) hU'.2.word hN'.2.word
  have hown' : s'.vm.findClass own = some m.cls := by rw [hvm]; exact hown
  have hins : (Cond.instantiable cls 6).before args s' = true := h _ (by simp [Bundle.ownAtoms])
  obtain ⟨vm₁, cX, kX, hfX, hkX, -, -, X₁, st1⟩ := Y.newCold hexec (own := own) (C := cls) (index := ik) (n := 6) hown' hk' hins hini'
    (g := F0 m pc ls rest) rfl (by rw [hb]; exact d0) (Nat.le_refl _) (Nat.le_refl _)
  generalize hT1 : (T.setVm vm₁).pushCell { cls := cX, slots := kX.instanceTypes.map defaultValue, vm := .none } = T1 at X₁ st1
  have hcat : (Value.ref T.heap.size).category = 1 := rfl
  have hcellA : T1.heap[T.heap.size]? = some (freshCell cX kX) := by rw [← hT1]; exact State.heap_pushCell_size _ _
  have d3' : decode c.code (pc + 3) = .ok (.dup, 1) := by rw [hb]; exact d3
  have d4' : decode c.code (pc + 4) = .ok (.ldc is, 2) := by rw [hb]; exact d4
  have hstr' : vk_R own is text sa s' := vk_R.warm hW0 hstr
  obtain ⟨U, hsteps, hrun, hend, hW, hsame, ce, hce, hO⟩ := X₁.ctorThrowS hexec htr (own := own) (cls := cls) (names := names) (ic := ic) hown' hcls hnames h (fun x hx => nomatch hx) hfX hkX hcellA (by rw [hhp, hT]; exact Nat.le_refl _) (msg := .ref sa) rfl
    (g := { method := m, pc := pc + 6, locals := ls, stack := .ref sa :: .ref T.heap.size :: .ref T.heap.size :: rest, locked := none }) rfl hsize rfl rfl (rest := rest) rfl
    (by rw [hb]; exact d6) (by rw [hb]; exact d9) hout hRframes (by simp only [List.map_cons, List.sum_cons, hcat]; omega) hlocks
  obtain ⟨f1, f2⟩ := vx_frame hsame
  rw [hhp] at f1 f2
  have hWs : s.WarmedH U.vm := State.WarmedH.trans hW0 hW
  have hcl : s.vm.findClass cls = some ce.cls := by
    have h9 := hO.cls
    rw [hvm] at h9
    exact h9
  have hall : s.sameButNew ({ U with vm := s.vm } : State) locs mc ms := by
    subst hA
    obtain ⟨e1, e2⟩ := hsame
    rw [State.setFrames_setFrames] at e1
    have h2 : (T.setVm s.vm).sameButNew ({ U with vm := s.vm } : State) [] (0 + 1) (0 + 6) := ⟨e1, e2⟩
    have h3 := X.same.trans h2
    rw [List.append_nil] at h3
    exact h3.mono hc hs
  refine ⟨U, ?_, .threw T.heap.size, hrun, hend, Or.inr ⟨T.heap.size, rfl, cls, ce, locs, hx U hWs.alike f1 (fun q hq => f2 q hq (fun z hz => nomatch hz)), hce, hO.vm, hcl, hWs, hall, hf⟩⟩
  refine st1 _ ?_
  show Steps p.tables e below (T1.setTop { method := m, pc := pc + 3, locals := ls, stack := .ref T.heap.size :: rest, locked := none }) _
  jvm_step X₁.here [X₁.here.top, hexec, d3', Value.category]
  exact X₁.ldcString hexec (own := own) (text := text) (index := is) (a := sa) hown' hstr'.1 hstr'.2
    (g := { method := m, pc := pc + 4, locals := ls, stack := .ref T.heap.size :: .ref T.heap.size :: rest, locked := none }) rfl d4' _ hsteps
/-- 'throw new E("text")', the text by a wide index -/
theorem vx_throwSW {cc : ByteArray} {pc : Nat} (hexec : p.tables.exec = Jvm.exec) (hb : c.code = cc) (hl : l.stackTraces = false) {own cls text : String} {names : List String} {ik is ic mc ms sa : Nat} {A : Nat → Prop}
    (hown : s.vm.findClass own = some m.cls) (hcls : Bundle.fit cls = true) (hnames : ∀ n ∈ names, Bundle.fit n = true)
    (hk : (Cond.classLink own ik cls).before args s = true) (hini : (Cond.initialized cls).before args s = true) (hstr : vk_R own is text sa s) (hat : ∀ w ∈ vx_atS own ic cls names, w.before args s = true)
    (hgood : ∀ w ∈ Cond.classLink own ik cls :: Cond.initialized cls :: vx_atS own ic cls names, vx_ot w = true)
    (hU : vx_Zq Bundle.tN "UNASSIGNED_STACK" Bundle.steD A s s.heap) (hN : vx_Zq Bundle.tN "SUPPRESSED_SENTINEL" Bundle.listD A s s.heap) (hS : va_S A s.heap H locs) (hsize : ls.size = c.maxLocals)
    (d0 : decode cc pc = .ok (.new ik, 3)) (d3 : decode cc (pc + 3) = .ok (.dup, 1)) (d4 : decode cc (pc + 4) = .ok (.ldc_w is, 3)) (d7 : decode cc (pc + 7) = .ok (.invokespecial ic, 3)) (d10 : decode cc (pc + 10) = .ok (.athrow, 1))
    (hout : ∀ x ∈ c.exceptionTable.toList, covers x (pc + 10) = false)
    (hRframes : names.length + 3 < R.frames) (hRlocals : (rest.map fun v => v.category).sum + (13 * (names.length + 1) + 43) ≤ R.locals) (hRcells : cells + 1 ≤ R.cells) (hRslots : slots + 6 ≤ R.slots) (hlocks : meth.locks = false)
    (hx : ∀ t : State, s.vm.Alike t.vm → H.size ≤ t.heap.size → (∀ q : Nat, q < H.size → t.heap[q]? = H[q]?) → XC cls s t)
    (hf : ∀ z ∈ locs, free z.base) (hc : cells + 1 ≤ mc) (hs : slots + 6 ≤ ms) :
    W p l e R s m args below meth c H locs cells slots (vx_MQ below Qc XC args s mc ms free) (F0 m pc ls rest) := by
  intro T hT X
  have htr : e.platform.stackTraces = false := (show e.platform.stackTraces = l.stackTraces by rw [X.admits.platform]).trans hl
  have Y := vx_rebase X (R' := { frames := R.frames, locals := R.locals, cells := 1, slots := 6 }) (Nat.le_refl _) (Nat.le_refl _) hRcells hRslots
  obtain ⟨s', hA⟩ : ∃ z, z = (T.setVm s.vm).setFrames (.invoking m args :: below) := ⟨_, rfl⟩
  rw [← hA] at Y
  have hvm : s'.vm = s.vm := by rw [hA]; rfl
  have hhp : s'.heap = H := by rw [hA]; exact hT
  have hW0 : s.WarmedH s'.vm := by rw [hvm]; exact State.WarmedH.refl s
  have hat' : ∀ w ∈ vx_atS own ic cls names, w.before args s' = true := fun w hw => vx_ot_at hW0 hvm.symm (hgood w (List.mem_cons_of_mem _ (List.mem_cons_of_mem _ hw))) (hat w hw)
  have hk' : (Cond.classLink own ik cls).before args s' = true := vx_ot_at hW0 hvm.symm (hgood _ List.mem_cons_self) hk
  have hini' : (Cond.initialized cls).before args s' = true := vx_ot_at hW0 hvm.symm (hgood _ (List.mem_cons_of_mem _ List.mem_cons_self)) hini
  have hU' : vx_Zq Bundle.tN "UNASSIGNED_STACK" Bundle.steD A s' s'.heap := by rw [hhp]; exact vx_Zq.moved hW0.alike (hU.kept hS.2.1)
  have hN' : vx_Zq Bundle.tN "SUPPRESSED_SENTINEL" Bundle.listD A s' s'.heap := by rw [hhp]; exact vx_Zq.moved hW0.alike (hN.kept hS.2.1)
  have h : ∀ w ∈ Bundle.ownAtoms own ic cls names, w.before args s' = true := vx_own hat' (vx_isRefq hU'.1) (vx_isRefq hN'.1) hU'.2.word hN'.2.word
  have hown' : s'.vm.findClass own = some m.cls := by rw [hvm]; exact hown
  have hins : (Cond.instantiable cls 6).before args s' = true := h _ (by simp [Bundle.ownAtoms])
  obtain ⟨vm₁, cX, kX, hfX, hkX, -, -, X₁, st1⟩ := Y.newCold hexec (own := own) (C := cls) (index := ik) (n := 6) hown' hk' hins hini'
    (g := F0 m pc ls rest) rfl (by rw [hb]; exact d0) (Nat.le_refl _) (Nat.le_refl _)
  generalize hT1 : (T.setVm vm₁).pushCell { cls := cX, slots := kX.instanceTypes.map defaultValue, vm := .none } = T1 at X₁ st1
  have hcat : (Value.ref T.heap.size).category = 1 := rfl
  have hcellA : T1.heap[T.heap.size]? = some (freshCell cX kX) := by rw [← hT1]; exact State.heap_pushCell_size _ _
  have d3' : decode c.code (pc + 3) = .ok (.dup, 1) := by rw [hb]; exact d3
  have d4' : decode c.code (pc + 4) = .ok (.ldc_w is, 3) := by rw [hb]; exact d4
  have hstr' : vk_R own is text sa s' := vk_R.warm hW0 hstr
  obtain ⟨U, hsteps, hrun, hend, hW, hsame, ce, hce, hO⟩ := X₁.ctorThrowS hexec htr (own := own) (cls := cls) (names := names) (ic := ic) hown' hcls hnames h (fun x hx => nomatch hx) hfX hkX hcellA (by rw [hhp, hT]; exact Nat.le_refl _) (msg := .ref sa) rfl
    (g := { method := m, pc := pc + 7, locals := ls, stack := .ref sa :: .ref T.heap.size :: .ref T.heap.size :: rest, locked := none }) rfl hsize rfl rfl (rest := rest) rfl
    (by rw [hb]; exact d7) (by rw [hb]; exact d10) hout hRframes (by simp only [List.map_cons, List.sum_cons, hcat]; omega) hlocks
  obtain ⟨f1, f2⟩ := vx_frame hsame
  rw [hhp] at f1 f2
  have hWs : s.WarmedH U.vm := State.WarmedH.trans hW0 hW
  have hcl : s.vm.findClass cls = some ce.cls := by
    have h9 := hO.cls
    rw [hvm] at h9
    exact h9
  have hall : s.sameButNew ({ U with vm := s.vm } : State) locs mc ms := by
    subst hA
    obtain ⟨e1, e2⟩ := hsame
    rw [State.setFrames_setFrames] at e1
    have h2 : (T.setVm s.vm).sameButNew ({ U with vm := s.vm } : State) [] (0 + 1) (0 + 6) := ⟨e1, e2⟩
    have h3 := X.same.trans h2
    rw [List.append_nil] at h3
    exact h3.mono hc hs
  refine ⟨U, ?_, .threw T.heap.size, hrun, hend, Or.inr ⟨T.heap.size, rfl, cls, ce, locs, hx U hWs.alike f1 (fun q hq => f2 q hq (fun z hz => nomatch hz)), hce, hO.vm, hcl, hWs, hall, hf⟩⟩
  refine st1 _ ?_
  show Steps p.tables e below (T1.setTop { method := m, pc := pc + 3, locals := ls, stack := .ref T.heap.size :: rest, locked := none }) _
  jvm_step X₁.here [X₁.here.top, hexec, d3', Value.category]
  exact X₁.ldcStringW hexec (own := own) (text := text) (index := is) (a := sa) hown' hstr'.1 hstr'.2
    (g := { method := m, pc := pc + 4, locals := ls, stack := .ref T.heap.size :: .ref T.heap.size :: rest, locked := none }) rfl d4' _ hsteps
end Ends
section Bodies
variable {l : Launch}
theorem vx_ofW {y : MethodName} {ws ws' : List Cond} {rm : Room} {Pc : Array Value → State → Prop} {Qc : Array Value → State → Outcome → State → Prop} {XC : String → State → State → Prop} {mc ms : Nat} {free : Addr → Prop} {cc : ByteArray} {maxL : Nat} {ret : Option FieldType}
    (hy : plainName y.cls = true) (hw : ws = Cond.code y cc maxL ret :: ws')
    (body : ∀ p e s m args below meth c s₁, BodyLoose p l y (headSpec ws rm) cc maxL ret e s m args below meth c s₁ → c.maxLocals = maxL → (∀ x ∈ c.exceptionTable.toList, False) → Pc args s →
      W p l e (headSpec ws rm).room s m args below meth c s.heap [] 0 0 (vx_MQ below Qc XC args s mc ms free) (entryFrame m args maxL)) : vx_Met l y ws rm Pc Qc XC mc ms free := by
  refine MetFree.of_bodyS (code := cc) (maxLocals := maxL) (ret := ret) hy ?_ ?_
  · intro args s m h hn
    obtain ⟨meth, c, h1, h2, h3, h4, h5, h6, -, -⟩ := Cond.code_spec hn (atoms_spec (ws := ws) h _ (by rw [hw]; exact List.mem_cons_self))
    exact ⟨meth, c, h1, h2, h3, h4, h5, h6⟩
  · intro p e s m args below meth c s₁ B hml hP _
    have hh0 : s₁.heap = s.heap := by rw [B.state]; rfl
    have ht : ∀ x ∈ c.exceptionTable.toList, False := by
      obtain ⟨meth9, c9, h1, h2, -, -, -, -, h7, -⟩ := Cond.code_spec B.named (atoms_spec (ws := ws) B.pre _ (by rw [hw]; exact List.mem_cons_self))
      cases Option.some.inj (h1.symm.trans B.method)
      cases Option.some.inj (h2.symm.trans (Stand.of_body B).code)
      intro x hx
      rw [Array.isEmpty_iff.mp h7] at hx
      cases hx
    obtain ⟨t, a1, o, b1, b2, b3⟩ := body p e s m args below meth c s₁ B hml ht hP s₁ hh0 (Stand.of_body B)
    exact ⟨t, o, a1, b1, b2, b3⟩
/-- the table of a body with handlers -/
theorem vx_table {p : Program} {x y : MethodName} {S : Spec} {cc bytes : ByteArray} {maxL maxL' : Nat} {ret ret' : Option FieldType} {e : Env} {s s₁ : State} {m : MethodId} {args : Array Value} {below : List Frame} {meth : Method} {c : Code} {hh : List (Nat × Nat × Nat × Nat)}
    (B : BodyLoose p l y S cc maxL ret e s m args below meth c s₁) (h : (Cond.codeWith y bytes maxL' ret' hh).before args s = true) : c.exceptionTable.toList = tableOf hh := by
  obtain ⟨m9, meth9, c9, hn9, h1, h2, -, -, h6, -⟩ := Cond.codeWith_spec h
  cases Option.some.inj (hn9.symm.trans B.named)
  cases Option.some.inj (h1.symm.trans B.method)
  cases Option.some.inj (h2.symm.trans (Stand.of_body B).code)
  rw [← h6, table_eq]
end Bodies
end VXA
/-! ===== END ===== -/
/-! ===== BEGIN a static call of a method with an exception table ===== -/
section VXS
variable {p : Program} {l : Launch} {e : Env} {R : Room} {s : State} {m : MethodId} {args : Array Value} {below : List Frame} {meth : Method} {c : Code} {T : State} {H : Heap} {locs : List Loc} {cells slots : Nat}
abbrev vx_CSW (R : Room) (s : State) (args : Array Value) (own : String) (index : Nat) (y : MethodName) (bytes : ByteArray) (maxL : Nat) (ret : Option FieldType) (hh : List (Nat × Nat × Nat × Nat)) (ws : List Cond) (rm : Room) (mc ms n : Nat) : Prop :=
  (rm.cells = mc ∧ rm.slots = ms ∧ rm.frames + 1 ≤ R.frames ∧ 8 + (maxL + 11) + rm.locals ≤ R.locals ∧ (∀ w ∈ ws, ∀ (a' : Array Value) (U : State), s.WarmedH U.vm → w.before a' U = true) ∧ Cond.codeWith y bytes maxL ret hh ∈ ws) ∧
  (Cond.codeWith y bytes maxL ret hh).before args s = true ∧ (Cond.initialized y.cls).before args s = true ∧ (y.cls ≠ "java/lang/invoke/MethodHandle" ∧ y.cls ≠ "java/lang/invoke/VarHandle") ∧
  (∀ sig, parseMethodDescriptor y.desc = some sig → n = sig.parameters.length) ∧ (Cond.methodLink own index y).before args s = true ∧ (Cond.static y).before args s = true
theorem vx_cwSW {own : String} {index maxL mc ms : Nat} {y : MethodName} {bytes : ByteArray} {ret : Option FieldType} {hh : List (Nat × Nat × Nat × Nat)} {Ts ws ws' : List Cond} {rm : Room} (n : Nat) (ht : ∀ w ∈ Ts, w.before args s = true) (hT : GoodIn Ts (va_wsS own index y ws)) (hw : ws = Cond.codeWith y bytes maxL ret hh :: ws') (hrc : rm.cells = mc) (hrs : rm.slots = ms)
    (hd : y.cls ≠ "java/lang/invoke/MethodHandle" ∧ y.cls ≠ "java/lang/invoke/VarHandle" ∧ (parseMethodDescriptor y.desc).map (fun d => d.parameters.length) = some n) (hR : rm.frames + 1 ≤ R.frames ∧ 8 + (maxL + 11) + rm.locals ≤ R.locals) :
    vx_CSW R s args own index y bytes maxL ret hh ws rm mc ms n := by
  have ok : ∀ w ∈ va_wsS own index y ws, w.before args s = true := fun w h => ht w (hT w h).1
  have hG : GoodIn Ts ws := fun w h => hT w (by unfold va_wsS; exact List.mem_append_right _ h)
  have hc : Cond.codeWith y bytes maxL ret hh ∈ ws := by rw [hw]; exact List.mem_cons_self
  refine ⟨⟨hrc, hrs, hR.1, hR.2, pay_in ht hG, hc⟩, ht _ (hG _ hc).1, ok _ (by simp [va_wsS]), ⟨hd.1, hd.2.1⟩, fun sig h => ?_, ok _ (by simp [va_wsS]), ok _ (by simp [va_wsS])⟩
  have h2 := hd.2.2
  rw [h] at h2
  exact (Option.some.inj h2).symm
theorem vx_callSW (X : Stand p l e R s m args below meth c T locs cells slots) (hexec : p.tables.exec = Jvm.exec) {own : String} {index : Nat} {y : MethodName} {bytes : ByteArray} {maxL : Nat} {ret : Option FieldType} {hh : List (Nat × Nat × Nat × Nat)}
    (hown : s.vm.findClass own = some m.cls) (hlink : (Cond.methodLink own index y).before args s = true) (hstat : (Cond.static y).before args s = true) (hinit : (Cond.initialized y.cls).before args s = true)
    (hcode : (Cond.codeWith y bytes maxL ret hh).before args s = true) (hy : y.cls ≠ "java/lang/invoke/MethodHandle" ∧ y.cls ≠ "java/lang/invoke/VarHandle")
    {W9 : Nat} {Pre : Pt → Array Value → Prop} {Post : Pt → Array Value → Option Value → Pt → Prop} (hK : Back l R p e below s args y 3 W9 Pre Post)
    {g : JFrame} (hg : g.method = m) (hsize : g.locals.size = c.maxLocals) {argsL rest : List Value} (hlen : ∀ sig, parseMethodDescriptor y.desc = some sig → argsL.length = sig.parameters.length)
    (hstack : g.stack = argsL.reverse ++ rest) (hW : 2 * g.monitorRoom + (rest.map fun v => v.category).sum ≤ W9) (hdg : decode c.code g.pc = .ok (.invokestatic index, 3))
    (hpre : ∀ vm₁, s.WarmedH vm₁ → Pre ⟨T.setVm vm₁, locs, cells, slots⟩ argsL.toArray) :
    ∃ (v : Option Value) (vm₁ : Vm) (B : Pt), s.WarmedH vm₁ ∧ Stand p l e R s m args below meth c B.U B.locs B.cells B.slots ∧ Post ⟨T.setVm vm₁, locs, cells, slots⟩ argsL.toArray v B ∧
      ∀ target, Steps p.tables e below (B.U.setTop { g with pc := g.pc + 3, stack := v.toList ++ rest }) target → Steps p.tables e below (T.setTop g) target := by
  obtain ⟨mk, methM, cM, hnamed, hmethM, -, -, -, -, -, -, hsigM⟩ := Cond.codeWith_spec hcode
  have hstatic : methM.isStatic = true := Cond.static_spec hnamed hmethM hstat
  obtain ⟨kP, hkP, -⟩ := className_of_methodNamed hnamed
  have hinitP : kP.init = .initialized := Cond.initialized_spec (findClass_of_methodNamed hnamed) hkP hinit
  obtain ⟨vm₁, X₁, hstep₁⟩ := X.invokestatic hexec hown hlink hnamed hmethM hstatic hkP hinitP hy (g := g) hg (argsL := argsL) (rest := rest) (hlen _ hsigM) hstack hdg
  obtain ⟨v, B, X', hpost, hsteps⟩ := hK m meth c ⟨T.setVm vm₁, locs, cells, slots⟩ { g with stack := rest } (.invokestatic index) mk argsL.toArray X₁ hg hsize hdg hW (X₁.named hnamed) (hpre vm₁ X₁.warmed)
  exact ⟨v, vm₁, B, X₁.warmed, X', hpost, fun target h => hstep₁ _ fun acts => by rw [doInvoke_state]; exact hsteps.trans h⟩
theorem vx_runSW {y : MethodName} {bytes cc : ByteArray} {maxL nL mc ms n index : Nat} {ret : Option FieldType} {hh : List (Nat × Nat × Nat × Nat)} {ws : List Cond} {rm : Room} {Pc : Array Value → State → Prop} {Qc : Array Value → State → Outcome → State → Prop} {free : Addr → Prop} {Ts : List Cond} {own : String} {As rest : List Value} {g : JFrame}
    (S : CallFix p m c cc nL s args Ts own) (hM : Met l y ws rm Pc Qc mc ms free) (cw : vx_CSW R s args own index y bytes maxL ret hh ws rm mc ms n) (hp : PreS s H Pc As)
    (hg : g.method = m) (hn : As.length = n) (hsize : g.locals.size = nL) (hstack : g.stack = As.reverse ++ rest) (hW : 2 * g.monitorRoom + (rest.map fun v => v.category).sum ≤ 8) (hdg : decode cc g.pc = .ok (.invokestatic index, 3)) (hf : cells + mc ≤ R.cells ∧ slots + ms ≤ R.slots) :
    va_Run p l e R s m args below meth c H locs cells slots mc ms g rest (Qc As.toArray) (free) := by
  obtain ⟨⟨hrc, hrs, hfr, hlo, hws, hcw⟩, hcode, hini, hy, hlen, hl, hstt⟩ := cw
  have hK : Back l R p e below s args y 3 8 (PreOf R mc ms Pc) (PostOf Qc mc ms free) := va_backW (hh := hh) (bytes := bytes) (maxL := maxL) (ret := ret) hM hp.1 hrc hrs hfr hlo hws hcw (fun a' U hW => word_at hW (Or.inl (by first | rfl | simp [Cond.onTables, Cond.keeps, Cond.steady])) hini)
  obtain ⟨hx, hb, hml, ho, -⟩ := S
  intro T hT X
  obtain ⟨v, vm₁, ⟨U', l2, c2, s2⟩, hW₁, X', ⟨g', mk, t, L, e1, e2, hq, h1, hL, h2, h3⟩, st⟩ := vx_callSW X hx (hh := hh) (bytes := bytes) (maxL := maxL) (ret := ret) ho hl hstt hini hcode hy hK hg (hsize.trans hml.symm) (argsL := As) (rest := rest) (fun sig h => hn.trans (hlen sig h)) hstack hW (by rw [hb]; exact hdg)
    (fun vm₁ hW₁ => ⟨hf.1, hf.2, hp.2 (T.setVm vm₁) hT hW₁⟩)
  dsimp only [Pt.U, Pt.locs, Pt.cells, Pt.slots] at X' e1 e2 h1 h2 h3 st
  subst h1; subst h2; subst h3
  exact ⟨v, (T.setVm vm₁).calling g' mk As.toArray, t, U', L, hT, X', hL, e1, e2, hq, st⟩
/-- not caught here, past rows that name other classes: it goes on to the caller -/
theorem vx_outP {p : Program} {l : Launch} {e : Env} {R : Room} {s : State} {m : MethodId} {args : Array Value} {below : List Frame} {meth : Method} {c : Code} {H : Heap} {locs : List Loc} {cells slots : Nat} {free : Addr → Prop} {ls : Array Slot} {rest : List Value} {Qc : Array Value → State → Outcome → State → Prop} {XC : String → State → State → Prop}
    {pc : Nat} {own E : String} {ce : Cell} {q : Addr} {mc ms : Nat} (hown : s.vm.findClass own = some m.cls) (hlocks : meth.locks = false)
    (hpass : ∀ z ∈ c.exceptionTable.toList, covers z pc = false ∨ (z.catchType ≠ 0 ∧ ∃ nm : String, (Cond.classLink own z.catchType nm).before args s = true ∧ va_Nc E nm s)) (hcell : H[q]? = some ce) (hv : ce.vm = .none) (hcl : s.vm.findClass E = some ce.cls)
    (hx : ∀ t : State, t.heap = H → s.vm.Alike t.vm → XC E s t) (hf : ∀ z ∈ locs, free z.base) (hc : cells ≤ mc) (hs : slots ≤ ms) :
    vx_W p l e R s m args below meth c H locs cells slots (vx_MQ below Qc XC args s mc ms free) (F0 m pc ls rest) q := by
  intro T hT X
  have hpl : e.platform.magicAccessors = ({} : Platform).magicAccessors := by rw [X.admits.platform]
  obtain ⟨vm', hW', X', st⟩ := X.outThrough hlocks q (g := F0 m pc ls rest) rfl rfl rfl (cell := ce) (by rw [hT]; exact hcell) (by rw [hv]; rfl)
    (by obtain ⟨k9, h9, -⟩ := Vm.findClass_spec hcl; exact ⟨k9, h9⟩) (fun z hz => by
      rcases hpass z hz with h | ⟨hz0, nm, hl1, hn1⟩
      · exact Or.inl h
      · obtain ⟨c6, hc6, hcl6⟩ := Cond.classLink_spec hown hl1 e.platform hpl
        obtain ⟨a8, b8, h1, h2, h3⟩ := hn1
        cases Option.some.inj (h1.symm.trans hcl)
        cases Option.some.inj (h2.symm.trans hc6)
        exact Or.inr ⟨hz0, _, hcl6, h3⟩)
  obtain ⟨g₀, hfr⟩ := X'.frames_eq
  have hcell9 : ((T.setVm vm').setFrames (.throwing q :: below)).heap[q]? = some ce := by
    show T.heap[q]? = some ce
    rw [hT]; exact hcell
  have hend : Ended ((T.setVm vm').setFrames (.throwing q :: below)) below (.threw q) := State.frames_setFrames _ (State.cur_lt_of_frames hfr)
  refine ⟨(T.setVm vm').setFrames (.throwing q :: below), ?_, .threw q, X'.here.running, hend, Or.inr ⟨q, rfl, E, ce, locs, hx _ hT (X'.ends _).1.alike, hcell9, hv, hcl, (X'.ends _).1, (X'.ends _).2.mono hc hs, hf⟩⟩
  rw [X.pushThrowing_eq]
  exact st
/-- a thing of a world lies in the heap -/
theorem vx_lt {D : va_G} {cl : List vw_C} {ws : va_W} {H1 : Heap} (h : va_P D cl ws H1) {k : Nat} {q : Nat × va_E} (hk : ws[k]? = some q) : q.1 < H1.size := (h k q hk).lt
end VXS
/-! ===== END ===== -/
/-! ===== BEGIN methods with a table of their own: called by a name, returning or throwing ===== -/
section VXH
/-! vx_backW, vx_callVX, vx_callSX, vx_callVW, vx_runVW, vx_runVX, vx_runSX, vx_ofWH follow the same proofs as their sisters above (Free/Laws.lean, Shelf42/LK1.lean); vx_outP calls Shelf42/NT130.lean (outThrough). -/
section
variable {l : Launch} {R : Room} {p : Program} {e : Env} {below : List Frame} {s : State} {sargs : Array Value} {y : MethodName} {len W9 : Nat}
theorem vx_backW {ws : List Cond} {rm : Room} {Pc : Array Value → State → Prop} {Qc : Array Value → State → Outcome → State → Prop} {XC : String → State → State → Prop} {mc ms : Nat} {free : Addr → Prop} {bytes : ByteArray} {maxL : Nat} {ret : Option FieldType} {hh : List (Nat × Nat × Nat × Nat)}
    (hM : vx_Met l y ws rm Pc Qc XC mc ms free) (hblind : FrameBlind Pc) (hrc : rm.cells = mc) (hrs : rm.slots = ms)
    (hframes : rm.frames + 1 ≤ R.frames) (hlocals : W9 + (maxL + 11) + rm.locals ≤ R.locals)
    (hws : ∀ w ∈ ws, ∀ a' U, s.WarmedH U.vm → w.before a' U = true) (hcode : Cond.codeWith y bytes maxL ret hh ∈ ws) (hinit : ∀ a' U, s.WarmedH U.vm → (Cond.initialized y.cls).before a' U = true) :
    vx_Back l R p e below s sargs y len W9 (PreOf R mc ms Pc) (PostOf Qc mc ms free) (vx_Post XC mc ms free) := by
  intro m meth c A g ig mk a X hg hsize hdg hW hn hp
  have h1 : (headSpec ws rm).pre.before a A.U = true := atoms_intro fun w hw => hws w hw _ _ X.warmed
  have h2 : (Cond.codeWith y bytes maxL ret hh).before a A.U = true := hws _ hcode _ _ X.warmed
  have h3 : (Cond.initialized y.cls).before a A.U = true := hinit _ _ X.warmed
  have h4 : A.cells + (headSpec ws rm).room.cells ≤ R.cells := by rw [show (headSpec ws rm).room.cells = mc from hrc]; exact hp.1
  have h5 : A.slots + (headSpec ws rm).room.slots ≤ R.slots := by rw [show (headSpec ws rm).room.slots = ms from hrs]; exact hp.2.1
  have hPc : Pc a (A.U.calling g mk a) := hblind _ _ _ _ hp.2.2
  obtain ⟨U, Ls, c0, s0⟩ := A
  dsimp only [Pt.U, Pt.locs, Pt.cells, Pt.slots] at h1 h2 h3 h4 h5 X hn hPc ⊢
  obtain ⟨m9, methY, cY, hn9, hmY, hcY, -, hlY, -⟩ := Cond.codeWith_spec h2
  cases Option.some.inj (hn9.symm.trans hn)
  obtain ⟨kY, hkY, -⟩ := className_of_methodNamed hn
  have hinitY : kY.init = .initialized := Cond.initialized_spec (findClass_of_methodNamed hn) hkY h3
  have h : At U g.method c below := by rw [hg]; exact X.here
  have hlocals9 : W9 + (maxL + 11) + (headSpec ws rm).room.locals ≤ R.locals := hlocals
  have happ : (headSpec ws rm).appliesLoose y e.platform (U.calling g mk a) = true :=
    Spec.appliesLoose_calling (g := g) h hdg hn hkY hinitY
      (X.room_calling (g := g) (R' := (headSpec ws rm).room) hsize hmY hcY hframes (by rw [hlY]; omega) h4 h5) h1
  obtain ⟨mid, hmid⟩ := h.above
  have hfr : (U.setTop g).frames = (.java g :: mid) ++ below := by rw [State.frames_setTop' g h.top, hmid]; rfl
  obtain ⟨o, s₂, hsteps, -, hend, hq⟩ := Steps.callFree hM p X.admits X.cas X.clock (acts := []) hfr happ hPc trivial
  have hq' : vx_Q Qc XC mc ms free a (U.calling g mk a) o s₂ := hq
  rw [State.frames_setTop' g h.top] at hend
  obtain ⟨g₀, hg0⟩ := Option.isSome_iff_exists.mp h.top
  obtain ⟨r, hr⟩ := State.topJava?_eq_some.mp hg0
  have hr' : (({ U with heap := s₂.heap, slotsUsed := s₂.slotsUsed } : State).setVm s₂.vm).frames = .java g₀ :: r := hr
  rcases hq' with ⟨hqc, L, hfe, hL⟩ | ⟨q, rfl, E, ce, L, hx, hce, hcv, hcl, hW₂, hsm, hL⟩
  · obtain ⟨⟨v, rfl⟩, hW₂, e2, q2, q3, q4, q5, q6⟩ := id hfe
    have e3 : s₂ = ({ (U.calling g mk a).setFrames s₂.frames with heap := s₂.heap, slotsUsed := s₂.slotsUsed } : State).setVm s₂.vm := by
      have : s₂ = ({ s₂ with vm := (U.calling g mk a).vm } : State).setVm s₂.vm := rfl
      rw [e2] at this
      exact this
    obtain ⟨c₂, i₂, len₂, hc₂, hd₂, hf₂⟩ := hend
    have hW' : U.WarmedH s₂.vm := hW₂
    have hcc : c₂ = c := by
      have h1 : s₂.code? g.method = U.code? g.method := by
        rw [State.code?_eq, State.code?_eq, hW'.alike.method?]
      exact Option.some.inj (hc₂.symm.trans (h1.trans h.code))
    subst hcc
    have hlen : len₂ = len := by rw [hdg] at hd₂; cases hd₂; rfl
    subst hlen
    have hs₂ : s₂ = (({ U with heap := s₂.heap, slotsUsed := s₂.slotsUsed } : State).setVm s₂.vm).setTop { g with pc := g.pc + len₂, stack := v.toList ++ g.stack } := by
      refine e3.trans ?_
      rw [hf₂, State.calling_eq h.top, State.setFrames_setFrames, State.setTop_of_frames _ hr', hr]
      rfl
    have hsame : U.sameButNew ({ U with heap := s₂.heap, slotsUsed := s₂.slotsUsed } : State) L mc ms := by
      refine ⟨?_, q2, q3, q4, q5, q6⟩
      obtain ⟨t, ht, -⟩ := State.frames_cons hr
      show ({ U with heap := s₂.heap, slotsUsed := s₂.slotsUsed } : State) = { U.setFrames U.frames with heap := s₂.heap, slotsUsed := s₂.slotsUsed }
      rw [State.setFrames_self ht]
    subst hg
    refine Or.inl ⟨v, ⟨(({ U with heap := s₂.heap, slotsUsed := s₂.slotsUsed } : State).setVm s₂.vm), Ls ++ L, c0 + mc, s0 + ms⟩,
      ⟨X.admits, X.cas, X.clock, X.frames, X.room, X.hears, X.method, X.code, (X.here.setHeapUsed s₂.heap s₂.slotsUsed).setVm hW'.alike, X.tail, State.WarmedH.trans X.warmed hW', X.limits, X.bytes, X.same.trans (hsame.setVm s.vm)⟩,
      ⟨g, mk, s₂, L, rfl, rfl, hqc, rfl, hL, rfl, rfl⟩, ?_⟩
    show Steps p.tables e below _ ((({ U with heap := s₂.heap, slotsUsed := s₂.slotsUsed } : State).setVm s₂.vm).setTop { g with pc := g.pc + len₂, stack := v.toList ++ g.stack })
    rw [← hs₂]
    exact hsteps
  · obtain ⟨e2, q2, q3, q4, q5, q6⟩ := id hsm
    have e3 : s₂ = ({ (U.calling g mk a).setFrames s₂.frames with heap := s₂.heap, slotsUsed := s₂.slotsUsed } : State).setVm s₂.vm := by
      have : s₂ = ({ s₂ with vm := (U.calling g mk a).vm } : State).setVm s₂.vm := rfl
      rw [e2] at this
      exact this
    have hf₂ : s₂.frames = .throwing q :: .java g :: U.frames.tail := hend
    have hW' : U.WarmedH s₂.vm := hW₂
    have hs₂ : s₂ = ((({ U with heap := s₂.heap, slotsUsed := s₂.slotsUsed } : State).setVm s₂.vm).setTop g).pushFrame (.throwing q) := by
      refine e3.trans ?_
      rw [hf₂, State.calling_eq h.top, State.setFrames_setFrames, State.pushFrame, State.frames_setTop _ hr', State.setTop_of_frames _ hr', State.setFrames_setFrames, hr]
      rfl
    have hsame : U.sameButNew ({ U with heap := s₂.heap, slotsUsed := s₂.slotsUsed } : State) L mc ms := by
      refine ⟨?_, q2, q3, q4, q5, q6⟩
      obtain ⟨t, ht, -⟩ := State.frames_cons hr
      show ({ U with heap := s₂.heap, slotsUsed := s₂.slotsUsed } : State) = { U.setFrames U.frames with heap := s₂.heap, slotsUsed := s₂.slotsUsed }
      rw [State.setFrames_self ht]
    subst hg
    refine Or.inr ⟨q, ⟨(({ U with heap := s₂.heap, slotsUsed := s₂.slotsUsed } : State).setVm s₂.vm), Ls ++ L, c0 + mc, s0 + ms⟩,
      ⟨X.admits, X.cas, X.clock, X.frames, X.room, X.hears, X.method, X.code, (X.here.setHeapUsed s₂.heap s₂.slotsUsed).setVm hW'.alike, X.tail, State.WarmedH.trans X.warmed hW', X.limits, X.bytes, X.same.trans (hsame.setVm s.vm)⟩,
      ⟨g, mk, s₂, L, E, ce, rfl, rfl, hx, hce, hcv, hcl, rfl, hL, rfl, rfl⟩, ?_⟩
    show Steps p.tables e below _ (((({ U with heap := s₂.heap, slotsUsed := s₂.slotsUsed } : State).setVm s₂.vm).setTop g).pushFrame (.throwing q))
    rw [← hs₂]
    exact hsteps
end
variable {p : Program} {l : Launch} {e : Env} {R : Room} {s : State} {m : MethodId} {args : Array Value} {below : List Frame} {meth : Method} {c : Code} {T : State} {H : Heap} {locs : List Loc} {cells slots : Nat}
theorem vx_callVX (X : Stand p l e R s m args below meth c T locs cells slots) (hexec : p.tables.exec = Jvm.exec) {own C : String} {index : Nat} {y : MethodName} {bytes : ByteArray} {maxL : Nat} {ret : Option FieldType} {hh : List (Nat × Nat × Nat × Nat)}
    (hown : s.vm.findClass own = some m.cls) (hlink : (Cond.methodLink own index y).before args s = true) (hinst : (Cond.instanceMethod y).before args s = true) (hsel : (Cond.selects C y y).before args s = true)
    (hcode : (Cond.codeWith y bytes maxL ret hh).before args s = true) (hy : y.cls ≠ "java/lang/invoke/MethodHandle" ∧ y.cls ≠ "java/lang/invoke/VarHandle")
    {W9 : Nat} {Pre : Pt → Array Value → Prop} {Post : Pt → Array Value → Option Value → Pt → Prop} {PostX : Pt → Array Value → Addr → Pt → Prop} (hK : vx_Back l R p e below s args y 3 W9 Pre Post PostX)
    {b : Addr} {cellB : Cell} (hcell : T.heap[b]? = some cellB) (hobj : cellB.vm.isStatics = false) (hcls : s.vm.findClass C = some cellB.cls)
    {g : JFrame} (hg : g.method = m) (hsize : g.locals.size = c.maxLocals) {argsL rest : List Value} (hlen : ∀ sig, parseMethodDescriptor y.desc = some sig → argsL.length = sig.parameters.length)
    (hstack : g.stack = argsL.reverse ++ .ref b :: rest) (hW : 2 * g.monitorRoom + (rest.map fun v => v.category).sum ≤ W9) (hdg : decode c.code g.pc = .ok (.invokevirtual index, 3))
    (hpre : ∀ vm₁, s.WarmedH vm₁ → Pre ⟨T.setVm vm₁, locs, cells, slots⟩ (Value.ref b :: argsL).toArray) :
    (∃ (v : Option Value) (vm₁ : Vm) (B : Pt), s.WarmedH vm₁ ∧ Stand p l e R s m args below meth c B.U B.locs B.cells B.slots ∧ Post ⟨T.setVm vm₁, locs, cells, slots⟩ (Value.ref b :: argsL).toArray v B ∧
      ∀ target, Steps p.tables e below (B.U.setTop { g with pc := g.pc + 3, stack := v.toList ++ rest }) target → Steps p.tables e below (T.setTop g) target) ∨
    (∃ (q : Addr) (vm₁ : Vm) (B : Pt), s.WarmedH vm₁ ∧ Stand p l e R s m args below meth c B.U B.locs B.cells B.slots ∧ PostX ⟨T.setVm vm₁, locs, cells, slots⟩ (Value.ref b :: argsL).toArray q B ∧
      Steps p.tables e below (T.setTop g) ((B.U.setTop { g with stack := rest }).pushFrame (.throwing q))) := by
  obtain ⟨mk, methM, hnamed, hmethM, hstM, habM⟩ := Cond.instanceMethod_spec hinst
  obtain ⟨m8, methM', cM, hn8, hmethM', -, -, -, -, -, -, hsigM⟩ := Cond.codeWith_spec hcode
  cases Option.some.inj (hn8.symm.trans hnamed)
  cases hmethM.symm.trans hmethM'
  obtain ⟨c2, r2, m2, q1, q2, q3, q4, kP, hkP, hkPi⟩ := Cond.selects_spec hsel
  cases hcls.symm.trans q1
  cases (State.methodFound?_of_named hnamed hy).symm.trans q2
  cases hnamed.symm.trans q3
  have hselP : selectMethod e.platform s.vm cellB.cls mk = .method mk := by rw [Launch.admits_selectMethod X.admits]; exact q4
  obtain ⟨vm₁, X₁, hstep₁⟩ := X.invokevirtual hexec hown hlink hnamed hmethM hstM hkP hkPi hy (a := b) (cell := cellB) hcell
    (fun z h => by rw [h] at hobj; cases hobj) hselP hmethM habM hkP hkPi (g := g) hg (argsL := argsL) (rest := rest) (hlen _ hsigM) hstack hdg
  rcases hK m meth c ⟨T.setVm vm₁, locs, cells, slots⟩ { g with stack := rest } (.invokevirtual index) mk (Value.ref b :: argsL).toArray X₁ hg hsize hdg hW (X₁.named hnamed) (hpre vm₁ X₁.warmed) with ⟨v, B, X', hpost, hsteps⟩ | ⟨q, B, X', hpost, hsteps⟩
  · exact Or.inl ⟨v, vm₁, B, X₁.warmed, X', hpost, fun target h => hstep₁ _ fun acts => by rw [doInvoke_state]; exact hsteps.trans h⟩
  · exact Or.inr ⟨q, vm₁, B, X₁.warmed, X', hpost, hstep₁ _ fun acts => by rw [doInvoke_state]; exact hsteps⟩
theorem vx_callSX (X : Stand p l e R s m args below meth c T locs cells slots) (hexec : p.tables.exec = Jvm.exec) {own : String} {index : Nat} {y : MethodName} {bytes : ByteArray} {maxL : Nat} {ret : Option FieldType} {hh : List (Nat × Nat × Nat × Nat)}
    (hown : s.vm.findClass own = some m.cls) (hlink : (Cond.methodLink own index y).before args s = true) (hstat : (Cond.static y).before args s = true) (hinit : (Cond.initialized y.cls).before args s = true)
    (hcode : (Cond.codeWith y bytes maxL ret hh).before args s = true) (hy : y.cls ≠ "java/lang/invoke/MethodHandle" ∧ y.cls ≠ "java/lang/invoke/VarHandle")
    {W9 : Nat} {Pre : Pt → Array Value → Prop} {Post : Pt → Array Value → Option Value → Pt → Prop} {PostX : Pt → Array Value → Addr → Pt → Prop} (hK : vx_Back l R p e below s args y 3 W9 Pre Post PostX)
    {g : JFrame} (hg : g.method = m) (hsize : g.locals.size = c.maxLocals) {argsL rest : List Value} (hlen : ∀ sig, parseMethodDescriptor y.desc = some sig → argsL.length = sig.parameters.length)
    (hstack : g.stack = argsL.reverse ++ rest) (hW : 2 * g.monitorRoom + (rest.map fun v => v.category).sum ≤ W9) (hdg : decode c.code g.pc = .ok (.invokestatic index, 3))
    (hpre : ∀ vm₁, s.WarmedH vm₁ → Pre ⟨T.setVm vm₁, locs, cells, slots⟩ argsL.toArray) :
    (∃ (v : Option Value) (vm₁ : Vm) (B : Pt), s.WarmedH vm₁ ∧ Stand p l e R s m args below meth c B.U B.locs B.cells B.slots ∧ Post ⟨T.setVm vm₁, locs, cells, slots⟩ argsL.toArray v B ∧
      ∀ target, Steps p.tables e below (B.U.setTop { g with pc := g.pc + 3, stack := v.toList ++ rest }) target → Steps p.tables e below (T.setTop g) target) ∨
    (∃ (q : Addr) (vm₁ : Vm) (B : Pt), s.WarmedH vm₁ ∧ Stand p l e R s m args below meth c B.U B.locs B.cells B.slots ∧ PostX ⟨T.setVm vm₁, locs, cells, slots⟩ argsL.toArray q B ∧
      Steps p.tables e below (T.setTop g) ((B.U.setTop { g with stack := rest }).pushFrame (.throwing q))) := by
  obtain ⟨mk, methM, cM, hnamed, hmethM, -, -, -, -, -, -, hsigM⟩ := Cond.codeWith_spec hcode
  have hstatic : methM.isStatic = true := Cond.static_spec hnamed hmethM hstat
  obtain ⟨kP, hkP, -⟩ := className_of_methodNamed hnamed
  have hinitP : kP.init = .initialized := Cond.initialized_spec (findClass_of_methodNamed hnamed) hkP hinit
  obtain ⟨vm₁, X₁, hstep₁⟩ := X.invokestatic hexec hown hlink hnamed hmethM hstatic hkP hinitP hy (g := g) hg (argsL := argsL) (rest := rest) (hlen _ hsigM) hstack hdg
  rcases hK m meth c ⟨T.setVm vm₁, locs, cells, slots⟩ { g with stack := rest } (.invokestatic index) mk argsL.toArray X₁ hg hsize hdg hW (X₁.named hnamed) (hpre vm₁ X₁.warmed) with ⟨v, B, X', hpost, hsteps⟩ | ⟨q, B, X', hpost, hsteps⟩
  · exact Or.inl ⟨v, vm₁, B, X₁.warmed, X', hpost, fun target h => hstep₁ _ fun acts => by rw [doInvoke_state]; exact hsteps.trans h⟩
  · exact Or.inr ⟨q, vm₁, B, X₁.warmed, X', hpost, hstep₁ _ fun acts => by rw [doInvoke_state]; exact hsteps⟩
theorem vx_callVW (X : Stand p l e R s m args below meth c T locs cells slots) (hexec : p.tables.exec = Jvm.exec) {own C : String} {index : Nat} {y : MethodName} {bytes : ByteArray} {maxL : Nat} {ret : Option FieldType} {hh : List (Nat × Nat × Nat × Nat)}
    (hown : s.vm.findClass own = some m.cls) (hlink : (Cond.methodLink own index y).before args s = true) (hinst : (Cond.instanceMethod y).before args s = true) (hsel : (Cond.selects C y y).before args s = true)
    (hcode : (Cond.codeWith y bytes maxL ret hh).before args s = true) (hy : y.cls ≠ "java/lang/invoke/MethodHandle" ∧ y.cls ≠ "java/lang/invoke/VarHandle")
    {W9 : Nat} {Pre : Pt → Array Value → Prop} {Post : Pt → Array Value → Option Value → Pt → Prop} (hK : Back l R p e below s args y 3 W9 Pre Post)
    {b : Addr} {cellB : Cell} (hcell : T.heap[b]? = some cellB) (hobj : cellB.vm.isStatics = false) (hcls : s.vm.findClass C = some cellB.cls)
    {g : JFrame} (hg : g.method = m) (hsize : g.locals.size = c.maxLocals) {argsL rest : List Value} (hlen : ∀ sig, parseMethodDescriptor y.desc = some sig → argsL.length = sig.parameters.length)
    (hstack : g.stack = argsL.reverse ++ .ref b :: rest) (hW : 2 * g.monitorRoom + (rest.map fun v => v.category).sum ≤ W9) (hdg : decode c.code g.pc = .ok (.invokevirtual index, 3))
    (hpre : ∀ vm₁, s.WarmedH vm₁ → Pre ⟨T.setVm vm₁, locs, cells, slots⟩ (Value.ref b :: argsL).toArray) :
    ∃ (v : Option Value) (vm₁ : Vm) (B : Pt), s.WarmedH vm₁ ∧ Stand p l e R s m args below meth c B.U B.locs B.cells B.slots ∧ Post ⟨T.setVm vm₁, locs, cells, slots⟩ (Value.ref b :: argsL).toArray v B ∧
      ∀ target, Steps p.tables e below (B.U.setTop { g with pc := g.pc + 3, stack := v.toList ++ rest }) target → Steps p.tables e below (T.setTop g) target := by
  obtain ⟨mk, methM, hnamed, hmethM, hstM, habM⟩ := Cond.instanceMethod_spec hinst
  obtain ⟨m8, methM', cM, hn8, hmethM', -, -, -, -, -, -, hsigM⟩ := Cond.codeWith_spec hcode
  cases Option.some.inj (hn8.symm.trans hnamed)
  cases hmethM.symm.trans hmethM'
  obtain ⟨c2, r2, m2, q1, q2, q3, q4, kP, hkP, hkPi⟩ := Cond.selects_spec hsel
  cases hcls.symm.trans q1
  cases (State.methodFound?_of_named hnamed hy).symm.trans q2
  cases hnamed.symm.trans q3
  have hselP : selectMethod e.platform s.vm cellB.cls mk = .method mk := by rw [Launch.admits_selectMethod X.admits]; exact q4
  obtain ⟨vm₁, X₁, hstep₁⟩ := X.invokevirtual hexec hown hlink hnamed hmethM hstM hkP hkPi hy (a := b) (cell := cellB) hcell
    (fun z h => by rw [h] at hobj; cases hobj) hselP hmethM habM hkP hkPi (g := g) hg (argsL := argsL) (rest := rest) (hlen _ hsigM) hstack hdg
  obtain ⟨v, B, X', hpost, hsteps⟩ := hK m meth c ⟨T.setVm vm₁, locs, cells, slots⟩ { g with stack := rest } (.invokevirtual index) mk (Value.ref b :: argsL).toArray X₁ hg hsize hdg hW (X₁.named hnamed) (hpre vm₁ X₁.warmed)
  exact ⟨v, vm₁, B, X₁.warmed, X', hpost, fun target h => hstep₁ _ fun acts => by rw [doInvoke_state]; exact hsteps.trans h⟩
abbrev vx_CVW (R : Room) (s : State) (args : Array Value) (own C : String) (index : Nat) (y : MethodName) (bytes : ByteArray) (maxL : Nat) (ret : Option FieldType) (hh : List (Nat × Nat × Nat × Nat)) (ws : List Cond) (rm : Room) (mc ms n : Nat) : Prop :=
  (rm.cells = mc ∧ rm.slots = ms ∧ rm.frames + 1 ≤ R.frames ∧ 8 + (maxL + 11) + rm.locals ≤ R.locals ∧ (∀ w ∈ ws, ∀ (a' : Array Value) (U : State), s.WarmedH U.vm → w.before a' U = true) ∧ Cond.codeWith y bytes maxL ret hh ∈ ws) ∧
  (Cond.codeWith y bytes maxL ret hh).before args s = true ∧ (Cond.initialized y.cls).before args s = true ∧ (y.cls ≠ "java/lang/invoke/MethodHandle" ∧ y.cls ≠ "java/lang/invoke/VarHandle") ∧
  (∀ sig, parseMethodDescriptor y.desc = some sig → n = sig.parameters.length) ∧ (Cond.methodLink own index y).before args s = true ∧ (Cond.instanceMethod y).before args s = true ∧ (Cond.selects C y y).before args s = true
theorem vx_cwVW {own C : String} {index maxL mc ms : Nat} {y : MethodName} {bytes : ByteArray} {ret : Option FieldType} {hh : List (Nat × Nat × Nat × Nat)} {Ts ws ws' : List Cond} {rm : Room} (n : Nat) (ht : ∀ w ∈ Ts, w.before args s = true) (hT : GoodIn Ts (wsV own index C y ws)) (hw : ws = Cond.codeWith y bytes maxL ret hh :: ws') (hrc : rm.cells = mc) (hrs : rm.slots = ms)
    (hd : y.cls = C ∧ y.cls ≠ "java/lang/invoke/MethodHandle" ∧ y.cls ≠ "java/lang/invoke/VarHandle" ∧ (parseMethodDescriptor y.desc).map (fun d => d.parameters.length) = some n) (hR : rm.frames + 1 ≤ R.frames ∧ 8 + (maxL + 11) + rm.locals ≤ R.locals) :
    vx_CVW R s args own C index y bytes maxL ret hh ws rm mc ms n := by
  obtain ⟨hC, hd⟩ := hd
  subst hC
  have ok : ∀ w ∈ wsV own index y.cls y ws, w.before args s = true := fun w h => ht w (hT w h).1
  have hG : GoodIn Ts ws := fun w h => hT w (by unfold wsV; exact List.mem_append_right _ h)
  have hc : Cond.codeWith y bytes maxL ret hh ∈ ws := by rw [hw]; exact List.mem_cons_self
  refine ⟨⟨hrc, hrs, hR.1, hR.2, pay_in ht hG, hc⟩, ht _ (hG _ hc).1, ok _ (by simp [wsV]), ⟨hd.1, hd.2.1⟩, fun sig h => ?_, ok _ (by simp [wsV]), ok _ (by simp [wsV]), ok _ (by simp [wsV])⟩
  have h2 := hd.2.2
  rw [h] at h2
  exact (Option.some.inj h2).symm
theorem vx_runVW {y : MethodName} {bytes cc : ByteArray} {maxL nL mc ms n index : Nat} {ret : Option FieldType} {hh : List (Nat × Nat × Nat × Nat)} {ws : List Cond} {rm : Room} {Pc : Array Value → State → Prop} {Qc : Array Value → State → Outcome → State → Prop} {free : Addr → Prop} {Ts : List Cond} {own C : String} {b : Addr} {As rest : List Value} {g : JFrame}
    (S : CallFix p m c cc nL s args Ts own) (hM : Met l y ws rm Pc Qc mc ms free) (cw : vx_CVW R s args own C index y bytes maxL ret hh ws rm mc ms n) (hp : PreV s H C b Pc As)
    (hg : g.method = m) (hn : As.length = n) (hsize : g.locals.size = nL) (hstack : g.stack = As.reverse ++ .ref b :: rest) (hW : 2 * g.monitorRoom + (rest.map fun v => v.category).sum ≤ 8) (hdg : decode cc g.pc = .ok (.invokevirtual index, 3)) (hf : cells + mc ≤ R.cells ∧ slots + ms ≤ R.slots) :
    va_Run p l e R s m args below meth c H locs cells slots mc ms g rest (Qc (Value.ref b :: As).toArray) free := by
  obtain ⟨⟨hrc, hrs, hfr, hlo, hws, hcw⟩, hcode, hini, hy, hlen, hl, hin, hse⟩ := cw
  have hK : Back l R p e below s args y 3 8 (PreOf R mc ms Pc) (PostOf Qc mc ms free) := va_backW (hh := hh) (bytes := bytes) (maxL := maxL) (ret := ret) hM hp.1 hrc hrs hfr hlo hws hcw (fun a' U hW => word_at hW (Or.inl (by first | rfl | simp [Cond.onTables, Cond.keeps, Cond.steady])) hini)
  obtain ⟨hx, hb, hml, ho, -⟩ := S
  obtain ⟨-, ⟨cellB, hcB, hoB, hclB⟩, hPc⟩ := hp
  intro T hT X
  obtain ⟨v, vm₁, ⟨U', l2, c2, s2⟩, hW₁, X', ⟨g', mk, t, L, e1, e2, hq, h1, hL, h2, h3⟩, st⟩ := vx_callVW X hx (C := C) (hh := hh) (bytes := bytes) (maxL := maxL) (ret := ret) ho hl hin hse hcode hy hK (by rw [hT]; exact hcB) hoB hclB hg (hsize.trans hml.symm) (argsL := As) (rest := rest) (fun sig h => hn.trans (hlen sig h)) hstack hW (by rw [hb]; exact hdg)
    (fun vm₁ hW₁ => ⟨hf.1, hf.2, hPc (T.setVm vm₁) hT hW₁⟩)
  dsimp only [Pt.U, Pt.locs, Pt.cells, Pt.slots] at X' e1 e2 h1 h2 h3 st
  subst h1; subst h2; subst h3
  exact ⟨v, (T.setVm vm₁).calling g' mk (Value.ref b :: As).toArray, t, U', L, hT, X', hL, e1, e2, hq, st⟩
section
variable {y : MethodName} {bytes cc : ByteArray} {maxL nL mc ms n index : Nat} {ret : Option FieldType} {ws : List Cond} {rm : Room} {Pc : Array Value → State → Prop} {Qc : Array Value → State → Outcome → State → Prop} {XC : String → State → State → Prop} {free : Addr → Prop} {Ts : List Cond} {own C : String} {b : Addr} {As rest : List Value} {g : JFrame}
theorem vx_runVX {hh : List (Nat × Nat × Nat × Nat)} (S : CallFix p m c cc nL s args Ts own) (hM : vx_Met l y ws rm Pc Qc XC mc ms free) (cw : vx_CVW R s args own C index y bytes maxL ret hh ws rm mc ms n) (hp : PreV s H C b Pc As)
    (hg : g.method = m) (hn : As.length = n) (hsize : g.locals.size = nL) (hstack : g.stack = As.reverse ++ .ref b :: rest) (hW : 2 * g.monitorRoom + (rest.map fun v => v.category).sum ≤ 8) (hdg : decode cc g.pc = .ok (.invokevirtual index, 3)) (hf : cells + mc ≤ R.cells ∧ slots + ms ≤ R.slots) :
    vx_Run p l e R s m args below meth c H locs cells slots mc ms g rest (Qc (Value.ref b :: As).toArray) XC free := by
  obtain ⟨⟨hrc, hrs, hfr, hlo, hws, hcw⟩, hcode, hini, hy, hlen, hl, hin, hse⟩ := cw
  have hK : vx_Back l R p e below s args y 3 8 (PreOf R mc ms Pc) (PostOf Qc mc ms free) (vx_Post XC mc ms free) := vx_backW (hh := hh) (bytes := bytes) (maxL := maxL) (ret := ret) hM hp.1 hrc hrs hfr hlo hws hcw (fun a' U hW => word_at hW (Or.inl (by first | rfl | simp [Cond.onTables, Cond.keeps, Cond.steady])) hini)
  obtain ⟨hx, hb, hml, ho, -⟩ := S
  obtain ⟨-, ⟨cellB, hcB, hoB, hclB⟩, hPc⟩ := hp
  intro T hT X
  rcases vx_callVX X hx (C := C) (hh := hh) (bytes := bytes) (maxL := maxL) (ret := ret) ho hl hin hse hcode hy hK (by rw [hT]; exact hcB) hoB hclB hg (hsize.trans hml.symm) (argsL := As) (rest := rest) (fun sig h => hn.trans (hlen sig h)) hstack hW (by rw [hb]; exact hdg)
    (fun vm₁ hW₁ => ⟨hf.1, hf.2, hPc (T.setVm vm₁) hT hW₁⟩) with ⟨v, vm₁, ⟨U', l2, c2, s2⟩, hW₁, X', ⟨g', mk, t, L, e1, e2, hq, h1, hL, h2, h3⟩, st⟩ | ⟨q, vm₁, ⟨U', l2, c2, s2⟩, hW₁, X', ⟨g', mk, t, L, E, ce, e1, e2, hq, hce, hcv, hcl, h1, hL, h2, h3⟩, st⟩
  · dsimp only [Pt.U, Pt.locs, Pt.cells, Pt.slots] at X' e1 e2 h1 h2 h3 st
    subst h1; subst h2; subst h3
    exact Or.inl ⟨v, (T.setVm vm₁).calling g' mk (Value.ref b :: As).toArray, t, U', L, hT, X', hL, e1, e2, hq, st⟩
  · dsimp only [Pt.U, Pt.locs, Pt.cells, Pt.slots] at X' e1 e2 h1 h2 h3 st hcl
    subst h1; subst h2; subst h3
    exact Or.inr ⟨q, (T.setVm vm₁).calling g' mk (Value.ref b :: As).toArray, t, U', L, E, ce, hT, X', hL, e1, e2, hq, hce, hcv, vx_cls hW₁ hcl, st⟩
theorem vx_runSX {hh : List (Nat × Nat × Nat × Nat)} (S : CallFix p m c cc nL s args Ts own) (hM : vx_Met l y ws rm Pc Qc XC mc ms free) (cw : vx_CSW R s args own index y bytes maxL ret hh ws rm mc ms n) (hp : PreS s H Pc As)
    (hg : g.method = m) (hn : As.length = n) (hsize : g.locals.size = nL) (hstack : g.stack = As.reverse ++ rest) (hW : 2 * g.monitorRoom + (rest.map fun v => v.category).sum ≤ 8) (hdg : decode cc g.pc = .ok (.invokestatic index, 3)) (hf : cells + mc ≤ R.cells ∧ slots + ms ≤ R.slots) :
    vx_Run p l e R s m args below meth c H locs cells slots mc ms g rest (Qc As.toArray) XC free := by
  obtain ⟨⟨hrc, hrs, hfr, hlo, hws, hcw⟩, hcode, hini, hy, hlen, hl, hstt⟩ := cw
  have hK : vx_Back l R p e below s args y 3 8 (PreOf R mc ms Pc) (PostOf Qc mc ms free) (vx_Post XC mc ms free) := vx_backW (hh := hh) (bytes := bytes) (maxL := maxL) (ret := ret) hM hp.1 hrc hrs hfr hlo hws hcw (fun a' U hW => word_at hW (Or.inl (by first | rfl | simp [Cond.onTables, Cond.keeps, Cond.steady])) hini)
  obtain ⟨hx, hb, hml, ho, -⟩ := S
  intro T hT X
  rcases vx_callSX X hx (hh := hh) (bytes := bytes) (maxL := maxL) (ret := ret) ho hl hstt hini hcode hy hK hg (hsize.trans hml.symm) (argsL := As) (rest := rest) (fun sig h => hn.trans (hlen sig h)) hstack hW (by rw [hb]; exact hdg)
    (fun vm₁ hW₁ => ⟨hf.1, hf.2, hp.2 (T.setVm vm₁) hT hW₁⟩) with ⟨v, vm₁, ⟨U', l2, c2, s2⟩, hW₁, X', ⟨g', mk, t, L, e1, e2, hq, h1, hL, h2, h3⟩, st⟩ | ⟨q, vm₁, ⟨U', l2, c2, s2⟩, hW₁, X', ⟨g', mk, t, L, E, ce, e1, e2, hq, hce, hcv, hcl, h1, hL, h2, h3⟩, st⟩
  · dsimp only [Pt.U, Pt.locs, Pt.cells, Pt.slots] at X' e1 e2 h1 h2 h3 st
    subst h1; subst h2; subst h3
    exact Or.inl ⟨v, (T.setVm vm₁).calling g' mk As.toArray, t, U', L, hT, X', hL, e1, e2, hq, st⟩
  · dsimp only [Pt.U, Pt.locs, Pt.cells, Pt.slots] at X' e1 e2 h1 h2 h3 st hcl
    subst h1; subst h2; subst h3
    exact Or.inr ⟨q, (T.setVm vm₁).calling g' mk As.toArray, t, U', L, E, ce, hT, X', hL, e1, e2, hq, hce, hcv, vx_cls hW₁ hcl, st⟩
end
end VXH
theorem vx_ofWH {l : Launch} {y : MethodName} {ws ws' : List Cond} {rm : Room} {Pc : Array Value → State → Prop} {Qc : Array Value → State → Outcome → State → Prop} {XC : String → State → State → Prop} {mc ms : Nat} {free : Addr → Prop} {cc : ByteArray} {maxL : Nat} {ret : Option FieldType} {hh : List (Nat × Nat × Nat × Nat)}
    (hy : plainName y.cls = true) (hw : ws = Cond.codeWith y cc maxL ret hh :: ws')
    (body : ∀ p e s m args below meth c s₁, BodyLoose p l y (headSpec ws rm) cc maxL ret e s m args below meth c s₁ → c.maxLocals = maxL → Pc args s →
      W p l e (headSpec ws rm).room s m args below meth c s.heap [] 0 0 (vx_MQ below Qc XC args s mc ms free) (entryFrame m args maxL)) : vx_Met l y ws rm Pc Qc XC mc ms free := by
  refine MetFree.of_bodyS (code := cc) (maxLocals := maxL) (ret := ret) hy ?_ ?_
  · intro args s m h hn
    obtain ⟨m9, meth, c, hn9, h1, h2, h3, h4, -, h5, h6, -⟩ := Cond.codeWith_spec (atoms_spec (ws := ws) h _ (by rw [hw]; exact List.mem_cons_self))
    cases hn.symm.trans hn9
    exact ⟨meth, c, h1, h2, h3, h4, h5, h6⟩
  · intro p e s m args below meth c s₁ B hml hP _
    have hh0 : s₁.heap = s.heap := by rw [B.state]; rfl
    obtain ⟨t, a1, o, b1, b2, b3⟩ := body p e s m args below meth c s₁ B hml hP s₁ hh0 (Stand.of_body B)
    exact ⟨t, o, a1, b1, b2, b3⟩
/-! ===== END ===== -/

/-! ===== BEGIN printed: names, fields, word lists, decode rows ===== -/
end
section
def RX0 : String := "Glosstemplate$Clause"
def TX0 : u_T := fun k => match k with
  | 0 => ("Glosstemplate$Clause", "condition", "I", true)
  | 1 => ("Glosstemplate$Clause", "templates", "[LGlosstemplate$Template;", true)
  | _ => ("Glosstemplate$Clause", "hows", "[I", true)
def tyX0 : Nat → FieldType := fun k => match k with
  | 0 => .int
  | 1 => .array (.object "Glosstemplate$Template")
  | _ => .array .int
abbrev wsX00 : List Cond := u_ws RX0 TX0 3
theorem nmX0 : ∀ a, a < 3 → ∀ b, b < 3 → a ≠ b → (TX0 a).2.1 ≠ (TX0 b).2.1 := by decide +kernel
theorem tyX0_ok : ∀ k, k < 3 → parseFieldDescriptor (TX0 k).2.2.1 = some (tyX0 k) := by decide +kernel
abbrev cX0_init : ByteArray := prog_2_method_1_code
def yX0_init : MethodName := ⟨RX0, "<init>", "(I)V"⟩
abbrev cX0_condition : ByteArray := prog_2_method_2_code
def yX0_condition : MethodName := ⟨RX0, "condition", "()I"⟩
abbrev cX0_templateIn : ByteArray := prog_2_method_3_code
def yX0_templateIn : MethodName := ⟨RX0, "templateIn", "(I)LGlosstemplate$Template;"⟩
abbrev cX0_how : ByteArray := prog_2_method_4_code
def yX0_how : MethodName := ⟨RX0, "how", "(II)I"⟩
abbrev cX0_setHow : ByteArray := prog_2_method_5_code
def yX0_setHow : MethodName := ⟨RX0, "setHow", "(III)V"⟩
abbrev cX0_howIndex : ByteArray := prog_2_method_6_code
def yX0_howIndex : MethodName := ⟨RX0, "howIndex", "(II)I"⟩
abbrev cX0_hasSameSlots : ByteArray := prog_2_method_7_code
def yX0_hasSameSlots : MethodName := ⟨RX0, "hasSameSlots", "()Z"⟩
abbrev cX0_isSameCount : ByteArray := prog_2_method_8_code
def yX0_isSameCount : MethodName := ⟨RX0, "isSameCount", "(I)Z"⟩
def RX1 : String := "Glosstemplate$Data"
def TX1 : u_T := fun k => match k with
  | 0 => ("Glosstemplate$Data", "slotWords", "[I", true)
  | _ => ("Glosstemplate$Data", "bits", "I", true)
def tyX1 : Nat → FieldType := fun k => match k with
  | 0 => .array .int
  | _ => .int
abbrev wsX10 : List Cond := u_ws RX1 TX1 2
theorem nmX1 : ∀ a, a < 2 → ∀ b, b < 2 → a ≠ b → (TX1 a).2.1 ≠ (TX1 b).2.1 := by decide +kernel
theorem tyX1_ok : ∀ k, k < 2 → parseFieldDescriptor (TX1 k).2.2.1 = some (tyX1 k) := by decide +kernel
abbrev cX1_init : ByteArray := prog_3_method_1_code
def yX1_init : MethodName := ⟨RX1, "<init>", "(II)V"⟩
abbrev cX1_wordOf : ByteArray := prog_3_method_2_code
def yX1_wordOf : MethodName := ⟨RX1, "wordOf", "(I)I"⟩
abbrev cX1_setWord : ByteArray := prog_3_method_3_code
def yX1_setWord : MethodName := ⟨RX1, "setWord", "(II)V"⟩
abbrev cX1_meets : ByteArray := prog_3_method_4_code
def yX1_meets : MethodName := ⟨RX1, "meets", "(I)Z"⟩
def RX2 : String := "Glosstemplate$Letter"
def TX2 : u_T := fun k => match k with
  | 0 => ("Glosstemplate$Letter", "row", "[I", true)
  | _ => ("Glosstemplate$Letter", "count", "I", false)
def tyX2 : Nat → FieldType := fun k => match k with
  | 0 => .array .int
  | _ => .int
abbrev wsX20 : List Cond := u_ws RX2 TX2 2
theorem nmX2 : ∀ a, a < 2 → ∀ b, b < 2 → a ≠ b → (TX2 a).2.1 ≠ (TX2 b).2.1 := by decide +kernel
theorem tyX2_ok : ∀ k, k < 2 → parseFieldDescriptor (TX2 k).2.2.1 = some (tyX2 k) := by decide +kernel
abbrev cX2_init : ByteArray := prog_4_method_1_code
def yX2_init : MethodName := ⟨RX2, "<init>", "()V"⟩
abbrev cX2_count : ByteArray := prog_4_method_2_code
def yX2_count : MethodName := ⟨RX2, "count", "()I"⟩
abbrev cX2_at : ByteArray := prog_4_method_3_code
def yX2_at : MethodName := ⟨RX2, "at", "(I)I"⟩
abbrev cX2_has : ByteArray := prog_4_method_4_code
def yX2_has : MethodName := ⟨RX2, "has", "(I)Z"⟩
abbrev cX2_append : ByteArray := prog_4_method_5_code
def yX2_append : MethodName := ⟨RX2, "append", "(I)Z"⟩
def RX3 : String := "Glosstemplate$Page"
def TX3 : u_T := fun k => match k with
  | 0 => ("Glosstemplate$Page", "signs", "LGlosstemplate$Signs;", true)
  | _ => ("Glosstemplate$Page", "open", "Z", false)
def tyX3 : Nat → FieldType := fun k => match k with
  | 0 => .object "Glosstemplate$Signs"
  | _ => .boolean
abbrev wsX30 : List Cond := u_ws RX3 TX3 2
theorem nmX3 : ∀ a, a < 2 → ∀ b, b < 2 → a ≠ b → (TX3 a).2.1 ≠ (TX3 b).2.1 := by decide +kernel
theorem tyX3_ok : ∀ k, k < 2 → parseFieldDescriptor (TX3 k).2.2.1 = some (tyX3 k) := by decide +kernel
abbrev cX3_init : ByteArray := prog_5_method_1_code
def yX3_init : MethodName := ⟨RX3, "<init>", "()V"⟩
abbrev cX3_start : ByteArray := prog_5_method_2_code
def yX3_start : MethodName := ⟨RX3, "start", "()V"⟩
abbrev cX3_lay : ByteArray := prog_5_method_3_code
def yX3_lay : MethodName := ⟨RX3, "lay", "(C)V"⟩
abbrev cX3_length : ByteArray := prog_5_method_4_code
def yX3_length : MethodName := ⟨RX3, "length", "()I"⟩
abbrev cX3_at : ByteArray := prog_5_method_5_code
def yX3_at : MethodName := ⟨RX3, "at", "(I)C"⟩
abbrev cX3_countWords : ByteArray := prog_5_method_6_code
def yX3_countWords : MethodName := ⟨RX3, "countWords", "()I"⟩
def RX4 : String := "Glosstemplate$Seeker"
def TX4 : u_T := fun k => match k with
  | 0 => ("Glosstemplate$Seeker", "left", "I", false)
  | 1 => ("Glosstemplate$Seeker", "open", "Z", false)
  | _ => ("Glosstemplate$Seeker", "found", "C", false)
def tyX4 : Nat → FieldType := fun k => match k with
  | 0 => .int
  | 1 => .boolean
  | _ => .char
abbrev wsX40 : List Cond := u_ws RX4 TX4 3
theorem nmX4 : ∀ a, a < 3 → ∀ b, b < 3 → a ≠ b → (TX4 a).2.1 ≠ (TX4 b).2.1 := by decide +kernel
theorem tyX4_ok : ∀ k, k < 3 → parseFieldDescriptor (TX4 k).2.2.1 = some (tyX4 k) := by decide +kernel
abbrev cX4_init : ByteArray := prog_6_method_1_code
def yX4_init : MethodName := ⟨RX4, "<init>", "()V"⟩
abbrev cX4_start : ByteArray := prog_6_method_2_code
def yX4_start : MethodName := ⟨RX4, "start", "(I)V"⟩
abbrev cX4_isDone : ByteArray := prog_6_method_3_code
def yX4_isDone : MethodName := ⟨RX4, "isDone", "()Z"⟩
abbrev cX4_left : ByteArray := prog_6_method_4_code
def yX4_left : MethodName := ⟨RX4, "left", "()I"⟩
abbrev cX4_found : ByteArray := prog_6_method_5_code
def yX4_found : MethodName := ⟨RX4, "found", "()C"⟩
abbrev cX4_pass : ByteArray := prog_6_method_6_code
def yX4_pass : MethodName := ⟨RX4, "pass", "(C)V"⟩
abbrev cX4_passForm : ByteArray := prog_6_method_7_code
def yX4_passForm : MethodName := ⟨RX4, "passForm", "(IC)V"⟩
def RX5 : String := "Glosstemplate$Signs"
def TX5 : u_T := fun k => match k with
  | 0 => ("Glosstemplate$Signs", "signs", "[C", true)
  | _ => ("Glosstemplate$Signs", "length", "I", false)
def tyX5 : Nat → FieldType := fun k => match k with
  | 0 => .array .char
  | _ => .int
abbrev wsX50 : List Cond := u_ws RX5 TX5 2
theorem nmX5 : ∀ a, a < 2 → ∀ b, b < 2 → a ≠ b → (TX5 a).2.1 ≠ (TX5 b).2.1 := by decide +kernel
theorem tyX5_ok : ∀ k, k < 2 → parseFieldDescriptor (TX5 k).2.2.1 = some (tyX5 k) := by decide +kernel
abbrev cX5_init : ByteArray := prog_7_method_1_code
def yX5_init : MethodName := ⟨RX5, "<init>", "(I)V"⟩
abbrev cX5_length : ByteArray := prog_7_method_2_code
def yX5_length : MethodName := ⟨RX5, "length", "()I"⟩
abbrev cX5_at : ByteArray := prog_7_method_3_code
def yX5_at : MethodName := ⟨RX5, "at", "(I)C"⟩
abbrev cX5_append : ByteArray := prog_7_method_4_code
def yX5_append : MethodName := ⟨RX5, "append", "(C)Z"⟩
abbrev cX5_empty : ByteArray := prog_7_method_5_code
def yX5_empty : MethodName := ⟨RX5, "empty", "()V"⟩
abbrev cX5_take : ByteArray := prog_7_method_6_code
def yX5_take : MethodName := ⟨RX5, "take", "(LGlosstemplate$Signs;)V"⟩
abbrev cX5_isLetters : ByteArray := prog_7_method_7_code
def yX5_isLetters : MethodName := ⟨RX5, "isLetters", "(II)Z"⟩
def RX6 : String := "Glosstemplate$Template"
def TX6 : u_T := fun k => match k with
  | 0 => ("Glosstemplate$Template", "signs", "LGlosstemplate$Signs;", true)
  | _ => ("Glosstemplate$Template", "approved", "Z", false)
def tyX6 : Nat → FieldType := fun k => match k with
  | 0 => .object "Glosstemplate$Signs"
  | _ => .boolean
abbrev wsX60 : List Cond := u_ws RX6 TX6 2
theorem nmX6 : ∀ a, a < 2 → ∀ b, b < 2 → a ≠ b → (TX6 a).2.1 ≠ (TX6 b).2.1 := by decide +kernel
theorem tyX6_ok : ∀ k, k < 2 → parseFieldDescriptor (TX6 k).2.2.1 = some (tyX6 k) := by decide +kernel
abbrev cX6_init : ByteArray := prog_8_method_1_code
def yX6_init : MethodName := ⟨RX6, "<init>", "()V"⟩
abbrev cX6_isThere : ByteArray := prog_8_method_2_code
def yX6_isThere : MethodName := ⟨RX6, "isThere", "()Z"⟩
abbrev cX6_isApproved : ByteArray := prog_8_method_3_code
def yX6_isApproved : MethodName := ⟨RX6, "isApproved", "()Z"⟩
abbrev cX6_setApproved : ByteArray := prog_8_method_4_code
def yX6_setApproved : MethodName := ⟨RX6, "setApproved", "()V"⟩
abbrev cX6_take : ByteArray := prog_8_method_5_code
def yX6_take : MethodName := ⟨RX6, "take", "(LGlosstemplate$Signs;)V"⟩
abbrev cX6_length : ByteArray := prog_8_method_6_code
def yX6_length : MethodName := ⟨RX6, "length", "()I"⟩
abbrev cX6_at : ByteArray := prog_8_method_7_code
def yX6_at : MethodName := ⟨RX6, "at", "(I)C"⟩
abbrev cX6_isSlot : ByteArray := prog_8_method_8_code
def yX6_isSlot : MethodName := ⟨RX6, "isSlot", "(I)Z"⟩
abbrev cX6_slotAt : ByteArray := prog_8_method_9_code
def yX6_slotAt : MethodName := ⟨RX6, "slotAt", "(I)I"⟩
abbrev cX6_grammarAt : ByteArray := prog_8_method_10_code
def yX6_grammarAt : MethodName := ⟨RX6, "grammarAt", "(I)I"⟩
abbrev cX6_slotCount : ByteArray := prog_8_method_11_code
def yX6_slotCount : MethodName := ⟨RX6, "slotCount", "()I"⟩
abbrev cX6_countOfSlot : ByteArray := prog_8_method_12_code
def yX6_countOfSlot : MethodName := ⟨RX6, "countOfSlot", "(I)I"⟩
def RX7 : String := "Glosstemplate$Words"
def TX7 : u_T := fun k => match k with
  | 0 => ("Glosstemplate$Words", "stems", "[LGlosstemplate$Signs;", true)
  | 1 => ("Glosstemplate$Words", "endings", "[LGlosstemplate$Signs;", true)
  | 2 => ("Glosstemplate$Words", "owns", "[LGlosstemplate$Signs;", true)
  | _ => ("Glosstemplate$Words", "count", "I", false)
def tyX7 : Nat → FieldType := fun k => match k with
  | 0 => .array (.object "Glosstemplate$Signs")
  | 1 => .array (.object "Glosstemplate$Signs")
  | 2 => .array (.object "Glosstemplate$Signs")
  | _ => .int
abbrev wsX70 : List Cond := u_ws RX7 TX7 4
theorem nmX7 : ∀ a, a < 4 → ∀ b, b < 4 → a ≠ b → (TX7 a).2.1 ≠ (TX7 b).2.1 := by decide +kernel
theorem tyX7_ok : ∀ k, k < 4 → parseFieldDescriptor (TX7 k).2.2.1 = some (tyX7 k) := by decide +kernel
abbrev cX7_init : ByteArray := prog_9_method_1_code
def yX7_init : MethodName := ⟨RX7, "<init>", "()V"⟩
abbrev cX7_count : ByteArray := prog_9_method_2_code
def yX7_count : MethodName := ⟨RX7, "count", "()I"⟩
abbrev cX7_addStem : ByteArray := prog_9_method_3_code
def yX7_addStem : MethodName := ⟨RX7, "addStem", "(LGlosstemplate$Signs;)I"⟩
abbrev cX7_setEnding : ByteArray := prog_9_method_4_code
def yX7_setEnding : MethodName := ⟨RX7, "setEnding", "(IILGlosstemplate$Signs;)V"⟩
abbrev cX7_setOwn : ByteArray := prog_9_method_5_code
def yX7_setOwn : MethodName := ⟨RX7, "setOwn", "(IIILGlosstemplate$Signs;)V"⟩
abbrev cX7_formLength : ByteArray := prog_9_method_6_code
def yX7_formLength : MethodName := ⟨RX7, "formLength", "(III)I"⟩
abbrev cX7_formSign : ByteArray := prog_9_method_7_code
def yX7_formSign : MethodName := ⟨RX7, "formSign", "(IIII)C"⟩
abbrev cX7_keptOfStem : ByteArray := prog_9_method_8_code
def yX7_keptOfStem : MethodName := ⟨RX7, "keptOfStem", "(LGlosstemplate$Signs;LGlosstemplate$Signs;)I"⟩
abbrev cX7_stemAt : ByteArray := prog_9_method_9_code
def yX7_stemAt : MethodName := ⟨RX7, "stemAt", "(I)LGlosstemplate$Signs;"⟩
abbrev cX7_endingAt : ByteArray := prog_9_method_10_code
def yX7_endingAt : MethodName := ⟨RX7, "endingAt", "(II)LGlosstemplate$Signs;"⟩
abbrev cX7_ownAt : ByteArray := prog_9_method_11_code
def yX7_ownAt : MethodName := ⟨RX7, "ownAt", "(III)LGlosstemplate$Signs;"⟩
abbrev cX7_ownIndex : ByteArray := prog_9_method_12_code
def yX7_ownIndex : MethodName := ⟨RX7, "ownIndex", "(III)I"⟩
def RX8 : String := "Glosstemplate"
def TX8 : u_T := fun k => match k with
  | 0 => ("Glosstemplate", "buffer", "LGlosstemplate$Signs;", true)
  | 1 => ("Glosstemplate", "words", "LGlosstemplate$Words;", true)
  | 2 => ("Glosstemplate", "clauses", "[LGlosstemplate$Clause;", true)
  | 3 => ("Glosstemplate", "letters", "[LGlosstemplate$Letter;", true)
  | 4 => ("Glosstemplate", "allData", "[LGlosstemplate$Data;", true)
  | 5 => ("Glosstemplate", "prices", "[I", true)
  | 6 => ("Glosstemplate", "page", "LGlosstemplate$Page;", true)
  | 7 => ("Glosstemplate", "seeker", "LGlosstemplate$Seeker;", true)
  | 8 => ("Glosstemplate", "clauseCount", "I", false)
  | 9 => ("Glosstemplate", "letterCount", "I", false)
  | _ => ("Glosstemplate", "dataCount", "I", false)
def tyX8 : Nat → FieldType := fun k => match k with
  | 0 => .object "Glosstemplate$Signs"
  | 1 => .object "Glosstemplate$Words"
  | 2 => .array (.object "Glosstemplate$Clause")
  | 3 => .array (.object "Glosstemplate$Letter")
  | 4 => .array (.object "Glosstemplate$Data")
  | 5 => .array .int
  | 6 => .object "Glosstemplate$Page"
  | 7 => .object "Glosstemplate$Seeker"
  | 8 => .int
  | 9 => .int
  | _ => .int
abbrev wsX80 : List Cond := u_ws RX8 TX8 11
theorem nmX8 : ∀ a, a < 11 → ∀ b, b < 11 → a ≠ b → (TX8 a).2.1 ≠ (TX8 b).2.1 := by decide +kernel
theorem tyX8_ok : ∀ k, k < 11 → parseFieldDescriptor (TX8 k).2.2.1 = some (tyX8 k) := by decide +kernel
abbrev cX8_init : ByteArray := prog_1_method_1_code
def yX8_init : MethodName := ⟨RX8, "<init>", "()V"⟩
abbrev cX8_type : ByteArray := prog_1_method_2_code
def yX8_type : MethodName := ⟨RX8, "type", "(C)I"⟩
abbrev cX8_clear : ByteArray := prog_1_method_3_code
def yX8_clear : MethodName := ⟨RX8, "clear", "()I"⟩
abbrev cX8_word : ByteArray := prog_1_method_4_code
def yX8_word : MethodName := ⟨RX8, "word", "()I"⟩
abbrev cX8_form : ByteArray := prog_1_method_5_code
def yX8_form : MethodName := ⟨RX8, "form", "(III)I"⟩
abbrev cX8_clause : ByteArray := prog_1_method_6_code
def yX8_clause : MethodName := ⟨RX8, "clause", "(I)I"⟩
abbrev cX8_text : ByteArray := prog_1_method_7_code
def yX8_text : MethodName := ⟨RX8, "text", "(II)I"⟩
abbrev cX8_fault : ByteArray := prog_1_method_8_code
def yX8_fault : MethodName := ⟨RX8, "fault", "()I"⟩
abbrev cX8_approve : ByteArray := prog_1_method_9_code
def yX8_approve : MethodName := ⟨RX8, "approve", "(II)Z"⟩
abbrev cX8_relate : ByteArray := prog_1_method_10_code
def yX8_relate : MethodName := ⟨RX8, "relate", "(IIII)I"⟩
abbrev cX8_isLinked : ByteArray := prog_1_method_11_code
def yX8_isLinked : MethodName := ⟨RX8, "isLinked", "(I)Z"⟩
abbrev cX8_letter : ByteArray := prog_1_method_12_code
def yX8_letter : MethodName := ⟨RX8, "letter", "()I"⟩
abbrev cX8_put : ByteArray := prog_1_method_13_code
def yX8_put : MethodName := ⟨RX8, "put", "(II)I"⟩
abbrev cX8_data : ByteArray := prog_1_method_14_code
def yX8_data : MethodName := ⟨RX8, "data", "(II)I"⟩
abbrev cX8_fill : ByteArray := prog_1_method_15_code
def yX8_fill : MethodName := ⟨RX8, "fill", "(III)I"⟩
abbrev cX8_price : ByteArray := prog_1_method_16_code
def yX8_price : MethodName := ⟨RX8, "price", "(II)I"⟩
abbrev cX8_faultOf : ByteArray := prog_1_method_17_code
def yX8_faultOf : MethodName := ⟨RX8, "faultOf", "(IIII)I"⟩
abbrev cX8_sign : ByteArray := prog_1_method_18_code
def yX8_sign : MethodName := ⟨RX8, "sign", "(IIII)C"⟩
abbrev cX8_signAnew : ByteArray := prog_1_method_19_code
def yX8_signAnew : MethodName := ⟨RX8, "signAnew", "(IIII)C"⟩
abbrev cX8_costs : ByteArray := prog_1_method_20_code
def yX8_costs : MethodName := ⟨RX8, "costs", "(III)I"⟩
abbrev cX8_sample : ByteArray := prog_1_method_21_code
def yX8_sample : MethodName := ⟨RX8, "sample", "(II)I"⟩
abbrev cX8_isBelow : ByteArray := prog_1_method_22_code
def yX8_isBelow : MethodName := ⟨RX8, "isBelow", "(II)Z"⟩
abbrev cX8_isLanguage : ByteArray := prog_1_method_23_code
def yX8_isLanguage : MethodName := ⟨RX8, "isLanguage", "(I)Z"⟩
abbrev cX8_isWord : ByteArray := prog_1_method_24_code
def yX8_isWord : MethodName := ⟨RX8, "isWord", "(I)Z"⟩
abbrev cX8_clauseAt : ByteArray := prog_1_method_25_code
def yX8_clauseAt : MethodName := ⟨RX8, "clauseAt", "(I)LGlosstemplate$Clause;"⟩
abbrev cX8_letterAt : ByteArray := prog_1_method_26_code
def yX8_letterAt : MethodName := ⟨RX8, "letterAt", "(I)LGlosstemplate$Letter;"⟩
abbrev cX8_dataAt : ByteArray := prog_1_method_27_code
def yX8_dataAt : MethodName := ⟨RX8, "dataAt", "(I)LGlosstemplate$Data;"⟩
abbrev cX8_templateAt : ByteArray := prog_1_method_28_code
def yX8_templateAt : MethodName := ⟨RX8, "templateAt", "(II)LGlosstemplate$Template;"⟩
abbrev cX8_isSmall : ByteArray := prog_1_method_29_code
def yX8_isSmall : MethodName := ⟨RX8, "isSmall", "(C)Z"⟩
abbrev cX8_isVowel : ByteArray := prog_1_method_30_code
def yX8_isVowel : MethodName := ⟨RX8, "isVowel", "(C)Z"⟩
abbrev cX8_capital : ByteArray := prog_1_method_31_code
def yX8_capital : MethodName := ⟨RX8, "capital", "(C)C"⟩
abbrev cX8_isOpenBehind : ByteArray := prog_1_method_32_code
def yX8_isOpenBehind : MethodName := ⟨RX8, "isOpenBehind", "(CZ)Z"⟩
abbrev cX8_caseOf : ByteArray := prog_1_method_33_code
def yX8_caseOf : MethodName := ⟨RX8, "caseOf", "(C)I"⟩
abbrev cX8_numberOf : ByteArray := prog_1_method_34_code
def yX8_numberOf : MethodName := ⟨RX8, "numberOf", "(C)I"⟩
abbrev cX8_slotOf : ByteArray := prog_1_method_35_code
def yX8_slotOf : MethodName := ⟨RX8, "slotOf", "(C)I"⟩
abbrev cX8_firstFault : ByteArray := prog_1_method_36_code
def yX8_firstFault : MethodName := ⟨RX8, "firstFault", "(LGlosstemplate$Signs;)I"⟩
abbrev cX8_canStand : ByteArray := prog_1_method_37_code
def yX8_canStand : MethodName := ⟨RX8, "canStand", "(CI)Z"⟩
abbrev cX8_isIn : ByteArray := prog_1_method_38_code
def yX8_isIn : MethodName := ⟨RX8, "isIn", "(LGlosstemplate$Letter;LGlosstemplate$Data;I)Z"⟩
abbrev cX8_faultAt : ByteArray := prog_1_method_39_code
def yX8_faultAt : MethodName := ⟨RX8, "faultAt", "(LGlosstemplate$Letter;LGlosstemplate$Data;III)I"⟩
abbrev cX8_isRelated : ByteArray := prog_1_method_40_code
def yX8_isRelated : MethodName := ⟨RX8, "isRelated", "(LGlosstemplate$Letter;LGlosstemplate$Data;III)Z"⟩
abbrev cX8_laidAt : ByteArray := prog_1_method_41_code
def yX8_laidAt : MethodName := ⟨RX8, "laidAt", "(LGlosstemplate$Letter;ILGlosstemplate$Data;I)LGlosstemplate$Template;"⟩
abbrev cX8_build : ByteArray := prog_1_method_42_code
def yX8_build : MethodName := ⟨RX8, "build", "(LGlosstemplate$Letter;LGlosstemplate$Data;I)V"⟩
abbrev cX8_layTemplate : ByteArray := prog_1_method_43_code
def yX8_layTemplate : MethodName := ⟨RX8, "layTemplate", "(LGlosstemplate$Template;LGlosstemplate$Data;I)V"⟩
abbrev cX8_layForm : ByteArray := prog_1_method_44_code
def yX8_layForm : MethodName := ⟨RX8, "layForm", "(III)V"⟩
abbrev cX8_seek : ByteArray := prog_1_method_45_code
def yX8_seek : MethodName := ⟨RX8, "seek", "(LGlosstemplate$Letter;LGlosstemplate$Data;I)V"⟩
abbrev cX8_seekTemplate : ByteArray := prog_1_method_46_code
def yX8_seekTemplate : MethodName := ⟨RX8, "seekTemplate", "(LGlosstemplate$Template;LGlosstemplate$Data;I)V"⟩
abbrev cX8_mostBranches : ByteArray := prog_1_method_47_code
def yX8_mostBranches : MethodName := ⟨RX8, "mostBranches", "(LGlosstemplate$Letter;I)I"⟩
abbrev cX8_branches : ByteArray := prog_1_method_48_code
def yX8_branches : MethodName := ⟨RX8, "branches", "(LGlosstemplate$Letter;LGlosstemplate$Data;)I"⟩
def RX9 : String := "GlosstemplateModel"
def TX9 : u_T := fun k => match k with
  | 0 => ("GlosstemplateModel", "length", "I", false)
  | 1 => ("GlosstemplateModel", "buffer", "[C", true)
  | 2 => ("GlosstemplateModel", "words", "I", false)
  | 3 => ("GlosstemplateModel", "stems", "[C", true)
  | 4 => ("GlosstemplateModel", "stemLengths", "[I", true)
  | 5 => ("GlosstemplateModel", "endings", "[C", true)
  | 6 => ("GlosstemplateModel", "endingLengths", "[I", true)
  | 7 => ("GlosstemplateModel", "forms", "[C", true)
  | 8 => ("GlosstemplateModel", "formLengths", "[I", true)
  | 9 => ("GlosstemplateModel", "clauses", "I", false)
  | 10 => ("GlosstemplateModel", "conditions", "[I", true)
  | 11 => ("GlosstemplateModel", "texts", "[C", true)
  | 12 => ("GlosstemplateModel", "textLengths", "[I", true)
  | 13 => ("GlosstemplateModel", "isApproved", "[Z", true)
  | 14 => ("GlosstemplateModel", "related", "[I", true)
  | 15 => ("GlosstemplateModel", "letters", "I", false)
  | 16 => ("GlosstemplateModel", "rows", "[I", true)
  | 17 => ("GlosstemplateModel", "rowLengths", "[I", true)
  | 18 => ("GlosstemplateModel", "data", "I", false)
  | 19 => ("GlosstemplateModel", "filled", "[I", true)
  | 20 => ("GlosstemplateModel", "bits", "[I", true)
  | 21 => ("GlosstemplateModel", "prices", "[I", true)
  | 22 => ("GlosstemplateModel", "built", "[C", true)
  | 23 => ("GlosstemplateModel", "signs", "I", false)
  | 24 => ("GlosstemplateModel", "begins", "Z", false)
  | 25 => ("GlosstemplateModel", "isSampled", "[Z", true)
  | _ => ("GlosstemplateModel", "thrown", "I", false)
def tyX9 : Nat → FieldType := fun k => match k with
  | 0 => .int
  | 1 => .array .char
  | 2 => .int
  | 3 => .array .char
  | 4 => .array .int
  | 5 => .array .char
  | 6 => .array .int
  | 7 => .array .char
  | 8 => .array .int
  | 9 => .int
  | 10 => .array .int
  | 11 => .array .char
  | 12 => .array .int
  | 13 => .array .boolean
  | 14 => .array .int
  | 15 => .int
  | 16 => .array .int
  | 17 => .array .int
  | 18 => .int
  | 19 => .array .int
  | 20 => .array .int
  | 21 => .array .int
  | 22 => .array .char
  | 23 => .int
  | 24 => .boolean
  | 25 => .array .boolean
  | _ => .int
abbrev wsX90 : List Cond := u_ws RX9 TX9 27
theorem nmX9 : ∀ a, a < 27 → ∀ b, b < 27 → a ≠ b → (TX9 a).2.1 ≠ (TX9 b).2.1 := by decide +kernel
theorem tyX9_ok : ∀ k, k < 27 → parseFieldDescriptor (TX9 k).2.2.1 = some (tyX9 k) := by decide +kernel
abbrev cX9_init : ByteArray := prog_11_method_1_code
def yX9_init : MethodName := ⟨RX9, "<init>", "()V"⟩
abbrev cX9_thrown : ByteArray := prog_11_method_2_code
def yX9_thrown : MethodName := ⟨RX9, "thrown", "()I"⟩
abbrev cX9_goes : ByteArray := prog_11_method_3_code
def yX9_goes : MethodName := ⟨RX9, "goes", "(I)Z"⟩
abbrev cX9_isIn : ByteArray := prog_11_method_4_code
def yX9_isIn : MethodName := ⟨RX9, "isIn", "(III)Z"⟩
abbrev cX9_isLanguage : ByteArray := prog_11_method_5_code
def yX9_isLanguage : MethodName := ⟨RX9, "isLanguage", "(I)Z"⟩
abbrev cX9_isWord : ByteArray := prog_11_method_6_code
def yX9_isWord : MethodName := ⟨RX9, "isWord", "(I)Z"⟩
abbrev cX9_isClause : ByteArray := prog_11_method_7_code
def yX9_isClause : MethodName := ⟨RX9, "isClause", "(I)Z"⟩
abbrev cX9_isLetter : ByteArray := prog_11_method_8_code
def yX9_isLetter : MethodName := ⟨RX9, "isLetter", "(I)Z"⟩
abbrev cX9_isData : ByteArray := prog_11_method_9_code
def yX9_isData : MethodName := ⟨RX9, "isData", "(I)Z"⟩
abbrev cX9_isSmall : ByteArray := prog_11_method_10_code
def yX9_isSmall : MethodName := ⟨RX9, "isSmall", "(C)Z"⟩
abbrev cX9_type : ByteArray := prog_11_method_11_code
def yX9_type : MethodName := ⟨RX9, "type", "(C)I"⟩
abbrev cX9_clear : ByteArray := prog_11_method_12_code
def yX9_clear : MethodName := ⟨RX9, "clear", "()I"⟩
abbrev cX9_isAll : ByteArray := prog_11_method_13_code
def yX9_isAll : MethodName := ⟨RX9, "isAll", "(II)Z"⟩
abbrev cX9_takes : ByteArray := prog_11_method_14_code
def yX9_takes : MethodName := ⟨RX9, "takes", "([CI)I"⟩
abbrev cX9_word : ByteArray := prog_11_method_15_code
def yX9_word : MethodName := ⟨RX9, "word", "()I"⟩
abbrev cX9_form : ByteArray := prog_11_method_16_code
def yX9_form : MethodName := ⟨RX9, "form", "(III)I"⟩
abbrev cX9_isVowel : ByteArray := prog_11_method_17_code
def yX9_isVowel : MethodName := ⟨RX9, "isVowel", "(C)Z"⟩
abbrev cX9_clause : ByteArray := prog_11_method_18_code
def yX9_clause : MethodName := ⟨RX9, "clause", "(I)I"⟩
abbrev cX9_isCase : ByteArray := prog_11_method_19_code
def yX9_isCase : MethodName := ⟨RX9, "isCase", "(C)Z"⟩
abbrev cX9_behind : ByteArray := prog_11_method_20_code
def yX9_behind : MethodName := ⟨RX9, "behind", "(IC)I"⟩
abbrev cX9_faultOfBuffer : ByteArray := prog_11_method_21_code
def yX9_faultOfBuffer : MethodName := ⟨RX9, "faultOfBuffer", "()I"⟩
abbrev cX9_fault : ByteArray := prog_11_method_22_code
def yX9_fault : MethodName := ⟨RX9, "fault", "()I"⟩
abbrev cX9_at : ByteArray := prog_11_method_23_code
def yX9_at : MethodName := ⟨RX9, "at", "(II)I"⟩
abbrev cX9_text : ByteArray := prog_11_method_24_code
def yX9_text : MethodName := ⟨RX9, "text", "(II)I"⟩
abbrev cX9_approve : ByteArray := prog_11_method_25_code
def yX9_approve : MethodName := ⟨RX9, "approve", "(II)Z"⟩
abbrev cX9_relate : ByteArray := prog_11_method_26_code
def yX9_relate : MethodName := ⟨RX9, "relate", "(IIII)I"⟩
abbrev cX9_often : ByteArray := prog_11_method_27_code
def yX9_often : MethodName := ⟨RX9, "often", "(II)I"⟩
abbrev cX9_isLinked : ByteArray := prog_11_method_28_code
def yX9_isLinked : MethodName := ⟨RX9, "isLinked", "(I)Z"⟩
abbrev cX9_letter : ByteArray := prog_11_method_29_code
def yX9_letter : MethodName := ⟨RX9, "letter", "()I"⟩
abbrev cX9_has : ByteArray := prog_11_method_30_code
def yX9_has : MethodName := ⟨RX9, "has", "(II)Z"⟩
abbrev cX9_put : ByteArray := prog_11_method_31_code
def yX9_put : MethodName := ⟨RX9, "put", "(II)I"⟩
abbrev cX9_data : ByteArray := prog_11_method_32_code
def yX9_data : MethodName := ⟨RX9, "data", "(II)I"⟩
abbrev cX9_fill : ByteArray := prog_11_method_33_code
def yX9_fill : MethodName := ⟨RX9, "fill", "(III)I"⟩
abbrev cX9_price : ByteArray := prog_11_method_34_code
def yX9_price : MethodName := ⟨RX9, "price", "(II)I"⟩
abbrev cX9_meets : ByteArray := prog_11_method_35_code
def yX9_meets : MethodName := ⟨RX9, "meets", "(II)Z"⟩
abbrev cX9_isBroken : ByteArray := prog_11_method_36_code
def yX9_isBroken : MethodName := ⟨RX9, "isBroken", "(IIIII)Z"⟩
abbrev cX9_faultOf : ByteArray := prog_11_method_37_code
def yX9_faultOf : MethodName := ⟨RX9, "faultOf", "(IIII)I"⟩
abbrev cX9_lays : ByteArray := prog_11_method_38_code
def yX9_lays : MethodName := ⟨RX9, "lays", "(C)V"⟩
abbrev cX9_laysForm : ByteArray := prog_11_method_39_code
def yX9_laysForm : MethodName := ⟨RX9, "laysForm", "(III)V"⟩
abbrev cX9_grammar : ByteArray := prog_11_method_40_code
def yX9_grammar : MethodName := ⟨RX9, "grammar", "(CC)I"⟩
abbrev cX9_laysText : ByteArray := prog_11_method_41_code
def yX9_laysText : MethodName := ⟨RX9, "laysText", "(III)V"⟩
abbrev cX9_builds : ByteArray := prog_11_method_42_code
def yX9_builds : MethodName := ⟨RX9, "builds", "(III)V"⟩
abbrev cX9_signOf : ByteArray := prog_11_method_43_code
def yX9_signOf : MethodName := ⟨RX9, "signOf", "(IIII)C"⟩
abbrev cX9_sign : ByteArray := prog_11_method_44_code
def yX9_sign : MethodName := ⟨RX9, "sign", "(IIII)C"⟩
abbrev cX9_signAnew : ByteArray := prog_11_method_45_code
def yX9_signAnew : MethodName := ⟨RX9, "signAnew", "(IIII)C"⟩
abbrev cX9_costs : ByteArray := prog_11_method_46_code
def yX9_costs : MethodName := ⟨RX9, "costs", "(III)I"⟩
abbrev cX9_branches : ByteArray := prog_11_method_47_code
def yX9_branches : MethodName := ⟨RX9, "branches", "(II)I"⟩
abbrev cX9_sample : ByteArray := prog_11_method_48_code
def yX9_sample : MethodName := ⟨RX9, "sample", "(II)I"⟩
def RL : String := "GlosstemplateLaw"
abbrev cL_type : ByteArray := method_3_code
def yL_type : MethodName := ⟨RL, "type", "(LGlosstemplate;C[J)I"⟩
abbrev cL_word : ByteArray := method_4_code
def yL_word : MethodName := ⟨RL, "word", "(LGlosstemplate;[J)I"⟩
abbrev cL_form : ByteArray := method_5_code
def yL_form : MethodName := ⟨RL, "form", "(LGlosstemplate;III[J)I"⟩
abbrev cL_clause : ByteArray := method_6_code
def yL_clause : MethodName := ⟨RL, "clause", "(LGlosstemplate;I[J)I"⟩
abbrev cL_text : ByteArray := method_7_code
def yL_text : MethodName := ⟨RL, "text", "(LGlosstemplate;II[J)I"⟩
abbrev cL_approve : ByteArray := method_8_code
def yL_approve : MethodName := ⟨RL, "approve", "(LGlosstemplate;II[J)I"⟩
abbrev cL_relate : ByteArray := method_9_code
def yL_relate : MethodName := ⟨RL, "relate", "(LGlosstemplate;IIII[J)I"⟩
abbrev cL_isLinked : ByteArray := method_10_code
def yL_isLinked : MethodName := ⟨RL, "isLinked", "(LGlosstemplate;I[J)I"⟩
abbrev cL_letter : ByteArray := method_11_code
def yL_letter : MethodName := ⟨RL, "letter", "(LGlosstemplate;[J)I"⟩
abbrev cL_put : ByteArray := method_12_code
def yL_put : MethodName := ⟨RL, "put", "(LGlosstemplate;II[J)I"⟩
abbrev cL_data : ByteArray := method_13_code
def yL_data : MethodName := ⟨RL, "data", "(LGlosstemplate;II[J)I"⟩
abbrev cL_fill : ByteArray := method_14_code
def yL_fill : MethodName := ⟨RL, "fill", "(LGlosstemplate;III[J)I"⟩
abbrev cL_price : ByteArray := method_15_code
def yL_price : MethodName := ⟨RL, "price", "(LGlosstemplate;II[J)I"⟩
abbrev cL_faultOf : ByteArray := method_16_code
def yL_faultOf : MethodName := ⟨RL, "faultOf", "(LGlosstemplate;IIII[J)I"⟩
abbrev cL_sign : ByteArray := method_17_code
def yL_sign : MethodName := ⟨RL, "sign", "(LGlosstemplate;IIII[J)I"⟩
abbrev cL_signAnew : ByteArray := method_18_code
def yL_signAnew : MethodName := ⟨RL, "signAnew", "(LGlosstemplate;IIII[J)I"⟩
abbrev cL_costs : ByteArray := method_19_code
def yL_costs : MethodName := ⟨RL, "costs", "(LGlosstemplate;III[J)I"⟩
abbrev cL_sample : ByteArray := method_20_code
def yL_sample : MethodName := ⟨RL, "sample", "(LGlosstemplate;II[J)I"⟩
abbrev cL_law : ByteArray := code
def yL_law : MethodName := ⟨RL, "law", "([I)Z"⟩
abbrev vwCl : List vw_C := [(RX0, TX0, 3), (RX1, TX1, 2), (RX2, TX2, 2), (RX3, TX3, 2), (RX4, TX4, 3), (RX5, TX5, 2), (RX6, TX6, 2), (RX7, TX7, 4), (RX8, TX8, 11), (RX9, TX9, 27)]
end
section
theorem dX0_init_0 : decode cX0_init 0 = .ok (.aload_n 0, 1) := by decide +kernel
theorem dX0_init_1 : decode cX0_init 1 = .ok (.invokespecial 3, 3) := by decide +kernel
theorem dX0_init_4 : decode cX0_init 4 = .ok (.aload_n 0, 1) := by decide +kernel
theorem dX0_init_5 : decode cX0_init 5 = .ok (.iconst 3, 1) := by decide +kernel
theorem dX0_init_6 : decode cX0_init 6 = .ok (.anewarray 9, 3) := by decide +kernel
theorem dX0_init_9 : decode cX0_init 9 = .ok (.putfield 11, 3) := by decide +kernel
theorem dX0_init_12 : decode cX0_init 12 = .ok (.aload_n 0, 1) := by decide +kernel
theorem dX0_init_13 : decode cX0_init 13 = .ok (.bipush 40, 2) := by decide +kernel
theorem dX0_init_15 : decode cX0_init 15 = .ok (.newarray .int, 2) := by decide +kernel
theorem dX0_init_17 : decode cX0_init 17 = .ok (.putfield 17, 3) := by decide +kernel
theorem dX0_init_20 : decode cX0_init 20 = .ok (.aload_n 0, 1) := by decide +kernel
theorem dX0_init_21 : decode cX0_init 21 = .ok (.iload_n 1, 1) := by decide +kernel
theorem dX0_init_22 : decode cX0_init 22 = .ok (.putfield 21, 3) := by decide +kernel
theorem dX0_init_25 : decode cX0_init 25 = .ok (.iconst 0, 1) := by decide +kernel
theorem dX0_init_26 : decode cX0_init 26 = .ok (.istore_n 2, 1) := by decide +kernel
theorem dX0_init_27 : decode cX0_init 27 = .ok (.iload_n 2, 1) := by decide +kernel
theorem dX0_init_28 : decode cX0_init 28 = .ok (.aload_n 0, 1) := by decide +kernel
theorem dX0_init_29 : decode cX0_init 29 = .ok (.getfield 11, 3) := by decide +kernel
theorem dX0_init_32 : decode cX0_init 32 = .ok (.arraylength, 1) := by decide +kernel
theorem dX0_init_33 : decode cX0_init 33 = .ok (.if_icmp .ge 22, 3) := by decide +kernel
theorem dX0_init_36 : decode cX0_init 36 = .ok (.aload_n 0, 1) := by decide +kernel
theorem dX0_init_37 : decode cX0_init 37 = .ok (.getfield 11, 3) := by decide +kernel
theorem dX0_init_40 : decode cX0_init 40 = .ok (.iload_n 2, 1) := by decide +kernel
theorem dX0_init_41 : decode cX0_init 41 = .ok (.new 9, 3) := by decide +kernel
theorem dX0_init_44 : decode cX0_init 44 = .ok (.dup, 1) := by decide +kernel
theorem dX0_init_45 : decode cX0_init 45 = .ok (.invokespecial 25, 3) := by decide +kernel
theorem dX0_init_48 : decode cX0_init 48 = .ok (.aastore, 1) := by decide +kernel
theorem dX0_init_49 : decode cX0_init 49 = .ok (.iinc 2 1, 3) := by decide +kernel
theorem dX0_init_52 : decode cX0_init 52 = .ok (.goto (-25), 3) := by decide +kernel
theorem dX0_init_55 : decode cX0_init 55 = .ok (.return_, 1) := by decide +kernel
theorem dX0_condition_0 : decode cX0_condition 0 = .ok (.aload_n 0, 1) := by decide +kernel
theorem dX0_condition_1 : decode cX0_condition 1 = .ok (.getfield 21, 3) := by decide +kernel
theorem dX0_condition_4 : decode cX0_condition 4 = .ok (.ireturn, 1) := by decide +kernel
theorem dX0_templateIn_0 : decode cX0_templateIn 0 = .ok (.iload_n 1, 1) := by decide +kernel
theorem dX0_templateIn_1 : decode cX0_templateIn 1 = .ok (.aload_n 0, 1) := by decide +kernel
theorem dX0_templateIn_2 : decode cX0_templateIn 2 = .ok (.getfield 11, 3) := by decide +kernel
theorem dX0_templateIn_5 : decode cX0_templateIn 5 = .ok (.arraylength, 1) := by decide +kernel
theorem dX0_templateIn_6 : decode cX0_templateIn 6 = .ok (.invokestatic 26, 3) := by decide +kernel
theorem dX0_templateIn_9 : decode cX0_templateIn 9 = .ok (.ifCond .eq 12, 3) := by decide +kernel
theorem dX0_templateIn_12 : decode cX0_templateIn 12 = .ok (.aload_n 0, 1) := by decide +kernel
theorem dX0_templateIn_13 : decode cX0_templateIn 13 = .ok (.getfield 11, 3) := by decide +kernel
theorem dX0_templateIn_16 : decode cX0_templateIn 16 = .ok (.iload_n 1, 1) := by decide +kernel
theorem dX0_templateIn_17 : decode cX0_templateIn 17 = .ok (.aaload, 1) := by decide +kernel
theorem dX0_templateIn_18 : decode cX0_templateIn 18 = .ok (.goto 4, 3) := by decide +kernel
theorem dX0_templateIn_21 : decode cX0_templateIn 21 = .ok (.aconst_null, 1) := by decide +kernel
theorem dX0_templateIn_22 : decode cX0_templateIn 22 = .ok (.areturn, 1) := by decide +kernel
theorem dX0_how_0 : decode cX0_how 0 = .ok (.aload_n 0, 1) := by decide +kernel
theorem dX0_how_1 : decode cX0_how 1 = .ok (.iload_n 1, 1) := by decide +kernel
theorem dX0_how_2 : decode cX0_how 2 = .ok (.iload_n 2, 1) := by decide +kernel
theorem dX0_how_3 : decode cX0_how 3 = .ok (.invokevirtual 30, 3) := by decide +kernel
theorem dX0_how_6 : decode cX0_how 6 = .ok (.istore_n 3, 1) := by decide +kernel
theorem dX0_how_7 : decode cX0_how 7 = .ok (.iload_n 3, 1) := by decide +kernel
theorem dX0_how_8 : decode cX0_how 8 = .ok (.aload_n 0, 1) := by decide +kernel
theorem dX0_how_9 : decode cX0_how 9 = .ok (.getfield 17, 3) := by decide +kernel
theorem dX0_how_12 : decode cX0_how 12 = .ok (.arraylength, 1) := by decide +kernel
theorem dX0_how_13 : decode cX0_how 13 = .ok (.invokestatic 26, 3) := by decide +kernel
theorem dX0_how_16 : decode cX0_how 16 = .ok (.ifCond .eq 12, 3) := by decide +kernel
theorem dX0_how_19 : decode cX0_how 19 = .ok (.aload_n 0, 1) := by decide +kernel
theorem dX0_how_20 : decode cX0_how 20 = .ok (.getfield 17, 3) := by decide +kernel
theorem dX0_how_23 : decode cX0_how 23 = .ok (.iload_n 3, 1) := by decide +kernel
theorem dX0_how_24 : decode cX0_how 24 = .ok (.iaload, 1) := by decide +kernel
theorem dX0_how_25 : decode cX0_how 25 = .ok (.goto 4, 3) := by decide +kernel
theorem dX0_how_28 : decode cX0_how 28 = .ok (.iconst 0, 1) := by decide +kernel
theorem dX0_how_29 : decode cX0_how 29 = .ok (.ireturn, 1) := by decide +kernel
theorem dX0_setHow_0 : decode cX0_setHow 0 = .ok (.aload_n 0, 1) := by decide +kernel
theorem dX0_setHow_1 : decode cX0_setHow 1 = .ok (.iload_n 1, 1) := by decide +kernel
theorem dX0_setHow_2 : decode cX0_setHow 2 = .ok (.iload_n 2, 1) := by decide +kernel
theorem dX0_setHow_3 : decode cX0_setHow 3 = .ok (.invokevirtual 30, 3) := by decide +kernel
theorem dX0_setHow_6 : decode cX0_setHow 6 = .ok (.istore 4, 2) := by decide +kernel
theorem dX0_setHow_8 : decode cX0_setHow 8 = .ok (.iload 4, 2) := by decide +kernel
theorem dX0_setHow_10 : decode cX0_setHow 10 = .ok (.aload_n 0, 1) := by decide +kernel
theorem dX0_setHow_11 : decode cX0_setHow 11 = .ok (.getfield 17, 3) := by decide +kernel
theorem dX0_setHow_14 : decode cX0_setHow 14 = .ok (.arraylength, 1) := by decide +kernel
theorem dX0_setHow_15 : decode cX0_setHow 15 = .ok (.invokestatic 26, 3) := by decide +kernel
theorem dX0_setHow_18 : decode cX0_setHow 18 = .ok (.ifCond .eq 11, 3) := by decide +kernel
theorem dX0_setHow_21 : decode cX0_setHow 21 = .ok (.aload_n 0, 1) := by decide +kernel
theorem dX0_setHow_22 : decode cX0_setHow 22 = .ok (.getfield 17, 3) := by decide +kernel
theorem dX0_setHow_25 : decode cX0_setHow 25 = .ok (.iload 4, 2) := by decide +kernel
theorem dX0_setHow_27 : decode cX0_setHow 27 = .ok (.iload_n 3, 1) := by decide +kernel
theorem dX0_setHow_28 : decode cX0_setHow 28 = .ok (.iastore, 1) := by decide +kernel
theorem dX0_setHow_29 : decode cX0_setHow 29 = .ok (.return_, 1) := by decide +kernel
theorem dX0_howIndex_0 : decode cX0_howIndex 0 = .ok (.iload_n 1, 1) := by decide +kernel
theorem dX0_howIndex_1 : decode cX0_howIndex 1 = .ok (.bipush 10, 2) := by decide +kernel
theorem dX0_howIndex_3 : decode cX0_howIndex 3 = .ok (.invokestatic 26, 3) := by decide +kernel
theorem dX0_howIndex_6 : decode cX0_howIndex 6 = .ok (.ifCond .eq 15, 3) := by decide +kernel
theorem dX0_howIndex_9 : decode cX0_howIndex 9 = .ok (.iload_n 2, 1) := by decide +kernel
theorem dX0_howIndex_10 : decode cX0_howIndex 10 = .ok (.iconst 4, 1) := by decide +kernel
theorem dX0_howIndex_11 : decode cX0_howIndex 11 = .ok (.invokestatic 26, 3) := by decide +kernel
theorem dX0_howIndex_14 : decode cX0_howIndex 14 = .ok (.ifCond .eq 7, 3) := by decide +kernel
theorem dX0_howIndex_17 : decode cX0_howIndex 17 = .ok (.iconst 1, 1) := by decide +kernel
theorem dX0_howIndex_18 : decode cX0_howIndex 18 = .ok (.goto 4, 3) := by decide +kernel
theorem dX0_howIndex_21 : decode cX0_howIndex 21 = .ok (.iconst 0, 1) := by decide +kernel
theorem dX0_howIndex_22 : decode cX0_howIndex 22 = .ok (.istore_n 3, 1) := by decide +kernel
theorem dX0_howIndex_23 : decode cX0_howIndex 23 = .ok (.iload_n 3, 1) := by decide +kernel
theorem dX0_howIndex_24 : decode cX0_howIndex 24 = .ok (.ifCond .eq 11, 3) := by decide +kernel
theorem dX0_howIndex_27 : decode cX0_howIndex 27 = .ok (.iload_n 1, 1) := by decide +kernel
theorem dX0_howIndex_28 : decode cX0_howIndex 28 = .ok (.iconst 4, 1) := by decide +kernel
theorem dX0_howIndex_29 : decode cX0_howIndex 29 = .ok (.imul, 1) := by decide +kernel
theorem dX0_howIndex_30 : decode cX0_howIndex 30 = .ok (.iload_n 2, 1) := by decide +kernel
theorem dX0_howIndex_31 : decode cX0_howIndex 31 = .ok (.iadd, 1) := by decide +kernel
theorem dX0_howIndex_32 : decode cX0_howIndex 32 = .ok (.goto 4, 3) := by decide +kernel
theorem dX0_howIndex_35 : decode cX0_howIndex 35 = .ok (.iconst (-1), 1) := by decide +kernel
theorem dX0_howIndex_36 : decode cX0_howIndex 36 = .ok (.ireturn, 1) := by decide +kernel
theorem dX0_hasSameSlots_0 : decode cX0_hasSameSlots 0 = .ok (.iconst 0, 1) := by decide +kernel
theorem dX0_hasSameSlots_1 : decode cX0_hasSameSlots 1 = .ok (.istore_n 1, 1) := by decide +kernel
theorem dX0_hasSameSlots_2 : decode cX0_hasSameSlots 2 = .ok (.iload_n 1, 1) := by decide +kernel
theorem dX0_hasSameSlots_3 : decode cX0_hasSameSlots 3 = .ok (.iconst 5, 1) := by decide +kernel
theorem dX0_hasSameSlots_4 : decode cX0_hasSameSlots 4 = .ok (.if_icmp .ge 19, 3) := by decide +kernel
theorem dX0_hasSameSlots_7 : decode cX0_hasSameSlots 7 = .ok (.aload_n 0, 1) := by decide +kernel
theorem dX0_hasSameSlots_8 : decode cX0_hasSameSlots 8 = .ok (.iload_n 1, 1) := by decide +kernel
theorem dX0_hasSameSlots_9 : decode cX0_hasSameSlots 9 = .ok (.invokevirtual 34, 3) := by decide +kernel
theorem dX0_hasSameSlots_12 : decode cX0_hasSameSlots 12 = .ok (.ifCond .ne 5, 3) := by decide +kernel
theorem dX0_hasSameSlots_15 : decode cX0_hasSameSlots 15 = .ok (.iconst 0, 1) := by decide +kernel
theorem dX0_hasSameSlots_16 : decode cX0_hasSameSlots 16 = .ok (.ireturn, 1) := by decide +kernel
theorem dX0_hasSameSlots_17 : decode cX0_hasSameSlots 17 = .ok (.iinc 1 1, 3) := by decide +kernel
theorem dX0_hasSameSlots_20 : decode cX0_hasSameSlots 20 = .ok (.goto (-18), 3) := by decide +kernel
theorem dX0_hasSameSlots_23 : decode cX0_hasSameSlots 23 = .ok (.iconst 1, 1) := by decide +kernel
theorem dX0_hasSameSlots_24 : decode cX0_hasSameSlots 24 = .ok (.ireturn, 1) := by decide +kernel
theorem dX0_isSameCount_0 : decode cX0_isSameCount 0 = .ok (.iconst (-1), 1) := by decide +kernel
theorem dX0_isSameCount_1 : decode cX0_isSameCount 1 = .ok (.istore_n 2, 1) := by decide +kernel
theorem dX0_isSameCount_2 : decode cX0_isSameCount 2 = .ok (.iconst 0, 1) := by decide +kernel
theorem dX0_isSameCount_3 : decode cX0_isSameCount 3 = .ok (.istore_n 3, 1) := by decide +kernel
theorem dX0_isSameCount_4 : decode cX0_isSameCount 4 = .ok (.iload_n 3, 1) := by decide +kernel
theorem dX0_isSameCount_5 : decode cX0_isSameCount 5 = .ok (.iconst 3, 1) := by decide +kernel
theorem dX0_isSameCount_6 : decode cX0_isSameCount 6 = .ok (.if_icmp .ge 53, 3) := by decide +kernel
theorem dX0_isSameCount_9 : decode cX0_isSameCount 9 = .ok (.aload_n 0, 1) := by decide +kernel
theorem dX0_isSameCount_10 : decode cX0_isSameCount 10 = .ok (.iload_n 3, 1) := by decide +kernel
theorem dX0_isSameCount_11 : decode cX0_isSameCount 11 = .ok (.invokevirtual 38, 3) := by decide +kernel
theorem dX0_isSameCount_14 : decode cX0_isSameCount 14 = .ok (.astore 4, 2) := by decide +kernel
theorem dX0_isSameCount_16 : decode cX0_isSameCount 16 = .ok (.aload 4, 2) := by decide +kernel
theorem dX0_isSameCount_18 : decode cX0_isSameCount 18 = .ok (.ifnull 35, 3) := by decide +kernel
theorem dX0_isSameCount_21 : decode cX0_isSameCount 21 = .ok (.aload 4, 2) := by decide +kernel
theorem dX0_isSameCount_23 : decode cX0_isSameCount 23 = .ok (.invokevirtual 42, 3) := by decide +kernel
theorem dX0_isSameCount_26 : decode cX0_isSameCount 26 = .ok (.ifCond .eq 27, 3) := by decide +kernel
theorem dX0_isSameCount_29 : decode cX0_isSameCount 29 = .ok (.aload 4, 2) := by decide +kernel
theorem dX0_isSameCount_31 : decode cX0_isSameCount 31 = .ok (.iload_n 1, 1) := by decide +kernel
theorem dX0_isSameCount_32 : decode cX0_isSameCount 32 = .ok (.invokevirtual 46, 3) := by decide +kernel
theorem dX0_isSameCount_35 : decode cX0_isSameCount 35 = .ok (.istore 5, 2) := by decide +kernel
theorem dX0_isSameCount_37 : decode cX0_isSameCount 37 = .ok (.iload_n 2, 1) := by decide +kernel
theorem dX0_isSameCount_38 : decode cX0_isSameCount 38 = .ok (.iconst (-1), 1) := by decide +kernel
theorem dX0_isSameCount_39 : decode cX0_isSameCount 39 = .ok (.if_icmp .eq 11, 3) := by decide +kernel
theorem dX0_isSameCount_42 : decode cX0_isSameCount 42 = .ok (.iload_n 2, 1) := by decide +kernel
theorem dX0_isSameCount_43 : decode cX0_isSameCount 43 = .ok (.iload 5, 2) := by decide +kernel
theorem dX0_isSameCount_45 : decode cX0_isSameCount 45 = .ok (.if_icmp .eq 5, 3) := by decide +kernel
theorem dX0_isSameCount_48 : decode cX0_isSameCount 48 = .ok (.iconst 0, 1) := by decide +kernel
theorem dX0_isSameCount_49 : decode cX0_isSameCount 49 = .ok (.ireturn, 1) := by decide +kernel
theorem dX0_isSameCount_50 : decode cX0_isSameCount 50 = .ok (.iload 5, 2) := by decide +kernel
theorem dX0_isSameCount_52 : decode cX0_isSameCount 52 = .ok (.istore_n 2, 1) := by decide +kernel
theorem dX0_isSameCount_53 : decode cX0_isSameCount 53 = .ok (.iinc 3 1, 3) := by decide +kernel
theorem dX0_isSameCount_56 : decode cX0_isSameCount 56 = .ok (.goto (-52), 3) := by decide +kernel
theorem dX0_isSameCount_59 : decode cX0_isSameCount 59 = .ok (.iconst 1, 1) := by decide +kernel
theorem dX0_isSameCount_60 : decode cX0_isSameCount 60 = .ok (.ireturn, 1) := by decide +kernel
theorem dX1_init_0 : decode cX1_init 0 = .ok (.aload_n 0, 1) := by decide +kernel
theorem dX1_init_1 : decode cX1_init 1 = .ok (.invokespecial 3, 3) := by decide +kernel
theorem dX1_init_4 : decode cX1_init 4 = .ok (.aload_n 0, 1) := by decide +kernel
theorem dX1_init_5 : decode cX1_init 5 = .ok (.iconst 5, 1) := by decide +kernel
theorem dX1_init_6 : decode cX1_init 6 = .ok (.newarray .int, 2) := by decide +kernel
theorem dX1_init_8 : decode cX1_init 8 = .ok (.putfield 9, 3) := by decide +kernel
theorem dX1_init_11 : decode cX1_init 11 = .ok (.aload_n 0, 1) := by decide +kernel
theorem dX1_init_12 : decode cX1_init 12 = .ok (.iload_n 2, 1) := by decide +kernel
theorem dX1_init_13 : decode cX1_init 13 = .ok (.putfield 15, 3) := by decide +kernel
theorem dX1_init_16 : decode cX1_init 16 = .ok (.iconst 0, 1) := by decide +kernel
theorem dX1_init_17 : decode cX1_init 17 = .ok (.istore_n 3, 1) := by decide +kernel
theorem dX1_init_18 : decode cX1_init 18 = .ok (.iload_n 3, 1) := by decide +kernel
theorem dX1_init_19 : decode cX1_init 19 = .ok (.aload_n 0, 1) := by decide +kernel
theorem dX1_init_20 : decode cX1_init 20 = .ok (.getfield 9, 3) := by decide +kernel
theorem dX1_init_23 : decode cX1_init 23 = .ok (.arraylength, 1) := by decide +kernel
theorem dX1_init_24 : decode cX1_init 24 = .ok (.if_icmp .ge 16, 3) := by decide +kernel
theorem dX1_init_27 : decode cX1_init 27 = .ok (.aload_n 0, 1) := by decide +kernel
theorem dX1_init_28 : decode cX1_init 28 = .ok (.getfield 9, 3) := by decide +kernel
theorem dX1_init_31 : decode cX1_init 31 = .ok (.iload_n 3, 1) := by decide +kernel
theorem dX1_init_32 : decode cX1_init 32 = .ok (.iload_n 1, 1) := by decide +kernel
theorem dX1_init_33 : decode cX1_init 33 = .ok (.iastore, 1) := by decide +kernel
theorem dX1_init_34 : decode cX1_init 34 = .ok (.iinc 3 1, 3) := by decide +kernel
theorem dX1_init_37 : decode cX1_init 37 = .ok (.goto (-19), 3) := by decide +kernel
theorem dX1_init_40 : decode cX1_init 40 = .ok (.return_, 1) := by decide +kernel
theorem dX1_wordOf_0 : decode cX1_wordOf 0 = .ok (.iload_n 1, 1) := by decide +kernel
theorem dX1_wordOf_1 : decode cX1_wordOf 1 = .ok (.aload_n 0, 1) := by decide +kernel
theorem dX1_wordOf_2 : decode cX1_wordOf 2 = .ok (.getfield 9, 3) := by decide +kernel
theorem dX1_wordOf_5 : decode cX1_wordOf 5 = .ok (.arraylength, 1) := by decide +kernel
theorem dX1_wordOf_6 : decode cX1_wordOf 6 = .ok (.invokestatic 19, 3) := by decide +kernel
theorem dX1_wordOf_9 : decode cX1_wordOf 9 = .ok (.ifCond .eq 12, 3) := by decide +kernel
theorem dX1_wordOf_12 : decode cX1_wordOf 12 = .ok (.aload_n 0, 1) := by decide +kernel
theorem dX1_wordOf_13 : decode cX1_wordOf 13 = .ok (.getfield 9, 3) := by decide +kernel
theorem dX1_wordOf_16 : decode cX1_wordOf 16 = .ok (.iload_n 1, 1) := by decide +kernel
theorem dX1_wordOf_17 : decode cX1_wordOf 17 = .ok (.iaload, 1) := by decide +kernel
theorem dX1_wordOf_18 : decode cX1_wordOf 18 = .ok (.goto 4, 3) := by decide +kernel
theorem dX1_wordOf_21 : decode cX1_wordOf 21 = .ok (.iconst (-1), 1) := by decide +kernel
theorem dX1_wordOf_22 : decode cX1_wordOf 22 = .ok (.ireturn, 1) := by decide +kernel
theorem dX1_setWord_0 : decode cX1_setWord 0 = .ok (.iload_n 1, 1) := by decide +kernel
theorem dX1_setWord_1 : decode cX1_setWord 1 = .ok (.aload_n 0, 1) := by decide +kernel
theorem dX1_setWord_2 : decode cX1_setWord 2 = .ok (.getfield 9, 3) := by decide +kernel
theorem dX1_setWord_5 : decode cX1_setWord 5 = .ok (.arraylength, 1) := by decide +kernel
theorem dX1_setWord_6 : decode cX1_setWord 6 = .ok (.invokestatic 19, 3) := by decide +kernel
theorem dX1_setWord_9 : decode cX1_setWord 9 = .ok (.ifCond .eq 10, 3) := by decide +kernel
theorem dX1_setWord_12 : decode cX1_setWord 12 = .ok (.aload_n 0, 1) := by decide +kernel
theorem dX1_setWord_13 : decode cX1_setWord 13 = .ok (.getfield 9, 3) := by decide +kernel
theorem dX1_setWord_16 : decode cX1_setWord 16 = .ok (.iload_n 1, 1) := by decide +kernel
theorem dX1_setWord_17 : decode cX1_setWord 17 = .ok (.iload_n 2, 1) := by decide +kernel
theorem dX1_setWord_18 : decode cX1_setWord 18 = .ok (.iastore, 1) := by decide +kernel
theorem dX1_setWord_19 : decode cX1_setWord 19 = .ok (.return_, 1) := by decide +kernel
theorem dX1_meets_0 : decode cX1_meets 0 = .ok (.iload_n 1, 1) := by decide +kernel
theorem dX1_meets_1 : decode cX1_meets 1 = .ok (.iconst (-1), 1) := by decide +kernel
theorem dX1_meets_2 : decode cX1_meets 2 = .ok (.if_icmp .eq 15, 3) := by decide +kernel
theorem dX1_meets_5 : decode cX1_meets 5 = .ok (.aload_n 0, 1) := by decide +kernel
theorem dX1_meets_6 : decode cX1_meets 6 = .ok (.getfield 15, 3) := by decide +kernel
theorem dX1_meets_9 : decode cX1_meets 9 = .ok (.iload_n 1, 1) := by decide +kernel
theorem dX1_meets_10 : decode cX1_meets 10 = .ok (.ishr, 1) := by decide +kernel
theorem dX1_meets_11 : decode cX1_meets 11 = .ok (.iconst 1, 1) := by decide +kernel
theorem dX1_meets_12 : decode cX1_meets 12 = .ok (.iand, 1) := by decide +kernel
theorem dX1_meets_13 : decode cX1_meets 13 = .ok (.iconst 1, 1) := by decide +kernel
theorem dX1_meets_14 : decode cX1_meets 14 = .ok (.if_icmp .ne 7, 3) := by decide +kernel
theorem dX1_meets_17 : decode cX1_meets 17 = .ok (.iconst 1, 1) := by decide +kernel
theorem dX1_meets_18 : decode cX1_meets 18 = .ok (.goto 4, 3) := by decide +kernel
theorem dX1_meets_21 : decode cX1_meets 21 = .ok (.iconst 0, 1) := by decide +kernel
theorem dX1_meets_22 : decode cX1_meets 22 = .ok (.ireturn, 1) := by decide +kernel
theorem dX2_init_0 : decode cX2_init 0 = .ok (.aload_n 0, 1) := by decide +kernel
theorem dX2_init_1 : decode cX2_init 1 = .ok (.invokespecial 3, 3) := by decide +kernel
theorem dX2_init_4 : decode cX2_init 4 = .ok (.aload_n 0, 1) := by decide +kernel
theorem dX2_init_5 : decode cX2_init 5 = .ok (.bipush 6, 2) := by decide +kernel
theorem dX2_init_7 : decode cX2_init 7 = .ok (.newarray .int, 2) := by decide +kernel
theorem dX2_init_9 : decode cX2_init 9 = .ok (.putfield 9, 3) := by decide +kernel
theorem dX2_init_12 : decode cX2_init 12 = .ok (.return_, 1) := by decide +kernel
theorem dX2_count_0 : decode cX2_count 0 = .ok (.aload_n 0, 1) := by decide +kernel
theorem dX2_count_1 : decode cX2_count 1 = .ok (.getfield 15, 3) := by decide +kernel
theorem dX2_count_4 : decode cX2_count 4 = .ok (.ireturn, 1) := by decide +kernel
theorem dX2_at_0 : decode cX2_at 0 = .ok (.iload_n 1, 1) := by decide +kernel
theorem dX2_at_1 : decode cX2_at 1 = .ok (.aload_n 0, 1) := by decide +kernel
theorem dX2_at_2 : decode cX2_at 2 = .ok (.getfield 15, 3) := by decide +kernel
theorem dX2_at_5 : decode cX2_at 5 = .ok (.invokestatic 19, 3) := by decide +kernel
theorem dX2_at_8 : decode cX2_at 8 = .ok (.ifCond .eq 21, 3) := by decide +kernel
theorem dX2_at_11 : decode cX2_at 11 = .ok (.iload_n 1, 1) := by decide +kernel
theorem dX2_at_12 : decode cX2_at 12 = .ok (.aload_n 0, 1) := by decide +kernel
theorem dX2_at_13 : decode cX2_at 13 = .ok (.getfield 9, 3) := by decide +kernel
theorem dX2_at_16 : decode cX2_at 16 = .ok (.arraylength, 1) := by decide +kernel
theorem dX2_at_17 : decode cX2_at 17 = .ok (.if_icmp .ge 12, 3) := by decide +kernel
theorem dX2_at_20 : decode cX2_at 20 = .ok (.aload_n 0, 1) := by decide +kernel
theorem dX2_at_21 : decode cX2_at 21 = .ok (.getfield 9, 3) := by decide +kernel
theorem dX2_at_24 : decode cX2_at 24 = .ok (.iload_n 1, 1) := by decide +kernel
theorem dX2_at_25 : decode cX2_at 25 = .ok (.iaload, 1) := by decide +kernel
theorem dX2_at_26 : decode cX2_at 26 = .ok (.goto 4, 3) := by decide +kernel
theorem dX2_at_29 : decode cX2_at 29 = .ok (.iconst (-1), 1) := by decide +kernel
theorem dX2_at_30 : decode cX2_at 30 = .ok (.ireturn, 1) := by decide +kernel
theorem dX2_has_0 : decode cX2_has 0 = .ok (.iconst 0, 1) := by decide +kernel
theorem dX2_has_1 : decode cX2_has 1 = .ok (.istore_n 2, 1) := by decide +kernel
theorem dX2_has_2 : decode cX2_has 2 = .ok (.iload_n 2, 1) := by decide +kernel
theorem dX2_has_3 : decode cX2_has 3 = .ok (.aload_n 0, 1) := by decide +kernel
theorem dX2_has_4 : decode cX2_has 4 = .ok (.getfield 15, 3) := by decide +kernel
theorem dX2_has_7 : decode cX2_has 7 = .ok (.if_icmp .ge 20, 3) := by decide +kernel
theorem dX2_has_10 : decode cX2_has 10 = .ok (.aload_n 0, 1) := by decide +kernel
theorem dX2_has_11 : decode cX2_has 11 = .ok (.iload_n 2, 1) := by decide +kernel
theorem dX2_has_12 : decode cX2_has 12 = .ok (.invokevirtual 23, 3) := by decide +kernel
theorem dX2_has_15 : decode cX2_has 15 = .ok (.iload_n 1, 1) := by decide +kernel
theorem dX2_has_16 : decode cX2_has 16 = .ok (.if_icmp .ne 5, 3) := by decide +kernel
theorem dX2_has_19 : decode cX2_has 19 = .ok (.iconst 1, 1) := by decide +kernel
theorem dX2_has_20 : decode cX2_has 20 = .ok (.ireturn, 1) := by decide +kernel
theorem dX2_has_21 : decode cX2_has 21 = .ok (.iinc 2 1, 3) := by decide +kernel
theorem dX2_has_24 : decode cX2_has 24 = .ok (.goto (-22), 3) := by decide +kernel
theorem dX2_has_27 : decode cX2_has 27 = .ok (.iconst 0, 1) := by decide +kernel
theorem dX2_has_28 : decode cX2_has 28 = .ok (.ireturn, 1) := by decide +kernel
theorem dX2_append_0 : decode cX2_append 0 = .ok (.aload_n 0, 1) := by decide +kernel
theorem dX2_append_1 : decode cX2_append 1 = .ok (.getfield 15, 3) := by decide +kernel
theorem dX2_append_4 : decode cX2_append 4 = .ok (.aload_n 0, 1) := by decide +kernel
theorem dX2_append_5 : decode cX2_append 5 = .ok (.getfield 9, 3) := by decide +kernel
theorem dX2_append_8 : decode cX2_append 8 = .ok (.arraylength, 1) := by decide +kernel
theorem dX2_append_9 : decode cX2_append 9 = .ok (.invokestatic 19, 3) := by decide +kernel
theorem dX2_append_12 : decode cX2_append 12 = .ok (.ifCond .ne 5, 3) := by decide +kernel
theorem dX2_append_15 : decode cX2_append 15 = .ok (.iconst 0, 1) := by decide +kernel
theorem dX2_append_16 : decode cX2_append 16 = .ok (.ireturn, 1) := by decide +kernel
theorem dX2_append_17 : decode cX2_append 17 = .ok (.aload_n 0, 1) := by decide +kernel
theorem dX2_append_18 : decode cX2_append 18 = .ok (.getfield 9, 3) := by decide +kernel
theorem dX2_append_21 : decode cX2_append 21 = .ok (.aload_n 0, 1) := by decide +kernel
theorem dX2_append_22 : decode cX2_append 22 = .ok (.getfield 15, 3) := by decide +kernel
theorem dX2_append_25 : decode cX2_append 25 = .ok (.iload_n 1, 1) := by decide +kernel
theorem dX2_append_26 : decode cX2_append 26 = .ok (.iastore, 1) := by decide +kernel
theorem dX2_append_27 : decode cX2_append 27 = .ok (.aload_n 0, 1) := by decide +kernel
theorem dX2_append_28 : decode cX2_append 28 = .ok (.dup, 1) := by decide +kernel
theorem dX2_append_29 : decode cX2_append 29 = .ok (.getfield 15, 3) := by decide +kernel
theorem dX2_append_32 : decode cX2_append 32 = .ok (.iconst 1, 1) := by decide +kernel
theorem dX2_append_33 : decode cX2_append 33 = .ok (.iadd, 1) := by decide +kernel
theorem dX2_append_34 : decode cX2_append 34 = .ok (.putfield 15, 3) := by decide +kernel
theorem dX2_append_37 : decode cX2_append 37 = .ok (.iconst 1, 1) := by decide +kernel
theorem dX2_append_38 : decode cX2_append 38 = .ok (.ireturn, 1) := by decide +kernel
theorem dX3_init_0 : decode cX3_init 0 = .ok (.aload_n 0, 1) := by decide +kernel
theorem dX3_init_1 : decode cX3_init 1 = .ok (.invokespecial 3, 3) := by decide +kernel
theorem dX3_init_4 : decode cX3_init 4 = .ok (.aload_n 0, 1) := by decide +kernel
theorem dX3_init_5 : decode cX3_init 5 = .ok (.new 9, 3) := by decide +kernel
theorem dX3_init_8 : decode cX3_init 8 = .ok (.dup, 1) := by decide +kernel
theorem dX3_init_9 : decode cX3_init 9 = .ok (.sipush 1014, 3) := by decide +kernel
theorem dX3_init_12 : decode cX3_init 12 = .ok (.invokespecial 11, 3) := by decide +kernel
theorem dX3_init_15 : decode cX3_init 15 = .ok (.putfield 14, 3) := by decide +kernel
theorem dX3_init_18 : decode cX3_init 18 = .ok (.aload_n 0, 1) := by decide +kernel
theorem dX3_init_19 : decode cX3_init 19 = .ok (.iconst 1, 1) := by decide +kernel
theorem dX3_init_20 : decode cX3_init 20 = .ok (.putfield 20, 3) := by decide +kernel
theorem dX3_init_23 : decode cX3_init 23 = .ok (.return_, 1) := by decide +kernel
theorem dX3_start_0 : decode cX3_start 0 = .ok (.aload_n 0, 1) := by decide +kernel
theorem dX3_start_1 : decode cX3_start 1 = .ok (.getfield 14, 3) := by decide +kernel
theorem dX3_start_4 : decode cX3_start 4 = .ok (.invokevirtual 24, 3) := by decide +kernel
theorem dX3_start_7 : decode cX3_start 7 = .ok (.aload_n 0, 1) := by decide +kernel
theorem dX3_start_8 : decode cX3_start 8 = .ok (.iconst 1, 1) := by decide +kernel
theorem dX3_start_9 : decode cX3_start 9 = .ok (.putfield 20, 3) := by decide +kernel
theorem dX3_start_12 : decode cX3_start 12 = .ok (.return_, 1) := by decide +kernel
theorem dX3_lay_0 : decode cX3_lay 0 = .ok (.aload_n 0, 1) := by decide +kernel
theorem dX3_lay_1 : decode cX3_lay 1 = .ok (.getfield 14, 3) := by decide +kernel
theorem dX3_lay_4 : decode cX3_lay 4 = .ok (.aload_n 0, 1) := by decide +kernel
theorem dX3_lay_5 : decode cX3_lay 5 = .ok (.getfield 20, 3) := by decide +kernel
theorem dX3_lay_8 : decode cX3_lay 8 = .ok (.ifCond .eq 10, 3) := by decide +kernel
theorem dX3_lay_11 : decode cX3_lay 11 = .ok (.iload_n 1, 1) := by decide +kernel
theorem dX3_lay_12 : decode cX3_lay 12 = .ok (.invokestatic 27, 3) := by decide +kernel
theorem dX3_lay_15 : decode cX3_lay 15 = .ok (.goto 4, 3) := by decide +kernel
theorem dX3_lay_18 : decode cX3_lay 18 = .ok (.iload_n 1, 1) := by decide +kernel
theorem dX3_lay_19 : decode cX3_lay 19 = .ok (.invokevirtual 31, 3) := by decide +kernel
theorem dX3_lay_22 : decode cX3_lay 22 = .ok (.pop, 1) := by decide +kernel
theorem dX3_lay_23 : decode cX3_lay 23 = .ok (.aload_n 0, 1) := by decide +kernel
theorem dX3_lay_24 : decode cX3_lay 24 = .ok (.iload_n 1, 1) := by decide +kernel
theorem dX3_lay_25 : decode cX3_lay 25 = .ok (.aload_n 0, 1) := by decide +kernel
theorem dX3_lay_26 : decode cX3_lay 26 = .ok (.getfield 20, 3) := by decide +kernel
theorem dX3_lay_29 : decode cX3_lay 29 = .ok (.invokestatic 35, 3) := by decide +kernel
theorem dX3_lay_32 : decode cX3_lay 32 = .ok (.putfield 20, 3) := by decide +kernel
theorem dX3_lay_35 : decode cX3_lay 35 = .ok (.return_, 1) := by decide +kernel
theorem dX3_length_0 : decode cX3_length 0 = .ok (.aload_n 0, 1) := by decide +kernel
theorem dX3_length_1 : decode cX3_length 1 = .ok (.getfield 14, 3) := by decide +kernel
theorem dX3_length_4 : decode cX3_length 4 = .ok (.invokevirtual 39, 3) := by decide +kernel
theorem dX3_length_7 : decode cX3_length 7 = .ok (.ireturn, 1) := by decide +kernel
theorem dX3_at_0 : decode cX3_at 0 = .ok (.aload_n 0, 1) := by decide +kernel
theorem dX3_at_1 : decode cX3_at 1 = .ok (.getfield 14, 3) := by decide +kernel
theorem dX3_at_4 : decode cX3_at 4 = .ok (.iload_n 1, 1) := by decide +kernel
theorem dX3_at_5 : decode cX3_at 5 = .ok (.invokevirtual 43, 3) := by decide +kernel
theorem dX3_at_8 : decode cX3_at 8 = .ok (.ireturn, 1) := by decide +kernel
theorem dX3_countWords_0 : decode cX3_countWords 0 = .ok (.iconst 0, 1) := by decide +kernel
theorem dX3_countWords_1 : decode cX3_countWords 1 = .ok (.istore_n 1, 1) := by decide +kernel
theorem dX3_countWords_2 : decode cX3_countWords 2 = .ok (.iconst 0, 1) := by decide +kernel
theorem dX3_countWords_3 : decode cX3_countWords 3 = .ok (.istore_n 2, 1) := by decide +kernel
theorem dX3_countWords_4 : decode cX3_countWords 4 = .ok (.iconst 0, 1) := by decide +kernel
theorem dX3_countWords_5 : decode cX3_countWords 5 = .ok (.istore_n 3, 1) := by decide +kernel
theorem dX3_countWords_6 : decode cX3_countWords 6 = .ok (.iload_n 3, 1) := by decide +kernel
theorem dX3_countWords_7 : decode cX3_countWords 7 = .ok (.aload_n 0, 1) := by decide +kernel
theorem dX3_countWords_8 : decode cX3_countWords 8 = .ok (.getfield 14, 3) := by decide +kernel
theorem dX3_countWords_11 : decode cX3_countWords 11 = .ok (.invokevirtual 39, 3) := by decide +kernel
theorem dX3_countWords_14 : decode cX3_countWords 14 = .ok (.if_icmp .ge 55, 3) := by decide +kernel
theorem dX3_countWords_17 : decode cX3_countWords 17 = .ok (.aload_n 0, 1) := by decide +kernel
theorem dX3_countWords_18 : decode cX3_countWords 18 = .ok (.getfield 14, 3) := by decide +kernel
theorem dX3_countWords_21 : decode cX3_countWords 21 = .ok (.iload_n 3, 1) := by decide +kernel
theorem dX3_countWords_22 : decode cX3_countWords 22 = .ok (.invokevirtual 43, 3) := by decide +kernel
theorem dX3_countWords_25 : decode cX3_countWords 25 = .ok (.istore 4, 2) := by decide +kernel
theorem dX3_countWords_27 : decode cX3_countWords 27 = .ok (.iload 4, 2) := by decide +kernel
theorem dX3_countWords_29 : decode cX3_countWords 29 = .ok (.bipush 32, 2) := by decide +kernel
theorem dX3_countWords_31 : decode cX3_countWords 31 = .ok (.if_icmp .eq 14, 3) := by decide +kernel
theorem dX3_countWords_34 : decode cX3_countWords 34 = .ok (.iload 4, 2) := by decide +kernel
theorem dX3_countWords_36 : decode cX3_countWords 36 = .ok (.bipush 46, 2) := by decide +kernel
theorem dX3_countWords_38 : decode cX3_countWords 38 = .ok (.if_icmp .eq 7, 3) := by decide +kernel
theorem dX3_countWords_41 : decode cX3_countWords 41 = .ok (.iconst 1, 1) := by decide +kernel
theorem dX3_countWords_42 : decode cX3_countWords 42 = .ok (.goto 4, 3) := by decide +kernel
theorem dX3_countWords_45 : decode cX3_countWords 45 = .ok (.iconst 0, 1) := by decide +kernel
theorem dX3_countWords_46 : decode cX3_countWords 46 = .ok (.istore 5, 2) := by decide +kernel
theorem dX3_countWords_48 : decode cX3_countWords 48 = .ok (.iload 5, 2) := by decide +kernel
theorem dX3_countWords_50 : decode cX3_countWords 50 = .ok (.ifCond .eq 10, 3) := by decide +kernel
theorem dX3_countWords_53 : decode cX3_countWords 53 = .ok (.iload_n 2, 1) := by decide +kernel
theorem dX3_countWords_54 : decode cX3_countWords 54 = .ok (.ifCond .ne 6, 3) := by decide +kernel
theorem dX3_countWords_57 : decode cX3_countWords 57 = .ok (.iinc 1 1, 3) := by decide +kernel
theorem dX3_countWords_60 : decode cX3_countWords 60 = .ok (.iload 5, 2) := by decide +kernel
theorem dX3_countWords_62 : decode cX3_countWords 62 = .ok (.istore_n 2, 1) := by decide +kernel
theorem dX3_countWords_63 : decode cX3_countWords 63 = .ok (.iinc 3 1, 3) := by decide +kernel
theorem dX3_countWords_66 : decode cX3_countWords 66 = .ok (.goto (-60), 3) := by decide +kernel
theorem dX3_countWords_69 : decode cX3_countWords 69 = .ok (.iload_n 1, 1) := by decide +kernel
theorem dX3_countWords_70 : decode cX3_countWords 70 = .ok (.ireturn, 1) := by decide +kernel
theorem dX4_init_0 : decode cX4_init 0 = .ok (.aload_n 0, 1) := by decide +kernel
theorem dX4_init_1 : decode cX4_init 1 = .ok (.invokespecial 1, 3) := by decide +kernel
theorem dX4_init_4 : decode cX4_init 4 = .ok (.return_, 1) := by decide +kernel
theorem dX4_start_0 : decode cX4_start 0 = .ok (.aload_n 0, 1) := by decide +kernel
theorem dX4_start_1 : decode cX4_start 1 = .ok (.iload_n 1, 1) := by decide +kernel
theorem dX4_start_2 : decode cX4_start 2 = .ok (.putfield 7, 3) := by decide +kernel
theorem dX4_start_5 : decode cX4_start 5 = .ok (.aload_n 0, 1) := by decide +kernel
theorem dX4_start_6 : decode cX4_start 6 = .ok (.iconst 1, 1) := by decide +kernel
theorem dX4_start_7 : decode cX4_start 7 = .ok (.putfield 13, 3) := by decide +kernel
theorem dX4_start_10 : decode cX4_start 10 = .ok (.aload_n 0, 1) := by decide +kernel
theorem dX4_start_11 : decode cX4_start 11 = .ok (.iconst 0, 1) := by decide +kernel
theorem dX4_start_12 : decode cX4_start 12 = .ok (.putfield 17, 3) := by decide +kernel
theorem dX4_start_15 : decode cX4_start 15 = .ok (.return_, 1) := by decide +kernel
theorem dX4_isDone_0 : decode cX4_isDone 0 = .ok (.aload_n 0, 1) := by decide +kernel
theorem dX4_isDone_1 : decode cX4_isDone 1 = .ok (.getfield 7, 3) := by decide +kernel
theorem dX4_isDone_4 : decode cX4_isDone 4 = .ok (.ifCond .ge 7, 3) := by decide +kernel
theorem dX4_isDone_7 : decode cX4_isDone 7 = .ok (.iconst 1, 1) := by decide +kernel
theorem dX4_isDone_8 : decode cX4_isDone 8 = .ok (.goto 4, 3) := by decide +kernel
theorem dX4_isDone_11 : decode cX4_isDone 11 = .ok (.iconst 0, 1) := by decide +kernel
theorem dX4_isDone_12 : decode cX4_isDone 12 = .ok (.ireturn, 1) := by decide +kernel
theorem dX4_left_0 : decode cX4_left 0 = .ok (.aload_n 0, 1) := by decide +kernel
theorem dX4_left_1 : decode cX4_left 1 = .ok (.getfield 7, 3) := by decide +kernel
theorem dX4_left_4 : decode cX4_left 4 = .ok (.ireturn, 1) := by decide +kernel
theorem dX4_found_0 : decode cX4_found 0 = .ok (.aload_n 0, 1) := by decide +kernel
theorem dX4_found_1 : decode cX4_found 1 = .ok (.getfield 17, 3) := by decide +kernel
theorem dX4_found_4 : decode cX4_found 4 = .ok (.ireturn, 1) := by decide +kernel
theorem dX4_pass_0 : decode cX4_pass 0 = .ok (.aload_n 0, 1) := by decide +kernel
theorem dX4_pass_1 : decode cX4_pass 1 = .ok (.getfield 7, 3) := by decide +kernel
theorem dX4_pass_4 : decode cX4_pass 4 = .ok (.ifCond .ne 22, 3) := by decide +kernel
theorem dX4_pass_7 : decode cX4_pass 7 = .ok (.aload_n 0, 1) := by decide +kernel
theorem dX4_pass_8 : decode cX4_pass 8 = .ok (.aload_n 0, 1) := by decide +kernel
theorem dX4_pass_9 : decode cX4_pass 9 = .ok (.getfield 13, 3) := by decide +kernel
theorem dX4_pass_12 : decode cX4_pass 12 = .ok (.ifCond .eq 10, 3) := by decide +kernel
theorem dX4_pass_15 : decode cX4_pass 15 = .ok (.iload_n 1, 1) := by decide +kernel
theorem dX4_pass_16 : decode cX4_pass 16 = .ok (.invokestatic 21, 3) := by decide +kernel
theorem dX4_pass_19 : decode cX4_pass 19 = .ok (.goto 4, 3) := by decide +kernel
theorem dX4_pass_22 : decode cX4_pass 22 = .ok (.iload_n 1, 1) := by decide +kernel
theorem dX4_pass_23 : decode cX4_pass 23 = .ok (.putfield 17, 3) := by decide +kernel
theorem dX4_pass_26 : decode cX4_pass 26 = .ok (.aload_n 0, 1) := by decide +kernel
theorem dX4_pass_27 : decode cX4_pass 27 = .ok (.iload_n 1, 1) := by decide +kernel
theorem dX4_pass_28 : decode cX4_pass 28 = .ok (.aload_n 0, 1) := by decide +kernel
theorem dX4_pass_29 : decode cX4_pass 29 = .ok (.getfield 13, 3) := by decide +kernel
theorem dX4_pass_32 : decode cX4_pass 32 = .ok (.invokestatic 27, 3) := by decide +kernel
theorem dX4_pass_35 : decode cX4_pass 35 = .ok (.putfield 13, 3) := by decide +kernel
theorem dX4_pass_38 : decode cX4_pass 38 = .ok (.aload_n 0, 1) := by decide +kernel
theorem dX4_pass_39 : decode cX4_pass 39 = .ok (.dup, 1) := by decide +kernel
theorem dX4_pass_40 : decode cX4_pass 40 = .ok (.getfield 7, 3) := by decide +kernel
theorem dX4_pass_43 : decode cX4_pass 43 = .ok (.iconst 1, 1) := by decide +kernel
theorem dX4_pass_44 : decode cX4_pass 44 = .ok (.isub, 1) := by decide +kernel
theorem dX4_pass_45 : decode cX4_pass 45 = .ok (.putfield 7, 3) := by decide +kernel
theorem dX4_pass_48 : decode cX4_pass 48 = .ok (.return_, 1) := by decide +kernel
theorem dX4_passForm_0 : decode cX4_passForm 0 = .ok (.aload_n 0, 1) := by decide +kernel
theorem dX4_passForm_1 : decode cX4_passForm 1 = .ok (.getfield 7, 3) := by decide +kernel
theorem dX4_passForm_4 : decode cX4_passForm 4 = .ok (.iload_n 1, 1) := by decide +kernel
theorem dX4_passForm_5 : decode cX4_passForm 5 = .ok (.if_icmp .ge 29, 3) := by decide +kernel
theorem dX4_passForm_8 : decode cX4_passForm 8 = .ok (.aload_n 0, 1) := by decide +kernel
theorem dX4_passForm_9 : decode cX4_passForm 9 = .ok (.aload_n 0, 1) := by decide +kernel
theorem dX4_passForm_10 : decode cX4_passForm 10 = .ok (.getfield 13, 3) := by decide +kernel
theorem dX4_passForm_13 : decode cX4_passForm 13 = .ok (.ifCond .eq 17, 3) := by decide +kernel
theorem dX4_passForm_16 : decode cX4_passForm 16 = .ok (.aload_n 0, 1) := by decide +kernel
theorem dX4_passForm_17 : decode cX4_passForm 17 = .ok (.getfield 7, 3) := by decide +kernel
theorem dX4_passForm_20 : decode cX4_passForm 20 = .ok (.ifCond .ne 10, 3) := by decide +kernel
theorem dX4_passForm_23 : decode cX4_passForm 23 = .ok (.iload_n 2, 1) := by decide +kernel
theorem dX4_passForm_24 : decode cX4_passForm 24 = .ok (.invokestatic 21, 3) := by decide +kernel
theorem dX4_passForm_27 : decode cX4_passForm 27 = .ok (.goto 4, 3) := by decide +kernel
theorem dX4_passForm_30 : decode cX4_passForm 30 = .ok (.iload_n 2, 1) := by decide +kernel
theorem dX4_passForm_31 : decode cX4_passForm 31 = .ok (.putfield 17, 3) := by decide +kernel
theorem dX4_passForm_34 : decode cX4_passForm 34 = .ok (.aload_n 0, 1) := by decide +kernel
theorem dX4_passForm_35 : decode cX4_passForm 35 = .ok (.iconst 0, 1) := by decide +kernel
theorem dX4_passForm_36 : decode cX4_passForm 36 = .ok (.putfield 13, 3) := by decide +kernel
theorem dX4_passForm_39 : decode cX4_passForm 39 = .ok (.aload_n 0, 1) := by decide +kernel
theorem dX4_passForm_40 : decode cX4_passForm 40 = .ok (.dup, 1) := by decide +kernel
theorem dX4_passForm_41 : decode cX4_passForm 41 = .ok (.getfield 7, 3) := by decide +kernel
theorem dX4_passForm_44 : decode cX4_passForm 44 = .ok (.iload_n 1, 1) := by decide +kernel
theorem dX4_passForm_45 : decode cX4_passForm 45 = .ok (.isub, 1) := by decide +kernel
theorem dX4_passForm_46 : decode cX4_passForm 46 = .ok (.putfield 7, 3) := by decide +kernel
theorem dX4_passForm_49 : decode cX4_passForm 49 = .ok (.return_, 1) := by decide +kernel
theorem dX5_init_0 : decode cX5_init 0 = .ok (.aload_n 0, 1) := by decide +kernel
theorem dX5_init_1 : decode cX5_init 1 = .ok (.invokespecial 1, 3) := by decide +kernel
theorem dX5_init_4 : decode cX5_init 4 = .ok (.aload_n 0, 1) := by decide +kernel
theorem dX5_init_5 : decode cX5_init 5 = .ok (.iload_n 1, 1) := by decide +kernel
theorem dX5_init_6 : decode cX5_init 6 = .ok (.ifCond .le 7, 3) := by decide +kernel
theorem dX5_init_9 : decode cX5_init 9 = .ok (.iload_n 1, 1) := by decide +kernel
theorem dX5_init_10 : decode cX5_init 10 = .ok (.goto 4, 3) := by decide +kernel
theorem dX5_init_13 : decode cX5_init 13 = .ok (.iconst 0, 1) := by decide +kernel
theorem dX5_init_14 : decode cX5_init 14 = .ok (.newarray .char, 2) := by decide +kernel
theorem dX5_init_16 : decode cX5_init 16 = .ok (.putfield 7, 3) := by decide +kernel
theorem dX5_init_19 : decode cX5_init 19 = .ok (.return_, 1) := by decide +kernel
theorem dX5_length_0 : decode cX5_length 0 = .ok (.aload_n 0, 1) := by decide +kernel
theorem dX5_length_1 : decode cX5_length 1 = .ok (.getfield 13, 3) := by decide +kernel
theorem dX5_length_4 : decode cX5_length 4 = .ok (.ireturn, 1) := by decide +kernel
theorem dX5_at_0 : decode cX5_at 0 = .ok (.iload_n 1, 1) := by decide +kernel
theorem dX5_at_1 : decode cX5_at 1 = .ok (.ifCond .lt 29, 3) := by decide +kernel
theorem dX5_at_4 : decode cX5_at 4 = .ok (.iload_n 1, 1) := by decide +kernel
theorem dX5_at_5 : decode cX5_at 5 = .ok (.aload_n 0, 1) := by decide +kernel
theorem dX5_at_6 : decode cX5_at 6 = .ok (.getfield 13, 3) := by decide +kernel
theorem dX5_at_9 : decode cX5_at 9 = .ok (.if_icmp .ge 21, 3) := by decide +kernel
theorem dX5_at_12 : decode cX5_at 12 = .ok (.iload_n 1, 1) := by decide +kernel
theorem dX5_at_13 : decode cX5_at 13 = .ok (.aload_n 0, 1) := by decide +kernel
theorem dX5_at_14 : decode cX5_at 14 = .ok (.getfield 7, 3) := by decide +kernel
theorem dX5_at_17 : decode cX5_at 17 = .ok (.arraylength, 1) := by decide +kernel
theorem dX5_at_18 : decode cX5_at 18 = .ok (.if_icmp .ge 12, 3) := by decide +kernel
theorem dX5_at_21 : decode cX5_at 21 = .ok (.aload_n 0, 1) := by decide +kernel
theorem dX5_at_22 : decode cX5_at 22 = .ok (.getfield 7, 3) := by decide +kernel
theorem dX5_at_25 : decode cX5_at 25 = .ok (.iload_n 1, 1) := by decide +kernel
theorem dX5_at_26 : decode cX5_at 26 = .ok (.caload, 1) := by decide +kernel
theorem dX5_at_27 : decode cX5_at 27 = .ok (.goto 4, 3) := by decide +kernel
theorem dX5_at_30 : decode cX5_at 30 = .ok (.iconst 0, 1) := by decide +kernel
theorem dX5_at_31 : decode cX5_at 31 = .ok (.ireturn, 1) := by decide +kernel
theorem dX5_append_0 : decode cX5_append 0 = .ok (.aload_n 0, 1) := by decide +kernel
theorem dX5_append_1 : decode cX5_append 1 = .ok (.getfield 13, 3) := by decide +kernel
theorem dX5_append_4 : decode cX5_append 4 = .ok (.ifCond .lt 15, 3) := by decide +kernel
theorem dX5_append_7 : decode cX5_append 7 = .ok (.aload_n 0, 1) := by decide +kernel
theorem dX5_append_8 : decode cX5_append 8 = .ok (.getfield 13, 3) := by decide +kernel
theorem dX5_append_11 : decode cX5_append 11 = .ok (.aload_n 0, 1) := by decide +kernel
theorem dX5_append_12 : decode cX5_append 12 = .ok (.getfield 7, 3) := by decide +kernel
theorem dX5_append_15 : decode cX5_append 15 = .ok (.arraylength, 1) := by decide +kernel
theorem dX5_append_16 : decode cX5_append 16 = .ok (.if_icmp .lt 5, 3) := by decide +kernel
theorem dX5_append_19 : decode cX5_append 19 = .ok (.iconst 0, 1) := by decide +kernel
theorem dX5_append_20 : decode cX5_append 20 = .ok (.ireturn, 1) := by decide +kernel
theorem dX5_append_21 : decode cX5_append 21 = .ok (.aload_n 0, 1) := by decide +kernel
theorem dX5_append_22 : decode cX5_append 22 = .ok (.getfield 7, 3) := by decide +kernel
theorem dX5_append_25 : decode cX5_append 25 = .ok (.aload_n 0, 1) := by decide +kernel
theorem dX5_append_26 : decode cX5_append 26 = .ok (.getfield 13, 3) := by decide +kernel
theorem dX5_append_29 : decode cX5_append 29 = .ok (.iload_n 1, 1) := by decide +kernel
theorem dX5_append_30 : decode cX5_append 30 = .ok (.castore, 1) := by decide +kernel
theorem dX5_append_31 : decode cX5_append 31 = .ok (.aload_n 0, 1) := by decide +kernel
theorem dX5_append_32 : decode cX5_append 32 = .ok (.dup, 1) := by decide +kernel
theorem dX5_append_33 : decode cX5_append 33 = .ok (.getfield 13, 3) := by decide +kernel
theorem dX5_append_36 : decode cX5_append 36 = .ok (.iconst 1, 1) := by decide +kernel
theorem dX5_append_37 : decode cX5_append 37 = .ok (.iadd, 1) := by decide +kernel
theorem dX5_append_38 : decode cX5_append 38 = .ok (.putfield 13, 3) := by decide +kernel
theorem dX5_append_41 : decode cX5_append 41 = .ok (.iconst 1, 1) := by decide +kernel
theorem dX5_append_42 : decode cX5_append 42 = .ok (.ireturn, 1) := by decide +kernel
theorem dX5_empty_0 : decode cX5_empty 0 = .ok (.aload_n 0, 1) := by decide +kernel
theorem dX5_empty_1 : decode cX5_empty 1 = .ok (.iconst 0, 1) := by decide +kernel
theorem dX5_empty_2 : decode cX5_empty 2 = .ok (.putfield 13, 3) := by decide +kernel
theorem dX5_empty_5 : decode cX5_empty 5 = .ok (.return_, 1) := by decide +kernel
theorem dX5_take_0 : decode cX5_take 0 = .ok (.aload_n 0, 1) := by decide +kernel
theorem dX5_take_1 : decode cX5_take 1 = .ok (.invokevirtual 17, 3) := by decide +kernel
theorem dX5_take_4 : decode cX5_take 4 = .ok (.iconst 0, 1) := by decide +kernel
theorem dX5_take_5 : decode cX5_take 5 = .ok (.istore_n 2, 1) := by decide +kernel
theorem dX5_take_6 : decode cX5_take 6 = .ok (.iload_n 2, 1) := by decide +kernel
theorem dX5_take_7 : decode cX5_take 7 = .ok (.aload_n 1, 1) := by decide +kernel
theorem dX5_take_8 : decode cX5_take 8 = .ok (.invokevirtual 20, 3) := by decide +kernel
theorem dX5_take_11 : decode cX5_take 11 = .ok (.if_icmp .ge 19, 3) := by decide +kernel
theorem dX5_take_14 : decode cX5_take 14 = .ok (.aload_n 0, 1) := by decide +kernel
theorem dX5_take_15 : decode cX5_take 15 = .ok (.aload_n 1, 1) := by decide +kernel
theorem dX5_take_16 : decode cX5_take 16 = .ok (.iload_n 2, 1) := by decide +kernel
theorem dX5_take_17 : decode cX5_take 17 = .ok (.invokevirtual 23, 3) := by decide +kernel
theorem dX5_take_20 : decode cX5_take 20 = .ok (.invokevirtual 27, 3) := by decide +kernel
theorem dX5_take_23 : decode cX5_take 23 = .ok (.pop, 1) := by decide +kernel
theorem dX5_take_24 : decode cX5_take 24 = .ok (.iinc 2 1, 3) := by decide +kernel
theorem dX5_take_27 : decode cX5_take 27 = .ok (.goto (-21), 3) := by decide +kernel
theorem dX5_take_30 : decode cX5_take 30 = .ok (.return_, 1) := by decide +kernel
theorem dX5_isLetters_0 : decode cX5_isLetters 0 = .ok (.iconst 0, 1) := by decide +kernel
theorem dX5_isLetters_1 : decode cX5_isLetters 1 = .ok (.istore_n 3, 1) := by decide +kernel
theorem dX5_isLetters_2 : decode cX5_isLetters 2 = .ok (.iload_n 3, 1) := by decide +kernel
theorem dX5_isLetters_3 : decode cX5_isLetters 3 = .ok (.aload_n 0, 1) := by decide +kernel
theorem dX5_isLetters_4 : decode cX5_isLetters 4 = .ok (.getfield 13, 3) := by decide +kernel
theorem dX5_isLetters_7 : decode cX5_isLetters 7 = .ok (.if_icmp .ge 22, 3) := by decide +kernel
theorem dX5_isLetters_10 : decode cX5_isLetters 10 = .ok (.aload_n 0, 1) := by decide +kernel
theorem dX5_isLetters_11 : decode cX5_isLetters 11 = .ok (.iload_n 3, 1) := by decide +kernel
theorem dX5_isLetters_12 : decode cX5_isLetters 12 = .ok (.invokevirtual 23, 3) := by decide +kernel
theorem dX5_isLetters_15 : decode cX5_isLetters 15 = .ok (.invokestatic 31, 3) := by decide +kernel
theorem dX5_isLetters_18 : decode cX5_isLetters 18 = .ok (.ifCond .ne 5, 3) := by decide +kernel
theorem dX5_isLetters_21 : decode cX5_isLetters 21 = .ok (.iconst 0, 1) := by decide +kernel
theorem dX5_isLetters_22 : decode cX5_isLetters 22 = .ok (.ireturn, 1) := by decide +kernel
theorem dX5_isLetters_23 : decode cX5_isLetters 23 = .ok (.iinc 3 1, 3) := by decide +kernel
theorem dX5_isLetters_26 : decode cX5_isLetters 26 = .ok (.goto (-24), 3) := by decide +kernel
theorem dX5_isLetters_29 : decode cX5_isLetters 29 = .ok (.aload_n 0, 1) := by decide +kernel
theorem dX5_isLetters_30 : decode cX5_isLetters 30 = .ok (.getfield 13, 3) := by decide +kernel
theorem dX5_isLetters_33 : decode cX5_isLetters 33 = .ok (.iload_n 1, 1) := by decide +kernel
theorem dX5_isLetters_34 : decode cX5_isLetters 34 = .ok (.if_icmp .lt 15, 3) := by decide +kernel
theorem dX5_isLetters_37 : decode cX5_isLetters 37 = .ok (.aload_n 0, 1) := by decide +kernel
theorem dX5_isLetters_38 : decode cX5_isLetters 38 = .ok (.getfield 13, 3) := by decide +kernel
theorem dX5_isLetters_41 : decode cX5_isLetters 41 = .ok (.iload_n 2, 1) := by decide +kernel
theorem dX5_isLetters_42 : decode cX5_isLetters 42 = .ok (.if_icmp .gt 7, 3) := by decide +kernel
theorem dX5_isLetters_45 : decode cX5_isLetters 45 = .ok (.iconst 1, 1) := by decide +kernel
theorem dX5_isLetters_46 : decode cX5_isLetters 46 = .ok (.goto 4, 3) := by decide +kernel
theorem dX5_isLetters_49 : decode cX5_isLetters 49 = .ok (.iconst 0, 1) := by decide +kernel
theorem dX5_isLetters_50 : decode cX5_isLetters 50 = .ok (.ireturn, 1) := by decide +kernel
theorem dX6_init_0 : decode cX6_init 0 = .ok (.aload_n 0, 1) := by decide +kernel
theorem dX6_init_1 : decode cX6_init 1 = .ok (.invokespecial 3, 3) := by decide +kernel
theorem dX6_init_4 : decode cX6_init 4 = .ok (.aload_n 0, 1) := by decide +kernel
theorem dX6_init_5 : decode cX6_init 5 = .ok (.new 9, 3) := by decide +kernel
theorem dX6_init_8 : decode cX6_init 8 = .ok (.dup, 1) := by decide +kernel
theorem dX6_init_9 : decode cX6_init 9 = .ok (.bipush 60, 2) := by decide +kernel
theorem dX6_init_11 : decode cX6_init 11 = .ok (.invokespecial 11, 3) := by decide +kernel
theorem dX6_init_14 : decode cX6_init 14 = .ok (.putfield 14, 3) := by decide +kernel
theorem dX6_init_17 : decode cX6_init 17 = .ok (.return_, 1) := by decide +kernel
theorem dX6_isThere_0 : decode cX6_isThere 0 = .ok (.aload_n 0, 1) := by decide +kernel
theorem dX6_isThere_1 : decode cX6_isThere 1 = .ok (.getfield 14, 3) := by decide +kernel
theorem dX6_isThere_4 : decode cX6_isThere 4 = .ok (.invokevirtual 20, 3) := by decide +kernel
theorem dX6_isThere_7 : decode cX6_isThere 7 = .ok (.ifCond .le 7, 3) := by decide +kernel
theorem dX6_isThere_10 : decode cX6_isThere 10 = .ok (.iconst 1, 1) := by decide +kernel
theorem dX6_isThere_11 : decode cX6_isThere 11 = .ok (.goto 4, 3) := by decide +kernel
theorem dX6_isThere_14 : decode cX6_isThere 14 = .ok (.iconst 0, 1) := by decide +kernel
theorem dX6_isThere_15 : decode cX6_isThere 15 = .ok (.ireturn, 1) := by decide +kernel
theorem dX6_isApproved_0 : decode cX6_isApproved 0 = .ok (.aload_n 0, 1) := by decide +kernel
theorem dX6_isApproved_1 : decode cX6_isApproved 1 = .ok (.getfield 24, 3) := by decide +kernel
theorem dX6_isApproved_4 : decode cX6_isApproved 4 = .ok (.ireturn, 1) := by decide +kernel
theorem dX6_setApproved_0 : decode cX6_setApproved 0 = .ok (.aload_n 0, 1) := by decide +kernel
theorem dX6_setApproved_1 : decode cX6_setApproved 1 = .ok (.iconst 1, 1) := by decide +kernel
theorem dX6_setApproved_2 : decode cX6_setApproved 2 = .ok (.putfield 24, 3) := by decide +kernel
theorem dX6_setApproved_5 : decode cX6_setApproved 5 = .ok (.return_, 1) := by decide +kernel
theorem dX6_take_0 : decode cX6_take 0 = .ok (.aload_n 0, 1) := by decide +kernel
theorem dX6_take_1 : decode cX6_take 1 = .ok (.getfield 14, 3) := by decide +kernel
theorem dX6_take_4 : decode cX6_take 4 = .ok (.aload_n 1, 1) := by decide +kernel
theorem dX6_take_5 : decode cX6_take 5 = .ok (.invokevirtual 28, 3) := by decide +kernel
theorem dX6_take_8 : decode cX6_take 8 = .ok (.aload_n 0, 1) := by decide +kernel
theorem dX6_take_9 : decode cX6_take 9 = .ok (.iconst 0, 1) := by decide +kernel
theorem dX6_take_10 : decode cX6_take 10 = .ok (.putfield 24, 3) := by decide +kernel
theorem dX6_take_13 : decode cX6_take 13 = .ok (.return_, 1) := by decide +kernel
theorem dX6_length_0 : decode cX6_length 0 = .ok (.aload_n 0, 1) := by decide +kernel
theorem dX6_length_1 : decode cX6_length 1 = .ok (.getfield 14, 3) := by decide +kernel
theorem dX6_length_4 : decode cX6_length 4 = .ok (.invokevirtual 20, 3) := by decide +kernel
theorem dX6_length_7 : decode cX6_length 7 = .ok (.ireturn, 1) := by decide +kernel
theorem dX6_at_0 : decode cX6_at 0 = .ok (.aload_n 0, 1) := by decide +kernel
theorem dX6_at_1 : decode cX6_at 1 = .ok (.getfield 14, 3) := by decide +kernel
theorem dX6_at_4 : decode cX6_at 4 = .ok (.iload_n 1, 1) := by decide +kernel
theorem dX6_at_5 : decode cX6_at 5 = .ok (.invokevirtual 32, 3) := by decide +kernel
theorem dX6_at_8 : decode cX6_at 8 = .ok (.ireturn, 1) := by decide +kernel
theorem dX6_isSlot_0 : decode cX6_isSlot 0 = .ok (.aload_n 0, 1) := by decide +kernel
theorem dX6_isSlot_1 : decode cX6_isSlot 1 = .ok (.getfield 14, 3) := by decide +kernel
theorem dX6_isSlot_4 : decode cX6_isSlot 4 = .ok (.iload_n 1, 1) := by decide +kernel
theorem dX6_isSlot_5 : decode cX6_isSlot 5 = .ok (.invokevirtual 32, 3) := by decide +kernel
theorem dX6_isSlot_8 : decode cX6_isSlot 8 = .ok (.bipush 91, 2) := by decide +kernel
theorem dX6_isSlot_10 : decode cX6_isSlot 10 = .ok (.if_icmp .ne 7, 3) := by decide +kernel
theorem dX6_isSlot_13 : decode cX6_isSlot 13 = .ok (.iconst 1, 1) := by decide +kernel
theorem dX6_isSlot_14 : decode cX6_isSlot 14 = .ok (.goto 4, 3) := by decide +kernel
theorem dX6_isSlot_17 : decode cX6_isSlot 17 = .ok (.iconst 0, 1) := by decide +kernel
theorem dX6_isSlot_18 : decode cX6_isSlot 18 = .ok (.ireturn, 1) := by decide +kernel
theorem dX6_slotAt_0 : decode cX6_slotAt 0 = .ok (.aload_n 0, 1) := by decide +kernel
theorem dX6_slotAt_1 : decode cX6_slotAt 1 = .ok (.getfield 14, 3) := by decide +kernel
theorem dX6_slotAt_4 : decode cX6_slotAt 4 = .ok (.iload_n 1, 1) := by decide +kernel
theorem dX6_slotAt_5 : decode cX6_slotAt 5 = .ok (.iconst 1, 1) := by decide +kernel
theorem dX6_slotAt_6 : decode cX6_slotAt 6 = .ok (.iadd, 1) := by decide +kernel
theorem dX6_slotAt_7 : decode cX6_slotAt 7 = .ok (.invokevirtual 32, 3) := by decide +kernel
theorem dX6_slotAt_10 : decode cX6_slotAt 10 = .ok (.invokestatic 36, 3) := by decide +kernel
theorem dX6_slotAt_13 : decode cX6_slotAt 13 = .ok (.ireturn, 1) := by decide +kernel
theorem dX6_grammarAt_0 : decode cX6_grammarAt 0 = .ok (.iconst 2, 1) := by decide +kernel
theorem dX6_grammarAt_1 : decode cX6_grammarAt 1 = .ok (.aload_n 0, 1) := by decide +kernel
theorem dX6_grammarAt_2 : decode cX6_grammarAt 2 = .ok (.getfield 14, 3) := by decide +kernel
theorem dX6_grammarAt_5 : decode cX6_grammarAt 5 = .ok (.iload_n 1, 1) := by decide +kernel
theorem dX6_grammarAt_6 : decode cX6_grammarAt 6 = .ok (.iconst 2, 1) := by decide +kernel
theorem dX6_grammarAt_7 : decode cX6_grammarAt 7 = .ok (.iadd, 1) := by decide +kernel
theorem dX6_grammarAt_8 : decode cX6_grammarAt 8 = .ok (.invokevirtual 32, 3) := by decide +kernel
theorem dX6_grammarAt_11 : decode cX6_grammarAt 11 = .ok (.invokestatic 40, 3) := by decide +kernel
theorem dX6_grammarAt_14 : decode cX6_grammarAt 14 = .ok (.imul, 1) := by decide +kernel
theorem dX6_grammarAt_15 : decode cX6_grammarAt 15 = .ok (.aload_n 0, 1) := by decide +kernel
theorem dX6_grammarAt_16 : decode cX6_grammarAt 16 = .ok (.getfield 14, 3) := by decide +kernel
theorem dX6_grammarAt_19 : decode cX6_grammarAt 19 = .ok (.iload_n 1, 1) := by decide +kernel
theorem dX6_grammarAt_20 : decode cX6_grammarAt 20 = .ok (.iconst 3, 1) := by decide +kernel
theorem dX6_grammarAt_21 : decode cX6_grammarAt 21 = .ok (.iadd, 1) := by decide +kernel
theorem dX6_grammarAt_22 : decode cX6_grammarAt 22 = .ok (.invokevirtual 32, 3) := by decide +kernel
theorem dX6_grammarAt_25 : decode cX6_grammarAt 25 = .ok (.invokestatic 43, 3) := by decide +kernel
theorem dX6_grammarAt_28 : decode cX6_grammarAt 28 = .ok (.iadd, 1) := by decide +kernel
theorem dX6_grammarAt_29 : decode cX6_grammarAt 29 = .ok (.ireturn, 1) := by decide +kernel
theorem dX6_slotCount_0 : decode cX6_slotCount 0 = .ok (.iconst 0, 1) := by decide +kernel
theorem dX6_slotCount_1 : decode cX6_slotCount 1 = .ok (.istore_n 1, 1) := by decide +kernel
theorem dX6_slotCount_2 : decode cX6_slotCount 2 = .ok (.iconst 0, 1) := by decide +kernel
theorem dX6_slotCount_3 : decode cX6_slotCount 3 = .ok (.istore_n 2, 1) := by decide +kernel
theorem dX6_slotCount_4 : decode cX6_slotCount 4 = .ok (.iload_n 2, 1) := by decide +kernel
theorem dX6_slotCount_5 : decode cX6_slotCount 5 = .ok (.aload_n 0, 1) := by decide +kernel
theorem dX6_slotCount_6 : decode cX6_slotCount 6 = .ok (.getfield 14, 3) := by decide +kernel
theorem dX6_slotCount_9 : decode cX6_slotCount 9 = .ok (.invokevirtual 20, 3) := by decide +kernel
theorem dX6_slotCount_12 : decode cX6_slotCount 12 = .ok (.if_icmp .ge 20, 3) := by decide +kernel
theorem dX6_slotCount_15 : decode cX6_slotCount 15 = .ok (.aload_n 0, 1) := by decide +kernel
theorem dX6_slotCount_16 : decode cX6_slotCount 16 = .ok (.iload_n 2, 1) := by decide +kernel
theorem dX6_slotCount_17 : decode cX6_slotCount 17 = .ok (.invokevirtual 46, 3) := by decide +kernel
theorem dX6_slotCount_20 : decode cX6_slotCount 20 = .ok (.ifCond .eq 6, 3) := by decide +kernel
theorem dX6_slotCount_23 : decode cX6_slotCount 23 = .ok (.iinc 1 1, 3) := by decide +kernel
theorem dX6_slotCount_26 : decode cX6_slotCount 26 = .ok (.iinc 2 1, 3) := by decide +kernel
theorem dX6_slotCount_29 : decode cX6_slotCount 29 = .ok (.goto (-25), 3) := by decide +kernel
theorem dX6_slotCount_32 : decode cX6_slotCount 32 = .ok (.iload_n 1, 1) := by decide +kernel
theorem dX6_slotCount_33 : decode cX6_slotCount 33 = .ok (.ireturn, 1) := by decide +kernel
theorem dX6_countOfSlot_0 : decode cX6_countOfSlot 0 = .ok (.iconst 0, 1) := by decide +kernel
theorem dX6_countOfSlot_1 : decode cX6_countOfSlot 1 = .ok (.istore_n 2, 1) := by decide +kernel
theorem dX6_countOfSlot_2 : decode cX6_countOfSlot 2 = .ok (.iconst 0, 1) := by decide +kernel
theorem dX6_countOfSlot_3 : decode cX6_countOfSlot 3 = .ok (.istore_n 3, 1) := by decide +kernel
theorem dX6_countOfSlot_4 : decode cX6_countOfSlot 4 = .ok (.iload_n 3, 1) := by decide +kernel
theorem dX6_countOfSlot_5 : decode cX6_countOfSlot 5 = .ok (.aload_n 0, 1) := by decide +kernel
theorem dX6_countOfSlot_6 : decode cX6_countOfSlot 6 = .ok (.getfield 14, 3) := by decide +kernel
theorem dX6_countOfSlot_9 : decode cX6_countOfSlot 9 = .ok (.invokevirtual 20, 3) := by decide +kernel
theorem dX6_countOfSlot_12 : decode cX6_countOfSlot 12 = .ok (.if_icmp .ge 29, 3) := by decide +kernel
theorem dX6_countOfSlot_15 : decode cX6_countOfSlot 15 = .ok (.aload_n 0, 1) := by decide +kernel
theorem dX6_countOfSlot_16 : decode cX6_countOfSlot 16 = .ok (.iload_n 3, 1) := by decide +kernel
theorem dX6_countOfSlot_17 : decode cX6_countOfSlot 17 = .ok (.invokevirtual 46, 3) := by decide +kernel
theorem dX6_countOfSlot_20 : decode cX6_countOfSlot 20 = .ok (.ifCond .eq 15, 3) := by decide +kernel
theorem dX6_countOfSlot_23 : decode cX6_countOfSlot 23 = .ok (.aload_n 0, 1) := by decide +kernel
theorem dX6_countOfSlot_24 : decode cX6_countOfSlot 24 = .ok (.iload_n 3, 1) := by decide +kernel
theorem dX6_countOfSlot_25 : decode cX6_countOfSlot 25 = .ok (.invokevirtual 50, 3) := by decide +kernel
theorem dX6_countOfSlot_28 : decode cX6_countOfSlot 28 = .ok (.iload_n 1, 1) := by decide +kernel
theorem dX6_countOfSlot_29 : decode cX6_countOfSlot 29 = .ok (.if_icmp .ne 6, 3) := by decide +kernel
theorem dX6_countOfSlot_32 : decode cX6_countOfSlot 32 = .ok (.iinc 2 1, 3) := by decide +kernel
theorem dX6_countOfSlot_35 : decode cX6_countOfSlot 35 = .ok (.iinc 3 1, 3) := by decide +kernel
theorem dX6_countOfSlot_38 : decode cX6_countOfSlot 38 = .ok (.goto (-34), 3) := by decide +kernel
theorem dX6_countOfSlot_41 : decode cX6_countOfSlot 41 = .ok (.iload_n 2, 1) := by decide +kernel
theorem dX6_countOfSlot_42 : decode cX6_countOfSlot 42 = .ok (.ireturn, 1) := by decide +kernel
theorem dX7_init_0 : decode cX7_init 0 = .ok (.aload_n 0, 1) := by decide +kernel
theorem dX7_init_1 : decode cX7_init 1 = .ok (.invokespecial 3, 3) := by decide +kernel
theorem dX7_init_4 : decode cX7_init 4 = .ok (.aload_n 0, 1) := by decide +kernel
theorem dX7_init_5 : decode cX7_init 5 = .ok (.bipush 12, 2) := by decide +kernel
theorem dX7_init_7 : decode cX7_init 7 = .ok (.anewarray 9, 3) := by decide +kernel
theorem dX7_init_10 : decode cX7_init 10 = .ok (.putfield 11, 3) := by decide +kernel
theorem dX7_init_13 : decode cX7_init 13 = .ok (.aload_n 0, 1) := by decide +kernel
theorem dX7_init_14 : decode cX7_init 14 = .ok (.bipush 24, 2) := by decide +kernel
theorem dX7_init_16 : decode cX7_init 16 = .ok (.anewarray 9, 3) := by decide +kernel
theorem dX7_init_19 : decode cX7_init 19 = .ok (.putfield 17, 3) := by decide +kernel
theorem dX7_init_22 : decode cX7_init 22 = .ok (.aload_n 0, 1) := by decide +kernel
theorem dX7_init_23 : decode cX7_init 23 = .ok (.sipush 288, 3) := by decide +kernel
theorem dX7_init_26 : decode cX7_init 26 = .ok (.anewarray 9, 3) := by decide +kernel
theorem dX7_init_29 : decode cX7_init 29 = .ok (.putfield 20, 3) := by decide +kernel
theorem dX7_init_32 : decode cX7_init 32 = .ok (.iconst 0, 1) := by decide +kernel
theorem dX7_init_33 : decode cX7_init 33 = .ok (.istore_n 1, 1) := by decide +kernel
theorem dX7_init_34 : decode cX7_init 34 = .ok (.iload_n 1, 1) := by decide +kernel
theorem dX7_init_35 : decode cX7_init 35 = .ok (.aload_n 0, 1) := by decide +kernel
theorem dX7_init_36 : decode cX7_init 36 = .ok (.getfield 17, 3) := by decide +kernel
theorem dX7_init_39 : decode cX7_init 39 = .ok (.arraylength, 1) := by decide +kernel
theorem dX7_init_40 : decode cX7_init 40 = .ok (.if_icmp .ge 23, 3) := by decide +kernel
theorem dX7_init_43 : decode cX7_init 43 = .ok (.aload_n 0, 1) := by decide +kernel
theorem dX7_init_44 : decode cX7_init 44 = .ok (.getfield 17, 3) := by decide +kernel
theorem dX7_init_47 : decode cX7_init 47 = .ok (.iload_n 1, 1) := by decide +kernel
theorem dX7_init_48 : decode cX7_init 48 = .ok (.new 9, 3) := by decide +kernel
theorem dX7_init_51 : decode cX7_init 51 = .ok (.dup, 1) := by decide +kernel
theorem dX7_init_52 : decode cX7_init 52 = .ok (.iconst 4, 1) := by decide +kernel
theorem dX7_init_53 : decode cX7_init 53 = .ok (.invokespecial 23, 3) := by decide +kernel
theorem dX7_init_56 : decode cX7_init 56 = .ok (.aastore, 1) := by decide +kernel
theorem dX7_init_57 : decode cX7_init 57 = .ok (.iinc 1 1, 3) := by decide +kernel
theorem dX7_init_60 : decode cX7_init 60 = .ok (.goto (-26), 3) := by decide +kernel
theorem dX7_init_63 : decode cX7_init 63 = .ok (.return_, 1) := by decide +kernel
theorem dX7_count_0 : decode cX7_count 0 = .ok (.aload_n 0, 1) := by decide +kernel
theorem dX7_count_1 : decode cX7_count 1 = .ok (.getfield 26, 3) := by decide +kernel
theorem dX7_count_4 : decode cX7_count 4 = .ok (.ireturn, 1) := by decide +kernel
theorem dX7_addStem_0 : decode cX7_addStem 0 = .ok (.aload_n 0, 1) := by decide +kernel
theorem dX7_addStem_1 : decode cX7_addStem 1 = .ok (.getfield 26, 3) := by decide +kernel
theorem dX7_addStem_4 : decode cX7_addStem 4 = .ok (.aload_n 0, 1) := by decide +kernel
theorem dX7_addStem_5 : decode cX7_addStem 5 = .ok (.getfield 11, 3) := by decide +kernel
theorem dX7_addStem_8 : decode cX7_addStem 8 = .ok (.arraylength, 1) := by decide +kernel
theorem dX7_addStem_9 : decode cX7_addStem 9 = .ok (.invokestatic 30, 3) := by decide +kernel
theorem dX7_addStem_12 : decode cX7_addStem 12 = .ok (.ifCond .ne 5, 3) := by decide +kernel
theorem dX7_addStem_15 : decode cX7_addStem 15 = .ok (.iconst (-1), 1) := by decide +kernel
theorem dX7_addStem_16 : decode cX7_addStem 16 = .ok (.ireturn, 1) := by decide +kernel
theorem dX7_addStem_17 : decode cX7_addStem 17 = .ok (.new 9, 3) := by decide +kernel
theorem dX7_addStem_20 : decode cX7_addStem 20 = .ok (.dup, 1) := by decide +kernel
theorem dX7_addStem_21 : decode cX7_addStem 21 = .ok (.bipush 10, 2) := by decide +kernel
theorem dX7_addStem_23 : decode cX7_addStem 23 = .ok (.invokespecial 23, 3) := by decide +kernel
theorem dX7_addStem_26 : decode cX7_addStem 26 = .ok (.astore_n 2, 1) := by decide +kernel
theorem dX7_addStem_27 : decode cX7_addStem 27 = .ok (.aload_n 2, 1) := by decide +kernel
theorem dX7_addStem_28 : decode cX7_addStem 28 = .ok (.aload_n 1, 1) := by decide +kernel
theorem dX7_addStem_29 : decode cX7_addStem 29 = .ok (.invokevirtual 34, 3) := by decide +kernel
theorem dX7_addStem_32 : decode cX7_addStem 32 = .ok (.aload_n 0, 1) := by decide +kernel
theorem dX7_addStem_33 : decode cX7_addStem 33 = .ok (.getfield 11, 3) := by decide +kernel
theorem dX7_addStem_36 : decode cX7_addStem 36 = .ok (.aload_n 0, 1) := by decide +kernel
theorem dX7_addStem_37 : decode cX7_addStem 37 = .ok (.getfield 26, 3) := by decide +kernel
theorem dX7_addStem_40 : decode cX7_addStem 40 = .ok (.aload_n 2, 1) := by decide +kernel
theorem dX7_addStem_41 : decode cX7_addStem 41 = .ok (.aastore, 1) := by decide +kernel
theorem dX7_addStem_42 : decode cX7_addStem 42 = .ok (.aload_n 0, 1) := by decide +kernel
theorem dX7_addStem_43 : decode cX7_addStem 43 = .ok (.dup, 1) := by decide +kernel
theorem dX7_addStem_44 : decode cX7_addStem 44 = .ok (.getfield 26, 3) := by decide +kernel
theorem dX7_addStem_47 : decode cX7_addStem 47 = .ok (.iconst 1, 1) := by decide +kernel
theorem dX7_addStem_48 : decode cX7_addStem 48 = .ok (.iadd, 1) := by decide +kernel
theorem dX7_addStem_49 : decode cX7_addStem 49 = .ok (.putfield 26, 3) := by decide +kernel
theorem dX7_addStem_52 : decode cX7_addStem 52 = .ok (.aload_n 0, 1) := by decide +kernel
theorem dX7_addStem_53 : decode cX7_addStem 53 = .ok (.getfield 26, 3) := by decide +kernel
theorem dX7_addStem_56 : decode cX7_addStem 56 = .ok (.iconst 1, 1) := by decide +kernel
theorem dX7_addStem_57 : decode cX7_addStem 57 = .ok (.isub, 1) := by decide +kernel
theorem dX7_addStem_58 : decode cX7_addStem 58 = .ok (.ireturn, 1) := by decide +kernel
theorem dX7_setEnding_0 : decode cX7_setEnding 0 = .ok (.aload_n 0, 1) := by decide +kernel
theorem dX7_setEnding_1 : decode cX7_setEnding 1 = .ok (.iload_n 1, 1) := by decide +kernel
theorem dX7_setEnding_2 : decode cX7_setEnding 2 = .ok (.iload_n 2, 1) := by decide +kernel
theorem dX7_setEnding_3 : decode cX7_setEnding 3 = .ok (.invokevirtual 38, 3) := by decide +kernel
theorem dX7_setEnding_6 : decode cX7_setEnding 6 = .ok (.astore 4, 2) := by decide +kernel
theorem dX7_setEnding_8 : decode cX7_setEnding 8 = .ok (.aload 4, 2) := by decide +kernel
theorem dX7_setEnding_10 : decode cX7_setEnding 10 = .ok (.ifnull 9, 3) := by decide +kernel
theorem dX7_setEnding_13 : decode cX7_setEnding 13 = .ok (.aload 4, 2) := by decide +kernel
theorem dX7_setEnding_15 : decode cX7_setEnding 15 = .ok (.aload_n 3, 1) := by decide +kernel
theorem dX7_setEnding_16 : decode cX7_setEnding 16 = .ok (.invokevirtual 34, 3) := by decide +kernel
theorem dX7_setEnding_19 : decode cX7_setEnding 19 = .ok (.return_, 1) := by decide +kernel
theorem dX7_setOwn_0 : decode cX7_setOwn 0 = .ok (.iload_n 1, 1) := by decide +kernel
theorem dX7_setOwn_1 : decode cX7_setOwn 1 = .ok (.iload_n 2, 1) := by decide +kernel
theorem dX7_setOwn_2 : decode cX7_setOwn 2 = .ok (.iload_n 3, 1) := by decide +kernel
theorem dX7_setOwn_3 : decode cX7_setOwn 3 = .ok (.invokestatic 42, 3) := by decide +kernel
theorem dX7_setOwn_6 : decode cX7_setOwn 6 = .ok (.istore 5, 2) := by decide +kernel
theorem dX7_setOwn_8 : decode cX7_setOwn 8 = .ok (.iload 5, 2) := by decide +kernel
theorem dX7_setOwn_10 : decode cX7_setOwn 10 = .ok (.aload_n 0, 1) := by decide +kernel
theorem dX7_setOwn_11 : decode cX7_setOwn 11 = .ok (.getfield 20, 3) := by decide +kernel
theorem dX7_setOwn_14 : decode cX7_setOwn 14 = .ok (.arraylength, 1) := by decide +kernel
theorem dX7_setOwn_15 : decode cX7_setOwn 15 = .ok (.invokestatic 30, 3) := by decide +kernel
theorem dX7_setOwn_18 : decode cX7_setOwn 18 = .ok (.ifCond .ne 4, 3) := by decide +kernel
theorem dX7_setOwn_21 : decode cX7_setOwn 21 = .ok (.return_, 1) := by decide +kernel
theorem dX7_setOwn_22 : decode cX7_setOwn 22 = .ok (.aload_n 0, 1) := by decide +kernel
theorem dX7_setOwn_23 : decode cX7_setOwn 23 = .ok (.getfield 20, 3) := by decide +kernel
theorem dX7_setOwn_26 : decode cX7_setOwn 26 = .ok (.iload 5, 2) := by decide +kernel
theorem dX7_setOwn_28 : decode cX7_setOwn 28 = .ok (.aaload, 1) := by decide +kernel
theorem dX7_setOwn_29 : decode cX7_setOwn 29 = .ok (.astore 6, 2) := by decide +kernel
theorem dX7_setOwn_31 : decode cX7_setOwn 31 = .ok (.aload 6, 2) := by decide +kernel
theorem dX7_setOwn_33 : decode cX7_setOwn 33 = .ok (.ifnonnull 23, 3) := by decide +kernel
theorem dX7_setOwn_36 : decode cX7_setOwn 36 = .ok (.new 9, 3) := by decide +kernel
theorem dX7_setOwn_39 : decode cX7_setOwn 39 = .ok (.dup, 1) := by decide +kernel
theorem dX7_setOwn_40 : decode cX7_setOwn 40 = .ok (.bipush 10, 2) := by decide +kernel
theorem dX7_setOwn_42 : decode cX7_setOwn 42 = .ok (.invokespecial 23, 3) := by decide +kernel
theorem dX7_setOwn_45 : decode cX7_setOwn 45 = .ok (.astore 6, 2) := by decide +kernel
theorem dX7_setOwn_47 : decode cX7_setOwn 47 = .ok (.aload_n 0, 1) := by decide +kernel
theorem dX7_setOwn_48 : decode cX7_setOwn 48 = .ok (.getfield 20, 3) := by decide +kernel
theorem dX7_setOwn_51 : decode cX7_setOwn 51 = .ok (.iload 5, 2) := by decide +kernel
theorem dX7_setOwn_53 : decode cX7_setOwn 53 = .ok (.aload 6, 2) := by decide +kernel
theorem dX7_setOwn_55 : decode cX7_setOwn 55 = .ok (.aastore, 1) := by decide +kernel
theorem dX7_setOwn_56 : decode cX7_setOwn 56 = .ok (.aload 6, 2) := by decide +kernel
theorem dX7_setOwn_58 : decode cX7_setOwn 58 = .ok (.aload 4, 2) := by decide +kernel
theorem dX7_setOwn_60 : decode cX7_setOwn 60 = .ok (.invokevirtual 34, 3) := by decide +kernel
theorem dX7_setOwn_63 : decode cX7_setOwn 63 = .ok (.return_, 1) := by decide +kernel
theorem dX7_formLength_0 : decode cX7_formLength 0 = .ok (.aload_n 0, 1) := by decide +kernel
theorem dX7_formLength_1 : decode cX7_formLength 1 = .ok (.iload_n 1, 1) := by decide +kernel
theorem dX7_formLength_2 : decode cX7_formLength 2 = .ok (.iload_n 2, 1) := by decide +kernel
theorem dX7_formLength_3 : decode cX7_formLength 3 = .ok (.iload_n 3, 1) := by decide +kernel
theorem dX7_formLength_4 : decode cX7_formLength 4 = .ok (.invokevirtual 46, 3) := by decide +kernel
theorem dX7_formLength_7 : decode cX7_formLength 7 = .ok (.astore 4, 2) := by decide +kernel
theorem dX7_formLength_9 : decode cX7_formLength 9 = .ok (.aload 4, 2) := by decide +kernel
theorem dX7_formLength_11 : decode cX7_formLength 11 = .ok (.ifnull 9, 3) := by decide +kernel
theorem dX7_formLength_14 : decode cX7_formLength 14 = .ok (.aload 4, 2) := by decide +kernel
theorem dX7_formLength_16 : decode cX7_formLength 16 = .ok (.invokevirtual 50, 3) := by decide +kernel
theorem dX7_formLength_19 : decode cX7_formLength 19 = .ok (.ireturn, 1) := by decide +kernel
theorem dX7_formLength_20 : decode cX7_formLength 20 = .ok (.aload_n 0, 1) := by decide +kernel
theorem dX7_formLength_21 : decode cX7_formLength 21 = .ok (.iload_n 1, 1) := by decide +kernel
theorem dX7_formLength_22 : decode cX7_formLength 22 = .ok (.iload_n 3, 1) := by decide +kernel
theorem dX7_formLength_23 : decode cX7_formLength 23 = .ok (.invokevirtual 38, 3) := by decide +kernel
theorem dX7_formLength_26 : decode cX7_formLength 26 = .ok (.astore 5, 2) := by decide +kernel
theorem dX7_formLength_28 : decode cX7_formLength 28 = .ok (.aload_n 0, 1) := by decide +kernel
theorem dX7_formLength_29 : decode cX7_formLength 29 = .ok (.iload_n 2, 1) := by decide +kernel
theorem dX7_formLength_30 : decode cX7_formLength 30 = .ok (.invokevirtual 54, 3) := by decide +kernel
theorem dX7_formLength_33 : decode cX7_formLength 33 = .ok (.aload 5, 2) := by decide +kernel
theorem dX7_formLength_35 : decode cX7_formLength 35 = .ok (.invokestatic 58, 3) := by decide +kernel
theorem dX7_formLength_38 : decode cX7_formLength 38 = .ok (.aload 5, 2) := by decide +kernel
theorem dX7_formLength_40 : decode cX7_formLength 40 = .ok (.ifnonnull 7, 3) := by decide +kernel
theorem dX7_formLength_43 : decode cX7_formLength 43 = .ok (.iconst 0, 1) := by decide +kernel
theorem dX7_formLength_44 : decode cX7_formLength 44 = .ok (.goto 8, 3) := by decide +kernel
theorem dX7_formLength_47 : decode cX7_formLength 47 = .ok (.aload 5, 2) := by decide +kernel
theorem dX7_formLength_49 : decode cX7_formLength 49 = .ok (.invokevirtual 50, 3) := by decide +kernel
theorem dX7_formLength_52 : decode cX7_formLength 52 = .ok (.iadd, 1) := by decide +kernel
theorem dX7_formLength_53 : decode cX7_formLength 53 = .ok (.ireturn, 1) := by decide +kernel
theorem dX7_formSign_0 : decode cX7_formSign 0 = .ok (.aload_n 0, 1) := by decide +kernel
theorem dX7_formSign_1 : decode cX7_formSign 1 = .ok (.iload_n 1, 1) := by decide +kernel
theorem dX7_formSign_2 : decode cX7_formSign 2 = .ok (.iload_n 2, 1) := by decide +kernel
theorem dX7_formSign_3 : decode cX7_formSign 3 = .ok (.iload_n 3, 1) := by decide +kernel
theorem dX7_formSign_4 : decode cX7_formSign 4 = .ok (.invokevirtual 46, 3) := by decide +kernel
theorem dX7_formSign_7 : decode cX7_formSign 7 = .ok (.astore 5, 2) := by decide +kernel
theorem dX7_formSign_9 : decode cX7_formSign 9 = .ok (.aload 5, 2) := by decide +kernel
theorem dX7_formSign_11 : decode cX7_formSign 11 = .ok (.ifnull 11, 3) := by decide +kernel
theorem dX7_formSign_14 : decode cX7_formSign 14 = .ok (.aload 5, 2) := by decide +kernel
theorem dX7_formSign_16 : decode cX7_formSign 16 = .ok (.iload 4, 2) := by decide +kernel
theorem dX7_formSign_18 : decode cX7_formSign 18 = .ok (.invokevirtual 62, 3) := by decide +kernel
theorem dX7_formSign_21 : decode cX7_formSign 21 = .ok (.ireturn, 1) := by decide +kernel
theorem dX7_formSign_22 : decode cX7_formSign 22 = .ok (.aload_n 0, 1) := by decide +kernel
theorem dX7_formSign_23 : decode cX7_formSign 23 = .ok (.iload_n 2, 1) := by decide +kernel
theorem dX7_formSign_24 : decode cX7_formSign 24 = .ok (.invokevirtual 54, 3) := by decide +kernel
theorem dX7_formSign_27 : decode cX7_formSign 27 = .ok (.astore 6, 2) := by decide +kernel
theorem dX7_formSign_29 : decode cX7_formSign 29 = .ok (.aload_n 0, 1) := by decide +kernel
theorem dX7_formSign_30 : decode cX7_formSign 30 = .ok (.iload_n 1, 1) := by decide +kernel
theorem dX7_formSign_31 : decode cX7_formSign 31 = .ok (.iload_n 3, 1) := by decide +kernel
theorem dX7_formSign_32 : decode cX7_formSign 32 = .ok (.invokevirtual 38, 3) := by decide +kernel
theorem dX7_formSign_35 : decode cX7_formSign 35 = .ok (.astore 7, 2) := by decide +kernel
theorem dX7_formSign_37 : decode cX7_formSign 37 = .ok (.aload 6, 2) := by decide +kernel
theorem dX7_formSign_39 : decode cX7_formSign 39 = .ok (.ifnull 8, 3) := by decide +kernel
theorem dX7_formSign_42 : decode cX7_formSign 42 = .ok (.aload 7, 2) := by decide +kernel
theorem dX7_formSign_44 : decode cX7_formSign 44 = .ok (.ifnonnull 5, 3) := by decide +kernel
theorem dX7_formSign_47 : decode cX7_formSign 47 = .ok (.iconst 0, 1) := by decide +kernel
theorem dX7_formSign_48 : decode cX7_formSign 48 = .ok (.ireturn, 1) := by decide +kernel
theorem dX7_formSign_49 : decode cX7_formSign 49 = .ok (.aload 6, 2) := by decide +kernel
theorem dX7_formSign_51 : decode cX7_formSign 51 = .ok (.aload 7, 2) := by decide +kernel
theorem dX7_formSign_53 : decode cX7_formSign 53 = .ok (.invokestatic 58, 3) := by decide +kernel
theorem dX7_formSign_56 : decode cX7_formSign 56 = .ok (.istore 8, 2) := by decide +kernel
theorem dX7_formSign_58 : decode cX7_formSign 58 = .ok (.iload 4, 2) := by decide +kernel
theorem dX7_formSign_60 : decode cX7_formSign 60 = .ok (.iload 8, 2) := by decide +kernel
theorem dX7_formSign_62 : decode cX7_formSign 62 = .ok (.if_icmp .ge 13, 3) := by decide +kernel
theorem dX7_formSign_65 : decode cX7_formSign 65 = .ok (.aload 6, 2) := by decide +kernel
theorem dX7_formSign_67 : decode cX7_formSign 67 = .ok (.iload 4, 2) := by decide +kernel
theorem dX7_formSign_69 : decode cX7_formSign 69 = .ok (.invokevirtual 62, 3) := by decide +kernel
theorem dX7_formSign_72 : decode cX7_formSign 72 = .ok (.goto 13, 3) := by decide +kernel
theorem dX7_formSign_75 : decode cX7_formSign 75 = .ok (.aload 7, 2) := by decide +kernel
theorem dX7_formSign_77 : decode cX7_formSign 77 = .ok (.iload 4, 2) := by decide +kernel
theorem dX7_formSign_79 : decode cX7_formSign 79 = .ok (.iload 8, 2) := by decide +kernel
theorem dX7_formSign_81 : decode cX7_formSign 81 = .ok (.isub, 1) := by decide +kernel
theorem dX7_formSign_82 : decode cX7_formSign 82 = .ok (.invokevirtual 62, 3) := by decide +kernel
theorem dX7_formSign_85 : decode cX7_formSign 85 = .ok (.ireturn, 1) := by decide +kernel
theorem dX7_keptOfStem_0 : decode cX7_keptOfStem 0 = .ok (.aload_n 0, 1) := by decide +kernel
theorem dX7_keptOfStem_1 : decode cX7_keptOfStem 1 = .ok (.ifnull 7, 3) := by decide +kernel
theorem dX7_keptOfStem_4 : decode cX7_keptOfStem 4 = .ok (.aload_n 1, 1) := by decide +kernel
theorem dX7_keptOfStem_5 : decode cX7_keptOfStem 5 = .ok (.ifnonnull 5, 3) := by decide +kernel
theorem dX7_keptOfStem_8 : decode cX7_keptOfStem 8 = .ok (.iconst 0, 1) := by decide +kernel
theorem dX7_keptOfStem_9 : decode cX7_keptOfStem 9 = .ok (.ireturn, 1) := by decide +kernel
theorem dX7_keptOfStem_10 : decode cX7_keptOfStem 10 = .ok (.aload_n 0, 1) := by decide +kernel
theorem dX7_keptOfStem_11 : decode cX7_keptOfStem 11 = .ok (.invokevirtual 50, 3) := by decide +kernel
theorem dX7_keptOfStem_14 : decode cX7_keptOfStem 14 = .ok (.istore_n 2, 1) := by decide +kernel
theorem dX7_keptOfStem_15 : decode cX7_keptOfStem 15 = .ok (.aload_n 0, 1) := by decide +kernel
theorem dX7_keptOfStem_16 : decode cX7_keptOfStem 16 = .ok (.iload_n 2, 1) := by decide +kernel
theorem dX7_keptOfStem_17 : decode cX7_keptOfStem 17 = .ok (.iconst 1, 1) := by decide +kernel
theorem dX7_keptOfStem_18 : decode cX7_keptOfStem 18 = .ok (.isub, 1) := by decide +kernel
theorem dX7_keptOfStem_19 : decode cX7_keptOfStem 19 = .ok (.invokevirtual 62, 3) := by decide +kernel
theorem dX7_keptOfStem_22 : decode cX7_keptOfStem 22 = .ok (.invokestatic 66, 3) := by decide +kernel
theorem dX7_keptOfStem_25 : decode cX7_keptOfStem 25 = .ok (.ifCond .eq 20, 3) := by decide +kernel
theorem dX7_keptOfStem_28 : decode cX7_keptOfStem 28 = .ok (.aload_n 1, 1) := by decide +kernel
theorem dX7_keptOfStem_29 : decode cX7_keptOfStem 29 = .ok (.iconst 0, 1) := by decide +kernel
theorem dX7_keptOfStem_30 : decode cX7_keptOfStem 30 = .ok (.invokevirtual 62, 3) := by decide +kernel
theorem dX7_keptOfStem_33 : decode cX7_keptOfStem 33 = .ok (.invokestatic 66, 3) := by decide +kernel
theorem dX7_keptOfStem_36 : decode cX7_keptOfStem 36 = .ok (.ifCond .eq 9, 3) := by decide +kernel
theorem dX7_keptOfStem_39 : decode cX7_keptOfStem 39 = .ok (.iload_n 2, 1) := by decide +kernel
theorem dX7_keptOfStem_40 : decode cX7_keptOfStem 40 = .ok (.iconst 1, 1) := by decide +kernel
theorem dX7_keptOfStem_41 : decode cX7_keptOfStem 41 = .ok (.isub, 1) := by decide +kernel
theorem dX7_keptOfStem_42 : decode cX7_keptOfStem 42 = .ok (.goto 4, 3) := by decide +kernel
theorem dX7_keptOfStem_45 : decode cX7_keptOfStem 45 = .ok (.iload_n 2, 1) := by decide +kernel
theorem dX7_keptOfStem_46 : decode cX7_keptOfStem 46 = .ok (.ireturn, 1) := by decide +kernel
theorem dX7_stemAt_0 : decode cX7_stemAt 0 = .ok (.iload_n 1, 1) := by decide +kernel
theorem dX7_stemAt_1 : decode cX7_stemAt 1 = .ok (.aload_n 0, 1) := by decide +kernel
theorem dX7_stemAt_2 : decode cX7_stemAt 2 = .ok (.getfield 26, 3) := by decide +kernel
theorem dX7_stemAt_5 : decode cX7_stemAt 5 = .ok (.invokestatic 30, 3) := by decide +kernel
theorem dX7_stemAt_8 : decode cX7_stemAt 8 = .ok (.ifCond .eq 21, 3) := by decide +kernel
theorem dX7_stemAt_11 : decode cX7_stemAt 11 = .ok (.iload_n 1, 1) := by decide +kernel
theorem dX7_stemAt_12 : decode cX7_stemAt 12 = .ok (.aload_n 0, 1) := by decide +kernel
theorem dX7_stemAt_13 : decode cX7_stemAt 13 = .ok (.getfield 11, 3) := by decide +kernel
theorem dX7_stemAt_16 : decode cX7_stemAt 16 = .ok (.arraylength, 1) := by decide +kernel
theorem dX7_stemAt_17 : decode cX7_stemAt 17 = .ok (.if_icmp .ge 12, 3) := by decide +kernel
theorem dX7_stemAt_20 : decode cX7_stemAt 20 = .ok (.aload_n 0, 1) := by decide +kernel
theorem dX7_stemAt_21 : decode cX7_stemAt 21 = .ok (.getfield 11, 3) := by decide +kernel
theorem dX7_stemAt_24 : decode cX7_stemAt 24 = .ok (.iload_n 1, 1) := by decide +kernel
theorem dX7_stemAt_25 : decode cX7_stemAt 25 = .ok (.aaload, 1) := by decide +kernel
theorem dX7_stemAt_26 : decode cX7_stemAt 26 = .ok (.goto 4, 3) := by decide +kernel
theorem dX7_stemAt_29 : decode cX7_stemAt 29 = .ok (.aconst_null, 1) := by decide +kernel
theorem dX7_stemAt_30 : decode cX7_stemAt 30 = .ok (.areturn, 1) := by decide +kernel
theorem dX7_endingAt_0 : decode cX7_endingAt 0 = .ok (.iload_n 1, 1) := by decide +kernel
theorem dX7_endingAt_1 : decode cX7_endingAt 1 = .ok (.bipush 8, 2) := by decide +kernel
theorem dX7_endingAt_3 : decode cX7_endingAt 3 = .ok (.imul, 1) := by decide +kernel
theorem dX7_endingAt_4 : decode cX7_endingAt 4 = .ok (.iload_n 2, 1) := by decide +kernel
theorem dX7_endingAt_5 : decode cX7_endingAt 5 = .ok (.iadd, 1) := by decide +kernel
theorem dX7_endingAt_6 : decode cX7_endingAt 6 = .ok (.istore_n 3, 1) := by decide +kernel
theorem dX7_endingAt_7 : decode cX7_endingAt 7 = .ok (.iload_n 3, 1) := by decide +kernel
theorem dX7_endingAt_8 : decode cX7_endingAt 8 = .ok (.aload_n 0, 1) := by decide +kernel
theorem dX7_endingAt_9 : decode cX7_endingAt 9 = .ok (.getfield 17, 3) := by decide +kernel
theorem dX7_endingAt_12 : decode cX7_endingAt 12 = .ok (.arraylength, 1) := by decide +kernel
theorem dX7_endingAt_13 : decode cX7_endingAt 13 = .ok (.invokestatic 30, 3) := by decide +kernel
theorem dX7_endingAt_16 : decode cX7_endingAt 16 = .ok (.ifCond .eq 12, 3) := by decide +kernel
theorem dX7_endingAt_19 : decode cX7_endingAt 19 = .ok (.aload_n 0, 1) := by decide +kernel
theorem dX7_endingAt_20 : decode cX7_endingAt 20 = .ok (.getfield 17, 3) := by decide +kernel
theorem dX7_endingAt_23 : decode cX7_endingAt 23 = .ok (.iload_n 3, 1) := by decide +kernel
theorem dX7_endingAt_24 : decode cX7_endingAt 24 = .ok (.aaload, 1) := by decide +kernel
theorem dX7_endingAt_25 : decode cX7_endingAt 25 = .ok (.goto 4, 3) := by decide +kernel
theorem dX7_endingAt_28 : decode cX7_endingAt 28 = .ok (.aconst_null, 1) := by decide +kernel
theorem dX7_endingAt_29 : decode cX7_endingAt 29 = .ok (.areturn, 1) := by decide +kernel
theorem dX7_ownAt_0 : decode cX7_ownAt 0 = .ok (.iload_n 1, 1) := by decide +kernel
theorem dX7_ownAt_1 : decode cX7_ownAt 1 = .ok (.iload_n 2, 1) := by decide +kernel
theorem dX7_ownAt_2 : decode cX7_ownAt 2 = .ok (.iload_n 3, 1) := by decide +kernel
theorem dX7_ownAt_3 : decode cX7_ownAt 3 = .ok (.invokestatic 42, 3) := by decide +kernel
theorem dX7_ownAt_6 : decode cX7_ownAt 6 = .ok (.istore 4, 2) := by decide +kernel
theorem dX7_ownAt_8 : decode cX7_ownAt 8 = .ok (.iload 4, 2) := by decide +kernel
theorem dX7_ownAt_10 : decode cX7_ownAt 10 = .ok (.aload_n 0, 1) := by decide +kernel
theorem dX7_ownAt_11 : decode cX7_ownAt 11 = .ok (.getfield 20, 3) := by decide +kernel
theorem dX7_ownAt_14 : decode cX7_ownAt 14 = .ok (.arraylength, 1) := by decide +kernel
theorem dX7_ownAt_15 : decode cX7_ownAt 15 = .ok (.invokestatic 30, 3) := by decide +kernel
theorem dX7_ownAt_18 : decode cX7_ownAt 18 = .ok (.ifCond .eq 13, 3) := by decide +kernel
theorem dX7_ownAt_21 : decode cX7_ownAt 21 = .ok (.aload_n 0, 1) := by decide +kernel
theorem dX7_ownAt_22 : decode cX7_ownAt 22 = .ok (.getfield 20, 3) := by decide +kernel
theorem dX7_ownAt_25 : decode cX7_ownAt 25 = .ok (.iload 4, 2) := by decide +kernel
theorem dX7_ownAt_27 : decode cX7_ownAt 27 = .ok (.aaload, 1) := by decide +kernel
theorem dX7_ownAt_28 : decode cX7_ownAt 28 = .ok (.goto 4, 3) := by decide +kernel
theorem dX7_ownAt_31 : decode cX7_ownAt 31 = .ok (.aconst_null, 1) := by decide +kernel
theorem dX7_ownAt_32 : decode cX7_ownAt 32 = .ok (.areturn, 1) := by decide +kernel
theorem dX7_ownIndex_0 : decode cX7_ownIndex 0 = .ok (.iload_n 1, 1) := by decide +kernel
theorem dX7_ownIndex_1 : decode cX7_ownIndex 1 = .ok (.iconst 3, 1) := by decide +kernel
theorem dX7_ownIndex_2 : decode cX7_ownIndex 2 = .ok (.imul, 1) := by decide +kernel
theorem dX7_ownIndex_3 : decode cX7_ownIndex 3 = .ok (.iload_n 0, 1) := by decide +kernel
theorem dX7_ownIndex_4 : decode cX7_ownIndex 4 = .ok (.iadd, 1) := by decide +kernel
theorem dX7_ownIndex_5 : decode cX7_ownIndex 5 = .ok (.bipush 8, 2) := by decide +kernel
theorem dX7_ownIndex_7 : decode cX7_ownIndex 7 = .ok (.imul, 1) := by decide +kernel
theorem dX7_ownIndex_8 : decode cX7_ownIndex 8 = .ok (.iload_n 2, 1) := by decide +kernel
theorem dX7_ownIndex_9 : decode cX7_ownIndex 9 = .ok (.iadd, 1) := by decide +kernel
theorem dX7_ownIndex_10 : decode cX7_ownIndex 10 = .ok (.ireturn, 1) := by decide +kernel
theorem dX8_init_0 : decode cX8_init 0 = .ok (.aload_n 0, 1) := by decide +kernel
theorem dX8_init_1 : decode cX8_init 1 = .ok (.invokespecial 3, 3) := by decide +kernel
theorem dX8_init_4 : decode cX8_init 4 = .ok (.aload_n 0, 1) := by decide +kernel
theorem dX8_init_5 : decode cX8_init 5 = .ok (.new 9, 3) := by decide +kernel
theorem dX8_init_8 : decode cX8_init 8 = .ok (.dup, 1) := by decide +kernel
theorem dX8_init_9 : decode cX8_init 9 = .ok (.bipush 60, 2) := by decide +kernel
theorem dX8_init_11 : decode cX8_init 11 = .ok (.invokespecial 11, 3) := by decide +kernel
theorem dX8_init_14 : decode cX8_init 14 = .ok (.putfield 14, 3) := by decide +kernel
theorem dX8_init_17 : decode cX8_init 17 = .ok (.aload_n 0, 1) := by decide +kernel
theorem dX8_init_18 : decode cX8_init 18 = .ok (.new 18, 3) := by decide +kernel
theorem dX8_init_21 : decode cX8_init 21 = .ok (.dup, 1) := by decide +kernel
theorem dX8_init_22 : decode cX8_init 22 = .ok (.invokespecial 20, 3) := by decide +kernel
theorem dX8_init_25 : decode cX8_init 25 = .ok (.putfield 21, 3) := by decide +kernel
theorem dX8_init_28 : decode cX8_init 28 = .ok (.aload_n 0, 1) := by decide +kernel
theorem dX8_init_29 : decode cX8_init 29 = .ok (.bipush 10, 2) := by decide +kernel
theorem dX8_init_31 : decode cX8_init 31 = .ok (.anewarray 25, 3) := by decide +kernel
theorem dX8_init_34 : decode cX8_init 34 = .ok (.putfield 27, 3) := by decide +kernel
theorem dX8_init_37 : decode cX8_init 37 = .ok (.aload_n 0, 1) := by decide +kernel
theorem dX8_init_38 : decode cX8_init 38 = .ok (.bipush 6, 2) := by decide +kernel
theorem dX8_init_40 : decode cX8_init 40 = .ok (.anewarray 31, 3) := by decide +kernel
theorem dX8_init_43 : decode cX8_init 43 = .ok (.putfield 33, 3) := by decide +kernel
theorem dX8_init_46 : decode cX8_init 46 = .ok (.aload_n 0, 1) := by decide +kernel
theorem dX8_init_47 : decode cX8_init 47 = .ok (.bipush 8, 2) := by decide +kernel
theorem dX8_init_49 : decode cX8_init 49 = .ok (.anewarray 37, 3) := by decide +kernel
theorem dX8_init_52 : decode cX8_init 52 = .ok (.putfield 39, 3) := by decide +kernel
theorem dX8_init_55 : decode cX8_init 55 = .ok (.aload_n 0, 1) := by decide +kernel
theorem dX8_init_56 : decode cX8_init 56 = .ok (.iconst 3, 1) := by decide +kernel
theorem dX8_init_57 : decode cX8_init 57 = .ok (.newarray .int, 2) := by decide +kernel
theorem dX8_init_59 : decode cX8_init 59 = .ok (.dup, 1) := by decide +kernel
theorem dX8_init_60 : decode cX8_init 60 = .ok (.iconst 0, 1) := by decide +kernel
theorem dX8_init_61 : decode cX8_init 61 = .ok (.iconst 1, 1) := by decide +kernel
theorem dX8_init_62 : decode cX8_init 62 = .ok (.iastore, 1) := by decide +kernel
theorem dX8_init_63 : decode cX8_init 63 = .ok (.dup, 1) := by decide +kernel
theorem dX8_init_64 : decode cX8_init 64 = .ok (.iconst 1, 1) := by decide +kernel
theorem dX8_init_65 : decode cX8_init 65 = .ok (.iconst 1, 1) := by decide +kernel
theorem dX8_init_66 : decode cX8_init 66 = .ok (.iastore, 1) := by decide +kernel
theorem dX8_init_67 : decode cX8_init 67 = .ok (.dup, 1) := by decide +kernel
theorem dX8_init_68 : decode cX8_init 68 = .ok (.iconst 2, 1) := by decide +kernel
theorem dX8_init_69 : decode cX8_init 69 = .ok (.iconst 1, 1) := by decide +kernel
theorem dX8_init_70 : decode cX8_init 70 = .ok (.iastore, 1) := by decide +kernel
theorem dX8_init_71 : decode cX8_init 71 = .ok (.putfield 43, 3) := by decide +kernel
theorem dX8_init_74 : decode cX8_init 74 = .ok (.aload_n 0, 1) := by decide +kernel
theorem dX8_init_75 : decode cX8_init 75 = .ok (.new 47, 3) := by decide +kernel
theorem dX8_init_78 : decode cX8_init 78 = .ok (.dup, 1) := by decide +kernel
theorem dX8_init_79 : decode cX8_init 79 = .ok (.invokespecial 49, 3) := by decide +kernel
theorem dX8_init_82 : decode cX8_init 82 = .ok (.putfield 50, 3) := by decide +kernel
theorem dX8_init_85 : decode cX8_init 85 = .ok (.aload_n 0, 1) := by decide +kernel
theorem dX8_init_86 : decode cX8_init 86 = .ok (.new 54, 3) := by decide +kernel
theorem dX8_init_89 : decode cX8_init 89 = .ok (.dup, 1) := by decide +kernel
theorem dX8_init_90 : decode cX8_init 90 = .ok (.invokespecial 56, 3) := by decide +kernel
theorem dX8_init_93 : decode cX8_init 93 = .ok (.putfield 57, 3) := by decide +kernel
theorem dX8_init_96 : decode cX8_init 96 = .ok (.return_, 1) := by decide +kernel
theorem dX8_type_0 : decode cX8_type 0 = .ok (.aload_n 0, 1) := by decide +kernel
theorem dX8_type_1 : decode cX8_type 1 = .ok (.getfield 14, 3) := by decide +kernel
theorem dX8_type_4 : decode cX8_type 4 = .ok (.iload_n 1, 1) := by decide +kernel
theorem dX8_type_5 : decode cX8_type 5 = .ok (.invokevirtual 61, 3) := by decide +kernel
theorem dX8_type_8 : decode cX8_type 8 = .ok (.ifCond .ne 13, 3) := by decide +kernel
theorem dX8_type_11 : decode cX8_type 11 = .ok (.new 65, 3) := by decide +kernel
theorem dX8_type_14 : decode cX8_type 14 = .ok (.dup, 1) := by decide +kernel
theorem dX8_type_15 : decode cX8_type 15 = .ok (.ldc 67, 2) := by decide +kernel
theorem dX8_type_17 : decode cX8_type 17 = .ok (.invokespecial 69, 3) := by decide +kernel
theorem dX8_type_20 : decode cX8_type 20 = .ok (.athrow, 1) := by decide +kernel
theorem dX8_type_21 : decode cX8_type 21 = .ok (.aload_n 0, 1) := by decide +kernel
theorem dX8_type_22 : decode cX8_type 22 = .ok (.getfield 14, 3) := by decide +kernel
theorem dX8_type_25 : decode cX8_type 25 = .ok (.invokevirtual 72, 3) := by decide +kernel
theorem dX8_type_28 : decode cX8_type 28 = .ok (.ireturn, 1) := by decide +kernel
theorem dX8_clear_0 : decode cX8_clear 0 = .ok (.aload_n 0, 1) := by decide +kernel
theorem dX8_clear_1 : decode cX8_clear 1 = .ok (.getfield 14, 3) := by decide +kernel
theorem dX8_clear_4 : decode cX8_clear 4 = .ok (.invokevirtual 72, 3) := by decide +kernel
theorem dX8_clear_7 : decode cX8_clear 7 = .ok (.istore_n 1, 1) := by decide +kernel
theorem dX8_clear_8 : decode cX8_clear 8 = .ok (.aload_n 0, 1) := by decide +kernel
theorem dX8_clear_9 : decode cX8_clear 9 = .ok (.getfield 14, 3) := by decide +kernel
theorem dX8_clear_12 : decode cX8_clear 12 = .ok (.invokevirtual 76, 3) := by decide +kernel
theorem dX8_clear_15 : decode cX8_clear 15 = .ok (.iload_n 1, 1) := by decide +kernel
theorem dX8_clear_16 : decode cX8_clear 16 = .ok (.ireturn, 1) := by decide +kernel
theorem dX8_word_0 : decode cX8_word 0 = .ok (.aload_n 0, 1) := by decide +kernel
theorem dX8_word_1 : decode cX8_word 1 = .ok (.getfield 14, 3) := by decide +kernel
theorem dX8_word_4 : decode cX8_word 4 = .ok (.iconst 1, 1) := by decide +kernel
theorem dX8_word_5 : decode cX8_word 5 = .ok (.bipush 10, 2) := by decide +kernel
theorem dX8_word_7 : decode cX8_word 7 = .ok (.invokevirtual 79, 3) := by decide +kernel
theorem dX8_word_10 : decode cX8_word 10 = .ok (.ifCond .eq 15, 3) := by decide +kernel
theorem dX8_word_13 : decode cX8_word 13 = .ok (.aload_n 0, 1) := by decide +kernel
theorem dX8_word_14 : decode cX8_word 14 = .ok (.getfield 21, 3) := by decide +kernel
theorem dX8_word_17 : decode cX8_word 17 = .ok (.invokevirtual 83, 3) := by decide +kernel
theorem dX8_word_20 : decode cX8_word 20 = .ok (.bipush 12, 2) := by decide +kernel
theorem dX8_word_22 : decode cX8_word 22 = .ok (.if_icmp .lt 13, 3) := by decide +kernel
theorem dX8_word_25 : decode cX8_word 25 = .ok (.new 65, 3) := by decide +kernel
theorem dX8_word_28 : decode cX8_word 28 = .ok (.dup, 1) := by decide +kernel
theorem dX8_word_29 : decode cX8_word 29 = .ok (.ldc 86, 2) := by decide +kernel
theorem dX8_word_31 : decode cX8_word 31 = .ok (.invokespecial 69, 3) := by decide +kernel
theorem dX8_word_34 : decode cX8_word 34 = .ok (.athrow, 1) := by decide +kernel
theorem dX8_word_35 : decode cX8_word 35 = .ok (.aload_n 0, 1) := by decide +kernel
theorem dX8_word_36 : decode cX8_word 36 = .ok (.getfield 21, 3) := by decide +kernel
theorem dX8_word_39 : decode cX8_word 39 = .ok (.aload_n 0, 1) := by decide +kernel
theorem dX8_word_40 : decode cX8_word 40 = .ok (.getfield 14, 3) := by decide +kernel
theorem dX8_word_43 : decode cX8_word 43 = .ok (.invokevirtual 88, 3) := by decide +kernel
theorem dX8_word_46 : decode cX8_word 46 = .ok (.istore_n 1, 1) := by decide +kernel
theorem dX8_word_47 : decode cX8_word 47 = .ok (.aload_n 0, 1) := by decide +kernel
theorem dX8_word_48 : decode cX8_word 48 = .ok (.getfield 14, 3) := by decide +kernel
theorem dX8_word_51 : decode cX8_word 51 = .ok (.invokevirtual 76, 3) := by decide +kernel
theorem dX8_word_54 : decode cX8_word 54 = .ok (.iload_n 1, 1) := by decide +kernel
theorem dX8_word_55 : decode cX8_word 55 = .ok (.ireturn, 1) := by decide +kernel
theorem dX8_form_0 : decode cX8_form 0 = .ok (.iload_n 1, 1) := by decide +kernel
theorem dX8_form_1 : decode cX8_form 1 = .ok (.invokestatic 92, 3) := by decide +kernel
theorem dX8_form_4 : decode cX8_form 4 = .ok (.ifCond .eq 16, 3) := by decide +kernel
theorem dX8_form_7 : decode cX8_form 7 = .ok (.iload_n 2, 1) := by decide +kernel
theorem dX8_form_8 : decode cX8_form 8 = .ok (.iconst (-1), 1) := by decide +kernel
theorem dX8_form_9 : decode cX8_form 9 = .ok (.if_icmp .eq 21, 3) := by decide +kernel
theorem dX8_form_12 : decode cX8_form 12 = .ok (.aload_n 0, 1) := by decide +kernel
theorem dX8_form_13 : decode cX8_form 13 = .ok (.iload_n 2, 1) := by decide +kernel
theorem dX8_form_14 : decode cX8_form 14 = .ok (.invokevirtual 96, 3) := by decide +kernel
theorem dX8_form_17 : decode cX8_form 17 = .ok (.ifCond .ne 13, 3) := by decide +kernel
theorem dX8_form_20 : decode cX8_form 20 = .ok (.new 99, 3) := by decide +kernel
theorem dX8_form_23 : decode cX8_form 23 = .ok (.dup, 1) := by decide +kernel
theorem dX8_form_24 : decode cX8_form 24 = .ok (.ldc 101, 2) := by decide +kernel
theorem dX8_form_26 : decode cX8_form 26 = .ok (.invokespecial 103, 3) := by decide +kernel
theorem dX8_form_29 : decode cX8_form 29 = .ok (.athrow, 1) := by decide +kernel
theorem dX8_form_30 : decode cX8_form 30 = .ok (.iload_n 3, 1) := by decide +kernel
theorem dX8_form_31 : decode cX8_form 31 = .ok (.bipush 8, 2) := by decide +kernel
theorem dX8_form_33 : decode cX8_form 33 = .ok (.invokestatic 104, 3) := by decide +kernel
theorem dX8_form_36 : decode cX8_form 36 = .ok (.ifCond .ne 13, 3) := by decide +kernel
theorem dX8_form_39 : decode cX8_form 39 = .ok (.new 107, 3) := by decide +kernel
theorem dX8_form_42 : decode cX8_form 42 = .ok (.dup, 1) := by decide +kernel
theorem dX8_form_43 : decode cX8_form 43 = .ok (.ldc 109, 2) := by decide +kernel
theorem dX8_form_45 : decode cX8_form 45 = .ok (.invokespecial 111, 3) := by decide +kernel
theorem dX8_form_48 : decode cX8_form 48 = .ok (.athrow, 1) := by decide +kernel
theorem dX8_form_49 : decode cX8_form 49 = .ok (.iload_n 2, 1) := by decide +kernel
theorem dX8_form_50 : decode cX8_form 50 = .ok (.iconst (-1), 1) := by decide +kernel
theorem dX8_form_51 : decode cX8_form 51 = .ok (.if_icmp .ne 15, 3) := by decide +kernel
theorem dX8_form_54 : decode cX8_form 54 = .ok (.aload_n 0, 1) := by decide +kernel
theorem dX8_form_55 : decode cX8_form 55 = .ok (.getfield 14, 3) := by decide +kernel
theorem dX8_form_58 : decode cX8_form 58 = .ok (.iconst 0, 1) := by decide +kernel
theorem dX8_form_59 : decode cX8_form 59 = .ok (.iconst 4, 1) := by decide +kernel
theorem dX8_form_60 : decode cX8_form 60 = .ok (.invokevirtual 79, 3) := by decide +kernel
theorem dX8_form_63 : decode cX8_form 63 = .ok (.goto 13, 3) := by decide +kernel
theorem dX8_form_66 : decode cX8_form 66 = .ok (.aload_n 0, 1) := by decide +kernel
theorem dX8_form_67 : decode cX8_form 67 = .ok (.getfield 14, 3) := by decide +kernel
theorem dX8_form_70 : decode cX8_form 70 = .ok (.iconst 1, 1) := by decide +kernel
theorem dX8_form_71 : decode cX8_form 71 = .ok (.bipush 10, 2) := by decide +kernel
theorem dX8_form_73 : decode cX8_form 73 = .ok (.invokevirtual 79, 3) := by decide +kernel
theorem dX8_form_76 : decode cX8_form 76 = .ok (.istore 4, 2) := by decide +kernel
theorem dX8_form_78 : decode cX8_form 78 = .ok (.iload 4, 2) := by decide +kernel
theorem dX8_form_80 : decode cX8_form 80 = .ok (.ifCond .ne 13, 3) := by decide +kernel
theorem dX8_form_83 : decode cX8_form 83 = .ok (.new 65, 3) := by decide +kernel
theorem dX8_form_86 : decode cX8_form 86 = .ok (.dup, 1) := by decide +kernel
theorem dX8_form_87 : decode cX8_form 87 = .ok (.ldc 112, 2) := by decide +kernel
theorem dX8_form_89 : decode cX8_form 89 = .ok (.invokespecial 69, 3) := by decide +kernel
theorem dX8_form_92 : decode cX8_form 92 = .ok (.athrow, 1) := by decide +kernel
theorem dX8_form_93 : decode cX8_form 93 = .ok (.iload_n 2, 1) := by decide +kernel
theorem dX8_form_94 : decode cX8_form 94 = .ok (.iconst (-1), 1) := by decide +kernel
theorem dX8_form_95 : decode cX8_form 95 = .ok (.if_icmp .ne 19, 3) := by decide +kernel
theorem dX8_form_98 : decode cX8_form 98 = .ok (.aload_n 0, 1) := by decide +kernel
theorem dX8_form_99 : decode cX8_form 99 = .ok (.getfield 21, 3) := by decide +kernel
theorem dX8_form_102 : decode cX8_form 102 = .ok (.iload_n 1, 1) := by decide +kernel
theorem dX8_form_103 : decode cX8_form 103 = .ok (.iload_n 3, 1) := by decide +kernel
theorem dX8_form_104 : decode cX8_form 104 = .ok (.aload_n 0, 1) := by decide +kernel
theorem dX8_form_105 : decode cX8_form 105 = .ok (.getfield 14, 3) := by decide +kernel
theorem dX8_form_108 : decode cX8_form 108 = .ok (.invokevirtual 114, 3) := by decide +kernel
theorem dX8_form_111 : decode cX8_form 111 = .ok (.goto 17, 3) := by decide +kernel
theorem dX8_form_114 : decode cX8_form 114 = .ok (.aload_n 0, 1) := by decide +kernel
theorem dX8_form_115 : decode cX8_form 115 = .ok (.getfield 21, 3) := by decide +kernel
theorem dX8_form_118 : decode cX8_form 118 = .ok (.iload_n 1, 1) := by decide +kernel
theorem dX8_form_119 : decode cX8_form 119 = .ok (.iload_n 2, 1) := by decide +kernel
theorem dX8_form_120 : decode cX8_form 120 = .ok (.iload_n 3, 1) := by decide +kernel
theorem dX8_form_121 : decode cX8_form 121 = .ok (.aload_n 0, 1) := by decide +kernel
theorem dX8_form_122 : decode cX8_form 122 = .ok (.getfield 14, 3) := by decide +kernel
theorem dX8_form_125 : decode cX8_form 125 = .ok (.invokevirtual 118, 3) := by decide +kernel
theorem dX8_form_128 : decode cX8_form 128 = .ok (.aload_n 0, 1) := by decide +kernel
theorem dX8_form_129 : decode cX8_form 129 = .ok (.getfield 14, 3) := by decide +kernel
theorem dX8_form_132 : decode cX8_form 132 = .ok (.invokevirtual 72, 3) := by decide +kernel
theorem dX8_form_135 : decode cX8_form 135 = .ok (.istore 5, 2) := by decide +kernel
theorem dX8_form_137 : decode cX8_form 137 = .ok (.aload_n 0, 1) := by decide +kernel
theorem dX8_form_138 : decode cX8_form 138 = .ok (.getfield 14, 3) := by decide +kernel
theorem dX8_form_141 : decode cX8_form 141 = .ok (.invokevirtual 76, 3) := by decide +kernel
theorem dX8_form_144 : decode cX8_form 144 = .ok (.iload 5, 2) := by decide +kernel
theorem dX8_form_146 : decode cX8_form 146 = .ok (.ireturn, 1) := by decide +kernel
theorem dX8_clause_0 : decode cX8_clause 0 = .ok (.iload_n 1, 1) := by decide +kernel
theorem dX8_clause_1 : decode cX8_clause 1 = .ok (.iconst (-1), 1) := by decide +kernel
theorem dX8_clause_2 : decode cX8_clause 2 = .ok (.if_icmp .eq 22, 3) := by decide +kernel
theorem dX8_clause_5 : decode cX8_clause 5 = .ok (.iload_n 1, 1) := by decide +kernel
theorem dX8_clause_6 : decode cX8_clause 6 = .ok (.bipush 8, 2) := by decide +kernel
theorem dX8_clause_8 : decode cX8_clause 8 = .ok (.invokestatic 104, 3) := by decide +kernel
theorem dX8_clause_11 : decode cX8_clause 11 = .ok (.ifCond .ne 13, 3) := by decide +kernel
theorem dX8_clause_14 : decode cX8_clause 14 = .ok (.new 107, 3) := by decide +kernel
theorem dX8_clause_17 : decode cX8_clause 17 = .ok (.dup, 1) := by decide +kernel
theorem dX8_clause_18 : decode cX8_clause 18 = .ok (.ldc 122, 2) := by decide +kernel
theorem dX8_clause_20 : decode cX8_clause 20 = .ok (.invokespecial 111, 3) := by decide +kernel
theorem dX8_clause_23 : decode cX8_clause 23 = .ok (.athrow, 1) := by decide +kernel
theorem dX8_clause_24 : decode cX8_clause 24 = .ok (.aload_n 0, 1) := by decide +kernel
theorem dX8_clause_25 : decode cX8_clause 25 = .ok (.getfield 124, 3) := by decide +kernel
theorem dX8_clause_28 : decode cX8_clause 28 = .ok (.aload_n 0, 1) := by decide +kernel
theorem dX8_clause_29 : decode cX8_clause 29 = .ok (.getfield 27, 3) := by decide +kernel
theorem dX8_clause_32 : decode cX8_clause 32 = .ok (.arraylength, 1) := by decide +kernel
theorem dX8_clause_33 : decode cX8_clause 33 = .ok (.invokestatic 104, 3) := by decide +kernel
theorem dX8_clause_36 : decode cX8_clause 36 = .ok (.ifCond .ne 13, 3) := by decide +kernel
theorem dX8_clause_39 : decode cX8_clause 39 = .ok (.new 65, 3) := by decide +kernel
theorem dX8_clause_42 : decode cX8_clause 42 = .ok (.dup, 1) := by decide +kernel
theorem dX8_clause_43 : decode cX8_clause 43 = .ok (.ldc 128, 2) := by decide +kernel
theorem dX8_clause_45 : decode cX8_clause 45 = .ok (.invokespecial 69, 3) := by decide +kernel
theorem dX8_clause_48 : decode cX8_clause 48 = .ok (.athrow, 1) := by decide +kernel
theorem dX8_clause_49 : decode cX8_clause 49 = .ok (.aload_n 0, 1) := by decide +kernel
theorem dX8_clause_50 : decode cX8_clause 50 = .ok (.getfield 27, 3) := by decide +kernel
theorem dX8_clause_53 : decode cX8_clause 53 = .ok (.aload_n 0, 1) := by decide +kernel
theorem dX8_clause_54 : decode cX8_clause 54 = .ok (.getfield 124, 3) := by decide +kernel
theorem dX8_clause_57 : decode cX8_clause 57 = .ok (.new 25, 3) := by decide +kernel
theorem dX8_clause_60 : decode cX8_clause 60 = .ok (.dup, 1) := by decide +kernel
theorem dX8_clause_61 : decode cX8_clause 61 = .ok (.iload_n 1, 1) := by decide +kernel
theorem dX8_clause_62 : decode cX8_clause 62 = .ok (.invokespecial 130, 3) := by decide +kernel
theorem dX8_clause_65 : decode cX8_clause 65 = .ok (.aastore, 1) := by decide +kernel
theorem dX8_clause_66 : decode cX8_clause 66 = .ok (.aload_n 0, 1) := by decide +kernel
theorem dX8_clause_67 : decode cX8_clause 67 = .ok (.dup, 1) := by decide +kernel
theorem dX8_clause_68 : decode cX8_clause 68 = .ok (.getfield 124, 3) := by decide +kernel
theorem dX8_clause_71 : decode cX8_clause 71 = .ok (.iconst 1, 1) := by decide +kernel
theorem dX8_clause_72 : decode cX8_clause 72 = .ok (.iadd, 1) := by decide +kernel
theorem dX8_clause_73 : decode cX8_clause 73 = .ok (.putfield 124, 3) := by decide +kernel
theorem dX8_clause_76 : decode cX8_clause 76 = .ok (.aload_n 0, 1) := by decide +kernel
theorem dX8_clause_77 : decode cX8_clause 77 = .ok (.getfield 124, 3) := by decide +kernel
theorem dX8_clause_80 : decode cX8_clause 80 = .ok (.iconst 1, 1) := by decide +kernel
theorem dX8_clause_81 : decode cX8_clause 81 = .ok (.isub, 1) := by decide +kernel
theorem dX8_clause_82 : decode cX8_clause 82 = .ok (.ireturn, 1) := by decide +kernel
theorem dX8_text_0 : decode cX8_text 0 = .ok (.aload_n 0, 1) := by decide +kernel
theorem dX8_text_1 : decode cX8_text 1 = .ok (.iload_n 1, 1) := by decide +kernel
theorem dX8_text_2 : decode cX8_text 2 = .ok (.iload_n 2, 1) := by decide +kernel
theorem dX8_text_3 : decode cX8_text 3 = .ok (.invokevirtual 131, 3) := by decide +kernel
theorem dX8_text_6 : decode cX8_text 6 = .ok (.astore_n 3, 1) := by decide +kernel
theorem dX8_text_7 : decode cX8_text 7 = .ok (.aload_n 3, 1) := by decide +kernel
theorem dX8_text_8 : decode cX8_text 8 = .ok (.ifnonnull 13, 3) := by decide +kernel
theorem dX8_text_11 : decode cX8_text 11 = .ok (.new 99, 3) := by decide +kernel
theorem dX8_text_14 : decode cX8_text 14 = .ok (.dup, 1) := by decide +kernel
theorem dX8_text_15 : decode cX8_text 15 = .ok (.ldc 135, 2) := by decide +kernel
theorem dX8_text_17 : decode cX8_text 17 = .ok (.invokespecial 103, 3) := by decide +kernel
theorem dX8_text_20 : decode cX8_text 20 = .ok (.athrow, 1) := by decide +kernel
theorem dX8_text_21 : decode cX8_text 21 = .ok (.aload_n 0, 1) := by decide +kernel
theorem dX8_text_22 : decode cX8_text 22 = .ok (.getfield 14, 3) := by decide +kernel
theorem dX8_text_25 : decode cX8_text 25 = .ok (.invokestatic 137, 3) := by decide +kernel
theorem dX8_text_28 : decode cX8_text 28 = .ok (.iconst (-1), 1) := by decide +kernel
theorem dX8_text_29 : decode cX8_text 29 = .ok (.if_icmp .eq 13, 3) := by decide +kernel
theorem dX8_text_32 : decode cX8_text 32 = .ok (.new 65, 3) := by decide +kernel
theorem dX8_text_35 : decode cX8_text 35 = .ok (.dup, 1) := by decide +kernel
theorem dX8_text_36 : decode cX8_text 36 = .ok (.ldc 140, 2) := by decide +kernel
theorem dX8_text_38 : decode cX8_text 38 = .ok (.invokespecial 69, 3) := by decide +kernel
theorem dX8_text_41 : decode cX8_text 41 = .ok (.athrow, 1) := by decide +kernel
theorem dX8_text_42 : decode cX8_text 42 = .ok (.aload_n 3, 1) := by decide +kernel
theorem dX8_text_43 : decode cX8_text 43 = .ok (.aload_n 0, 1) := by decide +kernel
theorem dX8_text_44 : decode cX8_text 44 = .ok (.getfield 14, 3) := by decide +kernel
theorem dX8_text_47 : decode cX8_text 47 = .ok (.invokevirtual 142, 3) := by decide +kernel
theorem dX8_text_50 : decode cX8_text 50 = .ok (.aload_n 0, 1) := by decide +kernel
theorem dX8_text_51 : decode cX8_text 51 = .ok (.getfield 14, 3) := by decide +kernel
theorem dX8_text_54 : decode cX8_text 54 = .ok (.invokevirtual 76, 3) := by decide +kernel
theorem dX8_text_57 : decode cX8_text 57 = .ok (.aload_n 3, 1) := by decide +kernel
theorem dX8_text_58 : decode cX8_text 58 = .ok (.invokevirtual 148, 3) := by decide +kernel
theorem dX8_text_61 : decode cX8_text 61 = .ok (.ireturn, 1) := by decide +kernel
theorem dX8_fault_0 : decode cX8_fault 0 = .ok (.aload_n 0, 1) := by decide +kernel
theorem dX8_fault_1 : decode cX8_fault 1 = .ok (.getfield 14, 3) := by decide +kernel
theorem dX8_fault_4 : decode cX8_fault 4 = .ok (.invokestatic 137, 3) := by decide +kernel
theorem dX8_fault_7 : decode cX8_fault 7 = .ok (.ireturn, 1) := by decide +kernel
theorem dX8_approve_0 : decode cX8_approve 0 = .ok (.aload_n 0, 1) := by decide +kernel
theorem dX8_approve_1 : decode cX8_approve 1 = .ok (.iload_n 1, 1) := by decide +kernel
theorem dX8_approve_2 : decode cX8_approve 2 = .ok (.iload_n 2, 1) := by decide +kernel
theorem dX8_approve_3 : decode cX8_approve 3 = .ok (.invokevirtual 131, 3) := by decide +kernel
theorem dX8_approve_6 : decode cX8_approve 6 = .ok (.astore_n 3, 1) := by decide +kernel
theorem dX8_approve_7 : decode cX8_approve 7 = .ok (.aload_n 3, 1) := by decide +kernel
theorem dX8_approve_8 : decode cX8_approve 8 = .ok (.ifnonnull 13, 3) := by decide +kernel
theorem dX8_approve_11 : decode cX8_approve 11 = .ok (.new 99, 3) := by decide +kernel
theorem dX8_approve_14 : decode cX8_approve 14 = .ok (.dup, 1) := by decide +kernel
theorem dX8_approve_15 : decode cX8_approve 15 = .ok (.ldc 135, 2) := by decide +kernel
theorem dX8_approve_17 : decode cX8_approve 17 = .ok (.invokespecial 103, 3) := by decide +kernel
theorem dX8_approve_20 : decode cX8_approve 20 = .ok (.athrow, 1) := by decide +kernel
theorem dX8_approve_21 : decode cX8_approve 21 = .ok (.aload_n 3, 1) := by decide +kernel
theorem dX8_approve_22 : decode cX8_approve 22 = .ok (.invokevirtual 151, 3) := by decide +kernel
theorem dX8_approve_25 : decode cX8_approve 25 = .ok (.ifCond .ne 13, 3) := by decide +kernel
theorem dX8_approve_28 : decode cX8_approve 28 = .ok (.new 65, 3) := by decide +kernel
theorem dX8_approve_31 : decode cX8_approve 31 = .ok (.dup, 1) := by decide +kernel
theorem dX8_approve_32 : decode cX8_approve 32 = .ok (.ldc 155, 2) := by decide +kernel
theorem dX8_approve_34 : decode cX8_approve 34 = .ok (.invokespecial 69, 3) := by decide +kernel
theorem dX8_approve_37 : decode cX8_approve 37 = .ok (.athrow, 1) := by decide +kernel
theorem dX8_approve_38 : decode cX8_approve 38 = .ok (.aload_n 3, 1) := by decide +kernel
theorem dX8_approve_39 : decode cX8_approve 39 = .ok (.invokevirtual 157, 3) := by decide +kernel
theorem dX8_approve_42 : decode cX8_approve 42 = .ok (.ifCond .ne 7, 3) := by decide +kernel
theorem dX8_approve_45 : decode cX8_approve 45 = .ok (.iconst 1, 1) := by decide +kernel
theorem dX8_approve_46 : decode cX8_approve 46 = .ok (.goto 4, 3) := by decide +kernel
theorem dX8_approve_49 : decode cX8_approve 49 = .ok (.iconst 0, 1) := by decide +kernel
theorem dX8_approve_50 : decode cX8_approve 50 = .ok (.istore 4, 2) := by decide +kernel
theorem dX8_approve_52 : decode cX8_approve 52 = .ok (.aload_n 3, 1) := by decide +kernel
theorem dX8_approve_53 : decode cX8_approve 53 = .ok (.invokevirtual 160, 3) := by decide +kernel
theorem dX8_approve_56 : decode cX8_approve 56 = .ok (.iload 4, 2) := by decide +kernel
theorem dX8_approve_58 : decode cX8_approve 58 = .ok (.ireturn, 1) := by decide +kernel
theorem dX8_relate_0 : decode cX8_relate 0 = .ok (.aload_n 0, 1) := by decide +kernel
theorem dX8_relate_1 : decode cX8_relate 1 = .ok (.iload_n 1, 1) := by decide +kernel
theorem dX8_relate_2 : decode cX8_relate 2 = .ok (.invokevirtual 163, 3) := by decide +kernel
theorem dX8_relate_5 : decode cX8_relate 5 = .ok (.astore 5, 2) := by decide +kernel
theorem dX8_relate_7 : decode cX8_relate 7 = .ok (.aload 5, 2) := by decide +kernel
theorem dX8_relate_9 : decode cX8_relate 9 = .ok (.ifnull 11, 3) := by decide +kernel
theorem dX8_relate_12 : decode cX8_relate 12 = .ok (.aload_n 0, 1) := by decide +kernel
theorem dX8_relate_13 : decode cX8_relate 13 = .ok (.iload_n 2, 1) := by decide +kernel
theorem dX8_relate_14 : decode cX8_relate 14 = .ok (.invokevirtual 163, 3) := by decide +kernel
theorem dX8_relate_17 : decode cX8_relate 17 = .ok (.ifnonnull 13, 3) := by decide +kernel
theorem dX8_relate_20 : decode cX8_relate 20 = .ok (.new 99, 3) := by decide +kernel
theorem dX8_relate_23 : decode cX8_relate 23 = .ok (.dup, 1) := by decide +kernel
theorem dX8_relate_24 : decode cX8_relate 24 = .ok (.ldc 167, 2) := by decide +kernel
theorem dX8_relate_26 : decode cX8_relate 26 = .ok (.invokespecial 103, 3) := by decide +kernel
theorem dX8_relate_29 : decode cX8_relate 29 = .ok (.athrow, 1) := by decide +kernel
theorem dX8_relate_30 : decode cX8_relate 30 = .ok (.iload_n 1, 1) := by decide +kernel
theorem dX8_relate_31 : decode cX8_relate 31 = .ok (.iload_n 2, 1) := by decide +kernel
theorem dX8_relate_32 : decode cX8_relate 32 = .ok (.if_icmp .eq 22, 3) := by decide +kernel
theorem dX8_relate_35 : decode cX8_relate 35 = .ok (.iload_n 3, 1) := by decide +kernel
theorem dX8_relate_36 : decode cX8_relate 36 = .ok (.iconst 4, 1) := by decide +kernel
theorem dX8_relate_37 : decode cX8_relate 37 = .ok (.invokestatic 104, 3) := by decide +kernel
theorem dX8_relate_40 : decode cX8_relate 40 = .ok (.ifCond .eq 14, 3) := by decide +kernel
theorem dX8_relate_43 : decode cX8_relate 43 = .ok (.iload 4, 2) := by decide +kernel
theorem dX8_relate_45 : decode cX8_relate 45 = .ok (.ifCond .lt 9, 3) := by decide +kernel
theorem dX8_relate_48 : decode cX8_relate 48 = .ok (.iload 4, 2) := by decide +kernel
theorem dX8_relate_50 : decode cX8_relate 50 = .ok (.iconst 2, 1) := by decide +kernel
theorem dX8_relate_51 : decode cX8_relate 51 = .ok (.if_icmp .le 13, 3) := by decide +kernel
theorem dX8_relate_54 : decode cX8_relate 54 = .ok (.new 107, 3) := by decide +kernel
theorem dX8_relate_57 : decode cX8_relate 57 = .ok (.dup, 1) := by decide +kernel
theorem dX8_relate_58 : decode cX8_relate 58 = .ok (.ldc 169, 2) := by decide +kernel
theorem dX8_relate_60 : decode cX8_relate 60 = .ok (.invokespecial 111, 3) := by decide +kernel
theorem dX8_relate_63 : decode cX8_relate 63 = .ok (.athrow, 1) := by decide +kernel
theorem dX8_relate_64 : decode cX8_relate 64 = .ok (.aload 5, 2) := by decide +kernel
theorem dX8_relate_66 : decode cX8_relate 66 = .ok (.iload_n 2, 1) := by decide +kernel
theorem dX8_relate_67 : decode cX8_relate 67 = .ok (.iload_n 3, 1) := by decide +kernel
theorem dX8_relate_68 : decode cX8_relate 68 = .ok (.invokevirtual 171, 3) := by decide +kernel
theorem dX8_relate_71 : decode cX8_relate 71 = .ok (.istore 6, 2) := by decide +kernel
theorem dX8_relate_73 : decode cX8_relate 73 = .ok (.aload 5, 2) := by decide +kernel
theorem dX8_relate_75 : decode cX8_relate 75 = .ok (.iload_n 2, 1) := by decide +kernel
theorem dX8_relate_76 : decode cX8_relate 76 = .ok (.iload_n 3, 1) := by decide +kernel
theorem dX8_relate_77 : decode cX8_relate 77 = .ok (.iload 4, 2) := by decide +kernel
theorem dX8_relate_79 : decode cX8_relate 79 = .ok (.invokevirtual 175, 3) := by decide +kernel
theorem dX8_relate_82 : decode cX8_relate 82 = .ok (.iload 6, 2) := by decide +kernel
theorem dX8_relate_84 : decode cX8_relate 84 = .ok (.ireturn, 1) := by decide +kernel
theorem dX8_isLinked_0 : decode cX8_isLinked 0 = .ok (.aload_n 0, 1) := by decide +kernel
theorem dX8_isLinked_1 : decode cX8_isLinked 1 = .ok (.iload_n 1, 1) := by decide +kernel
theorem dX8_isLinked_2 : decode cX8_isLinked 2 = .ok (.invokevirtual 163, 3) := by decide +kernel
theorem dX8_isLinked_5 : decode cX8_isLinked 5 = .ok (.astore_n 2, 1) := by decide +kernel
theorem dX8_isLinked_6 : decode cX8_isLinked 6 = .ok (.aload_n 2, 1) := by decide +kernel
theorem dX8_isLinked_7 : decode cX8_isLinked 7 = .ok (.ifnonnull 13, 3) := by decide +kernel
theorem dX8_isLinked_10 : decode cX8_isLinked 10 = .ok (.new 99, 3) := by decide +kernel
theorem dX8_isLinked_13 : decode cX8_isLinked 13 = .ok (.dup, 1) := by decide +kernel
theorem dX8_isLinked_14 : decode cX8_isLinked 14 = .ok (.ldc 167, 2) := by decide +kernel
theorem dX8_isLinked_16 : decode cX8_isLinked 16 = .ok (.invokespecial 103, 3) := by decide +kernel
theorem dX8_isLinked_19 : decode cX8_isLinked 19 = .ok (.athrow, 1) := by decide +kernel
theorem dX8_isLinked_20 : decode cX8_isLinked 20 = .ok (.aload_n 2, 1) := by decide +kernel
theorem dX8_isLinked_21 : decode cX8_isLinked 21 = .ok (.invokevirtual 179, 3) := by decide +kernel
theorem dX8_isLinked_24 : decode cX8_isLinked 24 = .ok (.ireturn, 1) := by decide +kernel
theorem dX8_letter_0 : decode cX8_letter 0 = .ok (.aload_n 0, 1) := by decide +kernel
theorem dX8_letter_1 : decode cX8_letter 1 = .ok (.getfield 182, 3) := by decide +kernel
theorem dX8_letter_4 : decode cX8_letter 4 = .ok (.aload_n 0, 1) := by decide +kernel
theorem dX8_letter_5 : decode cX8_letter 5 = .ok (.getfield 33, 3) := by decide +kernel
theorem dX8_letter_8 : decode cX8_letter 8 = .ok (.arraylength, 1) := by decide +kernel
theorem dX8_letter_9 : decode cX8_letter 9 = .ok (.invokestatic 104, 3) := by decide +kernel
theorem dX8_letter_12 : decode cX8_letter 12 = .ok (.ifCond .ne 13, 3) := by decide +kernel
theorem dX8_letter_15 : decode cX8_letter 15 = .ok (.new 65, 3) := by decide +kernel
theorem dX8_letter_18 : decode cX8_letter 18 = .ok (.dup, 1) := by decide +kernel
theorem dX8_letter_19 : decode cX8_letter 19 = .ok (.ldc 185, 2) := by decide +kernel
theorem dX8_letter_21 : decode cX8_letter 21 = .ok (.invokespecial 69, 3) := by decide +kernel
theorem dX8_letter_24 : decode cX8_letter 24 = .ok (.athrow, 1) := by decide +kernel
theorem dX8_letter_25 : decode cX8_letter 25 = .ok (.aload_n 0, 1) := by decide +kernel
theorem dX8_letter_26 : decode cX8_letter 26 = .ok (.getfield 33, 3) := by decide +kernel
theorem dX8_letter_29 : decode cX8_letter 29 = .ok (.aload_n 0, 1) := by decide +kernel
theorem dX8_letter_30 : decode cX8_letter 30 = .ok (.getfield 182, 3) := by decide +kernel
theorem dX8_letter_33 : decode cX8_letter 33 = .ok (.new 31, 3) := by decide +kernel
theorem dX8_letter_36 : decode cX8_letter 36 = .ok (.dup, 1) := by decide +kernel
theorem dX8_letter_37 : decode cX8_letter 37 = .ok (.invokespecial 187, 3) := by decide +kernel
theorem dX8_letter_40 : decode cX8_letter 40 = .ok (.aastore, 1) := by decide +kernel
theorem dX8_letter_41 : decode cX8_letter 41 = .ok (.aload_n 0, 1) := by decide +kernel
theorem dX8_letter_42 : decode cX8_letter 42 = .ok (.dup, 1) := by decide +kernel
theorem dX8_letter_43 : decode cX8_letter 43 = .ok (.getfield 182, 3) := by decide +kernel
theorem dX8_letter_46 : decode cX8_letter 46 = .ok (.iconst 1, 1) := by decide +kernel
theorem dX8_letter_47 : decode cX8_letter 47 = .ok (.iadd, 1) := by decide +kernel
theorem dX8_letter_48 : decode cX8_letter 48 = .ok (.putfield 182, 3) := by decide +kernel
theorem dX8_letter_51 : decode cX8_letter 51 = .ok (.aload_n 0, 1) := by decide +kernel
theorem dX8_letter_52 : decode cX8_letter 52 = .ok (.getfield 182, 3) := by decide +kernel
theorem dX8_letter_55 : decode cX8_letter 55 = .ok (.iconst 1, 1) := by decide +kernel
theorem dX8_letter_56 : decode cX8_letter 56 = .ok (.isub, 1) := by decide +kernel
theorem dX8_letter_57 : decode cX8_letter 57 = .ok (.ireturn, 1) := by decide +kernel
theorem dX8_put_0 : decode cX8_put 0 = .ok (.aload_n 0, 1) := by decide +kernel
theorem dX8_put_1 : decode cX8_put 1 = .ok (.iload_n 1, 1) := by decide +kernel
theorem dX8_put_2 : decode cX8_put 2 = .ok (.invokevirtual 188, 3) := by decide +kernel
theorem dX8_put_5 : decode cX8_put 5 = .ok (.astore_n 3, 1) := by decide +kernel
theorem dX8_put_6 : decode cX8_put 6 = .ok (.aload_n 3, 1) := by decide +kernel
theorem dX8_put_7 : decode cX8_put 7 = .ok (.ifnull 11, 3) := by decide +kernel
theorem dX8_put_10 : decode cX8_put 10 = .ok (.aload_n 0, 1) := by decide +kernel
theorem dX8_put_11 : decode cX8_put 11 = .ok (.iload_n 2, 1) := by decide +kernel
theorem dX8_put_12 : decode cX8_put 12 = .ok (.invokevirtual 163, 3) := by decide +kernel
theorem dX8_put_15 : decode cX8_put 15 = .ok (.ifnonnull 13, 3) := by decide +kernel
theorem dX8_put_18 : decode cX8_put 18 = .ok (.new 99, 3) := by decide +kernel
theorem dX8_put_21 : decode cX8_put 21 = .ok (.dup, 1) := by decide +kernel
theorem dX8_put_22 : decode cX8_put 22 = .ok (.ldc 192, 2) := by decide +kernel
theorem dX8_put_24 : decode cX8_put 24 = .ok (.invokespecial 103, 3) := by decide +kernel
theorem dX8_put_27 : decode cX8_put 27 = .ok (.athrow, 1) := by decide +kernel
theorem dX8_put_28 : decode cX8_put 28 = .ok (.aload_n 3, 1) := by decide +kernel
theorem dX8_put_29 : decode cX8_put 29 = .ok (.iload_n 2, 1) := by decide +kernel
theorem dX8_put_30 : decode cX8_put 30 = .ok (.invokevirtual 194, 3) := by decide +kernel
theorem dX8_put_33 : decode cX8_put 33 = .ok (.ifCond .ne 11, 3) := by decide +kernel
theorem dX8_put_36 : decode cX8_put 36 = .ok (.aload_n 3, 1) := by decide +kernel
theorem dX8_put_37 : decode cX8_put 37 = .ok (.iload_n 2, 1) := by decide +kernel
theorem dX8_put_38 : decode cX8_put 38 = .ok (.invokevirtual 197, 3) := by decide +kernel
theorem dX8_put_41 : decode cX8_put 41 = .ok (.ifCond .ne 13, 3) := by decide +kernel
theorem dX8_put_44 : decode cX8_put 44 = .ok (.new 65, 3) := by decide +kernel
theorem dX8_put_47 : decode cX8_put 47 = .ok (.dup, 1) := by decide +kernel
theorem dX8_put_48 : decode cX8_put 48 = .ok (.ldc 199, 2) := by decide +kernel
theorem dX8_put_50 : decode cX8_put 50 = .ok (.invokespecial 69, 3) := by decide +kernel
theorem dX8_put_53 : decode cX8_put 53 = .ok (.athrow, 1) := by decide +kernel
theorem dX8_put_54 : decode cX8_put 54 = .ok (.aload_n 3, 1) := by decide +kernel
theorem dX8_put_55 : decode cX8_put 55 = .ok (.invokevirtual 201, 3) := by decide +kernel
theorem dX8_put_58 : decode cX8_put 58 = .ok (.ireturn, 1) := by decide +kernel
theorem dX8_data_0 : decode cX8_data 0 = .ok (.aload_n 0, 1) := by decide +kernel
theorem dX8_data_1 : decode cX8_data 1 = .ok (.iload_n 1, 1) := by decide +kernel
theorem dX8_data_2 : decode cX8_data 2 = .ok (.invokevirtual 96, 3) := by decide +kernel
theorem dX8_data_5 : decode cX8_data 5 = .ok (.ifCond .ne 13, 3) := by decide +kernel
theorem dX8_data_8 : decode cX8_data 8 = .ok (.new 99, 3) := by decide +kernel
theorem dX8_data_11 : decode cX8_data 11 = .ok (.dup, 1) := by decide +kernel
theorem dX8_data_12 : decode cX8_data 12 = .ok (.ldc 202, 2) := by decide +kernel
theorem dX8_data_14 : decode cX8_data 14 = .ok (.invokespecial 103, 3) := by decide +kernel
theorem dX8_data_17 : decode cX8_data 17 = .ok (.athrow, 1) := by decide +kernel
theorem dX8_data_18 : decode cX8_data 18 = .ok (.iload_n 2, 1) := by decide +kernel
theorem dX8_data_19 : decode cX8_data 19 = .ok (.ifCond .lt 10, 3) := by decide +kernel
theorem dX8_data_22 : decode cX8_data 22 = .ok (.iload_n 2, 1) := by decide +kernel
theorem dX8_data_23 : decode cX8_data 23 = .ok (.sipush 255, 3) := by decide +kernel
theorem dX8_data_26 : decode cX8_data 26 = .ok (.if_icmp .le 13, 3) := by decide +kernel
theorem dX8_data_29 : decode cX8_data 29 = .ok (.new 107, 3) := by decide +kernel
theorem dX8_data_32 : decode cX8_data 32 = .ok (.dup, 1) := by decide +kernel
theorem dX8_data_33 : decode cX8_data 33 = .ok (.ldc 204, 2) := by decide +kernel
theorem dX8_data_35 : decode cX8_data 35 = .ok (.invokespecial 111, 3) := by decide +kernel
theorem dX8_data_38 : decode cX8_data 38 = .ok (.athrow, 1) := by decide +kernel
theorem dX8_data_39 : decode cX8_data 39 = .ok (.aload_n 0, 1) := by decide +kernel
theorem dX8_data_40 : decode cX8_data 40 = .ok (.getfield 206, 3) := by decide +kernel
theorem dX8_data_43 : decode cX8_data 43 = .ok (.aload_n 0, 1) := by decide +kernel
theorem dX8_data_44 : decode cX8_data 44 = .ok (.getfield 39, 3) := by decide +kernel
theorem dX8_data_47 : decode cX8_data 47 = .ok (.arraylength, 1) := by decide +kernel
theorem dX8_data_48 : decode cX8_data 48 = .ok (.invokestatic 104, 3) := by decide +kernel
theorem dX8_data_51 : decode cX8_data 51 = .ok (.ifCond .ne 13, 3) := by decide +kernel
theorem dX8_data_54 : decode cX8_data 54 = .ok (.new 65, 3) := by decide +kernel
theorem dX8_data_57 : decode cX8_data 57 = .ok (.dup, 1) := by decide +kernel
theorem dX8_data_58 : decode cX8_data 58 = .ok (.ldc 209, 2) := by decide +kernel
theorem dX8_data_60 : decode cX8_data 60 = .ok (.invokespecial 69, 3) := by decide +kernel
theorem dX8_data_63 : decode cX8_data 63 = .ok (.athrow, 1) := by decide +kernel
theorem dX8_data_64 : decode cX8_data 64 = .ok (.aload_n 0, 1) := by decide +kernel
theorem dX8_data_65 : decode cX8_data 65 = .ok (.getfield 39, 3) := by decide +kernel
theorem dX8_data_68 : decode cX8_data 68 = .ok (.aload_n 0, 1) := by decide +kernel
theorem dX8_data_69 : decode cX8_data 69 = .ok (.getfield 206, 3) := by decide +kernel
theorem dX8_data_72 : decode cX8_data 72 = .ok (.new 37, 3) := by decide +kernel
theorem dX8_data_75 : decode cX8_data 75 = .ok (.dup, 1) := by decide +kernel
theorem dX8_data_76 : decode cX8_data 76 = .ok (.iload_n 1, 1) := by decide +kernel
theorem dX8_data_77 : decode cX8_data 77 = .ok (.iload_n 2, 1) := by decide +kernel
theorem dX8_data_78 : decode cX8_data 78 = .ok (.invokespecial 211, 3) := by decide +kernel
theorem dX8_data_81 : decode cX8_data 81 = .ok (.aastore, 1) := by decide +kernel
theorem dX8_data_82 : decode cX8_data 82 = .ok (.aload_n 0, 1) := by decide +kernel
theorem dX8_data_83 : decode cX8_data 83 = .ok (.dup, 1) := by decide +kernel
theorem dX8_data_84 : decode cX8_data 84 = .ok (.getfield 206, 3) := by decide +kernel
theorem dX8_data_87 : decode cX8_data 87 = .ok (.iconst 1, 1) := by decide +kernel
theorem dX8_data_88 : decode cX8_data 88 = .ok (.iadd, 1) := by decide +kernel
theorem dX8_data_89 : decode cX8_data 89 = .ok (.putfield 206, 3) := by decide +kernel
theorem dX8_data_92 : decode cX8_data 92 = .ok (.aload_n 0, 1) := by decide +kernel
theorem dX8_data_93 : decode cX8_data 93 = .ok (.getfield 206, 3) := by decide +kernel
theorem dX8_data_96 : decode cX8_data 96 = .ok (.iconst 1, 1) := by decide +kernel
theorem dX8_data_97 : decode cX8_data 97 = .ok (.isub, 1) := by decide +kernel
theorem dX8_data_98 : decode cX8_data 98 = .ok (.ireturn, 1) := by decide +kernel
theorem dX8_fill_0 : decode cX8_fill 0 = .ok (.aload_n 0, 1) := by decide +kernel
theorem dX8_fill_1 : decode cX8_fill 1 = .ok (.iload_n 1, 1) := by decide +kernel
theorem dX8_fill_2 : decode cX8_fill 2 = .ok (.invokevirtual 214, 3) := by decide +kernel
theorem dX8_fill_5 : decode cX8_fill 5 = .ok (.astore 4, 2) := by decide +kernel
theorem dX8_fill_7 : decode cX8_fill 7 = .ok (.aload 4, 2) := by decide +kernel
theorem dX8_fill_9 : decode cX8_fill 9 = .ok (.ifnull 19, 3) := by decide +kernel
theorem dX8_fill_12 : decode cX8_fill 12 = .ok (.iload_n 2, 1) := by decide +kernel
theorem dX8_fill_13 : decode cX8_fill 13 = .ok (.iconst 5, 1) := by decide +kernel
theorem dX8_fill_14 : decode cX8_fill 14 = .ok (.invokestatic 104, 3) := by decide +kernel
theorem dX8_fill_17 : decode cX8_fill 17 = .ok (.ifCond .eq 11, 3) := by decide +kernel
theorem dX8_fill_20 : decode cX8_fill 20 = .ok (.aload_n 0, 1) := by decide +kernel
theorem dX8_fill_21 : decode cX8_fill 21 = .ok (.iload_n 3, 1) := by decide +kernel
theorem dX8_fill_22 : decode cX8_fill 22 = .ok (.invokevirtual 96, 3) := by decide +kernel
theorem dX8_fill_25 : decode cX8_fill 25 = .ok (.ifCond .ne 13, 3) := by decide +kernel
theorem dX8_fill_28 : decode cX8_fill 28 = .ok (.new 99, 3) := by decide +kernel
theorem dX8_fill_31 : decode cX8_fill 31 = .ok (.dup, 1) := by decide +kernel
theorem dX8_fill_32 : decode cX8_fill 32 = .ok (.ldc 218, 2) := by decide +kernel
theorem dX8_fill_34 : decode cX8_fill 34 = .ok (.invokespecial 103, 3) := by decide +kernel
theorem dX8_fill_37 : decode cX8_fill 37 = .ok (.athrow, 1) := by decide +kernel
theorem dX8_fill_38 : decode cX8_fill 38 = .ok (.aload 4, 2) := by decide +kernel
theorem dX8_fill_40 : decode cX8_fill 40 = .ok (.iload_n 2, 1) := by decide +kernel
theorem dX8_fill_41 : decode cX8_fill 41 = .ok (.invokevirtual 220, 3) := by decide +kernel
theorem dX8_fill_44 : decode cX8_fill 44 = .ok (.istore 5, 2) := by decide +kernel
theorem dX8_fill_46 : decode cX8_fill 46 = .ok (.aload 4, 2) := by decide +kernel
theorem dX8_fill_48 : decode cX8_fill 48 = .ok (.iload_n 2, 1) := by decide +kernel
theorem dX8_fill_49 : decode cX8_fill 49 = .ok (.iload_n 3, 1) := by decide +kernel
theorem dX8_fill_50 : decode cX8_fill 50 = .ok (.invokevirtual 224, 3) := by decide +kernel
theorem dX8_fill_53 : decode cX8_fill 53 = .ok (.iload 5, 2) := by decide +kernel
theorem dX8_fill_55 : decode cX8_fill 55 = .ok (.ireturn, 1) := by decide +kernel
theorem dX8_price_0 : decode cX8_price 0 = .ok (.iload_n 1, 1) := by decide +kernel
theorem dX8_price_1 : decode cX8_price 1 = .ok (.aload_n 0, 1) := by decide +kernel
theorem dX8_price_2 : decode cX8_price 2 = .ok (.getfield 43, 3) := by decide +kernel
theorem dX8_price_5 : decode cX8_price 5 = .ok (.arraylength, 1) := by decide +kernel
theorem dX8_price_6 : decode cX8_price 6 = .ok (.invokestatic 104, 3) := by decide +kernel
theorem dX8_price_9 : decode cX8_price 9 = .ok (.ifCond .ne 13, 3) := by decide +kernel
theorem dX8_price_12 : decode cX8_price 12 = .ok (.new 99, 3) := by decide +kernel
theorem dX8_price_15 : decode cX8_price 15 = .ok (.dup, 1) := by decide +kernel
theorem dX8_price_16 : decode cX8_price 16 = .ok (.ldc 227, 2) := by decide +kernel
theorem dX8_price_18 : decode cX8_price 18 = .ok (.invokespecial 103, 3) := by decide +kernel
theorem dX8_price_21 : decode cX8_price 21 = .ok (.athrow, 1) := by decide +kernel
theorem dX8_price_22 : decode cX8_price 22 = .ok (.iload_n 2, 1) := by decide +kernel
theorem dX8_price_23 : decode cX8_price 23 = .ok (.ifCond .lt 10, 3) := by decide +kernel
theorem dX8_price_26 : decode cX8_price 26 = .ok (.iload_n 2, 1) := by decide +kernel
theorem dX8_price_27 : decode cX8_price 27 = .ok (.sipush 1000, 3) := by decide +kernel
theorem dX8_price_30 : decode cX8_price 30 = .ok (.if_icmp .le 13, 3) := by decide +kernel
theorem dX8_price_33 : decode cX8_price 33 = .ok (.new 107, 3) := by decide +kernel
theorem dX8_price_36 : decode cX8_price 36 = .ok (.dup, 1) := by decide +kernel
theorem dX8_price_37 : decode cX8_price 37 = .ok (.ldc 229, 2) := by decide +kernel
theorem dX8_price_39 : decode cX8_price 39 = .ok (.invokespecial 111, 3) := by decide +kernel
theorem dX8_price_42 : decode cX8_price 42 = .ok (.athrow, 1) := by decide +kernel
theorem dX8_price_43 : decode cX8_price 43 = .ok (.aload_n 0, 1) := by decide +kernel
theorem dX8_price_44 : decode cX8_price 44 = .ok (.getfield 43, 3) := by decide +kernel
theorem dX8_price_47 : decode cX8_price 47 = .ok (.iload_n 1, 1) := by decide +kernel
theorem dX8_price_48 : decode cX8_price 48 = .ok (.iaload, 1) := by decide +kernel
theorem dX8_price_49 : decode cX8_price 49 = .ok (.istore_n 3, 1) := by decide +kernel
theorem dX8_price_50 : decode cX8_price 50 = .ok (.aload_n 0, 1) := by decide +kernel
theorem dX8_price_51 : decode cX8_price 51 = .ok (.getfield 43, 3) := by decide +kernel
theorem dX8_price_54 : decode cX8_price 54 = .ok (.iload_n 1, 1) := by decide +kernel
theorem dX8_price_55 : decode cX8_price 55 = .ok (.iload_n 2, 1) := by decide +kernel
theorem dX8_price_56 : decode cX8_price 56 = .ok (.iastore, 1) := by decide +kernel
theorem dX8_price_57 : decode cX8_price 57 = .ok (.iload_n 3, 1) := by decide +kernel
theorem dX8_price_58 : decode cX8_price 58 = .ok (.ireturn, 1) := by decide +kernel
theorem dX8_faultOf_0 : decode cX8_faultOf 0 = .ok (.aload_n 0, 1) := by decide +kernel
theorem dX8_faultOf_1 : decode cX8_faultOf 1 = .ok (.iload_n 1, 1) := by decide +kernel
theorem dX8_faultOf_2 : decode cX8_faultOf 2 = .ok (.invokevirtual 188, 3) := by decide +kernel
theorem dX8_faultOf_5 : decode cX8_faultOf 5 = .ok (.astore 5, 2) := by decide +kernel
theorem dX8_faultOf_7 : decode cX8_faultOf 7 = .ok (.aload_n 0, 1) := by decide +kernel
theorem dX8_faultOf_8 : decode cX8_faultOf 8 = .ok (.iload_n 2, 1) := by decide +kernel
theorem dX8_faultOf_9 : decode cX8_faultOf 9 = .ok (.invokevirtual 214, 3) := by decide +kernel
theorem dX8_faultOf_12 : decode cX8_faultOf 12 = .ok (.astore 6, 2) := by decide +kernel
theorem dX8_faultOf_14 : decode cX8_faultOf 14 = .ok (.aload 5, 2) := by decide +kernel
theorem dX8_faultOf_16 : decode cX8_faultOf 16 = .ok (.ifnull 15, 3) := by decide +kernel
theorem dX8_faultOf_19 : decode cX8_faultOf 19 = .ok (.aload 6, 2) := by decide +kernel
theorem dX8_faultOf_21 : decode cX8_faultOf 21 = .ok (.ifnull 10, 3) := by decide +kernel
theorem dX8_faultOf_24 : decode cX8_faultOf 24 = .ok (.iload_n 3, 1) := by decide +kernel
theorem dX8_faultOf_25 : decode cX8_faultOf 25 = .ok (.invokestatic 92, 3) := by decide +kernel
theorem dX8_faultOf_28 : decode cX8_faultOf 28 = .ok (.ifCond .ne 13, 3) := by decide +kernel
theorem dX8_faultOf_31 : decode cX8_faultOf 31 = .ok (.new 99, 3) := by decide +kernel
theorem dX8_faultOf_34 : decode cX8_faultOf 34 = .ok (.dup, 1) := by decide +kernel
theorem dX8_faultOf_35 : decode cX8_faultOf 35 = .ok (.ldc 231, 2) := by decide +kernel
theorem dX8_faultOf_37 : decode cX8_faultOf 37 = .ok (.invokespecial 103, 3) := by decide +kernel
theorem dX8_faultOf_40 : decode cX8_faultOf 40 = .ok (.athrow, 1) := by decide +kernel
theorem dX8_faultOf_41 : decode cX8_faultOf 41 = .ok (.iload 4, 2) := by decide +kernel
theorem dX8_faultOf_43 : decode cX8_faultOf 43 = .ok (.iconst 4, 1) := by decide +kernel
theorem dX8_faultOf_44 : decode cX8_faultOf 44 = .ok (.invokestatic 104, 3) := by decide +kernel
theorem dX8_faultOf_47 : decode cX8_faultOf 47 = .ok (.ifCond .ne 13, 3) := by decide +kernel
theorem dX8_faultOf_50 : decode cX8_faultOf 50 = .ok (.new 107, 3) := by decide +kernel
theorem dX8_faultOf_53 : decode cX8_faultOf 53 = .ok (.dup, 1) := by decide +kernel
theorem dX8_faultOf_54 : decode cX8_faultOf 54 = .ok (.ldc 233, 2) := by decide +kernel
theorem dX8_faultOf_56 : decode cX8_faultOf 56 = .ok (.invokespecial 111, 3) := by decide +kernel
theorem dX8_faultOf_59 : decode cX8_faultOf 59 = .ok (.athrow, 1) := by decide +kernel
theorem dX8_faultOf_60 : decode cX8_faultOf 60 = .ok (.iconst 0, 1) := by decide +kernel
theorem dX8_faultOf_61 : decode cX8_faultOf 61 = .ok (.istore 7, 2) := by decide +kernel
theorem dX8_faultOf_63 : decode cX8_faultOf 63 = .ok (.iload 7, 2) := by decide +kernel
theorem dX8_faultOf_65 : decode cX8_faultOf 65 = .ok (.aload 5, 2) := by decide +kernel
theorem dX8_faultOf_67 : decode cX8_faultOf 67 = .ok (.invokevirtual 201, 3) := by decide +kernel
theorem dX8_faultOf_70 : decode cX8_faultOf 70 = .ok (.if_icmp .ge 64, 3) := by decide +kernel
theorem dX8_faultOf_73 : decode cX8_faultOf 73 = .ok (.aload 5, 2) := by decide +kernel
theorem dX8_faultOf_75 : decode cX8_faultOf 75 = .ok (.iload 7, 2) := by decide +kernel
theorem dX8_faultOf_77 : decode cX8_faultOf 77 = .ok (.invokevirtual 235, 3) := by decide +kernel
theorem dX8_faultOf_80 : decode cX8_faultOf 80 = .ok (.istore 8, 2) := by decide +kernel
theorem dX8_faultOf_82 : decode cX8_faultOf 82 = .ok (.aload_n 0, 1) := by decide +kernel
theorem dX8_faultOf_83 : decode cX8_faultOf 83 = .ok (.aload 5, 2) := by decide +kernel
theorem dX8_faultOf_85 : decode cX8_faultOf 85 = .ok (.aload 6, 2) := by decide +kernel
theorem dX8_faultOf_87 : decode cX8_faultOf 87 = .ok (.iload 8, 2) := by decide +kernel
theorem dX8_faultOf_89 : decode cX8_faultOf 89 = .ok (.invokevirtual 238, 3) := by decide +kernel
theorem dX8_faultOf_92 : decode cX8_faultOf 92 = .ok (.ifCond .eq 19, 3) := by decide +kernel
theorem dX8_faultOf_95 : decode cX8_faultOf 95 = .ok (.aload_n 0, 1) := by decide +kernel
theorem dX8_faultOf_96 : decode cX8_faultOf 96 = .ok (.aload 5, 2) := by decide +kernel
theorem dX8_faultOf_98 : decode cX8_faultOf 98 = .ok (.aload 6, 2) := by decide +kernel
theorem dX8_faultOf_100 : decode cX8_faultOf 100 = .ok (.iload 8, 2) := by decide +kernel
theorem dX8_faultOf_102 : decode cX8_faultOf 102 = .ok (.iload_n 3, 1) := by decide +kernel
theorem dX8_faultOf_103 : decode cX8_faultOf 103 = .ok (.iload 4, 2) := by decide +kernel
theorem dX8_faultOf_105 : decode cX8_faultOf 105 = .ok (.invokevirtual 242, 3) := by decide +kernel
theorem dX8_faultOf_108 : decode cX8_faultOf 108 = .ok (.goto 4, 3) := by decide +kernel
theorem dX8_faultOf_111 : decode cX8_faultOf 111 = .ok (.iconst 0, 1) := by decide +kernel
theorem dX8_faultOf_112 : decode cX8_faultOf 112 = .ok (.istore 9, 2) := by decide +kernel
theorem dX8_faultOf_114 : decode cX8_faultOf 114 = .ok (.iload 9, 2) := by decide +kernel
theorem dX8_faultOf_116 : decode cX8_faultOf 116 = .ok (.ifCond .eq 12, 3) := by decide +kernel
theorem dX8_faultOf_119 : decode cX8_faultOf 119 = .ok (.bipush 10, 2) := by decide +kernel
theorem dX8_faultOf_121 : decode cX8_faultOf 121 = .ok (.iload 7, 2) := by decide +kernel
theorem dX8_faultOf_123 : decode cX8_faultOf 123 = .ok (.imul, 1) := by decide +kernel
theorem dX8_faultOf_124 : decode cX8_faultOf 124 = .ok (.iload 9, 2) := by decide +kernel
theorem dX8_faultOf_126 : decode cX8_faultOf 126 = .ok (.iadd, 1) := by decide +kernel
theorem dX8_faultOf_127 : decode cX8_faultOf 127 = .ok (.ireturn, 1) := by decide +kernel
theorem dX8_faultOf_128 : decode cX8_faultOf 128 = .ok (.iinc 7 1, 3) := by decide +kernel
theorem dX8_faultOf_131 : decode cX8_faultOf 131 = .ok (.goto (-68), 3) := by decide +kernel
theorem dX8_faultOf_134 : decode cX8_faultOf 134 = .ok (.iconst 0, 1) := by decide +kernel
theorem dX8_faultOf_135 : decode cX8_faultOf 135 = .ok (.ireturn, 1) := by decide +kernel
theorem dX8_sign_0 : decode cX8_sign 0 = .ok (.aload_n 0, 1) := by decide +kernel
theorem dX8_sign_1 : decode cX8_sign 1 = .ok (.iload_n 1, 1) := by decide +kernel
theorem dX8_sign_2 : decode cX8_sign 2 = .ok (.invokevirtual 188, 3) := by decide +kernel
theorem dX8_sign_5 : decode cX8_sign 5 = .ok (.astore 5, 2) := by decide +kernel
theorem dX8_sign_7 : decode cX8_sign 7 = .ok (.aload_n 0, 1) := by decide +kernel
theorem dX8_sign_8 : decode cX8_sign 8 = .ok (.iload_n 2, 1) := by decide +kernel
theorem dX8_sign_9 : decode cX8_sign 9 = .ok (.invokevirtual 214, 3) := by decide +kernel
theorem dX8_sign_12 : decode cX8_sign 12 = .ok (.astore 6, 2) := by decide +kernel
theorem dX8_sign_14 : decode cX8_sign 14 = .ok (.aload 5, 2) := by decide +kernel
theorem dX8_sign_16 : decode cX8_sign 16 = .ok (.ifnull 20, 3) := by decide +kernel
theorem dX8_sign_19 : decode cX8_sign 19 = .ok (.aload 6, 2) := by decide +kernel
theorem dX8_sign_21 : decode cX8_sign 21 = .ok (.ifnull 15, 3) := by decide +kernel
theorem dX8_sign_24 : decode cX8_sign 24 = .ok (.iload_n 3, 1) := by decide +kernel
theorem dX8_sign_25 : decode cX8_sign 25 = .ok (.invokestatic 92, 3) := by decide +kernel
theorem dX8_sign_28 : decode cX8_sign 28 = .ok (.ifCond .eq 8, 3) := by decide +kernel
theorem dX8_sign_31 : decode cX8_sign 31 = .ok (.iload 4, 2) := by decide +kernel
theorem dX8_sign_33 : decode cX8_sign 33 = .ok (.ifCond .ge 13, 3) := by decide +kernel
theorem dX8_sign_36 : decode cX8_sign 36 = .ok (.new 99, 3) := by decide +kernel
theorem dX8_sign_39 : decode cX8_sign 39 = .ok (.dup, 1) := by decide +kernel
theorem dX8_sign_40 : decode cX8_sign 40 = .ok (.ldc 246, 2) := by decide +kernel
theorem dX8_sign_42 : decode cX8_sign 42 = .ok (.invokespecial 103, 3) := by decide +kernel
theorem dX8_sign_45 : decode cX8_sign 45 = .ok (.athrow, 1) := by decide +kernel
theorem dX8_sign_46 : decode cX8_sign 46 = .ok (.aload_n 0, 1) := by decide +kernel
theorem dX8_sign_47 : decode cX8_sign 47 = .ok (.aload 5, 2) := by decide +kernel
theorem dX8_sign_49 : decode cX8_sign 49 = .ok (.aload 6, 2) := by decide +kernel
theorem dX8_sign_51 : decode cX8_sign 51 = .ok (.iload_n 3, 1) := by decide +kernel
theorem dX8_sign_52 : decode cX8_sign 52 = .ok (.invokevirtual 248, 3) := by decide +kernel
theorem dX8_sign_55 : decode cX8_sign 55 = .ok (.aload_n 0, 1) := by decide +kernel
theorem dX8_sign_56 : decode cX8_sign 56 = .ok (.getfield 50, 3) := by decide +kernel
theorem dX8_sign_59 : decode cX8_sign 59 = .ok (.iload 4, 2) := by decide +kernel
theorem dX8_sign_61 : decode cX8_sign 61 = .ok (.invokevirtual 252, 3) := by decide +kernel
theorem dX8_sign_64 : decode cX8_sign 64 = .ok (.ireturn, 1) := by decide +kernel
theorem dX8_signAnew_0 : decode cX8_signAnew 0 = .ok (.aload_n 0, 1) := by decide +kernel
theorem dX8_signAnew_1 : decode cX8_signAnew 1 = .ok (.iload_n 1, 1) := by decide +kernel
theorem dX8_signAnew_2 : decode cX8_signAnew 2 = .ok (.invokevirtual 188, 3) := by decide +kernel
theorem dX8_signAnew_5 : decode cX8_signAnew 5 = .ok (.astore 5, 2) := by decide +kernel
theorem dX8_signAnew_7 : decode cX8_signAnew 7 = .ok (.aload_n 0, 1) := by decide +kernel
theorem dX8_signAnew_8 : decode cX8_signAnew 8 = .ok (.iload_n 2, 1) := by decide +kernel
theorem dX8_signAnew_9 : decode cX8_signAnew 9 = .ok (.invokevirtual 214, 3) := by decide +kernel
theorem dX8_signAnew_12 : decode cX8_signAnew 12 = .ok (.astore 6, 2) := by decide +kernel
theorem dX8_signAnew_14 : decode cX8_signAnew 14 = .ok (.aload 5, 2) := by decide +kernel
theorem dX8_signAnew_16 : decode cX8_signAnew 16 = .ok (.ifnull 20, 3) := by decide +kernel
theorem dX8_signAnew_19 : decode cX8_signAnew 19 = .ok (.aload 6, 2) := by decide +kernel
theorem dX8_signAnew_21 : decode cX8_signAnew 21 = .ok (.ifnull 15, 3) := by decide +kernel
theorem dX8_signAnew_24 : decode cX8_signAnew 24 = .ok (.iload_n 3, 1) := by decide +kernel
theorem dX8_signAnew_25 : decode cX8_signAnew 25 = .ok (.invokestatic 92, 3) := by decide +kernel
theorem dX8_signAnew_28 : decode cX8_signAnew 28 = .ok (.ifCond .eq 8, 3) := by decide +kernel
theorem dX8_signAnew_31 : decode cX8_signAnew 31 = .ok (.iload 4, 2) := by decide +kernel
theorem dX8_signAnew_33 : decode cX8_signAnew 33 = .ok (.ifCond .ge 13, 3) := by decide +kernel
theorem dX8_signAnew_36 : decode cX8_signAnew 36 = .ok (.new 99, 3) := by decide +kernel
theorem dX8_signAnew_39 : decode cX8_signAnew 39 = .ok (.dup, 1) := by decide +kernel
theorem dX8_signAnew_40 : decode cX8_signAnew 40 = .ok (.ldc 246, 2) := by decide +kernel
theorem dX8_signAnew_42 : decode cX8_signAnew 42 = .ok (.invokespecial 103, 3) := by decide +kernel
theorem dX8_signAnew_45 : decode cX8_signAnew 45 = .ok (.athrow, 1) := by decide +kernel
theorem dX8_signAnew_46 : decode cX8_signAnew 46 = .ok (.aload_n 0, 1) := by decide +kernel
theorem dX8_signAnew_47 : decode cX8_signAnew 47 = .ok (.getfield 57, 3) := by decide +kernel
theorem dX8_signAnew_50 : decode cX8_signAnew 50 = .ok (.iload 4, 2) := by decide +kernel
theorem dX8_signAnew_52 : decode cX8_signAnew 52 = .ok (.invokevirtual 255, 3) := by decide +kernel
theorem dX8_signAnew_55 : decode cX8_signAnew 55 = .ok (.aload_n 0, 1) := by decide +kernel
theorem dX8_signAnew_56 : decode cX8_signAnew 56 = .ok (.aload 5, 2) := by decide +kernel
theorem dX8_signAnew_58 : decode cX8_signAnew 58 = .ok (.aload 6, 2) := by decide +kernel
theorem dX8_signAnew_60 : decode cX8_signAnew 60 = .ok (.iload_n 3, 1) := by decide +kernel
theorem dX8_signAnew_61 : decode cX8_signAnew 61 = .ok (.invokevirtual 258, 3) := by decide +kernel
theorem dX8_signAnew_64 : decode cX8_signAnew 64 = .ok (.aload_n 0, 1) := by decide +kernel
theorem dX8_signAnew_65 : decode cX8_signAnew 65 = .ok (.getfield 57, 3) := by decide +kernel
theorem dX8_signAnew_68 : decode cX8_signAnew 68 = .ok (.invokevirtual 261, 3) := by decide +kernel
theorem dX8_signAnew_71 : decode cX8_signAnew 71 = .ok (.ireturn, 1) := by decide +kernel
theorem dX8_costs_0 : decode cX8_costs 0 = .ok (.aload_n 0, 1) := by decide +kernel
theorem dX8_costs_1 : decode cX8_costs 1 = .ok (.iload_n 1, 1) := by decide +kernel
end
section
theorem dX8_costs_2 : decode cX8_costs 2 = .ok (.invokevirtual 188, 3) := by decide +kernel
theorem dX8_costs_5 : decode cX8_costs 5 = .ok (.astore 4, 2) := by decide +kernel
theorem dX8_costs_7 : decode cX8_costs 7 = .ok (.aload_n 0, 1) := by decide +kernel
theorem dX8_costs_8 : decode cX8_costs 8 = .ok (.iload_n 2, 1) := by decide +kernel
theorem dX8_costs_9 : decode cX8_costs 9 = .ok (.invokevirtual 214, 3) := by decide +kernel
theorem dX8_costs_12 : decode cX8_costs 12 = .ok (.astore 5, 2) := by decide +kernel
theorem dX8_costs_14 : decode cX8_costs 14 = .ok (.aload 4, 2) := by decide +kernel
theorem dX8_costs_16 : decode cX8_costs 16 = .ok (.ifnull 20, 3) := by decide +kernel
theorem dX8_costs_19 : decode cX8_costs 19 = .ok (.aload 5, 2) := by decide +kernel
theorem dX8_costs_21 : decode cX8_costs 21 = .ok (.ifnull 15, 3) := by decide +kernel
theorem dX8_costs_24 : decode cX8_costs 24 = .ok (.iload_n 3, 1) := by decide +kernel
theorem dX8_costs_25 : decode cX8_costs 25 = .ok (.aload_n 0, 1) := by decide +kernel
theorem dX8_costs_26 : decode cX8_costs 26 = .ok (.getfield 43, 3) := by decide +kernel
theorem dX8_costs_29 : decode cX8_costs 29 = .ok (.arraylength, 1) := by decide +kernel
theorem dX8_costs_30 : decode cX8_costs 30 = .ok (.invokestatic 104, 3) := by decide +kernel
theorem dX8_costs_33 : decode cX8_costs 33 = .ok (.ifCond .ne 13, 3) := by decide +kernel
theorem dX8_costs_36 : decode cX8_costs 36 = .ok (.new 99, 3) := by decide +kernel
theorem dX8_costs_39 : decode cX8_costs 39 = .ok (.dup, 1) := by decide +kernel
theorem dX8_costs_40 : decode cX8_costs 40 = .ok (.ldc 231, 2) := by decide +kernel
theorem dX8_costs_42 : decode cX8_costs 42 = .ok (.invokespecial 103, 3) := by decide +kernel
theorem dX8_costs_45 : decode cX8_costs 45 = .ok (.athrow, 1) := by decide +kernel
theorem dX8_costs_46 : decode cX8_costs 46 = .ok (.aload_n 0, 1) := by decide +kernel
theorem dX8_costs_47 : decode cX8_costs 47 = .ok (.aload 4, 2) := by decide +kernel
theorem dX8_costs_49 : decode cX8_costs 49 = .ok (.aload 5, 2) := by decide +kernel
theorem dX8_costs_51 : decode cX8_costs 51 = .ok (.iload_n 3, 1) := by decide +kernel
theorem dX8_costs_52 : decode cX8_costs 52 = .ok (.invokevirtual 248, 3) := by decide +kernel
theorem dX8_costs_55 : decode cX8_costs 55 = .ok (.aload_n 0, 1) := by decide +kernel
theorem dX8_costs_56 : decode cX8_costs 56 = .ok (.getfield 50, 3) := by decide +kernel
theorem dX8_costs_59 : decode cX8_costs 59 = .ok (.invokevirtual 265, 3) := by decide +kernel
theorem dX8_costs_62 : decode cX8_costs 62 = .ok (.aload_n 0, 1) := by decide +kernel
theorem dX8_costs_63 : decode cX8_costs 63 = .ok (.getfield 43, 3) := by decide +kernel
theorem dX8_costs_66 : decode cX8_costs 66 = .ok (.iload_n 3, 1) := by decide +kernel
theorem dX8_costs_67 : decode cX8_costs 67 = .ok (.iaload, 1) := by decide +kernel
theorem dX8_costs_68 : decode cX8_costs 68 = .ok (.imul, 1) := by decide +kernel
theorem dX8_costs_69 : decode cX8_costs 69 = .ok (.ireturn, 1) := by decide +kernel
theorem dX8_sample_0 : decode cX8_sample 0 = .ok (.aload_n 0, 1) := by decide +kernel
theorem dX8_sample_1 : decode cX8_sample 1 = .ok (.iload_n 1, 1) := by decide +kernel
theorem dX8_sample_2 : decode cX8_sample 2 = .ok (.invokevirtual 188, 3) := by decide +kernel
theorem dX8_sample_5 : decode cX8_sample 5 = .ok (.astore_n 3, 1) := by decide +kernel
theorem dX8_sample_6 : decode cX8_sample 6 = .ok (.aload_n 3, 1) := by decide +kernel
theorem dX8_sample_7 : decode cX8_sample 7 = .ok (.ifnull 7, 3) := by decide +kernel
theorem dX8_sample_10 : decode cX8_sample 10 = .ok (.iload_n 2, 1) := by decide +kernel
theorem dX8_sample_11 : decode cX8_sample 11 = .ok (.ifCond .ge 14, 3) := by decide +kernel
theorem dX8_sample_14 : decode cX8_sample 14 = .ok (.new 99, 3) := by decide +kernel
theorem dX8_sample_17 : decode cX8_sample 17 = .ok (.dup, 1) := by decide +kernel
theorem dX8_sample_18 : decode cX8_sample 18 = .ok (.ldc_w 268, 3) := by decide +kernel
theorem dX8_sample_21 : decode cX8_sample 21 = .ok (.invokespecial 103, 3) := by decide +kernel
theorem dX8_sample_24 : decode cX8_sample 24 = .ok (.athrow, 1) := by decide +kernel
theorem dX8_sample_25 : decode cX8_sample 25 = .ok (.iconst 0, 1) := by decide +kernel
theorem dX8_sample_26 : decode cX8_sample 26 = .ok (.istore 4, 2) := by decide +kernel
theorem dX8_sample_28 : decode cX8_sample 28 = .ok (.iconst 0, 1) := by decide +kernel
theorem dX8_sample_29 : decode cX8_sample 29 = .ok (.istore 5, 2) := by decide +kernel
theorem dX8_sample_31 : decode cX8_sample 31 = .ok (.iload 5, 2) := by decide +kernel
theorem dX8_sample_33 : decode cX8_sample 33 = .ok (.aload_n 0, 1) := by decide +kernel
theorem dX8_sample_34 : decode cX8_sample 34 = .ok (.getfield 206, 3) := by decide +kernel
theorem dX8_sample_37 : decode cX8_sample 37 = .ok (.if_icmp .ge 49, 3) := by decide +kernel
theorem dX8_sample_40 : decode cX8_sample 40 = .ok (.aload_n 0, 1) := by decide +kernel
theorem dX8_sample_41 : decode cX8_sample 41 = .ok (.aload_n 3, 1) := by decide +kernel
theorem dX8_sample_42 : decode cX8_sample 42 = .ok (.iload 4, 2) := by decide +kernel
theorem dX8_sample_44 : decode cX8_sample 44 = .ok (.invokevirtual 270, 3) := by decide +kernel
theorem dX8_sample_47 : decode cX8_sample 47 = .ok (.istore 6, 2) := by decide +kernel
theorem dX8_sample_49 : decode cX8_sample 49 = .ok (.iload 6, 2) := by decide +kernel
theorem dX8_sample_51 : decode cX8_sample 51 = .ok (.iconst (-1), 1) := by decide +kernel
theorem dX8_sample_52 : decode cX8_sample 52 = .ok (.if_icmp .eq 9, 3) := by decide +kernel
theorem dX8_sample_55 : decode cX8_sample 55 = .ok (.iload 5, 2) := by decide +kernel
theorem dX8_sample_57 : decode cX8_sample 57 = .ok (.iload_n 2, 1) := by decide +kernel
theorem dX8_sample_58 : decode cX8_sample 58 = .ok (.if_icmp .ne 6, 3) := by decide +kernel
theorem dX8_sample_61 : decode cX8_sample 61 = .ok (.iload 6, 2) := by decide +kernel
theorem dX8_sample_63 : decode cX8_sample 63 = .ok (.ireturn, 1) := by decide +kernel
theorem dX8_sample_64 : decode cX8_sample 64 = .ok (.iload 4, 2) := by decide +kernel
theorem dX8_sample_66 : decode cX8_sample 66 = .ok (.aload_n 0, 1) := by decide +kernel
theorem dX8_sample_67 : decode cX8_sample 67 = .ok (.aload_n 3, 1) := by decide +kernel
theorem dX8_sample_68 : decode cX8_sample 68 = .ok (.aload_n 0, 1) := by decide +kernel
theorem dX8_sample_69 : decode cX8_sample 69 = .ok (.iload 6, 2) := by decide +kernel
theorem dX8_sample_71 : decode cX8_sample 71 = .ok (.invokevirtual 214, 3) := by decide +kernel
theorem dX8_sample_74 : decode cX8_sample 74 = .ok (.invokevirtual 274, 3) := by decide +kernel
theorem dX8_sample_77 : decode cX8_sample 77 = .ok (.ior, 1) := by decide +kernel
theorem dX8_sample_78 : decode cX8_sample 78 = .ok (.istore 4, 2) := by decide +kernel
theorem dX8_sample_80 : decode cX8_sample 80 = .ok (.iinc 5 1, 3) := by decide +kernel
theorem dX8_sample_83 : decode cX8_sample 83 = .ok (.goto (-52), 3) := by decide +kernel
theorem dX8_sample_86 : decode cX8_sample 86 = .ok (.iconst (-1), 1) := by decide +kernel
theorem dX8_sample_87 : decode cX8_sample 87 = .ok (.ireturn, 1) := by decide +kernel
theorem dX8_isBelow_0 : decode cX8_isBelow 0 = .ok (.iload_n 0, 1) := by decide +kernel
theorem dX8_isBelow_1 : decode cX8_isBelow 1 = .ok (.ifCond .lt 12, 3) := by decide +kernel
theorem dX8_isBelow_4 : decode cX8_isBelow 4 = .ok (.iload_n 0, 1) := by decide +kernel
theorem dX8_isBelow_5 : decode cX8_isBelow 5 = .ok (.iload_n 1, 1) := by decide +kernel
theorem dX8_isBelow_6 : decode cX8_isBelow 6 = .ok (.if_icmp .ge 7, 3) := by decide +kernel
theorem dX8_isBelow_9 : decode cX8_isBelow 9 = .ok (.iconst 1, 1) := by decide +kernel
theorem dX8_isBelow_10 : decode cX8_isBelow 10 = .ok (.goto 4, 3) := by decide +kernel
theorem dX8_isBelow_13 : decode cX8_isBelow 13 = .ok (.iconst 0, 1) := by decide +kernel
theorem dX8_isBelow_14 : decode cX8_isBelow 14 = .ok (.ireturn, 1) := by decide +kernel
theorem dX8_isLanguage_0 : decode cX8_isLanguage 0 = .ok (.iload_n 0, 1) := by decide +kernel
theorem dX8_isLanguage_1 : decode cX8_isLanguage 1 = .ok (.iconst 3, 1) := by decide +kernel
theorem dX8_isLanguage_2 : decode cX8_isLanguage 2 = .ok (.invokestatic 104, 3) := by decide +kernel
theorem dX8_isLanguage_5 : decode cX8_isLanguage 5 = .ok (.ireturn, 1) := by decide +kernel
theorem dX8_isWord_0 : decode cX8_isWord 0 = .ok (.iload_n 1, 1) := by decide +kernel
theorem dX8_isWord_1 : decode cX8_isWord 1 = .ok (.aload_n 0, 1) := by decide +kernel
theorem dX8_isWord_2 : decode cX8_isWord 2 = .ok (.getfield 21, 3) := by decide +kernel
theorem dX8_isWord_5 : decode cX8_isWord 5 = .ok (.invokevirtual 83, 3) := by decide +kernel
theorem dX8_isWord_8 : decode cX8_isWord 8 = .ok (.invokestatic 104, 3) := by decide +kernel
theorem dX8_isWord_11 : decode cX8_isWord 11 = .ok (.ireturn, 1) := by decide +kernel
theorem dX8_clauseAt_0 : decode cX8_clauseAt 0 = .ok (.iload_n 1, 1) := by decide +kernel
theorem dX8_clauseAt_1 : decode cX8_clauseAt 1 = .ok (.aload_n 0, 1) := by decide +kernel
theorem dX8_clauseAt_2 : decode cX8_clauseAt 2 = .ok (.getfield 124, 3) := by decide +kernel
theorem dX8_clauseAt_5 : decode cX8_clauseAt 5 = .ok (.invokestatic 104, 3) := by decide +kernel
theorem dX8_clauseAt_8 : decode cX8_clauseAt 8 = .ok (.ifCond .eq 21, 3) := by decide +kernel
theorem dX8_clauseAt_11 : decode cX8_clauseAt 11 = .ok (.iload_n 1, 1) := by decide +kernel
theorem dX8_clauseAt_12 : decode cX8_clauseAt 12 = .ok (.aload_n 0, 1) := by decide +kernel
theorem dX8_clauseAt_13 : decode cX8_clauseAt 13 = .ok (.getfield 27, 3) := by decide +kernel
theorem dX8_clauseAt_16 : decode cX8_clauseAt 16 = .ok (.arraylength, 1) := by decide +kernel
theorem dX8_clauseAt_17 : decode cX8_clauseAt 17 = .ok (.if_icmp .ge 12, 3) := by decide +kernel
theorem dX8_clauseAt_20 : decode cX8_clauseAt 20 = .ok (.aload_n 0, 1) := by decide +kernel
theorem dX8_clauseAt_21 : decode cX8_clauseAt 21 = .ok (.getfield 27, 3) := by decide +kernel
theorem dX8_clauseAt_24 : decode cX8_clauseAt 24 = .ok (.iload_n 1, 1) := by decide +kernel
theorem dX8_clauseAt_25 : decode cX8_clauseAt 25 = .ok (.aaload, 1) := by decide +kernel
theorem dX8_clauseAt_26 : decode cX8_clauseAt 26 = .ok (.goto 4, 3) := by decide +kernel
theorem dX8_clauseAt_29 : decode cX8_clauseAt 29 = .ok (.aconst_null, 1) := by decide +kernel
theorem dX8_clauseAt_30 : decode cX8_clauseAt 30 = .ok (.areturn, 1) := by decide +kernel
theorem dX8_letterAt_0 : decode cX8_letterAt 0 = .ok (.iload_n 1, 1) := by decide +kernel
theorem dX8_letterAt_1 : decode cX8_letterAt 1 = .ok (.aload_n 0, 1) := by decide +kernel
theorem dX8_letterAt_2 : decode cX8_letterAt 2 = .ok (.getfield 182, 3) := by decide +kernel
theorem dX8_letterAt_5 : decode cX8_letterAt 5 = .ok (.invokestatic 104, 3) := by decide +kernel
theorem dX8_letterAt_8 : decode cX8_letterAt 8 = .ok (.ifCond .eq 21, 3) := by decide +kernel
theorem dX8_letterAt_11 : decode cX8_letterAt 11 = .ok (.iload_n 1, 1) := by decide +kernel
theorem dX8_letterAt_12 : decode cX8_letterAt 12 = .ok (.aload_n 0, 1) := by decide +kernel
theorem dX8_letterAt_13 : decode cX8_letterAt 13 = .ok (.getfield 33, 3) := by decide +kernel
theorem dX8_letterAt_16 : decode cX8_letterAt 16 = .ok (.arraylength, 1) := by decide +kernel
theorem dX8_letterAt_17 : decode cX8_letterAt 17 = .ok (.if_icmp .ge 12, 3) := by decide +kernel
theorem dX8_letterAt_20 : decode cX8_letterAt 20 = .ok (.aload_n 0, 1) := by decide +kernel
theorem dX8_letterAt_21 : decode cX8_letterAt 21 = .ok (.getfield 33, 3) := by decide +kernel
theorem dX8_letterAt_24 : decode cX8_letterAt 24 = .ok (.iload_n 1, 1) := by decide +kernel
theorem dX8_letterAt_25 : decode cX8_letterAt 25 = .ok (.aaload, 1) := by decide +kernel
theorem dX8_letterAt_26 : decode cX8_letterAt 26 = .ok (.goto 4, 3) := by decide +kernel
theorem dX8_letterAt_29 : decode cX8_letterAt 29 = .ok (.aconst_null, 1) := by decide +kernel
theorem dX8_letterAt_30 : decode cX8_letterAt 30 = .ok (.areturn, 1) := by decide +kernel
theorem dX8_dataAt_0 : decode cX8_dataAt 0 = .ok (.iload_n 1, 1) := by decide +kernel
theorem dX8_dataAt_1 : decode cX8_dataAt 1 = .ok (.aload_n 0, 1) := by decide +kernel
theorem dX8_dataAt_2 : decode cX8_dataAt 2 = .ok (.getfield 206, 3) := by decide +kernel
theorem dX8_dataAt_5 : decode cX8_dataAt 5 = .ok (.invokestatic 104, 3) := by decide +kernel
theorem dX8_dataAt_8 : decode cX8_dataAt 8 = .ok (.ifCond .eq 21, 3) := by decide +kernel
theorem dX8_dataAt_11 : decode cX8_dataAt 11 = .ok (.iload_n 1, 1) := by decide +kernel
theorem dX8_dataAt_12 : decode cX8_dataAt 12 = .ok (.aload_n 0, 1) := by decide +kernel
theorem dX8_dataAt_13 : decode cX8_dataAt 13 = .ok (.getfield 39, 3) := by decide +kernel
theorem dX8_dataAt_16 : decode cX8_dataAt 16 = .ok (.arraylength, 1) := by decide +kernel
theorem dX8_dataAt_17 : decode cX8_dataAt 17 = .ok (.if_icmp .ge 12, 3) := by decide +kernel
theorem dX8_dataAt_20 : decode cX8_dataAt 20 = .ok (.aload_n 0, 1) := by decide +kernel
theorem dX8_dataAt_21 : decode cX8_dataAt 21 = .ok (.getfield 39, 3) := by decide +kernel
theorem dX8_dataAt_24 : decode cX8_dataAt 24 = .ok (.iload_n 1, 1) := by decide +kernel
theorem dX8_dataAt_25 : decode cX8_dataAt 25 = .ok (.aaload, 1) := by decide +kernel
theorem dX8_dataAt_26 : decode cX8_dataAt 26 = .ok (.goto 4, 3) := by decide +kernel
theorem dX8_dataAt_29 : decode cX8_dataAt 29 = .ok (.aconst_null, 1) := by decide +kernel
theorem dX8_dataAt_30 : decode cX8_dataAt 30 = .ok (.areturn, 1) := by decide +kernel
theorem dX8_templateAt_0 : decode cX8_templateAt 0 = .ok (.aload_n 0, 1) := by decide +kernel
theorem dX8_templateAt_1 : decode cX8_templateAt 1 = .ok (.iload_n 1, 1) := by decide +kernel
theorem dX8_templateAt_2 : decode cX8_templateAt 2 = .ok (.invokevirtual 163, 3) := by decide +kernel
theorem dX8_templateAt_5 : decode cX8_templateAt 5 = .ok (.astore_n 3, 1) := by decide +kernel
theorem dX8_templateAt_6 : decode cX8_templateAt 6 = .ok (.aload_n 3, 1) := by decide +kernel
theorem dX8_templateAt_7 : decode cX8_templateAt 7 = .ok (.ifnonnull 7, 3) := by decide +kernel
theorem dX8_templateAt_10 : decode cX8_templateAt 10 = .ok (.aconst_null, 1) := by decide +kernel
theorem dX8_templateAt_11 : decode cX8_templateAt 11 = .ok (.goto 8, 3) := by decide +kernel
theorem dX8_templateAt_14 : decode cX8_templateAt 14 = .ok (.aload_n 3, 1) := by decide +kernel
theorem dX8_templateAt_15 : decode cX8_templateAt 15 = .ok (.iload_n 2, 1) := by decide +kernel
theorem dX8_templateAt_16 : decode cX8_templateAt 16 = .ok (.invokevirtual 278, 3) := by decide +kernel
theorem dX8_templateAt_19 : decode cX8_templateAt 19 = .ok (.areturn, 1) := by decide +kernel
theorem dX8_isSmall_0 : decode cX8_isSmall 0 = .ok (.iload_n 0, 1) := by decide +kernel
theorem dX8_isSmall_1 : decode cX8_isSmall 1 = .ok (.bipush 97, 2) := by decide +kernel
theorem dX8_isSmall_3 : decode cX8_isSmall 3 = .ok (.if_icmp .lt 13, 3) := by decide +kernel
theorem dX8_isSmall_6 : decode cX8_isSmall 6 = .ok (.iload_n 0, 1) := by decide +kernel
theorem dX8_isSmall_7 : decode cX8_isSmall 7 = .ok (.bipush 122, 2) := by decide +kernel
theorem dX8_isSmall_9 : decode cX8_isSmall 9 = .ok (.if_icmp .gt 7, 3) := by decide +kernel
theorem dX8_isSmall_12 : decode cX8_isSmall 12 = .ok (.iconst 1, 1) := by decide +kernel
theorem dX8_isSmall_13 : decode cX8_isSmall 13 = .ok (.goto 4, 3) := by decide +kernel
theorem dX8_isSmall_16 : decode cX8_isSmall 16 = .ok (.iconst 0, 1) := by decide +kernel
theorem dX8_isSmall_17 : decode cX8_isSmall 17 = .ok (.ireturn, 1) := by decide +kernel
theorem dX8_isVowel_0 : decode cX8_isVowel 0 = .ok (.iload_n 0, 1) := by decide +kernel
theorem dX8_isVowel_1 : decode cX8_isVowel 1 = .ok (.bipush 97, 2) := by decide +kernel
theorem dX8_isVowel_3 : decode cX8_isVowel 3 = .ok (.if_icmp .eq 27, 3) := by decide +kernel
theorem dX8_isVowel_6 : decode cX8_isVowel 6 = .ok (.iload_n 0, 1) := by decide +kernel
theorem dX8_isVowel_7 : decode cX8_isVowel 7 = .ok (.bipush 101, 2) := by decide +kernel
theorem dX8_isVowel_9 : decode cX8_isVowel 9 = .ok (.if_icmp .eq 21, 3) := by decide +kernel
theorem dX8_isVowel_12 : decode cX8_isVowel 12 = .ok (.iload_n 0, 1) := by decide +kernel
theorem dX8_isVowel_13 : decode cX8_isVowel 13 = .ok (.bipush 105, 2) := by decide +kernel
theorem dX8_isVowel_15 : decode cX8_isVowel 15 = .ok (.if_icmp .eq 15, 3) := by decide +kernel
theorem dX8_isVowel_18 : decode cX8_isVowel 18 = .ok (.iload_n 0, 1) := by decide +kernel
theorem dX8_isVowel_19 : decode cX8_isVowel 19 = .ok (.bipush 111, 2) := by decide +kernel
theorem dX8_isVowel_21 : decode cX8_isVowel 21 = .ok (.if_icmp .eq 9, 3) := by decide +kernel
theorem dX8_isVowel_24 : decode cX8_isVowel 24 = .ok (.iload_n 0, 1) := by decide +kernel
theorem dX8_isVowel_25 : decode cX8_isVowel 25 = .ok (.bipush 117, 2) := by decide +kernel
theorem dX8_isVowel_27 : decode cX8_isVowel 27 = .ok (.if_icmp .ne 7, 3) := by decide +kernel
theorem dX8_isVowel_30 : decode cX8_isVowel 30 = .ok (.iconst 1, 1) := by decide +kernel
theorem dX8_isVowel_31 : decode cX8_isVowel 31 = .ok (.goto 4, 3) := by decide +kernel
theorem dX8_isVowel_34 : decode cX8_isVowel 34 = .ok (.iconst 0, 1) := by decide +kernel
theorem dX8_isVowel_35 : decode cX8_isVowel 35 = .ok (.ireturn, 1) := by decide +kernel
theorem dX8_capital_0 : decode cX8_capital 0 = .ok (.iload_n 0, 1) := by decide +kernel
theorem dX8_capital_1 : decode cX8_capital 1 = .ok (.invokestatic 282, 3) := by decide +kernel
theorem dX8_capital_4 : decode cX8_capital 4 = .ok (.ifCond .eq 14, 3) := by decide +kernel
theorem dX8_capital_7 : decode cX8_capital 7 = .ok (.iload_n 0, 1) := by decide +kernel
theorem dX8_capital_8 : decode cX8_capital 8 = .ok (.bipush 97, 2) := by decide +kernel
theorem dX8_capital_10 : decode cX8_capital 10 = .ok (.isub, 1) := by decide +kernel
theorem dX8_capital_11 : decode cX8_capital 11 = .ok (.bipush 65, 2) := by decide +kernel
theorem dX8_capital_13 : decode cX8_capital 13 = .ok (.iadd, 1) := by decide +kernel
theorem dX8_capital_14 : decode cX8_capital 14 = .ok (.i2c, 1) := by decide +kernel
theorem dX8_capital_15 : decode cX8_capital 15 = .ok (.goto 4, 3) := by decide +kernel
theorem dX8_capital_18 : decode cX8_capital 18 = .ok (.iload_n 0, 1) := by decide +kernel
theorem dX8_capital_19 : decode cX8_capital 19 = .ok (.ireturn, 1) := by decide +kernel
theorem dX8_isOpenBehind_0 : decode cX8_isOpenBehind 0 = .ok (.iload_n 0, 1) := by decide +kernel
theorem dX8_isOpenBehind_1 : decode cX8_isOpenBehind 1 = .ok (.bipush 46, 2) := by decide +kernel
theorem dX8_isOpenBehind_3 : decode cX8_isOpenBehind 3 = .ok (.if_icmp .eq 14, 3) := by decide +kernel
theorem dX8_isOpenBehind_6 : decode cX8_isOpenBehind 6 = .ok (.iload_n 1, 1) := by decide +kernel
theorem dX8_isOpenBehind_7 : decode cX8_isOpenBehind 7 = .ok (.ifCond .eq 14, 3) := by decide +kernel
theorem dX8_isOpenBehind_10 : decode cX8_isOpenBehind 10 = .ok (.iload_n 0, 1) := by decide +kernel
theorem dX8_isOpenBehind_11 : decode cX8_isOpenBehind 11 = .ok (.invokestatic 282, 3) := by decide +kernel
theorem dX8_isOpenBehind_14 : decode cX8_isOpenBehind 14 = .ok (.ifCond .ne 7, 3) := by decide +kernel
theorem dX8_isOpenBehind_17 : decode cX8_isOpenBehind 17 = .ok (.iconst 1, 1) := by decide +kernel
theorem dX8_isOpenBehind_18 : decode cX8_isOpenBehind 18 = .ok (.goto 4, 3) := by decide +kernel
theorem dX8_isOpenBehind_21 : decode cX8_isOpenBehind 21 = .ok (.iconst 0, 1) := by decide +kernel
theorem dX8_isOpenBehind_22 : decode cX8_isOpenBehind 22 = .ok (.ireturn, 1) := by decide +kernel
theorem dX8_caseOf_0 : decode cX8_caseOf 0 = .ok (.iload_n 0, 1) := by decide +kernel
theorem dX8_caseOf_1 : decode cX8_caseOf 1 = .ok (.bipush 110, 2) := by decide +kernel
theorem dX8_caseOf_3 : decode cX8_caseOf 3 = .ok (.if_icmp .ne 7, 3) := by decide +kernel
theorem dX8_caseOf_6 : decode cX8_caseOf 6 = .ok (.iconst 0, 1) := by decide +kernel
theorem dX8_caseOf_7 : decode cX8_caseOf 7 = .ok (.goto 34, 3) := by decide +kernel
theorem dX8_caseOf_10 : decode cX8_caseOf 10 = .ok (.iload_n 0, 1) := by decide +kernel
theorem dX8_caseOf_11 : decode cX8_caseOf 11 = .ok (.bipush 103, 2) := by decide +kernel
theorem dX8_caseOf_13 : decode cX8_caseOf 13 = .ok (.if_icmp .ne 7, 3) := by decide +kernel
theorem dX8_caseOf_16 : decode cX8_caseOf 16 = .ok (.iconst 1, 1) := by decide +kernel
theorem dX8_caseOf_17 : decode cX8_caseOf 17 = .ok (.goto 24, 3) := by decide +kernel
theorem dX8_caseOf_20 : decode cX8_caseOf 20 = .ok (.iload_n 0, 1) := by decide +kernel
theorem dX8_caseOf_21 : decode cX8_caseOf 21 = .ok (.bipush 100, 2) := by decide +kernel
theorem dX8_caseOf_23 : decode cX8_caseOf 23 = .ok (.if_icmp .ne 7, 3) := by decide +kernel
theorem dX8_caseOf_26 : decode cX8_caseOf 26 = .ok (.iconst 2, 1) := by decide +kernel
theorem dX8_caseOf_27 : decode cX8_caseOf 27 = .ok (.goto 14, 3) := by decide +kernel
theorem dX8_caseOf_30 : decode cX8_caseOf 30 = .ok (.iload_n 0, 1) := by decide +kernel
theorem dX8_caseOf_31 : decode cX8_caseOf 31 = .ok (.bipush 97, 2) := by decide +kernel
theorem dX8_caseOf_33 : decode cX8_caseOf 33 = .ok (.if_icmp .ne 7, 3) := by decide +kernel
theorem dX8_caseOf_36 : decode cX8_caseOf 36 = .ok (.iconst 3, 1) := by decide +kernel
theorem dX8_caseOf_37 : decode cX8_caseOf 37 = .ok (.goto 4, 3) := by decide +kernel
theorem dX8_caseOf_40 : decode cX8_caseOf 40 = .ok (.iconst (-1), 1) := by decide +kernel
theorem dX8_caseOf_41 : decode cX8_caseOf 41 = .ok (.ireturn, 1) := by decide +kernel
theorem dX8_numberOf_0 : decode cX8_numberOf 0 = .ok (.iload_n 0, 1) := by decide +kernel
theorem dX8_numberOf_1 : decode cX8_numberOf 1 = .ok (.bipush 115, 2) := by decide +kernel
theorem dX8_numberOf_3 : decode cX8_numberOf 3 = .ok (.if_icmp .ne 7, 3) := by decide +kernel
theorem dX8_numberOf_6 : decode cX8_numberOf 6 = .ok (.iconst 0, 1) := by decide +kernel
theorem dX8_numberOf_7 : decode cX8_numberOf 7 = .ok (.goto 14, 3) := by decide +kernel
theorem dX8_numberOf_10 : decode cX8_numberOf 10 = .ok (.iload_n 0, 1) := by decide +kernel
theorem dX8_numberOf_11 : decode cX8_numberOf 11 = .ok (.bipush 112, 2) := by decide +kernel
theorem dX8_numberOf_13 : decode cX8_numberOf 13 = .ok (.if_icmp .ne 7, 3) := by decide +kernel
theorem dX8_numberOf_16 : decode cX8_numberOf 16 = .ok (.iconst 1, 1) := by decide +kernel
theorem dX8_numberOf_17 : decode cX8_numberOf 17 = .ok (.goto 4, 3) := by decide +kernel
theorem dX8_numberOf_20 : decode cX8_numberOf 20 = .ok (.iconst (-1), 1) := by decide +kernel
theorem dX8_numberOf_21 : decode cX8_numberOf 21 = .ok (.ireturn, 1) := by decide +kernel
theorem dX8_slotOf_0 : decode cX8_slotOf 0 = .ok (.iload_n 0, 1) := by decide +kernel
theorem dX8_slotOf_1 : decode cX8_slotOf 1 = .ok (.bipush 48, 2) := by decide +kernel
theorem dX8_slotOf_3 : decode cX8_slotOf 3 = .ok (.if_icmp .lt 16, 3) := by decide +kernel
theorem dX8_slotOf_6 : decode cX8_slotOf 6 = .ok (.iload_n 0, 1) := by decide +kernel
theorem dX8_slotOf_7 : decode cX8_slotOf 7 = .ok (.bipush 53, 2) := by decide +kernel
theorem dX8_slotOf_9 : decode cX8_slotOf 9 = .ok (.if_icmp .ge 10, 3) := by decide +kernel
theorem dX8_slotOf_12 : decode cX8_slotOf 12 = .ok (.iload_n 0, 1) := by decide +kernel
theorem dX8_slotOf_13 : decode cX8_slotOf 13 = .ok (.bipush 48, 2) := by decide +kernel
theorem dX8_slotOf_15 : decode cX8_slotOf 15 = .ok (.isub, 1) := by decide +kernel
theorem dX8_slotOf_16 : decode cX8_slotOf 16 = .ok (.goto 4, 3) := by decide +kernel
theorem dX8_slotOf_19 : decode cX8_slotOf 19 = .ok (.iconst (-1), 1) := by decide +kernel
theorem dX8_slotOf_20 : decode cX8_slotOf 20 = .ok (.ireturn, 1) := by decide +kernel
theorem dX8_firstFault_0 : decode cX8_firstFault 0 = .ok (.iconst 0, 1) := by decide +kernel
theorem dX8_firstFault_1 : decode cX8_firstFault 1 = .ok (.istore_n 1, 1) := by decide +kernel
theorem dX8_firstFault_2 : decode cX8_firstFault 2 = .ok (.iconst 0, 1) := by decide +kernel
theorem dX8_firstFault_3 : decode cX8_firstFault 3 = .ok (.istore_n 2, 1) := by decide +kernel
theorem dX8_firstFault_4 : decode cX8_firstFault 4 = .ok (.iload_n 2, 1) := by decide +kernel
theorem dX8_firstFault_5 : decode cX8_firstFault 5 = .ok (.aload_n 0, 1) := by decide +kernel
theorem dX8_firstFault_6 : decode cX8_firstFault 6 = .ok (.invokevirtual 72, 3) := by decide +kernel
theorem dX8_firstFault_9 : decode cX8_firstFault 9 = .ok (.if_icmp .ge 60, 3) := by decide +kernel
theorem dX8_firstFault_12 : decode cX8_firstFault 12 = .ok (.aload_n 0, 1) := by decide +kernel
theorem dX8_firstFault_13 : decode cX8_firstFault 13 = .ok (.iload_n 2, 1) := by decide +kernel
theorem dX8_firstFault_14 : decode cX8_firstFault 14 = .ok (.invokevirtual 285, 3) := by decide +kernel
theorem dX8_firstFault_17 : decode cX8_firstFault 17 = .ok (.iload_n 1, 1) := by decide +kernel
theorem dX8_firstFault_18 : decode cX8_firstFault 18 = .ok (.invokestatic 286, 3) := by decide +kernel
theorem dX8_firstFault_21 : decode cX8_firstFault 21 = .ok (.ifCond .ne 5, 3) := by decide +kernel
theorem dX8_firstFault_24 : decode cX8_firstFault 24 = .ok (.iload_n 2, 1) := by decide +kernel
theorem dX8_firstFault_25 : decode cX8_firstFault 25 = .ok (.ireturn, 1) := by decide +kernel
theorem dX8_firstFault_26 : decode cX8_firstFault 26 = .ok (.iload_n 1, 1) := by decide +kernel
theorem dX8_firstFault_27 : decode cX8_firstFault 27 = .ok (.ifCond .gt 13, 3) := by decide +kernel
theorem dX8_firstFault_30 : decode cX8_firstFault 30 = .ok (.aload_n 0, 1) := by decide +kernel
theorem dX8_firstFault_31 : decode cX8_firstFault 31 = .ok (.iload_n 2, 1) := by decide +kernel
theorem dX8_firstFault_32 : decode cX8_firstFault 32 = .ok (.invokevirtual 285, 3) := by decide +kernel
theorem dX8_firstFault_35 : decode cX8_firstFault 35 = .ok (.bipush 91, 2) := by decide +kernel
theorem dX8_firstFault_37 : decode cX8_firstFault 37 = .ok (.if_icmp .ne 7, 3) := by decide +kernel
theorem dX8_firstFault_40 : decode cX8_firstFault 40 = .ok (.iconst 1, 1) := by decide +kernel
theorem dX8_firstFault_41 : decode cX8_firstFault 41 = .ok (.goto 4, 3) := by decide +kernel
theorem dX8_firstFault_44 : decode cX8_firstFault 44 = .ok (.iconst 0, 1) := by decide +kernel
theorem dX8_firstFault_45 : decode cX8_firstFault 45 = .ok (.istore_n 3, 1) := by decide +kernel
theorem dX8_firstFault_46 : decode cX8_firstFault 46 = .ok (.iload_n 3, 1) := by decide +kernel
theorem dX8_firstFault_47 : decode cX8_firstFault 47 = .ok (.ifCond .eq 14, 3) := by decide +kernel
theorem dX8_firstFault_50 : decode cX8_firstFault 50 = .ok (.iload_n 1, 1) := by decide +kernel
theorem dX8_firstFault_51 : decode cX8_firstFault 51 = .ok (.iconst 4, 1) := by decide +kernel
theorem dX8_firstFault_52 : decode cX8_firstFault 52 = .ok (.if_icmp .ge 9, 3) := by decide +kernel
theorem dX8_firstFault_55 : decode cX8_firstFault 55 = .ok (.iload_n 1, 1) := by decide +kernel
theorem dX8_firstFault_56 : decode cX8_firstFault 56 = .ok (.iconst 1, 1) := by decide +kernel
theorem dX8_firstFault_57 : decode cX8_firstFault 57 = .ok (.iadd, 1) := by decide +kernel
theorem dX8_firstFault_58 : decode cX8_firstFault 58 = .ok (.goto 4, 3) := by decide +kernel
theorem dX8_firstFault_61 : decode cX8_firstFault 61 = .ok (.iconst 0, 1) := by decide +kernel
theorem dX8_firstFault_62 : decode cX8_firstFault 62 = .ok (.istore_n 1, 1) := by decide +kernel
theorem dX8_firstFault_63 : decode cX8_firstFault 63 = .ok (.iinc 2 1, 3) := by decide +kernel
theorem dX8_firstFault_66 : decode cX8_firstFault 66 = .ok (.goto (-62), 3) := by decide +kernel
theorem dX8_firstFault_69 : decode cX8_firstFault 69 = .ok (.aload_n 0, 1) := by decide +kernel
theorem dX8_firstFault_70 : decode cX8_firstFault 70 = .ok (.invokevirtual 72, 3) := by decide +kernel
theorem dX8_firstFault_73 : decode cX8_firstFault 73 = .ok (.ifCond .eq 7, 3) := by decide +kernel
theorem dX8_firstFault_76 : decode cX8_firstFault 76 = .ok (.iload_n 1, 1) := by decide +kernel
theorem dX8_firstFault_77 : decode cX8_firstFault 77 = .ok (.ifCond .eq 10, 3) := by decide +kernel
theorem dX8_firstFault_80 : decode cX8_firstFault 80 = .ok (.aload_n 0, 1) := by decide +kernel
theorem dX8_firstFault_81 : decode cX8_firstFault 81 = .ok (.invokevirtual 72, 3) := by decide +kernel
theorem dX8_firstFault_84 : decode cX8_firstFault 84 = .ok (.goto 4, 3) := by decide +kernel
theorem dX8_firstFault_87 : decode cX8_firstFault 87 = .ok (.iconst (-1), 1) := by decide +kernel
theorem dX8_firstFault_88 : decode cX8_firstFault 88 = .ok (.ireturn, 1) := by decide +kernel
theorem dX8_canStand_0 : decode cX8_canStand 0 = .ok (.iload_n 1, 1) := by decide +kernel
theorem dX8_canStand_1 : decode cX8_canStand 1 = .ok (.tableswitch 104 0 3 #[31, 62, 76, 90], 31) := by decide +kernel
theorem dX8_canStand_32 : decode cX8_canStand 32 = .ok (.iload_n 0, 1) := by decide +kernel
theorem dX8_canStand_33 : decode cX8_canStand 33 = .ok (.invokestatic 282, 3) := by decide +kernel
theorem dX8_canStand_36 : decode cX8_canStand 36 = .ok (.ifCond .ne 21, 3) := by decide +kernel
theorem dX8_canStand_39 : decode cX8_canStand 39 = .ok (.iload_n 0, 1) := by decide +kernel
theorem dX8_canStand_40 : decode cX8_canStand 40 = .ok (.bipush 32, 2) := by decide +kernel
theorem dX8_canStand_42 : decode cX8_canStand 42 = .ok (.if_icmp .eq 15, 3) := by decide +kernel
theorem dX8_canStand_45 : decode cX8_canStand 45 = .ok (.iload_n 0, 1) := by decide +kernel
theorem dX8_canStand_46 : decode cX8_canStand 46 = .ok (.bipush 46, 2) := by decide +kernel
theorem dX8_canStand_48 : decode cX8_canStand 48 = .ok (.if_icmp .eq 9, 3) := by decide +kernel
theorem dX8_canStand_51 : decode cX8_canStand 51 = .ok (.iload_n 0, 1) := by decide +kernel
theorem dX8_canStand_52 : decode cX8_canStand 52 = .ok (.bipush 91, 2) := by decide +kernel
theorem dX8_canStand_54 : decode cX8_canStand 54 = .ok (.if_icmp .ne 7, 3) := by decide +kernel
theorem dX8_canStand_57 : decode cX8_canStand 57 = .ok (.iconst 1, 1) := by decide +kernel
theorem dX8_canStand_58 : decode cX8_canStand 58 = .ok (.goto 4, 3) := by decide +kernel
theorem dX8_canStand_61 : decode cX8_canStand 61 = .ok (.iconst 0, 1) := by decide +kernel
theorem dX8_canStand_62 : decode cX8_canStand 62 = .ok (.ireturn, 1) := by decide +kernel
theorem dX8_canStand_63 : decode cX8_canStand 63 = .ok (.iload_n 0, 1) := by decide +kernel
theorem dX8_canStand_64 : decode cX8_canStand 64 = .ok (.invokestatic 290, 3) := by decide +kernel
theorem dX8_canStand_67 : decode cX8_canStand 67 = .ok (.iconst (-1), 1) := by decide +kernel
theorem dX8_canStand_68 : decode cX8_canStand 68 = .ok (.if_icmp .eq 7, 3) := by decide +kernel
theorem dX8_canStand_71 : decode cX8_canStand 71 = .ok (.iconst 1, 1) := by decide +kernel
theorem dX8_canStand_72 : decode cX8_canStand 72 = .ok (.goto 4, 3) := by decide +kernel
theorem dX8_canStand_75 : decode cX8_canStand 75 = .ok (.iconst 0, 1) := by decide +kernel
theorem dX8_canStand_76 : decode cX8_canStand 76 = .ok (.ireturn, 1) := by decide +kernel
theorem dX8_canStand_77 : decode cX8_canStand 77 = .ok (.iload_n 0, 1) := by decide +kernel
theorem dX8_canStand_78 : decode cX8_canStand 78 = .ok (.invokestatic 294, 3) := by decide +kernel
theorem dX8_canStand_81 : decode cX8_canStand 81 = .ok (.iconst (-1), 1) := by decide +kernel
theorem dX8_canStand_82 : decode cX8_canStand 82 = .ok (.if_icmp .eq 7, 3) := by decide +kernel
theorem dX8_canStand_85 : decode cX8_canStand 85 = .ok (.iconst 1, 1) := by decide +kernel
theorem dX8_canStand_86 : decode cX8_canStand 86 = .ok (.goto 4, 3) := by decide +kernel
theorem dX8_canStand_89 : decode cX8_canStand 89 = .ok (.iconst 0, 1) := by decide +kernel
theorem dX8_canStand_90 : decode cX8_canStand 90 = .ok (.ireturn, 1) := by decide +kernel
theorem dX8_canStand_91 : decode cX8_canStand 91 = .ok (.iload_n 0, 1) := by decide +kernel
theorem dX8_canStand_92 : decode cX8_canStand 92 = .ok (.invokestatic 297, 3) := by decide +kernel
theorem dX8_canStand_95 : decode cX8_canStand 95 = .ok (.iconst (-1), 1) := by decide +kernel
theorem dX8_canStand_96 : decode cX8_canStand 96 = .ok (.if_icmp .eq 7, 3) := by decide +kernel
theorem dX8_canStand_99 : decode cX8_canStand 99 = .ok (.iconst 1, 1) := by decide +kernel
theorem dX8_canStand_100 : decode cX8_canStand 100 = .ok (.goto 4, 3) := by decide +kernel
theorem dX8_canStand_103 : decode cX8_canStand 103 = .ok (.iconst 0, 1) := by decide +kernel
theorem dX8_canStand_104 : decode cX8_canStand 104 = .ok (.ireturn, 1) := by decide +kernel
theorem dX8_canStand_105 : decode cX8_canStand 105 = .ok (.iload_n 0, 1) := by decide +kernel
theorem dX8_canStand_106 : decode cX8_canStand 106 = .ok (.bipush 93, 2) := by decide +kernel
theorem dX8_canStand_108 : decode cX8_canStand 108 = .ok (.if_icmp .ne 7, 3) := by decide +kernel
theorem dX8_canStand_111 : decode cX8_canStand 111 = .ok (.iconst 1, 1) := by decide +kernel
theorem dX8_canStand_112 : decode cX8_canStand 112 = .ok (.goto 4, 3) := by decide +kernel
theorem dX8_canStand_115 : decode cX8_canStand 115 = .ok (.iconst 0, 1) := by decide +kernel
theorem dX8_canStand_116 : decode cX8_canStand 116 = .ok (.ireturn, 1) := by decide +kernel
theorem dX8_isIn_0 : decode cX8_isIn 0 = .ok (.aload_n 0, 1) := by decide +kernel
theorem dX8_isIn_1 : decode cX8_isIn 1 = .ok (.iload_n 3, 1) := by decide +kernel
theorem dX8_isIn_2 : decode cX8_isIn 2 = .ok (.invokevirtual 163, 3) := by decide +kernel
theorem dX8_isIn_5 : decode cX8_isIn 5 = .ok (.astore 4, 2) := by decide +kernel
theorem dX8_isIn_7 : decode cX8_isIn 7 = .ok (.aload 4, 2) := by decide +kernel
theorem dX8_isIn_9 : decode cX8_isIn 9 = .ok (.ifnull 27, 3) := by decide +kernel
theorem dX8_isIn_12 : decode cX8_isIn 12 = .ok (.aload_n 1, 1) := by decide +kernel
theorem dX8_isIn_13 : decode cX8_isIn 13 = .ok (.iload_n 3, 1) := by decide +kernel
theorem dX8_isIn_14 : decode cX8_isIn 14 = .ok (.invokevirtual 194, 3) := by decide +kernel
theorem dX8_isIn_17 : decode cX8_isIn 17 = .ok (.ifCond .eq 19, 3) := by decide +kernel
theorem dX8_isIn_20 : decode cX8_isIn 20 = .ok (.aload_n 2, 1) := by decide +kernel
theorem dX8_isIn_21 : decode cX8_isIn 21 = .ok (.aload 4, 2) := by decide +kernel
theorem dX8_isIn_23 : decode cX8_isIn 23 = .ok (.invokevirtual 300, 3) := by decide +kernel
theorem dX8_isIn_26 : decode cX8_isIn 26 = .ok (.invokevirtual 303, 3) := by decide +kernel
theorem dX8_isIn_29 : decode cX8_isIn 29 = .ok (.ifCond .eq 7, 3) := by decide +kernel
theorem dX8_isIn_32 : decode cX8_isIn 32 = .ok (.iconst 1, 1) := by decide +kernel
theorem dX8_isIn_33 : decode cX8_isIn 33 = .ok (.goto 4, 3) := by decide +kernel
theorem dX8_isIn_36 : decode cX8_isIn 36 = .ok (.iconst 0, 1) := by decide +kernel
theorem dX8_isIn_37 : decode cX8_isIn 37 = .ok (.ireturn, 1) := by decide +kernel
theorem dX8_faultAt_0 : decode cX8_faultAt 0 = .ok (.aload_n 0, 1) := by decide +kernel
theorem dX8_faultAt_1 : decode cX8_faultAt 1 = .ok (.iload_n 3, 1) := by decide +kernel
theorem dX8_faultAt_2 : decode cX8_faultAt 2 = .ok (.iload 4, 2) := by decide +kernel
theorem dX8_faultAt_4 : decode cX8_faultAt 4 = .ok (.invokevirtual 131, 3) := by decide +kernel
theorem dX8_faultAt_7 : decode cX8_faultAt 7 = .ok (.astore 6, 2) := by decide +kernel
theorem dX8_faultAt_9 : decode cX8_faultAt 9 = .ok (.aload 6, 2) := by decide +kernel
theorem dX8_faultAt_11 : decode cX8_faultAt 11 = .ok (.ifnull 11, 3) := by decide +kernel
theorem dX8_faultAt_14 : decode cX8_faultAt 14 = .ok (.aload 6, 2) := by decide +kernel
theorem dX8_faultAt_16 : decode cX8_faultAt 16 = .ok (.invokevirtual 151, 3) := by decide +kernel
theorem dX8_faultAt_19 : decode cX8_faultAt 19 = .ok (.ifCond .ne 5, 3) := by decide +kernel
theorem dX8_faultAt_22 : decode cX8_faultAt 22 = .ok (.iconst 1, 1) := by decide +kernel
theorem dX8_faultAt_23 : decode cX8_faultAt 23 = .ok (.ireturn, 1) := by decide +kernel
theorem dX8_faultAt_24 : decode cX8_faultAt 24 = .ok (.aload 6, 2) := by decide +kernel
theorem dX8_faultAt_26 : decode cX8_faultAt 26 = .ok (.invokevirtual 157, 3) := by decide +kernel
theorem dX8_faultAt_29 : decode cX8_faultAt 29 = .ok (.ifCond .ne 5, 3) := by decide +kernel
theorem dX8_faultAt_32 : decode cX8_faultAt 32 = .ok (.iconst 2, 1) := by decide +kernel
theorem dX8_faultAt_33 : decode cX8_faultAt 33 = .ok (.ireturn, 1) := by decide +kernel
theorem dX8_faultAt_34 : decode cX8_faultAt 34 = .ok (.aload_n 0, 1) := by decide +kernel
theorem dX8_faultAt_35 : decode cX8_faultAt 35 = .ok (.aload_n 1, 1) := by decide +kernel
theorem dX8_faultAt_36 : decode cX8_faultAt 36 = .ok (.aload_n 2, 1) := by decide +kernel
theorem dX8_faultAt_37 : decode cX8_faultAt 37 = .ok (.iload_n 3, 1) := by decide +kernel
theorem dX8_faultAt_38 : decode cX8_faultAt 38 = .ok (.iload 5, 2) := by decide +kernel
theorem dX8_faultAt_40 : decode cX8_faultAt 40 = .ok (.iconst 1, 1) := by decide +kernel
theorem dX8_faultAt_41 : decode cX8_faultAt 41 = .ok (.invokevirtual 306, 3) := by decide +kernel
theorem dX8_faultAt_44 : decode cX8_faultAt 44 = .ok (.ifCond .eq 5, 3) := by decide +kernel
theorem dX8_faultAt_47 : decode cX8_faultAt 47 = .ok (.iconst 3, 1) := by decide +kernel
theorem dX8_faultAt_48 : decode cX8_faultAt 48 = .ok (.ireturn, 1) := by decide +kernel
theorem dX8_faultAt_49 : decode cX8_faultAt 49 = .ok (.aload_n 0, 1) := by decide +kernel
theorem dX8_faultAt_50 : decode cX8_faultAt 50 = .ok (.aload_n 1, 1) := by decide +kernel
theorem dX8_faultAt_51 : decode cX8_faultAt 51 = .ok (.aload_n 2, 1) := by decide +kernel
theorem dX8_faultAt_52 : decode cX8_faultAt 52 = .ok (.iload_n 3, 1) := by decide +kernel
theorem dX8_faultAt_53 : decode cX8_faultAt 53 = .ok (.iload 5, 2) := by decide +kernel
theorem dX8_faultAt_55 : decode cX8_faultAt 55 = .ok (.iconst 2, 1) := by decide +kernel
theorem dX8_faultAt_56 : decode cX8_faultAt 56 = .ok (.invokevirtual 306, 3) := by decide +kernel
theorem dX8_faultAt_59 : decode cX8_faultAt 59 = .ok (.ifCond .eq 7, 3) := by decide +kernel
theorem dX8_faultAt_62 : decode cX8_faultAt 62 = .ok (.iconst 4, 1) := by decide +kernel
theorem dX8_faultAt_63 : decode cX8_faultAt 63 = .ok (.goto 4, 3) := by decide +kernel
theorem dX8_faultAt_66 : decode cX8_faultAt 66 = .ok (.iconst 0, 1) := by decide +kernel
theorem dX8_faultAt_67 : decode cX8_faultAt 67 = .ok (.ireturn, 1) := by decide +kernel
theorem dX8_isRelated_0 : decode cX8_isRelated 0 = .ok (.aload_n 0, 1) := by decide +kernel
theorem dX8_isRelated_1 : decode cX8_isRelated 1 = .ok (.iload_n 3, 1) := by decide +kernel
theorem dX8_isRelated_2 : decode cX8_isRelated 2 = .ok (.invokevirtual 163, 3) := by decide +kernel
theorem dX8_isRelated_5 : decode cX8_isRelated 5 = .ok (.astore 6, 2) := by decide +kernel
theorem dX8_isRelated_7 : decode cX8_isRelated 7 = .ok (.iconst 0, 1) := by decide +kernel
theorem dX8_isRelated_8 : decode cX8_isRelated 8 = .ok (.istore 7, 2) := by decide +kernel
theorem dX8_isRelated_10 : decode cX8_isRelated 10 = .ok (.aload 6, 2) := by decide +kernel
theorem dX8_isRelated_12 : decode cX8_isRelated 12 = .ok (.ifnull 56, 3) := by decide +kernel
theorem dX8_isRelated_15 : decode cX8_isRelated 15 = .ok (.iload 7, 2) := by decide +kernel
theorem dX8_isRelated_17 : decode cX8_isRelated 17 = .ok (.aload_n 0, 1) := by decide +kernel
theorem dX8_isRelated_18 : decode cX8_isRelated 18 = .ok (.getfield 124, 3) := by decide +kernel
theorem dX8_isRelated_21 : decode cX8_isRelated 21 = .ok (.if_icmp .ge 47, 3) := by decide +kernel
theorem dX8_isRelated_24 : decode cX8_isRelated 24 = .ok (.aload 6, 2) := by decide +kernel
theorem dX8_isRelated_26 : decode cX8_isRelated 26 = .ok (.iload 7, 2) := by decide +kernel
theorem dX8_isRelated_28 : decode cX8_isRelated 28 = .ok (.iload 4, 2) := by decide +kernel
theorem dX8_isRelated_30 : decode cX8_isRelated 30 = .ok (.invokevirtual 171, 3) := by decide +kernel
theorem dX8_isRelated_33 : decode cX8_isRelated 33 = .ok (.iload 5, 2) := by decide +kernel
theorem dX8_isRelated_35 : decode cX8_isRelated 35 = .ok (.if_icmp .ne 27, 3) := by decide +kernel
theorem dX8_isRelated_38 : decode cX8_isRelated 38 = .ok (.aload_n 0, 1) := by decide +kernel
theorem dX8_isRelated_39 : decode cX8_isRelated 39 = .ok (.aload_n 1, 1) := by decide +kernel
theorem dX8_isRelated_40 : decode cX8_isRelated 40 = .ok (.aload_n 2, 1) := by decide +kernel
theorem dX8_isRelated_41 : decode cX8_isRelated 41 = .ok (.iload 7, 2) := by decide +kernel
theorem dX8_isRelated_43 : decode cX8_isRelated 43 = .ok (.invokevirtual 238, 3) := by decide +kernel
theorem dX8_isRelated_46 : decode cX8_isRelated 46 = .ok (.iload 5, 2) := by decide +kernel
theorem dX8_isRelated_48 : decode cX8_isRelated 48 = .ok (.iconst 2, 1) := by decide +kernel
theorem dX8_isRelated_49 : decode cX8_isRelated 49 = .ok (.if_icmp .ne 7, 3) := by decide +kernel
theorem dX8_isRelated_52 : decode cX8_isRelated 52 = .ok (.iconst 1, 1) := by decide +kernel
theorem dX8_isRelated_53 : decode cX8_isRelated 53 = .ok (.goto 4, 3) := by decide +kernel
theorem dX8_isRelated_56 : decode cX8_isRelated 56 = .ok (.iconst 0, 1) := by decide +kernel
theorem dX8_isRelated_57 : decode cX8_isRelated 57 = .ok (.if_icmp .ne 5, 3) := by decide +kernel
theorem dX8_isRelated_60 : decode cX8_isRelated 60 = .ok (.iconst 1, 1) := by decide +kernel
theorem dX8_isRelated_61 : decode cX8_isRelated 61 = .ok (.ireturn, 1) := by decide +kernel
theorem dX8_isRelated_62 : decode cX8_isRelated 62 = .ok (.iinc 7 1, 3) := by decide +kernel
theorem dX8_isRelated_65 : decode cX8_isRelated 65 = .ok (.goto (-55), 3) := by decide +kernel
theorem dX8_isRelated_68 : decode cX8_isRelated 68 = .ok (.iconst 0, 1) := by decide +kernel
theorem dX8_isRelated_69 : decode cX8_isRelated 69 = .ok (.ireturn, 1) := by decide +kernel
theorem dX8_laidAt_0 : decode cX8_laidAt 0 = .ok (.aload_n 0, 1) := by decide +kernel
theorem dX8_laidAt_1 : decode cX8_laidAt 1 = .ok (.aload_n 1, 1) := by decide +kernel
theorem dX8_laidAt_2 : decode cX8_laidAt 2 = .ok (.iload_n 2, 1) := by decide +kernel
theorem dX8_laidAt_3 : decode cX8_laidAt 3 = .ok (.invokevirtual 235, 3) := by decide +kernel
theorem dX8_laidAt_6 : decode cX8_laidAt 6 = .ok (.invokevirtual 163, 3) := by decide +kernel
theorem dX8_laidAt_9 : decode cX8_laidAt 9 = .ok (.astore 5, 2) := by decide +kernel
theorem dX8_laidAt_11 : decode cX8_laidAt 11 = .ok (.aload 5, 2) := by decide +kernel
theorem dX8_laidAt_13 : decode cX8_laidAt 13 = .ok (.ifnull 15, 3) := by decide +kernel
theorem dX8_laidAt_16 : decode cX8_laidAt 16 = .ok (.aload_n 3, 1) := by decide +kernel
theorem dX8_laidAt_17 : decode cX8_laidAt 17 = .ok (.aload 5, 2) := by decide +kernel
theorem dX8_laidAt_19 : decode cX8_laidAt 19 = .ok (.invokevirtual 300, 3) := by decide +kernel
theorem dX8_laidAt_22 : decode cX8_laidAt 22 = .ok (.invokevirtual 303, 3) := by decide +kernel
theorem dX8_laidAt_25 : decode cX8_laidAt 25 = .ok (.ifCond .ne 5, 3) := by decide +kernel
theorem dX8_laidAt_28 : decode cX8_laidAt 28 = .ok (.aconst_null, 1) := by decide +kernel
theorem dX8_laidAt_29 : decode cX8_laidAt 29 = .ok (.areturn, 1) := by decide +kernel
theorem dX8_laidAt_30 : decode cX8_laidAt 30 = .ok (.aload 5, 2) := by decide +kernel
theorem dX8_laidAt_32 : decode cX8_laidAt 32 = .ok (.iload 4, 2) := by decide +kernel
theorem dX8_laidAt_34 : decode cX8_laidAt 34 = .ok (.invokevirtual 278, 3) := by decide +kernel
theorem dX8_laidAt_37 : decode cX8_laidAt 37 = .ok (.astore 6, 2) := by decide +kernel
theorem dX8_laidAt_39 : decode cX8_laidAt 39 = .ok (.aload 6, 2) := by decide +kernel
theorem dX8_laidAt_41 : decode cX8_laidAt 41 = .ok (.ifnull 16, 3) := by decide +kernel
theorem dX8_laidAt_44 : decode cX8_laidAt 44 = .ok (.aload 6, 2) := by decide +kernel
theorem dX8_laidAt_46 : decode cX8_laidAt 46 = .ok (.invokevirtual 151, 3) := by decide +kernel
theorem dX8_laidAt_49 : decode cX8_laidAt 49 = .ok (.ifCond .eq 8, 3) := by decide +kernel
theorem dX8_laidAt_52 : decode cX8_laidAt 52 = .ok (.aload 6, 2) := by decide +kernel
theorem dX8_laidAt_54 : decode cX8_laidAt 54 = .ok (.goto 4, 3) := by decide +kernel
theorem dX8_laidAt_57 : decode cX8_laidAt 57 = .ok (.aconst_null, 1) := by decide +kernel
theorem dX8_laidAt_58 : decode cX8_laidAt 58 = .ok (.areturn, 1) := by decide +kernel
theorem dX8_build_0 : decode cX8_build 0 = .ok (.aload_n 0, 1) := by decide +kernel
theorem dX8_build_1 : decode cX8_build 1 = .ok (.getfield 50, 3) := by decide +kernel
theorem dX8_build_4 : decode cX8_build 4 = .ok (.invokevirtual 310, 3) := by decide +kernel
theorem dX8_build_7 : decode cX8_build 7 = .ok (.iconst 0, 1) := by decide +kernel
theorem dX8_build_8 : decode cX8_build 8 = .ok (.istore 4, 2) := by decide +kernel
theorem dX8_build_10 : decode cX8_build 10 = .ok (.iload 4, 2) := by decide +kernel
theorem dX8_build_12 : decode cX8_build 12 = .ok (.aload_n 1, 1) := by decide +kernel
theorem dX8_build_13 : decode cX8_build 13 = .ok (.invokevirtual 201, 3) := by decide +kernel
theorem dX8_build_16 : decode cX8_build 16 = .ok (.if_icmp .ge 52, 3) := by decide +kernel
theorem dX8_build_19 : decode cX8_build 19 = .ok (.aload_n 0, 1) := by decide +kernel
theorem dX8_build_20 : decode cX8_build 20 = .ok (.aload_n 1, 1) := by decide +kernel
theorem dX8_build_21 : decode cX8_build 21 = .ok (.iload 4, 2) := by decide +kernel
theorem dX8_build_23 : decode cX8_build 23 = .ok (.aload_n 2, 1) := by decide +kernel
theorem dX8_build_24 : decode cX8_build 24 = .ok (.iload_n 3, 1) := by decide +kernel
theorem dX8_build_25 : decode cX8_build 25 = .ok (.invokevirtual 312, 3) := by decide +kernel
theorem dX8_build_28 : decode cX8_build 28 = .ok (.astore 5, 2) := by decide +kernel
theorem dX8_build_30 : decode cX8_build 30 = .ok (.aload 5, 2) := by decide +kernel
theorem dX8_build_32 : decode cX8_build 32 = .ok (.ifnull 30, 3) := by decide +kernel
theorem dX8_build_35 : decode cX8_build 35 = .ok (.aload_n 0, 1) := by decide +kernel
theorem dX8_build_36 : decode cX8_build 36 = .ok (.getfield 50, 3) := by decide +kernel
theorem dX8_build_39 : decode cX8_build 39 = .ok (.invokevirtual 316, 3) := by decide +kernel
theorem dX8_build_42 : decode cX8_build 42 = .ok (.ifCond .le 12, 3) := by decide +kernel
theorem dX8_build_45 : decode cX8_build 45 = .ok (.aload_n 0, 1) := by decide +kernel
theorem dX8_build_46 : decode cX8_build 46 = .ok (.getfield 50, 3) := by decide +kernel
theorem dX8_build_49 : decode cX8_build 49 = .ok (.bipush 32, 2) := by decide +kernel
theorem dX8_build_51 : decode cX8_build 51 = .ok (.invokevirtual 317, 3) := by decide +kernel
theorem dX8_build_54 : decode cX8_build 54 = .ok (.aload_n 0, 1) := by decide +kernel
theorem dX8_build_55 : decode cX8_build 55 = .ok (.aload 5, 2) := by decide +kernel
theorem dX8_build_57 : decode cX8_build 57 = .ok (.aload_n 2, 1) := by decide +kernel
theorem dX8_build_58 : decode cX8_build 58 = .ok (.iload_n 3, 1) := by decide +kernel
theorem dX8_build_59 : decode cX8_build 59 = .ok (.invokevirtual 321, 3) := by decide +kernel
theorem dX8_build_62 : decode cX8_build 62 = .ok (.iinc 4 1, 3) := by decide +kernel
theorem dX8_build_65 : decode cX8_build 65 = .ok (.goto (-55), 3) := by decide +kernel
theorem dX8_build_68 : decode cX8_build 68 = .ok (.return_, 1) := by decide +kernel
theorem dX8_layTemplate_0 : decode cX8_layTemplate 0 = .ok (.iconst 0, 1) := by decide +kernel
theorem dX8_layTemplate_1 : decode cX8_layTemplate 1 = .ok (.istore 4, 2) := by decide +kernel
theorem dX8_layTemplate_3 : decode cX8_layTemplate 3 = .ok (.iload 4, 2) := by decide +kernel
theorem dX8_layTemplate_5 : decode cX8_layTemplate 5 = .ok (.aload_n 1, 1) := by decide +kernel
theorem dX8_layTemplate_6 : decode cX8_layTemplate 6 = .ok (.invokevirtual 325, 3) := by decide +kernel
theorem dX8_layTemplate_9 : decode cX8_layTemplate 9 = .ok (.if_icmp .ge 58, 3) := by decide +kernel
theorem dX8_layTemplate_12 : decode cX8_layTemplate 12 = .ok (.aload_n 1, 1) := by decide +kernel
theorem dX8_layTemplate_13 : decode cX8_layTemplate 13 = .ok (.iload 4, 2) := by decide +kernel
theorem dX8_layTemplate_15 : decode cX8_layTemplate 15 = .ok (.invokevirtual 326, 3) := by decide +kernel
theorem dX8_layTemplate_18 : decode cX8_layTemplate 18 = .ok (.ifCond .eq 30, 3) := by decide +kernel
theorem dX8_layTemplate_21 : decode cX8_layTemplate 21 = .ok (.aload_n 0, 1) := by decide +kernel
theorem dX8_layTemplate_22 : decode cX8_layTemplate 22 = .ok (.iload_n 3, 1) := by decide +kernel
theorem dX8_layTemplate_23 : decode cX8_layTemplate 23 = .ok (.aload_n 2, 1) := by decide +kernel
theorem dX8_layTemplate_24 : decode cX8_layTemplate 24 = .ok (.aload_n 1, 1) := by decide +kernel
theorem dX8_layTemplate_25 : decode cX8_layTemplate 25 = .ok (.iload 4, 2) := by decide +kernel
theorem dX8_layTemplate_27 : decode cX8_layTemplate 27 = .ok (.invokevirtual 329, 3) := by decide +kernel
theorem dX8_layTemplate_30 : decode cX8_layTemplate 30 = .ok (.invokevirtual 220, 3) := by decide +kernel
theorem dX8_layTemplate_33 : decode cX8_layTemplate 33 = .ok (.aload_n 1, 1) := by decide +kernel
theorem dX8_layTemplate_34 : decode cX8_layTemplate 34 = .ok (.iload 4, 2) := by decide +kernel
theorem dX8_layTemplate_36 : decode cX8_layTemplate 36 = .ok (.invokevirtual 332, 3) := by decide +kernel
theorem dX8_layTemplate_39 : decode cX8_layTemplate 39 = .ok (.invokevirtual 335, 3) := by decide +kernel
theorem dX8_layTemplate_42 : decode cX8_layTemplate 42 = .ok (.iinc 4 4, 3) := by decide +kernel
theorem dX8_layTemplate_45 : decode cX8_layTemplate 45 = .ok (.goto 16, 3) := by decide +kernel
theorem dX8_layTemplate_48 : decode cX8_layTemplate 48 = .ok (.aload_n 0, 1) := by decide +kernel
theorem dX8_layTemplate_49 : decode cX8_layTemplate 49 = .ok (.getfield 50, 3) := by decide +kernel
theorem dX8_layTemplate_52 : decode cX8_layTemplate 52 = .ok (.aload_n 1, 1) := by decide +kernel
theorem dX8_layTemplate_53 : decode cX8_layTemplate 53 = .ok (.iload 4, 2) := by decide +kernel
theorem dX8_layTemplate_55 : decode cX8_layTemplate 55 = .ok (.invokevirtual 338, 3) := by decide +kernel
theorem dX8_layTemplate_58 : decode cX8_layTemplate 58 = .ok (.invokevirtual 317, 3) := by decide +kernel
theorem dX8_layTemplate_61 : decode cX8_layTemplate 61 = .ok (.iinc 4 1, 3) := by decide +kernel
theorem dX8_layTemplate_64 : decode cX8_layTemplate 64 = .ok (.goto (-61), 3) := by decide +kernel
theorem dX8_layTemplate_67 : decode cX8_layTemplate 67 = .ok (.return_, 1) := by decide +kernel
theorem dX8_layForm_0 : decode cX8_layForm 0 = .ok (.aload_n 0, 1) := by decide +kernel
theorem dX8_layForm_1 : decode cX8_layForm 1 = .ok (.getfield 21, 3) := by decide +kernel
theorem dX8_layForm_4 : decode cX8_layForm 4 = .ok (.iload_n 1, 1) := by decide +kernel
theorem dX8_layForm_5 : decode cX8_layForm 5 = .ok (.iload_n 2, 1) := by decide +kernel
theorem dX8_layForm_6 : decode cX8_layForm 6 = .ok (.iload_n 3, 1) := by decide +kernel
theorem dX8_layForm_7 : decode cX8_layForm 7 = .ok (.invokevirtual 339, 3) := by decide +kernel
theorem dX8_layForm_10 : decode cX8_layForm 10 = .ok (.istore 4, 2) := by decide +kernel
theorem dX8_layForm_12 : decode cX8_layForm 12 = .ok (.iconst 0, 1) := by decide +kernel
theorem dX8_layForm_13 : decode cX8_layForm 13 = .ok (.istore 5, 2) := by decide +kernel
theorem dX8_layForm_15 : decode cX8_layForm 15 = .ok (.iload 5, 2) := by decide +kernel
theorem dX8_layForm_17 : decode cX8_layForm 17 = .ok (.iload 4, 2) := by decide +kernel
theorem dX8_layForm_19 : decode cX8_layForm 19 = .ok (.if_icmp .ge 28, 3) := by decide +kernel
theorem dX8_layForm_22 : decode cX8_layForm 22 = .ok (.aload_n 0, 1) := by decide +kernel
theorem dX8_layForm_23 : decode cX8_layForm 23 = .ok (.getfield 50, 3) := by decide +kernel
theorem dX8_layForm_26 : decode cX8_layForm 26 = .ok (.aload_n 0, 1) := by decide +kernel
theorem dX8_layForm_27 : decode cX8_layForm 27 = .ok (.getfield 21, 3) := by decide +kernel
theorem dX8_layForm_30 : decode cX8_layForm 30 = .ok (.iload_n 1, 1) := by decide +kernel
theorem dX8_layForm_31 : decode cX8_layForm 31 = .ok (.iload_n 2, 1) := by decide +kernel
theorem dX8_layForm_32 : decode cX8_layForm 32 = .ok (.iload_n 3, 1) := by decide +kernel
theorem dX8_layForm_33 : decode cX8_layForm 33 = .ok (.iload 5, 2) := by decide +kernel
theorem dX8_layForm_35 : decode cX8_layForm 35 = .ok (.invokevirtual 343, 3) := by decide +kernel
theorem dX8_layForm_38 : decode cX8_layForm 38 = .ok (.invokevirtual 317, 3) := by decide +kernel
theorem dX8_layForm_41 : decode cX8_layForm 41 = .ok (.iinc 5 1, 3) := by decide +kernel
theorem dX8_layForm_44 : decode cX8_layForm 44 = .ok (.goto (-29), 3) := by decide +kernel
theorem dX8_layForm_47 : decode cX8_layForm 47 = .ok (.return_, 1) := by decide +kernel
theorem dX8_seek_0 : decode cX8_seek 0 = .ok (.iconst 0, 1) := by decide +kernel
theorem dX8_seek_1 : decode cX8_seek 1 = .ok (.istore 4, 2) := by decide +kernel
theorem dX8_seek_3 : decode cX8_seek 3 = .ok (.iconst 0, 1) := by decide +kernel
theorem dX8_seek_4 : decode cX8_seek 4 = .ok (.istore 5, 2) := by decide +kernel
theorem dX8_seek_6 : decode cX8_seek 6 = .ok (.iload 5, 2) := by decide +kernel
theorem dX8_seek_8 : decode cX8_seek 8 = .ok (.aload_n 1, 1) := by decide +kernel
theorem dX8_seek_9 : decode cX8_seek 9 = .ok (.invokevirtual 201, 3) := by decide +kernel
theorem dX8_seek_12 : decode cX8_seek 12 = .ok (.if_icmp .ge 60, 3) := by decide +kernel
theorem dX8_seek_15 : decode cX8_seek 15 = .ok (.aload_n 0, 1) := by decide +kernel
theorem dX8_seek_16 : decode cX8_seek 16 = .ok (.getfield 57, 3) := by decide +kernel
theorem dX8_seek_19 : decode cX8_seek 19 = .ok (.invokevirtual 347, 3) := by decide +kernel
theorem dX8_seek_22 : decode cX8_seek 22 = .ok (.ifCond .ne 50, 3) := by decide +kernel
theorem dX8_seek_25 : decode cX8_seek 25 = .ok (.aload_n 0, 1) := by decide +kernel
theorem dX8_seek_26 : decode cX8_seek 26 = .ok (.aload_n 1, 1) := by decide +kernel
theorem dX8_seek_27 : decode cX8_seek 27 = .ok (.iload 5, 2) := by decide +kernel
theorem dX8_seek_29 : decode cX8_seek 29 = .ok (.aload_n 2, 1) := by decide +kernel
theorem dX8_seek_30 : decode cX8_seek 30 = .ok (.iload_n 3, 1) := by decide +kernel
theorem dX8_seek_31 : decode cX8_seek 31 = .ok (.invokevirtual 312, 3) := by decide +kernel
theorem dX8_seek_34 : decode cX8_seek 34 = .ok (.astore 6, 2) := by decide +kernel
theorem dX8_seek_36 : decode cX8_seek 36 = .ok (.aload 6, 2) := by decide +kernel
theorem dX8_seek_38 : decode cX8_seek 38 = .ok (.ifnull 28, 3) := by decide +kernel
theorem dX8_seek_41 : decode cX8_seek 41 = .ok (.iload 4, 2) := by decide +kernel
theorem dX8_seek_43 : decode cX8_seek 43 = .ok (.ifCond .eq 12, 3) := by decide +kernel
theorem dX8_seek_46 : decode cX8_seek 46 = .ok (.aload_n 0, 1) := by decide +kernel
theorem dX8_seek_47 : decode cX8_seek 47 = .ok (.getfield 57, 3) := by decide +kernel
theorem dX8_seek_50 : decode cX8_seek 50 = .ok (.bipush 32, 2) := by decide +kernel
theorem dX8_seek_52 : decode cX8_seek 52 = .ok (.invokevirtual 350, 3) := by decide +kernel
theorem dX8_seek_55 : decode cX8_seek 55 = .ok (.aload_n 0, 1) := by decide +kernel
theorem dX8_seek_56 : decode cX8_seek 56 = .ok (.aload 6, 2) := by decide +kernel
theorem dX8_seek_58 : decode cX8_seek 58 = .ok (.aload_n 2, 1) := by decide +kernel
theorem dX8_seek_59 : decode cX8_seek 59 = .ok (.iload_n 3, 1) := by decide +kernel
theorem dX8_seek_60 : decode cX8_seek 60 = .ok (.invokevirtual 353, 3) := by decide +kernel
theorem dX8_seek_63 : decode cX8_seek 63 = .ok (.iconst 1, 1) := by decide +kernel
theorem dX8_seek_64 : decode cX8_seek 64 = .ok (.istore 4, 2) := by decide +kernel
theorem dX8_seek_66 : decode cX8_seek 66 = .ok (.iinc 5 1, 3) := by decide +kernel
theorem dX8_seek_69 : decode cX8_seek 69 = .ok (.goto (-63), 3) := by decide +kernel
theorem dX8_seek_72 : decode cX8_seek 72 = .ok (.return_, 1) := by decide +kernel
theorem dX8_seekTemplate_0 : decode cX8_seekTemplate 0 = .ok (.iconst 0, 1) := by decide +kernel
theorem dX8_seekTemplate_1 : decode cX8_seekTemplate 1 = .ok (.istore 4, 2) := by decide +kernel
theorem dX8_seekTemplate_3 : decode cX8_seekTemplate 3 = .ok (.iload 4, 2) := by decide +kernel
theorem dX8_seekTemplate_5 : decode cX8_seekTemplate 5 = .ok (.aload_n 1, 1) := by decide +kernel
theorem dX8_seekTemplate_6 : decode cX8_seekTemplate 6 = .ok (.invokevirtual 325, 3) := by decide +kernel
theorem dX8_seekTemplate_9 : decode cX8_seekTemplate 9 = .ok (.if_icmp .ge 109, 3) := by decide +kernel
theorem dX8_seekTemplate_12 : decode cX8_seekTemplate 12 = .ok (.aload_n 0, 1) := by decide +kernel
theorem dX8_seekTemplate_13 : decode cX8_seekTemplate 13 = .ok (.getfield 57, 3) := by decide +kernel
theorem dX8_seekTemplate_16 : decode cX8_seekTemplate 16 = .ok (.invokevirtual 347, 3) := by decide +kernel
theorem dX8_seekTemplate_19 : decode cX8_seekTemplate 19 = .ok (.ifCond .ne 99, 3) := by decide +kernel
theorem dX8_seekTemplate_22 : decode cX8_seekTemplate 22 = .ok (.aload_n 1, 1) := by decide +kernel
theorem dX8_seekTemplate_23 : decode cX8_seekTemplate 23 = .ok (.iload 4, 2) := by decide +kernel
theorem dX8_seekTemplate_25 : decode cX8_seekTemplate 25 = .ok (.invokevirtual 326, 3) := by decide +kernel
theorem dX8_seekTemplate_28 : decode cX8_seekTemplate 28 = .ok (.ifCond .eq 71, 3) := by decide +kernel
theorem dX8_seekTemplate_31 : decode cX8_seekTemplate 31 = .ok (.aload_n 2, 1) := by decide +kernel
theorem dX8_seekTemplate_32 : decode cX8_seekTemplate 32 = .ok (.aload_n 1, 1) := by decide +kernel
theorem dX8_seekTemplate_33 : decode cX8_seekTemplate 33 = .ok (.iload 4, 2) := by decide +kernel
theorem dX8_seekTemplate_35 : decode cX8_seekTemplate 35 = .ok (.invokevirtual 329, 3) := by decide +kernel
theorem dX8_seekTemplate_38 : decode cX8_seekTemplate 38 = .ok (.invokevirtual 220, 3) := by decide +kernel
theorem dX8_seekTemplate_41 : decode cX8_seekTemplate 41 = .ok (.istore 5, 2) := by decide +kernel
theorem dX8_seekTemplate_43 : decode cX8_seekTemplate 43 = .ok (.aload_n 1, 1) := by decide +kernel
theorem dX8_seekTemplate_44 : decode cX8_seekTemplate 44 = .ok (.iload 4, 2) := by decide +kernel
theorem dX8_seekTemplate_46 : decode cX8_seekTemplate 46 = .ok (.invokevirtual 332, 3) := by decide +kernel
theorem dX8_seekTemplate_49 : decode cX8_seekTemplate 49 = .ok (.istore 6, 2) := by decide +kernel
theorem dX8_seekTemplate_51 : decode cX8_seekTemplate 51 = .ok (.aload_n 0, 1) := by decide +kernel
theorem dX8_seekTemplate_52 : decode cX8_seekTemplate 52 = .ok (.getfield 21, 3) := by decide +kernel
theorem dX8_seekTemplate_55 : decode cX8_seekTemplate 55 = .ok (.iload_n 3, 1) := by decide +kernel
theorem dX8_seekTemplate_56 : decode cX8_seekTemplate 56 = .ok (.iload 5, 2) := by decide +kernel
theorem dX8_seekTemplate_58 : decode cX8_seekTemplate 58 = .ok (.iload 6, 2) := by decide +kernel
theorem dX8_seekTemplate_60 : decode cX8_seekTemplate 60 = .ok (.aload_n 0, 1) := by decide +kernel
theorem dX8_seekTemplate_61 : decode cX8_seekTemplate 61 = .ok (.getfield 57, 3) := by decide +kernel
theorem dX8_seekTemplate_64 : decode cX8_seekTemplate 64 = .ok (.invokevirtual 356, 3) := by decide +kernel
theorem dX8_seekTemplate_67 : decode cX8_seekTemplate 67 = .ok (.invokevirtual 343, 3) := by decide +kernel
theorem dX8_seekTemplate_70 : decode cX8_seekTemplate 70 = .ok (.istore 7, 2) := by decide +kernel
theorem dX8_seekTemplate_72 : decode cX8_seekTemplate 72 = .ok (.aload_n 0, 1) := by decide +kernel
theorem dX8_seekTemplate_73 : decode cX8_seekTemplate 73 = .ok (.getfield 57, 3) := by decide +kernel
theorem dX8_seekTemplate_76 : decode cX8_seekTemplate 76 = .ok (.aload_n 0, 1) := by decide +kernel
theorem dX8_seekTemplate_77 : decode cX8_seekTemplate 77 = .ok (.getfield 21, 3) := by decide +kernel
theorem dX8_seekTemplate_80 : decode cX8_seekTemplate 80 = .ok (.iload_n 3, 1) := by decide +kernel
theorem dX8_seekTemplate_81 : decode cX8_seekTemplate 81 = .ok (.iload 5, 2) := by decide +kernel
theorem dX8_seekTemplate_83 : decode cX8_seekTemplate 83 = .ok (.iload 6, 2) := by decide +kernel
theorem dX8_seekTemplate_85 : decode cX8_seekTemplate 85 = .ok (.invokevirtual 339, 3) := by decide +kernel
theorem dX8_seekTemplate_88 : decode cX8_seekTemplate 88 = .ok (.iload 7, 2) := by decide +kernel
theorem dX8_seekTemplate_90 : decode cX8_seekTemplate 90 = .ok (.invokevirtual 359, 3) := by decide +kernel
theorem dX8_seekTemplate_93 : decode cX8_seekTemplate 93 = .ok (.iinc 4 4, 3) := by decide +kernel
theorem dX8_seekTemplate_96 : decode cX8_seekTemplate 96 = .ok (.goto 16, 3) := by decide +kernel
theorem dX8_seekTemplate_99 : decode cX8_seekTemplate 99 = .ok (.aload_n 0, 1) := by decide +kernel
theorem dX8_seekTemplate_100 : decode cX8_seekTemplate 100 = .ok (.getfield 57, 3) := by decide +kernel
theorem dX8_seekTemplate_103 : decode cX8_seekTemplate 103 = .ok (.aload_n 1, 1) := by decide +kernel
theorem dX8_seekTemplate_104 : decode cX8_seekTemplate 104 = .ok (.iload 4, 2) := by decide +kernel
theorem dX8_seekTemplate_106 : decode cX8_seekTemplate 106 = .ok (.invokevirtual 338, 3) := by decide +kernel
theorem dX8_seekTemplate_109 : decode cX8_seekTemplate 109 = .ok (.invokevirtual 350, 3) := by decide +kernel
theorem dX8_seekTemplate_112 : decode cX8_seekTemplate 112 = .ok (.iinc 4 1, 3) := by decide +kernel
theorem dX8_seekTemplate_115 : decode cX8_seekTemplate 115 = .ok (.goto (-112), 3) := by decide +kernel
theorem dX8_seekTemplate_118 : decode cX8_seekTemplate 118 = .ok (.return_, 1) := by decide +kernel
theorem dX8_mostBranches_0 : decode cX8_mostBranches 0 = .ok (.iconst (-1), 1) := by decide +kernel
theorem dX8_mostBranches_1 : decode cX8_mostBranches 1 = .ok (.istore_n 3, 1) := by decide +kernel
theorem dX8_mostBranches_2 : decode cX8_mostBranches 2 = .ok (.iconst 0, 1) := by decide +kernel
theorem dX8_mostBranches_3 : decode cX8_mostBranches 3 = .ok (.istore 4, 2) := by decide +kernel
theorem dX8_mostBranches_5 : decode cX8_mostBranches 5 = .ok (.iconst 0, 1) := by decide +kernel
theorem dX8_mostBranches_6 : decode cX8_mostBranches 6 = .ok (.istore 5, 2) := by decide +kernel
theorem dX8_mostBranches_8 : decode cX8_mostBranches 8 = .ok (.iload 5, 2) := by decide +kernel
theorem dX8_mostBranches_10 : decode cX8_mostBranches 10 = .ok (.aload_n 0, 1) := by decide +kernel
theorem dX8_mostBranches_11 : decode cX8_mostBranches 11 = .ok (.getfield 206, 3) := by decide +kernel
theorem dX8_mostBranches_14 : decode cX8_mostBranches 14 = .ok (.if_icmp .ge 43, 3) := by decide +kernel
theorem dX8_mostBranches_17 : decode cX8_mostBranches 17 = .ok (.aload_n 0, 1) := by decide +kernel
theorem dX8_mostBranches_18 : decode cX8_mostBranches 18 = .ok (.aload_n 1, 1) := by decide +kernel
theorem dX8_mostBranches_19 : decode cX8_mostBranches 19 = .ok (.aload_n 0, 1) := by decide +kernel
theorem dX8_mostBranches_20 : decode cX8_mostBranches 20 = .ok (.iload 5, 2) := by decide +kernel
theorem dX8_mostBranches_22 : decode cX8_mostBranches 22 = .ok (.invokevirtual 214, 3) := by decide +kernel
theorem dX8_mostBranches_25 : decode cX8_mostBranches 25 = .ok (.invokevirtual 274, 3) := by decide +kernel
theorem dX8_mostBranches_28 : decode cX8_mostBranches 28 = .ok (.iload_n 2, 1) := by decide +kernel
theorem dX8_mostBranches_29 : decode cX8_mostBranches 29 = .ok (.iconst (-1), 1) := by decide +kernel
theorem dX8_mostBranches_30 : decode cX8_mostBranches 30 = .ok (.ixor, 1) := by decide +kernel
theorem dX8_mostBranches_31 : decode cX8_mostBranches 31 = .ok (.iand, 1) := by decide +kernel
theorem dX8_mostBranches_32 : decode cX8_mostBranches 32 = .ok (.invokestatic 363, 3) := by decide +kernel
theorem dX8_mostBranches_35 : decode cX8_mostBranches 35 = .ok (.istore 6, 2) := by decide +kernel
theorem dX8_mostBranches_37 : decode cX8_mostBranches 37 = .ok (.iload 6, 2) := by decide +kernel
theorem dX8_mostBranches_39 : decode cX8_mostBranches 39 = .ok (.iload 4, 2) := by decide +kernel
theorem dX8_mostBranches_41 : decode cX8_mostBranches 41 = .ok (.if_icmp .le 10, 3) := by decide +kernel
theorem dX8_mostBranches_44 : decode cX8_mostBranches 44 = .ok (.iload 5, 2) := by decide +kernel
theorem dX8_mostBranches_46 : decode cX8_mostBranches 46 = .ok (.istore_n 3, 1) := by decide +kernel
theorem dX8_mostBranches_47 : decode cX8_mostBranches 47 = .ok (.iload 6, 2) := by decide +kernel
theorem dX8_mostBranches_49 : decode cX8_mostBranches 49 = .ok (.istore 4, 2) := by decide +kernel
theorem dX8_mostBranches_51 : decode cX8_mostBranches 51 = .ok (.iinc 5 1, 3) := by decide +kernel
theorem dX8_mostBranches_54 : decode cX8_mostBranches 54 = .ok (.goto (-46), 3) := by decide +kernel
theorem dX8_mostBranches_57 : decode cX8_mostBranches 57 = .ok (.iload_n 3, 1) := by decide +kernel
theorem dX8_mostBranches_58 : decode cX8_mostBranches 58 = .ok (.ireturn, 1) := by decide +kernel
theorem dX8_branches_0 : decode cX8_branches 0 = .ok (.iconst 0, 1) := by decide +kernel
theorem dX8_branches_1 : decode cX8_branches 1 = .ok (.istore_n 3, 1) := by decide +kernel
theorem dX8_branches_2 : decode cX8_branches 2 = .ok (.iconst 0, 1) := by decide +kernel
theorem dX8_branches_3 : decode cX8_branches 3 = .ok (.istore 4, 2) := by decide +kernel
theorem dX8_branches_5 : decode cX8_branches 5 = .ok (.aload_n 2, 1) := by decide +kernel
theorem dX8_branches_6 : decode cX8_branches 6 = .ok (.ifnull 71, 3) := by decide +kernel
theorem dX8_branches_9 : decode cX8_branches 9 = .ok (.iload 4, 2) := by decide +kernel
theorem dX8_branches_11 : decode cX8_branches 11 = .ok (.aload_n 1, 1) := by decide +kernel
theorem dX8_branches_12 : decode cX8_branches 12 = .ok (.invokevirtual 201, 3) := by decide +kernel
theorem dX8_branches_15 : decode cX8_branches 15 = .ok (.if_icmp .ge 62, 3) := by decide +kernel
theorem dX8_branches_18 : decode cX8_branches 18 = .ok (.aload_n 0, 1) := by decide +kernel
theorem dX8_branches_19 : decode cX8_branches 19 = .ok (.aload_n 1, 1) := by decide +kernel
theorem dX8_branches_20 : decode cX8_branches 20 = .ok (.iload 4, 2) := by decide +kernel
theorem dX8_branches_22 : decode cX8_branches 22 = .ok (.invokevirtual 235, 3) := by decide +kernel
theorem dX8_branches_25 : decode cX8_branches 25 = .ok (.invokevirtual 163, 3) := by decide +kernel
theorem dX8_branches_28 : decode cX8_branches 28 = .ok (.astore 5, 2) := by decide +kernel
theorem dX8_branches_30 : decode cX8_branches 30 = .ok (.aload 5, 2) := by decide +kernel
theorem dX8_branches_32 : decode cX8_branches 32 = .ok (.ifnull 39, 3) := by decide +kernel
theorem dX8_branches_35 : decode cX8_branches 35 = .ok (.aload 5, 2) := by decide +kernel
theorem dX8_branches_37 : decode cX8_branches 37 = .ok (.invokevirtual 300, 3) := by decide +kernel
theorem dX8_branches_40 : decode cX8_branches 40 = .ok (.iconst (-1), 1) := by decide +kernel
theorem dX8_branches_41 : decode cX8_branches 41 = .ok (.if_icmp .eq 30, 3) := by decide +kernel
theorem dX8_branches_44 : decode cX8_branches 44 = .ok (.iload_n 3, 1) := by decide +kernel
theorem dX8_branches_45 : decode cX8_branches 45 = .ok (.iconst 1, 1) := by decide +kernel
theorem dX8_branches_46 : decode cX8_branches 46 = .ok (.iconst 2, 1) := by decide +kernel
theorem dX8_branches_47 : decode cX8_branches 47 = .ok (.iload 4, 2) := by decide +kernel
theorem dX8_branches_49 : decode cX8_branches 49 = .ok (.imul, 1) := by decide +kernel
theorem dX8_branches_50 : decode cX8_branches 50 = .ok (.aload_n 2, 1) := by decide +kernel
theorem dX8_branches_51 : decode cX8_branches 51 = .ok (.aload 5, 2) := by decide +kernel
theorem dX8_branches_53 : decode cX8_branches 53 = .ok (.invokevirtual 300, 3) := by decide +kernel
theorem dX8_branches_56 : decode cX8_branches 56 = .ok (.invokevirtual 303, 3) := by decide +kernel
theorem dX8_branches_59 : decode cX8_branches 59 = .ok (.ifCond .eq 7, 3) := by decide +kernel
theorem dX8_branches_62 : decode cX8_branches 62 = .ok (.iconst 1, 1) := by decide +kernel
theorem dX8_branches_63 : decode cX8_branches 63 = .ok (.goto 4, 3) := by decide +kernel
theorem dX8_branches_66 : decode cX8_branches 66 = .ok (.iconst 0, 1) := by decide +kernel
theorem dX8_branches_67 : decode cX8_branches 67 = .ok (.iadd, 1) := by decide +kernel
theorem dX8_branches_68 : decode cX8_branches 68 = .ok (.ishl, 1) := by decide +kernel
theorem dX8_branches_69 : decode cX8_branches 69 = .ok (.ior, 1) := by decide +kernel
theorem dX8_branches_70 : decode cX8_branches 70 = .ok (.istore_n 3, 1) := by decide +kernel
theorem dX8_branches_71 : decode cX8_branches 71 = .ok (.iinc 4 1, 3) := by decide +kernel
theorem dX8_branches_74 : decode cX8_branches 74 = .ok (.goto (-69), 3) := by decide +kernel
theorem dX8_branches_77 : decode cX8_branches 77 = .ok (.iload_n 3, 1) := by decide +kernel
theorem dX8_branches_78 : decode cX8_branches 78 = .ok (.ireturn, 1) := by decide +kernel
theorem dX9_init_0 : decode cX9_init 0 = .ok (.aload_n 0, 1) := by decide +kernel
theorem dX9_init_1 : decode cX9_init 1 = .ok (.invokespecial 1, 3) := by decide +kernel
theorem dX9_init_4 : decode cX9_init 4 = .ok (.aload_n 0, 1) := by decide +kernel
theorem dX9_init_5 : decode cX9_init 5 = .ok (.bipush 60, 2) := by decide +kernel
theorem dX9_init_7 : decode cX9_init 7 = .ok (.newarray .char, 2) := by decide +kernel
theorem dX9_init_9 : decode cX9_init 9 = .ok (.putfield 7, 3) := by decide +kernel
theorem dX9_init_12 : decode cX9_init 12 = .ok (.aload_n 0, 1) := by decide +kernel
theorem dX9_init_13 : decode cX9_init 13 = .ok (.bipush 120, 2) := by decide +kernel
theorem dX9_init_15 : decode cX9_init 15 = .ok (.newarray .char, 2) := by decide +kernel
theorem dX9_init_17 : decode cX9_init 17 = .ok (.putfield 13, 3) := by decide +kernel
theorem dX9_init_20 : decode cX9_init 20 = .ok (.aload_n 0, 1) := by decide +kernel
theorem dX9_init_21 : decode cX9_init 21 = .ok (.bipush 12, 2) := by decide +kernel
theorem dX9_init_23 : decode cX9_init 23 = .ok (.newarray .int, 2) := by decide +kernel
theorem dX9_init_25 : decode cX9_init 25 = .ok (.putfield 16, 3) := by decide +kernel
theorem dX9_init_28 : decode cX9_init 28 = .ok (.aload_n 0, 1) := by decide +kernel
theorem dX9_init_29 : decode cX9_init 29 = .ok (.bipush 96, 2) := by decide +kernel
theorem dX9_init_31 : decode cX9_init 31 = .ok (.newarray .char, 2) := by decide +kernel
theorem dX9_init_33 : decode cX9_init 33 = .ok (.putfield 20, 3) := by decide +kernel
theorem dX9_init_36 : decode cX9_init 36 = .ok (.aload_n 0, 1) := by decide +kernel
theorem dX9_init_37 : decode cX9_init 37 = .ok (.bipush 24, 2) := by decide +kernel
theorem dX9_init_39 : decode cX9_init 39 = .ok (.newarray .int, 2) := by decide +kernel
theorem dX9_init_41 : decode cX9_init 41 = .ok (.putfield 23, 3) := by decide +kernel
theorem dX9_init_44 : decode cX9_init 44 = .ok (.aload_n 0, 1) := by decide +kernel
theorem dX9_init_45 : decode cX9_init 45 = .ok (.sipush 2880, 3) := by decide +kernel
theorem dX9_init_48 : decode cX9_init 48 = .ok (.newarray .char, 2) := by decide +kernel
theorem dX9_init_50 : decode cX9_init 50 = .ok (.putfield 26, 3) := by decide +kernel
theorem dX9_init_53 : decode cX9_init 53 = .ok (.aload_n 0, 1) := by decide +kernel
theorem dX9_init_54 : decode cX9_init 54 = .ok (.sipush 288, 3) := by decide +kernel
theorem dX9_init_57 : decode cX9_init 57 = .ok (.newarray .int, 2) := by decide +kernel
theorem dX9_init_59 : decode cX9_init 59 = .ok (.putfield 29, 3) := by decide +kernel
theorem dX9_init_62 : decode cX9_init 62 = .ok (.aload_n 0, 1) := by decide +kernel
theorem dX9_init_63 : decode cX9_init 63 = .ok (.bipush 10, 2) := by decide +kernel
theorem dX9_init_65 : decode cX9_init 65 = .ok (.newarray .int, 2) := by decide +kernel
theorem dX9_init_67 : decode cX9_init 67 = .ok (.putfield 32, 3) := by decide +kernel
theorem dX9_init_70 : decode cX9_init 70 = .ok (.aload_n 0, 1) := by decide +kernel
theorem dX9_init_71 : decode cX9_init 71 = .ok (.sipush 1800, 3) := by decide +kernel
theorem dX9_init_74 : decode cX9_init 74 = .ok (.newarray .char, 2) := by decide +kernel
theorem dX9_init_76 : decode cX9_init 76 = .ok (.putfield 35, 3) := by decide +kernel
theorem dX9_init_79 : decode cX9_init 79 = .ok (.aload_n 0, 1) := by decide +kernel
theorem dX9_init_80 : decode cX9_init 80 = .ok (.bipush 30, 2) := by decide +kernel
theorem dX9_init_82 : decode cX9_init 82 = .ok (.newarray .int, 2) := by decide +kernel
theorem dX9_init_84 : decode cX9_init 84 = .ok (.putfield 38, 3) := by decide +kernel
theorem dX9_init_87 : decode cX9_init 87 = .ok (.aload_n 0, 1) := by decide +kernel
theorem dX9_init_88 : decode cX9_init 88 = .ok (.bipush 30, 2) := by decide +kernel
theorem dX9_init_90 : decode cX9_init 90 = .ok (.newarray .boolean, 2) := by decide +kernel
theorem dX9_init_92 : decode cX9_init 92 = .ok (.putfield 41, 3) := by decide +kernel
theorem dX9_init_95 : decode cX9_init 95 = .ok (.aload_n 0, 1) := by decide +kernel
theorem dX9_init_96 : decode cX9_init 96 = .ok (.sipush 400, 3) := by decide +kernel
theorem dX9_init_99 : decode cX9_init 99 = .ok (.newarray .int, 2) := by decide +kernel
theorem dX9_init_101 : decode cX9_init 101 = .ok (.putfield 45, 3) := by decide +kernel
theorem dX9_init_104 : decode cX9_init 104 = .ok (.aload_n 0, 1) := by decide +kernel
theorem dX9_init_105 : decode cX9_init 105 = .ok (.bipush 36, 2) := by decide +kernel
theorem dX9_init_107 : decode cX9_init 107 = .ok (.newarray .int, 2) := by decide +kernel
theorem dX9_init_109 : decode cX9_init 109 = .ok (.putfield 48, 3) := by decide +kernel
theorem dX9_init_112 : decode cX9_init 112 = .ok (.aload_n 0, 1) := by decide +kernel
theorem dX9_init_113 : decode cX9_init 113 = .ok (.bipush 6, 2) := by decide +kernel
theorem dX9_init_115 : decode cX9_init 115 = .ok (.newarray .int, 2) := by decide +kernel
theorem dX9_init_117 : decode cX9_init 117 = .ok (.putfield 51, 3) := by decide +kernel
theorem dX9_init_120 : decode cX9_init 120 = .ok (.aload_n 0, 1) := by decide +kernel
theorem dX9_init_121 : decode cX9_init 121 = .ok (.bipush 40, 2) := by decide +kernel
theorem dX9_init_123 : decode cX9_init 123 = .ok (.newarray .int, 2) := by decide +kernel
theorem dX9_init_125 : decode cX9_init 125 = .ok (.putfield 54, 3) := by decide +kernel
theorem dX9_init_128 : decode cX9_init 128 = .ok (.aload_n 0, 1) := by decide +kernel
theorem dX9_init_129 : decode cX9_init 129 = .ok (.bipush 8, 2) := by decide +kernel
theorem dX9_init_131 : decode cX9_init 131 = .ok (.newarray .int, 2) := by decide +kernel
theorem dX9_init_133 : decode cX9_init 133 = .ok (.putfield 57, 3) := by decide +kernel
theorem dX9_init_136 : decode cX9_init 136 = .ok (.aload_n 0, 1) := by decide +kernel
theorem dX9_init_137 : decode cX9_init 137 = .ok (.iconst 3, 1) := by decide +kernel
theorem dX9_init_138 : decode cX9_init 138 = .ok (.newarray .int, 2) := by decide +kernel
theorem dX9_init_140 : decode cX9_init 140 = .ok (.putfield 60, 3) := by decide +kernel
theorem dX9_init_143 : decode cX9_init 143 = .ok (.aload_n 0, 1) := by decide +kernel
theorem dX9_init_144 : decode cX9_init 144 = .ok (.sipush 1100, 3) := by decide +kernel
theorem dX9_init_147 : decode cX9_init 147 = .ok (.newarray .char, 2) := by decide +kernel
theorem dX9_init_149 : decode cX9_init 149 = .ok (.putfield 63, 3) := by decide +kernel
theorem dX9_init_152 : decode cX9_init 152 = .ok (.aload_n 0, 1) := by decide +kernel
theorem dX9_init_153 : decode cX9_init 153 = .ok (.bipush 20, 2) := by decide +kernel
theorem dX9_init_155 : decode cX9_init 155 = .ok (.newarray .boolean, 2) := by decide +kernel
theorem dX9_init_157 : decode cX9_init 157 = .ok (.putfield 66, 3) := by decide +kernel
theorem dX9_init_160 : decode cX9_init 160 = .ok (.iconst 0, 1) := by decide +kernel
theorem dX9_init_161 : decode cX9_init 161 = .ok (.istore_n 1, 1) := by decide +kernel
theorem dX9_init_162 : decode cX9_init 162 = .ok (.iload_n 1, 1) := by decide +kernel
theorem dX9_init_163 : decode cX9_init 163 = .ok (.iconst 3, 1) := by decide +kernel
theorem dX9_init_164 : decode cX9_init 164 = .ok (.if_icmp .ge 16, 3) := by decide +kernel
theorem dX9_init_167 : decode cX9_init 167 = .ok (.aload_n 0, 1) := by decide +kernel
theorem dX9_init_168 : decode cX9_init 168 = .ok (.getfield 60, 3) := by decide +kernel
theorem dX9_init_171 : decode cX9_init 171 = .ok (.iload_n 1, 1) := by decide +kernel
theorem dX9_init_172 : decode cX9_init 172 = .ok (.iconst 1, 1) := by decide +kernel
theorem dX9_init_173 : decode cX9_init 173 = .ok (.iastore, 1) := by decide +kernel
theorem dX9_init_174 : decode cX9_init 174 = .ok (.iinc 1 1, 3) := by decide +kernel
theorem dX9_init_177 : decode cX9_init 177 = .ok (.goto (-15), 3) := by decide +kernel
theorem dX9_init_180 : decode cX9_init 180 = .ok (.return_, 1) := by decide +kernel
theorem dX9_thrown_0 : decode cX9_thrown 0 = .ok (.aload_n 0, 1) := by decide +kernel
theorem dX9_thrown_1 : decode cX9_thrown 1 = .ok (.getfield 69, 3) := by decide +kernel
theorem dX9_thrown_4 : decode cX9_thrown 4 = .ok (.ireturn, 1) := by decide +kernel
theorem dX9_goes_0 : decode cX9_goes 0 = .ok (.aload_n 0, 1) := by decide +kernel
theorem dX9_goes_1 : decode cX9_goes 1 = .ok (.iload_n 1, 1) := by decide +kernel
theorem dX9_goes_2 : decode cX9_goes 2 = .ok (.putfield 69, 3) := by decide +kernel
theorem dX9_goes_5 : decode cX9_goes 5 = .ok (.iload_n 1, 1) := by decide +kernel
theorem dX9_goes_6 : decode cX9_goes 6 = .ok (.ifCond .ne 7, 3) := by decide +kernel
theorem dX9_goes_9 : decode cX9_goes 9 = .ok (.iconst 1, 1) := by decide +kernel
theorem dX9_goes_10 : decode cX9_goes 10 = .ok (.goto 4, 3) := by decide +kernel
theorem dX9_goes_13 : decode cX9_goes 13 = .ok (.iconst 0, 1) := by decide +kernel
theorem dX9_goes_14 : decode cX9_goes 14 = .ok (.ireturn, 1) := by decide +kernel
theorem dX9_isIn_0 : decode cX9_isIn 0 = .ok (.iload_n 0, 1) := by decide +kernel
theorem dX9_isIn_1 : decode cX9_isIn 1 = .ok (.iload_n 1, 1) := by decide +kernel
theorem dX9_isIn_2 : decode cX9_isIn 2 = .ok (.if_icmp .lt 12, 3) := by decide +kernel
theorem dX9_isIn_5 : decode cX9_isIn 5 = .ok (.iload_n 0, 1) := by decide +kernel
theorem dX9_isIn_6 : decode cX9_isIn 6 = .ok (.iload_n 2, 1) := by decide +kernel
theorem dX9_isIn_7 : decode cX9_isIn 7 = .ok (.if_icmp .gt 7, 3) := by decide +kernel
theorem dX9_isIn_10 : decode cX9_isIn 10 = .ok (.iconst 1, 1) := by decide +kernel
theorem dX9_isIn_11 : decode cX9_isIn 11 = .ok (.goto 4, 3) := by decide +kernel
theorem dX9_isIn_14 : decode cX9_isIn 14 = .ok (.iconst 0, 1) := by decide +kernel
theorem dX9_isIn_15 : decode cX9_isIn 15 = .ok (.ireturn, 1) := by decide +kernel
theorem dX9_isLanguage_0 : decode cX9_isLanguage 0 = .ok (.iload_n 0, 1) := by decide +kernel
theorem dX9_isLanguage_1 : decode cX9_isLanguage 1 = .ok (.iconst 0, 1) := by decide +kernel
theorem dX9_isLanguage_2 : decode cX9_isLanguage 2 = .ok (.iconst 2, 1) := by decide +kernel
theorem dX9_isLanguage_3 : decode cX9_isLanguage 3 = .ok (.invokestatic 73, 3) := by decide +kernel
theorem dX9_isLanguage_6 : decode cX9_isLanguage 6 = .ok (.ireturn, 1) := by decide +kernel
theorem dX9_isWord_0 : decode cX9_isWord 0 = .ok (.iload_n 1, 1) := by decide +kernel
theorem dX9_isWord_1 : decode cX9_isWord 1 = .ok (.iconst 0, 1) := by decide +kernel
theorem dX9_isWord_2 : decode cX9_isWord 2 = .ok (.aload_n 0, 1) := by decide +kernel
theorem dX9_isWord_3 : decode cX9_isWord 3 = .ok (.getfield 77, 3) := by decide +kernel
theorem dX9_isWord_6 : decode cX9_isWord 6 = .ok (.iconst 1, 1) := by decide +kernel
theorem dX9_isWord_7 : decode cX9_isWord 7 = .ok (.isub, 1) := by decide +kernel
theorem dX9_isWord_8 : decode cX9_isWord 8 = .ok (.invokestatic 73, 3) := by decide +kernel
theorem dX9_isWord_11 : decode cX9_isWord 11 = .ok (.ireturn, 1) := by decide +kernel
theorem dX9_isClause_0 : decode cX9_isClause 0 = .ok (.iload_n 1, 1) := by decide +kernel
theorem dX9_isClause_1 : decode cX9_isClause 1 = .ok (.iconst 0, 1) := by decide +kernel
theorem dX9_isClause_2 : decode cX9_isClause 2 = .ok (.aload_n 0, 1) := by decide +kernel
theorem dX9_isClause_3 : decode cX9_isClause 3 = .ok (.getfield 80, 3) := by decide +kernel
theorem dX9_isClause_6 : decode cX9_isClause 6 = .ok (.iconst 1, 1) := by decide +kernel
theorem dX9_isClause_7 : decode cX9_isClause 7 = .ok (.isub, 1) := by decide +kernel
theorem dX9_isClause_8 : decode cX9_isClause 8 = .ok (.invokestatic 73, 3) := by decide +kernel
theorem dX9_isClause_11 : decode cX9_isClause 11 = .ok (.ireturn, 1) := by decide +kernel
theorem dX9_isLetter_0 : decode cX9_isLetter 0 = .ok (.iload_n 1, 1) := by decide +kernel
theorem dX9_isLetter_1 : decode cX9_isLetter 1 = .ok (.iconst 0, 1) := by decide +kernel
theorem dX9_isLetter_2 : decode cX9_isLetter 2 = .ok (.aload_n 0, 1) := by decide +kernel
theorem dX9_isLetter_3 : decode cX9_isLetter 3 = .ok (.getfield 83, 3) := by decide +kernel
theorem dX9_isLetter_6 : decode cX9_isLetter 6 = .ok (.iconst 1, 1) := by decide +kernel
theorem dX9_isLetter_7 : decode cX9_isLetter 7 = .ok (.isub, 1) := by decide +kernel
theorem dX9_isLetter_8 : decode cX9_isLetter 8 = .ok (.invokestatic 73, 3) := by decide +kernel
theorem dX9_isLetter_11 : decode cX9_isLetter 11 = .ok (.ireturn, 1) := by decide +kernel
theorem dX9_isData_0 : decode cX9_isData 0 = .ok (.iload_n 1, 1) := by decide +kernel
theorem dX9_isData_1 : decode cX9_isData 1 = .ok (.iconst 0, 1) := by decide +kernel
theorem dX9_isData_2 : decode cX9_isData 2 = .ok (.aload_n 0, 1) := by decide +kernel
theorem dX9_isData_3 : decode cX9_isData 3 = .ok (.getfield 86, 3) := by decide +kernel
theorem dX9_isData_6 : decode cX9_isData 6 = .ok (.iconst 1, 1) := by decide +kernel
theorem dX9_isData_7 : decode cX9_isData 7 = .ok (.isub, 1) := by decide +kernel
theorem dX9_isData_8 : decode cX9_isData 8 = .ok (.invokestatic 73, 3) := by decide +kernel
theorem dX9_isData_11 : decode cX9_isData 11 = .ok (.ireturn, 1) := by decide +kernel
theorem dX9_isSmall_0 : decode cX9_isSmall 0 = .ok (.iload_n 0, 1) := by decide +kernel
theorem dX9_isSmall_1 : decode cX9_isSmall 1 = .ok (.bipush 97, 2) := by decide +kernel
theorem dX9_isSmall_3 : decode cX9_isSmall 3 = .ok (.if_icmp .lt 13, 3) := by decide +kernel
theorem dX9_isSmall_6 : decode cX9_isSmall 6 = .ok (.iload_n 0, 1) := by decide +kernel
theorem dX9_isSmall_7 : decode cX9_isSmall 7 = .ok (.bipush 122, 2) := by decide +kernel
theorem dX9_isSmall_9 : decode cX9_isSmall 9 = .ok (.if_icmp .gt 7, 3) := by decide +kernel
theorem dX9_isSmall_12 : decode cX9_isSmall 12 = .ok (.iconst 1, 1) := by decide +kernel
theorem dX9_isSmall_13 : decode cX9_isSmall 13 = .ok (.goto 4, 3) := by decide +kernel
theorem dX9_isSmall_16 : decode cX9_isSmall 16 = .ok (.iconst 0, 1) := by decide +kernel
theorem dX9_isSmall_17 : decode cX9_isSmall 17 = .ok (.ireturn, 1) := by decide +kernel
theorem dX9_type_0 : decode cX9_type 0 = .ok (.aload_n 0, 1) := by decide +kernel
theorem dX9_type_1 : decode cX9_type 1 = .ok (.aload_n 0, 1) := by decide +kernel
theorem dX9_type_2 : decode cX9_type 2 = .ok (.getfield 89, 3) := by decide +kernel
theorem dX9_type_5 : decode cX9_type 5 = .ok (.bipush 60, 2) := by decide +kernel
theorem dX9_type_7 : decode cX9_type 7 = .ok (.if_icmp .ne 7, 3) := by decide +kernel
theorem dX9_type_10 : decode cX9_type 10 = .ok (.iconst 1, 1) := by decide +kernel
theorem dX9_type_11 : decode cX9_type 11 = .ok (.goto 4, 3) := by decide +kernel
theorem dX9_type_14 : decode cX9_type 14 = .ok (.iconst 0, 1) := by decide +kernel
theorem dX9_type_15 : decode cX9_type 15 = .ok (.invokevirtual 92, 3) := by decide +kernel
theorem dX9_type_18 : decode cX9_type 18 = .ok (.ifCond .ne 5, 3) := by decide +kernel
theorem dX9_type_21 : decode cX9_type 21 = .ok (.iconst 0, 1) := by decide +kernel
theorem dX9_type_22 : decode cX9_type 22 = .ok (.ireturn, 1) := by decide +kernel
theorem dX9_type_23 : decode cX9_type 23 = .ok (.aload_n 0, 1) := by decide +kernel
theorem dX9_type_24 : decode cX9_type 24 = .ok (.getfield 7, 3) := by decide +kernel
theorem dX9_type_27 : decode cX9_type 27 = .ok (.aload_n 0, 1) := by decide +kernel
theorem dX9_type_28 : decode cX9_type 28 = .ok (.getfield 89, 3) := by decide +kernel
theorem dX9_type_31 : decode cX9_type 31 = .ok (.iload_n 1, 1) := by decide +kernel
theorem dX9_type_32 : decode cX9_type 32 = .ok (.castore, 1) := by decide +kernel
theorem dX9_type_33 : decode cX9_type 33 = .ok (.aload_n 0, 1) := by decide +kernel
theorem dX9_type_34 : decode cX9_type 34 = .ok (.dup, 1) := by decide +kernel
theorem dX9_type_35 : decode cX9_type 35 = .ok (.getfield 89, 3) := by decide +kernel
theorem dX9_type_38 : decode cX9_type 38 = .ok (.iconst 1, 1) := by decide +kernel
theorem dX9_type_39 : decode cX9_type 39 = .ok (.iadd, 1) := by decide +kernel
theorem dX9_type_40 : decode cX9_type 40 = .ok (.putfield 89, 3) := by decide +kernel
theorem dX9_type_43 : decode cX9_type 43 = .ok (.aload_n 0, 1) := by decide +kernel
theorem dX9_type_44 : decode cX9_type 44 = .ok (.getfield 89, 3) := by decide +kernel
theorem dX9_type_47 : decode cX9_type 47 = .ok (.ireturn, 1) := by decide +kernel
theorem dX9_clear_0 : decode cX9_clear 0 = .ok (.aload_n 0, 1) := by decide +kernel
theorem dX9_clear_1 : decode cX9_clear 1 = .ok (.iconst 0, 1) := by decide +kernel
theorem dX9_clear_2 : decode cX9_clear 2 = .ok (.putfield 69, 3) := by decide +kernel
theorem dX9_clear_5 : decode cX9_clear 5 = .ok (.aload_n 0, 1) := by decide +kernel
theorem dX9_clear_6 : decode cX9_clear 6 = .ok (.getfield 89, 3) := by decide +kernel
theorem dX9_clear_9 : decode cX9_clear 9 = .ok (.istore_n 1, 1) := by decide +kernel
theorem dX9_clear_10 : decode cX9_clear 10 = .ok (.aload_n 0, 1) := by decide +kernel
theorem dX9_clear_11 : decode cX9_clear 11 = .ok (.iconst 0, 1) := by decide +kernel
theorem dX9_clear_12 : decode cX9_clear 12 = .ok (.putfield 89, 3) := by decide +kernel
theorem dX9_clear_15 : decode cX9_clear 15 = .ok (.iload_n 1, 1) := by decide +kernel
theorem dX9_clear_16 : decode cX9_clear 16 = .ok (.ireturn, 1) := by decide +kernel
theorem dX9_isAll_0 : decode cX9_isAll 0 = .ok (.aload_n 0, 1) := by decide +kernel
theorem dX9_isAll_1 : decode cX9_isAll 1 = .ok (.getfield 89, 3) := by decide +kernel
theorem dX9_isAll_4 : decode cX9_isAll 4 = .ok (.iload_n 1, 1) := by decide +kernel
theorem dX9_isAll_5 : decode cX9_isAll 5 = .ok (.if_icmp .lt 15, 3) := by decide +kernel
theorem dX9_isAll_8 : decode cX9_isAll 8 = .ok (.aload_n 0, 1) := by decide +kernel
theorem dX9_isAll_9 : decode cX9_isAll 9 = .ok (.getfield 89, 3) := by decide +kernel
theorem dX9_isAll_12 : decode cX9_isAll 12 = .ok (.iload_n 2, 1) := by decide +kernel
theorem dX9_isAll_13 : decode cX9_isAll 13 = .ok (.if_icmp .gt 7, 3) := by decide +kernel
theorem dX9_isAll_16 : decode cX9_isAll 16 = .ok (.iconst 1, 1) := by decide +kernel
theorem dX9_isAll_17 : decode cX9_isAll 17 = .ok (.goto 4, 3) := by decide +kernel
theorem dX9_isAll_20 : decode cX9_isAll 20 = .ok (.iconst 0, 1) := by decide +kernel
theorem dX9_isAll_21 : decode cX9_isAll 21 = .ok (.istore_n 3, 1) := by decide +kernel
theorem dX9_isAll_22 : decode cX9_isAll 22 = .ok (.iconst 0, 1) := by decide +kernel
theorem dX9_isAll_23 : decode cX9_isAll 23 = .ok (.istore 4, 2) := by decide +kernel
theorem dX9_isAll_25 : decode cX9_isAll 25 = .ok (.iload 4, 2) := by decide +kernel
theorem dX9_isAll_27 : decode cX9_isAll 27 = .ok (.aload_n 0, 1) := by decide +kernel
theorem dX9_isAll_28 : decode cX9_isAll 28 = .ok (.getfield 89, 3) := by decide +kernel
theorem dX9_isAll_31 : decode cX9_isAll 31 = .ok (.if_icmp .ge 32, 3) := by decide +kernel
theorem dX9_isAll_34 : decode cX9_isAll 34 = .ok (.iload_n 3, 1) := by decide +kernel
theorem dX9_isAll_35 : decode cX9_isAll 35 = .ok (.ifCond .eq 20, 3) := by decide +kernel
theorem dX9_isAll_38 : decode cX9_isAll 38 = .ok (.aload_n 0, 1) := by decide +kernel
theorem dX9_isAll_39 : decode cX9_isAll 39 = .ok (.getfield 7, 3) := by decide +kernel
theorem dX9_isAll_42 : decode cX9_isAll 42 = .ok (.iload 4, 2) := by decide +kernel
theorem dX9_isAll_44 : decode cX9_isAll 44 = .ok (.caload, 1) := by decide +kernel
theorem dX9_isAll_45 : decode cX9_isAll 45 = .ok (.invokestatic 96, 3) := by decide +kernel
theorem dX9_isAll_48 : decode cX9_isAll 48 = .ok (.ifCond .eq 7, 3) := by decide +kernel
theorem dX9_isAll_51 : decode cX9_isAll 51 = .ok (.iconst 1, 1) := by decide +kernel
theorem dX9_isAll_52 : decode cX9_isAll 52 = .ok (.goto 4, 3) := by decide +kernel
theorem dX9_isAll_55 : decode cX9_isAll 55 = .ok (.iconst 0, 1) := by decide +kernel
theorem dX9_isAll_56 : decode cX9_isAll 56 = .ok (.istore_n 3, 1) := by decide +kernel
theorem dX9_isAll_57 : decode cX9_isAll 57 = .ok (.iinc 4 1, 3) := by decide +kernel
theorem dX9_isAll_60 : decode cX9_isAll 60 = .ok (.goto (-35), 3) := by decide +kernel
theorem dX9_isAll_63 : decode cX9_isAll 63 = .ok (.iload_n 3, 1) := by decide +kernel
theorem dX9_isAll_64 : decode cX9_isAll 64 = .ok (.ireturn, 1) := by decide +kernel
theorem dX9_takes_0 : decode cX9_takes 0 = .ok (.iconst 0, 1) := by decide +kernel
theorem dX9_takes_1 : decode cX9_takes 1 = .ok (.istore_n 3, 1) := by decide +kernel
theorem dX9_takes_2 : decode cX9_takes 2 = .ok (.iload_n 3, 1) := by decide +kernel
theorem dX9_takes_3 : decode cX9_takes 3 = .ok (.aload_n 0, 1) := by decide +kernel
theorem dX9_takes_4 : decode cX9_takes 4 = .ok (.getfield 89, 3) := by decide +kernel
theorem dX9_takes_7 : decode cX9_takes 7 = .ok (.if_icmp .ge 20, 3) := by decide +kernel
theorem dX9_takes_10 : decode cX9_takes 10 = .ok (.aload_n 1, 1) := by decide +kernel
theorem dX9_takes_11 : decode cX9_takes 11 = .ok (.iload_n 2, 1) := by decide +kernel
theorem dX9_takes_12 : decode cX9_takes 12 = .ok (.iload_n 3, 1) := by decide +kernel
theorem dX9_takes_13 : decode cX9_takes 13 = .ok (.iadd, 1) := by decide +kernel
theorem dX9_takes_14 : decode cX9_takes 14 = .ok (.aload_n 0, 1) := by decide +kernel
theorem dX9_takes_15 : decode cX9_takes 15 = .ok (.getfield 7, 3) := by decide +kernel
theorem dX9_takes_18 : decode cX9_takes 18 = .ok (.iload_n 3, 1) := by decide +kernel
theorem dX9_takes_19 : decode cX9_takes 19 = .ok (.caload, 1) := by decide +kernel
theorem dX9_takes_20 : decode cX9_takes 20 = .ok (.castore, 1) := by decide +kernel
theorem dX9_takes_21 : decode cX9_takes 21 = .ok (.iinc 3 1, 3) := by decide +kernel
theorem dX9_takes_24 : decode cX9_takes 24 = .ok (.goto (-22), 3) := by decide +kernel
theorem dX9_takes_27 : decode cX9_takes 27 = .ok (.aload_n 0, 1) := by decide +kernel
theorem dX9_takes_28 : decode cX9_takes 28 = .ok (.getfield 89, 3) := by decide +kernel
theorem dX9_takes_31 : decode cX9_takes 31 = .ok (.istore_n 3, 1) := by decide +kernel
theorem dX9_takes_32 : decode cX9_takes 32 = .ok (.aload_n 0, 1) := by decide +kernel
theorem dX9_takes_33 : decode cX9_takes 33 = .ok (.iconst 0, 1) := by decide +kernel
theorem dX9_takes_34 : decode cX9_takes 34 = .ok (.putfield 89, 3) := by decide +kernel
theorem dX9_takes_37 : decode cX9_takes 37 = .ok (.iload_n 3, 1) := by decide +kernel
theorem dX9_takes_38 : decode cX9_takes 38 = .ok (.ireturn, 1) := by decide +kernel
theorem dX9_word_0 : decode cX9_word 0 = .ok (.aload_n 0, 1) := by decide +kernel
theorem dX9_word_1 : decode cX9_word 1 = .ok (.aload_n 0, 1) := by decide +kernel
theorem dX9_word_2 : decode cX9_word 2 = .ok (.iconst 1, 1) := by decide +kernel
theorem dX9_word_3 : decode cX9_word 3 = .ok (.bipush 10, 2) := by decide +kernel
theorem dX9_word_5 : decode cX9_word 5 = .ok (.invokevirtual 100, 3) := by decide +kernel
theorem dX9_word_8 : decode cX9_word 8 = .ok (.ifCond .eq 16, 3) := by decide +kernel
theorem dX9_word_11 : decode cX9_word 11 = .ok (.aload_n 0, 1) := by decide +kernel
theorem dX9_word_12 : decode cX9_word 12 = .ok (.getfield 77, 3) := by decide +kernel
theorem dX9_word_15 : decode cX9_word 15 = .ok (.bipush 12, 2) := by decide +kernel
theorem dX9_word_17 : decode cX9_word 17 = .ok (.if_icmp .ge 7, 3) := by decide +kernel
theorem dX9_word_20 : decode cX9_word 20 = .ok (.iconst 0, 1) := by decide +kernel
theorem dX9_word_21 : decode cX9_word 21 = .ok (.goto 4, 3) := by decide +kernel
theorem dX9_word_24 : decode cX9_word 24 = .ok (.iconst 1, 1) := by decide +kernel
theorem dX9_word_25 : decode cX9_word 25 = .ok (.invokevirtual 92, 3) := by decide +kernel
theorem dX9_word_28 : decode cX9_word 28 = .ok (.ifCond .ne 5, 3) := by decide +kernel
theorem dX9_word_31 : decode cX9_word 31 = .ok (.iconst 0, 1) := by decide +kernel
theorem dX9_word_32 : decode cX9_word 32 = .ok (.ireturn, 1) := by decide +kernel
theorem dX9_word_33 : decode cX9_word 33 = .ok (.aload_n 0, 1) := by decide +kernel
theorem dX9_word_34 : decode cX9_word 34 = .ok (.getfield 16, 3) := by decide +kernel
theorem dX9_word_37 : decode cX9_word 37 = .ok (.aload_n 0, 1) := by decide +kernel
theorem dX9_word_38 : decode cX9_word 38 = .ok (.getfield 77, 3) := by decide +kernel
theorem dX9_word_41 : decode cX9_word 41 = .ok (.aload_n 0, 1) := by decide +kernel
theorem dX9_word_42 : decode cX9_word 42 = .ok (.aload_n 0, 1) := by decide +kernel
theorem dX9_word_43 : decode cX9_word 43 = .ok (.getfield 13, 3) := by decide +kernel
theorem dX9_word_46 : decode cX9_word 46 = .ok (.bipush 10, 2) := by decide +kernel
theorem dX9_word_48 : decode cX9_word 48 = .ok (.aload_n 0, 1) := by decide +kernel
theorem dX9_word_49 : decode cX9_word 49 = .ok (.getfield 77, 3) := by decide +kernel
theorem dX9_word_52 : decode cX9_word 52 = .ok (.imul, 1) := by decide +kernel
theorem dX9_word_53 : decode cX9_word 53 = .ok (.invokevirtual 104, 3) := by decide +kernel
theorem dX9_word_56 : decode cX9_word 56 = .ok (.iastore, 1) := by decide +kernel
theorem dX9_word_57 : decode cX9_word 57 = .ok (.aload_n 0, 1) := by decide +kernel
theorem dX9_word_58 : decode cX9_word 58 = .ok (.dup, 1) := by decide +kernel
theorem dX9_word_59 : decode cX9_word 59 = .ok (.getfield 77, 3) := by decide +kernel
theorem dX9_word_62 : decode cX9_word 62 = .ok (.iconst 1, 1) := by decide +kernel
theorem dX9_word_63 : decode cX9_word 63 = .ok (.iadd, 1) := by decide +kernel
theorem dX9_word_64 : decode cX9_word 64 = .ok (.putfield 77, 3) := by decide +kernel
theorem dX9_word_67 : decode cX9_word 67 = .ok (.aload_n 0, 1) := by decide +kernel
theorem dX9_word_68 : decode cX9_word 68 = .ok (.getfield 77, 3) := by decide +kernel
theorem dX9_word_71 : decode cX9_word 71 = .ok (.iconst 1, 1) := by decide +kernel
theorem dX9_word_72 : decode cX9_word 72 = .ok (.isub, 1) := by decide +kernel
theorem dX9_word_73 : decode cX9_word 73 = .ok (.ireturn, 1) := by decide +kernel
theorem dX9_form_0 : decode cX9_form 0 = .ok (.iload_n 1, 1) := by decide +kernel
theorem dX9_form_1 : decode cX9_form 1 = .ok (.invokestatic 108, 3) := by decide +kernel
theorem dX9_form_4 : decode cX9_form 4 = .ok (.ifCond .eq 20, 3) := by decide +kernel
theorem dX9_form_7 : decode cX9_form 7 = .ok (.iload_n 2, 1) := by decide +kernel
theorem dX9_form_8 : decode cX9_form 8 = .ok (.iconst (-1), 1) := by decide +kernel
theorem dX9_form_9 : decode cX9_form 9 = .ok (.if_icmp .eq 11, 3) := by decide +kernel
theorem dX9_form_12 : decode cX9_form 12 = .ok (.aload_n 0, 1) := by decide +kernel
theorem dX9_form_13 : decode cX9_form 13 = .ok (.iload_n 2, 1) := by decide +kernel
theorem dX9_form_14 : decode cX9_form 14 = .ok (.invokevirtual 111, 3) := by decide +kernel
theorem dX9_form_17 : decode cX9_form 17 = .ok (.ifCond .eq 7, 3) := by decide +kernel
theorem dX9_form_20 : decode cX9_form 20 = .ok (.iconst 1, 1) := by decide +kernel
theorem dX9_form_21 : decode cX9_form 21 = .ok (.goto 4, 3) := by decide +kernel
theorem dX9_form_24 : decode cX9_form 24 = .ok (.iconst 0, 1) := by decide +kernel
theorem dX9_form_25 : decode cX9_form 25 = .ok (.istore 4, 2) := by decide +kernel
theorem dX9_form_27 : decode cX9_form 27 = .ok (.iload_n 2, 1) := by decide +kernel
theorem dX9_form_28 : decode cX9_form 28 = .ok (.iconst (-1), 1) := by decide +kernel
theorem dX9_form_29 : decode cX9_form 29 = .ok (.if_icmp .ne 12, 3) := by decide +kernel
theorem dX9_form_32 : decode cX9_form 32 = .ok (.aload_n 0, 1) := by decide +kernel
theorem dX9_form_33 : decode cX9_form 33 = .ok (.iconst 0, 1) := by decide +kernel
theorem dX9_form_34 : decode cX9_form 34 = .ok (.iconst 4, 1) := by decide +kernel
theorem dX9_form_35 : decode cX9_form 35 = .ok (.invokevirtual 100, 3) := by decide +kernel
theorem dX9_form_38 : decode cX9_form 38 = .ok (.goto 10, 3) := by decide +kernel
theorem dX9_form_41 : decode cX9_form 41 = .ok (.aload_n 0, 1) := by decide +kernel
theorem dX9_form_42 : decode cX9_form 42 = .ok (.iconst 1, 1) := by decide +kernel
theorem dX9_form_43 : decode cX9_form 43 = .ok (.bipush 10, 2) := by decide +kernel
theorem dX9_form_45 : decode cX9_form 45 = .ok (.invokevirtual 100, 3) := by decide +kernel
theorem dX9_form_48 : decode cX9_form 48 = .ok (.istore 5, 2) := by decide +kernel
theorem dX9_form_50 : decode cX9_form 50 = .ok (.aload_n 0, 1) := by decide +kernel
theorem dX9_form_51 : decode cX9_form 51 = .ok (.iload 4, 2) := by decide +kernel
theorem dX9_form_53 : decode cX9_form 53 = .ok (.ifCond .ne 7, 3) := by decide +kernel
theorem dX9_form_56 : decode cX9_form 56 = .ok (.iconst 1, 1) := by decide +kernel
theorem dX9_form_57 : decode cX9_form 57 = .ok (.goto 27, 3) := by decide +kernel
theorem dX9_form_60 : decode cX9_form 60 = .ok (.iload_n 3, 1) := by decide +kernel
theorem dX9_form_61 : decode cX9_form 61 = .ok (.iconst 0, 1) := by decide +kernel
theorem dX9_form_62 : decode cX9_form 62 = .ok (.bipush 7, 2) := by decide +kernel
theorem dX9_form_64 : decode cX9_form 64 = .ok (.invokestatic 73, 3) := by decide +kernel
theorem dX9_form_67 : decode cX9_form 67 = .ok (.ifCond .ne 7, 3) := by decide +kernel
theorem dX9_form_70 : decode cX9_form 70 = .ok (.iconst 2, 1) := by decide +kernel
theorem dX9_form_71 : decode cX9_form 71 = .ok (.goto 13, 3) := by decide +kernel
theorem dX9_form_74 : decode cX9_form 74 = .ok (.iload 5, 2) := by decide +kernel
theorem dX9_form_76 : decode cX9_form 76 = .ok (.ifCond .eq 7, 3) := by decide +kernel
theorem dX9_form_79 : decode cX9_form 79 = .ok (.iconst 0, 1) := by decide +kernel
theorem dX9_form_80 : decode cX9_form 80 = .ok (.goto 4, 3) := by decide +kernel
theorem dX9_form_83 : decode cX9_form 83 = .ok (.iconst 3, 1) := by decide +kernel
theorem dX9_form_84 : decode cX9_form 84 = .ok (.invokevirtual 92, 3) := by decide +kernel
theorem dX9_form_87 : decode cX9_form 87 = .ok (.ifCond .ne 5, 3) := by decide +kernel
theorem dX9_form_90 : decode cX9_form 90 = .ok (.iconst 0, 1) := by decide +kernel
theorem dX9_form_91 : decode cX9_form 91 = .ok (.ireturn, 1) := by decide +kernel
theorem dX9_form_92 : decode cX9_form 92 = .ok (.bipush 8, 2) := by decide +kernel
theorem dX9_form_94 : decode cX9_form 94 = .ok (.iload_n 1, 1) := by decide +kernel
theorem dX9_form_95 : decode cX9_form 95 = .ok (.imul, 1) := by decide +kernel
theorem dX9_form_96 : decode cX9_form 96 = .ok (.iload_n 3, 1) := by decide +kernel
theorem dX9_form_97 : decode cX9_form 97 = .ok (.iadd, 1) := by decide +kernel
theorem dX9_form_98 : decode cX9_form 98 = .ok (.istore 6, 2) := by decide +kernel
theorem dX9_form_100 : decode cX9_form 100 = .ok (.iload_n 2, 1) := by decide +kernel
theorem dX9_form_101 : decode cX9_form 101 = .ok (.iconst (-1), 1) := by decide +kernel
theorem dX9_form_102 : decode cX9_form 102 = .ok (.if_icmp .ne 30, 3) := by decide +kernel
theorem dX9_form_105 : decode cX9_form 105 = .ok (.aload_n 0, 1) := by decide +kernel
theorem dX9_form_106 : decode cX9_form 106 = .ok (.getfield 23, 3) := by decide +kernel
theorem dX9_form_109 : decode cX9_form 109 = .ok (.iload 6, 2) := by decide +kernel
theorem dX9_form_111 : decode cX9_form 111 = .ok (.aload_n 0, 1) := by decide +kernel
theorem dX9_form_112 : decode cX9_form 112 = .ok (.aload_n 0, 1) := by decide +kernel
theorem dX9_form_113 : decode cX9_form 113 = .ok (.getfield 20, 3) := by decide +kernel
theorem dX9_form_116 : decode cX9_form 116 = .ok (.iconst 4, 1) := by decide +kernel
theorem dX9_form_117 : decode cX9_form 117 = .ok (.iload 6, 2) := by decide +kernel
theorem dX9_form_119 : decode cX9_form 119 = .ok (.imul, 1) := by decide +kernel
theorem dX9_form_120 : decode cX9_form 120 = .ok (.invokevirtual 104, 3) := by decide +kernel
theorem dX9_form_123 : decode cX9_form 123 = .ok (.iastore, 1) := by decide +kernel
theorem dX9_form_124 : decode cX9_form 124 = .ok (.aload_n 0, 1) := by decide +kernel
theorem dX9_form_125 : decode cX9_form 125 = .ok (.getfield 23, 3) := by decide +kernel
theorem dX9_form_128 : decode cX9_form 128 = .ok (.iload 6, 2) := by decide +kernel
theorem dX9_form_130 : decode cX9_form 130 = .ok (.iaload, 1) := by decide +kernel
theorem dX9_form_131 : decode cX9_form 131 = .ok (.ireturn, 1) := by decide +kernel
theorem dX9_form_132 : decode cX9_form 132 = .ok (.bipush 24, 2) := by decide +kernel
theorem dX9_form_134 : decode cX9_form 134 = .ok (.iload_n 2, 1) := by decide +kernel
theorem dX9_form_135 : decode cX9_form 135 = .ok (.imul, 1) := by decide +kernel
theorem dX9_form_136 : decode cX9_form 136 = .ok (.iload 6, 2) := by decide +kernel
theorem dX9_form_138 : decode cX9_form 138 = .ok (.iadd, 1) := by decide +kernel
theorem dX9_form_139 : decode cX9_form 139 = .ok (.istore 7, 2) := by decide +kernel
theorem dX9_form_141 : decode cX9_form 141 = .ok (.aload_n 0, 1) := by decide +kernel
theorem dX9_form_142 : decode cX9_form 142 = .ok (.getfield 29, 3) := by decide +kernel
theorem dX9_form_145 : decode cX9_form 145 = .ok (.iload 7, 2) := by decide +kernel
theorem dX9_form_147 : decode cX9_form 147 = .ok (.aload_n 0, 1) := by decide +kernel
theorem dX9_form_148 : decode cX9_form 148 = .ok (.aload_n 0, 1) := by decide +kernel
theorem dX9_form_149 : decode cX9_form 149 = .ok (.getfield 26, 3) := by decide +kernel
theorem dX9_form_152 : decode cX9_form 152 = .ok (.bipush 10, 2) := by decide +kernel
theorem dX9_form_154 : decode cX9_form 154 = .ok (.iload 7, 2) := by decide +kernel
theorem dX9_form_156 : decode cX9_form 156 = .ok (.imul, 1) := by decide +kernel
theorem dX9_form_157 : decode cX9_form 157 = .ok (.invokevirtual 104, 3) := by decide +kernel
theorem dX9_form_160 : decode cX9_form 160 = .ok (.iastore, 1) := by decide +kernel
theorem dX9_form_161 : decode cX9_form 161 = .ok (.aload_n 0, 1) := by decide +kernel
theorem dX9_form_162 : decode cX9_form 162 = .ok (.getfield 29, 3) := by decide +kernel
theorem dX9_form_165 : decode cX9_form 165 = .ok (.iload 7, 2) := by decide +kernel
theorem dX9_form_167 : decode cX9_form 167 = .ok (.iaload, 1) := by decide +kernel
theorem dX9_form_168 : decode cX9_form 168 = .ok (.ireturn, 1) := by decide +kernel
theorem dX9_isVowel_0 : decode cX9_isVowel 0 = .ok (.iload_n 0, 1) := by decide +kernel
theorem dX9_isVowel_1 : decode cX9_isVowel 1 = .ok (.bipush 97, 2) := by decide +kernel
theorem dX9_isVowel_3 : decode cX9_isVowel 3 = .ok (.if_icmp .eq 27, 3) := by decide +kernel
theorem dX9_isVowel_6 : decode cX9_isVowel 6 = .ok (.iload_n 0, 1) := by decide +kernel
theorem dX9_isVowel_7 : decode cX9_isVowel 7 = .ok (.bipush 101, 2) := by decide +kernel
theorem dX9_isVowel_9 : decode cX9_isVowel 9 = .ok (.if_icmp .eq 21, 3) := by decide +kernel
theorem dX9_isVowel_12 : decode cX9_isVowel 12 = .ok (.iload_n 0, 1) := by decide +kernel
theorem dX9_isVowel_13 : decode cX9_isVowel 13 = .ok (.bipush 105, 2) := by decide +kernel
theorem dX9_isVowel_15 : decode cX9_isVowel 15 = .ok (.if_icmp .eq 15, 3) := by decide +kernel
theorem dX9_isVowel_18 : decode cX9_isVowel 18 = .ok (.iload_n 0, 1) := by decide +kernel
theorem dX9_isVowel_19 : decode cX9_isVowel 19 = .ok (.bipush 111, 2) := by decide +kernel
theorem dX9_isVowel_21 : decode cX9_isVowel 21 = .ok (.if_icmp .eq 9, 3) := by decide +kernel
theorem dX9_isVowel_24 : decode cX9_isVowel 24 = .ok (.iload_n 0, 1) := by decide +kernel
theorem dX9_isVowel_25 : decode cX9_isVowel 25 = .ok (.bipush 117, 2) := by decide +kernel
theorem dX9_isVowel_27 : decode cX9_isVowel 27 = .ok (.if_icmp .ne 7, 3) := by decide +kernel
theorem dX9_isVowel_30 : decode cX9_isVowel 30 = .ok (.iconst 1, 1) := by decide +kernel
theorem dX9_isVowel_31 : decode cX9_isVowel 31 = .ok (.goto 4, 3) := by decide +kernel
theorem dX9_isVowel_34 : decode cX9_isVowel 34 = .ok (.iconst 0, 1) := by decide +kernel
theorem dX9_isVowel_35 : decode cX9_isVowel 35 = .ok (.ireturn, 1) := by decide +kernel
theorem dX9_clause_0 : decode cX9_clause 0 = .ok (.aload_n 0, 1) := by decide +kernel
theorem dX9_clause_1 : decode cX9_clause 1 = .ok (.iload_n 1, 1) := by decide +kernel
theorem dX9_clause_2 : decode cX9_clause 2 = .ok (.iconst (-1), 1) := by decide +kernel
theorem dX9_clause_3 : decode cX9_clause 3 = .ok (.bipush 7, 2) := by decide +kernel
theorem dX9_clause_5 : decode cX9_clause 5 = .ok (.invokestatic 73, 3) := by decide +kernel
theorem dX9_clause_8 : decode cX9_clause 8 = .ok (.ifCond .ne 7, 3) := by decide +kernel
theorem dX9_clause_11 : decode cX9_clause 11 = .ok (.iconst 1, 1) := by decide +kernel
theorem dX9_clause_12 : decode cX9_clause 12 = .ok (.goto 17, 3) := by decide +kernel
theorem dX9_clause_15 : decode cX9_clause 15 = .ok (.aload_n 0, 1) := by decide +kernel
theorem dX9_clause_16 : decode cX9_clause 16 = .ok (.getfield 80, 3) := by decide +kernel
theorem dX9_clause_19 : decode cX9_clause 19 = .ok (.bipush 10, 2) := by decide +kernel
theorem dX9_clause_21 : decode cX9_clause 21 = .ok (.if_icmp .ne 7, 3) := by decide +kernel
theorem dX9_clause_24 : decode cX9_clause 24 = .ok (.iconst 2, 1) := by decide +kernel
theorem dX9_clause_25 : decode cX9_clause 25 = .ok (.goto 4, 3) := by decide +kernel
theorem dX9_clause_28 : decode cX9_clause 28 = .ok (.iconst 0, 1) := by decide +kernel
theorem dX9_clause_29 : decode cX9_clause 29 = .ok (.invokevirtual 92, 3) := by decide +kernel
theorem dX9_clause_32 : decode cX9_clause 32 = .ok (.ifCond .ne 5, 3) := by decide +kernel
theorem dX9_clause_35 : decode cX9_clause 35 = .ok (.iconst 0, 1) := by decide +kernel
theorem dX9_clause_36 : decode cX9_clause 36 = .ok (.ireturn, 1) := by decide +kernel
theorem dX9_clause_37 : decode cX9_clause 37 = .ok (.aload_n 0, 1) := by decide +kernel
theorem dX9_clause_38 : decode cX9_clause 38 = .ok (.getfield 32, 3) := by decide +kernel
theorem dX9_clause_41 : decode cX9_clause 41 = .ok (.aload_n 0, 1) := by decide +kernel
theorem dX9_clause_42 : decode cX9_clause 42 = .ok (.getfield 80, 3) := by decide +kernel
theorem dX9_clause_45 : decode cX9_clause 45 = .ok (.iload_n 1, 1) := by decide +kernel
theorem dX9_clause_46 : decode cX9_clause 46 = .ok (.iastore, 1) := by decide +kernel
theorem dX9_clause_47 : decode cX9_clause 47 = .ok (.aload_n 0, 1) := by decide +kernel
theorem dX9_clause_48 : decode cX9_clause 48 = .ok (.dup, 1) := by decide +kernel
theorem dX9_clause_49 : decode cX9_clause 49 = .ok (.getfield 80, 3) := by decide +kernel
theorem dX9_clause_52 : decode cX9_clause 52 = .ok (.iconst 1, 1) := by decide +kernel
theorem dX9_clause_53 : decode cX9_clause 53 = .ok (.iadd, 1) := by decide +kernel
theorem dX9_clause_54 : decode cX9_clause 54 = .ok (.putfield 80, 3) := by decide +kernel
theorem dX9_clause_57 : decode cX9_clause 57 = .ok (.aload_n 0, 1) := by decide +kernel
theorem dX9_clause_58 : decode cX9_clause 58 = .ok (.getfield 80, 3) := by decide +kernel
theorem dX9_clause_61 : decode cX9_clause 61 = .ok (.iconst 1, 1) := by decide +kernel
theorem dX9_clause_62 : decode cX9_clause 62 = .ok (.isub, 1) := by decide +kernel
theorem dX9_clause_63 : decode cX9_clause 63 = .ok (.ireturn, 1) := by decide +kernel
theorem dX9_isCase_0 : decode cX9_isCase 0 = .ok (.iload_n 0, 1) := by decide +kernel
theorem dX9_isCase_1 : decode cX9_isCase 1 = .ok (.bipush 110, 2) := by decide +kernel
theorem dX9_isCase_3 : decode cX9_isCase 3 = .ok (.if_icmp .eq 21, 3) := by decide +kernel
theorem dX9_isCase_6 : decode cX9_isCase 6 = .ok (.iload_n 0, 1) := by decide +kernel
theorem dX9_isCase_7 : decode cX9_isCase 7 = .ok (.bipush 103, 2) := by decide +kernel
theorem dX9_isCase_9 : decode cX9_isCase 9 = .ok (.if_icmp .eq 15, 3) := by decide +kernel
theorem dX9_isCase_12 : decode cX9_isCase 12 = .ok (.iload_n 0, 1) := by decide +kernel
theorem dX9_isCase_13 : decode cX9_isCase 13 = .ok (.bipush 100, 2) := by decide +kernel
theorem dX9_isCase_15 : decode cX9_isCase 15 = .ok (.if_icmp .eq 9, 3) := by decide +kernel
theorem dX9_isCase_18 : decode cX9_isCase 18 = .ok (.iload_n 0, 1) := by decide +kernel
theorem dX9_isCase_19 : decode cX9_isCase 19 = .ok (.bipush 97, 2) := by decide +kernel
theorem dX9_isCase_21 : decode cX9_isCase 21 = .ok (.if_icmp .ne 7, 3) := by decide +kernel
theorem dX9_isCase_24 : decode cX9_isCase 24 = .ok (.iconst 1, 1) := by decide +kernel
theorem dX9_isCase_25 : decode cX9_isCase 25 = .ok (.goto 4, 3) := by decide +kernel
theorem dX9_isCase_28 : decode cX9_isCase 28 = .ok (.iconst 0, 1) := by decide +kernel
theorem dX9_isCase_29 : decode cX9_isCase 29 = .ok (.ireturn, 1) := by decide +kernel
theorem dX9_behind_0 : decode cX9_behind 0 = .ok (.iload_n 0, 1) := by decide +kernel
theorem dX9_behind_1 : decode cX9_behind 1 = .ok (.ifCond .ne 36, 3) := by decide +kernel
theorem dX9_behind_4 : decode cX9_behind 4 = .ok (.iload_n 1, 1) := by decide +kernel
theorem dX9_behind_5 : decode cX9_behind 5 = .ok (.invokestatic 96, 3) := by decide +kernel
theorem dX9_behind_8 : decode cX9_behind 8 = .ok (.ifCond .ne 21, 3) := by decide +kernel
theorem dX9_behind_11 : decode cX9_behind 11 = .ok (.iload_n 1, 1) := by decide +kernel
theorem dX9_behind_12 : decode cX9_behind 12 = .ok (.bipush 32, 2) := by decide +kernel
theorem dX9_behind_14 : decode cX9_behind 14 = .ok (.if_icmp .eq 15, 3) := by decide +kernel
theorem dX9_behind_17 : decode cX9_behind 17 = .ok (.iload_n 1, 1) := by decide +kernel
theorem dX9_behind_18 : decode cX9_behind 18 = .ok (.bipush 46, 2) := by decide +kernel
theorem dX9_behind_20 : decode cX9_behind 20 = .ok (.if_icmp .eq 9, 3) := by decide +kernel
theorem dX9_behind_23 : decode cX9_behind 23 = .ok (.iload_n 1, 1) := by decide +kernel
theorem dX9_behind_24 : decode cX9_behind 24 = .ok (.bipush 91, 2) := by decide +kernel
theorem dX9_behind_26 : decode cX9_behind 26 = .ok (.if_icmp .ne 7, 3) := by decide +kernel
theorem dX9_behind_29 : decode cX9_behind 29 = .ok (.iconst 1, 1) := by decide +kernel
theorem dX9_behind_30 : decode cX9_behind 30 = .ok (.goto 80, 3) := by decide +kernel
theorem dX9_behind_33 : decode cX9_behind 33 = .ok (.iconst 0, 1) := by decide +kernel
theorem dX9_behind_34 : decode cX9_behind 34 = .ok (.goto 76, 3) := by decide +kernel
theorem dX9_behind_37 : decode cX9_behind 37 = .ok (.iload_n 0, 1) := by decide +kernel
theorem dX9_behind_38 : decode cX9_behind 38 = .ok (.iconst 1, 1) := by decide +kernel
theorem dX9_behind_39 : decode cX9_behind 39 = .ok (.if_icmp .ne 23, 3) := by decide +kernel
theorem dX9_behind_42 : decode cX9_behind 42 = .ok (.iload_n 1, 1) := by decide +kernel
theorem dX9_behind_43 : decode cX9_behind 43 = .ok (.bipush 48, 2) := by decide +kernel
theorem dX9_behind_45 : decode cX9_behind 45 = .ok (.if_icmp .lt 13, 3) := by decide +kernel
theorem dX9_behind_48 : decode cX9_behind 48 = .ok (.iload_n 1, 1) := by decide +kernel
theorem dX9_behind_49 : decode cX9_behind 49 = .ok (.bipush 53, 2) := by decide +kernel
theorem dX9_behind_51 : decode cX9_behind 51 = .ok (.if_icmp .ge 7, 3) := by decide +kernel
theorem dX9_behind_54 : decode cX9_behind 54 = .ok (.iconst 1, 1) := by decide +kernel
theorem dX9_behind_55 : decode cX9_behind 55 = .ok (.goto 55, 3) := by decide +kernel
theorem dX9_behind_58 : decode cX9_behind 58 = .ok (.iconst 0, 1) := by decide +kernel
theorem dX9_behind_59 : decode cX9_behind 59 = .ok (.goto 51, 3) := by decide +kernel
theorem dX9_behind_62 : decode cX9_behind 62 = .ok (.iload_n 0, 1) := by decide +kernel
theorem dX9_behind_63 : decode cX9_behind 63 = .ok (.iconst 2, 1) := by decide +kernel
theorem dX9_behind_64 : decode cX9_behind 64 = .ok (.if_icmp .ne 10, 3) := by decide +kernel
theorem dX9_behind_67 : decode cX9_behind 67 = .ok (.iload_n 1, 1) := by decide +kernel
theorem dX9_behind_68 : decode cX9_behind 68 = .ok (.invokestatic 114, 3) := by decide +kernel
theorem dX9_behind_71 : decode cX9_behind 71 = .ok (.goto 39, 3) := by decide +kernel
theorem dX9_behind_74 : decode cX9_behind 74 = .ok (.iload_n 0, 1) := by decide +kernel
theorem dX9_behind_75 : decode cX9_behind 75 = .ok (.iconst 3, 1) := by decide +kernel
theorem dX9_behind_76 : decode cX9_behind 76 = .ok (.if_icmp .ne 23, 3) := by decide +kernel
theorem dX9_behind_79 : decode cX9_behind 79 = .ok (.iload_n 1, 1) := by decide +kernel
theorem dX9_behind_80 : decode cX9_behind 80 = .ok (.bipush 115, 2) := by decide +kernel
theorem dX9_behind_82 : decode cX9_behind 82 = .ok (.if_icmp .eq 9, 3) := by decide +kernel
theorem dX9_behind_85 : decode cX9_behind 85 = .ok (.iload_n 1, 1) := by decide +kernel
theorem dX9_behind_86 : decode cX9_behind 86 = .ok (.bipush 112, 2) := by decide +kernel
theorem dX9_behind_88 : decode cX9_behind 88 = .ok (.if_icmp .ne 7, 3) := by decide +kernel
theorem dX9_behind_91 : decode cX9_behind 91 = .ok (.iconst 1, 1) := by decide +kernel
theorem dX9_behind_92 : decode cX9_behind 92 = .ok (.goto 18, 3) := by decide +kernel
theorem dX9_behind_95 : decode cX9_behind 95 = .ok (.iconst 0, 1) := by decide +kernel
theorem dX9_behind_96 : decode cX9_behind 96 = .ok (.goto 14, 3) := by decide +kernel
theorem dX9_behind_99 : decode cX9_behind 99 = .ok (.iload_n 1, 1) := by decide +kernel
theorem dX9_behind_100 : decode cX9_behind 100 = .ok (.bipush 93, 2) := by decide +kernel
theorem dX9_behind_102 : decode cX9_behind 102 = .ok (.if_icmp .ne 7, 3) := by decide +kernel
theorem dX9_behind_105 : decode cX9_behind 105 = .ok (.iconst 1, 1) := by decide +kernel
theorem dX9_behind_106 : decode cX9_behind 106 = .ok (.goto 4, 3) := by decide +kernel
theorem dX9_behind_109 : decode cX9_behind 109 = .ok (.iconst 0, 1) := by decide +kernel
theorem dX9_behind_110 : decode cX9_behind 110 = .ok (.istore_n 2, 1) := by decide +kernel
theorem dX9_behind_111 : decode cX9_behind 111 = .ok (.iload_n 2, 1) := by decide +kernel
theorem dX9_behind_112 : decode cX9_behind 112 = .ok (.ifCond .ne 7, 3) := by decide +kernel
theorem dX9_behind_115 : decode cX9_behind 115 = .ok (.iconst (-1), 1) := by decide +kernel
theorem dX9_behind_116 : decode cX9_behind 116 = .ok (.goto 26, 3) := by decide +kernel
theorem dX9_behind_119 : decode cX9_behind 119 = .ok (.iload_n 0, 1) := by decide +kernel
theorem dX9_behind_120 : decode cX9_behind 120 = .ok (.ifCond .ne 17, 3) := by decide +kernel
theorem dX9_behind_123 : decode cX9_behind 123 = .ok (.iload_n 1, 1) := by decide +kernel
theorem dX9_behind_124 : decode cX9_behind 124 = .ok (.bipush 91, 2) := by decide +kernel
theorem dX9_behind_126 : decode cX9_behind 126 = .ok (.if_icmp .ne 7, 3) := by decide +kernel
theorem dX9_behind_129 : decode cX9_behind 129 = .ok (.iconst 1, 1) := by decide +kernel
theorem dX9_behind_130 : decode cX9_behind 130 = .ok (.goto 12, 3) := by decide +kernel
theorem dX9_behind_133 : decode cX9_behind 133 = .ok (.iconst 0, 1) := by decide +kernel
theorem dX9_behind_134 : decode cX9_behind 134 = .ok (.goto 8, 3) := by decide +kernel
theorem dX9_behind_137 : decode cX9_behind 137 = .ok (.iload_n 0, 1) := by decide +kernel
theorem dX9_behind_138 : decode cX9_behind 138 = .ok (.iconst 1, 1) := by decide +kernel
theorem dX9_behind_139 : decode cX9_behind 139 = .ok (.iadd, 1) := by decide +kernel
theorem dX9_behind_140 : decode cX9_behind 140 = .ok (.iconst 5, 1) := by decide +kernel
theorem dX9_behind_141 : decode cX9_behind 141 = .ok (.irem, 1) := by decide +kernel
theorem dX9_behind_142 : decode cX9_behind 142 = .ok (.ireturn, 1) := by decide +kernel
theorem dX9_faultOfBuffer_0 : decode cX9_faultOfBuffer 0 = .ok (.iconst 0, 1) := by decide +kernel
theorem dX9_faultOfBuffer_1 : decode cX9_faultOfBuffer 1 = .ok (.istore_n 1, 1) := by decide +kernel
theorem dX9_faultOfBuffer_2 : decode cX9_faultOfBuffer 2 = .ok (.iconst 0, 1) := by decide +kernel
theorem dX9_faultOfBuffer_3 : decode cX9_faultOfBuffer 3 = .ok (.istore_n 2, 1) := by decide +kernel
theorem dX9_faultOfBuffer_4 : decode cX9_faultOfBuffer 4 = .ok (.iload_n 2, 1) := by decide +kernel
theorem dX9_faultOfBuffer_5 : decode cX9_faultOfBuffer 5 = .ok (.aload_n 0, 1) := by decide +kernel
theorem dX9_faultOfBuffer_6 : decode cX9_faultOfBuffer 6 = .ok (.getfield 89, 3) := by decide +kernel
theorem dX9_faultOfBuffer_9 : decode cX9_faultOfBuffer 9 = .ok (.if_icmp .ge 27, 3) := by decide +kernel
theorem dX9_faultOfBuffer_12 : decode cX9_faultOfBuffer 12 = .ok (.iload_n 1, 1) := by decide +kernel
theorem dX9_faultOfBuffer_13 : decode cX9_faultOfBuffer 13 = .ok (.aload_n 0, 1) := by decide +kernel
theorem dX9_faultOfBuffer_14 : decode cX9_faultOfBuffer 14 = .ok (.getfield 7, 3) := by decide +kernel
theorem dX9_faultOfBuffer_17 : decode cX9_faultOfBuffer 17 = .ok (.iload_n 2, 1) := by decide +kernel
theorem dX9_faultOfBuffer_18 : decode cX9_faultOfBuffer 18 = .ok (.caload, 1) := by decide +kernel
theorem dX9_faultOfBuffer_19 : decode cX9_faultOfBuffer 19 = .ok (.invokestatic 117, 3) := by decide +kernel
theorem dX9_faultOfBuffer_22 : decode cX9_faultOfBuffer 22 = .ok (.istore_n 1, 1) := by decide +kernel
theorem dX9_faultOfBuffer_23 : decode cX9_faultOfBuffer 23 = .ok (.iload_n 1, 1) := by decide +kernel
theorem dX9_faultOfBuffer_24 : decode cX9_faultOfBuffer 24 = .ok (.iconst (-1), 1) := by decide +kernel
theorem dX9_faultOfBuffer_25 : decode cX9_faultOfBuffer 25 = .ok (.if_icmp .ne 5, 3) := by decide +kernel
theorem dX9_faultOfBuffer_28 : decode cX9_faultOfBuffer 28 = .ok (.iload_n 2, 1) := by decide +kernel
theorem dX9_faultOfBuffer_29 : decode cX9_faultOfBuffer 29 = .ok (.ireturn, 1) := by decide +kernel
theorem dX9_faultOfBuffer_30 : decode cX9_faultOfBuffer 30 = .ok (.iinc 2 1, 3) := by decide +kernel
theorem dX9_faultOfBuffer_33 : decode cX9_faultOfBuffer 33 = .ok (.goto (-29), 3) := by decide +kernel
theorem dX9_faultOfBuffer_36 : decode cX9_faultOfBuffer 36 = .ok (.aload_n 0, 1) := by decide +kernel
theorem dX9_faultOfBuffer_37 : decode cX9_faultOfBuffer 37 = .ok (.getfield 89, 3) := by decide +kernel
theorem dX9_faultOfBuffer_40 : decode cX9_faultOfBuffer 40 = .ok (.ifCond .ne 7, 3) := by decide +kernel
theorem dX9_faultOfBuffer_43 : decode cX9_faultOfBuffer 43 = .ok (.iconst 0, 1) := by decide +kernel
theorem dX9_faultOfBuffer_44 : decode cX9_faultOfBuffer 44 = .ok (.goto 15, 3) := by decide +kernel
theorem dX9_faultOfBuffer_47 : decode cX9_faultOfBuffer 47 = .ok (.iload_n 1, 1) := by decide +kernel
theorem dX9_faultOfBuffer_48 : decode cX9_faultOfBuffer 48 = .ok (.ifCond .ne 7, 3) := by decide +kernel
theorem dX9_faultOfBuffer_51 : decode cX9_faultOfBuffer 51 = .ok (.iconst (-1), 1) := by decide +kernel
theorem dX9_faultOfBuffer_52 : decode cX9_faultOfBuffer 52 = .ok (.goto 7, 3) := by decide +kernel
theorem dX9_faultOfBuffer_55 : decode cX9_faultOfBuffer 55 = .ok (.aload_n 0, 1) := by decide +kernel
theorem dX9_faultOfBuffer_56 : decode cX9_faultOfBuffer 56 = .ok (.getfield 89, 3) := by decide +kernel
theorem dX9_faultOfBuffer_59 : decode cX9_faultOfBuffer 59 = .ok (.ireturn, 1) := by decide +kernel
theorem dX9_fault_0 : decode cX9_fault 0 = .ok (.aload_n 0, 1) := by decide +kernel
theorem dX9_fault_1 : decode cX9_fault 1 = .ok (.iconst 0, 1) := by decide +kernel
theorem dX9_fault_2 : decode cX9_fault 2 = .ok (.putfield 69, 3) := by decide +kernel
theorem dX9_fault_5 : decode cX9_fault 5 = .ok (.aload_n 0, 1) := by decide +kernel
theorem dX9_fault_6 : decode cX9_fault 6 = .ok (.invokevirtual 121, 3) := by decide +kernel
theorem dX9_fault_9 : decode cX9_fault 9 = .ok (.ireturn, 1) := by decide +kernel
theorem dX9_at_0 : decode cX9_at 0 = .ok (.iconst 3, 1) := by decide +kernel
theorem dX9_at_1 : decode cX9_at 1 = .ok (.iload_n 0, 1) := by decide +kernel
theorem dX9_at_2 : decode cX9_at 2 = .ok (.imul, 1) := by decide +kernel
theorem dX9_at_3 : decode cX9_at 3 = .ok (.iload_n 1, 1) := by decide +kernel
theorem dX9_at_4 : decode cX9_at 4 = .ok (.iadd, 1) := by decide +kernel
theorem dX9_at_5 : decode cX9_at 5 = .ok (.ireturn, 1) := by decide +kernel
theorem dX9_text_0 : decode cX9_text 0 = .ok (.aload_n 0, 1) := by decide +kernel
theorem dX9_text_1 : decode cX9_text 1 = .ok (.iload_n 1, 1) := by decide +kernel
theorem dX9_text_2 : decode cX9_text 2 = .ok (.invokevirtual 125, 3) := by decide +kernel
theorem dX9_text_5 : decode cX9_text 5 = .ok (.ifCond .eq 14, 3) := by decide +kernel
theorem dX9_text_8 : decode cX9_text 8 = .ok (.iload_n 2, 1) := by decide +kernel
theorem dX9_text_9 : decode cX9_text 9 = .ok (.invokestatic 108, 3) := by decide +kernel
theorem dX9_text_12 : decode cX9_text 12 = .ok (.ifCond .eq 7, 3) := by decide +kernel
theorem dX9_text_15 : decode cX9_text 15 = .ok (.iconst 1, 1) := by decide +kernel
theorem dX9_text_16 : decode cX9_text 16 = .ok (.goto 4, 3) := by decide +kernel
theorem dX9_text_19 : decode cX9_text 19 = .ok (.iconst 0, 1) := by decide +kernel
theorem dX9_text_20 : decode cX9_text 20 = .ok (.istore_n 3, 1) := by decide +kernel
theorem dX9_text_21 : decode cX9_text 21 = .ok (.aload_n 0, 1) := by decide +kernel
theorem dX9_text_22 : decode cX9_text 22 = .ok (.iload_n 3, 1) := by decide +kernel
theorem dX9_text_23 : decode cX9_text 23 = .ok (.ifCond .ne 7, 3) := by decide +kernel
theorem dX9_text_26 : decode cX9_text 26 = .ok (.iconst 1, 1) := by decide +kernel
theorem dX9_text_27 : decode cX9_text 27 = .ok (.goto 16, 3) := by decide +kernel
theorem dX9_text_30 : decode cX9_text 30 = .ok (.aload_n 0, 1) := by decide +kernel
theorem dX9_text_31 : decode cX9_text 31 = .ok (.invokevirtual 121, 3) := by decide +kernel
theorem dX9_text_34 : decode cX9_text 34 = .ok (.iconst (-1), 1) := by decide +kernel
theorem dX9_text_35 : decode cX9_text 35 = .ok (.if_icmp .eq 7, 3) := by decide +kernel
theorem dX9_text_38 : decode cX9_text 38 = .ok (.iconst 2, 1) := by decide +kernel
theorem dX9_text_39 : decode cX9_text 39 = .ok (.goto 4, 3) := by decide +kernel
theorem dX9_text_42 : decode cX9_text 42 = .ok (.iconst 0, 1) := by decide +kernel
theorem dX9_text_43 : decode cX9_text 43 = .ok (.invokevirtual 92, 3) := by decide +kernel
theorem dX9_text_46 : decode cX9_text 46 = .ok (.ifCond .ne 5, 3) := by decide +kernel
theorem dX9_text_49 : decode cX9_text 49 = .ok (.iconst 0, 1) := by decide +kernel
theorem dX9_text_50 : decode cX9_text 50 = .ok (.ireturn, 1) := by decide +kernel
theorem dX9_text_51 : decode cX9_text 51 = .ok (.iconst 0, 1) := by decide +kernel
theorem dX9_text_52 : decode cX9_text 52 = .ok (.istore 4, 2) := by decide +kernel
theorem dX9_text_54 : decode cX9_text 54 = .ok (.iconst 0, 1) := by decide +kernel
theorem dX9_text_55 : decode cX9_text 55 = .ok (.istore 5, 2) := by decide +kernel
theorem dX9_text_57 : decode cX9_text 57 = .ok (.iload 5, 2) := by decide +kernel
theorem dX9_text_59 : decode cX9_text 59 = .ok (.aload_n 0, 1) := by decide +kernel
theorem dX9_text_60 : decode cX9_text 60 = .ok (.getfield 89, 3) := by decide +kernel
theorem dX9_text_63 : decode cX9_text 63 = .ok (.if_icmp .ge 31, 3) := by decide +kernel
theorem dX9_text_66 : decode cX9_text 66 = .ok (.iload 4, 2) := by decide +kernel
theorem dX9_text_68 : decode cX9_text 68 = .ok (.aload_n 0, 1) := by decide +kernel
theorem dX9_text_69 : decode cX9_text 69 = .ok (.getfield 7, 3) := by decide +kernel
theorem dX9_text_72 : decode cX9_text 72 = .ok (.iload 5, 2) := by decide +kernel
theorem dX9_text_74 : decode cX9_text 74 = .ok (.caload, 1) := by decide +kernel
theorem dX9_text_75 : decode cX9_text 75 = .ok (.bipush 91, 2) := by decide +kernel
theorem dX9_text_77 : decode cX9_text 77 = .ok (.if_icmp .ne 7, 3) := by decide +kernel
theorem dX9_text_80 : decode cX9_text 80 = .ok (.iconst 1, 1) := by decide +kernel
theorem dX9_text_81 : decode cX9_text 81 = .ok (.goto 4, 3) := by decide +kernel
theorem dX9_text_84 : decode cX9_text 84 = .ok (.iconst 0, 1) := by decide +kernel
theorem dX9_text_85 : decode cX9_text 85 = .ok (.iadd, 1) := by decide +kernel
theorem dX9_text_86 : decode cX9_text 86 = .ok (.istore 4, 2) := by decide +kernel
theorem dX9_text_88 : decode cX9_text 88 = .ok (.iinc 5 1, 3) := by decide +kernel
theorem dX9_text_91 : decode cX9_text 91 = .ok (.goto (-34), 3) := by decide +kernel
theorem dX9_text_94 : decode cX9_text 94 = .ok (.iload_n 1, 1) := by decide +kernel
theorem dX9_text_95 : decode cX9_text 95 = .ok (.iload_n 2, 1) := by decide +kernel
theorem dX9_text_96 : decode cX9_text 96 = .ok (.invokestatic 128, 3) := by decide +kernel
theorem dX9_text_99 : decode cX9_text 99 = .ok (.istore 5, 2) := by decide +kernel
theorem dX9_text_101 : decode cX9_text 101 = .ok (.aload_n 0, 1) := by decide +kernel
theorem dX9_text_102 : decode cX9_text 102 = .ok (.getfield 38, 3) := by decide +kernel
theorem dX9_text_105 : decode cX9_text 105 = .ok (.iload 5, 2) := by decide +kernel
theorem dX9_text_107 : decode cX9_text 107 = .ok (.aload_n 0, 1) := by decide +kernel
theorem dX9_text_108 : decode cX9_text 108 = .ok (.aload_n 0, 1) := by decide +kernel
theorem dX9_text_109 : decode cX9_text 109 = .ok (.getfield 35, 3) := by decide +kernel
theorem dX9_text_112 : decode cX9_text 112 = .ok (.bipush 60, 2) := by decide +kernel
theorem dX9_text_114 : decode cX9_text 114 = .ok (.iload 5, 2) := by decide +kernel
theorem dX9_text_116 : decode cX9_text 116 = .ok (.imul, 1) := by decide +kernel
theorem dX9_text_117 : decode cX9_text 117 = .ok (.invokevirtual 104, 3) := by decide +kernel
theorem dX9_text_120 : decode cX9_text 120 = .ok (.iastore, 1) := by decide +kernel
theorem dX9_text_121 : decode cX9_text 121 = .ok (.aload_n 0, 1) := by decide +kernel
theorem dX9_text_122 : decode cX9_text 122 = .ok (.getfield 41, 3) := by decide +kernel
theorem dX9_text_125 : decode cX9_text 125 = .ok (.iload 5, 2) := by decide +kernel
theorem dX9_text_127 : decode cX9_text 127 = .ok (.iconst 0, 1) := by decide +kernel
theorem dX9_text_128 : decode cX9_text 128 = .ok (.bastore, 1) := by decide +kernel
theorem dX9_text_129 : decode cX9_text 129 = .ok (.iload 4, 2) := by decide +kernel
theorem dX9_text_131 : decode cX9_text 131 = .ok (.ireturn, 1) := by decide +kernel
theorem dX9_approve_0 : decode cX9_approve 0 = .ok (.aload_n 0, 1) := by decide +kernel
theorem dX9_approve_1 : decode cX9_approve 1 = .ok (.iload_n 1, 1) := by decide +kernel
theorem dX9_approve_2 : decode cX9_approve 2 = .ok (.invokevirtual 125, 3) := by decide +kernel
theorem dX9_approve_5 : decode cX9_approve 5 = .ok (.ifCond .eq 14, 3) := by decide +kernel
theorem dX9_approve_8 : decode cX9_approve 8 = .ok (.iload_n 2, 1) := by decide +kernel
theorem dX9_approve_9 : decode cX9_approve 9 = .ok (.invokestatic 108, 3) := by decide +kernel
theorem dX9_approve_12 : decode cX9_approve 12 = .ok (.ifCond .eq 7, 3) := by decide +kernel
theorem dX9_approve_15 : decode cX9_approve 15 = .ok (.iconst 1, 1) := by decide +kernel
theorem dX9_approve_16 : decode cX9_approve 16 = .ok (.goto 4, 3) := by decide +kernel
theorem dX9_approve_19 : decode cX9_approve 19 = .ok (.iconst 0, 1) := by decide +kernel
theorem dX9_approve_20 : decode cX9_approve 20 = .ok (.istore_n 3, 1) := by decide +kernel
theorem dX9_approve_21 : decode cX9_approve 21 = .ok (.aload_n 0, 1) := by decide +kernel
theorem dX9_approve_22 : decode cX9_approve 22 = .ok (.iload_n 3, 1) := by decide +kernel
theorem dX9_approve_23 : decode cX9_approve 23 = .ok (.ifCond .ne 7, 3) := by decide +kernel
theorem dX9_approve_26 : decode cX9_approve 26 = .ok (.iconst 1, 1) := by decide +kernel
theorem dX9_approve_27 : decode cX9_approve 27 = .ok (.goto 21, 3) := by decide +kernel
theorem dX9_approve_30 : decode cX9_approve 30 = .ok (.aload_n 0, 1) := by decide +kernel
theorem dX9_approve_31 : decode cX9_approve 31 = .ok (.getfield 38, 3) := by decide +kernel
theorem dX9_approve_34 : decode cX9_approve 34 = .ok (.iload_n 1, 1) := by decide +kernel
theorem dX9_approve_35 : decode cX9_approve 35 = .ok (.iload_n 2, 1) := by decide +kernel
theorem dX9_approve_36 : decode cX9_approve 36 = .ok (.invokestatic 128, 3) := by decide +kernel
theorem dX9_approve_39 : decode cX9_approve 39 = .ok (.iaload, 1) := by decide +kernel
theorem dX9_approve_40 : decode cX9_approve 40 = .ok (.ifCond .ne 7, 3) := by decide +kernel
theorem dX9_approve_43 : decode cX9_approve 43 = .ok (.iconst 2, 1) := by decide +kernel
theorem dX9_approve_44 : decode cX9_approve 44 = .ok (.goto 4, 3) := by decide +kernel
theorem dX9_approve_47 : decode cX9_approve 47 = .ok (.iconst 0, 1) := by decide +kernel
theorem dX9_approve_48 : decode cX9_approve 48 = .ok (.invokevirtual 92, 3) := by decide +kernel
theorem dX9_approve_51 : decode cX9_approve 51 = .ok (.ifCond .ne 5, 3) := by decide +kernel
theorem dX9_approve_54 : decode cX9_approve 54 = .ok (.iconst 0, 1) := by decide +kernel
theorem dX9_approve_55 : decode cX9_approve 55 = .ok (.ireturn, 1) := by decide +kernel
theorem dX9_approve_56 : decode cX9_approve 56 = .ok (.aload_n 0, 1) := by decide +kernel
theorem dX9_approve_57 : decode cX9_approve 57 = .ok (.getfield 41, 3) := by decide +kernel
theorem dX9_approve_60 : decode cX9_approve 60 = .ok (.iload_n 1, 1) := by decide +kernel
theorem dX9_approve_61 : decode cX9_approve 61 = .ok (.iload_n 2, 1) := by decide +kernel
theorem dX9_approve_62 : decode cX9_approve 62 = .ok (.invokestatic 128, 3) := by decide +kernel
theorem dX9_approve_65 : decode cX9_approve 65 = .ok (.baload, 1) := by decide +kernel
theorem dX9_approve_66 : decode cX9_approve 66 = .ok (.istore 4, 2) := by decide +kernel
theorem dX9_approve_68 : decode cX9_approve 68 = .ok (.aload_n 0, 1) := by decide +kernel
theorem dX9_approve_69 : decode cX9_approve 69 = .ok (.getfield 41, 3) := by decide +kernel
theorem dX9_approve_72 : decode cX9_approve 72 = .ok (.iload_n 1, 1) := by decide +kernel
theorem dX9_approve_73 : decode cX9_approve 73 = .ok (.iload_n 2, 1) := by decide +kernel
theorem dX9_approve_74 : decode cX9_approve 74 = .ok (.invokestatic 128, 3) := by decide +kernel
theorem dX9_approve_77 : decode cX9_approve 77 = .ok (.iconst 1, 1) := by decide +kernel
theorem dX9_approve_78 : decode cX9_approve 78 = .ok (.bastore, 1) := by decide +kernel
theorem dX9_approve_79 : decode cX9_approve 79 = .ok (.iload 4, 2) := by decide +kernel
theorem dX9_approve_81 : decode cX9_approve 81 = .ok (.ifCond .ne 7, 3) := by decide +kernel
theorem dX9_approve_84 : decode cX9_approve 84 = .ok (.iconst 1, 1) := by decide +kernel
theorem dX9_approve_85 : decode cX9_approve 85 = .ok (.goto 4, 3) := by decide +kernel
theorem dX9_approve_88 : decode cX9_approve 88 = .ok (.iconst 0, 1) := by decide +kernel
theorem dX9_approve_89 : decode cX9_approve 89 = .ok (.ireturn, 1) := by decide +kernel
theorem dX9_relate_0 : decode cX9_relate 0 = .ok (.aload_n 0, 1) := by decide +kernel
theorem dX9_relate_1 : decode cX9_relate 1 = .ok (.iload_n 1, 1) := by decide +kernel
theorem dX9_relate_2 : decode cX9_relate 2 = .ok (.invokevirtual 125, 3) := by decide +kernel
theorem dX9_relate_5 : decode cX9_relate 5 = .ok (.ifCond .eq 15, 3) := by decide +kernel
theorem dX9_relate_8 : decode cX9_relate 8 = .ok (.aload_n 0, 1) := by decide +kernel
theorem dX9_relate_9 : decode cX9_relate 9 = .ok (.iload_n 2, 1) := by decide +kernel
theorem dX9_relate_10 : decode cX9_relate 10 = .ok (.invokevirtual 125, 3) := by decide +kernel
theorem dX9_relate_13 : decode cX9_relate 13 = .ok (.ifCond .eq 7, 3) := by decide +kernel
theorem dX9_relate_16 : decode cX9_relate 16 = .ok (.iconst 1, 1) := by decide +kernel
theorem dX9_relate_17 : decode cX9_relate 17 = .ok (.goto 4, 3) := by decide +kernel
theorem dX9_relate_20 : decode cX9_relate 20 = .ok (.iconst 0, 1) := by decide +kernel
theorem dX9_relate_21 : decode cX9_relate 21 = .ok (.istore 5, 2) := by decide +kernel
theorem dX9_relate_23 : decode cX9_relate 23 = .ok (.iload_n 1, 1) := by decide +kernel
theorem dX9_relate_24 : decode cX9_relate 24 = .ok (.iload_n 2, 1) := by decide +kernel
theorem dX9_relate_25 : decode cX9_relate 25 = .ok (.if_icmp .eq 26, 3) := by decide +kernel
theorem dX9_relate_28 : decode cX9_relate 28 = .ok (.iload_n 3, 1) := by decide +kernel
theorem dX9_relate_29 : decode cX9_relate 29 = .ok (.iconst 0, 1) := by decide +kernel
theorem dX9_relate_30 : decode cX9_relate 30 = .ok (.iconst 3, 1) := by decide +kernel
theorem dX9_relate_31 : decode cX9_relate 31 = .ok (.invokestatic 73, 3) := by decide +kernel
theorem dX9_relate_34 : decode cX9_relate 34 = .ok (.ifCond .eq 17, 3) := by decide +kernel
theorem dX9_relate_37 : decode cX9_relate 37 = .ok (.iload 4, 2) := by decide +kernel
theorem dX9_relate_39 : decode cX9_relate 39 = .ok (.iconst 0, 1) := by decide +kernel
theorem dX9_relate_40 : decode cX9_relate 40 = .ok (.iconst 2, 1) := by decide +kernel
theorem dX9_relate_41 : decode cX9_relate 41 = .ok (.invokestatic 73, 3) := by decide +kernel
theorem dX9_relate_44 : decode cX9_relate 44 = .ok (.ifCond .eq 7, 3) := by decide +kernel
theorem dX9_relate_47 : decode cX9_relate 47 = .ok (.iconst 1, 1) := by decide +kernel
theorem dX9_relate_48 : decode cX9_relate 48 = .ok (.goto 4, 3) := by decide +kernel
theorem dX9_relate_51 : decode cX9_relate 51 = .ok (.iconst 0, 1) := by decide +kernel
theorem dX9_relate_52 : decode cX9_relate 52 = .ok (.istore 6, 2) := by decide +kernel
theorem dX9_relate_54 : decode cX9_relate 54 = .ok (.aload_n 0, 1) := by decide +kernel
theorem dX9_relate_55 : decode cX9_relate 55 = .ok (.iload 5, 2) := by decide +kernel
theorem dX9_relate_57 : decode cX9_relate 57 = .ok (.ifCond .ne 7, 3) := by decide +kernel
theorem dX9_relate_60 : decode cX9_relate 60 = .ok (.iconst 1, 1) := by decide +kernel
theorem dX9_relate_61 : decode cX9_relate 61 = .ok (.goto 13, 3) := by decide +kernel
theorem dX9_relate_64 : decode cX9_relate 64 = .ok (.iload 6, 2) := by decide +kernel
theorem dX9_relate_66 : decode cX9_relate 66 = .ok (.ifCond .eq 7, 3) := by decide +kernel
theorem dX9_relate_69 : decode cX9_relate 69 = .ok (.iconst 0, 1) := by decide +kernel
theorem dX9_relate_70 : decode cX9_relate 70 = .ok (.goto 4, 3) := by decide +kernel
theorem dX9_relate_73 : decode cX9_relate 73 = .ok (.iconst 2, 1) := by decide +kernel
theorem dX9_relate_74 : decode cX9_relate 74 = .ok (.invokevirtual 92, 3) := by decide +kernel
theorem dX9_relate_77 : decode cX9_relate 77 = .ok (.ifCond .ne 5, 3) := by decide +kernel
theorem dX9_relate_80 : decode cX9_relate 80 = .ok (.iconst 0, 1) := by decide +kernel
theorem dX9_relate_81 : decode cX9_relate 81 = .ok (.ireturn, 1) := by decide +kernel
theorem dX9_relate_82 : decode cX9_relate 82 = .ok (.bipush 10, 2) := by decide +kernel
theorem dX9_relate_84 : decode cX9_relate 84 = .ok (.bipush 10, 2) := by decide +kernel
theorem dX9_relate_86 : decode cX9_relate 86 = .ok (.iload_n 3, 1) := by decide +kernel
theorem dX9_relate_87 : decode cX9_relate 87 = .ok (.imul, 1) := by decide +kernel
theorem dX9_relate_88 : decode cX9_relate 88 = .ok (.iload_n 1, 1) := by decide +kernel
theorem dX9_relate_89 : decode cX9_relate 89 = .ok (.iadd, 1) := by decide +kernel
theorem dX9_relate_90 : decode cX9_relate 90 = .ok (.imul, 1) := by decide +kernel
theorem dX9_relate_91 : decode cX9_relate 91 = .ok (.iload_n 2, 1) := by decide +kernel
theorem dX9_relate_92 : decode cX9_relate 92 = .ok (.iadd, 1) := by decide +kernel
theorem dX9_relate_93 : decode cX9_relate 93 = .ok (.istore 7, 2) := by decide +kernel
theorem dX9_relate_95 : decode cX9_relate 95 = .ok (.aload_n 0, 1) := by decide +kernel
theorem dX9_relate_96 : decode cX9_relate 96 = .ok (.getfield 45, 3) := by decide +kernel
theorem dX9_relate_99 : decode cX9_relate 99 = .ok (.iload 7, 2) := by decide +kernel
theorem dX9_relate_101 : decode cX9_relate 101 = .ok (.iaload, 1) := by decide +kernel
theorem dX9_relate_102 : decode cX9_relate 102 = .ok (.istore 8, 2) := by decide +kernel
theorem dX9_relate_104 : decode cX9_relate 104 = .ok (.aload_n 0, 1) := by decide +kernel
theorem dX9_relate_105 : decode cX9_relate 105 = .ok (.getfield 45, 3) := by decide +kernel
theorem dX9_relate_108 : decode cX9_relate 108 = .ok (.iload 7, 2) := by decide +kernel
theorem dX9_relate_110 : decode cX9_relate 110 = .ok (.iload 4, 2) := by decide +kernel
theorem dX9_relate_112 : decode cX9_relate 112 = .ok (.iastore, 1) := by decide +kernel
theorem dX9_relate_113 : decode cX9_relate 113 = .ok (.iload 8, 2) := by decide +kernel
theorem dX9_relate_115 : decode cX9_relate 115 = .ok (.ireturn, 1) := by decide +kernel
theorem dX9_often_0 : decode cX9_often 0 = .ok (.iconst 0, 1) := by decide +kernel
theorem dX9_often_1 : decode cX9_often 1 = .ok (.istore_n 3, 1) := by decide +kernel
theorem dX9_often_2 : decode cX9_often 2 = .ok (.iconst 0, 1) := by decide +kernel
theorem dX9_often_3 : decode cX9_often 3 = .ok (.istore 4, 2) := by decide +kernel
theorem dX9_often_5 : decode cX9_often 5 = .ok (.iload 4, 2) := by decide +kernel
theorem dX9_often_7 : decode cX9_often 7 = .ok (.iconst 1, 1) := by decide +kernel
theorem dX9_often_8 : decode cX9_often 8 = .ok (.iadd, 1) := by decide +kernel
theorem dX9_often_9 : decode cX9_often 9 = .ok (.aload_n 0, 1) := by decide +kernel
theorem dX9_often_10 : decode cX9_often 10 = .ok (.getfield 38, 3) := by decide +kernel
theorem dX9_often_13 : decode cX9_often 13 = .ok (.iload_n 1, 1) := by decide +kernel
theorem dX9_often_14 : decode cX9_often 14 = .ok (.iaload, 1) := by decide +kernel
theorem dX9_often_15 : decode cX9_often 15 = .ok (.if_icmp .ge 55, 3) := by decide +kernel
theorem dX9_often_18 : decode cX9_often 18 = .ok (.iload_n 3, 1) := by decide +kernel
theorem dX9_often_19 : decode cX9_often 19 = .ok (.aload_n 0, 1) := by decide +kernel
theorem dX9_often_20 : decode cX9_often 20 = .ok (.getfield 35, 3) := by decide +kernel
theorem dX9_often_23 : decode cX9_often 23 = .ok (.bipush 60, 2) := by decide +kernel
theorem dX9_often_25 : decode cX9_often 25 = .ok (.iload_n 1, 1) := by decide +kernel
theorem dX9_often_26 : decode cX9_often 26 = .ok (.imul, 1) := by decide +kernel
theorem dX9_often_27 : decode cX9_often 27 = .ok (.iload 4, 2) := by decide +kernel
theorem dX9_often_29 : decode cX9_often 29 = .ok (.iadd, 1) := by decide +kernel
theorem dX9_often_30 : decode cX9_often 30 = .ok (.caload, 1) := by decide +kernel
theorem dX9_often_31 : decode cX9_often 31 = .ok (.bipush 91, 2) := by decide +kernel
theorem dX9_often_33 : decode cX9_often 33 = .ok (.if_icmp .ne 28, 3) := by decide +kernel
theorem dX9_often_36 : decode cX9_often 36 = .ok (.aload_n 0, 1) := by decide +kernel
theorem dX9_often_37 : decode cX9_often 37 = .ok (.getfield 35, 3) := by decide +kernel
theorem dX9_often_40 : decode cX9_often 40 = .ok (.bipush 60, 2) := by decide +kernel
theorem dX9_often_42 : decode cX9_often 42 = .ok (.iload_n 1, 1) := by decide +kernel
theorem dX9_often_43 : decode cX9_often 43 = .ok (.imul, 1) := by decide +kernel
theorem dX9_often_44 : decode cX9_often 44 = .ok (.iload 4, 2) := by decide +kernel
theorem dX9_often_46 : decode cX9_often 46 = .ok (.iadd, 1) := by decide +kernel
theorem dX9_often_47 : decode cX9_often 47 = .ok (.iconst 1, 1) := by decide +kernel
theorem dX9_often_48 : decode cX9_often 48 = .ok (.iadd, 1) := by decide +kernel
theorem dX9_often_49 : decode cX9_often 49 = .ok (.caload, 1) := by decide +kernel
theorem dX9_often_50 : decode cX9_often 50 = .ok (.bipush 48, 2) := by decide +kernel
theorem dX9_often_52 : decode cX9_often 52 = .ok (.iload_n 2, 1) := by decide +kernel
theorem dX9_often_53 : decode cX9_often 53 = .ok (.iadd, 1) := by decide +kernel
theorem dX9_often_54 : decode cX9_often 54 = .ok (.if_icmp .ne 7, 3) := by decide +kernel
theorem dX9_often_57 : decode cX9_often 57 = .ok (.iconst 1, 1) := by decide +kernel
theorem dX9_often_58 : decode cX9_often 58 = .ok (.goto 4, 3) := by decide +kernel
theorem dX9_often_61 : decode cX9_often 61 = .ok (.iconst 0, 1) := by decide +kernel
theorem dX9_often_62 : decode cX9_often 62 = .ok (.iadd, 1) := by decide +kernel
theorem dX9_often_63 : decode cX9_often 63 = .ok (.istore_n 3, 1) := by decide +kernel
theorem dX9_often_64 : decode cX9_often 64 = .ok (.iinc 4 1, 3) := by decide +kernel
theorem dX9_often_67 : decode cX9_often 67 = .ok (.goto (-62), 3) := by decide +kernel
theorem dX9_often_70 : decode cX9_often 70 = .ok (.iload_n 3, 1) := by decide +kernel
theorem dX9_often_71 : decode cX9_often 71 = .ok (.ireturn, 1) := by decide +kernel
theorem dX9_isLinked_0 : decode cX9_isLinked 0 = .ok (.aload_n 0, 1) := by decide +kernel
theorem dX9_isLinked_1 : decode cX9_isLinked 1 = .ok (.aload_n 0, 1) := by decide +kernel
theorem dX9_isLinked_2 : decode cX9_isLinked 2 = .ok (.iload_n 1, 1) := by decide +kernel
theorem dX9_isLinked_3 : decode cX9_isLinked 3 = .ok (.invokevirtual 125, 3) := by decide +kernel
theorem dX9_isLinked_6 : decode cX9_isLinked 6 = .ok (.ifCond .eq 7, 3) := by decide +kernel
theorem dX9_isLinked_9 : decode cX9_isLinked 9 = .ok (.iconst 0, 1) := by decide +kernel
theorem dX9_isLinked_10 : decode cX9_isLinked 10 = .ok (.goto 4, 3) := by decide +kernel
theorem dX9_isLinked_13 : decode cX9_isLinked 13 = .ok (.iconst 1, 1) := by decide +kernel
theorem dX9_isLinked_14 : decode cX9_isLinked 14 = .ok (.invokevirtual 92, 3) := by decide +kernel
theorem dX9_isLinked_17 : decode cX9_isLinked 17 = .ok (.ifCond .ne 5, 3) := by decide +kernel
theorem dX9_isLinked_20 : decode cX9_isLinked 20 = .ok (.iconst 0, 1) := by decide +kernel
theorem dX9_isLinked_21 : decode cX9_isLinked 21 = .ok (.ireturn, 1) := by decide +kernel
theorem dX9_isLinked_22 : decode cX9_isLinked 22 = .ok (.iconst 1, 1) := by decide +kernel
theorem dX9_isLinked_23 : decode cX9_isLinked 23 = .ok (.istore_n 2, 1) := by decide +kernel
theorem dX9_isLinked_24 : decode cX9_isLinked 24 = .ok (.iconst 0, 1) := by decide +kernel
theorem dX9_isLinked_25 : decode cX9_isLinked 25 = .ok (.istore_n 3, 1) := by decide +kernel
theorem dX9_isLinked_26 : decode cX9_isLinked 26 = .ok (.iload_n 3, 1) := by decide +kernel
theorem dX9_isLinked_27 : decode cX9_isLinked 27 = .ok (.bipush 45, 2) := by decide +kernel
theorem dX9_isLinked_29 : decode cX9_isLinked 29 = .ok (.if_icmp .ge 94, 3) := by decide +kernel
theorem dX9_isLinked_32 : decode cX9_isLinked 32 = .ok (.iload_n 1, 1) := by decide +kernel
theorem dX9_isLinked_33 : decode cX9_isLinked 33 = .ok (.iload_n 3, 1) := by decide +kernel
theorem dX9_isLinked_34 : decode cX9_isLinked 34 = .ok (.iconst 5, 1) := by decide +kernel
theorem dX9_isLinked_35 : decode cX9_isLinked 35 = .ok (.idiv, 1) := by decide +kernel
theorem dX9_isLinked_36 : decode cX9_isLinked 36 = .ok (.iconst 3, 1) := by decide +kernel
theorem dX9_isLinked_37 : decode cX9_isLinked 37 = .ok (.irem, 1) := by decide +kernel
theorem dX9_isLinked_38 : decode cX9_isLinked 38 = .ok (.invokestatic 128, 3) := by decide +kernel
theorem dX9_isLinked_41 : decode cX9_isLinked 41 = .ok (.istore 4, 2) := by decide +kernel
theorem dX9_isLinked_43 : decode cX9_isLinked 43 = .ok (.iload_n 1, 1) := by decide +kernel
theorem dX9_isLinked_44 : decode cX9_isLinked 44 = .ok (.iload_n 3, 1) := by decide +kernel
theorem dX9_isLinked_45 : decode cX9_isLinked 45 = .ok (.iconst 5, 1) := by decide +kernel
theorem dX9_isLinked_46 : decode cX9_isLinked 46 = .ok (.idiv, 1) := by decide +kernel
theorem dX9_isLinked_47 : decode cX9_isLinked 47 = .ok (.iconst 3, 1) := by decide +kernel
theorem dX9_isLinked_48 : decode cX9_isLinked 48 = .ok (.idiv, 1) := by decide +kernel
theorem dX9_isLinked_49 : decode cX9_isLinked 49 = .ok (.invokestatic 128, 3) := by decide +kernel
theorem dX9_isLinked_52 : decode cX9_isLinked 52 = .ok (.istore 5, 2) := by decide +kernel
theorem dX9_isLinked_54 : decode cX9_isLinked 54 = .ok (.aload_n 0, 1) := by decide +kernel
theorem dX9_isLinked_55 : decode cX9_isLinked 55 = .ok (.getfield 38, 3) := by decide +kernel
theorem dX9_isLinked_58 : decode cX9_isLinked 58 = .ok (.iload 4, 2) := by decide +kernel
theorem dX9_isLinked_60 : decode cX9_isLinked 60 = .ok (.iaload, 1) := by decide +kernel
end
section
theorem dX9_isLinked_61 : decode cX9_isLinked 61 = .ok (.ifCond .le 17, 3) := by decide +kernel
theorem dX9_isLinked_64 : decode cX9_isLinked 64 = .ok (.aload_n 0, 1) := by decide +kernel
theorem dX9_isLinked_65 : decode cX9_isLinked 65 = .ok (.getfield 38, 3) := by decide +kernel
theorem dX9_isLinked_68 : decode cX9_isLinked 68 = .ok (.iload 5, 2) := by decide +kernel
theorem dX9_isLinked_70 : decode cX9_isLinked 70 = .ok (.iaload, 1) := by decide +kernel
theorem dX9_isLinked_71 : decode cX9_isLinked 71 = .ok (.ifCond .le 7, 3) := by decide +kernel
theorem dX9_isLinked_74 : decode cX9_isLinked 74 = .ok (.iconst 1, 1) := by decide +kernel
theorem dX9_isLinked_75 : decode cX9_isLinked 75 = .ok (.goto 4, 3) := by decide +kernel
theorem dX9_isLinked_78 : decode cX9_isLinked 78 = .ok (.iconst 0, 1) := by decide +kernel
theorem dX9_isLinked_79 : decode cX9_isLinked 79 = .ok (.istore 6, 2) := by decide +kernel
theorem dX9_isLinked_81 : decode cX9_isLinked 81 = .ok (.iload_n 2, 1) := by decide +kernel
theorem dX9_isLinked_82 : decode cX9_isLinked 82 = .ok (.ifCond .eq 33, 3) := by decide +kernel
theorem dX9_isLinked_85 : decode cX9_isLinked 85 = .ok (.iload 6, 2) := by decide +kernel
theorem dX9_isLinked_87 : decode cX9_isLinked 87 = .ok (.ifCond .eq 24, 3) := by decide +kernel
theorem dX9_isLinked_90 : decode cX9_isLinked 90 = .ok (.aload_n 0, 1) := by decide +kernel
theorem dX9_isLinked_91 : decode cX9_isLinked 91 = .ok (.iload 4, 2) := by decide +kernel
theorem dX9_isLinked_93 : decode cX9_isLinked 93 = .ok (.iload_n 3, 1) := by decide +kernel
theorem dX9_isLinked_94 : decode cX9_isLinked 94 = .ok (.iconst 5, 1) := by decide +kernel
theorem dX9_isLinked_95 : decode cX9_isLinked 95 = .ok (.irem, 1) := by decide +kernel
theorem dX9_isLinked_96 : decode cX9_isLinked 96 = .ok (.invokevirtual 132, 3) := by decide +kernel
theorem dX9_isLinked_99 : decode cX9_isLinked 99 = .ok (.aload_n 0, 1) := by decide +kernel
theorem dX9_isLinked_100 : decode cX9_isLinked 100 = .ok (.iload 5, 2) := by decide +kernel
theorem dX9_isLinked_102 : decode cX9_isLinked 102 = .ok (.iload_n 3, 1) := by decide +kernel
theorem dX9_isLinked_103 : decode cX9_isLinked 103 = .ok (.iconst 5, 1) := by decide +kernel
theorem dX9_isLinked_104 : decode cX9_isLinked 104 = .ok (.irem, 1) := by decide +kernel
theorem dX9_isLinked_105 : decode cX9_isLinked 105 = .ok (.invokevirtual 132, 3) := by decide +kernel
theorem dX9_isLinked_108 : decode cX9_isLinked 108 = .ok (.if_icmp .ne 7, 3) := by decide +kernel
theorem dX9_isLinked_111 : decode cX9_isLinked 111 = .ok (.iconst 1, 1) := by decide +kernel
theorem dX9_isLinked_112 : decode cX9_isLinked 112 = .ok (.goto 4, 3) := by decide +kernel
theorem dX9_isLinked_115 : decode cX9_isLinked 115 = .ok (.iconst 0, 1) := by decide +kernel
theorem dX9_isLinked_116 : decode cX9_isLinked 116 = .ok (.istore_n 2, 1) := by decide +kernel
theorem dX9_isLinked_117 : decode cX9_isLinked 117 = .ok (.iinc 3 1, 3) := by decide +kernel
theorem dX9_isLinked_120 : decode cX9_isLinked 120 = .ok (.goto (-94), 3) := by decide +kernel
theorem dX9_isLinked_123 : decode cX9_isLinked 123 = .ok (.iload_n 2, 1) := by decide +kernel
theorem dX9_isLinked_124 : decode cX9_isLinked 124 = .ok (.ireturn, 1) := by decide +kernel
theorem dX9_letter_0 : decode cX9_letter 0 = .ok (.aload_n 0, 1) := by decide +kernel
theorem dX9_letter_1 : decode cX9_letter 1 = .ok (.aload_n 0, 1) := by decide +kernel
theorem dX9_letter_2 : decode cX9_letter 2 = .ok (.getfield 83, 3) := by decide +kernel
theorem dX9_letter_5 : decode cX9_letter 5 = .ok (.bipush 6, 2) := by decide +kernel
theorem dX9_letter_7 : decode cX9_letter 7 = .ok (.if_icmp .ne 7, 3) := by decide +kernel
theorem dX9_letter_10 : decode cX9_letter 10 = .ok (.iconst 1, 1) := by decide +kernel
theorem dX9_letter_11 : decode cX9_letter 11 = .ok (.goto 4, 3) := by decide +kernel
theorem dX9_letter_14 : decode cX9_letter 14 = .ok (.iconst 0, 1) := by decide +kernel
theorem dX9_letter_15 : decode cX9_letter 15 = .ok (.invokevirtual 92, 3) := by decide +kernel
theorem dX9_letter_18 : decode cX9_letter 18 = .ok (.ifCond .ne 5, 3) := by decide +kernel
theorem dX9_letter_21 : decode cX9_letter 21 = .ok (.iconst 0, 1) := by decide +kernel
theorem dX9_letter_22 : decode cX9_letter 22 = .ok (.ireturn, 1) := by decide +kernel
theorem dX9_letter_23 : decode cX9_letter 23 = .ok (.aload_n 0, 1) := by decide +kernel
theorem dX9_letter_24 : decode cX9_letter 24 = .ok (.dup, 1) := by decide +kernel
theorem dX9_letter_25 : decode cX9_letter 25 = .ok (.getfield 83, 3) := by decide +kernel
theorem dX9_letter_28 : decode cX9_letter 28 = .ok (.iconst 1, 1) := by decide +kernel
theorem dX9_letter_29 : decode cX9_letter 29 = .ok (.iadd, 1) := by decide +kernel
theorem dX9_letter_30 : decode cX9_letter 30 = .ok (.putfield 83, 3) := by decide +kernel
theorem dX9_letter_33 : decode cX9_letter 33 = .ok (.aload_n 0, 1) := by decide +kernel
theorem dX9_letter_34 : decode cX9_letter 34 = .ok (.getfield 83, 3) := by decide +kernel
theorem dX9_letter_37 : decode cX9_letter 37 = .ok (.iconst 1, 1) := by decide +kernel
theorem dX9_letter_38 : decode cX9_letter 38 = .ok (.isub, 1) := by decide +kernel
theorem dX9_letter_39 : decode cX9_letter 39 = .ok (.ireturn, 1) := by decide +kernel
theorem dX9_has_0 : decode cX9_has 0 = .ok (.iconst 0, 1) := by decide +kernel
theorem dX9_has_1 : decode cX9_has 1 = .ok (.istore_n 3, 1) := by decide +kernel
theorem dX9_has_2 : decode cX9_has 2 = .ok (.iconst 0, 1) := by decide +kernel
theorem dX9_has_3 : decode cX9_has 3 = .ok (.istore 4, 2) := by decide +kernel
theorem dX9_has_5 : decode cX9_has 5 = .ok (.iload 4, 2) := by decide +kernel
theorem dX9_has_7 : decode cX9_has 7 = .ok (.aload_n 0, 1) := by decide +kernel
theorem dX9_has_8 : decode cX9_has 8 = .ok (.getfield 51, 3) := by decide +kernel
theorem dX9_has_11 : decode cX9_has 11 = .ok (.iload_n 1, 1) := by decide +kernel
theorem dX9_has_12 : decode cX9_has 12 = .ok (.iaload, 1) := by decide +kernel
theorem dX9_has_13 : decode cX9_has 13 = .ok (.if_icmp .ge 35, 3) := by decide +kernel
theorem dX9_has_16 : decode cX9_has 16 = .ok (.iload_n 3, 1) := by decide +kernel
theorem dX9_has_17 : decode cX9_has 17 = .ok (.ifCond .ne 19, 3) := by decide +kernel
theorem dX9_has_20 : decode cX9_has 20 = .ok (.aload_n 0, 1) := by decide +kernel
theorem dX9_has_21 : decode cX9_has 21 = .ok (.getfield 48, 3) := by decide +kernel
theorem dX9_has_24 : decode cX9_has 24 = .ok (.bipush 6, 2) := by decide +kernel
theorem dX9_has_26 : decode cX9_has 26 = .ok (.iload_n 1, 1) := by decide +kernel
theorem dX9_has_27 : decode cX9_has 27 = .ok (.imul, 1) := by decide +kernel
theorem dX9_has_28 : decode cX9_has 28 = .ok (.iload 4, 2) := by decide +kernel
theorem dX9_has_30 : decode cX9_has 30 = .ok (.iadd, 1) := by decide +kernel
theorem dX9_has_31 : decode cX9_has 31 = .ok (.iaload, 1) := by decide +kernel
theorem dX9_has_32 : decode cX9_has 32 = .ok (.iload_n 2, 1) := by decide +kernel
theorem dX9_has_33 : decode cX9_has 33 = .ok (.if_icmp .ne 7, 3) := by decide +kernel
theorem dX9_has_36 : decode cX9_has 36 = .ok (.iconst 1, 1) := by decide +kernel
theorem dX9_has_37 : decode cX9_has 37 = .ok (.goto 4, 3) := by decide +kernel
theorem dX9_has_40 : decode cX9_has 40 = .ok (.iconst 0, 1) := by decide +kernel
theorem dX9_has_41 : decode cX9_has 41 = .ok (.istore_n 3, 1) := by decide +kernel
theorem dX9_has_42 : decode cX9_has 42 = .ok (.iinc 4 1, 3) := by decide +kernel
theorem dX9_has_45 : decode cX9_has 45 = .ok (.goto (-40), 3) := by decide +kernel
theorem dX9_has_48 : decode cX9_has 48 = .ok (.iload_n 3, 1) := by decide +kernel
theorem dX9_has_49 : decode cX9_has 49 = .ok (.ireturn, 1) := by decide +kernel
theorem dX9_put_0 : decode cX9_put 0 = .ok (.aload_n 0, 1) := by decide +kernel
theorem dX9_put_1 : decode cX9_put 1 = .ok (.iload_n 1, 1) := by decide +kernel
theorem dX9_put_2 : decode cX9_put 2 = .ok (.invokevirtual 135, 3) := by decide +kernel
theorem dX9_put_5 : decode cX9_put 5 = .ok (.ifCond .eq 15, 3) := by decide +kernel
theorem dX9_put_8 : decode cX9_put 8 = .ok (.aload_n 0, 1) := by decide +kernel
theorem dX9_put_9 : decode cX9_put 9 = .ok (.iload_n 2, 1) := by decide +kernel
theorem dX9_put_10 : decode cX9_put 10 = .ok (.invokevirtual 125, 3) := by decide +kernel
theorem dX9_put_13 : decode cX9_put 13 = .ok (.ifCond .eq 7, 3) := by decide +kernel
theorem dX9_put_16 : decode cX9_put 16 = .ok (.iconst 1, 1) := by decide +kernel
theorem dX9_put_17 : decode cX9_put 17 = .ok (.goto 4, 3) := by decide +kernel
theorem dX9_put_20 : decode cX9_put 20 = .ok (.iconst 0, 1) := by decide +kernel
theorem dX9_put_21 : decode cX9_put 21 = .ok (.istore_n 3, 1) := by decide +kernel
theorem dX9_put_22 : decode cX9_put 22 = .ok (.aload_n 0, 1) := by decide +kernel
theorem dX9_put_23 : decode cX9_put 23 = .ok (.iload_n 3, 1) := by decide +kernel
theorem dX9_put_24 : decode cX9_put 24 = .ok (.ifCond .ne 7, 3) := by decide +kernel
theorem dX9_put_27 : decode cX9_put 27 = .ok (.iconst 1, 1) := by decide +kernel
theorem dX9_put_28 : decode cX9_put 28 = .ok (.goto 28, 3) := by decide +kernel
theorem dX9_put_31 : decode cX9_put 31 = .ok (.aload_n 0, 1) := by decide +kernel
theorem dX9_put_32 : decode cX9_put 32 = .ok (.iload_n 1, 1) := by decide +kernel
theorem dX9_put_33 : decode cX9_put 33 = .ok (.iload_n 2, 1) := by decide +kernel
theorem dX9_put_34 : decode cX9_put 34 = .ok (.invokevirtual 138, 3) := by decide +kernel
theorem dX9_put_37 : decode cX9_put 37 = .ok (.ifCond .ne 14, 3) := by decide +kernel
theorem dX9_put_40 : decode cX9_put 40 = .ok (.aload_n 0, 1) := by decide +kernel
theorem dX9_put_41 : decode cX9_put 41 = .ok (.getfield 51, 3) := by decide +kernel
theorem dX9_put_44 : decode cX9_put 44 = .ok (.iload_n 1, 1) := by decide +kernel
theorem dX9_put_45 : decode cX9_put 45 = .ok (.iaload, 1) := by decide +kernel
theorem dX9_put_46 : decode cX9_put 46 = .ok (.bipush 6, 2) := by decide +kernel
theorem dX9_put_48 : decode cX9_put 48 = .ok (.if_icmp .ne 7, 3) := by decide +kernel
theorem dX9_put_51 : decode cX9_put 51 = .ok (.iconst 2, 1) := by decide +kernel
theorem dX9_put_52 : decode cX9_put 52 = .ok (.goto 4, 3) := by decide +kernel
theorem dX9_put_55 : decode cX9_put 55 = .ok (.iconst 0, 1) := by decide +kernel
theorem dX9_put_56 : decode cX9_put 56 = .ok (.invokevirtual 92, 3) := by decide +kernel
theorem dX9_put_59 : decode cX9_put 59 = .ok (.ifCond .ne 5, 3) := by decide +kernel
theorem dX9_put_62 : decode cX9_put 62 = .ok (.iconst 0, 1) := by decide +kernel
theorem dX9_put_63 : decode cX9_put 63 = .ok (.ireturn, 1) := by decide +kernel
theorem dX9_put_64 : decode cX9_put 64 = .ok (.aload_n 0, 1) := by decide +kernel
theorem dX9_put_65 : decode cX9_put 65 = .ok (.getfield 48, 3) := by decide +kernel
theorem dX9_put_68 : decode cX9_put 68 = .ok (.bipush 6, 2) := by decide +kernel
theorem dX9_put_70 : decode cX9_put 70 = .ok (.iload_n 1, 1) := by decide +kernel
theorem dX9_put_71 : decode cX9_put 71 = .ok (.imul, 1) := by decide +kernel
theorem dX9_put_72 : decode cX9_put 72 = .ok (.aload_n 0, 1) := by decide +kernel
theorem dX9_put_73 : decode cX9_put 73 = .ok (.getfield 51, 3) := by decide +kernel
theorem dX9_put_76 : decode cX9_put 76 = .ok (.iload_n 1, 1) := by decide +kernel
theorem dX9_put_77 : decode cX9_put 77 = .ok (.iaload, 1) := by decide +kernel
theorem dX9_put_78 : decode cX9_put 78 = .ok (.iadd, 1) := by decide +kernel
theorem dX9_put_79 : decode cX9_put 79 = .ok (.iload_n 2, 1) := by decide +kernel
theorem dX9_put_80 : decode cX9_put 80 = .ok (.iastore, 1) := by decide +kernel
theorem dX9_put_81 : decode cX9_put 81 = .ok (.aload_n 0, 1) := by decide +kernel
theorem dX9_put_82 : decode cX9_put 82 = .ok (.getfield 51, 3) := by decide +kernel
theorem dX9_put_85 : decode cX9_put 85 = .ok (.iload_n 1, 1) := by decide +kernel
theorem dX9_put_86 : decode cX9_put 86 = .ok (.dup2, 1) := by decide +kernel
theorem dX9_put_87 : decode cX9_put 87 = .ok (.iaload, 1) := by decide +kernel
theorem dX9_put_88 : decode cX9_put 88 = .ok (.iconst 1, 1) := by decide +kernel
theorem dX9_put_89 : decode cX9_put 89 = .ok (.iadd, 1) := by decide +kernel
theorem dX9_put_90 : decode cX9_put 90 = .ok (.iastore, 1) := by decide +kernel
theorem dX9_put_91 : decode cX9_put 91 = .ok (.aload_n 0, 1) := by decide +kernel
theorem dX9_put_92 : decode cX9_put 92 = .ok (.getfield 51, 3) := by decide +kernel
theorem dX9_put_95 : decode cX9_put 95 = .ok (.iload_n 1, 1) := by decide +kernel
theorem dX9_put_96 : decode cX9_put 96 = .ok (.iaload, 1) := by decide +kernel
theorem dX9_put_97 : decode cX9_put 97 = .ok (.ireturn, 1) := by decide +kernel
theorem dX9_data_0 : decode cX9_data 0 = .ok (.aload_n 0, 1) := by decide +kernel
theorem dX9_data_1 : decode cX9_data 1 = .ok (.aload_n 0, 1) := by decide +kernel
theorem dX9_data_2 : decode cX9_data 2 = .ok (.iload_n 1, 1) := by decide +kernel
theorem dX9_data_3 : decode cX9_data 3 = .ok (.invokevirtual 111, 3) := by decide +kernel
theorem dX9_data_6 : decode cX9_data 6 = .ok (.ifCond .ne 7, 3) := by decide +kernel
theorem dX9_data_9 : decode cX9_data 9 = .ok (.iconst 1, 1) := by decide +kernel
theorem dX9_data_10 : decode cX9_data 10 = .ok (.goto 32, 3) := by decide +kernel
theorem dX9_data_13 : decode cX9_data 13 = .ok (.iload_n 2, 1) := by decide +kernel
theorem dX9_data_14 : decode cX9_data 14 = .ok (.iconst 0, 1) := by decide +kernel
theorem dX9_data_15 : decode cX9_data 15 = .ok (.sipush 255, 3) := by decide +kernel
theorem dX9_data_18 : decode cX9_data 18 = .ok (.invokestatic 73, 3) := by decide +kernel
theorem dX9_data_21 : decode cX9_data 21 = .ok (.ifCond .ne 7, 3) := by decide +kernel
theorem dX9_data_24 : decode cX9_data 24 = .ok (.iconst 2, 1) := by decide +kernel
theorem dX9_data_25 : decode cX9_data 25 = .ok (.goto 17, 3) := by decide +kernel
theorem dX9_data_28 : decode cX9_data 28 = .ok (.aload_n 0, 1) := by decide +kernel
theorem dX9_data_29 : decode cX9_data 29 = .ok (.getfield 86, 3) := by decide +kernel
theorem dX9_data_32 : decode cX9_data 32 = .ok (.bipush 8, 2) := by decide +kernel
theorem dX9_data_34 : decode cX9_data 34 = .ok (.if_icmp .ne 7, 3) := by decide +kernel
theorem dX9_data_37 : decode cX9_data 37 = .ok (.iconst 3, 1) := by decide +kernel
theorem dX9_data_38 : decode cX9_data 38 = .ok (.goto 4, 3) := by decide +kernel
theorem dX9_data_41 : decode cX9_data 41 = .ok (.iconst 0, 1) := by decide +kernel
theorem dX9_data_42 : decode cX9_data 42 = .ok (.invokevirtual 92, 3) := by decide +kernel
theorem dX9_data_45 : decode cX9_data 45 = .ok (.ifCond .ne 5, 3) := by decide +kernel
theorem dX9_data_48 : decode cX9_data 48 = .ok (.iconst 0, 1) := by decide +kernel
theorem dX9_data_49 : decode cX9_data 49 = .ok (.ireturn, 1) := by decide +kernel
theorem dX9_data_50 : decode cX9_data 50 = .ok (.iconst 0, 1) := by decide +kernel
theorem dX9_data_51 : decode cX9_data 51 = .ok (.istore_n 3, 1) := by decide +kernel
theorem dX9_data_52 : decode cX9_data 52 = .ok (.iload_n 3, 1) := by decide +kernel
theorem dX9_data_53 : decode cX9_data 53 = .ok (.iconst 5, 1) := by decide +kernel
theorem dX9_data_54 : decode cX9_data 54 = .ok (.if_icmp .ge 23, 3) := by decide +kernel
theorem dX9_data_57 : decode cX9_data 57 = .ok (.aload_n 0, 1) := by decide +kernel
theorem dX9_data_58 : decode cX9_data 58 = .ok (.getfield 54, 3) := by decide +kernel
theorem dX9_data_61 : decode cX9_data 61 = .ok (.iconst 5, 1) := by decide +kernel
theorem dX9_data_62 : decode cX9_data 62 = .ok (.aload_n 0, 1) := by decide +kernel
theorem dX9_data_63 : decode cX9_data 63 = .ok (.getfield 86, 3) := by decide +kernel
theorem dX9_data_66 : decode cX9_data 66 = .ok (.imul, 1) := by decide +kernel
theorem dX9_data_67 : decode cX9_data 67 = .ok (.iload_n 3, 1) := by decide +kernel
theorem dX9_data_68 : decode cX9_data 68 = .ok (.iadd, 1) := by decide +kernel
theorem dX9_data_69 : decode cX9_data 69 = .ok (.iload_n 1, 1) := by decide +kernel
theorem dX9_data_70 : decode cX9_data 70 = .ok (.iastore, 1) := by decide +kernel
theorem dX9_data_71 : decode cX9_data 71 = .ok (.iinc 3 1, 3) := by decide +kernel
theorem dX9_data_74 : decode cX9_data 74 = .ok (.goto (-22), 3) := by decide +kernel
theorem dX9_data_77 : decode cX9_data 77 = .ok (.aload_n 0, 1) := by decide +kernel
theorem dX9_data_78 : decode cX9_data 78 = .ok (.getfield 57, 3) := by decide +kernel
theorem dX9_data_81 : decode cX9_data 81 = .ok (.aload_n 0, 1) := by decide +kernel
theorem dX9_data_82 : decode cX9_data 82 = .ok (.getfield 86, 3) := by decide +kernel
theorem dX9_data_85 : decode cX9_data 85 = .ok (.iload_n 2, 1) := by decide +kernel
theorem dX9_data_86 : decode cX9_data 86 = .ok (.iastore, 1) := by decide +kernel
theorem dX9_data_87 : decode cX9_data 87 = .ok (.aload_n 0, 1) := by decide +kernel
theorem dX9_data_88 : decode cX9_data 88 = .ok (.dup, 1) := by decide +kernel
theorem dX9_data_89 : decode cX9_data 89 = .ok (.getfield 86, 3) := by decide +kernel
theorem dX9_data_92 : decode cX9_data 92 = .ok (.iconst 1, 1) := by decide +kernel
theorem dX9_data_93 : decode cX9_data 93 = .ok (.iadd, 1) := by decide +kernel
theorem dX9_data_94 : decode cX9_data 94 = .ok (.putfield 86, 3) := by decide +kernel
theorem dX9_data_97 : decode cX9_data 97 = .ok (.aload_n 0, 1) := by decide +kernel
theorem dX9_data_98 : decode cX9_data 98 = .ok (.getfield 86, 3) := by decide +kernel
theorem dX9_data_101 : decode cX9_data 101 = .ok (.iconst 1, 1) := by decide +kernel
theorem dX9_data_102 : decode cX9_data 102 = .ok (.isub, 1) := by decide +kernel
theorem dX9_data_103 : decode cX9_data 103 = .ok (.ireturn, 1) := by decide +kernel
theorem dX9_fill_0 : decode cX9_fill 0 = .ok (.aload_n 0, 1) := by decide +kernel
theorem dX9_fill_1 : decode cX9_fill 1 = .ok (.iload_n 1, 1) := by decide +kernel
theorem dX9_fill_2 : decode cX9_fill 2 = .ok (.invokevirtual 141, 3) := by decide +kernel
theorem dX9_fill_5 : decode cX9_fill 5 = .ok (.ifCond .eq 24, 3) := by decide +kernel
theorem dX9_fill_8 : decode cX9_fill 8 = .ok (.iload_n 2, 1) := by decide +kernel
theorem dX9_fill_9 : decode cX9_fill 9 = .ok (.iconst 0, 1) := by decide +kernel
theorem dX9_fill_10 : decode cX9_fill 10 = .ok (.iconst 4, 1) := by decide +kernel
theorem dX9_fill_11 : decode cX9_fill 11 = .ok (.invokestatic 73, 3) := by decide +kernel
theorem dX9_fill_14 : decode cX9_fill 14 = .ok (.ifCond .eq 15, 3) := by decide +kernel
theorem dX9_fill_17 : decode cX9_fill 17 = .ok (.aload_n 0, 1) := by decide +kernel
theorem dX9_fill_18 : decode cX9_fill 18 = .ok (.iload_n 3, 1) := by decide +kernel
theorem dX9_fill_19 : decode cX9_fill 19 = .ok (.invokevirtual 111, 3) := by decide +kernel
theorem dX9_fill_22 : decode cX9_fill 22 = .ok (.ifCond .eq 7, 3) := by decide +kernel
theorem dX9_fill_25 : decode cX9_fill 25 = .ok (.iconst 1, 1) := by decide +kernel
theorem dX9_fill_26 : decode cX9_fill 26 = .ok (.goto 4, 3) := by decide +kernel
theorem dX9_fill_29 : decode cX9_fill 29 = .ok (.iconst 0, 1) := by decide +kernel
theorem dX9_fill_30 : decode cX9_fill 30 = .ok (.istore 4, 2) := by decide +kernel
theorem dX9_fill_32 : decode cX9_fill 32 = .ok (.aload_n 0, 1) := by decide +kernel
theorem dX9_fill_33 : decode cX9_fill 33 = .ok (.iload 4, 2) := by decide +kernel
theorem dX9_fill_35 : decode cX9_fill 35 = .ok (.ifCond .eq 7, 3) := by decide +kernel
theorem dX9_fill_38 : decode cX9_fill 38 = .ok (.iconst 0, 1) := by decide +kernel
theorem dX9_fill_39 : decode cX9_fill 39 = .ok (.goto 4, 3) := by decide +kernel
theorem dX9_fill_42 : decode cX9_fill 42 = .ok (.iconst 1, 1) := by decide +kernel
theorem dX9_fill_43 : decode cX9_fill 43 = .ok (.invokevirtual 92, 3) := by decide +kernel
theorem dX9_fill_46 : decode cX9_fill 46 = .ok (.ifCond .ne 5, 3) := by decide +kernel
theorem dX9_fill_49 : decode cX9_fill 49 = .ok (.iconst 0, 1) := by decide +kernel
theorem dX9_fill_50 : decode cX9_fill 50 = .ok (.ireturn, 1) := by decide +kernel
theorem dX9_fill_51 : decode cX9_fill 51 = .ok (.aload_n 0, 1) := by decide +kernel
theorem dX9_fill_52 : decode cX9_fill 52 = .ok (.getfield 54, 3) := by decide +kernel
theorem dX9_fill_55 : decode cX9_fill 55 = .ok (.iconst 5, 1) := by decide +kernel
theorem dX9_fill_56 : decode cX9_fill 56 = .ok (.iload_n 1, 1) := by decide +kernel
theorem dX9_fill_57 : decode cX9_fill 57 = .ok (.imul, 1) := by decide +kernel
theorem dX9_fill_58 : decode cX9_fill 58 = .ok (.iload_n 2, 1) := by decide +kernel
theorem dX9_fill_59 : decode cX9_fill 59 = .ok (.iadd, 1) := by decide +kernel
theorem dX9_fill_60 : decode cX9_fill 60 = .ok (.iaload, 1) := by decide +kernel
theorem dX9_fill_61 : decode cX9_fill 61 = .ok (.istore 5, 2) := by decide +kernel
theorem dX9_fill_63 : decode cX9_fill 63 = .ok (.aload_n 0, 1) := by decide +kernel
theorem dX9_fill_64 : decode cX9_fill 64 = .ok (.getfield 54, 3) := by decide +kernel
theorem dX9_fill_67 : decode cX9_fill 67 = .ok (.iconst 5, 1) := by decide +kernel
theorem dX9_fill_68 : decode cX9_fill 68 = .ok (.iload_n 1, 1) := by decide +kernel
theorem dX9_fill_69 : decode cX9_fill 69 = .ok (.imul, 1) := by decide +kernel
theorem dX9_fill_70 : decode cX9_fill 70 = .ok (.iload_n 2, 1) := by decide +kernel
theorem dX9_fill_71 : decode cX9_fill 71 = .ok (.iadd, 1) := by decide +kernel
theorem dX9_fill_72 : decode cX9_fill 72 = .ok (.iload_n 3, 1) := by decide +kernel
theorem dX9_fill_73 : decode cX9_fill 73 = .ok (.iastore, 1) := by decide +kernel
theorem dX9_fill_74 : decode cX9_fill 74 = .ok (.iload 5, 2) := by decide +kernel
theorem dX9_fill_76 : decode cX9_fill 76 = .ok (.ireturn, 1) := by decide +kernel
theorem dX9_price_0 : decode cX9_price 0 = .ok (.aload_n 0, 1) := by decide +kernel
theorem dX9_price_1 : decode cX9_price 1 = .ok (.iload_n 1, 1) := by decide +kernel
theorem dX9_price_2 : decode cX9_price 2 = .ok (.invokestatic 108, 3) := by decide +kernel
theorem dX9_price_5 : decode cX9_price 5 = .ok (.ifCond .ne 7, 3) := by decide +kernel
theorem dX9_price_8 : decode cX9_price 8 = .ok (.iconst 1, 1) := by decide +kernel
theorem dX9_price_9 : decode cX9_price 9 = .ok (.goto 19, 3) := by decide +kernel
theorem dX9_price_12 : decode cX9_price 12 = .ok (.iload_n 2, 1) := by decide +kernel
theorem dX9_price_13 : decode cX9_price 13 = .ok (.iconst 0, 1) := by decide +kernel
theorem dX9_price_14 : decode cX9_price 14 = .ok (.sipush 1000, 3) := by decide +kernel
theorem dX9_price_17 : decode cX9_price 17 = .ok (.invokestatic 73, 3) := by decide +kernel
theorem dX9_price_20 : decode cX9_price 20 = .ok (.ifCond .eq 7, 3) := by decide +kernel
theorem dX9_price_23 : decode cX9_price 23 = .ok (.iconst 0, 1) := by decide +kernel
theorem dX9_price_24 : decode cX9_price 24 = .ok (.goto 4, 3) := by decide +kernel
theorem dX9_price_27 : decode cX9_price 27 = .ok (.iconst 2, 1) := by decide +kernel
theorem dX9_price_28 : decode cX9_price 28 = .ok (.invokevirtual 92, 3) := by decide +kernel
theorem dX9_price_31 : decode cX9_price 31 = .ok (.ifCond .ne 5, 3) := by decide +kernel
theorem dX9_price_34 : decode cX9_price 34 = .ok (.iconst 0, 1) := by decide +kernel
theorem dX9_price_35 : decode cX9_price 35 = .ok (.ireturn, 1) := by decide +kernel
theorem dX9_price_36 : decode cX9_price 36 = .ok (.aload_n 0, 1) := by decide +kernel
theorem dX9_price_37 : decode cX9_price 37 = .ok (.getfield 60, 3) := by decide +kernel
theorem dX9_price_40 : decode cX9_price 40 = .ok (.iload_n 1, 1) := by decide +kernel
theorem dX9_price_41 : decode cX9_price 41 = .ok (.iaload, 1) := by decide +kernel
theorem dX9_price_42 : decode cX9_price 42 = .ok (.istore_n 3, 1) := by decide +kernel
theorem dX9_price_43 : decode cX9_price 43 = .ok (.aload_n 0, 1) := by decide +kernel
theorem dX9_price_44 : decode cX9_price 44 = .ok (.getfield 60, 3) := by decide +kernel
theorem dX9_price_47 : decode cX9_price 47 = .ok (.iload_n 1, 1) := by decide +kernel
theorem dX9_price_48 : decode cX9_price 48 = .ok (.iload_n 2, 1) := by decide +kernel
theorem dX9_price_49 : decode cX9_price 49 = .ok (.iastore, 1) := by decide +kernel
theorem dX9_price_50 : decode cX9_price 50 = .ok (.iload_n 3, 1) := by decide +kernel
theorem dX9_price_51 : decode cX9_price 51 = .ok (.ireturn, 1) := by decide +kernel
theorem dX9_meets_0 : decode cX9_meets 0 = .ok (.aload_n 0, 1) := by decide +kernel
theorem dX9_meets_1 : decode cX9_meets 1 = .ok (.getfield 32, 3) := by decide +kernel
theorem dX9_meets_4 : decode cX9_meets 4 = .ok (.iload_n 2, 1) := by decide +kernel
theorem dX9_meets_5 : decode cX9_meets 5 = .ok (.iaload, 1) := by decide +kernel
theorem dX9_meets_6 : decode cX9_meets 6 = .ok (.iconst (-1), 1) := by decide +kernel
theorem dX9_meets_7 : decode cX9_meets 7 = .ok (.if_icmp .eq 22, 3) := by decide +kernel
theorem dX9_meets_10 : decode cX9_meets 10 = .ok (.aload_n 0, 1) := by decide +kernel
theorem dX9_meets_11 : decode cX9_meets 11 = .ok (.getfield 57, 3) := by decide +kernel
theorem dX9_meets_14 : decode cX9_meets 14 = .ok (.iload_n 1, 1) := by decide +kernel
theorem dX9_meets_15 : decode cX9_meets 15 = .ok (.iaload, 1) := by decide +kernel
theorem dX9_meets_16 : decode cX9_meets 16 = .ok (.aload_n 0, 1) := by decide +kernel
theorem dX9_meets_17 : decode cX9_meets 17 = .ok (.getfield 32, 3) := by decide +kernel
theorem dX9_meets_20 : decode cX9_meets 20 = .ok (.iload_n 2, 1) := by decide +kernel
theorem dX9_meets_21 : decode cX9_meets 21 = .ok (.iaload, 1) := by decide +kernel
theorem dX9_meets_22 : decode cX9_meets 22 = .ok (.ishr, 1) := by decide +kernel
theorem dX9_meets_23 : decode cX9_meets 23 = .ok (.iconst 1, 1) := by decide +kernel
theorem dX9_meets_24 : decode cX9_meets 24 = .ok (.iand, 1) := by decide +kernel
theorem dX9_meets_25 : decode cX9_meets 25 = .ok (.iconst 1, 1) := by decide +kernel
theorem dX9_meets_26 : decode cX9_meets 26 = .ok (.if_icmp .ne 7, 3) := by decide +kernel
theorem dX9_meets_29 : decode cX9_meets 29 = .ok (.iconst 1, 1) := by decide +kernel
theorem dX9_meets_30 : decode cX9_meets 30 = .ok (.goto 4, 3) := by decide +kernel
theorem dX9_meets_33 : decode cX9_meets 33 = .ok (.iconst 0, 1) := by decide +kernel
theorem dX9_meets_34 : decode cX9_meets 34 = .ok (.ireturn, 1) := by decide +kernel
theorem dX9_isBroken_0 : decode cX9_isBroken 0 = .ok (.iconst 0, 1) := by decide +kernel
theorem dX9_isBroken_1 : decode cX9_isBroken 1 = .ok (.istore 6, 2) := by decide +kernel
theorem dX9_isBroken_3 : decode cX9_isBroken 3 = .ok (.iconst 0, 1) := by decide +kernel
theorem dX9_isBroken_4 : decode cX9_isBroken 4 = .ok (.istore 7, 2) := by decide +kernel
theorem dX9_isBroken_6 : decode cX9_isBroken 6 = .ok (.iload 7, 2) := by decide +kernel
theorem dX9_isBroken_8 : decode cX9_isBroken 8 = .ok (.aload_n 0, 1) := by decide +kernel
theorem dX9_isBroken_9 : decode cX9_isBroken 9 = .ok (.getfield 80, 3) := by decide +kernel
theorem dX9_isBroken_12 : decode cX9_isBroken 12 = .ok (.if_icmp .ge 99, 3) := by decide +kernel
theorem dX9_isBroken_15 : decode cX9_isBroken 15 = .ok (.aload_n 0, 1) := by decide +kernel
theorem dX9_isBroken_16 : decode cX9_isBroken 16 = .ok (.iload_n 1, 1) := by decide +kernel
theorem dX9_isBroken_17 : decode cX9_isBroken 17 = .ok (.iload 7, 2) := by decide +kernel
theorem dX9_isBroken_19 : decode cX9_isBroken 19 = .ok (.invokevirtual 138, 3) := by decide +kernel
theorem dX9_isBroken_22 : decode cX9_isBroken 22 = .ok (.ifCond .eq 17, 3) := by decide +kernel
theorem dX9_isBroken_25 : decode cX9_isBroken 25 = .ok (.aload_n 0, 1) := by decide +kernel
theorem dX9_isBroken_26 : decode cX9_isBroken 26 = .ok (.iload_n 2, 1) := by decide +kernel
theorem dX9_isBroken_27 : decode cX9_isBroken 27 = .ok (.iload 7, 2) := by decide +kernel
theorem dX9_isBroken_29 : decode cX9_isBroken 29 = .ok (.invokevirtual 144, 3) := by decide +kernel
theorem dX9_isBroken_32 : decode cX9_isBroken 32 = .ok (.ifCond .eq 7, 3) := by decide +kernel
theorem dX9_isBroken_35 : decode cX9_isBroken 35 = .ok (.iconst 1, 1) := by decide +kernel
theorem dX9_isBroken_36 : decode cX9_isBroken 36 = .ok (.goto 4, 3) := by decide +kernel
theorem dX9_isBroken_39 : decode cX9_isBroken 39 = .ok (.iconst 0, 1) := by decide +kernel
theorem dX9_isBroken_40 : decode cX9_isBroken 40 = .ok (.istore 8, 2) := by decide +kernel
theorem dX9_isBroken_42 : decode cX9_isBroken 42 = .ok (.aload_n 0, 1) := by decide +kernel
theorem dX9_isBroken_43 : decode cX9_isBroken 43 = .ok (.getfield 45, 3) := by decide +kernel
theorem dX9_isBroken_46 : decode cX9_isBroken 46 = .ok (.bipush 10, 2) := by decide +kernel
theorem dX9_isBroken_48 : decode cX9_isBroken 48 = .ok (.bipush 10, 2) := by decide +kernel
theorem dX9_isBroken_50 : decode cX9_isBroken 50 = .ok (.iload 4, 2) := by decide +kernel
theorem dX9_isBroken_52 : decode cX9_isBroken 52 = .ok (.imul, 1) := by decide +kernel
theorem dX9_isBroken_53 : decode cX9_isBroken 53 = .ok (.iload_n 3, 1) := by decide +kernel
theorem dX9_isBroken_54 : decode cX9_isBroken 54 = .ok (.iadd, 1) := by decide +kernel
theorem dX9_isBroken_55 : decode cX9_isBroken 55 = .ok (.imul, 1) := by decide +kernel
theorem dX9_isBroken_56 : decode cX9_isBroken 56 = .ok (.iload 7, 2) := by decide +kernel
theorem dX9_isBroken_58 : decode cX9_isBroken 58 = .ok (.iadd, 1) := by decide +kernel
theorem dX9_isBroken_59 : decode cX9_isBroken 59 = .ok (.iaload, 1) := by decide +kernel
theorem dX9_isBroken_60 : decode cX9_isBroken 60 = .ok (.iload 5, 2) := by decide +kernel
theorem dX9_isBroken_62 : decode cX9_isBroken 62 = .ok (.if_icmp .ne 7, 3) := by decide +kernel
theorem dX9_isBroken_65 : decode cX9_isBroken 65 = .ok (.iconst 1, 1) := by decide +kernel
theorem dX9_isBroken_66 : decode cX9_isBroken 66 = .ok (.goto 4, 3) := by decide +kernel
theorem dX9_isBroken_69 : decode cX9_isBroken 69 = .ok (.iconst 0, 1) := by decide +kernel
theorem dX9_isBroken_70 : decode cX9_isBroken 70 = .ok (.istore 9, 2) := by decide +kernel
theorem dX9_isBroken_72 : decode cX9_isBroken 72 = .ok (.iload 6, 2) := by decide +kernel
theorem dX9_isBroken_74 : decode cX9_isBroken 74 = .ok (.ifCond .ne 24, 3) := by decide +kernel
theorem dX9_isBroken_77 : decode cX9_isBroken 77 = .ok (.iload 9, 2) := by decide +kernel
theorem dX9_isBroken_79 : decode cX9_isBroken 79 = .ok (.ifCond .eq 23, 3) := by decide +kernel
theorem dX9_isBroken_82 : decode cX9_isBroken 82 = .ok (.iload 8, 2) := by decide +kernel
theorem dX9_isBroken_84 : decode cX9_isBroken 84 = .ok (.iload 5, 2) := by decide +kernel
theorem dX9_isBroken_86 : decode cX9_isBroken 86 = .ok (.iconst 2, 1) := by decide +kernel
theorem dX9_isBroken_87 : decode cX9_isBroken 87 = .ok (.if_icmp .ne 7, 3) := by decide +kernel
theorem dX9_isBroken_90 : decode cX9_isBroken 90 = .ok (.iconst 1, 1) := by decide +kernel
theorem dX9_isBroken_91 : decode cX9_isBroken 91 = .ok (.goto 4, 3) := by decide +kernel
theorem dX9_isBroken_94 : decode cX9_isBroken 94 = .ok (.iconst 0, 1) := by decide +kernel
theorem dX9_isBroken_95 : decode cX9_isBroken 95 = .ok (.if_icmp .ne 7, 3) := by decide +kernel
theorem dX9_isBroken_98 : decode cX9_isBroken 98 = .ok (.iconst 1, 1) := by decide +kernel
theorem dX9_isBroken_99 : decode cX9_isBroken 99 = .ok (.goto 4, 3) := by decide +kernel
theorem dX9_isBroken_102 : decode cX9_isBroken 102 = .ok (.iconst 0, 1) := by decide +kernel
theorem dX9_isBroken_103 : decode cX9_isBroken 103 = .ok (.istore 6, 2) := by decide +kernel
theorem dX9_isBroken_105 : decode cX9_isBroken 105 = .ok (.iinc 7 1, 3) := by decide +kernel
theorem dX9_isBroken_108 : decode cX9_isBroken 108 = .ok (.goto (-102), 3) := by decide +kernel
theorem dX9_isBroken_111 : decode cX9_isBroken 111 = .ok (.iload 6, 2) := by decide +kernel
theorem dX9_isBroken_113 : decode cX9_isBroken 113 = .ok (.ireturn, 1) := by decide +kernel
theorem dX9_faultOf_0 : decode cX9_faultOf 0 = .ok (.aload_n 0, 1) := by decide +kernel
theorem dX9_faultOf_1 : decode cX9_faultOf 1 = .ok (.iload_n 1, 1) := by decide +kernel
theorem dX9_faultOf_2 : decode cX9_faultOf 2 = .ok (.invokevirtual 135, 3) := by decide +kernel
theorem dX9_faultOf_5 : decode cX9_faultOf 5 = .ok (.ifCond .eq 22, 3) := by decide +kernel
theorem dX9_faultOf_8 : decode cX9_faultOf 8 = .ok (.aload_n 0, 1) := by decide +kernel
theorem dX9_faultOf_9 : decode cX9_faultOf 9 = .ok (.iload_n 2, 1) := by decide +kernel
theorem dX9_faultOf_10 : decode cX9_faultOf 10 = .ok (.invokevirtual 141, 3) := by decide +kernel
theorem dX9_faultOf_13 : decode cX9_faultOf 13 = .ok (.ifCond .eq 14, 3) := by decide +kernel
theorem dX9_faultOf_16 : decode cX9_faultOf 16 = .ok (.iload_n 3, 1) := by decide +kernel
theorem dX9_faultOf_17 : decode cX9_faultOf 17 = .ok (.invokestatic 108, 3) := by decide +kernel
theorem dX9_faultOf_20 : decode cX9_faultOf 20 = .ok (.ifCond .eq 7, 3) := by decide +kernel
theorem dX9_faultOf_23 : decode cX9_faultOf 23 = .ok (.iconst 1, 1) := by decide +kernel
theorem dX9_faultOf_24 : decode cX9_faultOf 24 = .ok (.goto 4, 3) := by decide +kernel
theorem dX9_faultOf_27 : decode cX9_faultOf 27 = .ok (.iconst 0, 1) := by decide +kernel
theorem dX9_faultOf_28 : decode cX9_faultOf 28 = .ok (.istore 5, 2) := by decide +kernel
theorem dX9_faultOf_30 : decode cX9_faultOf 30 = .ok (.aload_n 0, 1) := by decide +kernel
theorem dX9_faultOf_31 : decode cX9_faultOf 31 = .ok (.iload 5, 2) := by decide +kernel
theorem dX9_faultOf_33 : decode cX9_faultOf 33 = .ok (.ifCond .ne 7, 3) := by decide +kernel
theorem dX9_faultOf_36 : decode cX9_faultOf 36 = .ok (.iconst 1, 1) := by decide +kernel
theorem dX9_faultOf_37 : decode cX9_faultOf 37 = .ok (.goto 18, 3) := by decide +kernel
theorem dX9_faultOf_40 : decode cX9_faultOf 40 = .ok (.iload 4, 2) := by decide +kernel
theorem dX9_faultOf_42 : decode cX9_faultOf 42 = .ok (.iconst 0, 1) := by decide +kernel
theorem dX9_faultOf_43 : decode cX9_faultOf 43 = .ok (.iconst 3, 1) := by decide +kernel
theorem dX9_faultOf_44 : decode cX9_faultOf 44 = .ok (.invokestatic 73, 3) := by decide +kernel
theorem dX9_faultOf_47 : decode cX9_faultOf 47 = .ok (.ifCond .eq 7, 3) := by decide +kernel
theorem dX9_faultOf_50 : decode cX9_faultOf 50 = .ok (.iconst 0, 1) := by decide +kernel
theorem dX9_faultOf_51 : decode cX9_faultOf 51 = .ok (.goto 4, 3) := by decide +kernel
theorem dX9_faultOf_54 : decode cX9_faultOf 54 = .ok (.iconst 2, 1) := by decide +kernel
theorem dX9_faultOf_55 : decode cX9_faultOf 55 = .ok (.invokevirtual 92, 3) := by decide +kernel
theorem dX9_faultOf_58 : decode cX9_faultOf 58 = .ok (.ifCond .ne 5, 3) := by decide +kernel
theorem dX9_faultOf_61 : decode cX9_faultOf 61 = .ok (.iconst 0, 1) := by decide +kernel
theorem dX9_faultOf_62 : decode cX9_faultOf 62 = .ok (.ireturn, 1) := by decide +kernel
theorem dX9_faultOf_63 : decode cX9_faultOf 63 = .ok (.iconst 0, 1) := by decide +kernel
theorem dX9_faultOf_64 : decode cX9_faultOf 64 = .ok (.istore 6, 2) := by decide +kernel
theorem dX9_faultOf_66 : decode cX9_faultOf 66 = .ok (.iload 6, 2) := by decide +kernel
theorem dX9_faultOf_68 : decode cX9_faultOf 68 = .ok (.aload_n 0, 1) := by decide +kernel
theorem dX9_faultOf_69 : decode cX9_faultOf 69 = .ok (.getfield 51, 3) := by decide +kernel
theorem dX9_faultOf_72 : decode cX9_faultOf 72 = .ok (.iload_n 1, 1) := by decide +kernel
theorem dX9_faultOf_73 : decode cX9_faultOf 73 = .ok (.iaload, 1) := by decide +kernel
theorem dX9_faultOf_74 : decode cX9_faultOf 74 = .ok (.if_icmp .ge 126, 3) := by decide +kernel
theorem dX9_faultOf_77 : decode cX9_faultOf 77 = .ok (.aload_n 0, 1) := by decide +kernel
theorem dX9_faultOf_78 : decode cX9_faultOf 78 = .ok (.getfield 48, 3) := by decide +kernel
theorem dX9_faultOf_81 : decode cX9_faultOf 81 = .ok (.bipush 6, 2) := by decide +kernel
theorem dX9_faultOf_83 : decode cX9_faultOf 83 = .ok (.iload_n 1, 1) := by decide +kernel
theorem dX9_faultOf_84 : decode cX9_faultOf 84 = .ok (.imul, 1) := by decide +kernel
theorem dX9_faultOf_85 : decode cX9_faultOf 85 = .ok (.iload 6, 2) := by decide +kernel
theorem dX9_faultOf_87 : decode cX9_faultOf 87 = .ok (.iadd, 1) := by decide +kernel
theorem dX9_faultOf_88 : decode cX9_faultOf 88 = .ok (.iaload, 1) := by decide +kernel
theorem dX9_faultOf_89 : decode cX9_faultOf 89 = .ok (.istore 7, 2) := by decide +kernel
theorem dX9_faultOf_91 : decode cX9_faultOf 91 = .ok (.iload 7, 2) := by decide +kernel
theorem dX9_faultOf_93 : decode cX9_faultOf 93 = .ok (.iload_n 3, 1) := by decide +kernel
theorem dX9_faultOf_94 : decode cX9_faultOf 94 = .ok (.invokestatic 128, 3) := by decide +kernel
theorem dX9_faultOf_97 : decode cX9_faultOf 97 = .ok (.istore 8, 2) := by decide +kernel
theorem dX9_faultOf_99 : decode cX9_faultOf 99 = .ok (.aload_n 0, 1) := by decide +kernel
theorem dX9_faultOf_100 : decode cX9_faultOf 100 = .ok (.iload_n 2, 1) := by decide +kernel
theorem dX9_faultOf_101 : decode cX9_faultOf 101 = .ok (.iload 7, 2) := by decide +kernel
theorem dX9_faultOf_103 : decode cX9_faultOf 103 = .ok (.invokevirtual 144, 3) := by decide +kernel
theorem dX9_faultOf_106 : decode cX9_faultOf 106 = .ok (.ifCond .ne 7, 3) := by decide +kernel
theorem dX9_faultOf_109 : decode cX9_faultOf 109 = .ok (.iconst 0, 1) := by decide +kernel
theorem dX9_faultOf_110 : decode cX9_faultOf 110 = .ok (.goto 68, 3) := by decide +kernel
theorem dX9_faultOf_113 : decode cX9_faultOf 113 = .ok (.aload_n 0, 1) := by decide +kernel
theorem dX9_faultOf_114 : decode cX9_faultOf 114 = .ok (.getfield 38, 3) := by decide +kernel
theorem dX9_faultOf_117 : decode cX9_faultOf 117 = .ok (.iload 8, 2) := by decide +kernel
theorem dX9_faultOf_119 : decode cX9_faultOf 119 = .ok (.iaload, 1) := by decide +kernel
theorem dX9_faultOf_120 : decode cX9_faultOf 120 = .ok (.ifCond .ne 7, 3) := by decide +kernel
theorem dX9_faultOf_123 : decode cX9_faultOf 123 = .ok (.iconst 1, 1) := by decide +kernel
theorem dX9_faultOf_124 : decode cX9_faultOf 124 = .ok (.goto 54, 3) := by decide +kernel
theorem dX9_faultOf_127 : decode cX9_faultOf 127 = .ok (.aload_n 0, 1) := by decide +kernel
theorem dX9_faultOf_128 : decode cX9_faultOf 128 = .ok (.getfield 41, 3) := by decide +kernel
theorem dX9_faultOf_131 : decode cX9_faultOf 131 = .ok (.iload 8, 2) := by decide +kernel
theorem dX9_faultOf_133 : decode cX9_faultOf 133 = .ok (.baload, 1) := by decide +kernel
theorem dX9_faultOf_134 : decode cX9_faultOf 134 = .ok (.ifCond .ne 7, 3) := by decide +kernel
theorem dX9_faultOf_137 : decode cX9_faultOf 137 = .ok (.iconst 2, 1) := by decide +kernel
theorem dX9_faultOf_138 : decode cX9_faultOf 138 = .ok (.goto 40, 3) := by decide +kernel
theorem dX9_faultOf_141 : decode cX9_faultOf 141 = .ok (.aload_n 0, 1) := by decide +kernel
theorem dX9_faultOf_142 : decode cX9_faultOf 142 = .ok (.iload_n 1, 1) := by decide +kernel
theorem dX9_faultOf_143 : decode cX9_faultOf 143 = .ok (.iload_n 2, 1) := by decide +kernel
theorem dX9_faultOf_144 : decode cX9_faultOf 144 = .ok (.iload 7, 2) := by decide +kernel
theorem dX9_faultOf_146 : decode cX9_faultOf 146 = .ok (.iload 4, 2) := by decide +kernel
theorem dX9_faultOf_148 : decode cX9_faultOf 148 = .ok (.iconst 1, 1) := by decide +kernel
theorem dX9_faultOf_149 : decode cX9_faultOf 149 = .ok (.invokevirtual 147, 3) := by decide +kernel
theorem dX9_faultOf_152 : decode cX9_faultOf 152 = .ok (.ifCond .eq 7, 3) := by decide +kernel
theorem dX9_faultOf_155 : decode cX9_faultOf 155 = .ok (.iconst 3, 1) := by decide +kernel
theorem dX9_faultOf_156 : decode cX9_faultOf 156 = .ok (.goto 22, 3) := by decide +kernel
theorem dX9_faultOf_159 : decode cX9_faultOf 159 = .ok (.aload_n 0, 1) := by decide +kernel
theorem dX9_faultOf_160 : decode cX9_faultOf 160 = .ok (.iload_n 1, 1) := by decide +kernel
theorem dX9_faultOf_161 : decode cX9_faultOf 161 = .ok (.iload_n 2, 1) := by decide +kernel
theorem dX9_faultOf_162 : decode cX9_faultOf 162 = .ok (.iload 7, 2) := by decide +kernel
theorem dX9_faultOf_164 : decode cX9_faultOf 164 = .ok (.iload 4, 2) := by decide +kernel
theorem dX9_faultOf_166 : decode cX9_faultOf 166 = .ok (.iconst 2, 1) := by decide +kernel
theorem dX9_faultOf_167 : decode cX9_faultOf 167 = .ok (.invokevirtual 147, 3) := by decide +kernel
theorem dX9_faultOf_170 : decode cX9_faultOf 170 = .ok (.ifCond .eq 7, 3) := by decide +kernel
theorem dX9_faultOf_173 : decode cX9_faultOf 173 = .ok (.iconst 4, 1) := by decide +kernel
theorem dX9_faultOf_174 : decode cX9_faultOf 174 = .ok (.goto 4, 3) := by decide +kernel
theorem dX9_faultOf_177 : decode cX9_faultOf 177 = .ok (.iconst 0, 1) := by decide +kernel
theorem dX9_faultOf_178 : decode cX9_faultOf 178 = .ok (.istore 9, 2) := by decide +kernel
theorem dX9_faultOf_180 : decode cX9_faultOf 180 = .ok (.iload 9, 2) := by decide +kernel
theorem dX9_faultOf_182 : decode cX9_faultOf 182 = .ok (.ifCond .le 12, 3) := by decide +kernel
theorem dX9_faultOf_185 : decode cX9_faultOf 185 = .ok (.bipush 10, 2) := by decide +kernel
theorem dX9_faultOf_187 : decode cX9_faultOf 187 = .ok (.iload 6, 2) := by decide +kernel
theorem dX9_faultOf_189 : decode cX9_faultOf 189 = .ok (.imul, 1) := by decide +kernel
theorem dX9_faultOf_190 : decode cX9_faultOf 190 = .ok (.iload 9, 2) := by decide +kernel
theorem dX9_faultOf_192 : decode cX9_faultOf 192 = .ok (.iadd, 1) := by decide +kernel
theorem dX9_faultOf_193 : decode cX9_faultOf 193 = .ok (.ireturn, 1) := by decide +kernel
theorem dX9_faultOf_194 : decode cX9_faultOf 194 = .ok (.iinc 6 1, 3) := by decide +kernel
theorem dX9_faultOf_197 : decode cX9_faultOf 197 = .ok (.goto (-131), 3) := by decide +kernel
theorem dX9_faultOf_200 : decode cX9_faultOf 200 = .ok (.iconst 0, 1) := by decide +kernel
theorem dX9_faultOf_201 : decode cX9_faultOf 201 = .ok (.ireturn, 1) := by decide +kernel
theorem dX9_lays_0 : decode cX9_lays 0 = .ok (.aload_n 0, 1) := by decide +kernel
theorem dX9_lays_1 : decode cX9_lays 1 = .ok (.getfield 63, 3) := by decide +kernel
theorem dX9_lays_4 : decode cX9_lays 4 = .ok (.aload_n 0, 1) := by decide +kernel
theorem dX9_lays_5 : decode cX9_lays 5 = .ok (.getfield 151, 3) := by decide +kernel
theorem dX9_lays_8 : decode cX9_lays 8 = .ok (.aload_n 0, 1) := by decide +kernel
theorem dX9_lays_9 : decode cX9_lays 9 = .ok (.getfield 154, 3) := by decide +kernel
theorem dX9_lays_12 : decode cX9_lays 12 = .ok (.ifCond .eq 21, 3) := by decide +kernel
theorem dX9_lays_15 : decode cX9_lays 15 = .ok (.iload_n 1, 1) := by decide +kernel
theorem dX9_lays_16 : decode cX9_lays 16 = .ok (.invokestatic 96, 3) := by decide +kernel
theorem dX9_lays_19 : decode cX9_lays 19 = .ok (.ifCond .eq 14, 3) := by decide +kernel
theorem dX9_lays_22 : decode cX9_lays 22 = .ok (.iload_n 1, 1) := by decide +kernel
theorem dX9_lays_23 : decode cX9_lays 23 = .ok (.bipush 97, 2) := by decide +kernel
theorem dX9_lays_25 : decode cX9_lays 25 = .ok (.isub, 1) := by decide +kernel
theorem dX9_lays_26 : decode cX9_lays 26 = .ok (.bipush 65, 2) := by decide +kernel
theorem dX9_lays_28 : decode cX9_lays 28 = .ok (.iadd, 1) := by decide +kernel
theorem dX9_lays_29 : decode cX9_lays 29 = .ok (.i2c, 1) := by decide +kernel
theorem dX9_lays_30 : decode cX9_lays 30 = .ok (.goto 4, 3) := by decide +kernel
theorem dX9_lays_33 : decode cX9_lays 33 = .ok (.iload_n 1, 1) := by decide +kernel
theorem dX9_lays_34 : decode cX9_lays 34 = .ok (.castore, 1) := by decide +kernel
theorem dX9_lays_35 : decode cX9_lays 35 = .ok (.aload_n 0, 1) := by decide +kernel
theorem dX9_lays_36 : decode cX9_lays 36 = .ok (.iload_n 1, 1) := by decide +kernel
theorem dX9_lays_37 : decode cX9_lays 37 = .ok (.bipush 46, 2) := by decide +kernel
theorem dX9_lays_39 : decode cX9_lays 39 = .ok (.if_icmp .eq 17, 3) := by decide +kernel
theorem dX9_lays_42 : decode cX9_lays 42 = .ok (.aload_n 0, 1) := by decide +kernel
theorem dX9_lays_43 : decode cX9_lays 43 = .ok (.getfield 154, 3) := by decide +kernel
theorem dX9_lays_46 : decode cX9_lays 46 = .ok (.ifCond .eq 14, 3) := by decide +kernel
theorem dX9_lays_49 : decode cX9_lays 49 = .ok (.iload_n 1, 1) := by decide +kernel
theorem dX9_lays_50 : decode cX9_lays 50 = .ok (.invokestatic 96, 3) := by decide +kernel
theorem dX9_lays_53 : decode cX9_lays 53 = .ok (.ifCond .ne 7, 3) := by decide +kernel
theorem dX9_lays_56 : decode cX9_lays 56 = .ok (.iconst 1, 1) := by decide +kernel
theorem dX9_lays_57 : decode cX9_lays 57 = .ok (.goto 4, 3) := by decide +kernel
theorem dX9_lays_60 : decode cX9_lays 60 = .ok (.iconst 0, 1) := by decide +kernel
theorem dX9_lays_61 : decode cX9_lays 61 = .ok (.putfield 154, 3) := by decide +kernel
theorem dX9_lays_64 : decode cX9_lays 64 = .ok (.aload_n 0, 1) := by decide +kernel
theorem dX9_lays_65 : decode cX9_lays 65 = .ok (.dup, 1) := by decide +kernel
theorem dX9_lays_66 : decode cX9_lays 66 = .ok (.getfield 151, 3) := by decide +kernel
theorem dX9_lays_69 : decode cX9_lays 69 = .ok (.iconst 1, 1) := by decide +kernel
theorem dX9_lays_70 : decode cX9_lays 70 = .ok (.iadd, 1) := by decide +kernel
theorem dX9_lays_71 : decode cX9_lays 71 = .ok (.putfield 151, 3) := by decide +kernel
theorem dX9_lays_74 : decode cX9_lays 74 = .ok (.return_, 1) := by decide +kernel
theorem dX9_laysForm_0 : decode cX9_laysForm 0 = .ok (.bipush 8, 2) := by decide +kernel
theorem dX9_laysForm_2 : decode cX9_laysForm 2 = .ok (.iload_n 2, 1) := by decide +kernel
theorem dX9_laysForm_3 : decode cX9_laysForm 3 = .ok (.imul, 1) := by decide +kernel
theorem dX9_laysForm_4 : decode cX9_laysForm 4 = .ok (.iload_n 3, 1) := by decide +kernel
theorem dX9_laysForm_5 : decode cX9_laysForm 5 = .ok (.iadd, 1) := by decide +kernel
theorem dX9_laysForm_6 : decode cX9_laysForm 6 = .ok (.istore 4, 2) := by decide +kernel
theorem dX9_laysForm_8 : decode cX9_laysForm 8 = .ok (.bipush 24, 2) := by decide +kernel
theorem dX9_laysForm_10 : decode cX9_laysForm 10 = .ok (.iload_n 1, 1) := by decide +kernel
theorem dX9_laysForm_11 : decode cX9_laysForm 11 = .ok (.imul, 1) := by decide +kernel
theorem dX9_laysForm_12 : decode cX9_laysForm 12 = .ok (.iload 4, 2) := by decide +kernel
theorem dX9_laysForm_14 : decode cX9_laysForm 14 = .ok (.iadd, 1) := by decide +kernel
theorem dX9_laysForm_15 : decode cX9_laysForm 15 = .ok (.istore 5, 2) := by decide +kernel
theorem dX9_laysForm_17 : decode cX9_laysForm 17 = .ok (.aload_n 0, 1) := by decide +kernel
theorem dX9_laysForm_18 : decode cX9_laysForm 18 = .ok (.getfield 29, 3) := by decide +kernel
theorem dX9_laysForm_21 : decode cX9_laysForm 21 = .ok (.iload 5, 2) := by decide +kernel
theorem dX9_laysForm_23 : decode cX9_laysForm 23 = .ok (.iaload, 1) := by decide +kernel
theorem dX9_laysForm_24 : decode cX9_laysForm 24 = .ok (.ifCond .le 42, 3) := by decide +kernel
theorem dX9_laysForm_27 : decode cX9_laysForm 27 = .ok (.iconst 0, 1) := by decide +kernel
theorem dX9_laysForm_28 : decode cX9_laysForm 28 = .ok (.istore 6, 2) := by decide +kernel
theorem dX9_laysForm_30 : decode cX9_laysForm 30 = .ok (.iload 6, 2) := by decide +kernel
theorem dX9_laysForm_32 : decode cX9_laysForm 32 = .ok (.aload_n 0, 1) := by decide +kernel
theorem dX9_laysForm_33 : decode cX9_laysForm 33 = .ok (.getfield 29, 3) := by decide +kernel
theorem dX9_laysForm_36 : decode cX9_laysForm 36 = .ok (.iload 5, 2) := by decide +kernel
theorem dX9_laysForm_38 : decode cX9_laysForm 38 = .ok (.iaload, 1) := by decide +kernel
theorem dX9_laysForm_39 : decode cX9_laysForm 39 = .ok (.if_icmp .ge 26, 3) := by decide +kernel
theorem dX9_laysForm_42 : decode cX9_laysForm 42 = .ok (.aload_n 0, 1) := by decide +kernel
theorem dX9_laysForm_43 : decode cX9_laysForm 43 = .ok (.aload_n 0, 1) := by decide +kernel
theorem dX9_laysForm_44 : decode cX9_laysForm 44 = .ok (.getfield 26, 3) := by decide +kernel
theorem dX9_laysForm_47 : decode cX9_laysForm 47 = .ok (.bipush 10, 2) := by decide +kernel
theorem dX9_laysForm_49 : decode cX9_laysForm 49 = .ok (.iload 5, 2) := by decide +kernel
theorem dX9_laysForm_51 : decode cX9_laysForm 51 = .ok (.imul, 1) := by decide +kernel
theorem dX9_laysForm_52 : decode cX9_laysForm 52 = .ok (.iload 6, 2) := by decide +kernel
theorem dX9_laysForm_54 : decode cX9_laysForm 54 = .ok (.iadd, 1) := by decide +kernel
theorem dX9_laysForm_55 : decode cX9_laysForm 55 = .ok (.caload, 1) := by decide +kernel
theorem dX9_laysForm_56 : decode cX9_laysForm 56 = .ok (.invokevirtual 158, 3) := by decide +kernel
theorem dX9_laysForm_59 : decode cX9_laysForm 59 = .ok (.iinc 6 1, 3) := by decide +kernel
theorem dX9_laysForm_62 : decode cX9_laysForm 62 = .ok (.goto (-32), 3) := by decide +kernel
theorem dX9_laysForm_65 : decode cX9_laysForm 65 = .ok (.return_, 1) := by decide +kernel
theorem dX9_laysForm_66 : decode cX9_laysForm 66 = .ok (.aload_n 0, 1) := by decide +kernel
theorem dX9_laysForm_67 : decode cX9_laysForm 67 = .ok (.getfield 13, 3) := by decide +kernel
theorem dX9_laysForm_70 : decode cX9_laysForm 70 = .ok (.bipush 10, 2) := by decide +kernel
theorem dX9_laysForm_72 : decode cX9_laysForm 72 = .ok (.iload_n 1, 1) := by decide +kernel
theorem dX9_laysForm_73 : decode cX9_laysForm 73 = .ok (.imul, 1) := by decide +kernel
theorem dX9_laysForm_74 : decode cX9_laysForm 74 = .ok (.aload_n 0, 1) := by decide +kernel
theorem dX9_laysForm_75 : decode cX9_laysForm 75 = .ok (.getfield 16, 3) := by decide +kernel
theorem dX9_laysForm_78 : decode cX9_laysForm 78 = .ok (.iload_n 1, 1) := by decide +kernel
theorem dX9_laysForm_79 : decode cX9_laysForm 79 = .ok (.iaload, 1) := by decide +kernel
theorem dX9_laysForm_80 : decode cX9_laysForm 80 = .ok (.iadd, 1) := by decide +kernel
theorem dX9_laysForm_81 : decode cX9_laysForm 81 = .ok (.iconst 1, 1) := by decide +kernel
theorem dX9_laysForm_82 : decode cX9_laysForm 82 = .ok (.isub, 1) := by decide +kernel
theorem dX9_laysForm_83 : decode cX9_laysForm 83 = .ok (.caload, 1) := by decide +kernel
theorem dX9_laysForm_84 : decode cX9_laysForm 84 = .ok (.istore 6, 2) := by decide +kernel
theorem dX9_laysForm_86 : decode cX9_laysForm 86 = .ok (.aload_n 0, 1) := by decide +kernel
theorem dX9_laysForm_87 : decode cX9_laysForm 87 = .ok (.getfield 23, 3) := by decide +kernel
theorem dX9_laysForm_90 : decode cX9_laysForm 90 = .ok (.iload 4, 2) := by decide +kernel
theorem dX9_laysForm_92 : decode cX9_laysForm 92 = .ok (.iaload, 1) := by decide +kernel
theorem dX9_laysForm_93 : decode cX9_laysForm 93 = .ok (.ifCond .le 30, 3) := by decide +kernel
theorem dX9_laysForm_96 : decode cX9_laysForm 96 = .ok (.iload 6, 2) := by decide +kernel
theorem dX9_laysForm_98 : decode cX9_laysForm 98 = .ok (.invokestatic 162, 3) := by decide +kernel
theorem dX9_laysForm_101 : decode cX9_laysForm 101 = .ok (.ifCond .eq 22, 3) := by decide +kernel
theorem dX9_laysForm_104 : decode cX9_laysForm 104 = .ok (.aload_n 0, 1) := by decide +kernel
theorem dX9_laysForm_105 : decode cX9_laysForm 105 = .ok (.getfield 20, 3) := by decide +kernel
theorem dX9_laysForm_108 : decode cX9_laysForm 108 = .ok (.iconst 4, 1) := by decide +kernel
theorem dX9_laysForm_109 : decode cX9_laysForm 109 = .ok (.iload 4, 2) := by decide +kernel
theorem dX9_laysForm_111 : decode cX9_laysForm 111 = .ok (.imul, 1) := by decide +kernel
theorem dX9_laysForm_112 : decode cX9_laysForm 112 = .ok (.caload, 1) := by decide +kernel
theorem dX9_laysForm_113 : decode cX9_laysForm 113 = .ok (.invokestatic 162, 3) := by decide +kernel
theorem dX9_laysForm_116 : decode cX9_laysForm 116 = .ok (.ifCond .eq 7, 3) := by decide +kernel
theorem dX9_laysForm_119 : decode cX9_laysForm 119 = .ok (.iconst 1, 1) := by decide +kernel
theorem dX9_laysForm_120 : decode cX9_laysForm 120 = .ok (.goto 4, 3) := by decide +kernel
theorem dX9_laysForm_123 : decode cX9_laysForm 123 = .ok (.iconst 0, 1) := by decide +kernel
theorem dX9_laysForm_124 : decode cX9_laysForm 124 = .ok (.istore 7, 2) := by decide +kernel
theorem dX9_laysForm_126 : decode cX9_laysForm 126 = .ok (.iconst 0, 1) := by decide +kernel
theorem dX9_laysForm_127 : decode cX9_laysForm 127 = .ok (.istore 8, 2) := by decide +kernel
theorem dX9_laysForm_129 : decode cX9_laysForm 129 = .ok (.iload 8, 2) := by decide +kernel
theorem dX9_laysForm_131 : decode cX9_laysForm 131 = .ok (.aload_n 0, 1) := by decide +kernel
theorem dX9_laysForm_132 : decode cX9_laysForm 132 = .ok (.getfield 16, 3) := by decide +kernel
theorem dX9_laysForm_135 : decode cX9_laysForm 135 = .ok (.iload_n 1, 1) := by decide +kernel
theorem dX9_laysForm_136 : decode cX9_laysForm 136 = .ok (.iaload, 1) := by decide +kernel
theorem dX9_laysForm_137 : decode cX9_laysForm 137 = .ok (.iload 7, 2) := by decide +kernel
theorem dX9_laysForm_139 : decode cX9_laysForm 139 = .ok (.ifCond .eq 7, 3) := by decide +kernel
theorem dX9_laysForm_142 : decode cX9_laysForm 142 = .ok (.iconst 1, 1) := by decide +kernel
theorem dX9_laysForm_143 : decode cX9_laysForm 143 = .ok (.goto 4, 3) := by decide +kernel
theorem dX9_laysForm_146 : decode cX9_laysForm 146 = .ok (.iconst 0, 1) := by decide +kernel
theorem dX9_laysForm_147 : decode cX9_laysForm 147 = .ok (.isub, 1) := by decide +kernel
theorem dX9_laysForm_148 : decode cX9_laysForm 148 = .ok (.if_icmp .ge 25, 3) := by decide +kernel
theorem dX9_laysForm_151 : decode cX9_laysForm 151 = .ok (.aload_n 0, 1) := by decide +kernel
theorem dX9_laysForm_152 : decode cX9_laysForm 152 = .ok (.aload_n 0, 1) := by decide +kernel
theorem dX9_laysForm_153 : decode cX9_laysForm 153 = .ok (.getfield 13, 3) := by decide +kernel
theorem dX9_laysForm_156 : decode cX9_laysForm 156 = .ok (.bipush 10, 2) := by decide +kernel
theorem dX9_laysForm_158 : decode cX9_laysForm 158 = .ok (.iload_n 1, 1) := by decide +kernel
theorem dX9_laysForm_159 : decode cX9_laysForm 159 = .ok (.imul, 1) := by decide +kernel
theorem dX9_laysForm_160 : decode cX9_laysForm 160 = .ok (.iload 8, 2) := by decide +kernel
theorem dX9_laysForm_162 : decode cX9_laysForm 162 = .ok (.iadd, 1) := by decide +kernel
theorem dX9_laysForm_163 : decode cX9_laysForm 163 = .ok (.caload, 1) := by decide +kernel
theorem dX9_laysForm_164 : decode cX9_laysForm 164 = .ok (.invokevirtual 158, 3) := by decide +kernel
theorem dX9_laysForm_167 : decode cX9_laysForm 167 = .ok (.iinc 8 1, 3) := by decide +kernel
theorem dX9_laysForm_170 : decode cX9_laysForm 170 = .ok (.goto (-41), 3) := by decide +kernel
theorem dX9_laysForm_173 : decode cX9_laysForm 173 = .ok (.iconst 0, 1) := by decide +kernel
theorem dX9_laysForm_174 : decode cX9_laysForm 174 = .ok (.istore 8, 2) := by decide +kernel
theorem dX9_laysForm_176 : decode cX9_laysForm 176 = .ok (.iload 8, 2) := by decide +kernel
theorem dX9_laysForm_178 : decode cX9_laysForm 178 = .ok (.aload_n 0, 1) := by decide +kernel
theorem dX9_laysForm_179 : decode cX9_laysForm 179 = .ok (.getfield 23, 3) := by decide +kernel
theorem dX9_laysForm_182 : decode cX9_laysForm 182 = .ok (.iload 4, 2) := by decide +kernel
theorem dX9_laysForm_184 : decode cX9_laysForm 184 = .ok (.iaload, 1) := by decide +kernel
theorem dX9_laysForm_185 : decode cX9_laysForm 185 = .ok (.if_icmp .ge 25, 3) := by decide +kernel
theorem dX9_laysForm_188 : decode cX9_laysForm 188 = .ok (.aload_n 0, 1) := by decide +kernel
theorem dX9_laysForm_189 : decode cX9_laysForm 189 = .ok (.aload_n 0, 1) := by decide +kernel
theorem dX9_laysForm_190 : decode cX9_laysForm 190 = .ok (.getfield 20, 3) := by decide +kernel
theorem dX9_laysForm_193 : decode cX9_laysForm 193 = .ok (.iconst 4, 1) := by decide +kernel
theorem dX9_laysForm_194 : decode cX9_laysForm 194 = .ok (.iload 4, 2) := by decide +kernel
theorem dX9_laysForm_196 : decode cX9_laysForm 196 = .ok (.imul, 1) := by decide +kernel
theorem dX9_laysForm_197 : decode cX9_laysForm 197 = .ok (.iload 8, 2) := by decide +kernel
theorem dX9_laysForm_199 : decode cX9_laysForm 199 = .ok (.iadd, 1) := by decide +kernel
theorem dX9_laysForm_200 : decode cX9_laysForm 200 = .ok (.caload, 1) := by decide +kernel
theorem dX9_laysForm_201 : decode cX9_laysForm 201 = .ok (.invokevirtual 158, 3) := by decide +kernel
theorem dX9_laysForm_204 : decode cX9_laysForm 204 = .ok (.iinc 8 1, 3) := by decide +kernel
theorem dX9_laysForm_207 : decode cX9_laysForm 207 = .ok (.goto (-31), 3) := by decide +kernel
theorem dX9_laysForm_210 : decode cX9_laysForm 210 = .ok (.return_, 1) := by decide +kernel
theorem dX9_grammar_0 : decode cX9_grammar 0 = .ok (.iconst 2, 1) := by decide +kernel
theorem dX9_grammar_1 : decode cX9_grammar 1 = .ok (.iload_n 0, 1) := by decide +kernel
theorem dX9_grammar_2 : decode cX9_grammar 2 = .ok (.bipush 110, 2) := by decide +kernel
theorem dX9_grammar_4 : decode cX9_grammar 4 = .ok (.if_icmp .ne 7, 3) := by decide +kernel
theorem dX9_grammar_7 : decode cX9_grammar 7 = .ok (.iconst 0, 1) := by decide +kernel
theorem dX9_grammar_8 : decode cX9_grammar 8 = .ok (.goto 24, 3) := by decide +kernel
theorem dX9_grammar_11 : decode cX9_grammar 11 = .ok (.iload_n 0, 1) := by decide +kernel
theorem dX9_grammar_12 : decode cX9_grammar 12 = .ok (.bipush 103, 2) := by decide +kernel
theorem dX9_grammar_14 : decode cX9_grammar 14 = .ok (.if_icmp .ne 7, 3) := by decide +kernel
theorem dX9_grammar_17 : decode cX9_grammar 17 = .ok (.iconst 1, 1) := by decide +kernel
theorem dX9_grammar_18 : decode cX9_grammar 18 = .ok (.goto 14, 3) := by decide +kernel
theorem dX9_grammar_21 : decode cX9_grammar 21 = .ok (.iload_n 0, 1) := by decide +kernel
theorem dX9_grammar_22 : decode cX9_grammar 22 = .ok (.bipush 100, 2) := by decide +kernel
theorem dX9_grammar_24 : decode cX9_grammar 24 = .ok (.if_icmp .ne 7, 3) := by decide +kernel
theorem dX9_grammar_27 : decode cX9_grammar 27 = .ok (.iconst 2, 1) := by decide +kernel
theorem dX9_grammar_28 : decode cX9_grammar 28 = .ok (.goto 4, 3) := by decide +kernel
theorem dX9_grammar_31 : decode cX9_grammar 31 = .ok (.iconst 3, 1) := by decide +kernel
theorem dX9_grammar_32 : decode cX9_grammar 32 = .ok (.imul, 1) := by decide +kernel
theorem dX9_grammar_33 : decode cX9_grammar 33 = .ok (.iload_n 1, 1) := by decide +kernel
theorem dX9_grammar_34 : decode cX9_grammar 34 = .ok (.bipush 112, 2) := by decide +kernel
theorem dX9_grammar_36 : decode cX9_grammar 36 = .ok (.if_icmp .ne 7, 3) := by decide +kernel
theorem dX9_grammar_39 : decode cX9_grammar 39 = .ok (.iconst 1, 1) := by decide +kernel
theorem dX9_grammar_40 : decode cX9_grammar 40 = .ok (.goto 4, 3) := by decide +kernel
theorem dX9_grammar_43 : decode cX9_grammar 43 = .ok (.iconst 0, 1) := by decide +kernel
theorem dX9_grammar_44 : decode cX9_grammar 44 = .ok (.iadd, 1) := by decide +kernel
theorem dX9_grammar_45 : decode cX9_grammar 45 = .ok (.ireturn, 1) := by decide +kernel
theorem dX9_laysText_0 : decode cX9_laysText 0 = .ok (.bipush 60, 2) := by decide +kernel
theorem dX9_laysText_2 : decode cX9_laysText 2 = .ok (.iload_n 1, 1) := by decide +kernel
theorem dX9_laysText_3 : decode cX9_laysText 3 = .ok (.imul, 1) := by decide +kernel
theorem dX9_laysText_4 : decode cX9_laysText 4 = .ok (.istore 4, 2) := by decide +kernel
theorem dX9_laysText_6 : decode cX9_laysText 6 = .ok (.iload 4, 2) := by decide +kernel
theorem dX9_laysText_8 : decode cX9_laysText 8 = .ok (.aload_n 0, 1) := by decide +kernel
theorem dX9_laysText_9 : decode cX9_laysText 9 = .ok (.getfield 38, 3) := by decide +kernel
theorem dX9_laysText_12 : decode cX9_laysText 12 = .ok (.iload_n 1, 1) := by decide +kernel
theorem dX9_laysText_13 : decode cX9_laysText 13 = .ok (.iaload, 1) := by decide +kernel
theorem dX9_laysText_14 : decode cX9_laysText 14 = .ok (.iadd, 1) := by decide +kernel
theorem dX9_laysText_15 : decode cX9_laysText 15 = .ok (.istore 5, 2) := by decide +kernel
theorem dX9_laysText_17 : decode cX9_laysText 17 = .ok (.iload 4, 2) := by decide +kernel
theorem dX9_laysText_19 : decode cX9_laysText 19 = .ok (.iload 5, 2) := by decide +kernel
theorem dX9_laysText_21 : decode cX9_laysText 21 = .ok (.if_icmp .ge 85, 3) := by decide +kernel
theorem dX9_laysText_24 : decode cX9_laysText 24 = .ok (.aload_n 0, 1) := by decide +kernel
theorem dX9_laysText_25 : decode cX9_laysText 25 = .ok (.getfield 35, 3) := by decide +kernel
theorem dX9_laysText_28 : decode cX9_laysText 28 = .ok (.iload 4, 2) := by decide +kernel
theorem dX9_laysText_30 : decode cX9_laysText 30 = .ok (.caload, 1) := by decide +kernel
theorem dX9_laysText_31 : decode cX9_laysText 31 = .ok (.bipush 91, 2) := by decide +kernel
theorem dX9_laysText_33 : decode cX9_laysText 33 = .ok (.if_icmp .ne 56, 3) := by decide +kernel
theorem dX9_laysText_36 : decode cX9_laysText 36 = .ok (.aload_n 0, 1) := by decide +kernel
theorem dX9_laysText_37 : decode cX9_laysText 37 = .ok (.aload_n 0, 1) := by decide +kernel
theorem dX9_laysText_38 : decode cX9_laysText 38 = .ok (.getfield 54, 3) := by decide +kernel
theorem dX9_laysText_41 : decode cX9_laysText 41 = .ok (.iconst 5, 1) := by decide +kernel
theorem dX9_laysText_42 : decode cX9_laysText 42 = .ok (.iload_n 2, 1) := by decide +kernel
theorem dX9_laysText_43 : decode cX9_laysText 43 = .ok (.imul, 1) := by decide +kernel
theorem dX9_laysText_44 : decode cX9_laysText 44 = .ok (.aload_n 0, 1) := by decide +kernel
theorem dX9_laysText_45 : decode cX9_laysText 45 = .ok (.getfield 35, 3) := by decide +kernel
theorem dX9_laysText_48 : decode cX9_laysText 48 = .ok (.iload 4, 2) := by decide +kernel
theorem dX9_laysText_50 : decode cX9_laysText 50 = .ok (.iconst 1, 1) := by decide +kernel
theorem dX9_laysText_51 : decode cX9_laysText 51 = .ok (.iadd, 1) := by decide +kernel
theorem dX9_laysText_52 : decode cX9_laysText 52 = .ok (.caload, 1) := by decide +kernel
theorem dX9_laysText_53 : decode cX9_laysText 53 = .ok (.iadd, 1) := by decide +kernel
theorem dX9_laysText_54 : decode cX9_laysText 54 = .ok (.bipush 48, 2) := by decide +kernel
theorem dX9_laysText_56 : decode cX9_laysText 56 = .ok (.isub, 1) := by decide +kernel
theorem dX9_laysText_57 : decode cX9_laysText 57 = .ok (.iaload, 1) := by decide +kernel
theorem dX9_laysText_58 : decode cX9_laysText 58 = .ok (.iload_n 3, 1) := by decide +kernel
theorem dX9_laysText_59 : decode cX9_laysText 59 = .ok (.aload_n 0, 1) := by decide +kernel
theorem dX9_laysText_60 : decode cX9_laysText 60 = .ok (.getfield 35, 3) := by decide +kernel
theorem dX9_laysText_63 : decode cX9_laysText 63 = .ok (.iload 4, 2) := by decide +kernel
theorem dX9_laysText_65 : decode cX9_laysText 65 = .ok (.iconst 2, 1) := by decide +kernel
theorem dX9_laysText_66 : decode cX9_laysText 66 = .ok (.iadd, 1) := by decide +kernel
theorem dX9_laysText_67 : decode cX9_laysText 67 = .ok (.caload, 1) := by decide +kernel
theorem dX9_laysText_68 : decode cX9_laysText 68 = .ok (.aload_n 0, 1) := by decide +kernel
theorem dX9_laysText_69 : decode cX9_laysText 69 = .ok (.getfield 35, 3) := by decide +kernel
theorem dX9_laysText_72 : decode cX9_laysText 72 = .ok (.iload 4, 2) := by decide +kernel
theorem dX9_laysText_74 : decode cX9_laysText 74 = .ok (.iconst 3, 1) := by decide +kernel
theorem dX9_laysText_75 : decode cX9_laysText 75 = .ok (.iadd, 1) := by decide +kernel
theorem dX9_laysText_76 : decode cX9_laysText 76 = .ok (.caload, 1) := by decide +kernel
theorem dX9_laysText_77 : decode cX9_laysText 77 = .ok (.invokestatic 165, 3) := by decide +kernel
theorem dX9_laysText_80 : decode cX9_laysText 80 = .ok (.invokevirtual 169, 3) := by decide +kernel
theorem dX9_laysText_83 : decode cX9_laysText 83 = .ok (.iinc 4 5, 3) := by decide +kernel
theorem dX9_laysText_86 : decode cX9_laysText 86 = .ok (.goto (-69), 3) := by decide +kernel
theorem dX9_laysText_89 : decode cX9_laysText 89 = .ok (.aload_n 0, 1) := by decide +kernel
theorem dX9_laysText_90 : decode cX9_laysText 90 = .ok (.aload_n 0, 1) := by decide +kernel
theorem dX9_laysText_91 : decode cX9_laysText 91 = .ok (.getfield 35, 3) := by decide +kernel
theorem dX9_laysText_94 : decode cX9_laysText 94 = .ok (.iload 4, 2) := by decide +kernel
theorem dX9_laysText_96 : decode cX9_laysText 96 = .ok (.caload, 1) := by decide +kernel
theorem dX9_laysText_97 : decode cX9_laysText 97 = .ok (.invokevirtual 158, 3) := by decide +kernel
theorem dX9_laysText_100 : decode cX9_laysText 100 = .ok (.iinc 4 1, 3) := by decide +kernel
theorem dX9_laysText_103 : decode cX9_laysText 103 = .ok (.goto (-86), 3) := by decide +kernel
theorem dX9_laysText_106 : decode cX9_laysText 106 = .ok (.return_, 1) := by decide +kernel
theorem dX9_builds_0 : decode cX9_builds 0 = .ok (.aload_n 0, 1) := by decide +kernel
theorem dX9_builds_1 : decode cX9_builds 1 = .ok (.iconst 0, 1) := by decide +kernel
theorem dX9_builds_2 : decode cX9_builds 2 = .ok (.putfield 151, 3) := by decide +kernel
theorem dX9_builds_5 : decode cX9_builds 5 = .ok (.aload_n 0, 1) := by decide +kernel
theorem dX9_builds_6 : decode cX9_builds 6 = .ok (.iconst 1, 1) := by decide +kernel
theorem dX9_builds_7 : decode cX9_builds 7 = .ok (.putfield 154, 3) := by decide +kernel
theorem dX9_builds_10 : decode cX9_builds 10 = .ok (.iconst 1, 1) := by decide +kernel
theorem dX9_builds_11 : decode cX9_builds 11 = .ok (.istore 4, 2) := by decide +kernel
theorem dX9_builds_13 : decode cX9_builds 13 = .ok (.iconst 0, 1) := by decide +kernel
theorem dX9_builds_14 : decode cX9_builds 14 = .ok (.istore 5, 2) := by decide +kernel
theorem dX9_builds_16 : decode cX9_builds 16 = .ok (.iload 5, 2) := by decide +kernel
theorem dX9_builds_18 : decode cX9_builds 18 = .ok (.aload_n 0, 1) := by decide +kernel
theorem dX9_builds_19 : decode cX9_builds 19 = .ok (.getfield 51, 3) := by decide +kernel
theorem dX9_builds_22 : decode cX9_builds 22 = .ok (.iload_n 1, 1) := by decide +kernel
theorem dX9_builds_23 : decode cX9_builds 23 = .ok (.iaload, 1) := by decide +kernel
theorem dX9_builds_24 : decode cX9_builds 24 = .ok (.if_icmp .ge 73, 3) := by decide +kernel
theorem dX9_builds_27 : decode cX9_builds 27 = .ok (.aload_n 0, 1) := by decide +kernel
theorem dX9_builds_28 : decode cX9_builds 28 = .ok (.getfield 48, 3) := by decide +kernel
theorem dX9_builds_31 : decode cX9_builds 31 = .ok (.bipush 6, 2) := by decide +kernel
theorem dX9_builds_33 : decode cX9_builds 33 = .ok (.iload_n 1, 1) := by decide +kernel
theorem dX9_builds_34 : decode cX9_builds 34 = .ok (.imul, 1) := by decide +kernel
theorem dX9_builds_35 : decode cX9_builds 35 = .ok (.iload 5, 2) := by decide +kernel
theorem dX9_builds_37 : decode cX9_builds 37 = .ok (.iadd, 1) := by decide +kernel
theorem dX9_builds_38 : decode cX9_builds 38 = .ok (.iaload, 1) := by decide +kernel
theorem dX9_builds_39 : decode cX9_builds 39 = .ok (.istore 6, 2) := by decide +kernel
theorem dX9_builds_41 : decode cX9_builds 41 = .ok (.iload 6, 2) := by decide +kernel
theorem dX9_builds_43 : decode cX9_builds 43 = .ok (.iload_n 3, 1) := by decide +kernel
theorem dX9_builds_44 : decode cX9_builds 44 = .ok (.invokestatic 128, 3) := by decide +kernel
theorem dX9_builds_47 : decode cX9_builds 47 = .ok (.istore 7, 2) := by decide +kernel
theorem dX9_builds_49 : decode cX9_builds 49 = .ok (.aload_n 0, 1) := by decide +kernel
theorem dX9_builds_50 : decode cX9_builds 50 = .ok (.iload_n 2, 1) := by decide +kernel
theorem dX9_builds_51 : decode cX9_builds 51 = .ok (.iload 6, 2) := by decide +kernel
theorem dX9_builds_53 : decode cX9_builds 53 = .ok (.invokevirtual 144, 3) := by decide +kernel
theorem dX9_builds_56 : decode cX9_builds 56 = .ok (.ifCond .eq 35, 3) := by decide +kernel
theorem dX9_builds_59 : decode cX9_builds 59 = .ok (.aload_n 0, 1) := by decide +kernel
theorem dX9_builds_60 : decode cX9_builds 60 = .ok (.getfield 38, 3) := by decide +kernel
theorem dX9_builds_63 : decode cX9_builds 63 = .ok (.iload 7, 2) := by decide +kernel
theorem dX9_builds_65 : decode cX9_builds 65 = .ok (.iaload, 1) := by decide +kernel
theorem dX9_builds_66 : decode cX9_builds 66 = .ok (.ifCond .le 25, 3) := by decide +kernel
theorem dX9_builds_69 : decode cX9_builds 69 = .ok (.iload 4, 2) := by decide +kernel
theorem dX9_builds_71 : decode cX9_builds 71 = .ok (.ifCond .ne 9, 3) := by decide +kernel
theorem dX9_builds_74 : decode cX9_builds 74 = .ok (.aload_n 0, 1) := by decide +kernel
theorem dX9_builds_75 : decode cX9_builds 75 = .ok (.bipush 32, 2) := by decide +kernel
theorem dX9_builds_77 : decode cX9_builds 77 = .ok (.invokevirtual 158, 3) := by decide +kernel
theorem dX9_builds_80 : decode cX9_builds 80 = .ok (.iconst 0, 1) := by decide +kernel
theorem dX9_builds_81 : decode cX9_builds 81 = .ok (.istore 4, 2) := by decide +kernel
theorem dX9_builds_83 : decode cX9_builds 83 = .ok (.aload_n 0, 1) := by decide +kernel
theorem dX9_builds_84 : decode cX9_builds 84 = .ok (.iload 7, 2) := by decide +kernel
theorem dX9_builds_86 : decode cX9_builds 86 = .ok (.iload_n 2, 1) := by decide +kernel
theorem dX9_builds_87 : decode cX9_builds 87 = .ok (.iload_n 3, 1) := by decide +kernel
theorem dX9_builds_88 : decode cX9_builds 88 = .ok (.invokevirtual 173, 3) := by decide +kernel
theorem dX9_builds_91 : decode cX9_builds 91 = .ok (.iinc 5 1, 3) := by decide +kernel
theorem dX9_builds_94 : decode cX9_builds 94 = .ok (.goto (-78), 3) := by decide +kernel
theorem dX9_builds_97 : decode cX9_builds 97 = .ok (.return_, 1) := by decide +kernel
theorem dX9_signOf_0 : decode cX9_signOf 0 = .ok (.aload_n 0, 1) := by decide +kernel
theorem dX9_signOf_1 : decode cX9_signOf 1 = .ok (.iload_n 1, 1) := by decide +kernel
theorem dX9_signOf_2 : decode cX9_signOf 2 = .ok (.invokevirtual 135, 3) := by decide +kernel
theorem dX9_signOf_5 : decode cX9_signOf 5 = .ok (.ifCond .eq 27, 3) := by decide +kernel
theorem dX9_signOf_8 : decode cX9_signOf 8 = .ok (.aload_n 0, 1) := by decide +kernel
theorem dX9_signOf_9 : decode cX9_signOf 9 = .ok (.iload_n 2, 1) := by decide +kernel
theorem dX9_signOf_10 : decode cX9_signOf 10 = .ok (.invokevirtual 141, 3) := by decide +kernel
theorem dX9_signOf_13 : decode cX9_signOf 13 = .ok (.ifCond .eq 19, 3) := by decide +kernel
theorem dX9_signOf_16 : decode cX9_signOf 16 = .ok (.iload_n 3, 1) := by decide +kernel
theorem dX9_signOf_17 : decode cX9_signOf 17 = .ok (.invokestatic 108, 3) := by decide +kernel
theorem dX9_signOf_20 : decode cX9_signOf 20 = .ok (.ifCond .eq 12, 3) := by decide +kernel
theorem dX9_signOf_23 : decode cX9_signOf 23 = .ok (.iload 4, 2) := by decide +kernel
theorem dX9_signOf_25 : decode cX9_signOf 25 = .ok (.ifCond .lt 7, 3) := by decide +kernel
theorem dX9_signOf_28 : decode cX9_signOf 28 = .ok (.iconst 1, 1) := by decide +kernel
theorem dX9_signOf_29 : decode cX9_signOf 29 = .ok (.goto 4, 3) := by decide +kernel
theorem dX9_signOf_32 : decode cX9_signOf 32 = .ok (.iconst 0, 1) := by decide +kernel
theorem dX9_signOf_33 : decode cX9_signOf 33 = .ok (.istore 5, 2) := by decide +kernel
theorem dX9_signOf_35 : decode cX9_signOf 35 = .ok (.aload_n 0, 1) := by decide +kernel
theorem dX9_signOf_36 : decode cX9_signOf 36 = .ok (.iload 5, 2) := by decide +kernel
theorem dX9_signOf_38 : decode cX9_signOf 38 = .ok (.ifCond .eq 7, 3) := by decide +kernel
theorem dX9_signOf_41 : decode cX9_signOf 41 = .ok (.iconst 0, 1) := by decide +kernel
theorem dX9_signOf_42 : decode cX9_signOf 42 = .ok (.goto 4, 3) := by decide +kernel
theorem dX9_signOf_45 : decode cX9_signOf 45 = .ok (.iconst 1, 1) := by decide +kernel
theorem dX9_signOf_46 : decode cX9_signOf 46 = .ok (.invokevirtual 92, 3) := by decide +kernel
theorem dX9_signOf_49 : decode cX9_signOf 49 = .ok (.ifCond .ne 5, 3) := by decide +kernel
theorem dX9_signOf_52 : decode cX9_signOf 52 = .ok (.iconst 0, 1) := by decide +kernel
theorem dX9_signOf_53 : decode cX9_signOf 53 = .ok (.ireturn, 1) := by decide +kernel
theorem dX9_signOf_54 : decode cX9_signOf 54 = .ok (.aload_n 0, 1) := by decide +kernel
theorem dX9_signOf_55 : decode cX9_signOf 55 = .ok (.iload_n 1, 1) := by decide +kernel
theorem dX9_signOf_56 : decode cX9_signOf 56 = .ok (.iload_n 2, 1) := by decide +kernel
theorem dX9_signOf_57 : decode cX9_signOf 57 = .ok (.iload_n 3, 1) := by decide +kernel
theorem dX9_signOf_58 : decode cX9_signOf 58 = .ok (.invokevirtual 176, 3) := by decide +kernel
theorem dX9_signOf_61 : decode cX9_signOf 61 = .ok (.iload 4, 2) := by decide +kernel
theorem dX9_signOf_63 : decode cX9_signOf 63 = .ok (.aload_n 0, 1) := by decide +kernel
theorem dX9_signOf_64 : decode cX9_signOf 64 = .ok (.getfield 151, 3) := by decide +kernel
theorem dX9_signOf_67 : decode cX9_signOf 67 = .ok (.if_icmp .ge 13, 3) := by decide +kernel
theorem dX9_signOf_70 : decode cX9_signOf 70 = .ok (.aload_n 0, 1) := by decide +kernel
theorem dX9_signOf_71 : decode cX9_signOf 71 = .ok (.getfield 63, 3) := by decide +kernel
theorem dX9_signOf_74 : decode cX9_signOf 74 = .ok (.iload 4, 2) := by decide +kernel
theorem dX9_signOf_76 : decode cX9_signOf 76 = .ok (.caload, 1) := by decide +kernel
theorem dX9_signOf_77 : decode cX9_signOf 77 = .ok (.goto 4, 3) := by decide +kernel
theorem dX9_signOf_80 : decode cX9_signOf 80 = .ok (.iconst 0, 1) := by decide +kernel
theorem dX9_signOf_81 : decode cX9_signOf 81 = .ok (.ireturn, 1) := by decide +kernel
theorem dX9_sign_0 : decode cX9_sign 0 = .ok (.aload_n 0, 1) := by decide +kernel
theorem dX9_sign_1 : decode cX9_sign 1 = .ok (.iload_n 1, 1) := by decide +kernel
theorem dX9_sign_2 : decode cX9_sign 2 = .ok (.iload_n 2, 1) := by decide +kernel
theorem dX9_sign_3 : decode cX9_sign 3 = .ok (.iload_n 3, 1) := by decide +kernel
theorem dX9_sign_4 : decode cX9_sign 4 = .ok (.iload 4, 2) := by decide +kernel
theorem dX9_sign_6 : decode cX9_sign 6 = .ok (.invokevirtual 179, 3) := by decide +kernel
theorem dX9_sign_9 : decode cX9_sign 9 = .ok (.ireturn, 1) := by decide +kernel
theorem dX9_signAnew_0 : decode cX9_signAnew 0 = .ok (.aload_n 0, 1) := by decide +kernel
theorem dX9_signAnew_1 : decode cX9_signAnew 1 = .ok (.iload_n 1, 1) := by decide +kernel
theorem dX9_signAnew_2 : decode cX9_signAnew 2 = .ok (.iload_n 2, 1) := by decide +kernel
theorem dX9_signAnew_3 : decode cX9_signAnew 3 = .ok (.iload_n 3, 1) := by decide +kernel
theorem dX9_signAnew_4 : decode cX9_signAnew 4 = .ok (.iload 4, 2) := by decide +kernel
theorem dX9_signAnew_6 : decode cX9_signAnew 6 = .ok (.invokevirtual 179, 3) := by decide +kernel
theorem dX9_signAnew_9 : decode cX9_signAnew 9 = .ok (.ireturn, 1) := by decide +kernel
theorem dX9_costs_0 : decode cX9_costs 0 = .ok (.aload_n 0, 1) := by decide +kernel
theorem dX9_costs_1 : decode cX9_costs 1 = .ok (.iload_n 1, 1) := by decide +kernel
theorem dX9_costs_2 : decode cX9_costs 2 = .ok (.invokevirtual 135, 3) := by decide +kernel
theorem dX9_costs_5 : decode cX9_costs 5 = .ok (.ifCond .eq 22, 3) := by decide +kernel
theorem dX9_costs_8 : decode cX9_costs 8 = .ok (.aload_n 0, 1) := by decide +kernel
theorem dX9_costs_9 : decode cX9_costs 9 = .ok (.iload_n 2, 1) := by decide +kernel
theorem dX9_costs_10 : decode cX9_costs 10 = .ok (.invokevirtual 141, 3) := by decide +kernel
theorem dX9_costs_13 : decode cX9_costs 13 = .ok (.ifCond .eq 14, 3) := by decide +kernel
theorem dX9_costs_16 : decode cX9_costs 16 = .ok (.iload_n 3, 1) := by decide +kernel
theorem dX9_costs_17 : decode cX9_costs 17 = .ok (.invokestatic 108, 3) := by decide +kernel
theorem dX9_costs_20 : decode cX9_costs 20 = .ok (.ifCond .eq 7, 3) := by decide +kernel
theorem dX9_costs_23 : decode cX9_costs 23 = .ok (.iconst 1, 1) := by decide +kernel
theorem dX9_costs_24 : decode cX9_costs 24 = .ok (.goto 4, 3) := by decide +kernel
theorem dX9_costs_27 : decode cX9_costs 27 = .ok (.iconst 0, 1) := by decide +kernel
theorem dX9_costs_28 : decode cX9_costs 28 = .ok (.istore 4, 2) := by decide +kernel
theorem dX9_costs_30 : decode cX9_costs 30 = .ok (.aload_n 0, 1) := by decide +kernel
theorem dX9_costs_31 : decode cX9_costs 31 = .ok (.iload 4, 2) := by decide +kernel
theorem dX9_costs_33 : decode cX9_costs 33 = .ok (.ifCond .eq 7, 3) := by decide +kernel
theorem dX9_costs_36 : decode cX9_costs 36 = .ok (.iconst 0, 1) := by decide +kernel
theorem dX9_costs_37 : decode cX9_costs 37 = .ok (.goto 4, 3) := by decide +kernel
theorem dX9_costs_40 : decode cX9_costs 40 = .ok (.iconst 1, 1) := by decide +kernel
theorem dX9_costs_41 : decode cX9_costs 41 = .ok (.invokevirtual 92, 3) := by decide +kernel
theorem dX9_costs_44 : decode cX9_costs 44 = .ok (.ifCond .ne 5, 3) := by decide +kernel
theorem dX9_costs_47 : decode cX9_costs 47 = .ok (.iconst 0, 1) := by decide +kernel
theorem dX9_costs_48 : decode cX9_costs 48 = .ok (.ireturn, 1) := by decide +kernel
theorem dX9_costs_49 : decode cX9_costs 49 = .ok (.aload_n 0, 1) := by decide +kernel
theorem dX9_costs_50 : decode cX9_costs 50 = .ok (.iload_n 1, 1) := by decide +kernel
theorem dX9_costs_51 : decode cX9_costs 51 = .ok (.iload_n 2, 1) := by decide +kernel
theorem dX9_costs_52 : decode cX9_costs 52 = .ok (.iload_n 3, 1) := by decide +kernel
theorem dX9_costs_53 : decode cX9_costs 53 = .ok (.invokevirtual 176, 3) := by decide +kernel
theorem dX9_costs_56 : decode cX9_costs 56 = .ok (.iconst 0, 1) := by decide +kernel
theorem dX9_costs_57 : decode cX9_costs 57 = .ok (.istore 5, 2) := by decide +kernel
theorem dX9_costs_59 : decode cX9_costs 59 = .ok (.iconst 0, 1) := by decide +kernel
theorem dX9_costs_60 : decode cX9_costs 60 = .ok (.istore 6, 2) := by decide +kernel
theorem dX9_costs_62 : decode cX9_costs 62 = .ok (.iconst 0, 1) := by decide +kernel
theorem dX9_costs_63 : decode cX9_costs 63 = .ok (.istore 7, 2) := by decide +kernel
theorem dX9_costs_65 : decode cX9_costs 65 = .ok (.iload 7, 2) := by decide +kernel
theorem dX9_costs_67 : decode cX9_costs 67 = .ok (.aload_n 0, 1) := by decide +kernel
theorem dX9_costs_68 : decode cX9_costs 68 = .ok (.getfield 151, 3) := by decide +kernel
theorem dX9_costs_71 : decode cX9_costs 71 = .ok (.if_icmp .ge 77, 3) := by decide +kernel
theorem dX9_costs_74 : decode cX9_costs 74 = .ok (.aload_n 0, 1) := by decide +kernel
theorem dX9_costs_75 : decode cX9_costs 75 = .ok (.getfield 63, 3) := by decide +kernel
theorem dX9_costs_78 : decode cX9_costs 78 = .ok (.iload 7, 2) := by decide +kernel
theorem dX9_costs_80 : decode cX9_costs 80 = .ok (.caload, 1) := by decide +kernel
theorem dX9_costs_81 : decode cX9_costs 81 = .ok (.invokestatic 96, 3) := by decide +kernel
theorem dX9_costs_84 : decode cX9_costs 84 = .ok (.ifCond .ne 27, 3) := by decide +kernel
theorem dX9_costs_87 : decode cX9_costs 87 = .ok (.aload_n 0, 1) := by decide +kernel
theorem dX9_costs_88 : decode cX9_costs 88 = .ok (.getfield 63, 3) := by decide +kernel
theorem dX9_costs_91 : decode cX9_costs 91 = .ok (.iload 7, 2) := by decide +kernel
theorem dX9_costs_93 : decode cX9_costs 93 = .ok (.caload, 1) := by decide +kernel
theorem dX9_costs_94 : decode cX9_costs 94 = .ok (.bipush 65, 2) := by decide +kernel
theorem dX9_costs_96 : decode cX9_costs 96 = .ok (.if_icmp .lt 19, 3) := by decide +kernel
theorem dX9_costs_99 : decode cX9_costs 99 = .ok (.aload_n 0, 1) := by decide +kernel
theorem dX9_costs_100 : decode cX9_costs 100 = .ok (.getfield 63, 3) := by decide +kernel
theorem dX9_costs_103 : decode cX9_costs 103 = .ok (.iload 7, 2) := by decide +kernel
theorem dX9_costs_105 : decode cX9_costs 105 = .ok (.caload, 1) := by decide +kernel
theorem dX9_costs_106 : decode cX9_costs 106 = .ok (.bipush 90, 2) := by decide +kernel
theorem dX9_costs_108 : decode cX9_costs 108 = .ok (.if_icmp .gt 7, 3) := by decide +kernel
theorem dX9_costs_111 : decode cX9_costs 111 = .ok (.iconst 1, 1) := by decide +kernel
theorem dX9_costs_112 : decode cX9_costs 112 = .ok (.goto 4, 3) := by decide +kernel
theorem dX9_costs_115 : decode cX9_costs 115 = .ok (.iconst 0, 1) := by decide +kernel
theorem dX9_costs_116 : decode cX9_costs 116 = .ok (.istore 8, 2) := by decide +kernel
theorem dX9_costs_118 : decode cX9_costs 118 = .ok (.iload 5, 2) := by decide +kernel
theorem dX9_costs_120 : decode cX9_costs 120 = .ok (.iload 8, 2) := by decide +kernel
theorem dX9_costs_122 : decode cX9_costs 122 = .ok (.ifCond .eq 12, 3) := by decide +kernel
theorem dX9_costs_125 : decode cX9_costs 125 = .ok (.iload 6, 2) := by decide +kernel
theorem dX9_costs_127 : decode cX9_costs 127 = .ok (.ifCond .ne 7, 3) := by decide +kernel
theorem dX9_costs_130 : decode cX9_costs 130 = .ok (.iconst 1, 1) := by decide +kernel
theorem dX9_costs_131 : decode cX9_costs 131 = .ok (.goto 4, 3) := by decide +kernel
theorem dX9_costs_134 : decode cX9_costs 134 = .ok (.iconst 0, 1) := by decide +kernel
theorem dX9_costs_135 : decode cX9_costs 135 = .ok (.iadd, 1) := by decide +kernel
theorem dX9_costs_136 : decode cX9_costs 136 = .ok (.istore 5, 2) := by decide +kernel
theorem dX9_costs_138 : decode cX9_costs 138 = .ok (.iload 8, 2) := by decide +kernel
theorem dX9_costs_140 : decode cX9_costs 140 = .ok (.istore 6, 2) := by decide +kernel
theorem dX9_costs_142 : decode cX9_costs 142 = .ok (.iinc 7 1, 3) := by decide +kernel
theorem dX9_costs_145 : decode cX9_costs 145 = .ok (.goto (-80), 3) := by decide +kernel
theorem dX9_costs_148 : decode cX9_costs 148 = .ok (.iload 5, 2) := by decide +kernel
theorem dX9_costs_150 : decode cX9_costs 150 = .ok (.aload_n 0, 1) := by decide +kernel
theorem dX9_costs_151 : decode cX9_costs 151 = .ok (.getfield 60, 3) := by decide +kernel
theorem dX9_costs_154 : decode cX9_costs 154 = .ok (.iload_n 3, 1) := by decide +kernel
theorem dX9_costs_155 : decode cX9_costs 155 = .ok (.iaload, 1) := by decide +kernel
theorem dX9_costs_156 : decode cX9_costs 156 = .ok (.imul, 1) := by decide +kernel
theorem dX9_costs_157 : decode cX9_costs 157 = .ok (.ireturn, 1) := by decide +kernel
theorem dX9_branches_0 : decode cX9_branches 0 = .ok (.iconst 0, 1) := by decide +kernel
theorem dX9_branches_1 : decode cX9_branches 1 = .ok (.istore_n 3, 1) := by decide +kernel
theorem dX9_branches_2 : decode cX9_branches 2 = .ok (.iconst 0, 1) := by decide +kernel
theorem dX9_branches_3 : decode cX9_branches 3 = .ok (.istore 4, 2) := by decide +kernel
theorem dX9_branches_5 : decode cX9_branches 5 = .ok (.iload 4, 2) := by decide +kernel
theorem dX9_branches_7 : decode cX9_branches 7 = .ok (.aload_n 0, 1) := by decide +kernel
theorem dX9_branches_8 : decode cX9_branches 8 = .ok (.getfield 51, 3) := by decide +kernel
theorem dX9_branches_11 : decode cX9_branches 11 = .ok (.iload_n 1, 1) := by decide +kernel
theorem dX9_branches_12 : decode cX9_branches 12 = .ok (.iaload, 1) := by decide +kernel
theorem dX9_branches_13 : decode cX9_branches 13 = .ok (.if_icmp .ge 70, 3) := by decide +kernel
theorem dX9_branches_16 : decode cX9_branches 16 = .ok (.aload_n 0, 1) := by decide +kernel
theorem dX9_branches_17 : decode cX9_branches 17 = .ok (.getfield 48, 3) := by decide +kernel
theorem dX9_branches_20 : decode cX9_branches 20 = .ok (.bipush 6, 2) := by decide +kernel
theorem dX9_branches_22 : decode cX9_branches 22 = .ok (.iload_n 1, 1) := by decide +kernel
theorem dX9_branches_23 : decode cX9_branches 23 = .ok (.imul, 1) := by decide +kernel
theorem dX9_branches_24 : decode cX9_branches 24 = .ok (.iload 4, 2) := by decide +kernel
theorem dX9_branches_26 : decode cX9_branches 26 = .ok (.iadd, 1) := by decide +kernel
theorem dX9_branches_27 : decode cX9_branches 27 = .ok (.iaload, 1) := by decide +kernel
theorem dX9_branches_28 : decode cX9_branches 28 = .ok (.istore 5, 2) := by decide +kernel
theorem dX9_branches_30 : decode cX9_branches 30 = .ok (.iload_n 3, 1) := by decide +kernel
theorem dX9_branches_31 : decode cX9_branches 31 = .ok (.aload_n 0, 1) := by decide +kernel
theorem dX9_branches_32 : decode cX9_branches 32 = .ok (.getfield 32, 3) := by decide +kernel
theorem dX9_branches_35 : decode cX9_branches 35 = .ok (.iload 5, 2) := by decide +kernel
theorem dX9_branches_37 : decode cX9_branches 37 = .ok (.iaload, 1) := by decide +kernel
theorem dX9_branches_38 : decode cX9_branches 38 = .ok (.iconst (-1), 1) := by decide +kernel
theorem dX9_branches_39 : decode cX9_branches 39 = .ok (.if_icmp .eq 35, 3) := by decide +kernel
theorem dX9_branches_42 : decode cX9_branches 42 = .ok (.aload_n 0, 1) := by decide +kernel
theorem dX9_branches_43 : decode cX9_branches 43 = .ok (.getfield 66, 3) := by decide +kernel
theorem dX9_branches_46 : decode cX9_branches 46 = .ok (.iconst 2, 1) := by decide +kernel
theorem dX9_branches_47 : decode cX9_branches 47 = .ok (.iload 5, 2) := by decide +kernel
theorem dX9_branches_49 : decode cX9_branches 49 = .ok (.imul, 1) := by decide +kernel
theorem dX9_branches_50 : decode cX9_branches 50 = .ok (.aload_n 0, 1) := by decide +kernel
theorem dX9_branches_51 : decode cX9_branches 51 = .ok (.iload_n 2, 1) := by decide +kernel
theorem dX9_branches_52 : decode cX9_branches 52 = .ok (.iload 5, 2) := by decide +kernel
theorem dX9_branches_54 : decode cX9_branches 54 = .ok (.invokevirtual 144, 3) := by decide +kernel
theorem dX9_branches_57 : decode cX9_branches 57 = .ok (.ifCond .eq 7, 3) := by decide +kernel
theorem dX9_branches_60 : decode cX9_branches 60 = .ok (.iconst 1, 1) := by decide +kernel
theorem dX9_branches_61 : decode cX9_branches 61 = .ok (.goto 4, 3) := by decide +kernel
theorem dX9_branches_64 : decode cX9_branches 64 = .ok (.iconst 0, 1) := by decide +kernel
theorem dX9_branches_65 : decode cX9_branches 65 = .ok (.iadd, 1) := by decide +kernel
theorem dX9_branches_66 : decode cX9_branches 66 = .ok (.baload, 1) := by decide +kernel
theorem dX9_branches_67 : decode cX9_branches 67 = .ok (.ifCond .ne 7, 3) := by decide +kernel
theorem dX9_branches_70 : decode cX9_branches 70 = .ok (.iconst 1, 1) := by decide +kernel
theorem dX9_branches_71 : decode cX9_branches 71 = .ok (.goto 4, 3) := by decide +kernel
theorem dX9_branches_74 : decode cX9_branches 74 = .ok (.iconst 0, 1) := by decide +kernel
theorem dX9_branches_75 : decode cX9_branches 75 = .ok (.iadd, 1) := by decide +kernel
theorem dX9_branches_76 : decode cX9_branches 76 = .ok (.istore_n 3, 1) := by decide +kernel
theorem dX9_branches_77 : decode cX9_branches 77 = .ok (.iinc 4 1, 3) := by decide +kernel
theorem dX9_branches_80 : decode cX9_branches 80 = .ok (.goto (-75), 3) := by decide +kernel
theorem dX9_branches_83 : decode cX9_branches 83 = .ok (.iload_n 3, 1) := by decide +kernel
theorem dX9_branches_84 : decode cX9_branches 84 = .ok (.ireturn, 1) := by decide +kernel
theorem dX9_sample_0 : decode cX9_sample 0 = .ok (.aload_n 0, 1) := by decide +kernel
theorem dX9_sample_1 : decode cX9_sample 1 = .ok (.iload_n 1, 1) := by decide +kernel
theorem dX9_sample_2 : decode cX9_sample 2 = .ok (.invokevirtual 135, 3) := by decide +kernel
theorem dX9_sample_5 : decode cX9_sample 5 = .ok (.ifCond .eq 11, 3) := by decide +kernel
theorem dX9_sample_8 : decode cX9_sample 8 = .ok (.iload_n 2, 1) := by decide +kernel
theorem dX9_sample_9 : decode cX9_sample 9 = .ok (.ifCond .lt 7, 3) := by decide +kernel
theorem dX9_sample_12 : decode cX9_sample 12 = .ok (.iconst 1, 1) := by decide +kernel
theorem dX9_sample_13 : decode cX9_sample 13 = .ok (.goto 4, 3) := by decide +kernel
theorem dX9_sample_16 : decode cX9_sample 16 = .ok (.iconst 0, 1) := by decide +kernel
theorem dX9_sample_17 : decode cX9_sample 17 = .ok (.istore_n 3, 1) := by decide +kernel
theorem dX9_sample_18 : decode cX9_sample 18 = .ok (.aload_n 0, 1) := by decide +kernel
theorem dX9_sample_19 : decode cX9_sample 19 = .ok (.iload_n 3, 1) := by decide +kernel
theorem dX9_sample_20 : decode cX9_sample 20 = .ok (.ifCond .eq 7, 3) := by decide +kernel
theorem dX9_sample_23 : decode cX9_sample 23 = .ok (.iconst 0, 1) := by decide +kernel
theorem dX9_sample_24 : decode cX9_sample 24 = .ok (.goto 4, 3) := by decide +kernel
theorem dX9_sample_27 : decode cX9_sample 27 = .ok (.iconst 1, 1) := by decide +kernel
theorem dX9_sample_28 : decode cX9_sample 28 = .ok (.invokevirtual 92, 3) := by decide +kernel
theorem dX9_sample_31 : decode cX9_sample 31 = .ok (.ifCond .ne 5, 3) := by decide +kernel
theorem dX9_sample_34 : decode cX9_sample 34 = .ok (.iconst 0, 1) := by decide +kernel
theorem dX9_sample_35 : decode cX9_sample 35 = .ok (.ireturn, 1) := by decide +kernel
theorem dX9_sample_36 : decode cX9_sample 36 = .ok (.iconst 0, 1) := by decide +kernel
theorem dX9_sample_37 : decode cX9_sample 37 = .ok (.istore 4, 2) := by decide +kernel
theorem dX9_sample_39 : decode cX9_sample 39 = .ok (.iload 4, 2) := by decide +kernel
theorem dX9_sample_41 : decode cX9_sample 41 = .ok (.bipush 20, 2) := by decide +kernel
theorem dX9_sample_43 : decode cX9_sample 43 = .ok (.if_icmp .ge 17, 3) := by decide +kernel
theorem dX9_sample_46 : decode cX9_sample 46 = .ok (.aload_n 0, 1) := by decide +kernel
theorem dX9_sample_47 : decode cX9_sample 47 = .ok (.getfield 66, 3) := by decide +kernel
theorem dX9_sample_50 : decode cX9_sample 50 = .ok (.iload 4, 2) := by decide +kernel
theorem dX9_sample_52 : decode cX9_sample 52 = .ok (.iconst 0, 1) := by decide +kernel
theorem dX9_sample_53 : decode cX9_sample 53 = .ok (.bastore, 1) := by decide +kernel
theorem dX9_sample_54 : decode cX9_sample 54 = .ok (.iinc 4 1, 3) := by decide +kernel
theorem dX9_sample_57 : decode cX9_sample 57 = .ok (.goto (-18), 3) := by decide +kernel
theorem dX9_sample_60 : decode cX9_sample 60 = .ok (.iload_n 2, 1) := by decide +kernel
theorem dX9_sample_61 : decode cX9_sample 61 = .ok (.istore 4, 2) := by decide +kernel
theorem dX9_sample_63 : decode cX9_sample 63 = .ok (.iload 4, 2) := by decide +kernel
theorem dX9_sample_65 : decode cX9_sample 65 = .ok (.ifCond .lt 141, 3) := by decide +kernel
theorem dX9_sample_68 : decode cX9_sample 68 = .ok (.iconst (-1), 1) := by decide +kernel
theorem dX9_sample_69 : decode cX9_sample 69 = .ok (.istore 5, 2) := by decide +kernel
theorem dX9_sample_71 : decode cX9_sample 71 = .ok (.iconst 0, 1) := by decide +kernel
theorem dX9_sample_72 : decode cX9_sample 72 = .ok (.istore 6, 2) := by decide +kernel
theorem dX9_sample_74 : decode cX9_sample 74 = .ok (.iload 6, 2) := by decide +kernel
theorem dX9_sample_76 : decode cX9_sample 76 = .ok (.aload_n 0, 1) := by decide +kernel
theorem dX9_sample_77 : decode cX9_sample 77 = .ok (.getfield 86, 3) := by decide +kernel
theorem dX9_sample_80 : decode cX9_sample 80 = .ok (.if_icmp .ge 45, 3) := by decide +kernel
theorem dX9_sample_83 : decode cX9_sample 83 = .ok (.aload_n 0, 1) := by decide +kernel
theorem dX9_sample_84 : decode cX9_sample 84 = .ok (.iload_n 1, 1) := by decide +kernel
theorem dX9_sample_85 : decode cX9_sample 85 = .ok (.iload 6, 2) := by decide +kernel
theorem dX9_sample_87 : decode cX9_sample 87 = .ok (.invokevirtual 183, 3) := by decide +kernel
theorem dX9_sample_90 : decode cX9_sample 90 = .ok (.iload 5, 2) := by decide +kernel
theorem dX9_sample_92 : decode cX9_sample 92 = .ok (.iconst (-1), 1) := by decide +kernel
theorem dX9_sample_93 : decode cX9_sample 93 = .ok (.if_icmp .ne 7, 3) := by decide +kernel
theorem dX9_sample_96 : decode cX9_sample 96 = .ok (.iconst 0, 1) := by decide +kernel
theorem dX9_sample_97 : decode cX9_sample 97 = .ok (.goto 10, 3) := by decide +kernel
theorem dX9_sample_100 : decode cX9_sample 100 = .ok (.aload_n 0, 1) := by decide +kernel
theorem dX9_sample_101 : decode cX9_sample 101 = .ok (.iload_n 1, 1) := by decide +kernel
theorem dX9_sample_102 : decode cX9_sample 102 = .ok (.iload 5, 2) := by decide +kernel
theorem dX9_sample_104 : decode cX9_sample 104 = .ok (.invokevirtual 183, 3) := by decide +kernel
theorem dX9_sample_107 : decode cX9_sample 107 = .ok (.if_icmp .le 8, 3) := by decide +kernel
theorem dX9_sample_110 : decode cX9_sample 110 = .ok (.iload 6, 2) := by decide +kernel
theorem dX9_sample_112 : decode cX9_sample 112 = .ok (.goto 5, 3) := by decide +kernel
theorem dX9_sample_115 : decode cX9_sample 115 = .ok (.iload 5, 2) := by decide +kernel
theorem dX9_sample_117 : decode cX9_sample 117 = .ok (.istore 5, 2) := by decide +kernel
theorem dX9_sample_119 : decode cX9_sample 119 = .ok (.iinc 6 1, 3) := by decide +kernel
theorem dX9_sample_122 : decode cX9_sample 122 = .ok (.goto (-48), 3) := by decide +kernel
theorem dX9_sample_125 : decode cX9_sample 125 = .ok (.iload 5, 2) := by decide +kernel
theorem dX9_sample_127 : decode cX9_sample 127 = .ok (.iconst (-1), 1) := by decide +kernel
theorem dX9_sample_128 : decode cX9_sample 128 = .ok (.if_icmp .eq 8, 3) := by decide +kernel
theorem dX9_sample_131 : decode cX9_sample 131 = .ok (.iload 4, 2) := by decide +kernel
theorem dX9_sample_133 : decode cX9_sample 133 = .ok (.ifCond .ne 6, 3) := by decide +kernel
theorem dX9_sample_136 : decode cX9_sample 136 = .ok (.iload 5, 2) := by decide +kernel
theorem dX9_sample_138 : decode cX9_sample 138 = .ok (.ireturn, 1) := by decide +kernel
theorem dX9_sample_139 : decode cX9_sample 139 = .ok (.iconst 0, 1) := by decide +kernel
theorem dX9_sample_140 : decode cX9_sample 140 = .ok (.istore 6, 2) := by decide +kernel
theorem dX9_sample_142 : decode cX9_sample 142 = .ok (.iload 6, 2) := by decide +kernel
theorem dX9_sample_144 : decode cX9_sample 144 = .ok (.aload_n 0, 1) := by decide +kernel
theorem dX9_sample_145 : decode cX9_sample 145 = .ok (.getfield 51, 3) := by decide +kernel
theorem dX9_sample_148 : decode cX9_sample 148 = .ok (.iload_n 1, 1) := by decide +kernel
theorem dX9_sample_149 : decode cX9_sample 149 = .ok (.iaload, 1) := by decide +kernel
theorem dX9_sample_150 : decode cX9_sample 150 = .ok (.if_icmp .ge 50, 3) := by decide +kernel
theorem dX9_sample_153 : decode cX9_sample 153 = .ok (.aload_n 0, 1) := by decide +kernel
theorem dX9_sample_154 : decode cX9_sample 154 = .ok (.getfield 48, 3) := by decide +kernel
theorem dX9_sample_157 : decode cX9_sample 157 = .ok (.bipush 6, 2) := by decide +kernel
theorem dX9_sample_159 : decode cX9_sample 159 = .ok (.iload_n 1, 1) := by decide +kernel
theorem dX9_sample_160 : decode cX9_sample 160 = .ok (.imul, 1) := by decide +kernel
theorem dX9_sample_161 : decode cX9_sample 161 = .ok (.iload 6, 2) := by decide +kernel
theorem dX9_sample_163 : decode cX9_sample 163 = .ok (.iadd, 1) := by decide +kernel
theorem dX9_sample_164 : decode cX9_sample 164 = .ok (.iaload, 1) := by decide +kernel
theorem dX9_sample_165 : decode cX9_sample 165 = .ok (.istore 7, 2) := by decide +kernel
theorem dX9_sample_167 : decode cX9_sample 167 = .ok (.aload_n 0, 1) := by decide +kernel
theorem dX9_sample_168 : decode cX9_sample 168 = .ok (.getfield 66, 3) := by decide +kernel
theorem dX9_sample_171 : decode cX9_sample 171 = .ok (.iconst 2, 1) := by decide +kernel
theorem dX9_sample_172 : decode cX9_sample 172 = .ok (.iload 7, 2) := by decide +kernel
theorem dX9_sample_174 : decode cX9_sample 174 = .ok (.imul, 1) := by decide +kernel
theorem dX9_sample_175 : decode cX9_sample 175 = .ok (.aload_n 0, 1) := by decide +kernel
theorem dX9_sample_176 : decode cX9_sample 176 = .ok (.iload 5, 2) := by decide +kernel
theorem dX9_sample_178 : decode cX9_sample 178 = .ok (.iload 7, 2) := by decide +kernel
theorem dX9_sample_180 : decode cX9_sample 180 = .ok (.invokevirtual 144, 3) := by decide +kernel
theorem dX9_sample_183 : decode cX9_sample 183 = .ok (.ifCond .eq 7, 3) := by decide +kernel
theorem dX9_sample_186 : decode cX9_sample 186 = .ok (.iconst 1, 1) := by decide +kernel
theorem dX9_sample_187 : decode cX9_sample 187 = .ok (.goto 4, 3) := by decide +kernel
theorem dX9_sample_190 : decode cX9_sample 190 = .ok (.iconst 0, 1) := by decide +kernel
theorem dX9_sample_191 : decode cX9_sample 191 = .ok (.iadd, 1) := by decide +kernel
theorem dX9_sample_192 : decode cX9_sample 192 = .ok (.iconst 1, 1) := by decide +kernel
theorem dX9_sample_193 : decode cX9_sample 193 = .ok (.bastore, 1) := by decide +kernel
theorem dX9_sample_194 : decode cX9_sample 194 = .ok (.iinc 6 1, 3) := by decide +kernel
theorem dX9_sample_197 : decode cX9_sample 197 = .ok (.goto (-55), 3) := by decide +kernel
theorem dX9_sample_200 : decode cX9_sample 200 = .ok (.iinc 4 (-1), 3) := by decide +kernel
theorem dX9_sample_203 : decode cX9_sample 203 = .ok (.goto (-140), 3) := by decide +kernel
theorem dX9_sample_206 : decode cX9_sample 206 = .ok (.iconst (-1), 1) := by decide +kernel
theorem dX9_sample_207 : decode cX9_sample 207 = .ok (.ireturn, 1) := by decide +kernel
theorem dL_type_0 : decode cL_type 0 = .ok (.aload_n 2, 1) := by decide +kernel
theorem dL_type_1 : decode cL_type 1 = .ok (.iconst 0, 1) := by decide +kernel
theorem dL_type_2 : decode cL_type 2 = .ok (.aload_n 0, 1) := by decide +kernel
theorem dL_type_3 : decode cL_type 3 = .ok (.iload_n 1, 1) := by decide +kernel
theorem dL_type_4 : decode cL_type 4 = .ok (.invokevirtual 7, 3) := by decide +kernel
theorem dL_type_7 : decode cL_type 7 = .ok (.i2l, 1) := by decide +kernel
theorem dL_type_8 : decode cL_type 8 = .ok (.lastore, 1) := by decide +kernel
theorem dL_type_9 : decode cL_type 9 = .ok (.goto 6, 3) := by decide +kernel
theorem dL_type_12 : decode cL_type 12 = .ok (.astore_n 3, 1) := by decide +kernel
theorem dL_type_13 : decode cL_type 13 = .ok (.iconst 1, 1) := by decide +kernel
theorem dL_type_14 : decode cL_type 14 = .ok (.ireturn, 1) := by decide +kernel
theorem dL_type_15 : decode cL_type 15 = .ok (.iconst 0, 1) := by decide +kernel
theorem dL_type_16 : decode cL_type 16 = .ok (.ireturn, 1) := by decide +kernel
theorem dL_word_0 : decode cL_word 0 = .ok (.aload_n 1, 1) := by decide +kernel
theorem dL_word_1 : decode cL_word 1 = .ok (.iconst 0, 1) := by decide +kernel
theorem dL_word_2 : decode cL_word 2 = .ok (.aload_n 0, 1) := by decide +kernel
theorem dL_word_3 : decode cL_word 3 = .ok (.invokevirtual 15, 3) := by decide +kernel
theorem dL_word_6 : decode cL_word 6 = .ok (.i2l, 1) := by decide +kernel
theorem dL_word_7 : decode cL_word 7 = .ok (.lastore, 1) := by decide +kernel
theorem dL_word_8 : decode cL_word 8 = .ok (.goto 6, 3) := by decide +kernel
theorem dL_word_11 : decode cL_word 11 = .ok (.astore_n 2, 1) := by decide +kernel
theorem dL_word_12 : decode cL_word 12 = .ok (.iconst 1, 1) := by decide +kernel
theorem dL_word_13 : decode cL_word 13 = .ok (.ireturn, 1) := by decide +kernel
theorem dL_word_14 : decode cL_word 14 = .ok (.iconst 0, 1) := by decide +kernel
theorem dL_word_15 : decode cL_word 15 = .ok (.ireturn, 1) := by decide +kernel
theorem dL_form_0 : decode cL_form 0 = .ok (.aload 4, 2) := by decide +kernel
theorem dL_form_2 : decode cL_form 2 = .ok (.iconst 0, 1) := by decide +kernel
theorem dL_form_3 : decode cL_form 3 = .ok (.aload_n 0, 1) := by decide +kernel
theorem dL_form_4 : decode cL_form 4 = .ok (.iload_n 1, 1) := by decide +kernel
theorem dL_form_5 : decode cL_form 5 = .ok (.iload_n 2, 1) := by decide +kernel
theorem dL_form_6 : decode cL_form 6 = .ok (.iload_n 3, 1) := by decide +kernel
theorem dL_form_7 : decode cL_form 7 = .ok (.invokevirtual 19, 3) := by decide +kernel
theorem dL_form_10 : decode cL_form 10 = .ok (.i2l, 1) := by decide +kernel
theorem dL_form_11 : decode cL_form 11 = .ok (.lastore, 1) := by decide +kernel
theorem dL_form_12 : decode cL_form 12 = .ok (.goto 15, 3) := by decide +kernel
theorem dL_form_15 : decode cL_form 15 = .ok (.astore 5, 2) := by decide +kernel
theorem dL_form_17 : decode cL_form 17 = .ok (.iconst 1, 1) := by decide +kernel
theorem dL_form_18 : decode cL_form 18 = .ok (.ireturn, 1) := by decide +kernel
theorem dL_form_19 : decode cL_form 19 = .ok (.astore 5, 2) := by decide +kernel
theorem dL_form_21 : decode cL_form 21 = .ok (.iconst 2, 1) := by decide +kernel
theorem dL_form_22 : decode cL_form 22 = .ok (.ireturn, 1) := by decide +kernel
theorem dL_form_23 : decode cL_form 23 = .ok (.astore 5, 2) := by decide +kernel
theorem dL_form_25 : decode cL_form 25 = .ok (.iconst 3, 1) := by decide +kernel
theorem dL_form_26 : decode cL_form 26 = .ok (.ireturn, 1) := by decide +kernel
theorem dL_form_27 : decode cL_form 27 = .ok (.iconst 0, 1) := by decide +kernel
theorem dL_form_28 : decode cL_form 28 = .ok (.ireturn, 1) := by decide +kernel
theorem dL_clause_0 : decode cL_clause 0 = .ok (.aload_n 2, 1) := by decide +kernel
theorem dL_clause_1 : decode cL_clause 1 = .ok (.iconst 0, 1) := by decide +kernel
theorem dL_clause_2 : decode cL_clause 2 = .ok (.aload_n 0, 1) := by decide +kernel
theorem dL_clause_3 : decode cL_clause 3 = .ok (.iload_n 1, 1) := by decide +kernel
theorem dL_clause_4 : decode cL_clause 4 = .ok (.invokevirtual 27, 3) := by decide +kernel
theorem dL_clause_7 : decode cL_clause 7 = .ok (.i2l, 1) := by decide +kernel
theorem dL_clause_8 : decode cL_clause 8 = .ok (.lastore, 1) := by decide +kernel
theorem dL_clause_9 : decode cL_clause 9 = .ok (.goto 9, 3) := by decide +kernel
theorem dL_clause_12 : decode cL_clause 12 = .ok (.astore_n 3, 1) := by decide +kernel
theorem dL_clause_13 : decode cL_clause 13 = .ok (.iconst 1, 1) := by decide +kernel
theorem dL_clause_14 : decode cL_clause 14 = .ok (.ireturn, 1) := by decide +kernel
theorem dL_clause_15 : decode cL_clause 15 = .ok (.astore_n 3, 1) := by decide +kernel
theorem dL_clause_16 : decode cL_clause 16 = .ok (.iconst 2, 1) := by decide +kernel
theorem dL_clause_17 : decode cL_clause 17 = .ok (.ireturn, 1) := by decide +kernel
theorem dL_clause_18 : decode cL_clause 18 = .ok (.iconst 0, 1) := by decide +kernel
theorem dL_clause_19 : decode cL_clause 19 = .ok (.ireturn, 1) := by decide +kernel
theorem dL_text_0 : decode cL_text 0 = .ok (.aload_n 3, 1) := by decide +kernel
theorem dL_text_1 : decode cL_text 1 = .ok (.iconst 0, 1) := by decide +kernel
theorem dL_text_2 : decode cL_text 2 = .ok (.aload_n 0, 1) := by decide +kernel
theorem dL_text_3 : decode cL_text 3 = .ok (.iload_n 1, 1) := by decide +kernel
theorem dL_text_4 : decode cL_text 4 = .ok (.iload_n 2, 1) := by decide +kernel
theorem dL_text_5 : decode cL_text 5 = .ok (.invokevirtual 31, 3) := by decide +kernel
theorem dL_text_8 : decode cL_text 8 = .ok (.i2l, 1) := by decide +kernel
theorem dL_text_9 : decode cL_text 9 = .ok (.lastore, 1) := by decide +kernel
theorem dL_text_10 : decode cL_text 10 = .ok (.goto 11, 3) := by decide +kernel
theorem dL_text_13 : decode cL_text 13 = .ok (.astore 4, 2) := by decide +kernel
theorem dL_text_15 : decode cL_text 15 = .ok (.iconst 1, 1) := by decide +kernel
theorem dL_text_16 : decode cL_text 16 = .ok (.ireturn, 1) := by decide +kernel
theorem dL_text_17 : decode cL_text 17 = .ok (.astore 4, 2) := by decide +kernel
theorem dL_text_19 : decode cL_text 19 = .ok (.iconst 2, 1) := by decide +kernel
theorem dL_text_20 : decode cL_text 20 = .ok (.ireturn, 1) := by decide +kernel
theorem dL_text_21 : decode cL_text 21 = .ok (.iconst 0, 1) := by decide +kernel
theorem dL_text_22 : decode cL_text 22 = .ok (.ireturn, 1) := by decide +kernel
theorem dL_approve_0 : decode cL_approve 0 = .ok (.aload_n 3, 1) := by decide +kernel
theorem dL_approve_1 : decode cL_approve 1 = .ok (.iconst 0, 1) := by decide +kernel
theorem dL_approve_2 : decode cL_approve 2 = .ok (.aload_n 0, 1) := by decide +kernel
theorem dL_approve_3 : decode cL_approve 3 = .ok (.iload_n 1, 1) := by decide +kernel
theorem dL_approve_4 : decode cL_approve 4 = .ok (.iload_n 2, 1) := by decide +kernel
theorem dL_approve_5 : decode cL_approve 5 = .ok (.invokevirtual 35, 3) := by decide +kernel
theorem dL_approve_8 : decode cL_approve 8 = .ok (.ifCond .eq 7, 3) := by decide +kernel
theorem dL_approve_11 : decode cL_approve 11 = .ok (.lconst 1, 1) := by decide +kernel
theorem dL_approve_12 : decode cL_approve 12 = .ok (.goto 4, 3) := by decide +kernel
theorem dL_approve_15 : decode cL_approve 15 = .ok (.lconst 0, 1) := by decide +kernel
theorem dL_approve_16 : decode cL_approve 16 = .ok (.lastore, 1) := by decide +kernel
theorem dL_approve_17 : decode cL_approve 17 = .ok (.goto 11, 3) := by decide +kernel
theorem dL_approve_20 : decode cL_approve 20 = .ok (.astore 4, 2) := by decide +kernel
theorem dL_approve_22 : decode cL_approve 22 = .ok (.iconst 1, 1) := by decide +kernel
theorem dL_approve_23 : decode cL_approve 23 = .ok (.ireturn, 1) := by decide +kernel
theorem dL_approve_24 : decode cL_approve 24 = .ok (.astore 4, 2) := by decide +kernel
theorem dL_approve_26 : decode cL_approve 26 = .ok (.iconst 2, 1) := by decide +kernel
theorem dL_approve_27 : decode cL_approve 27 = .ok (.ireturn, 1) := by decide +kernel
theorem dL_approve_28 : decode cL_approve 28 = .ok (.iconst 0, 1) := by decide +kernel
theorem dL_approve_29 : decode cL_approve 29 = .ok (.ireturn, 1) := by decide +kernel
theorem dL_relate_0 : decode cL_relate 0 = .ok (.aload 5, 2) := by decide +kernel
theorem dL_relate_2 : decode cL_relate 2 = .ok (.iconst 0, 1) := by decide +kernel
theorem dL_relate_3 : decode cL_relate 3 = .ok (.aload_n 0, 1) := by decide +kernel
theorem dL_relate_4 : decode cL_relate 4 = .ok (.iload_n 1, 1) := by decide +kernel
theorem dL_relate_5 : decode cL_relate 5 = .ok (.iload_n 2, 1) := by decide +kernel
theorem dL_relate_6 : decode cL_relate 6 = .ok (.iload_n 3, 1) := by decide +kernel
theorem dL_relate_7 : decode cL_relate 7 = .ok (.iload 4, 2) := by decide +kernel
theorem dL_relate_9 : decode cL_relate 9 = .ok (.invokevirtual 39, 3) := by decide +kernel
theorem dL_relate_12 : decode cL_relate 12 = .ok (.i2l, 1) := by decide +kernel
theorem dL_relate_13 : decode cL_relate 13 = .ok (.lastore, 1) := by decide +kernel
theorem dL_relate_14 : decode cL_relate 14 = .ok (.goto 11, 3) := by decide +kernel
theorem dL_relate_17 : decode cL_relate 17 = .ok (.astore 6, 2) := by decide +kernel
theorem dL_relate_19 : decode cL_relate 19 = .ok (.iconst 1, 1) := by decide +kernel
theorem dL_relate_20 : decode cL_relate 20 = .ok (.ireturn, 1) := by decide +kernel
theorem dL_relate_21 : decode cL_relate 21 = .ok (.astore 6, 2) := by decide +kernel
theorem dL_relate_23 : decode cL_relate 23 = .ok (.iconst 2, 1) := by decide +kernel
theorem dL_relate_24 : decode cL_relate 24 = .ok (.ireturn, 1) := by decide +kernel
theorem dL_relate_25 : decode cL_relate 25 = .ok (.iconst 0, 1) := by decide +kernel
theorem dL_relate_26 : decode cL_relate 26 = .ok (.ireturn, 1) := by decide +kernel
theorem dL_isLinked_0 : decode cL_isLinked 0 = .ok (.aload_n 2, 1) := by decide +kernel
theorem dL_isLinked_1 : decode cL_isLinked 1 = .ok (.iconst 0, 1) := by decide +kernel
theorem dL_isLinked_2 : decode cL_isLinked 2 = .ok (.aload_n 0, 1) := by decide +kernel
theorem dL_isLinked_3 : decode cL_isLinked 3 = .ok (.iload_n 1, 1) := by decide +kernel
theorem dL_isLinked_4 : decode cL_isLinked 4 = .ok (.invokevirtual 43, 3) := by decide +kernel
theorem dL_isLinked_7 : decode cL_isLinked 7 = .ok (.ifCond .eq 7, 3) := by decide +kernel
theorem dL_isLinked_10 : decode cL_isLinked 10 = .ok (.lconst 1, 1) := by decide +kernel
theorem dL_isLinked_11 : decode cL_isLinked 11 = .ok (.goto 4, 3) := by decide +kernel
theorem dL_isLinked_14 : decode cL_isLinked 14 = .ok (.lconst 0, 1) := by decide +kernel
theorem dL_isLinked_15 : decode cL_isLinked 15 = .ok (.lastore, 1) := by decide +kernel
theorem dL_isLinked_16 : decode cL_isLinked 16 = .ok (.goto 6, 3) := by decide +kernel
theorem dL_isLinked_19 : decode cL_isLinked 19 = .ok (.astore_n 3, 1) := by decide +kernel
theorem dL_isLinked_20 : decode cL_isLinked 20 = .ok (.iconst 1, 1) := by decide +kernel
theorem dL_isLinked_21 : decode cL_isLinked 21 = .ok (.ireturn, 1) := by decide +kernel
theorem dL_isLinked_22 : decode cL_isLinked 22 = .ok (.iconst 0, 1) := by decide +kernel
theorem dL_isLinked_23 : decode cL_isLinked 23 = .ok (.ireturn, 1) := by decide +kernel
theorem dL_letter_0 : decode cL_letter 0 = .ok (.aload_n 1, 1) := by decide +kernel
theorem dL_letter_1 : decode cL_letter 1 = .ok (.iconst 0, 1) := by decide +kernel
theorem dL_letter_2 : decode cL_letter 2 = .ok (.aload_n 0, 1) := by decide +kernel
theorem dL_letter_3 : decode cL_letter 3 = .ok (.invokevirtual 47, 3) := by decide +kernel
theorem dL_letter_6 : decode cL_letter 6 = .ok (.i2l, 1) := by decide +kernel
theorem dL_letter_7 : decode cL_letter 7 = .ok (.lastore, 1) := by decide +kernel
theorem dL_letter_8 : decode cL_letter 8 = .ok (.goto 6, 3) := by decide +kernel
theorem dL_letter_11 : decode cL_letter 11 = .ok (.astore_n 2, 1) := by decide +kernel
theorem dL_letter_12 : decode cL_letter 12 = .ok (.iconst 1, 1) := by decide +kernel
theorem dL_letter_13 : decode cL_letter 13 = .ok (.ireturn, 1) := by decide +kernel
theorem dL_letter_14 : decode cL_letter 14 = .ok (.iconst 0, 1) := by decide +kernel
theorem dL_letter_15 : decode cL_letter 15 = .ok (.ireturn, 1) := by decide +kernel
theorem dL_put_0 : decode cL_put 0 = .ok (.aload_n 3, 1) := by decide +kernel
theorem dL_put_1 : decode cL_put 1 = .ok (.iconst 0, 1) := by decide +kernel
theorem dL_put_2 : decode cL_put 2 = .ok (.aload_n 0, 1) := by decide +kernel
theorem dL_put_3 : decode cL_put 3 = .ok (.iload_n 1, 1) := by decide +kernel
theorem dL_put_4 : decode cL_put 4 = .ok (.iload_n 2, 1) := by decide +kernel
theorem dL_put_5 : decode cL_put 5 = .ok (.invokevirtual 50, 3) := by decide +kernel
theorem dL_put_8 : decode cL_put 8 = .ok (.i2l, 1) := by decide +kernel
theorem dL_put_9 : decode cL_put 9 = .ok (.lastore, 1) := by decide +kernel
theorem dL_put_10 : decode cL_put 10 = .ok (.goto 11, 3) := by decide +kernel
theorem dL_put_13 : decode cL_put 13 = .ok (.astore 4, 2) := by decide +kernel
theorem dL_put_15 : decode cL_put 15 = .ok (.iconst 1, 1) := by decide +kernel
theorem dL_put_16 : decode cL_put 16 = .ok (.ireturn, 1) := by decide +kernel
theorem dL_put_17 : decode cL_put 17 = .ok (.astore 4, 2) := by decide +kernel
theorem dL_put_19 : decode cL_put 19 = .ok (.iconst 2, 1) := by decide +kernel
theorem dL_put_20 : decode cL_put 20 = .ok (.ireturn, 1) := by decide +kernel
theorem dL_put_21 : decode cL_put 21 = .ok (.iconst 0, 1) := by decide +kernel
theorem dL_put_22 : decode cL_put 22 = .ok (.ireturn, 1) := by decide +kernel
theorem dL_data_0 : decode cL_data 0 = .ok (.aload_n 3, 1) := by decide +kernel
theorem dL_data_1 : decode cL_data 1 = .ok (.iconst 0, 1) := by decide +kernel
theorem dL_data_2 : decode cL_data 2 = .ok (.aload_n 0, 1) := by decide +kernel
theorem dL_data_3 : decode cL_data 3 = .ok (.iload_n 1, 1) := by decide +kernel
theorem dL_data_4 : decode cL_data 4 = .ok (.iload_n 2, 1) := by decide +kernel
theorem dL_data_5 : decode cL_data 5 = .ok (.invokevirtual 53, 3) := by decide +kernel
theorem dL_data_8 : decode cL_data 8 = .ok (.i2l, 1) := by decide +kernel
theorem dL_data_9 : decode cL_data 9 = .ok (.lastore, 1) := by decide +kernel
theorem dL_data_10 : decode cL_data 10 = .ok (.goto 15, 3) := by decide +kernel
theorem dL_data_13 : decode cL_data 13 = .ok (.astore 4, 2) := by decide +kernel
theorem dL_data_15 : decode cL_data 15 = .ok (.iconst 1, 1) := by decide +kernel
theorem dL_data_16 : decode cL_data 16 = .ok (.ireturn, 1) := by decide +kernel
theorem dL_data_17 : decode cL_data 17 = .ok (.astore 4, 2) := by decide +kernel
theorem dL_data_19 : decode cL_data 19 = .ok (.iconst 2, 1) := by decide +kernel
theorem dL_data_20 : decode cL_data 20 = .ok (.ireturn, 1) := by decide +kernel
theorem dL_data_21 : decode cL_data 21 = .ok (.astore 4, 2) := by decide +kernel
theorem dL_data_23 : decode cL_data 23 = .ok (.iconst 3, 1) := by decide +kernel
theorem dL_data_24 : decode cL_data 24 = .ok (.ireturn, 1) := by decide +kernel
theorem dL_data_25 : decode cL_data 25 = .ok (.iconst 0, 1) := by decide +kernel
theorem dL_data_26 : decode cL_data 26 = .ok (.ireturn, 1) := by decide +kernel
theorem dL_fill_0 : decode cL_fill 0 = .ok (.aload 4, 2) := by decide +kernel
theorem dL_fill_2 : decode cL_fill 2 = .ok (.iconst 0, 1) := by decide +kernel
theorem dL_fill_3 : decode cL_fill 3 = .ok (.aload_n 0, 1) := by decide +kernel
theorem dL_fill_4 : decode cL_fill 4 = .ok (.iload_n 1, 1) := by decide +kernel
theorem dL_fill_5 : decode cL_fill 5 = .ok (.iload_n 2, 1) := by decide +kernel
theorem dL_fill_6 : decode cL_fill 6 = .ok (.iload_n 3, 1) := by decide +kernel
theorem dL_fill_7 : decode cL_fill 7 = .ok (.invokevirtual 56, 3) := by decide +kernel
theorem dL_fill_10 : decode cL_fill 10 = .ok (.i2l, 1) := by decide +kernel
theorem dL_fill_11 : decode cL_fill 11 = .ok (.lastore, 1) := by decide +kernel
theorem dL_fill_12 : decode cL_fill 12 = .ok (.goto 7, 3) := by decide +kernel
theorem dL_fill_15 : decode cL_fill 15 = .ok (.astore 5, 2) := by decide +kernel
theorem dL_fill_17 : decode cL_fill 17 = .ok (.iconst 1, 1) := by decide +kernel
theorem dL_fill_18 : decode cL_fill 18 = .ok (.ireturn, 1) := by decide +kernel
theorem dL_fill_19 : decode cL_fill 19 = .ok (.iconst 0, 1) := by decide +kernel
theorem dL_fill_20 : decode cL_fill 20 = .ok (.ireturn, 1) := by decide +kernel
theorem dL_price_0 : decode cL_price 0 = .ok (.aload_n 3, 1) := by decide +kernel
theorem dL_price_1 : decode cL_price 1 = .ok (.iconst 0, 1) := by decide +kernel
theorem dL_price_2 : decode cL_price 2 = .ok (.aload_n 0, 1) := by decide +kernel
theorem dL_price_3 : decode cL_price 3 = .ok (.iload_n 1, 1) := by decide +kernel
theorem dL_price_4 : decode cL_price 4 = .ok (.iload_n 2, 1) := by decide +kernel
theorem dL_price_5 : decode cL_price 5 = .ok (.invokevirtual 59, 3) := by decide +kernel
theorem dL_price_8 : decode cL_price 8 = .ok (.i2l, 1) := by decide +kernel
theorem dL_price_9 : decode cL_price 9 = .ok (.lastore, 1) := by decide +kernel
theorem dL_price_10 : decode cL_price 10 = .ok (.goto 11, 3) := by decide +kernel
theorem dL_price_13 : decode cL_price 13 = .ok (.astore 4, 2) := by decide +kernel
theorem dL_price_15 : decode cL_price 15 = .ok (.iconst 1, 1) := by decide +kernel
theorem dL_price_16 : decode cL_price 16 = .ok (.ireturn, 1) := by decide +kernel
theorem dL_price_17 : decode cL_price 17 = .ok (.astore 4, 2) := by decide +kernel
theorem dL_price_19 : decode cL_price 19 = .ok (.iconst 2, 1) := by decide +kernel
theorem dL_price_20 : decode cL_price 20 = .ok (.ireturn, 1) := by decide +kernel
theorem dL_price_21 : decode cL_price 21 = .ok (.iconst 0, 1) := by decide +kernel
theorem dL_price_22 : decode cL_price 22 = .ok (.ireturn, 1) := by decide +kernel
theorem dL_faultOf_0 : decode cL_faultOf 0 = .ok (.aload 5, 2) := by decide +kernel
theorem dL_faultOf_2 : decode cL_faultOf 2 = .ok (.iconst 0, 1) := by decide +kernel
theorem dL_faultOf_3 : decode cL_faultOf 3 = .ok (.aload_n 0, 1) := by decide +kernel
theorem dL_faultOf_4 : decode cL_faultOf 4 = .ok (.iload_n 1, 1) := by decide +kernel
theorem dL_faultOf_5 : decode cL_faultOf 5 = .ok (.iload_n 2, 1) := by decide +kernel
theorem dL_faultOf_6 : decode cL_faultOf 6 = .ok (.iload_n 3, 1) := by decide +kernel
theorem dL_faultOf_7 : decode cL_faultOf 7 = .ok (.iload 4, 2) := by decide +kernel
theorem dL_faultOf_9 : decode cL_faultOf 9 = .ok (.invokevirtual 62, 3) := by decide +kernel
theorem dL_faultOf_12 : decode cL_faultOf 12 = .ok (.i2l, 1) := by decide +kernel
theorem dL_faultOf_13 : decode cL_faultOf 13 = .ok (.lastore, 1) := by decide +kernel
theorem dL_faultOf_14 : decode cL_faultOf 14 = .ok (.goto 11, 3) := by decide +kernel
theorem dL_faultOf_17 : decode cL_faultOf 17 = .ok (.astore 6, 2) := by decide +kernel
theorem dL_faultOf_19 : decode cL_faultOf 19 = .ok (.iconst 1, 1) := by decide +kernel
theorem dL_faultOf_20 : decode cL_faultOf 20 = .ok (.ireturn, 1) := by decide +kernel
theorem dL_faultOf_21 : decode cL_faultOf 21 = .ok (.astore 6, 2) := by decide +kernel
theorem dL_faultOf_23 : decode cL_faultOf 23 = .ok (.iconst 2, 1) := by decide +kernel
theorem dL_faultOf_24 : decode cL_faultOf 24 = .ok (.ireturn, 1) := by decide +kernel
theorem dL_faultOf_25 : decode cL_faultOf 25 = .ok (.iconst 0, 1) := by decide +kernel
theorem dL_faultOf_26 : decode cL_faultOf 26 = .ok (.ireturn, 1) := by decide +kernel
theorem dL_sign_0 : decode cL_sign 0 = .ok (.aload 5, 2) := by decide +kernel
theorem dL_sign_2 : decode cL_sign 2 = .ok (.iconst 0, 1) := by decide +kernel
theorem dL_sign_3 : decode cL_sign 3 = .ok (.aload_n 0, 1) := by decide +kernel
theorem dL_sign_4 : decode cL_sign 4 = .ok (.iload_n 1, 1) := by decide +kernel
theorem dL_sign_5 : decode cL_sign 5 = .ok (.iload_n 2, 1) := by decide +kernel
theorem dL_sign_6 : decode cL_sign 6 = .ok (.iload_n 3, 1) := by decide +kernel
theorem dL_sign_7 : decode cL_sign 7 = .ok (.iload 4, 2) := by decide +kernel
theorem dL_sign_9 : decode cL_sign 9 = .ok (.invokevirtual 65, 3) := by decide +kernel
theorem dL_sign_12 : decode cL_sign 12 = .ok (.i2l, 1) := by decide +kernel
theorem dL_sign_13 : decode cL_sign 13 = .ok (.lastore, 1) := by decide +kernel
theorem dL_sign_14 : decode cL_sign 14 = .ok (.goto 7, 3) := by decide +kernel
theorem dL_sign_17 : decode cL_sign 17 = .ok (.astore 6, 2) := by decide +kernel
theorem dL_sign_19 : decode cL_sign 19 = .ok (.iconst 1, 1) := by decide +kernel
theorem dL_sign_20 : decode cL_sign 20 = .ok (.ireturn, 1) := by decide +kernel
theorem dL_sign_21 : decode cL_sign 21 = .ok (.iconst 0, 1) := by decide +kernel
theorem dL_sign_22 : decode cL_sign 22 = .ok (.ireturn, 1) := by decide +kernel
theorem dL_signAnew_0 : decode cL_signAnew 0 = .ok (.aload 5, 2) := by decide +kernel
theorem dL_signAnew_2 : decode cL_signAnew 2 = .ok (.iconst 0, 1) := by decide +kernel
theorem dL_signAnew_3 : decode cL_signAnew 3 = .ok (.aload_n 0, 1) := by decide +kernel
theorem dL_signAnew_4 : decode cL_signAnew 4 = .ok (.iload_n 1, 1) := by decide +kernel
theorem dL_signAnew_5 : decode cL_signAnew 5 = .ok (.iload_n 2, 1) := by decide +kernel
theorem dL_signAnew_6 : decode cL_signAnew 6 = .ok (.iload_n 3, 1) := by decide +kernel
theorem dL_signAnew_7 : decode cL_signAnew 7 = .ok (.iload 4, 2) := by decide +kernel
theorem dL_signAnew_9 : decode cL_signAnew 9 = .ok (.invokevirtual 69, 3) := by decide +kernel
theorem dL_signAnew_12 : decode cL_signAnew 12 = .ok (.i2l, 1) := by decide +kernel
theorem dL_signAnew_13 : decode cL_signAnew 13 = .ok (.lastore, 1) := by decide +kernel
theorem dL_signAnew_14 : decode cL_signAnew 14 = .ok (.goto 7, 3) := by decide +kernel
theorem dL_signAnew_17 : decode cL_signAnew 17 = .ok (.astore 6, 2) := by decide +kernel
theorem dL_signAnew_19 : decode cL_signAnew 19 = .ok (.iconst 1, 1) := by decide +kernel
theorem dL_signAnew_20 : decode cL_signAnew 20 = .ok (.ireturn, 1) := by decide +kernel
theorem dL_signAnew_21 : decode cL_signAnew 21 = .ok (.iconst 0, 1) := by decide +kernel
theorem dL_signAnew_22 : decode cL_signAnew 22 = .ok (.ireturn, 1) := by decide +kernel
theorem dL_costs_0 : decode cL_costs 0 = .ok (.aload 4, 2) := by decide +kernel
theorem dL_costs_2 : decode cL_costs 2 = .ok (.iconst 0, 1) := by decide +kernel
theorem dL_costs_3 : decode cL_costs 3 = .ok (.aload_n 0, 1) := by decide +kernel
theorem dL_costs_4 : decode cL_costs 4 = .ok (.iload_n 1, 1) := by decide +kernel
theorem dL_costs_5 : decode cL_costs 5 = .ok (.iload_n 2, 1) := by decide +kernel
theorem dL_costs_6 : decode cL_costs 6 = .ok (.iload_n 3, 1) := by decide +kernel
theorem dL_costs_7 : decode cL_costs 7 = .ok (.invokevirtual 72, 3) := by decide +kernel
theorem dL_costs_10 : decode cL_costs 10 = .ok (.i2l, 1) := by decide +kernel
theorem dL_costs_11 : decode cL_costs 11 = .ok (.lastore, 1) := by decide +kernel
theorem dL_costs_12 : decode cL_costs 12 = .ok (.goto 7, 3) := by decide +kernel
theorem dL_costs_15 : decode cL_costs 15 = .ok (.astore 5, 2) := by decide +kernel
theorem dL_costs_17 : decode cL_costs 17 = .ok (.iconst 1, 1) := by decide +kernel
theorem dL_costs_18 : decode cL_costs 18 = .ok (.ireturn, 1) := by decide +kernel
theorem dL_costs_19 : decode cL_costs 19 = .ok (.iconst 0, 1) := by decide +kernel
theorem dL_costs_20 : decode cL_costs 20 = .ok (.ireturn, 1) := by decide +kernel
theorem dL_sample_0 : decode cL_sample 0 = .ok (.aload_n 3, 1) := by decide +kernel
theorem dL_sample_1 : decode cL_sample 1 = .ok (.iconst 0, 1) := by decide +kernel
theorem dL_sample_2 : decode cL_sample 2 = .ok (.aload_n 0, 1) := by decide +kernel
theorem dL_sample_3 : decode cL_sample 3 = .ok (.iload_n 1, 1) := by decide +kernel
theorem dL_sample_4 : decode cL_sample 4 = .ok (.iload_n 2, 1) := by decide +kernel
theorem dL_sample_5 : decode cL_sample 5 = .ok (.invokevirtual 75, 3) := by decide +kernel
theorem dL_sample_8 : decode cL_sample 8 = .ok (.i2l, 1) := by decide +kernel
theorem dL_sample_9 : decode cL_sample 9 = .ok (.lastore, 1) := by decide +kernel
theorem dL_sample_10 : decode cL_sample 10 = .ok (.goto 7, 3) := by decide +kernel
theorem dL_sample_13 : decode cL_sample 13 = .ok (.astore 4, 2) := by decide +kernel
theorem dL_sample_15 : decode cL_sample 15 = .ok (.iconst 1, 1) := by decide +kernel
theorem dL_sample_16 : decode cL_sample 16 = .ok (.ireturn, 1) := by decide +kernel
theorem dL_sample_17 : decode cL_sample 17 = .ok (.iconst 0, 1) := by decide +kernel
theorem dL_sample_18 : decode cL_sample 18 = .ok (.ireturn, 1) := by decide +kernel
end
section
theorem dL_law_0 : decode cL_law 0 = .ok (.new 8, 3) := by decide +kernel
theorem dL_law_3 : decode cL_law 3 = .ok (.dup, 1) := by decide +kernel
theorem dL_law_4 : decode cL_law 4 = .ok (.invokespecial 78, 3) := by decide +kernel
theorem dL_law_7 : decode cL_law 7 = .ok (.astore_n 1, 1) := by decide +kernel
theorem dL_law_8 : decode cL_law 8 = .ok (.new 79, 3) := by decide +kernel
theorem dL_law_11 : decode cL_law 11 = .ok (.dup, 1) := by decide +kernel
theorem dL_law_12 : decode cL_law 12 = .ok (.invokespecial 81, 3) := by decide +kernel
theorem dL_law_15 : decode cL_law 15 = .ok (.astore_n 2, 1) := by decide +kernel
theorem dL_law_16 : decode cL_law 16 = .ok (.iconst 1, 1) := by decide +kernel
theorem dL_law_17 : decode cL_law 17 = .ok (.newarray .long, 2) := by decide +kernel
theorem dL_law_19 : decode cL_law 19 = .ok (.astore_n 3, 1) := by decide +kernel
theorem dL_law_20 : decode cL_law 20 = .ok (.iconst 0, 1) := by decide +kernel
theorem dL_law_21 : decode cL_law 21 = .ok (.istore 4, 2) := by decide +kernel
theorem dL_law_23 : decode cL_law 23 = .ok (.iload 4, 2) := by decide +kernel
theorem dL_law_25 : decode cL_law 25 = .ok (.aload_n 0, 1) := by decide +kernel
theorem dL_law_26 : decode cL_law 26 = .ok (.arraylength, 1) := by decide +kernel
theorem dL_law_27 : decode cL_law 27 = .ok (.iconst 5, 1) := by decide +kernel
theorem dL_law_28 : decode cL_law 28 = .ok (.isub, 1) := by decide +kernel
theorem dL_law_29 : decode cL_law 29 = .ok (.if_icmp .gt 1423, 3) := by decide +kernel
theorem dL_law_32 : decode cL_law 32 = .ok (.aload_n 0, 1) := by decide +kernel
theorem dL_law_33 : decode cL_law 33 = .ok (.iload 4, 2) := by decide +kernel
theorem dL_law_35 : decode cL_law 35 = .ok (.iaload, 1) := by decide +kernel
theorem dL_law_36 : decode cL_law 36 = .ok (.bipush 31, 2) := by decide +kernel
theorem dL_law_38 : decode cL_law 38 = .ok (.iand, 1) := by decide +kernel
theorem dL_law_39 : decode cL_law 39 = .ok (.tableswitch 1407 0 19 #[93, 151, 164, 208, 288, 344, 412, 425, 500, 592, 655, 699, 767, 835, 915, 983, 1075, 1167, 1259, 1339], 93) := by decide +kernel
theorem dL_law_132 : decode cL_law 132 = .ok (.aload_n 1, 1) := by decide +kernel
theorem dL_law_133 : decode cL_law 133 = .ok (.aload_n 0, 1) := by decide +kernel
theorem dL_law_134 : decode cL_law 134 = .ok (.iload 4, 2) := by decide +kernel
theorem dL_law_136 : decode cL_law 136 = .ok (.iconst 1, 1) := by decide +kernel
theorem dL_law_137 : decode cL_law 137 = .ok (.iadd, 1) := by decide +kernel
theorem dL_law_138 : decode cL_law 138 = .ok (.iaload, 1) := by decide +kernel
theorem dL_law_139 : decode cL_law 139 = .ok (.i2c, 1) := by decide +kernel
theorem dL_law_140 : decode cL_law 140 = .ok (.aload_n 3, 1) := by decide +kernel
theorem dL_law_141 : decode cL_law 141 = .ok (.invokestatic 82, 3) := by decide +kernel
theorem dL_law_144 : decode cL_law 144 = .ok (.istore 5, 2) := by decide +kernel
theorem dL_law_146 : decode cL_law 146 = .ok (.aload_n 2, 1) := by decide +kernel
theorem dL_law_147 : decode cL_law 147 = .ok (.aload_n 0, 1) := by decide +kernel
theorem dL_law_148 : decode cL_law 148 = .ok (.iload 4, 2) := by decide +kernel
theorem dL_law_150 : decode cL_law 150 = .ok (.iconst 1, 1) := by decide +kernel
theorem dL_law_151 : decode cL_law 151 = .ok (.iadd, 1) := by decide +kernel
theorem dL_law_152 : decode cL_law 152 = .ok (.iaload, 1) := by decide +kernel
theorem dL_law_153 : decode cL_law 153 = .ok (.i2c, 1) := by decide +kernel
theorem dL_law_154 : decode cL_law 154 = .ok (.invokevirtual 87, 3) := by decide +kernel
theorem dL_law_157 : decode cL_law 157 = .ok (.istore 6, 2) := by decide +kernel
theorem dL_law_159 : decode cL_law 159 = .ok (.aload_n 2, 1) := by decide +kernel
theorem dL_law_160 : decode cL_law 160 = .ok (.invokevirtual 88, 3) := by decide +kernel
theorem dL_law_163 : decode cL_law 163 = .ok (.iload 5, 2) := by decide +kernel
theorem dL_law_165 : decode cL_law 165 = .ok (.if_icmp .eq 5, 3) := by decide +kernel
theorem dL_law_168 : decode cL_law 168 = .ok (.iconst 0, 1) := by decide +kernel
theorem dL_law_169 : decode cL_law 169 = .ok (.ireturn, 1) := by decide +kernel
theorem dL_law_170 : decode cL_law 170 = .ok (.iload 5, 2) := by decide +kernel
theorem dL_law_172 : decode cL_law 172 = .ok (.ifCond .ne 15, 3) := by decide +kernel
theorem dL_law_175 : decode cL_law 175 = .ok (.aload_n 3, 1) := by decide +kernel
theorem dL_law_176 : decode cL_law 176 = .ok (.iconst 0, 1) := by decide +kernel
theorem dL_law_177 : decode cL_law 177 = .ok (.laload, 1) := by decide +kernel
theorem dL_law_178 : decode cL_law 178 = .ok (.iload 6, 2) := by decide +kernel
theorem dL_law_180 : decode cL_law 180 = .ok (.i2l, 1) := by decide +kernel
theorem dL_law_181 : decode cL_law 181 = .ok (.lcmp, 1) := by decide +kernel
theorem dL_law_182 : decode cL_law 182 = .ok (.ifCond .eq 5, 3) := by decide +kernel
theorem dL_law_185 : decode cL_law 185 = .ok (.iconst 0, 1) := by decide +kernel
theorem dL_law_186 : decode cL_law 186 = .ok (.ireturn, 1) := by decide +kernel
theorem dL_law_187 : decode cL_law 187 = .ok (.goto 1259, 3) := by decide +kernel
theorem dL_law_190 : decode cL_law 190 = .ok (.aload_n 1, 1) := by decide +kernel
theorem dL_law_191 : decode cL_law 191 = .ok (.invokevirtual 91, 3) := by decide +kernel
theorem dL_law_194 : decode cL_law 194 = .ok (.aload_n 2, 1) := by decide +kernel
theorem dL_law_195 : decode cL_law 195 = .ok (.invokevirtual 94, 3) := by decide +kernel
theorem dL_law_198 : decode cL_law 198 = .ok (.if_icmp .eq 1248, 3) := by decide +kernel
theorem dL_law_201 : decode cL_law 201 = .ok (.iconst 0, 1) := by decide +kernel
theorem dL_law_202 : decode cL_law 202 = .ok (.ireturn, 1) := by decide +kernel
theorem dL_law_203 : decode cL_law 203 = .ok (.aload_n 1, 1) := by decide +kernel
theorem dL_law_204 : decode cL_law 204 = .ok (.aload_n 3, 1) := by decide +kernel
theorem dL_law_205 : decode cL_law 205 = .ok (.invokestatic 95, 3) := by decide +kernel
theorem dL_law_208 : decode cL_law 208 = .ok (.istore 5, 2) := by decide +kernel
theorem dL_law_210 : decode cL_law 210 = .ok (.aload_n 2, 1) := by decide +kernel
theorem dL_law_211 : decode cL_law 211 = .ok (.invokevirtual 98, 3) := by decide +kernel
theorem dL_law_214 : decode cL_law 214 = .ok (.istore 6, 2) := by decide +kernel
theorem dL_law_216 : decode cL_law 216 = .ok (.aload_n 2, 1) := by decide +kernel
theorem dL_law_217 : decode cL_law 217 = .ok (.invokevirtual 88, 3) := by decide +kernel
theorem dL_law_220 : decode cL_law 220 = .ok (.iload 5, 2) := by decide +kernel
theorem dL_law_222 : decode cL_law 222 = .ok (.if_icmp .eq 5, 3) := by decide +kernel
theorem dL_law_225 : decode cL_law 225 = .ok (.iconst 0, 1) := by decide +kernel
theorem dL_law_226 : decode cL_law 226 = .ok (.ireturn, 1) := by decide +kernel
theorem dL_law_227 : decode cL_law 227 = .ok (.iload 5, 2) := by decide +kernel
theorem dL_law_229 : decode cL_law 229 = .ok (.ifCond .ne 15, 3) := by decide +kernel
theorem dL_law_232 : decode cL_law 232 = .ok (.aload_n 3, 1) := by decide +kernel
theorem dL_law_233 : decode cL_law 233 = .ok (.iconst 0, 1) := by decide +kernel
theorem dL_law_234 : decode cL_law 234 = .ok (.laload, 1) := by decide +kernel
theorem dL_law_235 : decode cL_law 235 = .ok (.iload 6, 2) := by decide +kernel
theorem dL_law_237 : decode cL_law 237 = .ok (.i2l, 1) := by decide +kernel
theorem dL_law_238 : decode cL_law 238 = .ok (.lcmp, 1) := by decide +kernel
theorem dL_law_239 : decode cL_law 239 = .ok (.ifCond .eq 5, 3) := by decide +kernel
theorem dL_law_242 : decode cL_law 242 = .ok (.iconst 0, 1) := by decide +kernel
theorem dL_law_243 : decode cL_law 243 = .ok (.ireturn, 1) := by decide +kernel
theorem dL_law_244 : decode cL_law 244 = .ok (.goto 1202, 3) := by decide +kernel
theorem dL_law_247 : decode cL_law 247 = .ok (.aload_n 1, 1) := by decide +kernel
theorem dL_law_248 : decode cL_law 248 = .ok (.aload_n 0, 1) := by decide +kernel
theorem dL_law_249 : decode cL_law 249 = .ok (.iload 4, 2) := by decide +kernel
theorem dL_law_251 : decode cL_law 251 = .ok (.iconst 1, 1) := by decide +kernel
theorem dL_law_252 : decode cL_law 252 = .ok (.iadd, 1) := by decide +kernel
theorem dL_law_253 : decode cL_law 253 = .ok (.iaload, 1) := by decide +kernel
theorem dL_law_254 : decode cL_law 254 = .ok (.aload_n 0, 1) := by decide +kernel
theorem dL_law_255 : decode cL_law 255 = .ok (.iload 4, 2) := by decide +kernel
theorem dL_law_257 : decode cL_law 257 = .ok (.iconst 2, 1) := by decide +kernel
theorem dL_law_258 : decode cL_law 258 = .ok (.iadd, 1) := by decide +kernel
theorem dL_law_259 : decode cL_law 259 = .ok (.iaload, 1) := by decide +kernel
theorem dL_law_260 : decode cL_law 260 = .ok (.aload_n 0, 1) := by decide +kernel
theorem dL_law_261 : decode cL_law 261 = .ok (.iload 4, 2) := by decide +kernel
theorem dL_law_263 : decode cL_law 263 = .ok (.iconst 3, 1) := by decide +kernel
theorem dL_law_264 : decode cL_law 264 = .ok (.iadd, 1) := by decide +kernel
theorem dL_law_265 : decode cL_law 265 = .ok (.iaload, 1) := by decide +kernel
theorem dL_law_266 : decode cL_law 266 = .ok (.aload_n 3, 1) := by decide +kernel
theorem dL_law_267 : decode cL_law 267 = .ok (.invokestatic 99, 3) := by decide +kernel
theorem dL_law_270 : decode cL_law 270 = .ok (.istore 5, 2) := by decide +kernel
theorem dL_law_272 : decode cL_law 272 = .ok (.aload_n 2, 1) := by decide +kernel
theorem dL_law_273 : decode cL_law 273 = .ok (.aload_n 0, 1) := by decide +kernel
theorem dL_law_274 : decode cL_law 274 = .ok (.iload 4, 2) := by decide +kernel
theorem dL_law_276 : decode cL_law 276 = .ok (.iconst 1, 1) := by decide +kernel
theorem dL_law_277 : decode cL_law 277 = .ok (.iadd, 1) := by decide +kernel
theorem dL_law_278 : decode cL_law 278 = .ok (.iaload, 1) := by decide +kernel
theorem dL_law_279 : decode cL_law 279 = .ok (.aload_n 0, 1) := by decide +kernel
theorem dL_law_280 : decode cL_law 280 = .ok (.iload 4, 2) := by decide +kernel
theorem dL_law_282 : decode cL_law 282 = .ok (.iconst 2, 1) := by decide +kernel
theorem dL_law_283 : decode cL_law 283 = .ok (.iadd, 1) := by decide +kernel
theorem dL_law_284 : decode cL_law 284 = .ok (.iaload, 1) := by decide +kernel
theorem dL_law_285 : decode cL_law 285 = .ok (.aload_n 0, 1) := by decide +kernel
theorem dL_law_286 : decode cL_law 286 = .ok (.iload 4, 2) := by decide +kernel
theorem dL_law_288 : decode cL_law 288 = .ok (.iconst 3, 1) := by decide +kernel
theorem dL_law_289 : decode cL_law 289 = .ok (.iadd, 1) := by decide +kernel
theorem dL_law_290 : decode cL_law 290 = .ok (.iaload, 1) := by decide +kernel
theorem dL_law_291 : decode cL_law 291 = .ok (.invokevirtual 102, 3) := by decide +kernel
theorem dL_law_294 : decode cL_law 294 = .ok (.istore 6, 2) := by decide +kernel
theorem dL_law_296 : decode cL_law 296 = .ok (.aload_n 2, 1) := by decide +kernel
theorem dL_law_297 : decode cL_law 297 = .ok (.invokevirtual 88, 3) := by decide +kernel
theorem dL_law_300 : decode cL_law 300 = .ok (.iload 5, 2) := by decide +kernel
theorem dL_law_302 : decode cL_law 302 = .ok (.if_icmp .eq 5, 3) := by decide +kernel
theorem dL_law_305 : decode cL_law 305 = .ok (.iconst 0, 1) := by decide +kernel
theorem dL_law_306 : decode cL_law 306 = .ok (.ireturn, 1) := by decide +kernel
theorem dL_law_307 : decode cL_law 307 = .ok (.iload 5, 2) := by decide +kernel
theorem dL_law_309 : decode cL_law 309 = .ok (.ifCond .ne 15, 3) := by decide +kernel
theorem dL_law_312 : decode cL_law 312 = .ok (.aload_n 3, 1) := by decide +kernel
theorem dL_law_313 : decode cL_law 313 = .ok (.iconst 0, 1) := by decide +kernel
theorem dL_law_314 : decode cL_law 314 = .ok (.laload, 1) := by decide +kernel
theorem dL_law_315 : decode cL_law 315 = .ok (.iload 6, 2) := by decide +kernel
theorem dL_law_317 : decode cL_law 317 = .ok (.i2l, 1) := by decide +kernel
theorem dL_law_318 : decode cL_law 318 = .ok (.lcmp, 1) := by decide +kernel
theorem dL_law_319 : decode cL_law 319 = .ok (.ifCond .eq 5, 3) := by decide +kernel
theorem dL_law_322 : decode cL_law 322 = .ok (.iconst 0, 1) := by decide +kernel
theorem dL_law_323 : decode cL_law 323 = .ok (.ireturn, 1) := by decide +kernel
theorem dL_law_324 : decode cL_law 324 = .ok (.goto 1122, 3) := by decide +kernel
theorem dL_law_327 : decode cL_law 327 = .ok (.aload_n 1, 1) := by decide +kernel
end
section
theorem dL_law_328 : decode cL_law 328 = .ok (.aload_n 0, 1) := by decide +kernel
theorem dL_law_329 : decode cL_law 329 = .ok (.iload 4, 2) := by decide +kernel
theorem dL_law_331 : decode cL_law 331 = .ok (.iconst 1, 1) := by decide +kernel
theorem dL_law_332 : decode cL_law 332 = .ok (.iadd, 1) := by decide +kernel
theorem dL_law_333 : decode cL_law 333 = .ok (.iaload, 1) := by decide +kernel
theorem dL_law_334 : decode cL_law 334 = .ok (.aload_n 3, 1) := by decide +kernel
theorem dL_law_335 : decode cL_law 335 = .ok (.invokestatic 103, 3) := by decide +kernel
theorem dL_law_338 : decode cL_law 338 = .ok (.istore 5, 2) := by decide +kernel
theorem dL_law_340 : decode cL_law 340 = .ok (.aload_n 2, 1) := by decide +kernel
theorem dL_law_341 : decode cL_law 341 = .ok (.aload_n 0, 1) := by decide +kernel
theorem dL_law_342 : decode cL_law 342 = .ok (.iload 4, 2) := by decide +kernel
theorem dL_law_344 : decode cL_law 344 = .ok (.iconst 1, 1) := by decide +kernel
theorem dL_law_345 : decode cL_law 345 = .ok (.iadd, 1) := by decide +kernel
theorem dL_law_346 : decode cL_law 346 = .ok (.iaload, 1) := by decide +kernel
theorem dL_law_347 : decode cL_law 347 = .ok (.invokevirtual 106, 3) := by decide +kernel
theorem dL_law_350 : decode cL_law 350 = .ok (.istore 6, 2) := by decide +kernel
theorem dL_law_352 : decode cL_law 352 = .ok (.aload_n 2, 1) := by decide +kernel
theorem dL_law_353 : decode cL_law 353 = .ok (.invokevirtual 88, 3) := by decide +kernel
theorem dL_law_356 : decode cL_law 356 = .ok (.iload 5, 2) := by decide +kernel
theorem dL_law_358 : decode cL_law 358 = .ok (.if_icmp .eq 5, 3) := by decide +kernel
theorem dL_law_361 : decode cL_law 361 = .ok (.iconst 0, 1) := by decide +kernel
theorem dL_law_362 : decode cL_law 362 = .ok (.ireturn, 1) := by decide +kernel
theorem dL_law_363 : decode cL_law 363 = .ok (.iload 5, 2) := by decide +kernel
theorem dL_law_365 : decode cL_law 365 = .ok (.ifCond .ne 15, 3) := by decide +kernel
theorem dL_law_368 : decode cL_law 368 = .ok (.aload_n 3, 1) := by decide +kernel
theorem dL_law_369 : decode cL_law 369 = .ok (.iconst 0, 1) := by decide +kernel
theorem dL_law_370 : decode cL_law 370 = .ok (.laload, 1) := by decide +kernel
theorem dL_law_371 : decode cL_law 371 = .ok (.iload 6, 2) := by decide +kernel
theorem dL_law_373 : decode cL_law 373 = .ok (.i2l, 1) := by decide +kernel
theorem dL_law_374 : decode cL_law 374 = .ok (.lcmp, 1) := by decide +kernel
theorem dL_law_375 : decode cL_law 375 = .ok (.ifCond .eq 5, 3) := by decide +kernel
theorem dL_law_378 : decode cL_law 378 = .ok (.iconst 0, 1) := by decide +kernel
theorem dL_law_379 : decode cL_law 379 = .ok (.ireturn, 1) := by decide +kernel
theorem dL_law_380 : decode cL_law 380 = .ok (.goto 1066, 3) := by decide +kernel
theorem dL_law_383 : decode cL_law 383 = .ok (.aload_n 1, 1) := by decide +kernel
theorem dL_law_384 : decode cL_law 384 = .ok (.aload_n 0, 1) := by decide +kernel
theorem dL_law_385 : decode cL_law 385 = .ok (.iload 4, 2) := by decide +kernel
theorem dL_law_387 : decode cL_law 387 = .ok (.iconst 1, 1) := by decide +kernel
theorem dL_law_388 : decode cL_law 388 = .ok (.iadd, 1) := by decide +kernel
theorem dL_law_389 : decode cL_law 389 = .ok (.iaload, 1) := by decide +kernel
theorem dL_law_390 : decode cL_law 390 = .ok (.aload_n 0, 1) := by decide +kernel
theorem dL_law_391 : decode cL_law 391 = .ok (.iload 4, 2) := by decide +kernel
theorem dL_law_393 : decode cL_law 393 = .ok (.iconst 2, 1) := by decide +kernel
theorem dL_law_394 : decode cL_law 394 = .ok (.iadd, 1) := by decide +kernel
theorem dL_law_395 : decode cL_law 395 = .ok (.iaload, 1) := by decide +kernel
theorem dL_law_396 : decode cL_law 396 = .ok (.aload_n 3, 1) := by decide +kernel
theorem dL_law_397 : decode cL_law 397 = .ok (.invokestatic 107, 3) := by decide +kernel
theorem dL_law_400 : decode cL_law 400 = .ok (.istore 5, 2) := by decide +kernel
theorem dL_law_402 : decode cL_law 402 = .ok (.aload_n 2, 1) := by decide +kernel
theorem dL_law_403 : decode cL_law 403 = .ok (.aload_n 0, 1) := by decide +kernel
theorem dL_law_404 : decode cL_law 404 = .ok (.iload 4, 2) := by decide +kernel
theorem dL_law_406 : decode cL_law 406 = .ok (.iconst 1, 1) := by decide +kernel
theorem dL_law_407 : decode cL_law 407 = .ok (.iadd, 1) := by decide +kernel
theorem dL_law_408 : decode cL_law 408 = .ok (.iaload, 1) := by decide +kernel
theorem dL_law_409 : decode cL_law 409 = .ok (.aload_n 0, 1) := by decide +kernel
theorem dL_law_410 : decode cL_law 410 = .ok (.iload 4, 2) := by decide +kernel
theorem dL_law_412 : decode cL_law 412 = .ok (.iconst 2, 1) := by decide +kernel
theorem dL_law_413 : decode cL_law 413 = .ok (.iadd, 1) := by decide +kernel
theorem dL_law_414 : decode cL_law 414 = .ok (.iaload, 1) := by decide +kernel
theorem dL_law_415 : decode cL_law 415 = .ok (.invokevirtual 110, 3) := by decide +kernel
theorem dL_law_418 : decode cL_law 418 = .ok (.istore 6, 2) := by decide +kernel
theorem dL_law_420 : decode cL_law 420 = .ok (.aload_n 2, 1) := by decide +kernel
theorem dL_law_421 : decode cL_law 421 = .ok (.invokevirtual 88, 3) := by decide +kernel
theorem dL_law_424 : decode cL_law 424 = .ok (.iload 5, 2) := by decide +kernel
theorem dL_law_426 : decode cL_law 426 = .ok (.if_icmp .eq 5, 3) := by decide +kernel
theorem dL_law_429 : decode cL_law 429 = .ok (.iconst 0, 1) := by decide +kernel
theorem dL_law_430 : decode cL_law 430 = .ok (.ireturn, 1) := by decide +kernel
theorem dL_law_431 : decode cL_law 431 = .ok (.iload 5, 2) := by decide +kernel
theorem dL_law_433 : decode cL_law 433 = .ok (.ifCond .ne 15, 3) := by decide +kernel
theorem dL_law_436 : decode cL_law 436 = .ok (.aload_n 3, 1) := by decide +kernel
theorem dL_law_437 : decode cL_law 437 = .ok (.iconst 0, 1) := by decide +kernel
theorem dL_law_438 : decode cL_law 438 = .ok (.laload, 1) := by decide +kernel
theorem dL_law_439 : decode cL_law 439 = .ok (.iload 6, 2) := by decide +kernel
theorem dL_law_441 : decode cL_law 441 = .ok (.i2l, 1) := by decide +kernel
theorem dL_law_442 : decode cL_law 442 = .ok (.lcmp, 1) := by decide +kernel
theorem dL_law_443 : decode cL_law 443 = .ok (.ifCond .eq 5, 3) := by decide +kernel
theorem dL_law_446 : decode cL_law 446 = .ok (.iconst 0, 1) := by decide +kernel
theorem dL_law_447 : decode cL_law 447 = .ok (.ireturn, 1) := by decide +kernel
theorem dL_law_448 : decode cL_law 448 = .ok (.goto 998, 3) := by decide +kernel
theorem dL_law_451 : decode cL_law 451 = .ok (.aload_n 1, 1) := by decide +kernel
theorem dL_law_452 : decode cL_law 452 = .ok (.invokevirtual 111, 3) := by decide +kernel
theorem dL_law_455 : decode cL_law 455 = .ok (.aload_n 2, 1) := by decide +kernel
theorem dL_law_456 : decode cL_law 456 = .ok (.invokevirtual 114, 3) := by decide +kernel
theorem dL_law_459 : decode cL_law 459 = .ok (.if_icmp .eq 987, 3) := by decide +kernel
theorem dL_law_462 : decode cL_law 462 = .ok (.iconst 0, 1) := by decide +kernel
theorem dL_law_463 : decode cL_law 463 = .ok (.ireturn, 1) := by decide +kernel
theorem dL_law_464 : decode cL_law 464 = .ok (.aload_n 1, 1) := by decide +kernel
theorem dL_law_465 : decode cL_law 465 = .ok (.aload_n 0, 1) := by decide +kernel
theorem dL_law_466 : decode cL_law 466 = .ok (.iload 4, 2) := by decide +kernel
theorem dL_law_468 : decode cL_law 468 = .ok (.iconst 1, 1) := by decide +kernel
theorem dL_law_469 : decode cL_law 469 = .ok (.iadd, 1) := by decide +kernel
theorem dL_law_470 : decode cL_law 470 = .ok (.iaload, 1) := by decide +kernel
theorem dL_law_471 : decode cL_law 471 = .ok (.aload_n 0, 1) := by decide +kernel
theorem dL_law_472 : decode cL_law 472 = .ok (.iload 4, 2) := by decide +kernel
theorem dL_law_474 : decode cL_law 474 = .ok (.iconst 2, 1) := by decide +kernel
theorem dL_law_475 : decode cL_law 475 = .ok (.iadd, 1) := by decide +kernel
theorem dL_law_476 : decode cL_law 476 = .ok (.iaload, 1) := by decide +kernel
theorem dL_law_477 : decode cL_law 477 = .ok (.aload_n 3, 1) := by decide +kernel
theorem dL_law_478 : decode cL_law 478 = .ok (.invokestatic 115, 3) := by decide +kernel
theorem dL_law_481 : decode cL_law 481 = .ok (.istore 5, 2) := by decide +kernel
theorem dL_law_483 : decode cL_law 483 = .ok (.aload_n 2, 1) := by decide +kernel
theorem dL_law_484 : decode cL_law 484 = .ok (.aload_n 0, 1) := by decide +kernel
theorem dL_law_485 : decode cL_law 485 = .ok (.iload 4, 2) := by decide +kernel
theorem dL_law_487 : decode cL_law 487 = .ok (.iconst 1, 1) := by decide +kernel
theorem dL_law_488 : decode cL_law 488 = .ok (.iadd, 1) := by decide +kernel
theorem dL_law_489 : decode cL_law 489 = .ok (.iaload, 1) := by decide +kernel
theorem dL_law_490 : decode cL_law 490 = .ok (.aload_n 0, 1) := by decide +kernel
theorem dL_law_491 : decode cL_law 491 = .ok (.iload 4, 2) := by decide +kernel
theorem dL_law_493 : decode cL_law 493 = .ok (.iconst 2, 1) := by decide +kernel
theorem dL_law_494 : decode cL_law 494 = .ok (.iadd, 1) := by decide +kernel
theorem dL_law_495 : decode cL_law 495 = .ok (.iaload, 1) := by decide +kernel
theorem dL_law_496 : decode cL_law 496 = .ok (.invokevirtual 117, 3) := by decide +kernel
theorem dL_law_499 : decode cL_law 499 = .ok (.istore 6, 2) := by decide +kernel
theorem dL_law_501 : decode cL_law 501 = .ok (.aload_n 2, 1) := by decide +kernel
theorem dL_law_502 : decode cL_law 502 = .ok (.invokevirtual 88, 3) := by decide +kernel
theorem dL_law_505 : decode cL_law 505 = .ok (.iload 5, 2) := by decide +kernel
theorem dL_law_507 : decode cL_law 507 = .ok (.if_icmp .eq 5, 3) := by decide +kernel
theorem dL_law_510 : decode cL_law 510 = .ok (.iconst 0, 1) := by decide +kernel
theorem dL_law_511 : decode cL_law 511 = .ok (.ireturn, 1) := by decide +kernel
theorem dL_law_512 : decode cL_law 512 = .ok (.iload 5, 2) := by decide +kernel
theorem dL_law_514 : decode cL_law 514 = .ok (.ifCond .ne 22, 3) := by decide +kernel
theorem dL_law_517 : decode cL_law 517 = .ok (.aload_n 3, 1) := by decide +kernel
theorem dL_law_518 : decode cL_law 518 = .ok (.iconst 0, 1) := by decide +kernel
theorem dL_law_519 : decode cL_law 519 = .ok (.laload, 1) := by decide +kernel
theorem dL_law_520 : decode cL_law 520 = .ok (.iload 6, 2) := by decide +kernel
theorem dL_law_522 : decode cL_law 522 = .ok (.ifCond .eq 7, 3) := by decide +kernel
theorem dL_law_525 : decode cL_law 525 = .ok (.lconst 1, 1) := by decide +kernel
theorem dL_law_526 : decode cL_law 526 = .ok (.goto 4, 3) := by decide +kernel
theorem dL_law_529 : decode cL_law 529 = .ok (.lconst 0, 1) := by decide +kernel
theorem dL_law_530 : decode cL_law 530 = .ok (.lcmp, 1) := by decide +kernel
theorem dL_law_531 : decode cL_law 531 = .ok (.ifCond .eq 5, 3) := by decide +kernel
theorem dL_law_534 : decode cL_law 534 = .ok (.iconst 0, 1) := by decide +kernel
theorem dL_law_535 : decode cL_law 535 = .ok (.ireturn, 1) := by decide +kernel
theorem dL_law_536 : decode cL_law 536 = .ok (.goto 910, 3) := by decide +kernel
theorem dL_law_539 : decode cL_law 539 = .ok (.aload_n 1, 1) := by decide +kernel
theorem dL_law_540 : decode cL_law 540 = .ok (.aload_n 0, 1) := by decide +kernel
theorem dL_law_541 : decode cL_law 541 = .ok (.iload 4, 2) := by decide +kernel
theorem dL_law_543 : decode cL_law 543 = .ok (.iconst 1, 1) := by decide +kernel
theorem dL_law_544 : decode cL_law 544 = .ok (.iadd, 1) := by decide +kernel
theorem dL_law_545 : decode cL_law 545 = .ok (.iaload, 1) := by decide +kernel
theorem dL_law_546 : decode cL_law 546 = .ok (.aload_n 0, 1) := by decide +kernel
theorem dL_law_547 : decode cL_law 547 = .ok (.iload 4, 2) := by decide +kernel
theorem dL_law_549 : decode cL_law 549 = .ok (.iconst 2, 1) := by decide +kernel
theorem dL_law_550 : decode cL_law 550 = .ok (.iadd, 1) := by decide +kernel
theorem dL_law_551 : decode cL_law 551 = .ok (.iaload, 1) := by decide +kernel
theorem dL_law_552 : decode cL_law 552 = .ok (.aload_n 0, 1) := by decide +kernel
theorem dL_law_553 : decode cL_law 553 = .ok (.iload 4, 2) := by decide +kernel
theorem dL_law_555 : decode cL_law 555 = .ok (.iconst 3, 1) := by decide +kernel
theorem dL_law_556 : decode cL_law 556 = .ok (.iadd, 1) := by decide +kernel
theorem dL_law_557 : decode cL_law 557 = .ok (.iaload, 1) := by decide +kernel
end
section
theorem dL_law_558 : decode cL_law 558 = .ok (.aload_n 0, 1) := by decide +kernel
theorem dL_law_559 : decode cL_law 559 = .ok (.iload 4, 2) := by decide +kernel
theorem dL_law_561 : decode cL_law 561 = .ok (.iconst 4, 1) := by decide +kernel
theorem dL_law_562 : decode cL_law 562 = .ok (.iadd, 1) := by decide +kernel
theorem dL_law_563 : decode cL_law 563 = .ok (.iaload, 1) := by decide +kernel
theorem dL_law_564 : decode cL_law 564 = .ok (.aload_n 3, 1) := by decide +kernel
theorem dL_law_565 : decode cL_law 565 = .ok (.invokestatic 118, 3) := by decide +kernel
theorem dL_law_568 : decode cL_law 568 = .ok (.istore 5, 2) := by decide +kernel
theorem dL_law_570 : decode cL_law 570 = .ok (.aload_n 2, 1) := by decide +kernel
theorem dL_law_571 : decode cL_law 571 = .ok (.aload_n 0, 1) := by decide +kernel
theorem dL_law_572 : decode cL_law 572 = .ok (.iload 4, 2) := by decide +kernel
theorem dL_law_574 : decode cL_law 574 = .ok (.iconst 1, 1) := by decide +kernel
theorem dL_law_575 : decode cL_law 575 = .ok (.iadd, 1) := by decide +kernel
theorem dL_law_576 : decode cL_law 576 = .ok (.iaload, 1) := by decide +kernel
theorem dL_law_577 : decode cL_law 577 = .ok (.aload_n 0, 1) := by decide +kernel
theorem dL_law_578 : decode cL_law 578 = .ok (.iload 4, 2) := by decide +kernel
theorem dL_law_580 : decode cL_law 580 = .ok (.iconst 2, 1) := by decide +kernel
theorem dL_law_581 : decode cL_law 581 = .ok (.iadd, 1) := by decide +kernel
theorem dL_law_582 : decode cL_law 582 = .ok (.iaload, 1) := by decide +kernel
theorem dL_law_583 : decode cL_law 583 = .ok (.aload_n 0, 1) := by decide +kernel
theorem dL_law_584 : decode cL_law 584 = .ok (.iload 4, 2) := by decide +kernel
theorem dL_law_586 : decode cL_law 586 = .ok (.iconst 3, 1) := by decide +kernel
theorem dL_law_587 : decode cL_law 587 = .ok (.iadd, 1) := by decide +kernel
theorem dL_law_588 : decode cL_law 588 = .ok (.iaload, 1) := by decide +kernel
theorem dL_law_589 : decode cL_law 589 = .ok (.aload_n 0, 1) := by decide +kernel
theorem dL_law_590 : decode cL_law 590 = .ok (.iload 4, 2) := by decide +kernel
theorem dL_law_592 : decode cL_law 592 = .ok (.iconst 4, 1) := by decide +kernel
theorem dL_law_593 : decode cL_law 593 = .ok (.iadd, 1) := by decide +kernel
theorem dL_law_594 : decode cL_law 594 = .ok (.iaload, 1) := by decide +kernel
theorem dL_law_595 : decode cL_law 595 = .ok (.invokevirtual 121, 3) := by decide +kernel
theorem dL_law_598 : decode cL_law 598 = .ok (.istore 6, 2) := by decide +kernel
theorem dL_law_600 : decode cL_law 600 = .ok (.aload_n 2, 1) := by decide +kernel
theorem dL_law_601 : decode cL_law 601 = .ok (.invokevirtual 88, 3) := by decide +kernel
theorem dL_law_604 : decode cL_law 604 = .ok (.iload 5, 2) := by decide +kernel
theorem dL_law_606 : decode cL_law 606 = .ok (.if_icmp .eq 5, 3) := by decide +kernel
theorem dL_law_609 : decode cL_law 609 = .ok (.iconst 0, 1) := by decide +kernel
theorem dL_law_610 : decode cL_law 610 = .ok (.ireturn, 1) := by decide +kernel
theorem dL_law_611 : decode cL_law 611 = .ok (.iload 5, 2) := by decide +kernel
theorem dL_law_613 : decode cL_law 613 = .ok (.ifCond .ne 15, 3) := by decide +kernel
theorem dL_law_616 : decode cL_law 616 = .ok (.aload_n 3, 1) := by decide +kernel
theorem dL_law_617 : decode cL_law 617 = .ok (.iconst 0, 1) := by decide +kernel
theorem dL_law_618 : decode cL_law 618 = .ok (.laload, 1) := by decide +kernel
theorem dL_law_619 : decode cL_law 619 = .ok (.iload 6, 2) := by decide +kernel
theorem dL_law_621 : decode cL_law 621 = .ok (.i2l, 1) := by decide +kernel
theorem dL_law_622 : decode cL_law 622 = .ok (.lcmp, 1) := by decide +kernel
theorem dL_law_623 : decode cL_law 623 = .ok (.ifCond .eq 5, 3) := by decide +kernel
theorem dL_law_626 : decode cL_law 626 = .ok (.iconst 0, 1) := by decide +kernel
theorem dL_law_627 : decode cL_law 627 = .ok (.ireturn, 1) := by decide +kernel
theorem dL_law_628 : decode cL_law 628 = .ok (.goto 818, 3) := by decide +kernel
theorem dL_law_631 : decode cL_law 631 = .ok (.aload_n 1, 1) := by decide +kernel
theorem dL_law_632 : decode cL_law 632 = .ok (.aload_n 0, 1) := by decide +kernel
theorem dL_law_633 : decode cL_law 633 = .ok (.iload 4, 2) := by decide +kernel
theorem dL_law_635 : decode cL_law 635 = .ok (.iconst 1, 1) := by decide +kernel
theorem dL_law_636 : decode cL_law 636 = .ok (.iadd, 1) := by decide +kernel
theorem dL_law_637 : decode cL_law 637 = .ok (.iaload, 1) := by decide +kernel
theorem dL_law_638 : decode cL_law 638 = .ok (.aload_n 3, 1) := by decide +kernel
theorem dL_law_639 : decode cL_law 639 = .ok (.invokestatic 122, 3) := by decide +kernel
theorem dL_law_642 : decode cL_law 642 = .ok (.istore 5, 2) := by decide +kernel
theorem dL_law_644 : decode cL_law 644 = .ok (.aload_n 2, 1) := by decide +kernel
theorem dL_law_645 : decode cL_law 645 = .ok (.aload_n 0, 1) := by decide +kernel
theorem dL_law_646 : decode cL_law 646 = .ok (.iload 4, 2) := by decide +kernel
theorem dL_law_648 : decode cL_law 648 = .ok (.iconst 1, 1) := by decide +kernel
theorem dL_law_649 : decode cL_law 649 = .ok (.iadd, 1) := by decide +kernel
theorem dL_law_650 : decode cL_law 650 = .ok (.iaload, 1) := by decide +kernel
theorem dL_law_651 : decode cL_law 651 = .ok (.invokevirtual 124, 3) := by decide +kernel
theorem dL_law_654 : decode cL_law 654 = .ok (.istore 6, 2) := by decide +kernel
theorem dL_law_656 : decode cL_law 656 = .ok (.aload_n 2, 1) := by decide +kernel
theorem dL_law_657 : decode cL_law 657 = .ok (.invokevirtual 88, 3) := by decide +kernel
theorem dL_law_660 : decode cL_law 660 = .ok (.iload 5, 2) := by decide +kernel
theorem dL_law_662 : decode cL_law 662 = .ok (.if_icmp .eq 5, 3) := by decide +kernel
theorem dL_law_665 : decode cL_law 665 = .ok (.iconst 0, 1) := by decide +kernel
theorem dL_law_666 : decode cL_law 666 = .ok (.ireturn, 1) := by decide +kernel
theorem dL_law_667 : decode cL_law 667 = .ok (.iload 5, 2) := by decide +kernel
theorem dL_law_669 : decode cL_law 669 = .ok (.ifCond .ne 22, 3) := by decide +kernel
theorem dL_law_672 : decode cL_law 672 = .ok (.aload_n 3, 1) := by decide +kernel
theorem dL_law_673 : decode cL_law 673 = .ok (.iconst 0, 1) := by decide +kernel
theorem dL_law_674 : decode cL_law 674 = .ok (.laload, 1) := by decide +kernel
theorem dL_law_675 : decode cL_law 675 = .ok (.iload 6, 2) := by decide +kernel
theorem dL_law_677 : decode cL_law 677 = .ok (.ifCond .eq 7, 3) := by decide +kernel
theorem dL_law_680 : decode cL_law 680 = .ok (.lconst 1, 1) := by decide +kernel
theorem dL_law_681 : decode cL_law 681 = .ok (.goto 4, 3) := by decide +kernel
theorem dL_law_684 : decode cL_law 684 = .ok (.lconst 0, 1) := by decide +kernel
theorem dL_law_685 : decode cL_law 685 = .ok (.lcmp, 1) := by decide +kernel
theorem dL_law_686 : decode cL_law 686 = .ok (.ifCond .eq 5, 3) := by decide +kernel
theorem dL_law_689 : decode cL_law 689 = .ok (.iconst 0, 1) := by decide +kernel
theorem dL_law_690 : decode cL_law 690 = .ok (.ireturn, 1) := by decide +kernel
theorem dL_law_691 : decode cL_law 691 = .ok (.goto 755, 3) := by decide +kernel
theorem dL_law_694 : decode cL_law 694 = .ok (.aload_n 1, 1) := by decide +kernel
theorem dL_law_695 : decode cL_law 695 = .ok (.aload_n 3, 1) := by decide +kernel
theorem dL_law_696 : decode cL_law 696 = .ok (.invokestatic 125, 3) := by decide +kernel
theorem dL_law_699 : decode cL_law 699 = .ok (.istore 5, 2) := by decide +kernel
theorem dL_law_701 : decode cL_law 701 = .ok (.aload_n 2, 1) := by decide +kernel
theorem dL_law_702 : decode cL_law 702 = .ok (.invokevirtual 127, 3) := by decide +kernel
theorem dL_law_705 : decode cL_law 705 = .ok (.istore 6, 2) := by decide +kernel
theorem dL_law_707 : decode cL_law 707 = .ok (.aload_n 2, 1) := by decide +kernel
theorem dL_law_708 : decode cL_law 708 = .ok (.invokevirtual 88, 3) := by decide +kernel
theorem dL_law_711 : decode cL_law 711 = .ok (.iload 5, 2) := by decide +kernel
theorem dL_law_713 : decode cL_law 713 = .ok (.if_icmp .eq 5, 3) := by decide +kernel
theorem dL_law_716 : decode cL_law 716 = .ok (.iconst 0, 1) := by decide +kernel
theorem dL_law_717 : decode cL_law 717 = .ok (.ireturn, 1) := by decide +kernel
theorem dL_law_718 : decode cL_law 718 = .ok (.iload 5, 2) := by decide +kernel
theorem dL_law_720 : decode cL_law 720 = .ok (.ifCond .ne 15, 3) := by decide +kernel
theorem dL_law_723 : decode cL_law 723 = .ok (.aload_n 3, 1) := by decide +kernel
theorem dL_law_724 : decode cL_law 724 = .ok (.iconst 0, 1) := by decide +kernel
theorem dL_law_725 : decode cL_law 725 = .ok (.laload, 1) := by decide +kernel
theorem dL_law_726 : decode cL_law 726 = .ok (.iload 6, 2) := by decide +kernel
theorem dL_law_728 : decode cL_law 728 = .ok (.i2l, 1) := by decide +kernel
theorem dL_law_729 : decode cL_law 729 = .ok (.lcmp, 1) := by decide +kernel
theorem dL_law_730 : decode cL_law 730 = .ok (.ifCond .eq 5, 3) := by decide +kernel
theorem dL_law_733 : decode cL_law 733 = .ok (.iconst 0, 1) := by decide +kernel
theorem dL_law_734 : decode cL_law 734 = .ok (.ireturn, 1) := by decide +kernel
theorem dL_law_735 : decode cL_law 735 = .ok (.goto 711, 3) := by decide +kernel
theorem dL_law_738 : decode cL_law 738 = .ok (.aload_n 1, 1) := by decide +kernel
theorem dL_law_739 : decode cL_law 739 = .ok (.aload_n 0, 1) := by decide +kernel
theorem dL_law_740 : decode cL_law 740 = .ok (.iload 4, 2) := by decide +kernel
theorem dL_law_742 : decode cL_law 742 = .ok (.iconst 1, 1) := by decide +kernel
theorem dL_law_743 : decode cL_law 743 = .ok (.iadd, 1) := by decide +kernel
theorem dL_law_744 : decode cL_law 744 = .ok (.iaload, 1) := by decide +kernel
theorem dL_law_745 : decode cL_law 745 = .ok (.aload_n 0, 1) := by decide +kernel
theorem dL_law_746 : decode cL_law 746 = .ok (.iload 4, 2) := by decide +kernel
theorem dL_law_748 : decode cL_law 748 = .ok (.iconst 2, 1) := by decide +kernel
theorem dL_law_749 : decode cL_law 749 = .ok (.iadd, 1) := by decide +kernel
theorem dL_law_750 : decode cL_law 750 = .ok (.iaload, 1) := by decide +kernel
theorem dL_law_751 : decode cL_law 751 = .ok (.aload_n 3, 1) := by decide +kernel
theorem dL_law_752 : decode cL_law 752 = .ok (.invokestatic 128, 3) := by decide +kernel
theorem dL_law_755 : decode cL_law 755 = .ok (.istore 5, 2) := by decide +kernel
theorem dL_law_757 : decode cL_law 757 = .ok (.aload_n 2, 1) := by decide +kernel
theorem dL_law_758 : decode cL_law 758 = .ok (.aload_n 0, 1) := by decide +kernel
theorem dL_law_759 : decode cL_law 759 = .ok (.iload 4, 2) := by decide +kernel
theorem dL_law_761 : decode cL_law 761 = .ok (.iconst 1, 1) := by decide +kernel
theorem dL_law_762 : decode cL_law 762 = .ok (.iadd, 1) := by decide +kernel
theorem dL_law_763 : decode cL_law 763 = .ok (.iaload, 1) := by decide +kernel
theorem dL_law_764 : decode cL_law 764 = .ok (.aload_n 0, 1) := by decide +kernel
theorem dL_law_765 : decode cL_law 765 = .ok (.iload 4, 2) := by decide +kernel
theorem dL_law_767 : decode cL_law 767 = .ok (.iconst 2, 1) := by decide +kernel
theorem dL_law_768 : decode cL_law 768 = .ok (.iadd, 1) := by decide +kernel
theorem dL_law_769 : decode cL_law 769 = .ok (.iaload, 1) := by decide +kernel
theorem dL_law_770 : decode cL_law 770 = .ok (.invokevirtual 130, 3) := by decide +kernel
theorem dL_law_773 : decode cL_law 773 = .ok (.istore 6, 2) := by decide +kernel
theorem dL_law_775 : decode cL_law 775 = .ok (.aload_n 2, 1) := by decide +kernel
theorem dL_law_776 : decode cL_law 776 = .ok (.invokevirtual 88, 3) := by decide +kernel
theorem dL_law_779 : decode cL_law 779 = .ok (.iload 5, 2) := by decide +kernel
theorem dL_law_781 : decode cL_law 781 = .ok (.if_icmp .eq 5, 3) := by decide +kernel
theorem dL_law_784 : decode cL_law 784 = .ok (.iconst 0, 1) := by decide +kernel
theorem dL_law_785 : decode cL_law 785 = .ok (.ireturn, 1) := by decide +kernel
theorem dL_law_786 : decode cL_law 786 = .ok (.iload 5, 2) := by decide +kernel
theorem dL_law_788 : decode cL_law 788 = .ok (.ifCond .ne 15, 3) := by decide +kernel
theorem dL_law_791 : decode cL_law 791 = .ok (.aload_n 3, 1) := by decide +kernel
theorem dL_law_792 : decode cL_law 792 = .ok (.iconst 0, 1) := by decide +kernel
theorem dL_law_793 : decode cL_law 793 = .ok (.laload, 1) := by decide +kernel
end
section
theorem dL_law_794 : decode cL_law 794 = .ok (.iload 6, 2) := by decide +kernel
theorem dL_law_796 : decode cL_law 796 = .ok (.i2l, 1) := by decide +kernel
theorem dL_law_797 : decode cL_law 797 = .ok (.lcmp, 1) := by decide +kernel
theorem dL_law_798 : decode cL_law 798 = .ok (.ifCond .eq 5, 3) := by decide +kernel
theorem dL_law_801 : decode cL_law 801 = .ok (.iconst 0, 1) := by decide +kernel
theorem dL_law_802 : decode cL_law 802 = .ok (.ireturn, 1) := by decide +kernel
theorem dL_law_803 : decode cL_law 803 = .ok (.goto 643, 3) := by decide +kernel
theorem dL_law_806 : decode cL_law 806 = .ok (.aload_n 1, 1) := by decide +kernel
theorem dL_law_807 : decode cL_law 807 = .ok (.aload_n 0, 1) := by decide +kernel
theorem dL_law_808 : decode cL_law 808 = .ok (.iload 4, 2) := by decide +kernel
theorem dL_law_810 : decode cL_law 810 = .ok (.iconst 1, 1) := by decide +kernel
theorem dL_law_811 : decode cL_law 811 = .ok (.iadd, 1) := by decide +kernel
theorem dL_law_812 : decode cL_law 812 = .ok (.iaload, 1) := by decide +kernel
theorem dL_law_813 : decode cL_law 813 = .ok (.aload_n 0, 1) := by decide +kernel
theorem dL_law_814 : decode cL_law 814 = .ok (.iload 4, 2) := by decide +kernel
theorem dL_law_816 : decode cL_law 816 = .ok (.iconst 2, 1) := by decide +kernel
theorem dL_law_817 : decode cL_law 817 = .ok (.iadd, 1) := by decide +kernel
theorem dL_law_818 : decode cL_law 818 = .ok (.iaload, 1) := by decide +kernel
theorem dL_law_819 : decode cL_law 819 = .ok (.aload_n 3, 1) := by decide +kernel
theorem dL_law_820 : decode cL_law 820 = .ok (.invokestatic 131, 3) := by decide +kernel
theorem dL_law_823 : decode cL_law 823 = .ok (.istore 5, 2) := by decide +kernel
theorem dL_law_825 : decode cL_law 825 = .ok (.aload_n 2, 1) := by decide +kernel
theorem dL_law_826 : decode cL_law 826 = .ok (.aload_n 0, 1) := by decide +kernel
theorem dL_law_827 : decode cL_law 827 = .ok (.iload 4, 2) := by decide +kernel
theorem dL_law_829 : decode cL_law 829 = .ok (.iconst 1, 1) := by decide +kernel
theorem dL_law_830 : decode cL_law 830 = .ok (.iadd, 1) := by decide +kernel
theorem dL_law_831 : decode cL_law 831 = .ok (.iaload, 1) := by decide +kernel
theorem dL_law_832 : decode cL_law 832 = .ok (.aload_n 0, 1) := by decide +kernel
theorem dL_law_833 : decode cL_law 833 = .ok (.iload 4, 2) := by decide +kernel
theorem dL_law_835 : decode cL_law 835 = .ok (.iconst 2, 1) := by decide +kernel
theorem dL_law_836 : decode cL_law 836 = .ok (.iadd, 1) := by decide +kernel
theorem dL_law_837 : decode cL_law 837 = .ok (.iaload, 1) := by decide +kernel
theorem dL_law_838 : decode cL_law 838 = .ok (.invokevirtual 133, 3) := by decide +kernel
theorem dL_law_841 : decode cL_law 841 = .ok (.istore 6, 2) := by decide +kernel
theorem dL_law_843 : decode cL_law 843 = .ok (.aload_n 2, 1) := by decide +kernel
theorem dL_law_844 : decode cL_law 844 = .ok (.invokevirtual 88, 3) := by decide +kernel
theorem dL_law_847 : decode cL_law 847 = .ok (.iload 5, 2) := by decide +kernel
theorem dL_law_849 : decode cL_law 849 = .ok (.if_icmp .eq 5, 3) := by decide +kernel
theorem dL_law_852 : decode cL_law 852 = .ok (.iconst 0, 1) := by decide +kernel
theorem dL_law_853 : decode cL_law 853 = .ok (.ireturn, 1) := by decide +kernel
theorem dL_law_854 : decode cL_law 854 = .ok (.iload 5, 2) := by decide +kernel
theorem dL_law_856 : decode cL_law 856 = .ok (.ifCond .ne 15, 3) := by decide +kernel
theorem dL_law_859 : decode cL_law 859 = .ok (.aload_n 3, 1) := by decide +kernel
theorem dL_law_860 : decode cL_law 860 = .ok (.iconst 0, 1) := by decide +kernel
theorem dL_law_861 : decode cL_law 861 = .ok (.laload, 1) := by decide +kernel
theorem dL_law_862 : decode cL_law 862 = .ok (.iload 6, 2) := by decide +kernel
theorem dL_law_864 : decode cL_law 864 = .ok (.i2l, 1) := by decide +kernel
theorem dL_law_865 : decode cL_law 865 = .ok (.lcmp, 1) := by decide +kernel
theorem dL_law_866 : decode cL_law 866 = .ok (.ifCond .eq 5, 3) := by decide +kernel
theorem dL_law_869 : decode cL_law 869 = .ok (.iconst 0, 1) := by decide +kernel
theorem dL_law_870 : decode cL_law 870 = .ok (.ireturn, 1) := by decide +kernel
theorem dL_law_871 : decode cL_law 871 = .ok (.goto 575, 3) := by decide +kernel
theorem dL_law_874 : decode cL_law 874 = .ok (.aload_n 1, 1) := by decide +kernel
theorem dL_law_875 : decode cL_law 875 = .ok (.aload_n 0, 1) := by decide +kernel
theorem dL_law_876 : decode cL_law 876 = .ok (.iload 4, 2) := by decide +kernel
theorem dL_law_878 : decode cL_law 878 = .ok (.iconst 1, 1) := by decide +kernel
theorem dL_law_879 : decode cL_law 879 = .ok (.iadd, 1) := by decide +kernel
theorem dL_law_880 : decode cL_law 880 = .ok (.iaload, 1) := by decide +kernel
theorem dL_law_881 : decode cL_law 881 = .ok (.aload_n 0, 1) := by decide +kernel
theorem dL_law_882 : decode cL_law 882 = .ok (.iload 4, 2) := by decide +kernel
theorem dL_law_884 : decode cL_law 884 = .ok (.iconst 2, 1) := by decide +kernel
theorem dL_law_885 : decode cL_law 885 = .ok (.iadd, 1) := by decide +kernel
theorem dL_law_886 : decode cL_law 886 = .ok (.iaload, 1) := by decide +kernel
theorem dL_law_887 : decode cL_law 887 = .ok (.aload_n 0, 1) := by decide +kernel
theorem dL_law_888 : decode cL_law 888 = .ok (.iload 4, 2) := by decide +kernel
theorem dL_law_890 : decode cL_law 890 = .ok (.iconst 3, 1) := by decide +kernel
theorem dL_law_891 : decode cL_law 891 = .ok (.iadd, 1) := by decide +kernel
theorem dL_law_892 : decode cL_law 892 = .ok (.iaload, 1) := by decide +kernel
theorem dL_law_893 : decode cL_law 893 = .ok (.aload_n 3, 1) := by decide +kernel
theorem dL_law_894 : decode cL_law 894 = .ok (.invokestatic 134, 3) := by decide +kernel
theorem dL_law_897 : decode cL_law 897 = .ok (.istore 5, 2) := by decide +kernel
theorem dL_law_899 : decode cL_law 899 = .ok (.aload_n 2, 1) := by decide +kernel
theorem dL_law_900 : decode cL_law 900 = .ok (.aload_n 0, 1) := by decide +kernel
theorem dL_law_901 : decode cL_law 901 = .ok (.iload 4, 2) := by decide +kernel
theorem dL_law_903 : decode cL_law 903 = .ok (.iconst 1, 1) := by decide +kernel
theorem dL_law_904 : decode cL_law 904 = .ok (.iadd, 1) := by decide +kernel
theorem dL_law_905 : decode cL_law 905 = .ok (.iaload, 1) := by decide +kernel
theorem dL_law_906 : decode cL_law 906 = .ok (.aload_n 0, 1) := by decide +kernel
theorem dL_law_907 : decode cL_law 907 = .ok (.iload 4, 2) := by decide +kernel
theorem dL_law_909 : decode cL_law 909 = .ok (.iconst 2, 1) := by decide +kernel
theorem dL_law_910 : decode cL_law 910 = .ok (.iadd, 1) := by decide +kernel
theorem dL_law_911 : decode cL_law 911 = .ok (.iaload, 1) := by decide +kernel
theorem dL_law_912 : decode cL_law 912 = .ok (.aload_n 0, 1) := by decide +kernel
theorem dL_law_913 : decode cL_law 913 = .ok (.iload 4, 2) := by decide +kernel
theorem dL_law_915 : decode cL_law 915 = .ok (.iconst 3, 1) := by decide +kernel
theorem dL_law_916 : decode cL_law 916 = .ok (.iadd, 1) := by decide +kernel
theorem dL_law_917 : decode cL_law 917 = .ok (.iaload, 1) := by decide +kernel
theorem dL_law_918 : decode cL_law 918 = .ok (.invokevirtual 136, 3) := by decide +kernel
theorem dL_law_921 : decode cL_law 921 = .ok (.istore 6, 2) := by decide +kernel
theorem dL_law_923 : decode cL_law 923 = .ok (.aload_n 2, 1) := by decide +kernel
theorem dL_law_924 : decode cL_law 924 = .ok (.invokevirtual 88, 3) := by decide +kernel
theorem dL_law_927 : decode cL_law 927 = .ok (.iload 5, 2) := by decide +kernel
theorem dL_law_929 : decode cL_law 929 = .ok (.if_icmp .eq 5, 3) := by decide +kernel
theorem dL_law_932 : decode cL_law 932 = .ok (.iconst 0, 1) := by decide +kernel
theorem dL_law_933 : decode cL_law 933 = .ok (.ireturn, 1) := by decide +kernel
theorem dL_law_934 : decode cL_law 934 = .ok (.iload 5, 2) := by decide +kernel
theorem dL_law_936 : decode cL_law 936 = .ok (.ifCond .ne 15, 3) := by decide +kernel
theorem dL_law_939 : decode cL_law 939 = .ok (.aload_n 3, 1) := by decide +kernel
theorem dL_law_940 : decode cL_law 940 = .ok (.iconst 0, 1) := by decide +kernel
theorem dL_law_941 : decode cL_law 941 = .ok (.laload, 1) := by decide +kernel
theorem dL_law_942 : decode cL_law 942 = .ok (.iload 6, 2) := by decide +kernel
theorem dL_law_944 : decode cL_law 944 = .ok (.i2l, 1) := by decide +kernel
theorem dL_law_945 : decode cL_law 945 = .ok (.lcmp, 1) := by decide +kernel
theorem dL_law_946 : decode cL_law 946 = .ok (.ifCond .eq 5, 3) := by decide +kernel
theorem dL_law_949 : decode cL_law 949 = .ok (.iconst 0, 1) := by decide +kernel
theorem dL_law_950 : decode cL_law 950 = .ok (.ireturn, 1) := by decide +kernel
theorem dL_law_951 : decode cL_law 951 = .ok (.goto 495, 3) := by decide +kernel
theorem dL_law_954 : decode cL_law 954 = .ok (.aload_n 1, 1) := by decide +kernel
theorem dL_law_955 : decode cL_law 955 = .ok (.aload_n 0, 1) := by decide +kernel
theorem dL_law_956 : decode cL_law 956 = .ok (.iload 4, 2) := by decide +kernel
theorem dL_law_958 : decode cL_law 958 = .ok (.iconst 1, 1) := by decide +kernel
theorem dL_law_959 : decode cL_law 959 = .ok (.iadd, 1) := by decide +kernel
theorem dL_law_960 : decode cL_law 960 = .ok (.iaload, 1) := by decide +kernel
theorem dL_law_961 : decode cL_law 961 = .ok (.aload_n 0, 1) := by decide +kernel
theorem dL_law_962 : decode cL_law 962 = .ok (.iload 4, 2) := by decide +kernel
theorem dL_law_964 : decode cL_law 964 = .ok (.iconst 2, 1) := by decide +kernel
theorem dL_law_965 : decode cL_law 965 = .ok (.iadd, 1) := by decide +kernel
theorem dL_law_966 : decode cL_law 966 = .ok (.iaload, 1) := by decide +kernel
theorem dL_law_967 : decode cL_law 967 = .ok (.aload_n 3, 1) := by decide +kernel
theorem dL_law_968 : decode cL_law 968 = .ok (.invokestatic 137, 3) := by decide +kernel
theorem dL_law_971 : decode cL_law 971 = .ok (.istore 5, 2) := by decide +kernel
theorem dL_law_973 : decode cL_law 973 = .ok (.aload_n 2, 1) := by decide +kernel
theorem dL_law_974 : decode cL_law 974 = .ok (.aload_n 0, 1) := by decide +kernel
theorem dL_law_975 : decode cL_law 975 = .ok (.iload 4, 2) := by decide +kernel
theorem dL_law_977 : decode cL_law 977 = .ok (.iconst 1, 1) := by decide +kernel
theorem dL_law_978 : decode cL_law 978 = .ok (.iadd, 1) := by decide +kernel
theorem dL_law_979 : decode cL_law 979 = .ok (.iaload, 1) := by decide +kernel
theorem dL_law_980 : decode cL_law 980 = .ok (.aload_n 0, 1) := by decide +kernel
theorem dL_law_981 : decode cL_law 981 = .ok (.iload 4, 2) := by decide +kernel
theorem dL_law_983 : decode cL_law 983 = .ok (.iconst 2, 1) := by decide +kernel
theorem dL_law_984 : decode cL_law 984 = .ok (.iadd, 1) := by decide +kernel
theorem dL_law_985 : decode cL_law 985 = .ok (.iaload, 1) := by decide +kernel
theorem dL_law_986 : decode cL_law 986 = .ok (.invokevirtual 139, 3) := by decide +kernel
theorem dL_law_989 : decode cL_law 989 = .ok (.istore 6, 2) := by decide +kernel
theorem dL_law_991 : decode cL_law 991 = .ok (.aload_n 2, 1) := by decide +kernel
theorem dL_law_992 : decode cL_law 992 = .ok (.invokevirtual 88, 3) := by decide +kernel
theorem dL_law_995 : decode cL_law 995 = .ok (.iload 5, 2) := by decide +kernel
theorem dL_law_997 : decode cL_law 997 = .ok (.if_icmp .eq 5, 3) := by decide +kernel
theorem dL_law_1000 : decode cL_law 1000 = .ok (.iconst 0, 1) := by decide +kernel
theorem dL_law_1001 : decode cL_law 1001 = .ok (.ireturn, 1) := by decide +kernel
theorem dL_law_1002 : decode cL_law 1002 = .ok (.iload 5, 2) := by decide +kernel
theorem dL_law_1004 : decode cL_law 1004 = .ok (.ifCond .ne 15, 3) := by decide +kernel
theorem dL_law_1007 : decode cL_law 1007 = .ok (.aload_n 3, 1) := by decide +kernel
theorem dL_law_1008 : decode cL_law 1008 = .ok (.iconst 0, 1) := by decide +kernel
theorem dL_law_1009 : decode cL_law 1009 = .ok (.laload, 1) := by decide +kernel
theorem dL_law_1010 : decode cL_law 1010 = .ok (.iload 6, 2) := by decide +kernel
theorem dL_law_1012 : decode cL_law 1012 = .ok (.i2l, 1) := by decide +kernel
theorem dL_law_1013 : decode cL_law 1013 = .ok (.lcmp, 1) := by decide +kernel
theorem dL_law_1014 : decode cL_law 1014 = .ok (.ifCond .eq 5, 3) := by decide +kernel
theorem dL_law_1017 : decode cL_law 1017 = .ok (.iconst 0, 1) := by decide +kernel
end
section
theorem dL_law_1018 : decode cL_law 1018 = .ok (.ireturn, 1) := by decide +kernel
theorem dL_law_1019 : decode cL_law 1019 = .ok (.goto 427, 3) := by decide +kernel
theorem dL_law_1022 : decode cL_law 1022 = .ok (.aload_n 1, 1) := by decide +kernel
theorem dL_law_1023 : decode cL_law 1023 = .ok (.aload_n 0, 1) := by decide +kernel
theorem dL_law_1024 : decode cL_law 1024 = .ok (.iload 4, 2) := by decide +kernel
theorem dL_law_1026 : decode cL_law 1026 = .ok (.iconst 1, 1) := by decide +kernel
theorem dL_law_1027 : decode cL_law 1027 = .ok (.iadd, 1) := by decide +kernel
theorem dL_law_1028 : decode cL_law 1028 = .ok (.iaload, 1) := by decide +kernel
theorem dL_law_1029 : decode cL_law 1029 = .ok (.aload_n 0, 1) := by decide +kernel
theorem dL_law_1030 : decode cL_law 1030 = .ok (.iload 4, 2) := by decide +kernel
theorem dL_law_1032 : decode cL_law 1032 = .ok (.iconst 2, 1) := by decide +kernel
theorem dL_law_1033 : decode cL_law 1033 = .ok (.iadd, 1) := by decide +kernel
theorem dL_law_1034 : decode cL_law 1034 = .ok (.iaload, 1) := by decide +kernel
theorem dL_law_1035 : decode cL_law 1035 = .ok (.aload_n 0, 1) := by decide +kernel
theorem dL_law_1036 : decode cL_law 1036 = .ok (.iload 4, 2) := by decide +kernel
theorem dL_law_1038 : decode cL_law 1038 = .ok (.iconst 3, 1) := by decide +kernel
theorem dL_law_1039 : decode cL_law 1039 = .ok (.iadd, 1) := by decide +kernel
theorem dL_law_1040 : decode cL_law 1040 = .ok (.iaload, 1) := by decide +kernel
theorem dL_law_1041 : decode cL_law 1041 = .ok (.aload_n 0, 1) := by decide +kernel
theorem dL_law_1042 : decode cL_law 1042 = .ok (.iload 4, 2) := by decide +kernel
theorem dL_law_1044 : decode cL_law 1044 = .ok (.iconst 4, 1) := by decide +kernel
theorem dL_law_1045 : decode cL_law 1045 = .ok (.iadd, 1) := by decide +kernel
theorem dL_law_1046 : decode cL_law 1046 = .ok (.iaload, 1) := by decide +kernel
theorem dL_law_1047 : decode cL_law 1047 = .ok (.aload_n 3, 1) := by decide +kernel
theorem dL_law_1048 : decode cL_law 1048 = .ok (.invokestatic 140, 3) := by decide +kernel
theorem dL_law_1051 : decode cL_law 1051 = .ok (.istore 5, 2) := by decide +kernel
theorem dL_law_1053 : decode cL_law 1053 = .ok (.aload_n 2, 1) := by decide +kernel
theorem dL_law_1054 : decode cL_law 1054 = .ok (.aload_n 0, 1) := by decide +kernel
theorem dL_law_1055 : decode cL_law 1055 = .ok (.iload 4, 2) := by decide +kernel
theorem dL_law_1057 : decode cL_law 1057 = .ok (.iconst 1, 1) := by decide +kernel
theorem dL_law_1058 : decode cL_law 1058 = .ok (.iadd, 1) := by decide +kernel
theorem dL_law_1059 : decode cL_law 1059 = .ok (.iaload, 1) := by decide +kernel
theorem dL_law_1060 : decode cL_law 1060 = .ok (.aload_n 0, 1) := by decide +kernel
theorem dL_law_1061 : decode cL_law 1061 = .ok (.iload 4, 2) := by decide +kernel
theorem dL_law_1063 : decode cL_law 1063 = .ok (.iconst 2, 1) := by decide +kernel
theorem dL_law_1064 : decode cL_law 1064 = .ok (.iadd, 1) := by decide +kernel
theorem dL_law_1065 : decode cL_law 1065 = .ok (.iaload, 1) := by decide +kernel
theorem dL_law_1066 : decode cL_law 1066 = .ok (.aload_n 0, 1) := by decide +kernel
theorem dL_law_1067 : decode cL_law 1067 = .ok (.iload 4, 2) := by decide +kernel
theorem dL_law_1069 : decode cL_law 1069 = .ok (.iconst 3, 1) := by decide +kernel
theorem dL_law_1070 : decode cL_law 1070 = .ok (.iadd, 1) := by decide +kernel
theorem dL_law_1071 : decode cL_law 1071 = .ok (.iaload, 1) := by decide +kernel
theorem dL_law_1072 : decode cL_law 1072 = .ok (.aload_n 0, 1) := by decide +kernel
theorem dL_law_1073 : decode cL_law 1073 = .ok (.iload 4, 2) := by decide +kernel
theorem dL_law_1075 : decode cL_law 1075 = .ok (.iconst 4, 1) := by decide +kernel
theorem dL_law_1076 : decode cL_law 1076 = .ok (.iadd, 1) := by decide +kernel
theorem dL_law_1077 : decode cL_law 1077 = .ok (.iaload, 1) := by decide +kernel
theorem dL_law_1078 : decode cL_law 1078 = .ok (.invokevirtual 142, 3) := by decide +kernel
theorem dL_law_1081 : decode cL_law 1081 = .ok (.istore 6, 2) := by decide +kernel
theorem dL_law_1083 : decode cL_law 1083 = .ok (.aload_n 2, 1) := by decide +kernel
theorem dL_law_1084 : decode cL_law 1084 = .ok (.invokevirtual 88, 3) := by decide +kernel
theorem dL_law_1087 : decode cL_law 1087 = .ok (.iload 5, 2) := by decide +kernel
theorem dL_law_1089 : decode cL_law 1089 = .ok (.if_icmp .eq 5, 3) := by decide +kernel
theorem dL_law_1092 : decode cL_law 1092 = .ok (.iconst 0, 1) := by decide +kernel
theorem dL_law_1093 : decode cL_law 1093 = .ok (.ireturn, 1) := by decide +kernel
theorem dL_law_1094 : decode cL_law 1094 = .ok (.iload 5, 2) := by decide +kernel
theorem dL_law_1096 : decode cL_law 1096 = .ok (.ifCond .ne 15, 3) := by decide +kernel
theorem dL_law_1099 : decode cL_law 1099 = .ok (.aload_n 3, 1) := by decide +kernel
theorem dL_law_1100 : decode cL_law 1100 = .ok (.iconst 0, 1) := by decide +kernel
theorem dL_law_1101 : decode cL_law 1101 = .ok (.laload, 1) := by decide +kernel
theorem dL_law_1102 : decode cL_law 1102 = .ok (.iload 6, 2) := by decide +kernel
theorem dL_law_1104 : decode cL_law 1104 = .ok (.i2l, 1) := by decide +kernel
theorem dL_law_1105 : decode cL_law 1105 = .ok (.lcmp, 1) := by decide +kernel
theorem dL_law_1106 : decode cL_law 1106 = .ok (.ifCond .eq 5, 3) := by decide +kernel
theorem dL_law_1109 : decode cL_law 1109 = .ok (.iconst 0, 1) := by decide +kernel
theorem dL_law_1110 : decode cL_law 1110 = .ok (.ireturn, 1) := by decide +kernel
theorem dL_law_1111 : decode cL_law 1111 = .ok (.goto 335, 3) := by decide +kernel
theorem dL_law_1114 : decode cL_law 1114 = .ok (.aload_n 1, 1) := by decide +kernel
theorem dL_law_1115 : decode cL_law 1115 = .ok (.aload_n 0, 1) := by decide +kernel
theorem dL_law_1116 : decode cL_law 1116 = .ok (.iload 4, 2) := by decide +kernel
theorem dL_law_1118 : decode cL_law 1118 = .ok (.iconst 1, 1) := by decide +kernel
theorem dL_law_1119 : decode cL_law 1119 = .ok (.iadd, 1) := by decide +kernel
theorem dL_law_1120 : decode cL_law 1120 = .ok (.iaload, 1) := by decide +kernel
theorem dL_law_1121 : decode cL_law 1121 = .ok (.aload_n 0, 1) := by decide +kernel
theorem dL_law_1122 : decode cL_law 1122 = .ok (.iload 4, 2) := by decide +kernel
theorem dL_law_1124 : decode cL_law 1124 = .ok (.iconst 2, 1) := by decide +kernel
theorem dL_law_1125 : decode cL_law 1125 = .ok (.iadd, 1) := by decide +kernel
theorem dL_law_1126 : decode cL_law 1126 = .ok (.iaload, 1) := by decide +kernel
theorem dL_law_1127 : decode cL_law 1127 = .ok (.aload_n 0, 1) := by decide +kernel
theorem dL_law_1128 : decode cL_law 1128 = .ok (.iload 4, 2) := by decide +kernel
theorem dL_law_1130 : decode cL_law 1130 = .ok (.iconst 3, 1) := by decide +kernel
theorem dL_law_1131 : decode cL_law 1131 = .ok (.iadd, 1) := by decide +kernel
theorem dL_law_1132 : decode cL_law 1132 = .ok (.iaload, 1) := by decide +kernel
theorem dL_law_1133 : decode cL_law 1133 = .ok (.aload_n 0, 1) := by decide +kernel
theorem dL_law_1134 : decode cL_law 1134 = .ok (.iload 4, 2) := by decide +kernel
theorem dL_law_1136 : decode cL_law 1136 = .ok (.iconst 4, 1) := by decide +kernel
theorem dL_law_1137 : decode cL_law 1137 = .ok (.iadd, 1) := by decide +kernel
theorem dL_law_1138 : decode cL_law 1138 = .ok (.iaload, 1) := by decide +kernel
theorem dL_law_1139 : decode cL_law 1139 = .ok (.aload_n 3, 1) := by decide +kernel
theorem dL_law_1140 : decode cL_law 1140 = .ok (.invokestatic 143, 3) := by decide +kernel
theorem dL_law_1143 : decode cL_law 1143 = .ok (.istore 5, 2) := by decide +kernel
theorem dL_law_1145 : decode cL_law 1145 = .ok (.aload_n 2, 1) := by decide +kernel
theorem dL_law_1146 : decode cL_law 1146 = .ok (.aload_n 0, 1) := by decide +kernel
theorem dL_law_1147 : decode cL_law 1147 = .ok (.iload 4, 2) := by decide +kernel
theorem dL_law_1149 : decode cL_law 1149 = .ok (.iconst 1, 1) := by decide +kernel
theorem dL_law_1150 : decode cL_law 1150 = .ok (.iadd, 1) := by decide +kernel
theorem dL_law_1151 : decode cL_law 1151 = .ok (.iaload, 1) := by decide +kernel
theorem dL_law_1152 : decode cL_law 1152 = .ok (.aload_n 0, 1) := by decide +kernel
theorem dL_law_1153 : decode cL_law 1153 = .ok (.iload 4, 2) := by decide +kernel
theorem dL_law_1155 : decode cL_law 1155 = .ok (.iconst 2, 1) := by decide +kernel
theorem dL_law_1156 : decode cL_law 1156 = .ok (.iadd, 1) := by decide +kernel
theorem dL_law_1157 : decode cL_law 1157 = .ok (.iaload, 1) := by decide +kernel
theorem dL_law_1158 : decode cL_law 1158 = .ok (.aload_n 0, 1) := by decide +kernel
theorem dL_law_1159 : decode cL_law 1159 = .ok (.iload 4, 2) := by decide +kernel
theorem dL_law_1161 : decode cL_law 1161 = .ok (.iconst 3, 1) := by decide +kernel
theorem dL_law_1162 : decode cL_law 1162 = .ok (.iadd, 1) := by decide +kernel
theorem dL_law_1163 : decode cL_law 1163 = .ok (.iaload, 1) := by decide +kernel
theorem dL_law_1164 : decode cL_law 1164 = .ok (.aload_n 0, 1) := by decide +kernel
theorem dL_law_1165 : decode cL_law 1165 = .ok (.iload 4, 2) := by decide +kernel
theorem dL_law_1167 : decode cL_law 1167 = .ok (.iconst 4, 1) := by decide +kernel
theorem dL_law_1168 : decode cL_law 1168 = .ok (.iadd, 1) := by decide +kernel
theorem dL_law_1169 : decode cL_law 1169 = .ok (.iaload, 1) := by decide +kernel
theorem dL_law_1170 : decode cL_law 1170 = .ok (.invokevirtual 145, 3) := by decide +kernel
theorem dL_law_1173 : decode cL_law 1173 = .ok (.istore 6, 2) := by decide +kernel
theorem dL_law_1175 : decode cL_law 1175 = .ok (.aload_n 2, 1) := by decide +kernel
theorem dL_law_1176 : decode cL_law 1176 = .ok (.invokevirtual 88, 3) := by decide +kernel
theorem dL_law_1179 : decode cL_law 1179 = .ok (.iload 5, 2) := by decide +kernel
theorem dL_law_1181 : decode cL_law 1181 = .ok (.if_icmp .eq 5, 3) := by decide +kernel
theorem dL_law_1184 : decode cL_law 1184 = .ok (.iconst 0, 1) := by decide +kernel
theorem dL_law_1185 : decode cL_law 1185 = .ok (.ireturn, 1) := by decide +kernel
theorem dL_law_1186 : decode cL_law 1186 = .ok (.iload 5, 2) := by decide +kernel
theorem dL_law_1188 : decode cL_law 1188 = .ok (.ifCond .ne 15, 3) := by decide +kernel
theorem dL_law_1191 : decode cL_law 1191 = .ok (.aload_n 3, 1) := by decide +kernel
theorem dL_law_1192 : decode cL_law 1192 = .ok (.iconst 0, 1) := by decide +kernel
theorem dL_law_1193 : decode cL_law 1193 = .ok (.laload, 1) := by decide +kernel
theorem dL_law_1194 : decode cL_law 1194 = .ok (.iload 6, 2) := by decide +kernel
theorem dL_law_1196 : decode cL_law 1196 = .ok (.i2l, 1) := by decide +kernel
theorem dL_law_1197 : decode cL_law 1197 = .ok (.lcmp, 1) := by decide +kernel
theorem dL_law_1198 : decode cL_law 1198 = .ok (.ifCond .eq 5, 3) := by decide +kernel
theorem dL_law_1201 : decode cL_law 1201 = .ok (.iconst 0, 1) := by decide +kernel
theorem dL_law_1202 : decode cL_law 1202 = .ok (.ireturn, 1) := by decide +kernel
theorem dL_law_1203 : decode cL_law 1203 = .ok (.goto 243, 3) := by decide +kernel
theorem dL_law_1206 : decode cL_law 1206 = .ok (.aload_n 1, 1) := by decide +kernel
theorem dL_law_1207 : decode cL_law 1207 = .ok (.aload_n 0, 1) := by decide +kernel
theorem dL_law_1208 : decode cL_law 1208 = .ok (.iload 4, 2) := by decide +kernel
theorem dL_law_1210 : decode cL_law 1210 = .ok (.iconst 1, 1) := by decide +kernel
theorem dL_law_1211 : decode cL_law 1211 = .ok (.iadd, 1) := by decide +kernel
theorem dL_law_1212 : decode cL_law 1212 = .ok (.iaload, 1) := by decide +kernel
theorem dL_law_1213 : decode cL_law 1213 = .ok (.aload_n 0, 1) := by decide +kernel
theorem dL_law_1214 : decode cL_law 1214 = .ok (.iload 4, 2) := by decide +kernel
theorem dL_law_1216 : decode cL_law 1216 = .ok (.iconst 2, 1) := by decide +kernel
theorem dL_law_1217 : decode cL_law 1217 = .ok (.iadd, 1) := by decide +kernel
theorem dL_law_1218 : decode cL_law 1218 = .ok (.iaload, 1) := by decide +kernel
theorem dL_law_1219 : decode cL_law 1219 = .ok (.aload_n 0, 1) := by decide +kernel
theorem dL_law_1220 : decode cL_law 1220 = .ok (.iload 4, 2) := by decide +kernel
theorem dL_law_1222 : decode cL_law 1222 = .ok (.iconst 3, 1) := by decide +kernel
theorem dL_law_1223 : decode cL_law 1223 = .ok (.iadd, 1) := by decide +kernel
theorem dL_law_1224 : decode cL_law 1224 = .ok (.iaload, 1) := by decide +kernel
theorem dL_law_1225 : decode cL_law 1225 = .ok (.aload_n 0, 1) := by decide +kernel
theorem dL_law_1226 : decode cL_law 1226 = .ok (.iload 4, 2) := by decide +kernel
end
section
theorem dL_law_1228 : decode cL_law 1228 = .ok (.iconst 4, 1) := by decide +kernel
theorem dL_law_1229 : decode cL_law 1229 = .ok (.iadd, 1) := by decide +kernel
theorem dL_law_1230 : decode cL_law 1230 = .ok (.iaload, 1) := by decide +kernel
theorem dL_law_1231 : decode cL_law 1231 = .ok (.aload_n 3, 1) := by decide +kernel
theorem dL_law_1232 : decode cL_law 1232 = .ok (.invokestatic 146, 3) := by decide +kernel
theorem dL_law_1235 : decode cL_law 1235 = .ok (.istore 5, 2) := by decide +kernel
theorem dL_law_1237 : decode cL_law 1237 = .ok (.aload_n 2, 1) := by decide +kernel
theorem dL_law_1238 : decode cL_law 1238 = .ok (.aload_n 0, 1) := by decide +kernel
theorem dL_law_1239 : decode cL_law 1239 = .ok (.iload 4, 2) := by decide +kernel
theorem dL_law_1241 : decode cL_law 1241 = .ok (.iconst 1, 1) := by decide +kernel
theorem dL_law_1242 : decode cL_law 1242 = .ok (.iadd, 1) := by decide +kernel
theorem dL_law_1243 : decode cL_law 1243 = .ok (.iaload, 1) := by decide +kernel
theorem dL_law_1244 : decode cL_law 1244 = .ok (.aload_n 0, 1) := by decide +kernel
theorem dL_law_1245 : decode cL_law 1245 = .ok (.iload 4, 2) := by decide +kernel
theorem dL_law_1247 : decode cL_law 1247 = .ok (.iconst 2, 1) := by decide +kernel
theorem dL_law_1248 : decode cL_law 1248 = .ok (.iadd, 1) := by decide +kernel
theorem dL_law_1249 : decode cL_law 1249 = .ok (.iaload, 1) := by decide +kernel
theorem dL_law_1250 : decode cL_law 1250 = .ok (.aload_n 0, 1) := by decide +kernel
theorem dL_law_1251 : decode cL_law 1251 = .ok (.iload 4, 2) := by decide +kernel
theorem dL_law_1253 : decode cL_law 1253 = .ok (.iconst 3, 1) := by decide +kernel
theorem dL_law_1254 : decode cL_law 1254 = .ok (.iadd, 1) := by decide +kernel
theorem dL_law_1255 : decode cL_law 1255 = .ok (.iaload, 1) := by decide +kernel
theorem dL_law_1256 : decode cL_law 1256 = .ok (.aload_n 0, 1) := by decide +kernel
theorem dL_law_1257 : decode cL_law 1257 = .ok (.iload 4, 2) := by decide +kernel
theorem dL_law_1259 : decode cL_law 1259 = .ok (.iconst 4, 1) := by decide +kernel
theorem dL_law_1260 : decode cL_law 1260 = .ok (.iadd, 1) := by decide +kernel
theorem dL_law_1261 : decode cL_law 1261 = .ok (.iaload, 1) := by decide +kernel
theorem dL_law_1262 : decode cL_law 1262 = .ok (.invokevirtual 148, 3) := by decide +kernel
theorem dL_law_1265 : decode cL_law 1265 = .ok (.istore 6, 2) := by decide +kernel
theorem dL_law_1267 : decode cL_law 1267 = .ok (.aload_n 2, 1) := by decide +kernel
theorem dL_law_1268 : decode cL_law 1268 = .ok (.invokevirtual 88, 3) := by decide +kernel
theorem dL_law_1271 : decode cL_law 1271 = .ok (.iload 5, 2) := by decide +kernel
theorem dL_law_1273 : decode cL_law 1273 = .ok (.if_icmp .eq 5, 3) := by decide +kernel
theorem dL_law_1276 : decode cL_law 1276 = .ok (.iconst 0, 1) := by decide +kernel
theorem dL_law_1277 : decode cL_law 1277 = .ok (.ireturn, 1) := by decide +kernel
theorem dL_law_1278 : decode cL_law 1278 = .ok (.iload 5, 2) := by decide +kernel
theorem dL_law_1280 : decode cL_law 1280 = .ok (.ifCond .ne 15, 3) := by decide +kernel
theorem dL_law_1283 : decode cL_law 1283 = .ok (.aload_n 3, 1) := by decide +kernel
theorem dL_law_1284 : decode cL_law 1284 = .ok (.iconst 0, 1) := by decide +kernel
theorem dL_law_1285 : decode cL_law 1285 = .ok (.laload, 1) := by decide +kernel
theorem dL_law_1286 : decode cL_law 1286 = .ok (.iload 6, 2) := by decide +kernel
theorem dL_law_1288 : decode cL_law 1288 = .ok (.i2l, 1) := by decide +kernel
theorem dL_law_1289 : decode cL_law 1289 = .ok (.lcmp, 1) := by decide +kernel
theorem dL_law_1290 : decode cL_law 1290 = .ok (.ifCond .eq 5, 3) := by decide +kernel
theorem dL_law_1293 : decode cL_law 1293 = .ok (.iconst 0, 1) := by decide +kernel
theorem dL_law_1294 : decode cL_law 1294 = .ok (.ireturn, 1) := by decide +kernel
theorem dL_law_1295 : decode cL_law 1295 = .ok (.goto 151, 3) := by decide +kernel
theorem dL_law_1298 : decode cL_law 1298 = .ok (.aload_n 1, 1) := by decide +kernel
theorem dL_law_1299 : decode cL_law 1299 = .ok (.aload_n 0, 1) := by decide +kernel
theorem dL_law_1300 : decode cL_law 1300 = .ok (.iload 4, 2) := by decide +kernel
theorem dL_law_1302 : decode cL_law 1302 = .ok (.iconst 1, 1) := by decide +kernel
theorem dL_law_1303 : decode cL_law 1303 = .ok (.iadd, 1) := by decide +kernel
theorem dL_law_1304 : decode cL_law 1304 = .ok (.iaload, 1) := by decide +kernel
theorem dL_law_1305 : decode cL_law 1305 = .ok (.aload_n 0, 1) := by decide +kernel
theorem dL_law_1306 : decode cL_law 1306 = .ok (.iload 4, 2) := by decide +kernel
theorem dL_law_1308 : decode cL_law 1308 = .ok (.iconst 2, 1) := by decide +kernel
theorem dL_law_1309 : decode cL_law 1309 = .ok (.iadd, 1) := by decide +kernel
theorem dL_law_1310 : decode cL_law 1310 = .ok (.iaload, 1) := by decide +kernel
theorem dL_law_1311 : decode cL_law 1311 = .ok (.aload_n 0, 1) := by decide +kernel
theorem dL_law_1312 : decode cL_law 1312 = .ok (.iload 4, 2) := by decide +kernel
theorem dL_law_1314 : decode cL_law 1314 = .ok (.iconst 3, 1) := by decide +kernel
theorem dL_law_1315 : decode cL_law 1315 = .ok (.iadd, 1) := by decide +kernel
theorem dL_law_1316 : decode cL_law 1316 = .ok (.iaload, 1) := by decide +kernel
theorem dL_law_1317 : decode cL_law 1317 = .ok (.aload_n 3, 1) := by decide +kernel
theorem dL_law_1318 : decode cL_law 1318 = .ok (.invokestatic 149, 3) := by decide +kernel
theorem dL_law_1321 : decode cL_law 1321 = .ok (.istore 5, 2) := by decide +kernel
theorem dL_law_1323 : decode cL_law 1323 = .ok (.aload_n 2, 1) := by decide +kernel
theorem dL_law_1324 : decode cL_law 1324 = .ok (.aload_n 0, 1) := by decide +kernel
theorem dL_law_1325 : decode cL_law 1325 = .ok (.iload 4, 2) := by decide +kernel
theorem dL_law_1327 : decode cL_law 1327 = .ok (.iconst 1, 1) := by decide +kernel
theorem dL_law_1328 : decode cL_law 1328 = .ok (.iadd, 1) := by decide +kernel
theorem dL_law_1329 : decode cL_law 1329 = .ok (.iaload, 1) := by decide +kernel
theorem dL_law_1330 : decode cL_law 1330 = .ok (.aload_n 0, 1) := by decide +kernel
theorem dL_law_1331 : decode cL_law 1331 = .ok (.iload 4, 2) := by decide +kernel
theorem dL_law_1333 : decode cL_law 1333 = .ok (.iconst 2, 1) := by decide +kernel
theorem dL_law_1334 : decode cL_law 1334 = .ok (.iadd, 1) := by decide +kernel
theorem dL_law_1335 : decode cL_law 1335 = .ok (.iaload, 1) := by decide +kernel
theorem dL_law_1336 : decode cL_law 1336 = .ok (.aload_n 0, 1) := by decide +kernel
theorem dL_law_1337 : decode cL_law 1337 = .ok (.iload 4, 2) := by decide +kernel
theorem dL_law_1339 : decode cL_law 1339 = .ok (.iconst 3, 1) := by decide +kernel
theorem dL_law_1340 : decode cL_law 1340 = .ok (.iadd, 1) := by decide +kernel
theorem dL_law_1341 : decode cL_law 1341 = .ok (.iaload, 1) := by decide +kernel
theorem dL_law_1342 : decode cL_law 1342 = .ok (.invokevirtual 151, 3) := by decide +kernel
theorem dL_law_1345 : decode cL_law 1345 = .ok (.istore 6, 2) := by decide +kernel
theorem dL_law_1347 : decode cL_law 1347 = .ok (.aload_n 2, 1) := by decide +kernel
theorem dL_law_1348 : decode cL_law 1348 = .ok (.invokevirtual 88, 3) := by decide +kernel
theorem dL_law_1351 : decode cL_law 1351 = .ok (.iload 5, 2) := by decide +kernel
theorem dL_law_1353 : decode cL_law 1353 = .ok (.if_icmp .eq 5, 3) := by decide +kernel
theorem dL_law_1356 : decode cL_law 1356 = .ok (.iconst 0, 1) := by decide +kernel
theorem dL_law_1357 : decode cL_law 1357 = .ok (.ireturn, 1) := by decide +kernel
theorem dL_law_1358 : decode cL_law 1358 = .ok (.iload 5, 2) := by decide +kernel
theorem dL_law_1360 : decode cL_law 1360 = .ok (.ifCond .ne 15, 3) := by decide +kernel
theorem dL_law_1363 : decode cL_law 1363 = .ok (.aload_n 3, 1) := by decide +kernel
theorem dL_law_1364 : decode cL_law 1364 = .ok (.iconst 0, 1) := by decide +kernel
theorem dL_law_1365 : decode cL_law 1365 = .ok (.laload, 1) := by decide +kernel
theorem dL_law_1366 : decode cL_law 1366 = .ok (.iload 6, 2) := by decide +kernel
theorem dL_law_1368 : decode cL_law 1368 = .ok (.i2l, 1) := by decide +kernel
theorem dL_law_1369 : decode cL_law 1369 = .ok (.lcmp, 1) := by decide +kernel
theorem dL_law_1370 : decode cL_law 1370 = .ok (.ifCond .eq 5, 3) := by decide +kernel
theorem dL_law_1373 : decode cL_law 1373 = .ok (.iconst 0, 1) := by decide +kernel
theorem dL_law_1374 : decode cL_law 1374 = .ok (.ireturn, 1) := by decide +kernel
theorem dL_law_1375 : decode cL_law 1375 = .ok (.goto 71, 3) := by decide +kernel
theorem dL_law_1378 : decode cL_law 1378 = .ok (.aload_n 1, 1) := by decide +kernel
theorem dL_law_1379 : decode cL_law 1379 = .ok (.aload_n 0, 1) := by decide +kernel
theorem dL_law_1380 : decode cL_law 1380 = .ok (.iload 4, 2) := by decide +kernel
theorem dL_law_1382 : decode cL_law 1382 = .ok (.iconst 1, 1) := by decide +kernel
theorem dL_law_1383 : decode cL_law 1383 = .ok (.iadd, 1) := by decide +kernel
theorem dL_law_1384 : decode cL_law 1384 = .ok (.iaload, 1) := by decide +kernel
theorem dL_law_1385 : decode cL_law 1385 = .ok (.aload_n 0, 1) := by decide +kernel
theorem dL_law_1386 : decode cL_law 1386 = .ok (.iload 4, 2) := by decide +kernel
theorem dL_law_1388 : decode cL_law 1388 = .ok (.iconst 2, 1) := by decide +kernel
theorem dL_law_1389 : decode cL_law 1389 = .ok (.iadd, 1) := by decide +kernel
theorem dL_law_1390 : decode cL_law 1390 = .ok (.iaload, 1) := by decide +kernel
theorem dL_law_1391 : decode cL_law 1391 = .ok (.aload_n 3, 1) := by decide +kernel
theorem dL_law_1392 : decode cL_law 1392 = .ok (.invokestatic 152, 3) := by decide +kernel
theorem dL_law_1395 : decode cL_law 1395 = .ok (.istore 5, 2) := by decide +kernel
theorem dL_law_1397 : decode cL_law 1397 = .ok (.aload_n 2, 1) := by decide +kernel
theorem dL_law_1398 : decode cL_law 1398 = .ok (.aload_n 0, 1) := by decide +kernel
theorem dL_law_1399 : decode cL_law 1399 = .ok (.iload 4, 2) := by decide +kernel
theorem dL_law_1401 : decode cL_law 1401 = .ok (.iconst 1, 1) := by decide +kernel
theorem dL_law_1402 : decode cL_law 1402 = .ok (.iadd, 1) := by decide +kernel
theorem dL_law_1403 : decode cL_law 1403 = .ok (.iaload, 1) := by decide +kernel
theorem dL_law_1404 : decode cL_law 1404 = .ok (.aload_n 0, 1) := by decide +kernel
theorem dL_law_1405 : decode cL_law 1405 = .ok (.iload 4, 2) := by decide +kernel
theorem dL_law_1407 : decode cL_law 1407 = .ok (.iconst 2, 1) := by decide +kernel
theorem dL_law_1408 : decode cL_law 1408 = .ok (.iadd, 1) := by decide +kernel
theorem dL_law_1409 : decode cL_law 1409 = .ok (.iaload, 1) := by decide +kernel
theorem dL_law_1410 : decode cL_law 1410 = .ok (.invokevirtual 154, 3) := by decide +kernel
theorem dL_law_1413 : decode cL_law 1413 = .ok (.istore 6, 2) := by decide +kernel
theorem dL_law_1415 : decode cL_law 1415 = .ok (.aload_n 2, 1) := by decide +kernel
theorem dL_law_1416 : decode cL_law 1416 = .ok (.invokevirtual 88, 3) := by decide +kernel
theorem dL_law_1419 : decode cL_law 1419 = .ok (.iload 5, 2) := by decide +kernel
theorem dL_law_1421 : decode cL_law 1421 = .ok (.if_icmp .eq 5, 3) := by decide +kernel
theorem dL_law_1424 : decode cL_law 1424 = .ok (.iconst 0, 1) := by decide +kernel
theorem dL_law_1425 : decode cL_law 1425 = .ok (.ireturn, 1) := by decide +kernel
theorem dL_law_1426 : decode cL_law 1426 = .ok (.iload 5, 2) := by decide +kernel
theorem dL_law_1428 : decode cL_law 1428 = .ok (.ifCond .ne 15, 3) := by decide +kernel
theorem dL_law_1431 : decode cL_law 1431 = .ok (.aload_n 3, 1) := by decide +kernel
theorem dL_law_1432 : decode cL_law 1432 = .ok (.iconst 0, 1) := by decide +kernel
theorem dL_law_1433 : decode cL_law 1433 = .ok (.laload, 1) := by decide +kernel
theorem dL_law_1434 : decode cL_law 1434 = .ok (.iload 6, 2) := by decide +kernel
theorem dL_law_1436 : decode cL_law 1436 = .ok (.i2l, 1) := by decide +kernel
theorem dL_law_1437 : decode cL_law 1437 = .ok (.lcmp, 1) := by decide +kernel
theorem dL_law_1438 : decode cL_law 1438 = .ok (.ifCond .eq 5, 3) := by decide +kernel
theorem dL_law_1441 : decode cL_law 1441 = .ok (.iconst 0, 1) := by decide +kernel
theorem dL_law_1442 : decode cL_law 1442 = .ok (.ireturn, 1) := by decide +kernel
theorem dL_law_1443 : decode cL_law 1443 = .ok (.goto 3, 3) := by decide +kernel
theorem dL_law_1446 : decode cL_law 1446 = .ok (.iinc 4 5, 3) := by decide +kernel
theorem dL_law_1449 : decode cL_law 1449 = .ok (.goto (-1426), 3) := by decide +kernel
theorem dL_law_1452 : decode cL_law 1452 = .ok (.iconst 1, 1) := by decide +kernel
end
section
theorem dL_law_1453 : decode cL_law 1453 = .ok (.ireturn, 1) := by decide +kernel
end
section
/-! ===== BEGIN a constructor that throws (launches without stack traces) ===== -/
section VXIA
variable {p : Program} {l : Launch} {e : Env} {R : Room} {s : State} {m : MethodId} {args : Array Value} {below : List Frame} {meth : Method} {c : Code} {T : State} {locs : List Loc} {cells slots : Nat}
theorem vx_callI (X : Stand p l e R s m args below meth c T locs cells slots) (hexec : p.tables.exec = Jvm.exec) {own : String} {index : Nat} {y : MethodName} {bytes : ByteArray} {maxL : Nat}
    (hown : s.vm.findClass own = some m.cls) (hy1 : y.name = "<init>") (hlink : (Cond.methodLink own index y).before args s = true) (hinst : (Cond.instanceMethod y).before args s = true)
    (hcode : (Cond.code y bytes maxL none).before args s = true) (hy : y.cls ≠ "java/lang/invoke/MethodHandle" ∧ y.cls ≠ "java/lang/invoke/VarHandle")
    {W9 : Nat} {Pre : Pt → Array Value → Prop} {Post : Pt → Array Value → Option Value → Pt → Prop} {PostX : Pt → Array Value → Addr → Pt → Prop} (hK : vx_Back l R p e below s args y 3 W9 Pre Post PostX)
    {g : JFrame} (hg : g.method = m) (hsize : g.locals.size = c.maxLocals) {a : Addr} {argsL rest : List Value} (hlen : ∀ sig, parseMethodDescriptor y.desc = some sig → argsL.length = sig.parameters.length)
    (hstack : g.stack = argsL.reverse ++ .ref a :: rest) (hW : 2 * g.monitorRoom + (rest.map fun v => v.category).sum ≤ W9) (hdg : decode c.code g.pc = .ok (.invokespecial index, 3))
    (hpre : ∀ vm₁, s.WarmedH vm₁ → Pre ⟨T.setVm vm₁, locs, cells, slots⟩ (Value.ref a :: argsL).toArray) :
    (∃ (v : Option Value) (vm₁ : Vm) (B : Pt), s.WarmedH vm₁ ∧ Stand p l e R s m args below meth c B.U B.locs B.cells B.slots ∧ Post ⟨T.setVm vm₁, locs, cells, slots⟩ (Value.ref a :: argsL).toArray v B ∧
      ∀ target, Steps p.tables e below (B.U.setTop { g with pc := g.pc + 3, stack := v.toList ++ rest }) target → Steps p.tables e below (T.setTop g) target) ∨
    (∃ (q : Addr) (vm₁ : Vm) (B : Pt), s.WarmedH vm₁ ∧ Stand p l e R s m args below meth c B.U B.locs B.cells B.slots ∧ PostX ⟨T.setVm vm₁, locs, cells, slots⟩ (Value.ref a :: argsL).toArray q B ∧
      Steps p.tables e below (T.setTop g) ((B.U.setTop { g with stack := rest }).pushFrame (.throwing q))) := by
  subst hg
  have hpl : e.platform.magicAccessors = ({} : Platform).magicAccessors := by rw [X.admits.platform]
  obtain ⟨mk, methM, cM, kP, vm₁, hnamed, hmethM, hcodeM, -, hlocalsM, -, hkP, -, hW₁, hstep₁⟩ := Steps.initColdArgs (e := e) X.here hexec X.warmed hpl hown hy1 hy hlink hinst hcode (f := g) rfl hlen hstack hdg
  have X₁ := X.noted hW₁
  rcases hK g.method meth c ⟨T.setVm vm₁, locs, cells, slots⟩ { g with stack := rest } (.invokespecial index) mk (Value.ref a :: argsL).toArray X₁ rfl hsize hdg hW (X₁.named hnamed) (hpre vm₁ X₁.warmed) with ⟨v, B, X', hpost, hsteps⟩ | ⟨q, B, X', hpost, hsteps⟩
  · exact Or.inl ⟨v, vm₁, B, X₁.warmed, X', hpost, fun target h => hstep₁ _ fun acts => by rw [doInvoke_state]; exact hsteps.trans h⟩
  · exact Or.inr ⟨q, vm₁, B, X₁.warmed, X', hpost, hstep₁ _ fun acts => by rw [doInvoke_state]; exact hsteps⟩
end VXIA
section VXIB
variable {p : Program} {l : Launch} {e : Env} {R : Room} {s : State} {m : MethodId} {args : Array Value} {below : List Frame} {meth : Method} {c : Code} {H : Heap} {locs : List Loc} {cells slots : Nat}
variable {y : MethodName} {bytes cc : ByteArray} {maxL nL mc ms n index : Nat} {ret : Option FieldType} {ws : List Cond} {rm : Room} {Pc : Array Value → State → Prop} {Qc : Array Value → State → Outcome → State → Prop} {XC : String → State → State → Prop} {free : Addr → Prop} {Ts : List Cond} {own C : String} {b : Addr} {As rest : List Value} {g : JFrame}
theorem vx_runI (S : CallFix p m c cc nL s args Ts own) (hM : vx_Met l y ws rm Pc Qc XC mc ms free) (cw : CallB R s args own index y bytes maxL none ws rm mc ms n ∧ y.name = "<init>" ∧ (Cond.instanceMethod y).before args s = true) (hp : PreS s H Pc (.ref b :: As))
    (hg : g.method = m) (hn : As.length = n) (hsize : g.locals.size = nL) (hstack : g.stack = As.reverse ++ .ref b :: rest) (hW : 2 * g.monitorRoom + (rest.map fun v => v.category).sum ≤ 8) (hdg : decode cc g.pc = .ok (.invokespecial index, 3)) (hf : cells + mc ≤ R.cells ∧ slots + ms ≤ R.slots) :
    vx_Run p l e R s m args below meth c H locs cells slots mc ms g rest (Qc (Value.ref b :: As).toArray) XC free := by
  have hK : vx_Back l R p e below s args y 3 8 (PreOf R mc ms Pc) (PostOf Qc mc ms free) (vx_Post XC mc ms free) := vx_callBack cw.1 hM hp.1
  obtain ⟨⟨-, -, -, -, -, -, hcode, -, hy, hlen, hl⟩, hy1, hin⟩ := cw
  obtain ⟨hx, hb, hml, ho, -⟩ := S
  have hPc := hp.2
  intro T hT X
  rcases vx_callI X hx (bytes := bytes) (maxL := maxL) ho hy1 hl hin hcode hy hK hg (hsize.trans hml.symm) (a := b) (argsL := As) (rest := rest) (fun sig h => hn.trans (hlen sig h)) hstack hW (by rw [hb]; exact hdg)
    (fun vm₁ hW₁ => ⟨hf.1, hf.2, hPc (T.setVm vm₁) hT hW₁⟩) with ⟨v, vm₁, ⟨U', l2, c2, s2⟩, hW₁, X', ⟨g', mk, t, L, e1, e2, hq, h1, hL, h2, h3⟩, st⟩ | ⟨q, vm₁, ⟨U', l2, c2, s2⟩, hW₁, X', ⟨g', mk, t, L, E, ce, e1, e2, hq, hce, hcv, hcl, h1, hL, h2, h3⟩, st⟩
  · dsimp only [Pt.U, Pt.locs, Pt.cells, Pt.slots] at X' e1 e2 h1 h2 h3 st
    subst h1; subst h2; subst h3
    exact Or.inl ⟨v, (T.setVm vm₁).calling g' mk (Value.ref b :: As).toArray, t, U', L, hT, X', hL, e1, e2, hq, st⟩
  · dsimp only [Pt.U, Pt.locs, Pt.cells, Pt.slots] at X' e1 e2 h1 h2 h3 st hcl
    subst h1; subst h2; subst h3
    exact Or.inr ⟨q, (T.setVm vm₁).calling g' mk (Value.ref b :: As).toArray, t, U', L, E, ce, hT, X', hL, e1, e2, hq, hce, hcv, vx_cls hW₁ hcl, st⟩
end VXIB
/-! ===== END ===== -/
/-! ===== BEGIN a private constructor of a nest mate that throws ===== -/
section VXIC
variable {p : Program} {l : Launch} {e : Env} {R : Room} {s : State} {m : MethodId} {args : Array Value} {below : List Frame} {meth : Method} {c : Code} {T : State} {locs : List Loc} {cells slots : Nat}
theorem vx_callIN (X : Stand p l e R s m args below meth c T locs cells slots) (hexec : p.tables.exec = Jvm.exec) {own : String} {index : Nat} {host : String} {y : MethodName} {bytes : ByteArray} {maxL : Nat}
    (hown : s.vm.findClass own = some m.cls) (hy1 : y.name = "<init>") (hlink : (Cond.methodLinkNest own index y host).before args s = true) (hinst : (Cond.instanceMethod y).before args s = true)
    (hcode : (Cond.code y bytes maxL none).before args s = true) (hy : y.cls ≠ "java/lang/invoke/MethodHandle" ∧ y.cls ≠ "java/lang/invoke/VarHandle")
    {W9 : Nat} {Pre : Pt → Array Value → Prop} {Post : Pt → Array Value → Option Value → Pt → Prop} {PostX : Pt → Array Value → Addr → Pt → Prop} (hK : vx_Back l R p e below s args y 3 W9 Pre Post PostX)
    {g : JFrame} (hg : g.method = m) (hsize : g.locals.size = c.maxLocals) {a : Addr} {argsL rest : List Value} (hlen : ∀ sig, parseMethodDescriptor y.desc = some sig → argsL.length = sig.parameters.length)
    (hstack : g.stack = argsL.reverse ++ .ref a :: rest) (hW : 2 * g.monitorRoom + (rest.map fun v => v.category).sum ≤ W9) (hdg : decode c.code g.pc = .ok (.invokespecial index, 3))
    (hpre : ∀ vm₁, s.WarmedH vm₁ → Pre ⟨T.setVm vm₁, locs, cells, slots⟩ (Value.ref a :: argsL).toArray) :
    (∃ (v : Option Value) (vm₁ : Vm) (B : Pt), s.WarmedH vm₁ ∧ Stand p l e R s m args below meth c B.U B.locs B.cells B.slots ∧ Post ⟨T.setVm vm₁, locs, cells, slots⟩ (Value.ref a :: argsL).toArray v B ∧
      ∀ target, Steps p.tables e below (B.U.setTop { g with pc := g.pc + 3, stack := v.toList ++ rest }) target → Steps p.tables e below (T.setTop g) target) ∨
    (∃ (q : Addr) (vm₁ : Vm) (B : Pt), s.WarmedH vm₁ ∧ Stand p l e R s m args below meth c B.U B.locs B.cells B.slots ∧ PostX ⟨T.setVm vm₁, locs, cells, slots⟩ (Value.ref a :: argsL).toArray q B ∧
      Steps p.tables e below (T.setTop g) ((B.U.setTop { g with stack := rest }).pushFrame (.throwing q))) := by
  subst hg
  have hpl : e.platform.magicAccessors = ({} : Platform).magicAccessors := by rw [X.admits.platform]
  obtain ⟨mk, methM, cM, kP, vm₁, hnamed, hmethM, hcodeM, -, hlocalsM, -, hkP, -, hW₁, hstep₁⟩ := Steps.initColdArgsNest (e := e) X.here hexec X.warmed hpl hown hy1 hy hlink hinst hcode (f := g) rfl hlen hstack hdg
  have X₁ := X.noted hW₁
  rcases hK g.method meth c ⟨T.setVm vm₁, locs, cells, slots⟩ { g with stack := rest } (.invokespecial index) mk (Value.ref a :: argsL).toArray X₁ rfl hsize hdg hW (X₁.named hnamed) (hpre vm₁ X₁.warmed) with ⟨v, B, X', hpost, hsteps⟩ | ⟨q, B, X', hpost, hsteps⟩
  · exact Or.inl ⟨v, vm₁, B, X₁.warmed, X', hpost, fun target h => hstep₁ _ fun acts => by rw [doInvoke_state]; exact hsteps.trans h⟩
  · exact Or.inr ⟨q, vm₁, B, X₁.warmed, X', hpost, hstep₁ _ fun acts => by rw [doInvoke_state]; exact hsteps⟩
end VXIC
section VXID
variable {p : Program} {l : Launch} {e : Env} {R : Room} {s : State} {m : MethodId} {args : Array Value} {below : List Frame} {meth : Method} {c : Code} {H : Heap} {locs : List Loc} {cells slots : Nat}
theorem vx_runIN {y : MethodName} {bytes cc : ByteArray} {maxL nL mc ms n index : Nat} {ws : List Cond} {rm : Room} {Pc : Array Value → State → Prop} {Qc : Array Value → State → Outcome → State → Prop} {XC : String → State → State → Prop} {free : Addr → Prop} {Ts : List Cond} {own host : String} {b : Addr} {As rest : List Value} {g : JFrame}
    (S : CallFix p m c cc nL s args Ts own) (hM : vx_Met l y ws rm Pc Qc XC mc ms free) (cw : va_CN R s args own index y host bytes maxL none ws rm mc ms n ∧ y.name = "<init>" ∧ (Cond.instanceMethod y).before args s = true) (hp : PreS s H Pc (.ref b :: As))
    (hg : g.method = m) (hn : As.length = n) (hsize : g.locals.size = nL) (hstack : g.stack = As.reverse ++ .ref b :: rest) (hW : 2 * g.monitorRoom + (rest.map fun v => v.category).sum ≤ 8) (hdg : decode cc g.pc = .ok (.invokespecial index, 3)) (hf : cells + mc ≤ R.cells ∧ slots + ms ≤ R.slots) :
    vx_Run p l e R s m args below meth c H locs cells slots mc ms g rest (Qc (Value.ref b :: As).toArray) XC free := by
  obtain ⟨⟨⟨hrc, hrs, hfr, hlo, hws, hcw⟩, hcode, hini, hy, hlen, hl⟩, hx1, hx2⟩ := cw
  have hK : vx_Back l R p e below s args y 3 8 (PreOf R mc ms Pc) (PostOf Qc mc ms free) (vx_Post XC mc ms free) := vx_back (bytes := bytes) (maxL := maxL) (ret := none) hM hp.1 hrc hrs hfr hlo hws hcw (fun a' U hW => word_at hW (Or.inl (by first | rfl | simp [Cond.onTables, Cond.keeps, Cond.steady])) hini)
  obtain ⟨hx, hb, hml, ho, -⟩ := S
  have hPc := hp.2
  intro T hT X
  rcases vx_callIN X hx (bytes := bytes) (maxL := maxL) ho hx1 hl hx2 hcode hy hK hg (hsize.trans hml.symm) (a := b) (argsL := As) (rest := rest) (fun sig h => hn.trans (hlen sig h)) hstack hW (by rw [hb]; exact hdg)
    (fun vm₁ hW₁ => ⟨hf.1, hf.2, hPc (T.setVm vm₁) hT hW₁⟩) with ⟨v, vm₁, ⟨U', l2, c2, s2⟩, hW₁, X', ⟨g', mk, t, L, e1, e2, hq, h1, hL, h2, h3⟩, st⟩ | ⟨q, vm₁, ⟨U', l2, c2, s2⟩, hW₁, X', ⟨g', mk, t, L, E, ce, e1, e2, hq, hce, hcv, hcl, h1, hL, h2, h3⟩, st⟩
  · dsimp only [Pt.U, Pt.locs, Pt.cells, Pt.slots] at X' e1 e2 h1 h2 h3 st
    subst h1; subst h2; subst h3
    exact Or.inl ⟨v, (T.setVm vm₁).calling g' mk (Value.ref b :: As).toArray, t, U', L, hT, X', hL, e1, e2, hq, st⟩
  · dsimp only [Pt.U, Pt.locs, Pt.cells, Pt.slots] at X' e1 e2 h1 h2 h3 st hcl
    subst h1; subst h2; subst h3
    exact Or.inr ⟨q, (T.setVm vm₁).calling g' mk (Value.ref b :: As).toArray, t, U', L, E, ce, hT, X', hL, e1, e2, hq, hce, hcv, vx_cls hW₁ hcl, st⟩
end VXID
/-! ===== END ===== -/
/-! ===== BEGIN a private method of a nest mate that may throw (follows va_callVN, va_callSN, va_runVN, va_runSN) ===== -/
section
variable {p : Program} {l : Launch} {e : Env} {R : Room} {s : State} {m : MethodId} {args : Array Value} {below : List Frame} {meth : Method} {c : Code} {H : Heap} {locs : List Loc} {cells slots : Nat}
variable {T : State}
theorem vx_callVN (X : Stand p l e R s m args below meth c T locs cells slots) (hexec : p.tables.exec = Jvm.exec) {own C : String} {index : Nat} {host : String} {y : MethodName} {bytes : ByteArray} {maxL : Nat} {ret : Option FieldType}
    (hown : s.vm.findClass own = some m.cls) (hlink : (Cond.methodLinkNest own index y host).before args s = true) (hinst : (Cond.instanceMethod y).before args s = true) (hsel : (Cond.selects C y y).before args s = true)
    (hcode : (Cond.code y bytes maxL ret).before args s = true) (hy : y.cls ≠ "java/lang/invoke/MethodHandle" ∧ y.cls ≠ "java/lang/invoke/VarHandle")
    {W : Nat} {Pre : Pt → Array Value → Prop} {Post : Pt → Array Value → Option Value → Pt → Prop} {PostX : Pt → Array Value → Addr → Pt → Prop} (hK : vx_Back l R p e below s args y 3 W Pre Post PostX)
    {b : Addr} {cellB : Cell} (hcell : T.heap[b]? = some cellB) (hobj : cellB.vm.isStatics = false) (hcls : s.vm.findClass C = some cellB.cls)
    {g : JFrame} (hg : g.method = m) (hsize : g.locals.size = c.maxLocals) {argsL rest : List Value} (hlen : ∀ sig, parseMethodDescriptor y.desc = some sig → argsL.length = sig.parameters.length)
    (hstack : g.stack = argsL.reverse ++ .ref b :: rest) (hW : 2 * g.monitorRoom + (rest.map fun v => v.category).sum ≤ W) (hdg : decode c.code g.pc = .ok (.invokevirtual index, 3))
    (hpre : ∀ vm₁, s.WarmedH vm₁ → Pre ⟨T.setVm vm₁, locs, cells, slots⟩ (Value.ref b :: argsL).toArray) :
    (∃ (v : Option Value) (vm₁ : Vm) (B : Pt), s.WarmedH vm₁ ∧ Stand p l e R s m args below meth c B.U B.locs B.cells B.slots ∧ Post ⟨T.setVm vm₁, locs, cells, slots⟩ (Value.ref b :: argsL).toArray v B ∧
      ∀ target, Steps p.tables e below (B.U.setTop { g with pc := g.pc + 3, stack := v.toList ++ rest }) target → Steps p.tables e below (T.setTop g) target) ∨
    (∃ (q : Addr) (vm₁ : Vm) (B : Pt), s.WarmedH vm₁ ∧ Stand p l e R s m args below meth c B.U B.locs B.cells B.slots ∧ PostX ⟨T.setVm vm₁, locs, cells, slots⟩ (Value.ref b :: argsL).toArray q B ∧
      Steps p.tables e below (T.setTop g) ((B.U.setTop { g with stack := rest }).pushFrame (.throwing q))) := by
  obtain ⟨mk, methM, hnamed, hmethM, hstM, habM⟩ := Cond.instanceMethod_spec hinst
  obtain ⟨methM', cM, hmethM', -, -, -, -, -, -, hsigM⟩ := Cond.code_spec hnamed hcode
  cases hmethM.symm.trans hmethM'
  obtain ⟨c2, r2, m2, q1, q2, q3, q4, kP, hkP, hkPi⟩ := Cond.selects_spec hsel
  cases hcls.symm.trans q1
  cases (State.methodFound?_of_named hnamed hy).symm.trans q2
  cases hnamed.symm.trans q3
  have hselP : selectMethod e.platform s.vm cellB.cls mk = .method mk := by rw [Launch.admits_selectMethod X.admits]; exact q4
  obtain ⟨vm₁, X₁, hstep₁⟩ := X.invokevirtualNest hexec hown hlink hnamed hmethM hstM hkP hkPi hy (a := b) (cell := cellB) hcell
    (fun z h => by rw [h] at hobj; cases hobj) hselP hmethM habM hkP hkPi (g := g) hg (argsL := argsL) (rest := rest) (hlen _ hsigM) hstack hdg
  rcases hK m meth c ⟨T.setVm vm₁, locs, cells, slots⟩ { g with stack := rest } (.invokevirtual index) mk (Value.ref b :: argsL).toArray X₁ hg hsize hdg hW (X₁.named hnamed) (hpre vm₁ X₁.warmed) with ⟨v, B, X', hpost, hsteps⟩ | ⟨q, B, X', hpost, hsteps⟩
  · exact Or.inl ⟨v, vm₁, B, X₁.warmed, X', hpost, fun target h => hstep₁ _ fun acts => by rw [doInvoke_state]; exact hsteps.trans h⟩
  · exact Or.inr ⟨q, vm₁, B, X₁.warmed, X', hpost, hstep₁ _ fun acts => by rw [doInvoke_state]; exact hsteps⟩
theorem vx_callSN (X : Stand p l e R s m args below meth c T locs cells slots) (hexec : p.tables.exec = Jvm.exec) {own : String} {index : Nat} {host : String} {y : MethodName} {bytes : ByteArray} {maxL : Nat} {ret : Option FieldType}
    (hown : s.vm.findClass own = some m.cls) (hlink : (Cond.methodLinkNest own index y host).before args s = true) (hstat : (Cond.static y).before args s = true) (hinit : (Cond.initialized y.cls).before args s = true)
    (hcode : (Cond.code y bytes maxL ret).before args s = true) (hy : y.cls ≠ "java/lang/invoke/MethodHandle" ∧ y.cls ≠ "java/lang/invoke/VarHandle")
    {W : Nat} {Pre : Pt → Array Value → Prop} {Post : Pt → Array Value → Option Value → Pt → Prop} {PostX : Pt → Array Value → Addr → Pt → Prop} (hK : vx_Back l R p e below s args y 3 W Pre Post PostX)
    {g : JFrame} (hg : g.method = m) (hsize : g.locals.size = c.maxLocals) {argsL rest : List Value} (hlen : ∀ sig, parseMethodDescriptor y.desc = some sig → argsL.length = sig.parameters.length)
    (hstack : g.stack = argsL.reverse ++ rest) (hW : 2 * g.monitorRoom + (rest.map fun v => v.category).sum ≤ W) (hdg : decode c.code g.pc = .ok (.invokestatic index, 3))
    (hpre : ∀ vm₁, s.WarmedH vm₁ → Pre ⟨T.setVm vm₁, locs, cells, slots⟩ argsL.toArray) :
    (∃ (v : Option Value) (vm₁ : Vm) (B : Pt), s.WarmedH vm₁ ∧ Stand p l e R s m args below meth c B.U B.locs B.cells B.slots ∧ Post ⟨T.setVm vm₁, locs, cells, slots⟩ argsL.toArray v B ∧
      ∀ target, Steps p.tables e below (B.U.setTop { g with pc := g.pc + 3, stack := v.toList ++ rest }) target → Steps p.tables e below (T.setTop g) target) ∨
    (∃ (q : Addr) (vm₁ : Vm) (B : Pt), s.WarmedH vm₁ ∧ Stand p l e R s m args below meth c B.U B.locs B.cells B.slots ∧ PostX ⟨T.setVm vm₁, locs, cells, slots⟩ argsL.toArray q B ∧
      Steps p.tables e below (T.setTop g) ((B.U.setTop { g with stack := rest }).pushFrame (.throwing q))) := by
  obtain ⟨mk, hnamed⟩ := Cond.code_named hcode
  obtain ⟨methM, cM, hmethM, -, -, -, -, -, -, hsigM⟩ := Cond.code_spec hnamed hcode
  have hstatic : methM.isStatic = true := Cond.static_spec hnamed hmethM hstat
  obtain ⟨kP, hkP, -⟩ := className_of_methodNamed hnamed
  have hinitP : kP.init = .initialized := Cond.initialized_spec (findClass_of_methodNamed hnamed) hkP hinit
  obtain ⟨vm₁, X₁, hstep₁⟩ := X.invokestaticNest hexec hown hlink hnamed hmethM hstatic hkP hinitP hy (g := g) hg (argsL := argsL) (rest := rest) (hlen _ hsigM) hstack hdg
  rcases hK m meth c ⟨T.setVm vm₁, locs, cells, slots⟩ { g with stack := rest } (.invokestatic index) mk argsL.toArray X₁ hg hsize hdg hW (X₁.named hnamed) (hpre vm₁ X₁.warmed) with ⟨v, B, X', hpost, hsteps⟩ | ⟨q, B, X', hpost, hsteps⟩
  · exact Or.inl ⟨v, vm₁, B, X₁.warmed, X', hpost, fun target h => hstep₁ _ fun acts => by rw [doInvoke_state]; exact hsteps.trans h⟩
  · exact Or.inr ⟨q, vm₁, B, X₁.warmed, X', hpost, hstep₁ _ fun acts => by rw [doInvoke_state]; exact hsteps⟩
theorem vx_runVN {y : MethodName} {bytes cc : ByteArray} {maxL nL mc ms n index : Nat} {ret : Option FieldType} {ws : List Cond} {rm : Room} {Pc : Array Value → State → Prop} {Qc : Array Value → State → Outcome → State → Prop} {XC : String → State → State → Prop} {free : Addr → Prop} {Ts : List Cond} {own C host : String} {b : Addr} {As rest : List Value} {g : JFrame}
    (S : CallFix p m c cc nL s args Ts own) (hM : vx_Met l y ws rm Pc Qc XC mc ms free) (cw : va_CN R s args own index y host bytes maxL ret ws rm mc ms n ∧ (Cond.instanceMethod y).before args s = true ∧ (Cond.selects C y y).before args s = true) (hp : PreV s H C b Pc As)
    (hg : g.method = m) (hn : As.length = n) (hsize : g.locals.size = nL) (hstack : g.stack = As.reverse ++ .ref b :: rest) (hW : 2 * g.monitorRoom + (rest.map fun v => v.category).sum ≤ 8) (hdg : decode cc g.pc = .ok (.invokevirtual index, 3)) (hf : cells + mc ≤ R.cells ∧ slots + ms ≤ R.slots) :
    vx_Run p l e R s m args below meth c H locs cells slots mc ms g rest (Qc (Value.ref b :: As).toArray) XC free := by
  obtain ⟨⟨⟨hrc, hrs, hfr, hlo, hws, hcw⟩, hcode, hini, hy, hlen, hl⟩, hx1, hx2⟩ := cw
  have hK : vx_Back l R p e below s args y 3 8 (PreOf R mc ms Pc) (PostOf Qc mc ms free) (vx_Post XC mc ms free) := vx_back (bytes := bytes) (maxL := maxL) (ret := ret) hM hp.1 hrc hrs hfr hlo hws hcw (fun a' U hW => word_at hW (Or.inl (by first | rfl | simp [Cond.onTables, Cond.keeps, Cond.steady])) hini)
  obtain ⟨hx, hb, hml, ho, -⟩ := S
  obtain ⟨-, ⟨cellB, hcB, hoB, hclB⟩, hPc⟩ := hp
  intro T hT X
  rcases vx_callVN X hx (C := C) (bytes := bytes) (maxL := maxL) (ret := ret) ho hl hx1 hx2 hcode hy hK (by rw [hT]; exact hcB) hoB hclB hg (hsize.trans hml.symm) (argsL := As) (rest := rest) (fun sig h => hn.trans (hlen sig h)) hstack hW (by rw [hb]; exact hdg)
    (fun vm₁ hW₁ => ⟨hf.1, hf.2, hPc (T.setVm vm₁) hT hW₁⟩) with ⟨v, vm₁, ⟨U', l2, c2, s2⟩, hW₁, X', ⟨g', mk, t, L, e1, e2, hq, h1, hL, h2, h3⟩, st⟩ | ⟨q, vm₁, ⟨U', l2, c2, s2⟩, hW₁, X', ⟨g', mk, t, L, E, ce, e1, e2, hq, hce, hcv, hcl, h1, hL, h2, h3⟩, st⟩
  · dsimp only [Pt.U, Pt.locs, Pt.cells, Pt.slots] at X' e1 e2 h1 h2 h3 st
    subst h1; subst h2; subst h3
    exact Or.inl ⟨v, (T.setVm vm₁).calling g' mk (Value.ref b :: As).toArray, t, U', L, hT, X', hL, e1, e2, hq, st⟩
  · dsimp only [Pt.U, Pt.locs, Pt.cells, Pt.slots] at X' e1 e2 h1 h2 h3 st hcl
    subst h1; subst h2; subst h3
    exact Or.inr ⟨q, (T.setVm vm₁).calling g' mk (Value.ref b :: As).toArray, t, U', L, E, ce, hT, X', hL, e1, e2, hq, hce, hcv, vx_cls hW₁ hcl, st⟩
theorem vx_runSN {y : MethodName} {bytes cc : ByteArray} {maxL nL mc ms n index : Nat} {ret : Option FieldType} {ws : List Cond} {rm : Room} {Pc : Array Value → State → Prop} {Qc : Array Value → State → Outcome → State → Prop} {XC : String → State → State → Prop} {free : Addr → Prop} {Ts : List Cond} {own host : String} {As rest : List Value} {g : JFrame}
    (S : CallFix p m c cc nL s args Ts own) (hM : vx_Met l y ws rm Pc Qc XC mc ms free) (cw : va_CN R s args own index y host bytes maxL ret ws rm mc ms n ∧ (Cond.static y).before args s = true ∧ True) (hp : PreS s H Pc As)
    (hg : g.method = m) (hn : As.length = n) (hsize : g.locals.size = nL) (hstack : g.stack = As.reverse ++ rest) (hW : 2 * g.monitorRoom + (rest.map fun v => v.category).sum ≤ 8) (hdg : decode cc g.pc = .ok (.invokestatic index, 3)) (hf : cells + mc ≤ R.cells ∧ slots + ms ≤ R.slots) :
    vx_Run p l e R s m args below meth c H locs cells slots mc ms g rest (Qc As.toArray) XC free := by
  obtain ⟨⟨⟨hrc, hrs, hfr, hlo, hws, hcw⟩, hcode, hini, hy, hlen, hl⟩, hx1, hx2⟩ := cw
  have hK : vx_Back l R p e below s args y 3 8 (PreOf R mc ms Pc) (PostOf Qc mc ms free) (vx_Post XC mc ms free) := vx_back (bytes := bytes) (maxL := maxL) (ret := ret) hM hp.1 hrc hrs hfr hlo hws hcw (fun a' U hW => word_at hW (Or.inl (by first | rfl | simp [Cond.onTables, Cond.keeps, Cond.steady])) hini)
  obtain ⟨hx, hb, hml, ho, -⟩ := S
  have hPc := hp.2
  intro T hT X
  rcases vx_callSN X hx (bytes := bytes) (maxL := maxL) (ret := ret) ho hl hx1 hini hcode hy hK hg (hsize.trans hml.symm) (argsL := As) (rest := rest) (fun sig h => hn.trans (hlen sig h)) hstack hW (by rw [hb]; exact hdg)
    (fun vm₁ hW₁ => ⟨hf.1, hf.2, hPc (T.setVm vm₁) hT hW₁⟩) with ⟨v, vm₁, ⟨U', l2, c2, s2⟩, hW₁, X', ⟨g', mk, t, L, e1, e2, hq, h1, hL, h2, h3⟩, st⟩ | ⟨q, vm₁, ⟨U', l2, c2, s2⟩, hW₁, X', ⟨g', mk, t, L, E, ce, e1, e2, hq, hce, hcv, hcl, h1, hL, h2, h3⟩, st⟩
  · dsimp only [Pt.U, Pt.locs, Pt.cells, Pt.slots] at X' e1 e2 h1 h2 h3 st
    subst h1; subst h2; subst h3
    exact Or.inl ⟨v, (T.setVm vm₁).calling g' mk As.toArray, t, U', L, hT, X', hL, e1, e2, hq, st⟩
  · dsimp only [Pt.U, Pt.locs, Pt.cells, Pt.slots] at X' e1 e2 h1 h2 h3 st hcl
    subst h1; subst h2; subst h3
    exact Or.inr ⟨q, (T.setVm vm₁).calling g' mk As.toArray, t, U', L, E, ce, hT, X', hL, e1, e2, hq, hce, hcv, vx_cls hW₁ hcl, st⟩
end
/-! ===== END ===== -/
end
section
/-! A FRAME OF MY OWN over the kit's rows: a heap as a function of addresses (cells that are known), one judgement WP for a method's body, one contract CT for a call; all methods live over one list of words. -/
abbrev LC : Type := (FieldType × vp_A) ⊕ (Nat × List Value)
abbrev GH : Type := Nat → Option LC
/-- a method: name, bytes, locals, what it returns, its table of handlers -/
abbrev MD : Type := MethodName × ByteArray × Nat × Option FieldType × List (Nat × Nat × Nat × Nat)
def cx_tb : List Cond := lw_tbl.filter goodWord
theorem cx_tb_in {w : Cond} (i : Nat) (h : lw_tbl[i]? = some w) (g : goodWord w = true) : w ∈ cx_tb := List.mem_filter.mpr ⟨List.mem_of_getElem? h, g⟩
def cx_ws (M : MD) : List Cond := (if M.2.2.2.2 = [] then .code M.1 M.2.1 M.2.2.1 M.2.2.2.1 else .codeWith M.1 M.2.1 M.2.2.1 M.2.2.2.1 M.2.2.2.2) :: cx_tb
def cx_at (D : va_G) (s : State) (q : Nat) (e : LC) (H : Heap) : Prop := match e with
  | .inl a => ∃ cA : ClassId, H[q]? = some (vp_cell cA a.2) ∧ ArrOfT s cA a.1 ∧ va_RA s cA a.1
  | .inr o => ∃ r : vw_C, vwCl[o.1]? = some r ∧ t_OB q (D.1 o.1) r.2.2 (D.2 o.1) H (vp_V o.2)
theorem cx_at.kept {D : va_G} {s : State} {q : Nat} {e : LC} {H H1 : Heap} (h : cx_at D s q e H) (hq : H1[q]? = H[q]?) : cx_at D s q e H1 := by
  cases e with
  | inl a => obtain ⟨cA, h1, h2⟩ := h; exact ⟨cA, hq.trans h1, h2⟩
  | inr o => obtain ⟨r, h1, h2⟩ := h; exact ⟨r, h1, h2.kept hq⟩
theorem cx_at.lt {D : va_G} {s : State} {q : Nat} {e : LC} {H : Heap} (h : cx_at D s q e H) : q < H.size := by
  cases e with
  | inl a => obtain ⟨cA, h1, h2⟩ := h; exact (Array.getElem?_eq_some_iff.mp h1).1
  | inr o => obtain ⟨r, h1, cell, h2, -⟩ := h; exact (Array.getElem?_eq_some_iff.mp h2).1
theorem cx_at.moved {D : va_G} {u U : State} {q : Nat} {e : LC} {H : Heap} (hvm : u.vm.Alike U.vm) (h : cx_at D u q e H) : cx_at D U q e H := by
  cases e with
  | inl a => obtain ⟨cA, h1, h2, h3⟩ := h; exact ⟨cA, h1, arrOfT_moved hvm h2, h3.moved hvm⟩
  | inr o => exact h
def cx_R (D : va_G) (b0 : Nat) (s : State) (G : GH) (H : Heap) : Prop := ∀ (q : Nat) (e : LC), G q = some e → b0 ≤ q ∧ cx_at D s q e H
theorem cx_R.moved {D : va_G} {b0 : Nat} {u U : State} {G : GH} {H : Heap} (hvm : u.vm.Alike U.vm) (h : cx_R D b0 u G H) : cx_R D b0 U G H := fun q e hq => ⟨(h q e hq).1, (h q e hq).2.moved hvm⟩
def cx_nest : List (String × Nat × MethodName × String) := [("Glosstemplate", 49, ⟨"Glosstemplate$Page", "<init>", "()V"⟩, "Glosstemplate"), ("Glosstemplate", 56, ⟨"Glosstemplate$Seeker", "<init>", "()V"⟩, "Glosstemplate"), ("Glosstemplate$Signs", 31, ⟨"Glosstemplate", "isSmall", "(C)Z"⟩, "Glosstemplate"), ("Glosstemplate$Words", 30, ⟨"Glosstemplate", "isBelow", "(II)Z"⟩, "Glosstemplate"), ("Glosstemplate$Clause", 25, ⟨"Glosstemplate$Template", "<init>", "()V"⟩, "Glosstemplate"), ("Glosstemplate$Clause", 26, ⟨"Glosstemplate", "isBelow", "(II)Z"⟩, "Glosstemplate"), ("Glosstemplate$Template", 36, ⟨"Glosstemplate", "slotOf", "(C)I"⟩, "Glosstemplate"), ("Glosstemplate", 187, ⟨"Glosstemplate$Letter", "<init>", "()V"⟩, "Glosstemplate"), ("Glosstemplate$Letter", 19, ⟨"Glosstemplate", "isBelow", "(II)Z"⟩, "Glosstemplate"), ("Glosstemplate$Data", 19, ⟨"Glosstemplate", "isBelow", "(II)Z"⟩, "Glosstemplate"), ("Glosstemplate$Page", 27, ⟨"Glosstemplate", "capital", "(C)C"⟩, "Glosstemplate"), ("Glosstemplate$Page", 35, ⟨"Glosstemplate", "isOpenBehind", "(CZ)Z"⟩, "Glosstemplate"), ("Glosstemplate$Template", 40, ⟨"Glosstemplate", "caseOf", "(C)I"⟩, "Glosstemplate"), ("Glosstemplate$Template", 43, ⟨"Glosstemplate", "numberOf", "(C)I"⟩, "Glosstemplate"), ("Glosstemplate$Words", 66, ⟨"Glosstemplate", "isVowel", "(C)Z"⟩, "Glosstemplate"), ("Glosstemplate$Seeker", 21, ⟨"Glosstemplate", "capital", "(C)C"⟩, "Glosstemplate"), ("Glosstemplate$Seeker", 27, ⟨"Glosstemplate", "isOpenBehind", "(CZ)Z"⟩, "Glosstemplate")]
def cx_exc : List String := ["java/lang/IllegalStateException", "java/lang/IllegalArgumentException", "java/lang/IndexOutOfBoundsException"]
def cx_nc : List (String × String) := [("java/lang/IllegalStateException", "java/lang/IllegalArgumentException"), ("java/lang/IllegalStateException", "java/lang/IndexOutOfBoundsException"), ("java/lang/IllegalArgumentException", "java/lang/IndexOutOfBoundsException"), ("java/lang/IllegalArgumentException", "java/lang/IllegalStateException"), ("java/lang/IndexOutOfBoundsException", "java/lang/IllegalArgumentException"), ("java/lang/IndexOutOfBoundsException", "java/lang/IllegalStateException")]
def cx_aov : List String := ["Glosstemplate$Signs", "Glosstemplate$Clause", "Glosstemplate$Letter", "Glosstemplate$Data", "Glosstemplate$Template"]
def cx_strs : List (String × Nat × String) := [("Glosstemplate", 67, "the buffer is full"), ("Glosstemplate", 86, "no stem, or too many words"), ("Glosstemplate", 101, "no such language or word"), ("Glosstemplate", 109, "no such grammar"), ("Glosstemplate", 112, "no ending, or no form"), ("Glosstemplate", 122, "no such condition"), ("Glosstemplate", 128, "too many clauses"), ("Glosstemplate", 135, "no such clause or language"), ("Glosstemplate", 140, "the buffer is no text"), ("Glosstemplate", 155, "no text there"), ("Glosstemplate", 167, "no such clause"), ("Glosstemplate", 169, "the same clause, or no such country or how"), ("Glosstemplate", 185, "too many letters"), ("Glosstemplate", 192, "no such letter or clause"), ("Glosstemplate", 199, "the letter has the clause, or is full"), ("Glosstemplate", 202, "no such word"), ("Glosstemplate", 204, "bits out of range"), ("Glosstemplate", 209, "too many data"), ("Glosstemplate", 218, "no such data, slot or word"), ("Glosstemplate", 227, "no such language"), ("Glosstemplate", 229, "price out of range"), ("Glosstemplate", 231, "no such letter, data or language"), ("Glosstemplate", 233, "no such country"), ("Glosstemplate", 246, "no such letter, data, language or place"), ("Glosstemplate", 268, "no such letter or place")]
def cx_dcl : List MethodName := [⟨"java/lang/RuntimeException", "<init>", "()V"⟩, ⟨"java/lang/RuntimeException", "<init>", "(Ljava/lang/String;)V"⟩, ⟨"java/lang/Exception", "<init>", "()V"⟩, ⟨"java/lang/Exception", "<init>", "(Ljava/lang/String;)V"⟩, ⟨"java/lang/Throwable", "<init>", "()V"⟩, ⟨"java/lang/Throwable", "<init>", "(Ljava/lang/String;)V"⟩]
def cx_N (s : State) : Prop := (∀ y ∈ cx_dcl, va_Nw (.declares y) s) ∧ (∀ t ∈ cx_nest, va_Nw (.methodLinkNest t.1 t.2.1 t.2.2.1 t.2.2.2) s) ∧ (∀ E ∈ cx_exc, va_Nw (.castable E E) s) ∧ (∀ t ∈ cx_nc, va_Nc t.1 t.2 s) ∧ (∀ C ∈ cx_aov, va_AO C s) ∧ ∀ t ∈ cx_strs, ∃ a : Nat, vk_R t.1 t.2.1 t.2.2 a s
theorem cx_N.warm {s U : State} (hW : s.WarmedH U.vm) (h : cx_N s) : cx_N U := by
  obtain ⟨h0, h1, h2, h3, h4, h5⟩ := h
  refine ⟨fun y hy => va_tabs rfl (rfl : (s.setVm U.vm).vm = U.vm) (by rw [Cond.declares_setVm hW.alike]; exact h0 y hy), fun t ht => (h1 t ht).warmM hW, fun E hE => (h2 E hE).warmC hW, fun t ht => ?_, fun C hC => (h4 C hC).moved hW.alike, fun t ht => ?_⟩
  · obtain ⟨c, d, e1, e2, e3⟩ := h3 t ht
    exact ⟨c, d, by rw [hW.alike.findClass]; exact e1, by rw [hW.alike.findClass]; exact e2, by rw [hW.alike.assignable]; exact e3⟩
  · obtain ⟨a, ha⟩ := h5 t ht
    exact ⟨a, ha.warm hW⟩
def cx_Z (A : Nat → Prop) (s : State) (H : Heap) : Prop := vx_Zq Bundle.tN "UNASSIGNED_STACK" Bundle.steD A s H ∧ vx_Zq Bundle.tN "SUPPRESSED_SENTINEL" Bundle.listD A s H
def cx_K (D : va_G) (b0 : Nat) (s : State) : Prop := va_K D vwCl [] s ∧ b0 ≤ s.heap.size ∧ cx_N s ∧ cx_Z (fun q => b0 ≤ q) s s.heap
theorem cx_K.next {D : va_G} {b0 : Nat} {s U : State} {H : Heap} {locs : List Loc} (h : cx_K D b0 s) (hS : va_S (fun q => b0 ≤ q) s.heap H locs) (hU : U.heap = H) (hW : s.WarmedH U.vm) : cx_K D b0 U := by
  obtain ⟨h1, h2, h3, h4, h5⟩ := h
  refine ⟨va_K.moved hW.alike h1, by rw [hU]; exact Nat.le_trans h2 hS.1, h3.warm hW, ?_, ?_⟩
  · rw [hU]; exact (h4.kept hS.2.1).moved hW.alike
  · rw [hU]; exact (h5.kept hS.2.1).moved hW.alike
theorem cx_K.calling {D : va_G} {b0 : Nat} {s : State} {g : JFrame} {mk : MethodId} {a : Array Value} (h : cx_K D b0 s) : cx_K D b0 (s.calling g mk a) := by
  have hvm : (s.calling g mk a).vm = s.vm := rfl
  have hW : s.WarmedH (s.calling g mk a).vm := by rw [hvm]; exact State.WarmedH.refl s
  exact h.next (va_S.rf) (by rfl) hW
/-- what a body knows of its method and of the machine -/
def cx_B (M : MD) (p : Program) (l : Launch) (s : State) (m : MethodId) (args : Array Value) (meth : Method) (c : Code) : Prop :=
  p.tables.exec = Jvm.exec ∧ c.code = M.2.1 ∧ c.maxLocals = M.2.2.1 ∧ meth.sig.returnType = M.2.2.2.1 ∧ s.vm.findClass M.1.cls = some m.cls ∧ meth.locks = false ∧ (∀ w ∈ cx_tb, w.before args s = true) ∧ c.exceptionTable.toList = tableOf M.2.2.2.2 ∧ meth.name = M.1.name ∧ l.stackTraces = false
def cx_rm (d mc ms : Nat) : Room := { frames := d, cells := mc, slots := ms, locals := 40 * d }
def cx_Q (D : va_G) (b0 : Nat) (Po : Option Value → GH → Prop) : Array Value → State → Outcome → State → Prop := fun _ st o t => ∃ (r : Option Value) (G : GH), o = .returned r ∧ Po r G ∧ cx_R D b0 t G t.heap ∧ va_F (fun q => b0 ≤ q) st t
def cx_X (D : va_G) (b0 : Nat) (Px : String → GH → Prop) : String → State → State → Prop := fun E st t => ∃ G : GH, Px E G ∧ cx_R D b0 t G t.heap ∧ va_F (fun q => b0 ≤ q) st t
/-- the body of M at pc: from every machine that holds G, the locals lv and the stack st, with room for bc cells of bs slots, it comes to an end that Po (or, thrown, Px) allows -/
def WP (M : MD) (d b0 : Nat) (Po : Option Value → GH → Prop) (Px : String → GH → Prop) (G : GH) (bc bs pc : Nat) (lv : List (Nat × Value)) (st : List Value) : Prop :=
  ∀ (p : Program) (l : Launch) (e : Env) (s : State) (m : MethodId) (args : Array Value) (below : List Frame) (meth : Method) (c : Code) (H : Heap) (locs : List Loc) (cells slots mc ms : Nat) (D : va_G) (ls : Array Slot),
    cx_B M p l s m args meth c → cx_K D b0 s → va_S (fun q => b0 ≤ q) s.heap H locs → cx_R D b0 s G H → lv_has ls M.2.2.1 lv → cells + bc ≤ mc → slots + bs ≤ ms →
    W p l e (cx_rm d mc ms) s m args below meth c H locs cells slots (vx_MQ below (cx_Q D b0 Po) (cx_X D b0 Px) args s mc ms (fun q => b0 ≤ q)) (F0 m pc ls st)
/-- .. and thrown E over the frame at pc -/
def WX (M : MD) (d b0 : Nat) (Po : Option Value → GH → Prop) (Px : String → GH → Prop) (G : GH) (bc bs pc : Nat) (lv : List (Nat × Value)) (E : String) : Prop :=
  ∀ (p : Program) (l : Launch) (e : Env) (s : State) (m : MethodId) (args : Array Value) (below : List Frame) (meth : Method) (c : Code) (H : Heap) (locs : List Loc) (cells slots mc ms : Nat) (D : va_G) (ls : Array Slot) (rest : List Value) (q : Addr) (ce : Cell),
    cx_B M p l s m args meth c → cx_K D b0 s → va_S (fun q => b0 ≤ q) s.heap H locs → cx_R D b0 s G H → lv_has ls M.2.2.1 lv → cells + bc ≤ mc → slots + bs ≤ ms → H[q]? = some ce → ce.vm = .none → s.vm.findClass E = some ce.cls →
    vx_W p l e (cx_rm d mc ms) s m args below meth c H locs cells slots (vx_MQ below (cx_Q D b0 Po) (cx_X D b0 Px) args s mc ms (fun q => b0 ≤ q)) (F0 m pc ls rest) q
def cx_P (D : va_G) (b0 : Nat) (G : GH) (av : List Value) : Array Value → State → Prop := fun v U => v = av.toArray ∧ cx_K D b0 U ∧ cx_R D b0 U G U.heap
/-- a call of M with av over G, with mc cells of ms slots at most -/
def CT (M : MD) (d b0 : Nat) (G : GH) (av : List Value) (mc ms : Nat) (Po : Option Value → GH → Prop) (Px : String → GH → Prop) : Prop :=
  ∀ (l : Launch) (D : va_G), l.stackTraces = false → vx_Met l M.1 (cx_ws M) (cx_rm d mc ms) (cx_P D b0 G av) (cx_Q D b0 Po) (cx_X D b0 Px) mc ms (fun q => b0 ≤ q)
theorem cx_P.blind {D : va_G} {b0 : Nat} {G : GH} {av : List Value} : FrameBlind (cx_P D b0 G av) := fun a U g mk h => by
  obtain ⟨h1, h2, h3⟩ := h
  exact ⟨h1, h2.calling, cx_R.moved (u := U) (U := U.calling g mk a) (Vm.Alike.refl U.vm) h3⟩
section CXR
variable {M : MD} {d b0 : Nat} {Po : Option Value → GH → Prop} {Px : String → GH → Prop} {G : GH} {bc bs pc : Nat} {lv : List (Nat × Value)} {st : List Value}
theorem CT.intro {av : List Value} (hp : plainName M.1.cls = true) (hh : M.2.2.2.2 = []) (hn : (lg_sl av).length ≤ M.2.2.1) (k : WP M d b0 Po Px G bc bs 0 (lv_args 0 av) []) : CT M d b0 G av bc bs Po Px := by
  intro l D hl
  have hw : cx_ws M = Cond.code M.1 M.2.1 M.2.2.1 M.2.2.2.1 :: cx_tb := by unfold cx_ws; rw [if_pos hh]
  refine vx_ofW (cc := M.2.1) (maxL := M.2.2.1) (ret := M.2.2.2.1) hp hw ?_
  intro p e s m args below meth c s₁ B hml ht hv
  obtain ⟨rfl, hK, hR⟩ := hv
  have hts := atoms_spec (ws := cx_ws M) B.pre
  have hlv := lv_entry av hn
  rw [lg_entry_eq]
  refine k p l e s m _ below meth c s.heap [] 0 0 bc bs D _ ⟨B.exec, B.bytes, hml, B.returns, findClass_of_methodNamed B.named, B.notSynchronized, fun w h => hts w (by rw [hw]; exact List.mem_cons_of_mem _ h), ?_, (name_of_methodNamed B.named B.method).1, hl⟩ hK va_S.rf hR hlv (by omega) (by omega)
  rw [hh]
  show _ = []
  cases hx : c.exceptionTable.toList with
  | nil => rfl
  | cons a r => exact (ht a (by rw [hx]; exact List.mem_cons_self)).elim
theorem CT.introW {av : List Value} (hp : plainName M.1.cls = true) (hh : M.2.2.2.2 ≠ []) (hn : (lg_sl av).length ≤ M.2.2.1) (k : WP M d b0 Po Px G bc bs 0 (lv_args 0 av) []) : CT M d b0 G av bc bs Po Px := by
  intro l D hl
  have hw : cx_ws M = Cond.codeWith M.1 M.2.1 M.2.2.1 M.2.2.2.1 M.2.2.2.2 :: cx_tb := by unfold cx_ws; rw [if_neg hh]
  refine vx_ofWH (cc := M.2.1) (maxL := M.2.2.1) (ret := M.2.2.2.1) (hh := M.2.2.2.2) hp hw ?_
  intro p e s m args below meth c s₁ B hml hv
  obtain ⟨rfl, hK, hR⟩ := hv
  have hts := atoms_spec (ws := cx_ws M) B.pre
  have hlv := lv_entry av hn
  rw [lg_entry_eq]
  exact k p l e s m _ below meth c s.heap [] 0 0 bc bs D _ ⟨B.exec, B.bytes, hml, B.returns, findClass_of_methodNamed B.named, B.notSynchronized, fun w h => hts w (by rw [hw]; exact List.mem_cons_of_mem _ h), vx_table (x := M.1) B (hts _ (by rw [hw]; exact List.mem_cons_self)), (name_of_methodNamed B.named B.method).1, hl⟩ hK va_S.rf hR hlv (by omega) (by omega)
/-- a step that touches neither heap nor locals -/
theorem WP.pure {pc' : Nat} {st' : List Value} (h : ∀ {p : Program} {l : Launch} {e : Env} {R : Room} {s : State} {m : MethodId} {args : Array Value} {below : List Frame} {meth : Method} {c : Code} {H : Heap} {locs : List Loc} {cells slots : Nat} {Q : State → Prop} {ls : Array Slot}, p.tables.exec = Jvm.exec → c.code = M.2.1 → lv_has ls M.2.2.1 lv → W p l e R s m args below meth c H locs cells slots Q (F0 m pc' ls st') → W p l e R s m args below meth c H locs cells slots Q (F0 m pc ls st))
    (k : WP M d b0 Po Px G bc bs pc' lv st') : WP M d b0 Po Px G bc bs pc lv st := by
  intro p l e s m args below meth c H locs cells slots mc ms D ls hB hK hS hR hl h1 h2
  exact h hB.1 hB.2.1 hl (k p l e s m args below meth c H locs cells slots mc ms D ls hB hK hS hR hl h1 h2)
theorem WP.loc {lv' : List (Nat × Value)} (ks : List Nat) (hl : lv_pick lv ks = lv') (k : WP M d b0 Po Px G bc bs pc lv' st) : WP M d b0 Po Px G bc bs pc lv st := by
  intro p l e s m args below meth c H locs cells slots mc ms D ls hB hK hS hR h h1 h2
  exact k p l e s m args below meth c H locs cells slots mc ms D ls hB hK hS hR (lv_sub h ks hl) h1 h2
theorem WP.bud {bc' bs' : Nat} (h1 : bc' ≤ bc) (h2 : bs' ≤ bs) (k : WP M d b0 Po Px G bc' bs' pc lv st) : WP M d b0 Po Px G bc bs pc lv st := by
  intro p l e s m args below meth c H locs cells slots mc ms D ls hB hK hS hR h h3 h4
  exact k p l e s m args below meth c H locs cells slots mc ms D ls hB hK hS hR h (by omega) (by omega)
theorem CT.mono {av : List Value} {Po' : Option Value → GH → Prop} {Px' : String → GH → Prop} (h : CT M d b0 G av bc bs Po Px) (h1 : ∀ r G', Po r G' → Po' r G') (h2 : ∀ E G', Px E G' → Px' E G') : CT M d b0 G av bc bs Po' Px' := by
  intro l D hl p e ha hc hk s m args below hf happ hP hK
  obtain ⟨k, o, g1, g2, g3, g4⟩ := h l D hl p e ha hc hk s m args below hf happ hP hK
  refine ⟨k, o, g1, g2, g3, ?_⟩
  rcases g4 with ⟨⟨r, G', q1, q2, q3⟩, q4⟩ | ⟨q, q1, E, ce, L, ⟨G', q2, q3⟩, q4⟩
  · exact Or.inl ⟨⟨r, G', q1, h1 r G' q2, q3⟩, q4⟩
  · exact Or.inr ⟨q, q1, E, ce, L, ⟨G', h2 E G' q2, q3⟩, q4⟩
end CXR
end
section
section RUL
variable {M : MD} {d b0 : Nat} {Po : Option Value → GH → Prop} {Px : String → GH → Prop} {G : GH} {bc bs pc : Nat} {lv : List (Nat × Value)} {st : List Value}
theorem r_iconst {n : Int} {v : Int32} (hd : decode M.2.1 pc = .ok (.iconst n, 1)) (hv : Int32.ofInt n = v) (k : WP M d b0 Po Px G bc bs (pc + 1) lv (.int v :: st)) : WP M d b0 Po Px G bc bs pc lv st := WP.pure (fun hx hb hl kk => lv_iconst hx hb hd hv kk) k
theorem r_bipush {n : Int} {v : Int32} (hd : decode M.2.1 pc = .ok (.bipush n, 2)) (hv : (Int8.ofInt n).toInt32 = v) (k : WP M d b0 Po Px G bc bs (pc + 2) lv (.int v :: st)) : WP M d b0 Po Px G bc bs pc lv st := WP.pure (fun hx hb hl kk => lv_bipush hx hb hd hv kk) k
theorem r_sipush {n : Int} {v : Int32} (hd : decode M.2.1 pc = .ok (.sipush n, 3)) (hv : (Int16.ofInt n).toInt32 = v) (k : WP M d b0 Po Px G bc bs (pc + 3) lv (.int v :: st)) : WP M d b0 Po Px G bc bs pc lv st := WP.pure (fun hx hb hl kk => lv_sipush hx hb hd hv kk) k
theorem r_lconst {n : Fin 2} {v : Int64} (hd : decode M.2.1 pc = .ok (.lconst n, 1)) (hv : Int64.ofNat (n : Nat) = v) (k : WP M d b0 Po Px G bc bs (pc + 1) lv (.long v :: st)) : WP M d b0 Po Px G bc bs pc lv st := WP.pure (fun hx hb hl kk => lv_lconst hx hb hd hv kk) k
theorem r_null  (hd : decode M.2.1 pc = .ok (.aconst_null, 1)) (k : WP M d b0 Po Px G bc bs (pc + 1) lv (.null :: st)) : WP M d b0 Po Px G bc bs pc lv st := WP.pure (fun hx hb hl kk => lv_null hx hb hd kk) k
theorem r_iload_n {i : Nat} {x : Int32} {kk : Fin 4} (hd : decode M.2.1 pc = .ok (.iload_n kk, 1)) (hi : (kk : Nat) = i) (j : Nat) (hj : lv[j]? = some (i, .int x)) (k : WP M d b0 Po Px G bc bs (pc + 1) lv (.int x :: st)) : WP M d b0 Po Px G bc bs pc lv st := WP.pure (fun hx hb hl kk => lv_iload_n hx hb hd hi (lv_at hl j hj) kk) k
theorem r_iload {i : Nat} {x : Int32} (hd : decode M.2.1 pc = .ok (.iload i, 2)) (j : Nat) (hj : lv[j]? = some (i, .int x)) (k : WP M d b0 Po Px G bc bs (pc + 2) lv (.int x :: st)) : WP M d b0 Po Px G bc bs pc lv st := WP.pure (fun hx hb hl kk => lv_iload hx hb hd (lv_at hl j hj) kk) k
theorem r_aload_n {i : Nat} {x : Nat} {kk : Fin 4} (hd : decode M.2.1 pc = .ok (.aload_n kk, 1)) (hi : (kk : Nat) = i) (j : Nat) (hj : lv[j]? = some (i, .ref x)) (k : WP M d b0 Po Px G bc bs (pc + 1) lv (.ref x :: st)) : WP M d b0 Po Px G bc bs pc lv st := WP.pure (fun hx hb hl kk => lv_aload_n hx hb hd hi (lv_at hl j hj) kk) k
theorem r_aload {i : Nat} {x : Nat} (hd : decode M.2.1 pc = .ok (.aload i, 2)) (j : Nat) (hj : lv[j]? = some (i, .ref x)) (k : WP M d b0 Po Px G bc bs (pc + 2) lv (.ref x :: st)) : WP M d b0 Po Px G bc bs pc lv st := WP.pure (fun hx hb hl kk => lv_aload hx hb hd (lv_at hl j hj) kk) k
theorem r_aload_nN {i : Nat} {kk : Fin 4} (hd : decode M.2.1 pc = .ok (.aload_n kk, 1)) (hi : (kk : Nat) = i) (j : Nat) (hj : lv[j]? = some (i, .null)) (k : WP M d b0 Po Px G bc bs (pc + 1) lv (.null :: st)) : WP M d b0 Po Px G bc bs pc lv st := WP.pure (fun hx hb hl kk => lv_aload_nN hx hb hd hi (lv_at hl j hj) kk) k
theorem r_aloadN {i : Nat} (hd : decode M.2.1 pc = .ok (.aload i, 2)) (j : Nat) (hj : lv[j]? = some (i, .null)) (k : WP M d b0 Po Px G bc bs (pc + 2) lv (.null :: st)) : WP M d b0 Po Px G bc bs pc lv st := WP.pure (fun hx hb hl kk => lv_aloadN hx hb hd (lv_at hl j hj) kk) k
theorem r_iadd {x y : Int32} (hd : decode M.2.1 pc = .ok (.iadd, 1)) (k : WP M d b0 Po Px G bc bs (pc + 1) lv (.int (x + y) :: st)) : WP M d b0 Po Px G bc bs pc lv (.int y :: .int x :: st) := WP.pure (fun hx hb hl kk => lv_iadd hx hb hd kk) k
theorem r_isub {x y : Int32} (hd : decode M.2.1 pc = .ok (.isub, 1)) (k : WP M d b0 Po Px G bc bs (pc + 1) lv (.int (x - y) :: st)) : WP M d b0 Po Px G bc bs pc lv (.int y :: .int x :: st) := WP.pure (fun hx hb hl kk => lv_isub hx hb hd kk) k
theorem r_imul {x y : Int32} (hd : decode M.2.1 pc = .ok (.imul, 1)) (k : WP M d b0 Po Px G bc bs (pc + 1) lv (.int (x * y) :: st)) : WP M d b0 Po Px G bc bs pc lv (.int y :: .int x :: st) := WP.pure (fun hx hb hl kk => lv_imul hx hb hd kk) k
theorem r_iand {x y : Int32} (hd : decode M.2.1 pc = .ok (.iand, 1)) (k : WP M d b0 Po Px G bc bs (pc + 1) lv (.int (x &&& y) :: st)) : WP M d b0 Po Px G bc bs pc lv (.int y :: .int x :: st) := WP.pure (fun hx hb hl kk => lv_iand hx hb hd kk) k
theorem r_ior {x y : Int32} (hd : decode M.2.1 pc = .ok (.ior, 1)) (k : WP M d b0 Po Px G bc bs (pc + 1) lv (.int (x ||| y) :: st)) : WP M d b0 Po Px G bc bs pc lv (.int y :: .int x :: st) := WP.pure (fun hx hb hl kk => lv_ior hx hb hd kk) k
theorem r_ixor {x y : Int32} (hd : decode M.2.1 pc = .ok (.ixor, 1)) (k : WP M d b0 Po Px G bc bs (pc + 1) lv (.int (x ^^^ y) :: st)) : WP M d b0 Po Px G bc bs pc lv (.int y :: .int x :: st) := WP.pure (fun hx hb hl kk => lv_ixor hx hb hd kk) k
theorem r_ishl {x y : Int32} (hd : decode M.2.1 pc = .ok (.ishl, 1)) (k : WP M d b0 Po Px G bc bs (pc + 1) lv (.int (x <<< (y &&& 31)) :: st)) : WP M d b0 Po Px G bc bs pc lv (.int y :: .int x :: st) := WP.pure (fun hx hb hl kk => lv_ishl hx hb hd kk) k
theorem r_ishr {x y : Int32} (hd : decode M.2.1 pc = .ok (.ishr, 1)) (k : WP M d b0 Po Px G bc bs (pc + 1) lv (.int (x >>> (y &&& 31)) :: st)) : WP M d b0 Po Px G bc bs pc lv (.int y :: .int x :: st) := WP.pure (fun hx hb hl kk => lv_ishr hx hb hd kk) k
theorem r_idiv {x y : Int32} (hd : decode M.2.1 pc = .ok (.idiv, 1)) (hne : ¬ y = 0) (k : WP M d b0 Po Px G bc bs (pc + 1) lv (.int (x / y) :: st)) : WP M d b0 Po Px G bc bs pc lv (.int y :: .int x :: st) := WP.pure (fun hx hb hl kk => lv_idiv hx hb hd hne kk) k
theorem r_irem {x y : Int32} (hd : decode M.2.1 pc = .ok (.irem, 1)) (hne : ¬ y = 0) (k : WP M d b0 Po Px G bc bs (pc + 1) lv (.int (x - x / y * y) :: st)) : WP M d b0 Po Px G bc bs pc lv (.int y :: .int x :: st) := WP.pure (fun hx hb hl kk => lv_irem hx hb hd hne kk) k
theorem r_iushr {x y v : Int32} (hd : decode M.2.1 pc = .ok (.iushr, 1)) (hv : (x.toUInt32 >>> (y.toUInt32 &&& Int32.toUInt32 31)).toInt32 = v) (k : WP M d b0 Po Px G bc bs (pc + 1) lv (.int v :: st)) : WP M d b0 Po Px G bc bs pc lv (.int y :: .int x :: st) := WP.pure (fun hx hb hl kk => lv_iushr hx hb hd hv kk) k
theorem r_i2l {x : Int32} (hd : decode M.2.1 pc = .ok (.i2l, 1)) (k : WP M d b0 Po Px G bc bs (pc + 1) lv (.long x.toInt64 :: st)) : WP M d b0 Po Px G bc bs pc lv (.int x :: st) := WP.pure (fun hx hb hl kk => lv_i2l hx hb hd rfl kk) k
theorem r_i2c {x : Int32} {v : Int32} (hd : decode M.2.1 pc = .ok (.i2c, 1)) (hv : (x.toUInt32 % 65536).toInt32 = v) (k : WP M d b0 Po Px G bc bs (pc + 1) lv (.int v :: st)) : WP M d b0 Po Px G bc bs pc lv (.int x :: st) := WP.pure (fun hx hb hl kk => lv_i2c hx hb hd hv kk) k
theorem r_lcmp {x y : Int64} (hd : decode M.2.1 pc = .ok (.lcmp, 1)) (k : WP M d b0 Po Px G bc bs (pc + 1) lv (.int (lg_cmp x y) :: st)) : WP M d b0 Po Px G bc bs pc lv (.long y :: .long x :: st) := WP.pure (fun hx hb hl kk => W.lcmp hx hb hd kk) k
theorem r_dup {v : Value} (hd : decode M.2.1 pc = .ok (.dup, 1)) (hv : v.category = 1) (k : WP M d b0 Po Px G bc bs (pc + 1) lv (v :: v :: st)) : WP M d b0 Po Px G bc bs pc lv (v :: st) := WP.pure (fun hx hb hl kk => lv_dup hx hb hd hv kk) k
theorem r_pop {v : Value} (hd : decode M.2.1 pc = .ok (.pop, 1)) (hv : v.category = 1) (k : WP M d b0 Po Px G bc bs (pc + 1) lv st) : WP M d b0 Po Px G bc bs pc lv (v :: st) := WP.pure (fun hx hb hl kk => lv_pop hx hb hd hv kk) k
theorem r_dup2 {v w : Value} (hd : decode M.2.1 pc = .ok (.dup2, 1)) (hv : v.category = 1) (hw : w.category = 1) (k : WP M d b0 Po Px G bc bs (pc + 1) lv (v :: w :: v :: w :: st)) : WP M d b0 Po Px G bc bs pc lv (v :: w :: st) := WP.pure (fun hx hb hl kk => lv_dup2_11 hx hb hd hv hw kk) k
theorem r_goto {off : Int} (tgt : Nat) (hd : decode M.2.1 pc = .ok (.goto off, 3)) (ht : (pc : Int) + off = (tgt : Int)) (k : WP M d b0 Po Px G bc bs tgt lv st) : WP M d b0 Po Px G bc bs pc lv st := WP.pure (fun hx hb hl kk => lv_goto hx hb hd ht kk) k
theorem r_ifnullR {x : Nat} {off : Int} (hd : decode M.2.1 pc = .ok (.ifnull off, 3)) (k : WP M d b0 Po Px G bc bs (pc + 3) lv st) : WP M d b0 Po Px G bc bs pc lv (.ref x :: st) := WP.pure (fun hx hb hl kk => lv_ifnull hx hb hd kk) k
theorem r_ifnullN {off : Int} (tgt : Nat) (hd : decode M.2.1 pc = .ok (.ifnull off, 3)) (ht : (pc : Int) + off = (tgt : Int)) (k : WP M d b0 Po Px G bc bs tgt lv st) : WP M d b0 Po Px G bc bs pc lv (.null :: st) := WP.pure (fun hx hb hl kk => lv_ifnullN hx hb hd ht kk) k
theorem r_ifnonnullR {x : Nat} {off : Int} (tgt : Nat) (hd : decode M.2.1 pc = .ok (.ifnonnull off, 3)) (ht : (pc : Int) + off = (tgt : Int)) (k : WP M d b0 Po Px G bc bs tgt lv st) : WP M d b0 Po Px G bc bs pc lv (.ref x :: st) := WP.pure (fun hx hb hl kk => lv_ifnonnull hx hb hd ht kk) k
theorem r_ifnonnullN {off : Int} (hd : decode M.2.1 pc = .ok (.ifnonnull off, 3)) (k : WP M d b0 Po Px G bc bs (pc + 3) lv st) : WP M d b0 Po Px G bc bs pc lv (.null :: st) := WP.pure (fun hx hb hl kk => lv_ifnonnullN hx hb hd kk) k
theorem r_ldc {index : Nat} {v : Int32} (hd : decode M.2.1 pc = .ok (.ldc index, 2)) (hc : Cond.constant M.1.cls index v ∈ cx_tb) (k : WP M d b0 Po Px G bc bs (pc + 2) lv (.int v :: st)) : WP M d b0 Po Px G bc bs pc lv st := by
  intro p l e s m args below meth c H locs cells slots mc ms D ls hB hK hS hR hl h1 h2
  exact lv_ldc hB.1 hB.2.1 hB.2.2.2.2.1 (hB.2.2.2.2.2.2.1 _ hc) hd (k p l e s m args below meth c H locs cells slots mc ms D ls hB hK hS hR hl h1 h2)
theorem r_ldcw {index : Nat} {v : Int32} (hd : decode M.2.1 pc = .ok (.ldc_w index, 3)) (hc : Cond.constant M.1.cls index v ∈ cx_tb) (k : WP M d b0 Po Px G bc bs (pc + 3) lv (.int v :: st)) : WP M d b0 Po Px G bc bs pc lv st := by
  intro p l e s m args below meth c H locs cells slots mc ms D ls hB hK hS hR hl h1 h2
  exact lv_ldcw hB.1 hB.2.1 hB.2.2.2.2.1 (hB.2.2.2.2.2.2.1 _ hc) hd (k p l e s m args below meth c H locs cells slots mc ms D ls hB hK hS hR hl h1 h2)
theorem r_istore_n {i : Nat} {x : Int32} {kk : Fin 4} (lv2 : List (Nat × Value)) (hd : decode M.2.1 pc = .ok (.istore_n kk, 1)) (hi : (kk : Nat) = i) (hn : i < M.2.2.1) (hl0 : (i, Value.int x) :: lv.filter (fun q => !(q.1 == i) && !(q.1 + 1 == i && q.2.category == 2)) = lv2) (k : WP M d b0 Po Px G bc bs (pc + 1) lv2 st) : WP M d b0 Po Px G bc bs pc lv (.int x :: st) := by
  intro p l e s m args below meth c H locs cells slots mc ms D ls hB hK hS hR hl h1 h2
  exact lv_istore_n hB.1 hB.2.1 hd hi hl hn hl0 (fun ls2 hl2 => k p l e s m args below meth c H locs cells slots mc ms D ls2 hB hK hS hR hl2 h1 h2)
theorem r_istore {i : Nat} {x : Int32} (lv2 : List (Nat × Value)) (hd : decode M.2.1 pc = .ok (.istore i, 2)) (hn : i < M.2.2.1) (hl0 : (i, Value.int x) :: lv.filter (fun q => !(q.1 == i) && !(q.1 + 1 == i && q.2.category == 2)) = lv2) (k : WP M d b0 Po Px G bc bs (pc + 2) lv2 st) : WP M d b0 Po Px G bc bs pc lv (.int x :: st) := by
  intro p l e s m args below meth c H locs cells slots mc ms D ls hB hK hS hR hl h1 h2
  exact lv_istore hB.1 hB.2.1 hd hl hn hl0 (fun ls2 hl2 => k p l e s m args below meth c H locs cells slots mc ms D ls2 hB hK hS hR hl2 h1 h2)
theorem r_astore_n {i : Nat} {x : Nat} {kk : Fin 4} (lv2 : List (Nat × Value)) (hd : decode M.2.1 pc = .ok (.astore_n kk, 1)) (hi : (kk : Nat) = i) (hn : i < M.2.2.1) (hl0 : (i, Value.ref x) :: lv.filter (fun q => !(q.1 == i) && !(q.1 + 1 == i && q.2.category == 2)) = lv2) (k : WP M d b0 Po Px G bc bs (pc + 1) lv2 st) : WP M d b0 Po Px G bc bs pc lv (.ref x :: st) := by
  intro p l e s m args below meth c H locs cells slots mc ms D ls hB hK hS hR hl h1 h2
  exact lv_astore_n hB.1 hB.2.1 hd hi hl hn hl0 (fun ls2 hl2 => k p l e s m args below meth c H locs cells slots mc ms D ls2 hB hK hS hR hl2 h1 h2)
theorem r_astore {i : Nat} {x : Nat} (lv2 : List (Nat × Value)) (hd : decode M.2.1 pc = .ok (.astore i, 2)) (hn : i < M.2.2.1) (hl0 : (i, Value.ref x) :: lv.filter (fun q => !(q.1 == i) && !(q.1 + 1 == i && q.2.category == 2)) = lv2) (k : WP M d b0 Po Px G bc bs (pc + 2) lv2 st) : WP M d b0 Po Px G bc bs pc lv (.ref x :: st) := by
  intro p l e s m args below meth c H locs cells slots mc ms D ls hB hK hS hR hl h1 h2
  exact lv_astore hB.1 hB.2.1 hd hl hn hl0 (fun ls2 hl2 => k p l e s m args below meth c H locs cells slots mc ms D ls2 hB hK hS hR hl2 h1 h2)
theorem r_astore_nN {i : Nat} {kk : Fin 4} (lv2 : List (Nat × Value)) (hd : decode M.2.1 pc = .ok (.astore_n kk, 1)) (hi : (kk : Nat) = i) (hn : i < M.2.2.1) (hl0 : (i, Value.null) :: lv.filter (fun q => !(q.1 == i) && !(q.1 + 1 == i && q.2.category == 2)) = lv2) (k : WP M d b0 Po Px G bc bs (pc + 1) lv2 st) : WP M d b0 Po Px G bc bs pc lv (.null :: st) := by
  intro p l e s m args below meth c H locs cells slots mc ms D ls hB hK hS hR hl h1 h2
  exact lv_astore_nN hB.1 hB.2.1 hd hi hl hn hl0 (fun ls2 hl2 => k p l e s m args below meth c H locs cells slots mc ms D ls2 hB hK hS hR hl2 h1 h2)
theorem r_astoreN {i : Nat} (lv2 : List (Nat × Value)) (hd : decode M.2.1 pc = .ok (.astore i, 2)) (hn : i < M.2.2.1) (hl0 : (i, Value.null) :: lv.filter (fun q => !(q.1 == i) && !(q.1 + 1 == i && q.2.category == 2)) = lv2) (k : WP M d b0 Po Px G bc bs (pc + 2) lv2 st) : WP M d b0 Po Px G bc bs pc lv (.null :: st) := by
  intro p l e s m args below meth c H locs cells slots mc ms D ls hB hK hS hR hl h1 h2
  exact lv_astoreN hB.1 hB.2.1 hd hl hn hl0 (fun ls2 hl2 => k p l e s m args below meth c H locs cells slots mc ms D ls2 hB hK hS hR hl2 h1 h2)
theorem r_iinc {i : Nat} {n : Int} {x : Int32} (v : Int32) (lv2 : List (Nat × Value)) (hd : decode M.2.1 pc = .ok (.iinc i n, 3)) (j : Nat) (hj : lv[j]? = some (i, .int x)) (hv : x + Int32.ofInt n = v) (hn : i < M.2.2.1) (hl0 : (i, Value.int v) :: lv.filter (fun q => !(q.1 == i) && !(q.1 + 1 == i && q.2.category == 2)) = lv2) (k : WP M d b0 Po Px G bc bs (pc + 3) lv2 st) : WP M d b0 Po Px G bc bs pc lv st := by
  intro p l e s m args below meth c H locs cells slots mc ms D ls hB hK hS hR hl h1 h2
  exact lv_iinc hB.1 hB.2.1 hd hl hj hv hn hl0 (fun ls2 hl2 => k p l e s m args below meth c H locs cells slots mc ms D ls2 hB hK hS hR hl2 h1 h2)
theorem r_if_eq {x : Int32} {off : Int} (tgt : Nat) (hd : decode M.2.1 pc = .ok (.ifCond .eq off, 3)) (ht : (pc : Int) + off = (tgt : Int)) (kt : x = 0 → WP M d b0 Po Px G bc bs tgt lv st) (kf : ¬ x = 0 → WP M d b0 Po Px G bc bs (pc + 3) lv st) : WP M d b0 Po Px G bc bs pc lv (.int x :: st) := by
  intro p l e s m args below meth c H locs cells slots mc ms D ls hB hK hS hR hl h1 h2
  exact lv_if_eq hB.1 hB.2.1 hd ht (fun h => kt h p l e s m args below meth c H locs cells slots mc ms D ls hB hK hS hR hl h1 h2) (fun h => kf h p l e s m args below meth c H locs cells slots mc ms D ls hB hK hS hR hl h1 h2)
theorem r_icmp_eq {x y : Int32} {off : Int} (tgt : Nat) (hd : decode M.2.1 pc = .ok (.if_icmp .eq off, 3)) (ht : (pc : Int) + off = (tgt : Int)) (kt : x = y → WP M d b0 Po Px G bc bs tgt lv st) (kf : ¬ x = y → WP M d b0 Po Px G bc bs (pc + 3) lv st) : WP M d b0 Po Px G bc bs pc lv (.int y :: .int x :: st) := by
  intro p l e s m args below meth c H locs cells slots mc ms D ls hB hK hS hR hl h1 h2
  exact lv_icmp_eq hB.1 hB.2.1 hd ht (fun h => kt h p l e s m args below meth c H locs cells slots mc ms D ls hB hK hS hR hl h1 h2) (fun h => kf h p l e s m args below meth c H locs cells slots mc ms D ls hB hK hS hR hl h1 h2)
theorem r_if_ne {x : Int32} {off : Int} (tgt : Nat) (hd : decode M.2.1 pc = .ok (.ifCond .ne off, 3)) (ht : (pc : Int) + off = (tgt : Int)) (kt : ¬ x = 0 → WP M d b0 Po Px G bc bs tgt lv st) (kf : x = 0 → WP M d b0 Po Px G bc bs (pc + 3) lv st) : WP M d b0 Po Px G bc bs pc lv (.int x :: st) := by
  intro p l e s m args below meth c H locs cells slots mc ms D ls hB hK hS hR hl h1 h2
  exact lv_if_ne hB.1 hB.2.1 hd ht (fun h => kt h p l e s m args below meth c H locs cells slots mc ms D ls hB hK hS hR hl h1 h2) (fun h => kf h p l e s m args below meth c H locs cells slots mc ms D ls hB hK hS hR hl h1 h2)
theorem r_icmp_ne {x y : Int32} {off : Int} (tgt : Nat) (hd : decode M.2.1 pc = .ok (.if_icmp .ne off, 3)) (ht : (pc : Int) + off = (tgt : Int)) (kt : ¬ x = y → WP M d b0 Po Px G bc bs tgt lv st) (kf : x = y → WP M d b0 Po Px G bc bs (pc + 3) lv st) : WP M d b0 Po Px G bc bs pc lv (.int y :: .int x :: st) := by
  intro p l e s m args below meth c H locs cells slots mc ms D ls hB hK hS hR hl h1 h2
  exact lv_icmp_ne hB.1 hB.2.1 hd ht (fun h => kt h p l e s m args below meth c H locs cells slots mc ms D ls hB hK hS hR hl h1 h2) (fun h => kf h p l e s m args below meth c H locs cells slots mc ms D ls hB hK hS hR hl h1 h2)
theorem r_if_lt {x : Int32} {off : Int} (tgt : Nat) (hd : decode M.2.1 pc = .ok (.ifCond .lt off, 3)) (ht : (pc : Int) + off = (tgt : Int)) (kt : x < 0 → WP M d b0 Po Px G bc bs tgt lv st) (kf : ¬ (x < 0) → WP M d b0 Po Px G bc bs (pc + 3) lv st) : WP M d b0 Po Px G bc bs pc lv (.int x :: st) := by
  intro p l e s m args below meth c H locs cells slots mc ms D ls hB hK hS hR hl h1 h2
  exact lv_if_lt hB.1 hB.2.1 hd ht (fun h => kt h p l e s m args below meth c H locs cells slots mc ms D ls hB hK hS hR hl h1 h2) (fun h => kf h p l e s m args below meth c H locs cells slots mc ms D ls hB hK hS hR hl h1 h2)
theorem r_icmp_lt {x y : Int32} {off : Int} (tgt : Nat) (hd : decode M.2.1 pc = .ok (.if_icmp .lt off, 3)) (ht : (pc : Int) + off = (tgt : Int)) (kt : x < y → WP M d b0 Po Px G bc bs tgt lv st) (kf : ¬ (x < y) → WP M d b0 Po Px G bc bs (pc + 3) lv st) : WP M d b0 Po Px G bc bs pc lv (.int y :: .int x :: st) := by
  intro p l e s m args below meth c H locs cells slots mc ms D ls hB hK hS hR hl h1 h2
  exact lv_icmp_lt hB.1 hB.2.1 hd ht (fun h => kt h p l e s m args below meth c H locs cells slots mc ms D ls hB hK hS hR hl h1 h2) (fun h => kf h p l e s m args below meth c H locs cells slots mc ms D ls hB hK hS hR hl h1 h2)
theorem r_if_ge {x : Int32} {off : Int} (tgt : Nat) (hd : decode M.2.1 pc = .ok (.ifCond .ge off, 3)) (ht : (pc : Int) + off = (tgt : Int)) (kt : 0 ≤ x → WP M d b0 Po Px G bc bs tgt lv st) (kf : ¬ (0 ≤ x) → WP M d b0 Po Px G bc bs (pc + 3) lv st) : WP M d b0 Po Px G bc bs pc lv (.int x :: st) := by
  intro p l e s m args below meth c H locs cells slots mc ms D ls hB hK hS hR hl h1 h2
  exact lv_if_ge hB.1 hB.2.1 hd ht (fun h => kt h p l e s m args below meth c H locs cells slots mc ms D ls hB hK hS hR hl h1 h2) (fun h => kf h p l e s m args below meth c H locs cells slots mc ms D ls hB hK hS hR hl h1 h2)
theorem r_icmp_ge {x y : Int32} {off : Int} (tgt : Nat) (hd : decode M.2.1 pc = .ok (.if_icmp .ge off, 3)) (ht : (pc : Int) + off = (tgt : Int)) (kt : y ≤ x → WP M d b0 Po Px G bc bs tgt lv st) (kf : ¬ (y ≤ x) → WP M d b0 Po Px G bc bs (pc + 3) lv st) : WP M d b0 Po Px G bc bs pc lv (.int y :: .int x :: st) := by
  intro p l e s m args below meth c H locs cells slots mc ms D ls hB hK hS hR hl h1 h2
  exact lv_icmp_ge hB.1 hB.2.1 hd ht (fun h => kt h p l e s m args below meth c H locs cells slots mc ms D ls hB hK hS hR hl h1 h2) (fun h => kf h p l e s m args below meth c H locs cells slots mc ms D ls hB hK hS hR hl h1 h2)
theorem r_if_gt {x : Int32} {off : Int} (tgt : Nat) (hd : decode M.2.1 pc = .ok (.ifCond .gt off, 3)) (ht : (pc : Int) + off = (tgt : Int)) (kt : 0 < x → WP M d b0 Po Px G bc bs tgt lv st) (kf : ¬ (0 < x) → WP M d b0 Po Px G bc bs (pc + 3) lv st) : WP M d b0 Po Px G bc bs pc lv (.int x :: st) := by
  intro p l e s m args below meth c H locs cells slots mc ms D ls hB hK hS hR hl h1 h2
  exact lv_if_gt hB.1 hB.2.1 hd ht (fun h => kt h p l e s m args below meth c H locs cells slots mc ms D ls hB hK hS hR hl h1 h2) (fun h => kf h p l e s m args below meth c H locs cells slots mc ms D ls hB hK hS hR hl h1 h2)
theorem r_icmp_gt {x y : Int32} {off : Int} (tgt : Nat) (hd : decode M.2.1 pc = .ok (.if_icmp .gt off, 3)) (ht : (pc : Int) + off = (tgt : Int)) (kt : y < x → WP M d b0 Po Px G bc bs tgt lv st) (kf : ¬ (y < x) → WP M d b0 Po Px G bc bs (pc + 3) lv st) : WP M d b0 Po Px G bc bs pc lv (.int y :: .int x :: st) := by
  intro p l e s m args below meth c H locs cells slots mc ms D ls hB hK hS hR hl h1 h2
  exact lv_icmp_gt hB.1 hB.2.1 hd ht (fun h => kt h p l e s m args below meth c H locs cells slots mc ms D ls hB hK hS hR hl h1 h2) (fun h => kf h p l e s m args below meth c H locs cells slots mc ms D ls hB hK hS hR hl h1 h2)
theorem r_if_le {x : Int32} {off : Int} (tgt : Nat) (hd : decode M.2.1 pc = .ok (.ifCond .le off, 3)) (ht : (pc : Int) + off = (tgt : Int)) (kt : x ≤ 0 → WP M d b0 Po Px G bc bs tgt lv st) (kf : ¬ (x ≤ 0) → WP M d b0 Po Px G bc bs (pc + 3) lv st) : WP M d b0 Po Px G bc bs pc lv (.int x :: st) := by
  intro p l e s m args below meth c H locs cells slots mc ms D ls hB hK hS hR hl h1 h2
  exact lv_if_le hB.1 hB.2.1 hd ht (fun h => kt h p l e s m args below meth c H locs cells slots mc ms D ls hB hK hS hR hl h1 h2) (fun h => kf h p l e s m args below meth c H locs cells slots mc ms D ls hB hK hS hR hl h1 h2)
theorem r_icmp_le {x y : Int32} {off : Int} (tgt : Nat) (hd : decode M.2.1 pc = .ok (.if_icmp .le off, 3)) (ht : (pc : Int) + off = (tgt : Int)) (kt : x ≤ y → WP M d b0 Po Px G bc bs tgt lv st) (kf : ¬ (x ≤ y) → WP M d b0 Po Px G bc bs (pc + 3) lv st) : WP M d b0 Po Px G bc bs pc lv (.int y :: .int x :: st) := by
  intro p l e s m args below meth c H locs cells slots mc ms D ls hB hK hS hR hl h1 h2
  exact lv_icmp_le hB.1 hB.2.1 hd ht (fun h => kt h p l e s m args below meth c H locs cells slots mc ms D ls hB hK hS hR hl h1 h2) (fun h => kf h p l e s m args below meth c H locs cells slots mc ms D ls hB hK hS hR hl h1 h2)
theorem r_tin {dflt lo hi : Int} {offs : Array Int} {len : Nat} {x : Int32} {off : Int} (tgt : Nat) (hd : decode M.2.1 pc = .ok (.tableswitch dflt lo hi offs, len)) (h3 : ¬ x.toInt < lo) (h4 : ¬ hi < x.toInt) (ho : offs[(x.toInt - lo).toNat]? = some off) (ht : (pc : Int) + off = (tgt : Int)) (k : WP M d b0 Po Px G bc bs tgt lv st) : WP M d b0 Po Px G bc bs pc lv (.int x :: st) := WP.pure (fun hx hb hl kk => lv_tableIn hx hb hd h3 h4 ho ht kk) k
theorem r_tout {dflt lo hi : Int} {offs : Array Int} {len : Nat} {x : Int32} (tgt : Nat) (hd : decode M.2.1 pc = .ok (.tableswitch dflt lo hi offs, len)) (h : x.toInt < lo ∨ hi < x.toInt) (ht : (pc : Int) + dflt = (tgt : Int)) (k : WP M d b0 Po Px G bc bs tgt lv st) : WP M d b0 Po Px G bc bs pc lv (.int x :: st) := WP.pure (fun hx hb hl kk => lv_tableOut hx hb hd h ht kk) k
end RUL
end
section
/-! heap rows and calls of the frame -/
theorem cx_Pof {D : va_G} {s : State} {q : Nat} {o : Nat × List Value} {H : Heap} (h : cx_at D s q (.inr o) H) : va_P D vwCl [(q, .inr o)] H := by
  intro k x hx
  cases k with
  | zero => cases hx; exact h
  | succ k => simp at hx
theorem cx_Aof {D : va_G} {s : State} {q : Nat} {a : FieldType × vp_A} {H : Heap} (h : cx_at D s q (.inl a) H) : ∃ cA : ClassId, va_P D vwCl [(q, .inl (cA, a.2))] H ∧ ArrOfT s cA a.1 ∧ va_RA s cA a.1 := by
  obtain ⟨cA, h1, h2⟩ := h
  refine ⟨cA, ?_, h2⟩
  intro k x hx
  cases k with
  | zero => cases hx; exact h1
  | succ k => simp at hx
theorem cx_Kt {D : va_G} {s : State} {cA : ClassId} {ty : FieldType} (h : va_K D vwCl [] s) (h1 : ArrOfT s cA ty) (h2 : va_RA s cA ty) : va_K D vwCl [(cA, ty)] s := by
  refine ⟨h.1, fun k x hx => ?_⟩
  cases k with
  | zero => cases hx; exact ⟨h1, h2⟩
  | succ k => simp at hx
theorem cx_Done {D : va_G} {A : Nat → Prop} {q : Nat} {e : va_E} (h : A q) : va_D A [(q, e)] := by
  refine ⟨fun i j p r hi hj _ => ?_, fun k x hx => ?_⟩
  · have a1 := (List.getElem?_eq_some_iff.mp hi).1
    have a2 := (List.getElem?_eq_some_iff.mp hj).1
    simp at a1 a2
    omega
  · cases k with
    | zero => cases hx; exact h
    | succ k => simp at hx
/-- what stands after one cell is written -/
theorem cx_R.up {D : va_G} {b0 : Nat} {s : State} {G : GH} {H H1 : Heap} {a : Nat} {e : LC} (h : cx_R D b0 s G H) (ha : b0 ≤ a) (he : cx_at D s a e H1) (o : ∀ q : Nat, q ≠ a → q < H.size → H1[q]? = H[q]?) : cx_R D b0 s (va_up G a (some e)) H1 := by
  intro q x hx
  unfold va_up at hx
  by_cases hq : q = a
  · rw [if_pos hq] at hx
    cases hx
    rw [hq]
    exact ⟨ha, he⟩
  · rw [if_neg hq] at hx
    exact ⟨(h q x hx).1, (h q x hx).2.kept (o q hq ((h q x hx).2.lt))⟩
theorem cx_R.fresh {D : va_G} {b0 : Nat} {s : State} {G : GH} {H : Heap} (h : cx_R D b0 s G H) : G H.size = none := by
  cases hx : G H.size with
  | none => rfl
  | some e => exact absurd ((h _ _ hx).2.lt) (Nat.lt_irrefl _)
/-- a field: by its class's number and its own -/
def cx_F (own : String) (idx ci k : Nat) : Prop := ∃ r : vw_C, vwCl[ci]? = some r ∧ k < r.2.2 ∧ (∀ w ∈ u_ws r.1 r.2.1 r.2.2, w ∈ cx_tb) ∧ Cond.fieldLink own idx (r.2.1 k).1 (r.2.1 k).2.1 (r.2.1 k).2.2.1 ∈ cx_tb
def cx_FP (own : String) (idx ci k : Nat) (ty : FieldType) (fin : Bool) : Prop := ∃ (r : vw_C) (ty0 : Nat → FieldType), vwCl[ci]? = some r ∧ k < r.2.2 ∧ (∀ w ∈ u_ws r.1 r.2.1 r.2.2, w ∈ cx_tb) ∧ Cond.fieldLink own idx (r.2.1 k).1 (r.2.1 k).2.1 (r.2.1 k).2.2.1 ∈ cx_tb ∧ (∀ j, j < r.2.2 → parseFieldDescriptor (r.2.1 j).2.2.1 = some (ty0 j)) ∧ (∀ a, a < r.2.2 → ∀ b, b < r.2.2 → a ≠ b → (r.2.1 a).2.1 ≠ (r.2.1 b).2.1) ∧ ty0 k = ty ∧ (r.2.1 k).2.2.2 = fin ∧ (r.2.1 k).1 = own
def cx_NW (own : String) (idx ci : Nat) (fs : List Value) : Prop := ∃ (r : vw_C) (ty : Nat → FieldType), vwCl[ci]? = some r ∧ (∀ w ∈ u_ws r.1 r.2.1 r.2.2, w ∈ cx_tb) ∧ (∀ k, k < r.2.2 → parseFieldDescriptor (r.2.1 k).2.2.1 = some (ty k)) ∧ Cond.classLink own idx r.1 ∈ cx_tb ∧ Cond.instantiable r.1 r.2.2 ∈ cx_tb ∧ Cond.initialized r.1 ∈ cx_tb ∧ (∀ j, j < r.2.2 → defaultValue (ty j) = vp_V fs j) ∧ fs.length = r.2.2
section CXH
variable {M : MD} {d b0 : Nat} {Po : Option Value → GH → Prop} {Px : String → GH → Prop} {G : GH} {bc bs pc : Nat} {lv : List (Nat × Value)} {st : List Value}
theorem r_get {idx a ci : Nat} {fs : List Value} {v : Value} (k : Nat) (hd : decode M.2.1 pc = .ok (.getfield idx, 3)) (hF : cx_F M.1.cls idx ci k) (hG : G a = some (.inr (ci, fs))) (hv : fs[k]? = some v) (kk : WP M d b0 Po Px G bc bs (pc + 3) lv (v :: st)) : WP M d b0 Po Px G bc bs pc lv (.ref a :: st) := by
  intro p l e s m args below meth c H locs cells slots mc ms D ls hB hK hS hR hl h1 h2
  obtain ⟨⟨C, T, N⟩, g1, g2, g3, g4⟩ := hF
  obtain ⟨-, hat⟩ := hR a _ hG
  exact va_get (ref := (T k).1) hB.1 hB.2.1 hB.2.2.2.2.2.2.1 g3 hB.2.2.2.2.1 hK.1 (cx_Pof hat) 0 rfl g1 k g2 (hB.2.2.2.2.2.2.1 _ g4) (fun _ h => h) hv hd (kk p l e s m args below meth c H locs cells slots mc ms D ls hB hK hS hR hl h1 h2)
theorem r_put {idx a ci : Nat} {fs : List Value} {v : Value} (k : Nat) (ty : FieldType) (hd : decode M.2.1 pc = .ok (.putfield idx, 3)) (hF : cx_FP M.1.cls idx ci k ty false) (hG : G a = some (.inr (ci, fs))) (hl0 : k < fs.length) (hn : narrow ty v = v) (hf : fits ty v = true) (kk : WP M d b0 Po Px (va_up G a (some (.inr (ci, fs.set k v)))) bc bs (pc + 3) lv st) : WP M d b0 Po Px G bc bs pc lv (v :: .ref a :: st) := by
  intro p l e s m args below meth c H locs cells slots mc ms D ls hB hK hS hR hl h1 h2
  obtain ⟨⟨C, T, N⟩, ty0, g1, g2, g3, g4, g5, g6, g7, g8, g9⟩ := hF
  obtain ⟨hb0, hat⟩ := hR a _ hG
  have hts := hB.2.2.2.2.2.2.1
  have hap := va_apart (own := M.1.cls) hts g3 ty0 g5 g6 hK.1 g1
  obtain ⟨r, hr0, cell, q1, q2, q3, q4⟩ := hat
  have hr : r = (C, T, N) := Option.some.inj (hr0.symm.trans g1)
  subst hr
  obtain ⟨hSl, hfc, kC, hkC, hkind⟩ := hK.1.1 ci _ g1
  obtain ⟨cf, kf, fi, f, hi, hsl⟩ := hSl k g2
  have hlay := hts _ (g3 _ (u_in_lay g2))
  unfold u_lay at hlay
  rw [if_neg (by rw [g8]; decide)] at hlay
  have hst := (u_facts hfc hkC (u_lays hts g3 g2) hi).1
  have h6 := u_store hfc hkC hkind hlay hi (by rw [g5 k g2, g7]) hn hf
  refine W.putK hB.1 hB.2.1 (f := f) ⟨hB.2.2.2.2.1, hts _ g4, ⟨_, _, _, hi⟩, hst⟩ (by rw [q2]; exact h6) q1 q3 (by rw [hsl]; exact k2_hasslot (q4 k g2)) rfl rfl hd fun H1 e1 e2 e3 => ?_
  rw [hsl] at e1 ⊢
  exact kk p l e s m args below meth c H1 _ cells slots mc ms D ls hB hK (hS.put e2 e3 hb0) (hR.up hb0 ⟨_, g1, t_OB.to (V := updV (vp_V fs) k v) ⟨_, e1, q2, q3, t_set q4 hap g2 v⟩ (fun j _ => vp_updV_set hl0 v j)⟩ (fun q hq _ => e3 q hq)) hl h1 h2
theorem r_putF {idx a ci : Nat} {fs : List Value} {v : Value} (k : Nat) (ty : FieldType) (hd : decode M.2.1 pc = .ok (.putfield idx, 3)) (hF : cx_FP M.1.cls idx ci k ty true) (hin : M.1.name = "<init>") (hG : G a = some (.inr (ci, fs))) (hl0 : k < fs.length) (hn : narrow ty v = v) (hf : fits ty v = true) (kk : WP M d b0 Po Px (va_up G a (some (.inr (ci, fs.set k v)))) bc bs (pc + 3) lv st) : WP M d b0 Po Px G bc bs pc lv (v :: .ref a :: st) := by
  intro p l e s m args below meth c H locs cells slots mc ms D ls hB hK hS hR hl h1 h2
  obtain ⟨⟨C, T, N⟩, ty0, g1, g2, g3, g4, g5, g6, g7, g8, g9⟩ := hF
  obtain ⟨hb0, hat⟩ := hR a _ hG
  have hts := hB.2.2.2.2.2.2.1
  have hown := hB.2.2.2.2.1
  have hap := va_apart (own := M.1.cls) hts g3 ty0 g5 g6 hK.1 g1
  obtain ⟨r, hr0, cell, q1, q2, q3, q4⟩ := hat
  have hr : r = (C, T, N) := Option.some.inj (hr0.symm.trans g1)
  subst hr
  obtain ⟨hSl, hfc, kC, hkC, hkind⟩ := hK.1.1 ci _ g1
  obtain ⟨cf, kf, fi, f, hi, hsl⟩ := hSl k g2
  have hlay := hts _ (g3 _ (u_in_lay g2))
  unfold u_lay at hlay
  rw [if_pos g8] at hlay
  have hst := (u_facts hfc hkC (u_lays hts g3 g2) hi).1
  have hcf : m.cls = cf := by
    obtain ⟨_, _, c', _, _, _, -, -, hf', -, -, -, hown2, -⟩ := Cond.laysFinal_spec hlay
    have e1 : c' = cf := by have := hi.symm.trans hf'; simp at this; exact this.1.symm
    rw [g9] at hown2
    rw [← e1]; exact Option.some.inj (hown.symm.trans hown2)
  have h6 := u_fits hfc hkC hkind (Or.inr hlay) hi (by rw [g5 k g2, g7]) hn hf
  refine W.putFinK hB.1 hB.2.1 hown (hts _ g4) hi hst hcf (by rw [hB.2.2.2.2.2.2.2.2.1]; exact hin) (by rw [q2]; exact h6) q1 q3 (by rw [hsl]; exact k2_hasslot (q4 k g2)) rfl rfl hd fun H1 e1 e2 e3 => ?_
  rw [hsl] at e1 ⊢
  exact kk p l e s m args below meth c H1 _ cells slots mc ms D ls hB hK (hS.put e2 e3 hb0) (hR.up hb0 ⟨_, g1, t_OB.to (V := updV (vp_V fs) k v) ⟨_, e1, q2, q3, t_set q4 hap g2 v⟩ (fun j _ => vp_updV_set hl0 v j)⟩ (fun q hq _ => e3 q hq)) hl h1 h2
theorem r_new {idx ci : Nat} (fs : List Value) (bc' bs' : Nat) (hd : decode M.2.1 pc = .ok (.new idx, 3)) (hN : cx_NW M.1.cls idx ci fs) (hbc : bc' + 1 ≤ bc) (hbs : bs' + fs.length ≤ bs) (kk : ∀ q : Nat, G q = none → b0 ≤ q → WP M d b0 Po Px (va_up G q (some (.inr (ci, fs)))) bc' bs' (pc + 3) lv (.ref q :: st)) : WP M d b0 Po Px G bc bs pc lv st := by
  intro p l e s m args below meth c H locs cells slots mc ms D ls hB hK hS hR hl h1 h2
  obtain ⟨⟨C, T, N⟩, ty, g1, g3, g5, g6, g7, g8, g9, g10⟩ := hN
  have hts := hB.2.2.2.2.2.2.1
  have hKn := hK.1.1 ci _ g1
  have g10' : fs.length = N := g10
  refine W.newcK (n := N) hB.1 hB.2.1 hB.2.2.2.2.1 (hts _ g6) (hts _ g7) (hts _ g8) rfl hd (by show cells + 1 ≤ mc; omega) (by show slots + N ≤ ms; omega) hKn.2.1 rfl fun H1 kC hkC e1 z1 o1 => ?_
  have hb : b0 ≤ H.size := Nat.le_trans hK.2.1 hS.1
  exact kk H.size hR.fresh hb p l e s m args below meth c H1 locs (cells + 1) (slots + N) mc ms D ls hB hK ⟨Nat.le_trans hS.1 (by omega), fun x h3 h4 => (o1 x (Nat.lt_of_lt_of_le h3 hS.1)).trans (hS.2.1 x h3 h4), hS.2.2⟩ (hR.up hb ⟨_, g1, (u_born ty hts g3 hKn hkC e1 g5).to g9⟩ (fun q _ hq => o1 q hq)) hl (by omega) (by omega)
theorem r_newa {atype : ArrayType} {n : Int32} (ty : FieldType) (N : Nat) (a0 : vp_A) (bc' bs' : Nat) (hd : decode M.2.1 pc = .ok (.newarray atype, 2)) (hw : Cond.arrayClass (newarray.typeOf atype) ∈ cx_tb) (hty : newarray.typeOf atype = ty) (hRA : ∀ (U : State) (cA : ClassId), U.vm.findClass ("[" ++ ty.toString) = some cA → va_RA U cA ty) (ha : ∀ cA : ClassId, vp_cell cA a0 = arrV cA N (fun _ => defaultValue ty)) (hn : ¬ n < 0) (hN : n.toNatClampNeg = N) (hby : N * componentBytes ty ≤ 536870912) (hbc : bc' + 1 ≤ bc) (hbs : bs' + N ≤ bs) (kk : ∀ q : Nat, G q = none → b0 ≤ q → WP M d b0 Po Px (va_up G q (some (.inl (ty, a0)))) bc' bs' (pc + 2) lv (.ref q :: st)) : WP M d b0 Po Px G bc bs pc lv (.int n :: st) := by
  intro p l e s m args below meth c H locs cells slots mc ms D ls hB hK hS hR hl h1 h2
  subst hty
  have hts := hB.2.2.2.2.2.2.1
  refine va_newaK hB.1 hB.2.1 (hts _ hw) rfl hd rfl hn hN hby (by show cells + 1 ≤ mc; omega) (by show slots + N ≤ ms; omega) rfl fun H1 cA e1 z1 o1 hAr hNm => ?_
  have hb : b0 ≤ H.size := Nat.le_trans hK.2.1 hS.1
  exact kk H.size hR.fresh hb p l e s m args below meth c H1 locs (cells + 1) (slots + N) mc ms D ls hB hK ⟨Nat.le_trans hS.1 (by omega), fun x h3 h4 => (o1 x (Nat.lt_of_lt_of_le h3 hS.1)).trans (hS.2.1 x h3 h4), hS.2.2⟩ (hR.up hb ⟨cA, e1.trans (congrArg some (ha cA).symm), hAr, hRA s cA hNm⟩ (fun q _ hq => o1 q hq)) hl (by omega) (by omega)
theorem r_newq {idx : Nat} {n : Int32} (C : String) (N : Nat) (bc' bs' : Nat) (hd : decode M.2.1 pc = .ok (.anewarray idx, 3)) (hw : Cond.classLink M.1.cls idx C ∈ cx_tb) (hC : C ∈ cx_aov) (hn : ¬ n < 0) (hN : n.toNatClampNeg = N) (hby : N * 4 ≤ 536870912) (hbc : bc' + 1 ≤ bc) (hbs : bs' + N ≤ bs) (kk : ∀ q : Nat, G q = none → b0 ≤ q → WP M d b0 Po Px (va_up G q (some (.inl (.object C, N, .inr (.inr (.inr (.inr (fun _ => none)))))))) bc' bs' (pc + 3) lv (.ref q :: st)) : WP M d b0 Po Px G bc bs pc lv (.int n :: st) := by
  intro p l e s m args below meth c H locs cells slots mc ms D ls hB hK hS hR hl h1 h2
  subst hN
  have hts := hB.2.2.2.2.2.2.1
  have hov := hK.2.2.1.2.2.2.2.1 C hC
  refine W.anew hB.1 hB.2.1 hB.2.2.2.2.1 (hts _ hw) (va_AO.use hov) rfl hd rfl hn hby (by show cells + 1 ≤ mc; omega) (by show slots + _ ≤ ms; omega) fun cA kA comp f1 f2 f3 f4 => ?_
  generalize hH1 : H.push ({ cls := cA, slots := Array.replicate n.toNatClampNeg .null, vm := .none } : Cell) = H1
  have z1 : H1.size = H.size + 1 := by rw [← hH1, Array.size_push]
  have e1 : H1[H.size]? = some (arrV cA n.toNatClampNeg (fun _ => .null)) := by rw [← hH1, Array.getElem?_push_size, ← arrV_new]
  have o1 : ∀ q : Nat, q < H.size → H1[q]? = H[q]? := fun q hq => by rw [← hH1, Array.getElem?_push, if_neg (Nat.ne_of_lt hq)]
  have hAr : ArrOfT s cA (.object C) := fun N z => ⟨(fun k h => by cases h), kA, f2, comp, f3⟩
  have hb : b0 ≤ H.size := Nat.le_trans hK.2.1 hS.1
  exact kk H.size hR.fresh hb p l e s m args below meth c H1 locs (cells + 1) (slots + n.toNatClampNeg) mc ms D ls hB hK ⟨Nat.le_trans hS.1 (by omega), fun x h3 h4 => (o1 x (Nat.lt_of_lt_of_le h3 hS.1)).trans (hS.2.1 x h3 h4), hS.2.2⟩ (hR.up hb ⟨cA, by rw [vp_cell_q]; exact e1, hAr, kA, comp, f2, f3, f4, f1⟩ (fun q _ hq => o1 q hq)) hl (by omega) (by omega)
end CXH
section CXA
variable {M : MD} {d b0 : Nat} {Po : Option Value → GH → Prop} {Px : String → GH → Prop} {G : GH} {bc bs pc : Nat} {lv : List (Nat × Value)} {st : List Value}
theorem r_iald {a n : Nat} {f : Nat → Int32} {i : Int32} (hd : decode M.2.1 pc = .ok (.iaload, 1)) (hG : G a = some (.inl (.int, n, .inl f))) (hin : vp_in i n) (kk : WP M d b0 Po Px G bc bs (pc + 1) lv (.int (f i.toNatClampNeg) :: st)) : WP M d b0 Po Px G bc bs pc lv (.int i :: .ref a :: st) := by
  intro p l e s m args below meth c H locs cells slots mc ms D ls hB hK hS hR hl h1 h2
  obtain ⟨-, hat⟩ := hR a _ hG
  obtain ⟨cA, hP, g1, g2⟩ := cx_Aof hat
  exact va_iald hB.1 hB.2.1 (cx_Kt hK.1 g1 g2) hP 0 0 rfl rfl hin hd (kk p l e s m args below meth c H locs cells slots mc ms D ls hB hK hS hR hl h1 h2)
theorem r_cald {a n : Nat} {f : Nat → Int32} {i : Int32} (hd : decode M.2.1 pc = .ok (.caload, 1)) (hG : G a = some (.inl (.char, n, .inl f))) (hin : vp_in i n) (kk : WP M d b0 Po Px G bc bs (pc + 1) lv (.int (f i.toNatClampNeg) :: st)) : WP M d b0 Po Px G bc bs pc lv (.int i :: .ref a :: st) := by
  intro p l e s m args below meth c H locs cells slots mc ms D ls hB hK hS hR hl h1 h2
  obtain ⟨-, hat⟩ := hR a _ hG
  obtain ⟨cA, hP, g1, g2⟩ := cx_Aof hat
  exact va_cald hB.1 hB.2.1 (cx_Kt hK.1 g1 g2) hP 0 0 rfl rfl hin hd (kk p l e s m args below meth c H locs cells slots mc ms D ls hB hK hS hR hl h1 h2)
theorem r_zald {a n : Nat} {f : Nat → Int32} {i : Int32} (hd : decode M.2.1 pc = .ok (.baload, 1)) (hG : G a = some (.inl (.boolean, n, .inl f))) (hin : vp_in i n) (kk : WP M d b0 Po Px G bc bs (pc + 1) lv (.int (f i.toNatClampNeg) :: st)) : WP M d b0 Po Px G bc bs pc lv (.int i :: .ref a :: st) := by
  intro p l e s m args below meth c H locs cells slots mc ms D ls hB hK hS hR hl h1 h2
  obtain ⟨-, hat⟩ := hR a _ hG
  obtain ⟨cA, hP, g1, g2⟩ := cx_Aof hat
  exact va_zald hB.1 hB.2.1 (cx_Kt hK.1 g1 g2) hP 0 0 rfl rfl hin hd (kk p l e s m args below meth c H locs cells slots mc ms D ls hB hK hS hR hl h1 h2)
theorem r_lald {a n : Nat} {f : Nat → Int64} {i : Int32} (hd : decode M.2.1 pc = .ok (.laload, 1)) (hG : G a = some (.inl (.long, n, .inr (.inl f)))) (hin : vp_in i n) (kk : WP M d b0 Po Px G bc bs (pc + 1) lv (.long (f i.toNatClampNeg) :: st)) : WP M d b0 Po Px G bc bs pc lv (.int i :: .ref a :: st) := by
  intro p l e s m args below meth c H locs cells slots mc ms D ls hB hK hS hR hl h1 h2
  obtain ⟨-, hat⟩ := hR a _ hG
  obtain ⟨cA, hP, g1, g2⟩ := cx_Aof hat
  exact va_lald hB.1 hB.2.1 (cx_Kt hK.1 g1 g2) hP 0 0 rfl rfl hin hd (kk p l e s m args below meth c H locs cells slots mc ms D ls hB hK hS hR hl h1 h2)
theorem r_aald {a n : Nat} {C : String} {f : Nat → Option Nat} {i : Int32} (hd : decode M.2.1 pc = .ok (.aaload, 1)) (hG : G a = some (.inl (.object C, n, .inr (.inr (.inr (.inr f)))))) (hin : vp_in i n) (kk : WP M d b0 Po Px G bc bs (pc + 1) lv (va_rf (f i.toNatClampNeg) :: st)) : WP M d b0 Po Px G bc bs pc lv (.int i :: .ref a :: st) := by
  intro p l e s m args below meth c H locs cells slots mc ms D ls hB hK hS hR hl h1 h2
  obtain ⟨-, hat⟩ := hR a _ hG
  obtain ⟨cA, hP, g1, g2⟩ := cx_Aof hat
  exact va_aldq (C := C) hB.1 hB.2.1 (cx_Kt hK.1 g1 g2) hP 0 0 rfl rfl hin hd (kk p l e s m args below meth c H locs cells slots mc ms D ls hB hK hS hR hl h1 h2)
theorem r_alen {a : Nat} {ty : FieldType} {x : vp_A} {v : Int32} (hd : decode M.2.1 pc = .ok (.arraylength, 1)) (hG : G a = some (.inl (ty, x))) (hv : Int32.ofNat x.1 = v) (kk : WP M d b0 Po Px G bc bs (pc + 1) lv (.int v :: st)) : WP M d b0 Po Px G bc bs pc lv (.ref a :: st) := by
  intro p l e s m args below meth c H locs cells slots mc ms D ls hB hK hS hR hl h1 h2
  obtain ⟨-, hat⟩ := hR a _ hG
  obtain ⟨cA, hP, g1, g2⟩ := cx_Aof hat
  exact va_alen hB.1 hB.2.1 (cx_Kt hK.1 g1 g2) hP 0 0 rfl rfl hv hd (kk p l e s m args below meth c H locs cells slots mc ms D ls hB hK hS hR hl h1 h2)
theorem cx_updV {cA : ClassId} {n k : Nat} {f : Nat → Int32} {x : Int32} : (vp_cell cA (n, .inl f)).setSlot k (.int x) = vp_cell cA (n, .inl (upd f k x)) := by
  rw [vp_cell_i, vp_cell_i, arrV_store]
  congr 1
  funext q
  unfold updV upd
  by_cases hq : q = k
  · rw [if_pos hq, if_pos hq]
  · rw [if_neg hq, if_neg hq]
theorem cx_updL {cA : ClassId} {n k : Nat} {f : Nat → Int64} {x : Int64} : (vp_cell cA (n, .inr (.inl f))).setSlot k (.long x) = vp_cell cA (n, .inr (.inl (vp_updL f k x))) := by
  rw [vp_cell_l, vp_cell_l, arrV_store]
  congr 1
  funext q
  unfold updV vp_updL
  by_cases hq : q = k
  · rw [if_pos hq, if_pos hq]
  · rw [if_neg hq, if_neg hq]
theorem cx_updR {cA : ClassId} {n k : Nat} {f : Nat → Option Nat} {v : Nat} : (vp_cell cA (n, .inr (.inr (.inr (.inr f))))).setSlot k (.ref v) = vp_cell cA (n, .inr (.inr (.inr (.inr (va_up f k (some v)))))) := by
  rw [vp_cell_q, vp_cell_q, arrV_store]
  congr 1
  funext q
  unfold updV va_up
  by_cases hq : q = k
  · rw [if_pos hq, if_pos hq]; rfl
  · rw [if_neg hq, if_neg hq]
theorem r_iast {a n : Nat} {f : Nat → Int32} {i : Int32} {x : Int32} (hd : decode M.2.1 pc = .ok (.iastore, 1)) (hG : G a = some (.inl (.int, n, .inl f))) (hin : vp_in i n) (kk : WP M d b0 Po Px (va_up G a (some (.inl (.int, n, .inl (upd f i.toNatClampNeg x))))) bc bs (pc + 1) lv st) : WP M d b0 Po Px G bc bs pc lv (.int x :: .int i :: .ref a :: st) := by
  intro p l e s m args below meth c H locs cells slots mc ms D ls hB hK hS hR hl h1 h2
  obtain ⟨hb0, cA, g0, g1, g2⟩ := hR a _ hG
  refine W.iast hB.1 hB.2.1 g0 (g1 n _) (fun q => by cases q) (by show ¬ (i < 0 ∨ (arrV _ _ _).slots.size ≤ _); rw [arrV_size]; exact hin) rfl rfl hd fun H1 e1 e2 e3 => ?_
  exact kk p l e s m args below meth c H1 _ cells slots mc ms D ls hB hK (hS.put e2 e3 hb0) (hR.up hb0 ⟨cA, e1.trans (congrArg some cx_updV), g1, g2⟩ (fun q hq _ => e3 q hq)) hl h1 h2
theorem r_cast {a n : Nat} {f : Nat → Int32} {i : Int32} {x : Int32} (hd : decode M.2.1 pc = .ok (.castore, 1)) (hG : G a = some (.inl (.char, n, .inl f))) (hin : vp_in i n) (hx9 : narrow .char (.int x) = .int x) (kk : WP M d b0 Po Px (va_up G a (some (.inl (.char, n, .inl (upd f i.toNatClampNeg x))))) bc bs (pc + 1) lv st) : WP M d b0 Po Px G bc bs pc lv (.int x :: .int i :: .ref a :: st) := by
  intro p l e s m args below meth c H locs cells slots mc ms D ls hB hK hS hR hl h1 h2
  obtain ⟨hb0, cA, g0, g1, g2⟩ := hR a _ hG
  refine W.cast hB.1 hB.2.1 g0 (g1 n _) (fun q => by cases q) (by show ¬ (i < 0 ∨ (arrV _ _ _).slots.size ≤ _); rw [arrV_size]; exact hin) rfl rfl hd fun H1 e1 e2 e3 => ?_
  rw [hx9] at e1
  exact kk p l e s m args below meth c H1 _ cells slots mc ms D ls hB hK (hS.put e2 e3 hb0) (hR.up hb0 ⟨cA, e1.trans (congrArg some cx_updV), g1, g2⟩ (fun q hq _ => e3 q hq)) hl h1 h2
theorem r_zast {a n : Nat} {f : Nat → Int32} {i : Int32} {x : Int32} (hd : decode M.2.1 pc = .ok (.bastore, 1)) (hG : G a = some (.inl (.boolean, n, .inl f))) (hin : vp_in i n) (hx9 : narrow .boolean (.int x) = .int x) (kk : WP M d b0 Po Px (va_up G a (some (.inl (.boolean, n, .inl (upd f i.toNatClampNeg x))))) bc bs (pc + 1) lv st) : WP M d b0 Po Px G bc bs pc lv (.int x :: .int i :: .ref a :: st) := by
  intro p l e s m args below meth c H locs cells slots mc ms D ls hB hK hS hR hl h1 h2
  obtain ⟨hb0, cA, g0, g1, g2⟩ := hR a _ hG
  refine W.zast hB.1 hB.2.1 g0 (g1 n _) (fun q => by cases q) (by show ¬ (i < 0 ∨ (arrV _ _ _).slots.size ≤ _); rw [arrV_size]; exact hin) rfl rfl hd fun H1 e1 e2 e3 => ?_
  rw [hx9] at e1
  exact kk p l e s m args below meth c H1 _ cells slots mc ms D ls hB hK (hS.put e2 e3 hb0) (hR.up hb0 ⟨cA, e1.trans (congrArg some cx_updV), g1, g2⟩ (fun q hq _ => e3 q hq)) hl h1 h2
theorem r_last {a n : Nat} {f : Nat → Int64} {i : Int32} {x : Int64} (hd : decode M.2.1 pc = .ok (.lastore, 1)) (hG : G a = some (.inl (.long, n, .inr (.inl f)))) (hin : vp_in i n) (kk : WP M d b0 Po Px (va_up G a (some (.inl (.long, n, .inr (.inl (vp_updL f i.toNatClampNeg x)))))) bc bs (pc + 1) lv st) : WP M d b0 Po Px G bc bs pc lv (.long x :: .int i :: .ref a :: st) := by
  intro p l e s m args below meth c H locs cells slots mc ms D ls hB hK hS hR hl h1 h2
  obtain ⟨hb0, cA, g0, g1, g2⟩ := hR a _ hG
  refine W.last hB.1 hB.2.1 g0 (g1 n _) (fun q => by cases q) (by show ¬ (i < 0 ∨ (arrV _ _ _).slots.size ≤ _); rw [arrV_size]; exact hin) rfl rfl hd fun H1 e1 e2 e3 => ?_
  exact kk p l e s m args below meth c H1 _ cells slots mc ms D ls hB hK (hS.put e2 e3 hb0) (hR.up hb0 ⟨cA, e1.trans (congrArg some cx_updL), g1, g2⟩ (fun q hq _ => e3 q hq)) hl h1 h2
theorem r_aast {a n v ci : Nat} {vs : List Value} {f : Nat → Option Nat} {i : Int32} (C : String) (hd : decode M.2.1 pc = .ok (.aastore, 1)) (hG : G a = some (.inl (.object C, n, .inr (.inr (.inr (.inr f)))))) (hv : G v = some (.inr (ci, vs))) (hc : (vwCl[ci]?).map (fun r => r.1) = some C) (hin : vp_in i n) (kk : WP M d b0 Po Px (va_up G a (some (.inl (.object C, n, .inr (.inr (.inr (.inr (va_up f i.toNatClampNeg (some v))))))))) bc bs (pc + 1) lv st) : WP M d b0 Po Px G bc bs pc lv (.ref v :: .int i :: .ref a :: st) := by
  intro p l e s m args below meth c H locs cells slots mc ms D ls hB hK hS hR hl h1 h2
  obtain ⟨hb0, cA, g0, g1, g2⟩ := hR a _ hG
  obtain ⟨-, r', hr', cellV, y1, y2, y3, -⟩ := hR v _ hv
  have hrC : r'.1 = C := by
    rw [hr'] at hc
    exact Option.some.inj hc
  have hlt : i.toNatClampNeg < n := Nat.not_le.mp fun q => hin (Or.inr q)
  have h0 : ¬ i < 0 := fun q => hin (Or.inl q)
  have hcls := (hK.1.1 ci r' hr').2
  obtain ⟨kA, comp, k1, k2, k3, k4⟩ := g2
  have hcomp : comp = D.1 ci := Option.some.inj (k3.symm.trans (by rw [← hrC]; exact hcls.1))
  subst hcomp
  obtain ⟨kC, hkC, -⟩ := hcls.2
  refine W.aast hB.1 hB.2.1 g0 (fun q h => by cases h) (fun h => by cases h) k1 k2 rfl hkC ⟨h0, by show _ < (arrV _ _ _).slots.size; rw [arrV_size]; exact hlt⟩ y1 (fun q h => by rw [y3] at h; cases h) (by rw [y2]; exact hkC) (by rw [y2]; exact va_assign hcls) rfl rfl hd fun H1 e1 e2 e3 => ?_
  exact kk p l e s m args below meth c H1 _ cells slots mc ms D ls hB hK (hS.put e2 e3 hb0) (hR.up hb0 ⟨cA, e1.trans (congrArg some cx_updR), g1, kA, _, k1, k2, k3, k4⟩ (fun q hq _ => e3 q hq)) hl h1 h2
end CXA
end
section
/-! ends, throws, catches and calls of the frame -/
section CXE
variable {M : MD} {d b0 : Nat} {Po : Option Value → GH → Prop} {Px : String → GH → Prop} {G : GH} {bc bs pc : Nat} {lv : List (Nat × Value)} {st : List Value}
theorem r_ireti {v : Int32} (hd : decode M.2.1 pc = .ok (.ireturn, 1)) (hr : M.2.2.2.1 = some .int) (k : Po (some (.int v)) G) : WP M d b0 Po Px G bc bs pc lv [.int v] := by
  intro p l e s m args below meth c H locs cells slots mc ms D ls hB hK hS hR hl h1 h2
  refine vx_ret (W.widen (k := mc) (n := ms) (by omega) (by omega) ?_)
  exact W.iret hB.1 hB.2.1 (hB.2.2.2.1.trans hr) (fun t ht hW => ⟨_, G, rfl, k, by rw [ht]; exact hR.moved hW.alike, hS.F ht⟩) hS.2.2 hd hB.2.2.2.2.2.1
theorem r_ret {v : Int32} (ty : FieldType) (hd : decode M.2.1 pc = .ok (.ireturn, 1)) (hr : M.2.2.2.1 = some ty) (hn : narrow ty (.int v) = .int v) (k : Po (some (.int v)) G) : WP M d b0 Po Px G bc bs pc lv [.int v] := by
  intro p l e s m args below meth c H locs cells slots mc ms D ls hB hK hS hR hl h1 h2
  refine vx_ret (W.widen (k := mc) (n := ms) (by omega) (by omega) ?_)
  exact W.zret hB.1 hB.2.1 (hB.2.2.2.1.trans hr) hn (fun t ht hW => ⟨_, G, rfl, k, by rw [ht]; exact hR.moved hW.alike, hS.F ht⟩) hS.2.2 hd hB.2.2.2.2.2.1
theorem r_vret (hd : decode M.2.1 pc = .ok (.return_, 1)) (hr : M.2.2.2.1 = none) (k : Po none G) : WP M d b0 Po Px G bc bs pc lv [] := by
  intro p l e s m args below meth c H locs cells slots mc ms D ls hB hK hS hR hl h1 h2
  refine vx_ret (W.widen (k := mc) (n := ms) (by omega) (by omega) ?_)
  exact W.vret hB.1 hB.2.1 (hB.2.2.2.1.trans hr) (fun t ht hW => ⟨_, G, rfl, k, by rw [ht]; exact hR.moved hW.alike, hS.F ht⟩) hS.2.2 hd hB.2.2.2.2.2.1
theorem r_aret {v : Value} {rt : FieldType} (hd : decode M.2.1 pc = .ok (.areturn, 1)) (hr : M.2.2.2.1 = some rt) (hrt : (∃ n, rt = .object n) ∨ ∃ t, rt = .array t) (hv : v = .null ∨ ∃ a, v = .ref a) (k : Po (some v) G) : WP M d b0 Po Px G bc bs pc lv [v] := by
  intro p l e s m args below meth c H locs cells slots mc ms D ls hB hK hS hR hl h1 h2
  refine vx_ret (W.widen (k := mc) (n := ms) (by omega) (by omega) ?_)
  exact W.aret hB.1 hB.2.1 (hB.2.2.2.1.trans hr) hrt hv (fun t ht hW => ⟨_, G, rfl, k, by rw [ht]; exact hR.moved hW.alike, hS.F ht⟩) hS.2.2 hd hB.2.2.2.2.2.1
/-- Object's own constructor -/
theorem r_obj {idx a : Nat} (hd : decode M.2.1 pc = .ok (.invokespecial idx, 3)) (hw : Cond.methodLink M.1.cls idx objectInit ∈ cx_tb ∧ Cond.instanceMethod objectInit ∈ cx_tb ∧ Cond.code objectInit ⟨#[0xb1]⟩ 1 none ∈ cx_tb) (hd1 : 1 ≤ d) (hst : (st.map fun v => v.category).sum ≤ 8) (k : WP M d b0 Po Px G bc bs (pc + 3) lv st) : WP M d b0 Po Px G bc bs pc lv (.ref a :: st) := by
  intro p l e s m args below meth c H locs cells slots mc ms D ls hB hK hS hR hl h1 h2
  have hts := hB.2.2.2.2.2.2.1
  refine W.objInit hB.1 hB.2.1 hB.2.2.2.2.1 (hts _ hw.1) (hts _ hw.2.1) (hts _ hw.2.2) rfl (by rw [hB.2.2.1]; exact hl.1) rfl hd (by show 1 ≤ d; exact hd1) ?_ ?_
  · show 2 * (F0 m pc ls (.ref a :: st)).monitorRoom + (st.map fun v => v.category).sum + 12 ≤ 40 * d
    have h0 : 2 * (F0 m pc ls (.ref a :: st)).monitorRoom + (st.map fun v => v.category).sum ≤ 8 := lv_room hst
    omega
  · exact k p l e s m args below meth c H locs cells slots mc ms D ls hB hK hS hR hl h1 h2
/-- 'throw new E("text")', at the road's last five instructions; the method has no table -/
theorem r_throw {ik is ic : Nat} (E tx : String) (d0 : decode M.2.1 pc = .ok (.new ik, 3)) (d3 : decode M.2.1 (pc + 3) = .ok (.dup, 1)) (d4 : decode M.2.1 (pc + 4) = .ok (.ldc is, 2)) (d6 : decode M.2.1 (pc + 6) = .ok (.invokespecial ic, 3)) (d9 : decode M.2.1 (pc + 9) = .ok (.athrow, 1))
    (hh : M.2.2.2.2 = []) (hE : E ∈ cx_exc) (hk : Cond.classLink M.1.cls ik E ∈ cx_tb) (hini : Cond.initialized E ∈ cx_tb) (hs : (M.1.cls, is, tx) ∈ cx_strs)
    (hat : ∀ w ∈ (vx_atS M.1.cls ic E ["java/lang/RuntimeException", "java/lang/Exception"]).filter goodWord, w ∈ cx_tb) (hng : ∀ w ∈ (vx_atS M.1.cls ic E ["java/lang/RuntimeException", "java/lang/Exception"]).filter (fun w => !goodWord w), w = Cond.castable E E ∨ w ∈ cx_dcl.map Cond.declares)
    (hfit : Bundle.fit E = true) (hd6 : 6 ≤ d) (hbc : 1 ≤ bc) (hbs : 6 ≤ bs) (hst : (st.map fun v => v.category).sum ≤ 8) (k : Px E G) : WP M d b0 Po Px G bc bs pc lv st := by
  intro p l e s m args below meth c H locs cells slots mc ms D ls hB hK hS hR hl h1 h2
  have hts := hB.2.2.2.2.2.2.1
  obtain ⟨sa, hsa⟩ := hK.2.2.1.2.2.2.2.2 _ hs
  have hcast := hK.2.2.1.2.2.1 E hE
  have hdc : ∀ w ∈ cx_dcl.map Cond.declares, w.before args s = true := fun w hw => by
    obtain ⟨y, hy, rfl⟩ := List.mem_map.mp hw
    exact (hK.2.2.1.1 y hy).use rfl
  have hat2 : ∀ w ∈ vx_atS M.1.cls ic E ["java/lang/RuntimeException", "java/lang/Exception"], w.before args s = true := vx_hat (B := Cond.castable E E :: cx_dcl.map Cond.declares) (fun w hw => hts w (hat w hw)) (fun w hw => by
    rcases hng w hw with h | h
    · rw [h]; exact List.mem_cons_self
    · exact List.mem_cons_of_mem _ h) (fun w hw => by
    rcases List.mem_cons.mp hw with h | h
    · rw [h]; exact hcast.use rfl
    · exact hdc w h)
  refine vx_throwS (ik := ik) (is := is) (ic := ic) (sa := sa) (cls := E) (text := tx) (names := ["java/lang/RuntimeException", "java/lang/Exception"]) (A := fun q => b0 ≤ q) (own := M.1.cls) hB.1 hB.2.1 hB.2.2.2.2.2.2.2.2.2 hB.2.2.2.2.1 hfit (by decide +kernel) (hts _ hk) (hts _ hini) hsa hat2 ?_ hK.2.2.2.1 hK.2.2.2.2 hS (by rw [hB.2.2.1]; exact hl.1) d0 d3 d4 d6 d9 ?_ (by show 2 + 3 < d; omega) (by show _ + (13 * (2 + 1) + 43) ≤ 40 * d; omega) (by show cells + 1 ≤ mc; omega) (by show slots + 6 ≤ ms; omega) hB.2.2.2.2.2.1 ?_ hS.2.2 (by omega) (by omega)
  · intro w hw
    rcases List.mem_cons.mp hw with h | hw
    · rw [h]; rfl
    rcases List.mem_cons.mp hw with h | hw
    · rw [h]; rfl
    by_cases g : goodWord w = true
    · unfold vx_ot; rw [g]; simp
    · rcases hng w (List.mem_filter.mpr ⟨hw, by cases hg : goodWord w; rfl; exact absurd hg g⟩) with h9 | h9
      · rw [h9]; rfl
      · obtain ⟨y, hy, rfl⟩ := List.mem_map.mp h9
        rfl
  · rw [hB.2.2.2.2.2.2.2.1, hh]
    intro x hx; cases hx
  · intro t hal hz ho
    refine ⟨G, k, fun q x hq => ?_, Nat.le_trans hS.1 hz, fun q h3 h4 => ?_⟩
    · obtain ⟨g1, g2⟩ := hR q x hq
      exact ⟨g1, (g2.kept (ho q g2.lt)).moved hal⟩
    · rw [ho q (Nat.lt_of_lt_of_le h3 hS.1)]
      exact hS.2.1 q h3 h4
/-- caught by a row of this method's table -/
theorem r_catch {E : String} (pre : List ExceptionTableEntry) (x : ExceptionTableEntry) (suf : List ExceptionTableEntry) (hsplit : tableOf M.2.2.2.2 = pre ++ x :: suf) (hpass : ∀ z ∈ pre, z.catchType ≠ 0 ∧ ∃ nm : String, Cond.classLink M.1.cls z.catchType nm ∈ cx_tb ∧ (E, nm) ∈ cx_nc) (hx : covers x pc = true) (h0 : x.catchType ≠ 0) (hlink : Cond.classLink M.1.cls x.catchType E ∈ cx_tb) (hE : E ∈ cx_exc) (kk : ∀ q : Nat, WP M d b0 Po Px G bc bs x.handlerPc lv [.ref q]) : WX M d b0 Po Px G bc bs pc lv E := by
  intro p l e s m args below meth c H locs cells slots mc ms D ls rest q ce hB hK hS hR hl h1 h2 h3 h4 h5
  have hts := hB.2.2.2.2.2.2.1
  exact vx_catch (name := E) hB.2.2.2.2.1 pre x suf (by rw [hB.2.2.2.2.2.2.2.1]; exact hsplit) (fun z hz => Or.inr (by
    obtain ⟨g1, nm, g2, g3⟩ := hpass z hz
    exact ⟨g1, nm, hts _ g2, hK.2.2.1.2.2.2.1 _ g3⟩)) hx h0 (hts _ hlink) ((hK.2.2.1.2.2.1 E hE).use rfl) h3 h4 h5 (kk q p l e s m args below meth c H locs cells slots mc ms D ls hB hK hS hR hl h1 h2)
/-- no throw is told -/
theorem WX.no {E : String} (h : False) : WX M d b0 Po Px G bc bs pc lv E := h.elim
/-- what comes back from a call -/
theorem cx_back {Po' : Option Value → GH → Prop} {Px' : String → GH → Prop} {mc' ms' bc' bs' : Nat} {st0 : List Value}
    (h : ∀ (p : Program) (l : Launch) (e : Env) (s : State) (m : MethodId) (args : Array Value) (below : List Frame) (meth : Method) (c : Code) (H : Heap) (locs : List Loc) (cells slots mc ms : Nat) (D : va_G) (ls : Array Slot), cx_B M p l s m args meth c → cx_K D b0 s → va_S (fun q => b0 ≤ q) s.heap H locs → cx_R D b0 s G H → lv_has ls M.2.2.1 lv → cells + mc' ≤ mc → slots + ms' ≤ ms →
      ∃ a : Array Value, vx_Run p l e (cx_rm d mc ms) s m args below meth c H locs cells slots mc' ms' (F0 m pc ls st0) st (cx_Q D b0 Po' a) (cx_X D b0 Px') (fun q => b0 ≤ q))
    (hbc : bc' + mc' ≤ bc) (hbs : bs' + ms' ≤ bs) (kx : ∀ (E : String) (G' : GH), Px' E G' → WX M d b0 Po Px G' bc' bs' pc lv E) (kk : ∀ (r : Option Value) (G' : GH), Po' r G' → WP M d b0 Po Px G' bc' bs' (pc + 3) lv (r.toList ++ st)) : WP M d b0 Po Px G bc bs pc lv st0 := by
  intro p l e s m args below meth c H locs cells slots mc ms D ls hB hK hS hR hl h1 h2
  obtain ⟨a, hr⟩ := h p l e s m args below meth c H locs cells slots mc ms D ls hB hK hS hR hl (by omega) (by omega)
  intro T hT X
  rcases hr T hT X with ⟨v, st₀, t, T', L, h0, X', hL, e1, e2, ⟨r, G', hv, hp, hb, hF⟩, stp⟩ | ⟨q, st₀, t, T', L, E, ce, h0, X', hL, e1, e2, ⟨G', hp, hb, hF⟩, hce, hcv, hcl, stp⟩
  · cases hv
    obtain ⟨k1, k2, k3⟩ := vx_keep (A1 := fun q => b0 ≤ q) h0 e1 hS (fun _ _ h => h) (fun _ h => h) hL hF
    have hal : s.vm.Alike t.vm := by rw [← e2]; exact X'.warmed.alike
    obtain ⟨t2, a1, b1⟩ := kk v G' hp p l e s m args below meth c T'.heap (locs ++ L) (cells + mc') (slots + ms') mc ms D ls hB hK k3 (by rw [e1]; exact hb.moved hal.symm) hl (by omega) (by omega) T' rfl X'
    exact ⟨t2, stp t2 a1, b1⟩
  · obtain ⟨k1, k2, k3⟩ := vx_keep (A1 := fun q => b0 ≤ q) h0 e1 hS (fun _ _ h => h) (fun _ h => h) hL hF
    have hal : s.vm.Alike t.vm := by rw [← e2]; exact X'.warmed.alike
    obtain ⟨t2, a1, b1⟩ := kx E G' hp p l e s m args below meth c T'.heap (locs ++ L) (cells + mc') (slots + ms') mc ms D ls st q ce hB hK k3 (by rw [e1]; exact hb.moved hal.symm) hl (by omega) (by omega) (by rw [e1]; exact hce) hcv hcl T' rfl X'
    exact ⟨t2, stp.trans a1, b1⟩
end CXE
section CXC
variable {M N : MD} {d b0 : Nat} {Po Po' : Option Value → GH → Prop} {Px Px' : String → GH → Prop} {G : GH} {bc bs pc mc' ms' : Nat} {lv : List (Nat × Value)} {st : List Value} {As : List Value}
/-- a method that may be called: its words stand in the tables -/
def cx_M (N : MD) : Prop := N.2.2.2.2 = [] ∧ Cond.code N.1 N.2.1 N.2.2.1 N.2.2.2.1 ∈ cx_tb ∧ Cond.initialized N.1.cls ∈ cx_tb ∧ (N.1.cls ≠ "java/lang/invoke/MethodHandle" ∧ N.1.cls ≠ "java/lang/invoke/VarHandle") ∧ N.2.2.1 ≤ 21
def cx_n (N : MD) (n : Nat) : Prop := (parseMethodDescriptor N.1.desc).map (fun d => d.parameters.length) = some n
theorem cx_GoodIn (hN : cx_M N) : GoodIn cx_tb (cx_ws N) := by
  intro w hw
  have hw2 : w ∈ Cond.code N.1 N.2.1 N.2.2.1 N.2.2.2.1 :: cx_tb := by
    unfold cx_ws at hw
    rw [if_pos hN.1] at hw
    exact hw
  rcases List.mem_cons.mp hw2 with h | h
  · rw [h]
    exact ⟨hN.2.1, good_of_word (List.mem_filter.mp hN.2.1).2⟩
  · exact ⟨h, good_of_word (List.mem_filter.mp h).2⟩
theorem cx_wsc (hN : cx_M N) : cx_ws N = Cond.code N.1 N.2.1 N.2.2.1 N.2.2.2.1 :: cx_tb := by unfold cx_ws; rw [if_pos hN.1]
theorem cx_lenn {n : Nat} (h : cx_n N n) : ∀ sig, parseMethodDescriptor N.1.desc = some sig → n = sig.parameters.length := fun sig hs => by
  unfold cx_n at h
  rw [hs] at h
  exact (Option.some.inj h).symm
theorem cx_callB {s : State} {args : Array Value} {own : String} {idx n mc ms : Nat} (ht : ∀ w ∈ cx_tb, w.before args s = true) (hN : cx_M N) (hn : cx_n N n) (hl : Cond.methodLink own idx N.1 ∈ cx_tb) : CallB (cx_rm (d + 1) mc ms) s args own idx N.1 N.2.1 N.2.2.1 N.2.2.2.1 (cx_ws N) (cx_rm d mc' ms') mc' ms' n := by
  have hlt := hN.2.2.2.2
  exact ⟨rfl, rfl, Nat.le_refl _, by show 8 + (N.2.2.1 + 11) + 40 * d ≤ 40 * (d + 1); omega, pay_in ht (cx_GoodIn hN), by rw [cx_wsc hN]; exact List.mem_cons_self, ht _ hN.2.1, ht _ hN.2.2.1, hN.2.2.2.1, cx_lenn hn, ht _ hl⟩
theorem cx_callN {s : State} {args : Array Value} {own host : String} {idx n mc ms : Nat} (ht : ∀ w ∈ cx_tb, w.before args s = true) (hN : cx_M N) (hn : cx_n N n) (hl : va_Nw (.methodLinkNest own idx N.1 host) s) : va_CN (cx_rm (d + 1) mc ms) s args own idx N.1 host N.2.1 N.2.2.1 N.2.2.2.1 (cx_ws N) (cx_rm d mc' ms') mc' ms' n := by
  have hlt := hN.2.2.2.2
  exact ⟨⟨rfl, rfl, Nat.le_refl _, by show 8 + (N.2.2.1 + 11) + 40 * d ≤ 40 * (d + 1); omega, pay_in ht (cx_GoodIn hN), by rw [cx_wsc hN]; exact List.mem_cons_self⟩, ht _ hN.2.1, ht _ hN.2.2.1, hN.2.2.2.1, cx_lenn hn, hl.use rfl⟩
theorem cx_pre {D : va_G} {s : State} {H : Heap} {locs : List Loc} {av : List Value} (hK : cx_K D b0 s) (hS : va_S (fun q => b0 ≤ q) s.heap H locs) (hR : cx_R D b0 s G H) : ∀ U : State, U.heap = H → s.WarmedH U.vm → cx_P D b0 G av av.toArray U := fun U hU hW => ⟨rfl, hK.next hS hU hW, by rw [hU]; exact hR.moved hW.alike⟩
theorem cx_recv {D : va_G} {s : State} {H : Heap} {b ci : Nat} {fs : List Value} {C : String} (hK : cx_K D b0 s) (hR : cx_R D b0 s G H) (hG : G b = some (.inr (ci, fs))) (hC : (vwCl[ci]?).map (fun r => r.1) = some C) : ∃ cellB : Cell, H[b]? = some cellB ∧ cellB.vm.isStatics = false ∧ s.vm.findClass C = some cellB.cls := by
  obtain ⟨-, r, hr, cell, g1, g2, g3, -⟩ := hR b _ hG
  rw [hr] at hC
  have hrC : r.1 = C := Option.some.inj hC
  exact ⟨cell, g1, by rw [g3]; rfl, by rw [g2, ← hrC]; exact (hK.1.1 _ r hr).2.1⟩
theorem r_callV {idx b ci n : Nat} {fs : List Value} (As : List Value) (bc' bs' : Nat) {st0 : List Value} (hd : decode M.2.1 pc = .ok (.invokevirtual idx, 3)) (hN : cx_M N) (hn : cx_n N n) (hw : Cond.methodLink M.1.cls idx N.1 ∈ cx_tb ∧ Cond.instanceMethod N.1 ∈ cx_tb ∧ Cond.selects N.1.cls N.1 N.1 ∈ cx_tb) (hG : G b = some (.inr (ci, fs))) (hC : (vwCl[ci]?).map (fun r => r.1) = some N.1.cls)
    (hC0 : CT N d b0 G (.ref b :: As) mc' ms' Po' Px') (hst : st0 = As.reverse ++ .ref b :: st) (hln : As.length = n) (hroom : (st.map fun v => v.category).sum ≤ 8) (hbc : bc' + mc' ≤ bc) (hbs : bs' + ms' ≤ bs) (kx : ∀ (E : String) (G' : GH), Px' E G' → WX M (d + 1) b0 Po Px G' bc' bs' pc lv E) (kk : ∀ (r : Option Value) (G' : GH), Po' r G' → WP M (d + 1) b0 Po Px G' bc' bs' (pc + 3) lv (r.toList ++ st)) : WP M (d + 1) b0 Po Px G bc bs pc lv st0 := by
  refine cx_back ?_ hbc hbs kx kk
  intro p l e s m args below meth c H locs cells slots mc ms D ls hB hK hS hR hl h1 h2
  have hts := hB.2.2.2.2.2.2.1
  exact ⟨_, vx_runV (As := As) (C := N.1.cls) ⟨hB.1, hB.2.1, hB.2.2.1, hB.2.2.2.2.1, hts⟩ (hC0 l D hB.2.2.2.2.2.2.2.2.2) ⟨cx_callB hts hN hn hw.1, hts _ hw.2.1, hts _ hw.2.2⟩ ⟨cx_P.blind, cx_recv hK hR hG hC, cx_pre hK hS hR⟩ rfl hln hl.1 hst (lv_room hroom) hd ⟨by show cells + mc' ≤ mc; omega, by show slots + ms' ≤ ms; omega⟩⟩
theorem r_callVN {idx b ci n : Nat} {fs : List Value} {host : String} (As : List Value) (bc' bs' : Nat) {st0 : List Value} (hd : decode M.2.1 pc = .ok (.invokevirtual idx, 3)) (hN : cx_M N) (hn : cx_n N n) (hw : (M.1.cls, idx, N.1, host) ∈ cx_nest ∧ Cond.instanceMethod N.1 ∈ cx_tb ∧ Cond.selects N.1.cls N.1 N.1 ∈ cx_tb) (hG : G b = some (.inr (ci, fs))) (hC : (vwCl[ci]?).map (fun r => r.1) = some N.1.cls)
    (hC0 : CT N d b0 G (.ref b :: As) mc' ms' Po' Px') (hst : st0 = As.reverse ++ .ref b :: st) (hln : As.length = n) (hroom : (st.map fun v => v.category).sum ≤ 8) (hbc : bc' + mc' ≤ bc) (hbs : bs' + ms' ≤ bs) (kx : ∀ (E : String) (G' : GH), Px' E G' → WX M (d + 1) b0 Po Px G' bc' bs' pc lv E) (kk : ∀ (r : Option Value) (G' : GH), Po' r G' → WP M (d + 1) b0 Po Px G' bc' bs' (pc + 3) lv (r.toList ++ st)) : WP M (d + 1) b0 Po Px G bc bs pc lv st0 := by
  refine cx_back ?_ hbc hbs kx kk
  intro p l e s m args below meth c H locs cells slots mc ms D ls hB hK hS hR hl h1 h2
  have hts := hB.2.2.2.2.2.2.1
  exact ⟨_, vx_runVN (As := As) (C := N.1.cls) (host := host) ⟨hB.1, hB.2.1, hB.2.2.1, hB.2.2.2.2.1, hts⟩ (hC0 l D hB.2.2.2.2.2.2.2.2.2) ⟨cx_callN hts hN hn (hK.2.2.1.2.1 _ hw.1), hts _ hw.2.1, hts _ hw.2.2⟩ ⟨cx_P.blind, cx_recv hK hR hG hC, cx_pre hK hS hR⟩ rfl hln hl.1 hst (lv_room hroom) hd ⟨by show cells + mc' ≤ mc; omega, by show slots + ms' ≤ ms; omega⟩⟩
theorem r_callS {idx n : Nat} (As : List Value) (bc' bs' : Nat) {st0 : List Value} (hd : decode M.2.1 pc = .ok (.invokestatic idx, 3)) (hN : cx_M N) (hn : cx_n N n) (hw : Cond.methodLink M.1.cls idx N.1 ∈ cx_tb ∧ Cond.static N.1 ∈ cx_tb)
    (hC0 : CT N d b0 G As mc' ms' Po' Px') (hst : st0 = As.reverse ++ st) (hln : As.length = n) (hroom : (st.map fun v => v.category).sum ≤ 8) (hbc : bc' + mc' ≤ bc) (hbs : bs' + ms' ≤ bs) (kx : ∀ (E : String) (G' : GH), Px' E G' → WX M (d + 1) b0 Po Px G' bc' bs' pc lv E) (kk : ∀ (r : Option Value) (G' : GH), Po' r G' → WP M (d + 1) b0 Po Px G' bc' bs' (pc + 3) lv (r.toList ++ st)) : WP M (d + 1) b0 Po Px G bc bs pc lv st0 := by
  refine cx_back ?_ hbc hbs kx kk
  intro p l e s m args below meth c H locs cells slots mc ms D ls hB hK hS hR hl h1 h2
  have hts := hB.2.2.2.2.2.2.1
  exact ⟨_, vx_runS (As := As) ⟨hB.1, hB.2.1, hB.2.2.1, hB.2.2.2.2.1, hts⟩ (hC0 l D hB.2.2.2.2.2.2.2.2.2) ⟨cx_callB hts hN hn hw.1, hts _ hw.2⟩ ⟨cx_P.blind, cx_pre hK hS hR⟩ rfl hln hl.1 hst (lv_room hroom) hd ⟨by show cells + mc' ≤ mc; omega, by show slots + ms' ≤ ms; omega⟩⟩
theorem r_callSN {idx n : Nat} {host : String} (As : List Value) (bc' bs' : Nat) {st0 : List Value} (hd : decode M.2.1 pc = .ok (.invokestatic idx, 3)) (hN : cx_M N) (hn : cx_n N n) (hw : (M.1.cls, idx, N.1, host) ∈ cx_nest ∧ Cond.static N.1 ∈ cx_tb)
    (hC0 : CT N d b0 G As mc' ms' Po' Px') (hst : st0 = As.reverse ++ st) (hln : As.length = n) (hroom : (st.map fun v => v.category).sum ≤ 8) (hbc : bc' + mc' ≤ bc) (hbs : bs' + ms' ≤ bs) (kx : ∀ (E : String) (G' : GH), Px' E G' → WX M (d + 1) b0 Po Px G' bc' bs' pc lv E) (kk : ∀ (r : Option Value) (G' : GH), Po' r G' → WP M (d + 1) b0 Po Px G' bc' bs' (pc + 3) lv (r.toList ++ st)) : WP M (d + 1) b0 Po Px G bc bs pc lv st0 := by
  refine cx_back ?_ hbc hbs kx kk
  intro p l e s m args below meth c H locs cells slots mc ms D ls hB hK hS hR hl h1 h2
  have hts := hB.2.2.2.2.2.2.1
  exact ⟨_, vx_runSN (As := As) (host := host) ⟨hB.1, hB.2.1, hB.2.2.1, hB.2.2.2.2.1, hts⟩ (hC0 l D hB.2.2.2.2.2.2.2.2.2) ⟨cx_callN hts hN hn (hK.2.2.1.2.1 _ hw.1), hts _ hw.2, trivial⟩ ⟨cx_P.blind, cx_pre hK hS hR⟩ rfl hln hl.1 hst (lv_room hroom) hd ⟨by show cells + mc' ≤ mc; omega, by show slots + ms' ≤ ms; omega⟩⟩
theorem r_callI {idx b n : Nat} (As : List Value) (bc' bs' : Nat) {st0 : List Value} (hd : decode M.2.1 pc = .ok (.invokespecial idx, 3)) (hN : cx_M N) (hn : cx_n N n) (hrt : N.2.2.2.1 = none) (hin : N.1.name = "<init>") (hw : Cond.methodLink M.1.cls idx N.1 ∈ cx_tb ∧ Cond.instanceMethod N.1 ∈ cx_tb)
    (hC0 : CT N d b0 G (.ref b :: As) mc' ms' Po' Px') (hst : st0 = As.reverse ++ .ref b :: st) (hln : As.length = n) (hroom : (st.map fun v => v.category).sum ≤ 8) (hbc : bc' + mc' ≤ bc) (hbs : bs' + ms' ≤ bs) (kx : ∀ (E : String) (G' : GH), Px' E G' → WX M (d + 1) b0 Po Px G' bc' bs' pc lv E) (kk : ∀ (r : Option Value) (G' : GH), Po' r G' → WP M (d + 1) b0 Po Px G' bc' bs' (pc + 3) lv (r.toList ++ st)) : WP M (d + 1) b0 Po Px G bc bs pc lv st0 := by
  refine cx_back ?_ hbc hbs kx kk
  intro p l e s m args below meth c H locs cells slots mc ms D ls hB hK hS hR hl h1 h2
  have hts := hB.2.2.2.2.2.2.1
  have cb := cx_callB (d := d) (mc' := mc') (ms' := ms') (mc := mc) (ms := ms) hts hN hn hw.1
  rw [hrt] at cb
  exact ⟨_, vx_runI (As := As) ⟨hB.1, hB.2.1, hB.2.2.1, hB.2.2.2.2.1, hts⟩ (hC0 l D hB.2.2.2.2.2.2.2.2.2) ⟨cb, hin, hts _ hw.2⟩ ⟨cx_P.blind, cx_pre hK hS hR⟩ rfl hln hl.1 hst (lv_room hroom) hd ⟨by show cells + mc' ≤ mc; omega, by show slots + ms' ≤ ms; omega⟩⟩
theorem r_callIN {idx b n : Nat} {host : String} (As : List Value) (bc' bs' : Nat) {st0 : List Value} (hd : decode M.2.1 pc = .ok (.invokespecial idx, 3)) (hN : cx_M N) (hn : cx_n N n) (hrt : N.2.2.2.1 = none) (hin : N.1.name = "<init>") (hw : (M.1.cls, idx, N.1, host) ∈ cx_nest ∧ Cond.instanceMethod N.1 ∈ cx_tb)
    (hC0 : CT N d b0 G (.ref b :: As) mc' ms' Po' Px') (hst : st0 = As.reverse ++ .ref b :: st) (hln : As.length = n) (hroom : (st.map fun v => v.category).sum ≤ 8) (hbc : bc' + mc' ≤ bc) (hbs : bs' + ms' ≤ bs) (kx : ∀ (E : String) (G' : GH), Px' E G' → WX M (d + 1) b0 Po Px G' bc' bs' pc lv E) (kk : ∀ (r : Option Value) (G' : GH), Po' r G' → WP M (d + 1) b0 Po Px G' bc' bs' (pc + 3) lv (r.toList ++ st)) : WP M (d + 1) b0 Po Px G bc bs pc lv st0 := by
  refine cx_back ?_ hbc hbs kx kk
  intro p l e s m args below meth c H locs cells slots mc ms D ls hB hK hS hR hl h1 h2
  have hts := hB.2.2.2.2.2.2.1
  have cb := cx_callN (d := d) (mc' := mc') (ms' := ms') (mc := mc) (ms := ms) hts hN hn (hK.2.2.1.2.1 _ hw.1)
  rw [hrt] at cb
  exact ⟨_, vx_runIN (As := As) (host := host) ⟨hB.1, hB.2.1, hB.2.2.1, hB.2.2.2.2.1, hts⟩ (hC0 l D hB.2.2.2.2.2.2.2.2.2) ⟨cb, hin, hts _ hw.2⟩ ⟨cx_P.blind, cx_pre hK hS hR⟩ rfl hln hl.1 hst (lv_room hroom) hd ⟨by show cells + mc' ≤ mc; omega, by show slots + ms' ≤ ms; omega⟩⟩
/-- a static method with a table of handlers -/
def cx_MW (N : MD) : Prop := N.2.2.2.2 ≠ [] ∧ Cond.codeWith N.1 N.2.1 N.2.2.1 N.2.2.2.1 N.2.2.2.2 ∈ cx_tb ∧ Cond.initialized N.1.cls ∈ cx_tb ∧ (N.1.cls ≠ "java/lang/invoke/MethodHandle" ∧ N.1.cls ≠ "java/lang/invoke/VarHandle") ∧ N.2.2.1 ≤ 21
theorem r_callSW {idx n : Nat} (As : List Value) (bc' bs' : Nat) {st0 : List Value} (hd : decode M.2.1 pc = .ok (.invokestatic idx, 3)) (hN : cx_MW N) (hn : cx_n N n) (hw : Cond.methodLink M.1.cls idx N.1 ∈ cx_tb ∧ Cond.static N.1 ∈ cx_tb)
    (hC0 : CT N d b0 G As mc' ms' Po' Px') (hst : st0 = As.reverse ++ st) (hln : As.length = n) (hroom : (st.map fun v => v.category).sum ≤ 8) (hbc : bc' + mc' ≤ bc) (hbs : bs' + ms' ≤ bs) (kx : ∀ (E : String) (G' : GH), Px' E G' → WX M (d + 1) b0 Po Px G' bc' bs' pc lv E) (kk : ∀ (r : Option Value) (G' : GH), Po' r G' → WP M (d + 1) b0 Po Px G' bc' bs' (pc + 3) lv (r.toList ++ st)) : WP M (d + 1) b0 Po Px G bc bs pc lv st0 := by
  refine cx_back ?_ hbc hbs kx kk
  intro p l e s m args below meth c H locs cells slots mc ms D ls hB hK hS hR hl h1 h2
  have hts := hB.2.2.2.2.2.2.1
  have hlt := hN.2.2.2.2
  have hwc : cx_ws N = Cond.codeWith N.1 N.2.1 N.2.2.1 N.2.2.2.1 N.2.2.2.2 :: cx_tb := by unfold cx_ws; rw [if_neg hN.1]
  have hGd : GoodIn cx_tb (cx_ws N) := by
    intro w hw
    rw [hwc] at hw
    rcases List.mem_cons.mp hw with h | h
    · rw [h]
      exact ⟨hN.2.1, good_of_word (List.mem_filter.mp hN.2.1).2⟩
    · exact ⟨h, good_of_word (List.mem_filter.mp h).2⟩
  exact ⟨_, vx_runSX (As := As) (hh := N.2.2.2.2) ⟨hB.1, hB.2.1, hB.2.2.1, hB.2.2.2.2.1, hts⟩ (hC0 l D hB.2.2.2.2.2.2.2.2.2) ⟨⟨rfl, rfl, Nat.le_refl _, by show 8 + (N.2.2.1 + 11) + 40 * d ≤ 40 * (d + 1); omega, pay_in hts hGd, by rw [hwc]; exact List.mem_cons_self⟩, hts _ hN.2.1, hts _ hN.2.2.1, hN.2.2.2.1, cx_lenn hn, hts _ hw.1, hts _ hw.2⟩ ⟨cx_P.blind, cx_pre hK hS hR⟩ rfl hln hl.1 hst (lv_room hroom) hd ⟨by show cells + mc' ≤ mc; omega, by show slots + ms' ≤ ms; omega⟩⟩
end CXC
end
section
abbrev cJ_bitCount : ByteArray := prog_16_method_49_code
def yJ_bitCount : MethodName := ⟨"java/lang/Integer", "bitCount", "(I)I"⟩
theorem t_41 : Cond.initialized RX8 ∈ cx_tb := cx_tb_in 41 (by decide +kernel) (by decide +kernel)
theorem t_42 : Cond.initialized RX5 ∈ cx_tb := cx_tb_in 42 (by decide +kernel) (by decide +kernel)
theorem t_43 : Cond.initialized RX7 ∈ cx_tb := cx_tb_in 43 (by decide +kernel) (by decide +kernel)
theorem t_44 : Cond.initialized RX3 ∈ cx_tb := cx_tb_in 44 (by decide +kernel) (by decide +kernel)
theorem t_45 : Cond.initialized RX4 ∈ cx_tb := cx_tb_in 45 (by decide +kernel) (by decide +kernel)
theorem t_53 : Cond.initialized RX0 ∈ cx_tb := cx_tb_in 53 (by decide +kernel) (by decide +kernel)
theorem t_54 : Cond.initialized RX6 ∈ cx_tb := cx_tb_in 54 (by decide +kernel) (by decide +kernel)
theorem t_55 : Cond.initialized RX2 ∈ cx_tb := cx_tb_in 55 (by decide +kernel) (by decide +kernel)
theorem t_56 : Cond.initialized RX1 ∈ cx_tb := cx_tb_in 56 (by decide +kernel) (by decide +kernel)
theorem t_57 : Cond.initialized "java/lang/Integer" ∈ cx_tb := cx_tb_in 57 (by decide +kernel) (by decide +kernel)
theorem t_46 : Cond.initialized RX9 ∈ cx_tb := cx_tb_in 46 (by decide +kernel) (by decide +kernel)
theorem t_40 : Cond.initialized RL ∈ cx_tb := cx_tb_in 40 (by decide +kernel) (by decide +kernel)
theorem t_72 : Cond.fieldLink RX5 7 "Glosstemplate$Signs" "signs" "[C" ∈ cx_tb := cx_tb_in 72 (by decide +kernel) (by decide +kernel)
theorem t_73 : Cond.fieldLink RX5 13 "Glosstemplate$Signs" "length" "I" ∈ cx_tb := cx_tb_in 73 (by decide +kernel) (by decide +kernel)
theorem t_89 : Cond.fieldLink RX7 11 "Glosstemplate$Words" "stems" "[LGlosstemplate$Signs;" ∈ cx_tb := cx_tb_in 89 (by decide +kernel) (by decide +kernel)
theorem t_90 : Cond.fieldLink RX7 17 "Glosstemplate$Words" "endings" "[LGlosstemplate$Signs;" ∈ cx_tb := cx_tb_in 90 (by decide +kernel) (by decide +kernel)
theorem t_91 : Cond.fieldLink RX7 20 "Glosstemplate$Words" "owns" "[LGlosstemplate$Signs;" ∈ cx_tb := cx_tb_in 91 (by decide +kernel) (by decide +kernel)
theorem t_92 : Cond.fieldLink RX7 26 "Glosstemplate$Words" "count" "I" ∈ cx_tb := cx_tb_in 92 (by decide +kernel) (by decide +kernel)
theorem t_116 : Cond.fieldLink RX3 14 "Glosstemplate$Page" "signs" "LGlosstemplate$Signs;" ∈ cx_tb := cx_tb_in 116 (by decide +kernel) (by decide +kernel)
theorem t_117 : Cond.fieldLink RX3 20 "Glosstemplate$Page" "open" "Z" ∈ cx_tb := cx_tb_in 117 (by decide +kernel) (by decide +kernel)
theorem t_130 : Cond.fieldLink RX4 7 "Glosstemplate$Seeker" "left" "I" ∈ cx_tb := cx_tb_in 130 (by decide +kernel) (by decide +kernel)
theorem t_131 : Cond.fieldLink RX4 13 "Glosstemplate$Seeker" "open" "Z" ∈ cx_tb := cx_tb_in 131 (by decide +kernel) (by decide +kernel)
theorem t_132 : Cond.fieldLink RX4 17 "Glosstemplate$Seeker" "found" "C" ∈ cx_tb := cx_tb_in 132 (by decide +kernel) (by decide +kernel)
theorem t_140 : Cond.fieldLink RX8 14 "Glosstemplate" "buffer" "LGlosstemplate$Signs;" ∈ cx_tb := cx_tb_in 140 (by decide +kernel) (by decide +kernel)
theorem t_141 : Cond.fieldLink RX8 21 "Glosstemplate" "words" "LGlosstemplate$Words;" ∈ cx_tb := cx_tb_in 141 (by decide +kernel) (by decide +kernel)
theorem t_142 : Cond.fieldLink RX8 27 "Glosstemplate" "clauses" "[LGlosstemplate$Clause;" ∈ cx_tb := cx_tb_in 142 (by decide +kernel) (by decide +kernel)
theorem t_143 : Cond.fieldLink RX8 33 "Glosstemplate" "letters" "[LGlosstemplate$Letter;" ∈ cx_tb := cx_tb_in 143 (by decide +kernel) (by decide +kernel)
theorem t_144 : Cond.fieldLink RX8 39 "Glosstemplate" "allData" "[LGlosstemplate$Data;" ∈ cx_tb := cx_tb_in 144 (by decide +kernel) (by decide +kernel)
theorem t_145 : Cond.fieldLink RX8 43 "Glosstemplate" "prices" "[I" ∈ cx_tb := cx_tb_in 145 (by decide +kernel) (by decide +kernel)
theorem t_146 : Cond.fieldLink RX8 50 "Glosstemplate" "page" "LGlosstemplate$Page;" ∈ cx_tb := cx_tb_in 146 (by decide +kernel) (by decide +kernel)
theorem t_147 : Cond.fieldLink RX8 57 "Glosstemplate" "seeker" "LGlosstemplate$Seeker;" ∈ cx_tb := cx_tb_in 147 (by decide +kernel) (by decide +kernel)
theorem t_148 : Cond.fieldLink RX8 124 "Glosstemplate" "clauseCount" "I" ∈ cx_tb := cx_tb_in 148 (by decide +kernel) (by decide +kernel)
theorem t_149 : Cond.fieldLink RX8 182 "Glosstemplate" "letterCount" "I" ∈ cx_tb := cx_tb_in 149 (by decide +kernel) (by decide +kernel)
theorem t_150 : Cond.fieldLink RX8 206 "Glosstemplate" "dataCount" "I" ∈ cx_tb := cx_tb_in 150 (by decide +kernel) (by decide +kernel)
theorem t_412 : Cond.fieldLink RX6 14 "Glosstemplate$Template" "signs" "LGlosstemplate$Signs;" ∈ cx_tb := cx_tb_in 412 (by decide +kernel) (by decide +kernel)
theorem t_413 : Cond.fieldLink RX6 24 "Glosstemplate$Template" "approved" "Z" ∈ cx_tb := cx_tb_in 413 (by decide +kernel) (by decide +kernel)
theorem t_419 : Cond.fieldLink RX0 21 "Glosstemplate$Clause" "condition" "I" ∈ cx_tb := cx_tb_in 419 (by decide +kernel) (by decide +kernel)
theorem t_420 : Cond.fieldLink RX0 11 "Glosstemplate$Clause" "templates" "[LGlosstemplate$Template;" ∈ cx_tb := cx_tb_in 420 (by decide +kernel) (by decide +kernel)
theorem t_421 : Cond.fieldLink RX0 17 "Glosstemplate$Clause" "hows" "[I" ∈ cx_tb := cx_tb_in 421 (by decide +kernel) (by decide +kernel)
theorem t_546 : Cond.fieldLink RX2 9 "Glosstemplate$Letter" "row" "[I" ∈ cx_tb := cx_tb_in 546 (by decide +kernel) (by decide +kernel)
theorem t_547 : Cond.fieldLink RX2 15 "Glosstemplate$Letter" "count" "I" ∈ cx_tb := cx_tb_in 547 (by decide +kernel) (by decide +kernel)
theorem t_598 : Cond.fieldLink RX1 9 "Glosstemplate$Data" "slotWords" "[I" ∈ cx_tb := cx_tb_in 598 (by decide +kernel) (by decide +kernel)
theorem t_599 : Cond.fieldLink RX1 15 "Glosstemplate$Data" "bits" "I" ∈ cx_tb := cx_tb_in 599 (by decide +kernel) (by decide +kernel)
theorem t_835 : Cond.fieldLink RX9 89 "GlosstemplateModel" "length" "I" ∈ cx_tb := cx_tb_in 835 (by decide +kernel) (by decide +kernel)
theorem t_836 : Cond.fieldLink RX9 7 "GlosstemplateModel" "buffer" "[C" ∈ cx_tb := cx_tb_in 836 (by decide +kernel) (by decide +kernel)
theorem t_837 : Cond.fieldLink RX9 77 "GlosstemplateModel" "words" "I" ∈ cx_tb := cx_tb_in 837 (by decide +kernel) (by decide +kernel)
theorem t_838 : Cond.fieldLink RX9 13 "GlosstemplateModel" "stems" "[C" ∈ cx_tb := cx_tb_in 838 (by decide +kernel) (by decide +kernel)
theorem t_839 : Cond.fieldLink RX9 16 "GlosstemplateModel" "stemLengths" "[I" ∈ cx_tb := cx_tb_in 839 (by decide +kernel) (by decide +kernel)
theorem t_840 : Cond.fieldLink RX9 20 "GlosstemplateModel" "endings" "[C" ∈ cx_tb := cx_tb_in 840 (by decide +kernel) (by decide +kernel)
theorem t_841 : Cond.fieldLink RX9 23 "GlosstemplateModel" "endingLengths" "[I" ∈ cx_tb := cx_tb_in 841 (by decide +kernel) (by decide +kernel)
theorem t_842 : Cond.fieldLink RX9 26 "GlosstemplateModel" "forms" "[C" ∈ cx_tb := cx_tb_in 842 (by decide +kernel) (by decide +kernel)
theorem t_843 : Cond.fieldLink RX9 29 "GlosstemplateModel" "formLengths" "[I" ∈ cx_tb := cx_tb_in 843 (by decide +kernel) (by decide +kernel)
theorem t_844 : Cond.fieldLink RX9 80 "GlosstemplateModel" "clauses" "I" ∈ cx_tb := cx_tb_in 844 (by decide +kernel) (by decide +kernel)
theorem t_845 : Cond.fieldLink RX9 32 "GlosstemplateModel" "conditions" "[I" ∈ cx_tb := cx_tb_in 845 (by decide +kernel) (by decide +kernel)
theorem t_846 : Cond.fieldLink RX9 35 "GlosstemplateModel" "texts" "[C" ∈ cx_tb := cx_tb_in 846 (by decide +kernel) (by decide +kernel)
theorem t_847 : Cond.fieldLink RX9 38 "GlosstemplateModel" "textLengths" "[I" ∈ cx_tb := cx_tb_in 847 (by decide +kernel) (by decide +kernel)
theorem t_848 : Cond.fieldLink RX9 41 "GlosstemplateModel" "isApproved" "[Z" ∈ cx_tb := cx_tb_in 848 (by decide +kernel) (by decide +kernel)
theorem t_849 : Cond.fieldLink RX9 45 "GlosstemplateModel" "related" "[I" ∈ cx_tb := cx_tb_in 849 (by decide +kernel) (by decide +kernel)
theorem t_850 : Cond.fieldLink RX9 83 "GlosstemplateModel" "letters" "I" ∈ cx_tb := cx_tb_in 850 (by decide +kernel) (by decide +kernel)
theorem t_851 : Cond.fieldLink RX9 48 "GlosstemplateModel" "rows" "[I" ∈ cx_tb := cx_tb_in 851 (by decide +kernel) (by decide +kernel)
theorem t_852 : Cond.fieldLink RX9 51 "GlosstemplateModel" "rowLengths" "[I" ∈ cx_tb := cx_tb_in 852 (by decide +kernel) (by decide +kernel)
theorem t_853 : Cond.fieldLink RX9 86 "GlosstemplateModel" "data" "I" ∈ cx_tb := cx_tb_in 853 (by decide +kernel) (by decide +kernel)
theorem t_854 : Cond.fieldLink RX9 54 "GlosstemplateModel" "filled" "[I" ∈ cx_tb := cx_tb_in 854 (by decide +kernel) (by decide +kernel)
theorem t_855 : Cond.fieldLink RX9 57 "GlosstemplateModel" "bits" "[I" ∈ cx_tb := cx_tb_in 855 (by decide +kernel) (by decide +kernel)
theorem t_856 : Cond.fieldLink RX9 60 "GlosstemplateModel" "prices" "[I" ∈ cx_tb := cx_tb_in 856 (by decide +kernel) (by decide +kernel)
theorem t_857 : Cond.fieldLink RX9 63 "GlosstemplateModel" "built" "[C" ∈ cx_tb := cx_tb_in 857 (by decide +kernel) (by decide +kernel)
theorem t_858 : Cond.fieldLink RX9 151 "GlosstemplateModel" "signs" "I" ∈ cx_tb := cx_tb_in 858 (by decide +kernel) (by decide +kernel)
theorem t_859 : Cond.fieldLink RX9 154 "GlosstemplateModel" "begins" "Z" ∈ cx_tb := cx_tb_in 859 (by decide +kernel) (by decide +kernel)
theorem t_860 : Cond.fieldLink RX9 66 "GlosstemplateModel" "isSampled" "[Z" ∈ cx_tb := cx_tb_in 860 (by decide +kernel) (by decide +kernel)
theorem t_861 : Cond.fieldLink RX9 69 "GlosstemplateModel" "thrown" "I" ∈ cx_tb := cx_tb_in 861 (by decide +kernel) (by decide +kernel)
theorem t_58 : Cond.classLink RL 8 RX8 ∈ cx_tb := cx_tb_in 58 (by decide +kernel) (by decide +kernel)
theorem t_59 : Cond.instantiable RX8 11 ∈ cx_tb := cx_tb_in 59 (by decide +kernel) (by decide +kernel)
theorem t_66 : Cond.classLink RX8 9 RX5 ∈ cx_tb := cx_tb_in 66 (by decide +kernel) (by decide +kernel)
theorem t_67 : Cond.instantiable RX5 2 ∈ cx_tb := cx_tb_in 67 (by decide +kernel) (by decide +kernel)
theorem t_80 : Cond.classLink RX8 18 RX7 ∈ cx_tb := cx_tb_in 80 (by decide +kernel) (by decide +kernel)
theorem t_81 : Cond.instantiable RX7 4 ∈ cx_tb := cx_tb_in 81 (by decide +kernel) (by decide +kernel)
theorem t_86 : Cond.classLink RX7 9 RX5 ∈ cx_tb := cx_tb_in 86 (by decide +kernel) (by decide +kernel)
theorem t_102 : Cond.classLink RX8 25 RX0 ∈ cx_tb := cx_tb_in 102 (by decide +kernel) (by decide +kernel)
theorem t_398 : Cond.instantiable RX0 3 ∈ cx_tb := cx_tb_in 398 (by decide +kernel) (by decide +kernel)
theorem t_104 : Cond.classLink RX8 31 RX2 ∈ cx_tb := cx_tb_in 104 (by decide +kernel) (by decide +kernel)
theorem t_541 : Cond.instantiable RX2 2 ∈ cx_tb := cx_tb_in 541 (by decide +kernel) (by decide +kernel)
theorem t_106 : Cond.classLink RX8 37 RX1 ∈ cx_tb := cx_tb_in 106 (by decide +kernel) (by decide +kernel)
theorem t_593 : Cond.instantiable RX1 2 ∈ cx_tb := cx_tb_in 593 (by decide +kernel) (by decide +kernel)
theorem t_108 : Cond.classLink RX8 47 RX3 ∈ cx_tb := cx_tb_in 108 (by decide +kernel) (by decide +kernel)
theorem t_109 : Cond.instantiable RX3 2 ∈ cx_tb := cx_tb_in 109 (by decide +kernel) (by decide +kernel)
theorem t_114 : Cond.classLink RX3 9 RX5 ∈ cx_tb := cx_tb_in 114 (by decide +kernel) (by decide +kernel)
theorem t_124 : Cond.classLink RX8 54 RX4 ∈ cx_tb := cx_tb_in 124 (by decide +kernel) (by decide +kernel)
theorem t_125 : Cond.instantiable RX4 3 ∈ cx_tb := cx_tb_in 125 (by decide +kernel) (by decide +kernel)
theorem t_215 : Cond.classLink RL 13 "java/lang/IllegalStateException" ∈ cx_tb := cx_tb_in 215 (by decide +kernel) (by decide +kernel)
theorem t_224 : Cond.classLink RX8 65 "java/lang/IllegalStateException" ∈ cx_tb := cx_tb_in 224 (by decide +kernel) (by decide +kernel)
theorem t_327 : Cond.classLink RL 23 "java/lang/IndexOutOfBoundsException" ∈ cx_tb := cx_tb_in 327 (by decide +kernel) (by decide +kernel)
theorem t_328 : Cond.classLink RL 25 "java/lang/IllegalArgumentException" ∈ cx_tb := cx_tb_in 328 (by decide +kernel) (by decide +kernel)
theorem t_341 : Cond.classLink RX8 99 "java/lang/IndexOutOfBoundsException" ∈ cx_tb := cx_tb_in 341 (by decide +kernel) (by decide +kernel)
theorem t_357 : Cond.classLink RX8 107 "java/lang/IllegalArgumentException" ∈ cx_tb := cx_tb_in 357 (by decide +kernel) (by decide +kernel)
theorem t_403 : Cond.classLink RX0 9 RX6 ∈ cx_tb := cx_tb_in 403 (by decide +kernel) (by decide +kernel)
theorem t_405 : Cond.instantiable RX6 2 ∈ cx_tb := cx_tb_in 405 (by decide +kernel) (by decide +kernel)
theorem t_410 : Cond.classLink RX6 9 RX5 ∈ cx_tb := cx_tb_in 410 (by decide +kernel) (by decide +kernel)
theorem t_829 : Cond.classLink RL 79 RX9 ∈ cx_tb := cx_tb_in 829 (by decide +kernel) (by decide +kernel)
theorem t_830 : Cond.instantiable RX9 27 ∈ cx_tb := cx_tb_in 830 (by decide +kernel) (by decide +kernel)
theorem t_60 : Cond.methodLink RL 78 yX8_init ∈ cx_tb := cx_tb_in 60 (by decide +kernel) (by decide +kernel)
theorem t_61 : Cond.instanceMethod yX8_init ∈ cx_tb := cx_tb_in 61 (by decide +kernel) (by decide +kernel)
theorem t_63 : Cond.methodLink RX8 3 objectInit ∈ cx_tb := cx_tb_in 63 (by decide +kernel) (by decide +kernel)
theorem t_64 : Cond.instanceMethod objectInit ∈ cx_tb := cx_tb_in 64 (by decide +kernel) (by decide +kernel)
theorem t_65 : Cond.code objectInit ⟨#[0xb1]⟩ 1 none ∈ cx_tb := cx_tb_in 65 (by decide +kernel) (by decide +kernel)
theorem t_68 : Cond.methodLink RX8 11 yX5_init ∈ cx_tb := cx_tb_in 68 (by decide +kernel) (by decide +kernel)
theorem t_69 : Cond.instanceMethod yX5_init ∈ cx_tb := cx_tb_in 69 (by decide +kernel) (by decide +kernel)
theorem t_71 : Cond.methodLink RX5 1 objectInit ∈ cx_tb := cx_tb_in 71 (by decide +kernel) (by decide +kernel)
theorem t_82 : Cond.methodLink RX8 20 yX7_init ∈ cx_tb := cx_tb_in 82 (by decide +kernel) (by decide +kernel)
theorem t_83 : Cond.instanceMethod yX7_init ∈ cx_tb := cx_tb_in 83 (by decide +kernel) (by decide +kernel)
theorem t_85 : Cond.methodLink RX7 3 objectInit ∈ cx_tb := cx_tb_in 85 (by decide +kernel) (by decide +kernel)
theorem t_88 : Cond.methodLink RX7 23 yX5_init ∈ cx_tb := cx_tb_in 88 (by decide +kernel) (by decide +kernel)
theorem t_113 : Cond.methodLink RX3 3 objectInit ∈ cx_tb := cx_tb_in 113 (by decide +kernel) (by decide +kernel)
theorem t_115 : Cond.methodLink RX3 11 yX5_init ∈ cx_tb := cx_tb_in 115 (by decide +kernel) (by decide +kernel)
theorem t_129 : Cond.methodLink RX4 1 objectInit ∈ cx_tb := cx_tb_in 129 (by decide +kernel) (by decide +kernel)
theorem t_174 : Cond.methodLink RL 91 yX8_clear ∈ cx_tb := cx_tb_in 174 (by decide +kernel) (by decide +kernel)
theorem t_175 : Cond.instanceMethod yX8_clear ∈ cx_tb := cx_tb_in 175 (by decide +kernel) (by decide +kernel)
theorem t_176 : Cond.selects RX8 yX8_clear yX8_clear ∈ cx_tb := cx_tb_in 176 (by decide +kernel) (by decide +kernel)
theorem t_178 : Cond.methodLink RX8 72 yX5_length ∈ cx_tb := cx_tb_in 178 (by decide +kernel) (by decide +kernel)
theorem t_179 : Cond.instanceMethod yX5_length ∈ cx_tb := cx_tb_in 179 (by decide +kernel) (by decide +kernel)
theorem t_180 : Cond.selects RX5 yX5_length yX5_length ∈ cx_tb := cx_tb_in 180 (by decide +kernel) (by decide +kernel)
theorem t_182 : Cond.methodLink RX8 76 yX5_empty ∈ cx_tb := cx_tb_in 182 (by decide +kernel) (by decide +kernel)
theorem t_183 : Cond.instanceMethod yX5_empty ∈ cx_tb := cx_tb_in 183 (by decide +kernel) (by decide +kernel)
theorem t_184 : Cond.selects RX5 yX5_empty yX5_empty ∈ cx_tb := cx_tb_in 184 (by decide +kernel) (by decide +kernel)
theorem t_186 : Cond.methodLink RL 111 yX8_fault ∈ cx_tb := cx_tb_in 186 (by decide +kernel) (by decide +kernel)
theorem t_187 : Cond.instanceMethod yX8_fault ∈ cx_tb := cx_tb_in 187 (by decide +kernel) (by decide +kernel)
theorem t_188 : Cond.selects RX8 yX8_fault yX8_fault ∈ cx_tb := cx_tb_in 188 (by decide +kernel) (by decide +kernel)
theorem t_190 : Cond.methodLink RX8 137 yX8_firstFault ∈ cx_tb := cx_tb_in 190 (by decide +kernel) (by decide +kernel)
theorem t_191 : Cond.static yX8_firstFault ∈ cx_tb := cx_tb_in 191 (by decide +kernel) (by decide +kernel)
theorem t_193 : Cond.methodLink RX8 285 yX5_at ∈ cx_tb := cx_tb_in 193 (by decide +kernel) (by decide +kernel)
theorem t_194 : Cond.instanceMethod yX5_at ∈ cx_tb := cx_tb_in 194 (by decide +kernel) (by decide +kernel)
theorem t_195 : Cond.selects RX5 yX5_at yX5_at ∈ cx_tb := cx_tb_in 195 (by decide +kernel) (by decide +kernel)
theorem t_197 : Cond.methodLink RX8 286 yX8_canStand ∈ cx_tb := cx_tb_in 197 (by decide +kernel) (by decide +kernel)
theorem t_198 : Cond.static yX8_canStand ∈ cx_tb := cx_tb_in 198 (by decide +kernel) (by decide +kernel)
theorem t_200 : Cond.methodLink RX8 282 yX8_isSmall ∈ cx_tb := cx_tb_in 200 (by decide +kernel) (by decide +kernel)
theorem t_201 : Cond.static yX8_isSmall ∈ cx_tb := cx_tb_in 201 (by decide +kernel) (by decide +kernel)
theorem t_203 : Cond.methodLink RX8 290 yX8_slotOf ∈ cx_tb := cx_tb_in 203 (by decide +kernel) (by decide +kernel)
theorem t_204 : Cond.static yX8_slotOf ∈ cx_tb := cx_tb_in 204 (by decide +kernel) (by decide +kernel)
theorem t_206 : Cond.methodLink RX8 294 yX8_caseOf ∈ cx_tb := cx_tb_in 206 (by decide +kernel) (by decide +kernel)
theorem t_207 : Cond.static yX8_caseOf ∈ cx_tb := cx_tb_in 207 (by decide +kernel) (by decide +kernel)
theorem t_209 : Cond.methodLink RX8 297 yX8_numberOf ∈ cx_tb := cx_tb_in 209 (by decide +kernel) (by decide +kernel)
theorem t_210 : Cond.static yX8_numberOf ∈ cx_tb := cx_tb_in 210 (by decide +kernel) (by decide +kernel)
theorem t_212 : Cond.methodLink RL 82 yL_type ∈ cx_tb := cx_tb_in 212 (by decide +kernel) (by decide +kernel)
theorem t_213 : Cond.static yL_type ∈ cx_tb := cx_tb_in 213 (by decide +kernel) (by decide +kernel)
theorem t_216 : Cond.methodLink RL 7 yX8_type ∈ cx_tb := cx_tb_in 216 (by decide +kernel) (by decide +kernel)
theorem t_217 : Cond.instanceMethod yX8_type ∈ cx_tb := cx_tb_in 217 (by decide +kernel) (by decide +kernel)
theorem t_218 : Cond.selects RX8 yX8_type yX8_type ∈ cx_tb := cx_tb_in 218 (by decide +kernel) (by decide +kernel)
theorem t_220 : Cond.methodLink RX8 61 yX5_append ∈ cx_tb := cx_tb_in 220 (by decide +kernel) (by decide +kernel)
theorem t_221 : Cond.instanceMethod yX5_append ∈ cx_tb := cx_tb_in 221 (by decide +kernel) (by decide +kernel)
theorem t_222 : Cond.selects RX5 yX5_append yX5_append ∈ cx_tb := cx_tb_in 222 (by decide +kernel) (by decide +kernel)
theorem t_292 : Cond.methodLink RL 95 yL_word ∈ cx_tb := cx_tb_in 292 (by decide +kernel) (by decide +kernel)
theorem t_293 : Cond.static yL_word ∈ cx_tb := cx_tb_in 293 (by decide +kernel) (by decide +kernel)
theorem t_295 : Cond.methodLink RL 15 yX8_word ∈ cx_tb := cx_tb_in 295 (by decide +kernel) (by decide +kernel)
theorem t_296 : Cond.instanceMethod yX8_word ∈ cx_tb := cx_tb_in 296 (by decide +kernel) (by decide +kernel)
theorem t_297 : Cond.selects RX8 yX8_word yX8_word ∈ cx_tb := cx_tb_in 297 (by decide +kernel) (by decide +kernel)
theorem t_299 : Cond.methodLink RX8 79 yX5_isLetters ∈ cx_tb := cx_tb_in 299 (by decide +kernel) (by decide +kernel)
theorem t_300 : Cond.instanceMethod yX5_isLetters ∈ cx_tb := cx_tb_in 300 (by decide +kernel) (by decide +kernel)
theorem t_301 : Cond.selects RX5 yX5_isLetters yX5_isLetters ∈ cx_tb := cx_tb_in 301 (by decide +kernel) (by decide +kernel)
theorem t_303 : Cond.methodLink RX5 23 yX5_at ∈ cx_tb := cx_tb_in 303 (by decide +kernel) (by decide +kernel)
theorem t_305 : Cond.methodLink RX8 83 yX7_count ∈ cx_tb := cx_tb_in 305 (by decide +kernel) (by decide +kernel)
theorem t_306 : Cond.instanceMethod yX7_count ∈ cx_tb := cx_tb_in 306 (by decide +kernel) (by decide +kernel)
theorem t_307 : Cond.selects RX7 yX7_count yX7_count ∈ cx_tb := cx_tb_in 307 (by decide +kernel) (by decide +kernel)
theorem t_310 : Cond.methodLink RX8 88 yX7_addStem ∈ cx_tb := cx_tb_in 310 (by decide +kernel) (by decide +kernel)
theorem t_311 : Cond.instanceMethod yX7_addStem ∈ cx_tb := cx_tb_in 311 (by decide +kernel) (by decide +kernel)
theorem t_312 : Cond.selects RX7 yX7_addStem yX7_addStem ∈ cx_tb := cx_tb_in 312 (by decide +kernel) (by decide +kernel)
theorem t_317 : Cond.methodLink RX7 34 yX5_take ∈ cx_tb := cx_tb_in 317 (by decide +kernel) (by decide +kernel)
theorem t_318 : Cond.instanceMethod yX5_take ∈ cx_tb := cx_tb_in 318 (by decide +kernel) (by decide +kernel)
theorem t_319 : Cond.selects RX5 yX5_take yX5_take ∈ cx_tb := cx_tb_in 319 (by decide +kernel) (by decide +kernel)
theorem t_321 : Cond.methodLink RX5 17 yX5_empty ∈ cx_tb := cx_tb_in 321 (by decide +kernel) (by decide +kernel)
theorem t_322 : Cond.methodLink RX5 20 yX5_length ∈ cx_tb := cx_tb_in 322 (by decide +kernel) (by decide +kernel)
theorem t_323 : Cond.methodLink RX5 27 yX5_append ∈ cx_tb := cx_tb_in 323 (by decide +kernel) (by decide +kernel)
theorem t_324 : Cond.methodLink RL 99 yL_form ∈ cx_tb := cx_tb_in 324 (by decide +kernel) (by decide +kernel)
theorem t_325 : Cond.static yL_form ∈ cx_tb := cx_tb_in 325 (by decide +kernel) (by decide +kernel)
theorem t_329 : Cond.methodLink RL 19 yX8_form ∈ cx_tb := cx_tb_in 329 (by decide +kernel) (by decide +kernel)
theorem t_330 : Cond.instanceMethod yX8_form ∈ cx_tb := cx_tb_in 330 (by decide +kernel) (by decide +kernel)
theorem t_331 : Cond.selects RX8 yX8_form yX8_form ∈ cx_tb := cx_tb_in 331 (by decide +kernel) (by decide +kernel)
theorem t_333 : Cond.methodLink RX8 92 yX8_isLanguage ∈ cx_tb := cx_tb_in 333 (by decide +kernel) (by decide +kernel)
theorem t_334 : Cond.static yX8_isLanguage ∈ cx_tb := cx_tb_in 334 (by decide +kernel) (by decide +kernel)
theorem t_336 : Cond.methodLink RX8 104 yX8_isBelow ∈ cx_tb := cx_tb_in 336 (by decide +kernel) (by decide +kernel)
theorem t_315 : Cond.static yX8_isBelow ∈ cx_tb := cx_tb_in 315 (by decide +kernel) (by decide +kernel)
theorem t_337 : Cond.methodLink RX8 96 yX8_isWord ∈ cx_tb := cx_tb_in 337 (by decide +kernel) (by decide +kernel)
theorem t_339 : Cond.instanceMethod yX8_isWord ∈ cx_tb := cx_tb_in 339 (by decide +kernel) (by decide +kernel)
theorem t_1 : Cond.selects RX8 yX8_isWord yX8_isWord ∈ cx_tb := cx_tb_in 1 (by decide +kernel) (by decide +kernel)
theorem t_374 : Cond.methodLink RX8 114 yX7_setEnding ∈ cx_tb := cx_tb_in 374 (by decide +kernel) (by decide +kernel)
theorem t_375 : Cond.instanceMethod yX7_setEnding ∈ cx_tb := cx_tb_in 375 (by decide +kernel) (by decide +kernel)
theorem t_376 : Cond.selects RX7 yX7_setEnding yX7_setEnding ∈ cx_tb := cx_tb_in 376 (by decide +kernel) (by decide +kernel)
theorem t_378 : Cond.methodLink RX7 38 yX7_endingAt ∈ cx_tb := cx_tb_in 378 (by decide +kernel) (by decide +kernel)
theorem t_380 : Cond.instanceMethod yX7_endingAt ∈ cx_tb := cx_tb_in 380 (by decide +kernel) (by decide +kernel)
theorem t_2 : Cond.selects RX7 yX7_endingAt yX7_endingAt ∈ cx_tb := cx_tb_in 2 (by decide +kernel) (by decide +kernel)
theorem t_382 : Cond.methodLink RX8 118 yX7_setOwn ∈ cx_tb := cx_tb_in 382 (by decide +kernel) (by decide +kernel)
theorem t_383 : Cond.instanceMethod yX7_setOwn ∈ cx_tb := cx_tb_in 383 (by decide +kernel) (by decide +kernel)
theorem t_384 : Cond.selects RX7 yX7_setOwn yX7_setOwn ∈ cx_tb := cx_tb_in 384 (by decide +kernel) (by decide +kernel)
theorem t_386 : Cond.methodLink RX7 42 yX7_ownIndex ∈ cx_tb := cx_tb_in 386 (by decide +kernel) (by decide +kernel)
theorem t_387 : Cond.static yX7_ownIndex ∈ cx_tb := cx_tb_in 387 (by decide +kernel) (by decide +kernel)
theorem t_389 : Cond.methodLink RL 103 yL_clause ∈ cx_tb := cx_tb_in 389 (by decide +kernel) (by decide +kernel)
theorem t_390 : Cond.static yL_clause ∈ cx_tb := cx_tb_in 390 (by decide +kernel) (by decide +kernel)
theorem t_392 : Cond.methodLink RL 27 yX8_clause ∈ cx_tb := cx_tb_in 392 (by decide +kernel) (by decide +kernel)
theorem t_393 : Cond.instanceMethod yX8_clause ∈ cx_tb := cx_tb_in 393 (by decide +kernel) (by decide +kernel)
theorem t_394 : Cond.selects RX8 yX8_clause yX8_clause ∈ cx_tb := cx_tb_in 394 (by decide +kernel) (by decide +kernel)
theorem t_399 : Cond.methodLink RX8 130 yX0_init ∈ cx_tb := cx_tb_in 399 (by decide +kernel) (by decide +kernel)
theorem t_400 : Cond.instanceMethod yX0_init ∈ cx_tb := cx_tb_in 400 (by decide +kernel) (by decide +kernel)
theorem t_402 : Cond.methodLink RX0 3 objectInit ∈ cx_tb := cx_tb_in 402 (by decide +kernel) (by decide +kernel)
theorem t_409 : Cond.methodLink RX6 3 objectInit ∈ cx_tb := cx_tb_in 409 (by decide +kernel) (by decide +kernel)
theorem t_411 : Cond.methodLink RX6 11 yX5_init ∈ cx_tb := cx_tb_in 411 (by decide +kernel) (by decide +kernel)
theorem t_429 : Cond.methodLink RL 107 yL_text ∈ cx_tb := cx_tb_in 429 (by decide +kernel) (by decide +kernel)
theorem t_430 : Cond.static yL_text ∈ cx_tb := cx_tb_in 430 (by decide +kernel) (by decide +kernel)
theorem t_432 : Cond.methodLink RL 31 yX8_text ∈ cx_tb := cx_tb_in 432 (by decide +kernel) (by decide +kernel)
theorem t_433 : Cond.instanceMethod yX8_text ∈ cx_tb := cx_tb_in 433 (by decide +kernel) (by decide +kernel)
theorem t_434 : Cond.selects RX8 yX8_text yX8_text ∈ cx_tb := cx_tb_in 434 (by decide +kernel) (by decide +kernel)
theorem t_436 : Cond.methodLink RX8 131 yX8_templateAt ∈ cx_tb := cx_tb_in 436 (by decide +kernel) (by decide +kernel)
theorem t_438 : Cond.instanceMethod yX8_templateAt ∈ cx_tb := cx_tb_in 438 (by decide +kernel) (by decide +kernel)
theorem t_3 : Cond.selects RX8 yX8_templateAt yX8_templateAt ∈ cx_tb := cx_tb_in 3 (by decide +kernel) (by decide +kernel)
theorem t_440 : Cond.methodLink RX8 163 yX8_clauseAt ∈ cx_tb := cx_tb_in 440 (by decide +kernel) (by decide +kernel)
theorem t_442 : Cond.instanceMethod yX8_clauseAt ∈ cx_tb := cx_tb_in 442 (by decide +kernel) (by decide +kernel)
theorem t_4 : Cond.selects RX8 yX8_clauseAt yX8_clauseAt ∈ cx_tb := cx_tb_in 4 (by decide +kernel) (by decide +kernel)
theorem t_444 : Cond.methodLink RX8 278 yX0_templateIn ∈ cx_tb := cx_tb_in 444 (by decide +kernel) (by decide +kernel)
theorem t_445 : Cond.instanceMethod yX0_templateIn ∈ cx_tb := cx_tb_in 445 (by decide +kernel) (by decide +kernel)
theorem t_446 : Cond.selects RX0 yX0_templateIn yX0_templateIn ∈ cx_tb := cx_tb_in 446 (by decide +kernel) (by decide +kernel)
theorem t_451 : Cond.methodLink RX8 142 yX6_take ∈ cx_tb := cx_tb_in 451 (by decide +kernel) (by decide +kernel)
theorem t_452 : Cond.instanceMethod yX6_take ∈ cx_tb := cx_tb_in 452 (by decide +kernel) (by decide +kernel)
theorem t_453 : Cond.selects RX6 yX6_take yX6_take ∈ cx_tb := cx_tb_in 453 (by decide +kernel) (by decide +kernel)
theorem t_455 : Cond.methodLink RX6 28 yX5_take ∈ cx_tb := cx_tb_in 455 (by decide +kernel) (by decide +kernel)
theorem t_456 : Cond.methodLink RX8 148 yX6_slotCount ∈ cx_tb := cx_tb_in 456 (by decide +kernel) (by decide +kernel)
theorem t_457 : Cond.instanceMethod yX6_slotCount ∈ cx_tb := cx_tb_in 457 (by decide +kernel) (by decide +kernel)
theorem t_458 : Cond.selects RX6 yX6_slotCount yX6_slotCount ∈ cx_tb := cx_tb_in 458 (by decide +kernel) (by decide +kernel)
theorem t_460 : Cond.methodLink RX6 20 yX5_length ∈ cx_tb := cx_tb_in 460 (by decide +kernel) (by decide +kernel)
theorem t_461 : Cond.methodLink RX6 46 yX6_isSlot ∈ cx_tb := cx_tb_in 461 (by decide +kernel) (by decide +kernel)
theorem t_462 : Cond.instanceMethod yX6_isSlot ∈ cx_tb := cx_tb_in 462 (by decide +kernel) (by decide +kernel)
theorem t_463 : Cond.selects RX6 yX6_isSlot yX6_isSlot ∈ cx_tb := cx_tb_in 463 (by decide +kernel) (by decide +kernel)
theorem t_465 : Cond.methodLink RX6 32 yX5_at ∈ cx_tb := cx_tb_in 465 (by decide +kernel) (by decide +kernel)
theorem t_466 : Cond.methodLink RL 115 yL_approve ∈ cx_tb := cx_tb_in 466 (by decide +kernel) (by decide +kernel)
theorem t_467 : Cond.static yL_approve ∈ cx_tb := cx_tb_in 467 (by decide +kernel) (by decide +kernel)
theorem t_469 : Cond.methodLink RL 35 yX8_approve ∈ cx_tb := cx_tb_in 469 (by decide +kernel) (by decide +kernel)
theorem t_470 : Cond.instanceMethod yX8_approve ∈ cx_tb := cx_tb_in 470 (by decide +kernel) (by decide +kernel)
theorem t_471 : Cond.selects RX8 yX8_approve yX8_approve ∈ cx_tb := cx_tb_in 471 (by decide +kernel) (by decide +kernel)
theorem t_473 : Cond.methodLink RX8 151 yX6_isThere ∈ cx_tb := cx_tb_in 473 (by decide +kernel) (by decide +kernel)
theorem t_474 : Cond.instanceMethod yX6_isThere ∈ cx_tb := cx_tb_in 474 (by decide +kernel) (by decide +kernel)
theorem t_475 : Cond.selects RX6 yX6_isThere yX6_isThere ∈ cx_tb := cx_tb_in 475 (by decide +kernel) (by decide +kernel)
theorem t_478 : Cond.methodLink RX8 157 yX6_isApproved ∈ cx_tb := cx_tb_in 478 (by decide +kernel) (by decide +kernel)
theorem t_479 : Cond.instanceMethod yX6_isApproved ∈ cx_tb := cx_tb_in 479 (by decide +kernel) (by decide +kernel)
theorem t_480 : Cond.selects RX6 yX6_isApproved yX6_isApproved ∈ cx_tb := cx_tb_in 480 (by decide +kernel) (by decide +kernel)
theorem t_482 : Cond.methodLink RX8 160 yX6_setApproved ∈ cx_tb := cx_tb_in 482 (by decide +kernel) (by decide +kernel)
theorem t_483 : Cond.instanceMethod yX6_setApproved ∈ cx_tb := cx_tb_in 483 (by decide +kernel) (by decide +kernel)
theorem t_484 : Cond.selects RX6 yX6_setApproved yX6_setApproved ∈ cx_tb := cx_tb_in 484 (by decide +kernel) (by decide +kernel)
theorem t_486 : Cond.methodLink RL 118 yL_relate ∈ cx_tb := cx_tb_in 486 (by decide +kernel) (by decide +kernel)
theorem t_487 : Cond.static yL_relate ∈ cx_tb := cx_tb_in 487 (by decide +kernel) (by decide +kernel)
theorem t_489 : Cond.methodLink RL 39 yX8_relate ∈ cx_tb := cx_tb_in 489 (by decide +kernel) (by decide +kernel)
theorem t_490 : Cond.instanceMethod yX8_relate ∈ cx_tb := cx_tb_in 490 (by decide +kernel) (by decide +kernel)
theorem t_491 : Cond.selects RX8 yX8_relate yX8_relate ∈ cx_tb := cx_tb_in 491 (by decide +kernel) (by decide +kernel)
theorem t_495 : Cond.methodLink RX8 171 yX0_how ∈ cx_tb := cx_tb_in 495 (by decide +kernel) (by decide +kernel)
theorem t_496 : Cond.instanceMethod yX0_how ∈ cx_tb := cx_tb_in 496 (by decide +kernel) (by decide +kernel)
theorem t_497 : Cond.selects RX0 yX0_how yX0_how ∈ cx_tb := cx_tb_in 497 (by decide +kernel) (by decide +kernel)
theorem t_499 : Cond.methodLink RX0 30 yX0_howIndex ∈ cx_tb := cx_tb_in 499 (by decide +kernel) (by decide +kernel)
theorem t_501 : Cond.instanceMethod yX0_howIndex ∈ cx_tb := cx_tb_in 501 (by decide +kernel) (by decide +kernel)
theorem t_5 : Cond.selects RX0 yX0_howIndex yX0_howIndex ∈ cx_tb := cx_tb_in 5 (by decide +kernel) (by decide +kernel)
theorem t_503 : Cond.methodLink RX8 175 yX0_setHow ∈ cx_tb := cx_tb_in 503 (by decide +kernel) (by decide +kernel)
theorem t_504 : Cond.instanceMethod yX0_setHow ∈ cx_tb := cx_tb_in 504 (by decide +kernel) (by decide +kernel)
theorem t_505 : Cond.selects RX0 yX0_setHow yX0_setHow ∈ cx_tb := cx_tb_in 505 (by decide +kernel) (by decide +kernel)
theorem t_507 : Cond.methodLink RL 122 yL_isLinked ∈ cx_tb := cx_tb_in 507 (by decide +kernel) (by decide +kernel)
theorem t_508 : Cond.static yL_isLinked ∈ cx_tb := cx_tb_in 508 (by decide +kernel) (by decide +kernel)
theorem t_510 : Cond.methodLink RL 43 yX8_isLinked ∈ cx_tb := cx_tb_in 510 (by decide +kernel) (by decide +kernel)
theorem t_511 : Cond.instanceMethod yX8_isLinked ∈ cx_tb := cx_tb_in 511 (by decide +kernel) (by decide +kernel)
theorem t_512 : Cond.selects RX8 yX8_isLinked yX8_isLinked ∈ cx_tb := cx_tb_in 512 (by decide +kernel) (by decide +kernel)
theorem t_514 : Cond.methodLink RX8 179 yX0_hasSameSlots ∈ cx_tb := cx_tb_in 514 (by decide +kernel) (by decide +kernel)
theorem t_515 : Cond.instanceMethod yX0_hasSameSlots ∈ cx_tb := cx_tb_in 515 (by decide +kernel) (by decide +kernel)
theorem t_516 : Cond.selects RX0 yX0_hasSameSlots yX0_hasSameSlots ∈ cx_tb := cx_tb_in 516 (by decide +kernel) (by decide +kernel)
theorem t_518 : Cond.methodLink RX0 34 yX0_isSameCount ∈ cx_tb := cx_tb_in 518 (by decide +kernel) (by decide +kernel)
theorem t_520 : Cond.instanceMethod yX0_isSameCount ∈ cx_tb := cx_tb_in 520 (by decide +kernel) (by decide +kernel)
theorem t_6 : Cond.selects RX0 yX0_isSameCount yX0_isSameCount ∈ cx_tb := cx_tb_in 6 (by decide +kernel) (by decide +kernel)
theorem t_522 : Cond.methodLink RX0 38 yX0_templateIn ∈ cx_tb := cx_tb_in 522 (by decide +kernel) (by decide +kernel)
theorem t_523 : Cond.methodLink RX0 42 yX6_isThere ∈ cx_tb := cx_tb_in 523 (by decide +kernel) (by decide +kernel)
theorem t_524 : Cond.methodLink RX0 46 yX6_countOfSlot ∈ cx_tb := cx_tb_in 524 (by decide +kernel) (by decide +kernel)
theorem t_525 : Cond.instanceMethod yX6_countOfSlot ∈ cx_tb := cx_tb_in 525 (by decide +kernel) (by decide +kernel)
theorem t_526 : Cond.selects RX6 yX6_countOfSlot yX6_countOfSlot ∈ cx_tb := cx_tb_in 526 (by decide +kernel) (by decide +kernel)
theorem t_528 : Cond.methodLink RX6 50 yX6_slotAt ∈ cx_tb := cx_tb_in 528 (by decide +kernel) (by decide +kernel)
theorem t_529 : Cond.instanceMethod yX6_slotAt ∈ cx_tb := cx_tb_in 529 (by decide +kernel) (by decide +kernel)
theorem t_530 : Cond.selects RX6 yX6_slotAt yX6_slotAt ∈ cx_tb := cx_tb_in 530 (by decide +kernel) (by decide +kernel)
theorem t_533 : Cond.methodLink RL 125 yL_letter ∈ cx_tb := cx_tb_in 533 (by decide +kernel) (by decide +kernel)
theorem t_534 : Cond.static yL_letter ∈ cx_tb := cx_tb_in 534 (by decide +kernel) (by decide +kernel)
theorem t_536 : Cond.methodLink RL 47 yX8_letter ∈ cx_tb := cx_tb_in 536 (by decide +kernel) (by decide +kernel)
theorem t_537 : Cond.instanceMethod yX8_letter ∈ cx_tb := cx_tb_in 537 (by decide +kernel) (by decide +kernel)
theorem t_538 : Cond.selects RX8 yX8_letter yX8_letter ∈ cx_tb := cx_tb_in 538 (by decide +kernel) (by decide +kernel)
theorem t_545 : Cond.methodLink RX2 3 objectInit ∈ cx_tb := cx_tb_in 545 (by decide +kernel) (by decide +kernel)
theorem t_553 : Cond.methodLink RL 128 yL_put ∈ cx_tb := cx_tb_in 553 (by decide +kernel) (by decide +kernel)
theorem t_554 : Cond.static yL_put ∈ cx_tb := cx_tb_in 554 (by decide +kernel) (by decide +kernel)
theorem t_556 : Cond.methodLink RL 50 yX8_put ∈ cx_tb := cx_tb_in 556 (by decide +kernel) (by decide +kernel)
theorem t_557 : Cond.instanceMethod yX8_put ∈ cx_tb := cx_tb_in 557 (by decide +kernel) (by decide +kernel)
theorem t_558 : Cond.selects RX8 yX8_put yX8_put ∈ cx_tb := cx_tb_in 558 (by decide +kernel) (by decide +kernel)
theorem t_560 : Cond.methodLink RX8 188 yX8_letterAt ∈ cx_tb := cx_tb_in 560 (by decide +kernel) (by decide +kernel)
theorem t_562 : Cond.instanceMethod yX8_letterAt ∈ cx_tb := cx_tb_in 562 (by decide +kernel) (by decide +kernel)
theorem t_7 : Cond.selects RX8 yX8_letterAt yX8_letterAt ∈ cx_tb := cx_tb_in 7 (by decide +kernel) (by decide +kernel)
theorem t_565 : Cond.methodLink RX8 194 yX2_has ∈ cx_tb := cx_tb_in 565 (by decide +kernel) (by decide +kernel)
theorem t_566 : Cond.instanceMethod yX2_has ∈ cx_tb := cx_tb_in 566 (by decide +kernel) (by decide +kernel)
theorem t_567 : Cond.selects RX2 yX2_has yX2_has ∈ cx_tb := cx_tb_in 567 (by decide +kernel) (by decide +kernel)
theorem t_569 : Cond.methodLink RX2 23 yX2_at ∈ cx_tb := cx_tb_in 569 (by decide +kernel) (by decide +kernel)
theorem t_570 : Cond.instanceMethod yX2_at ∈ cx_tb := cx_tb_in 570 (by decide +kernel) (by decide +kernel)
theorem t_571 : Cond.selects RX2 yX2_at yX2_at ∈ cx_tb := cx_tb_in 571 (by decide +kernel) (by decide +kernel)
theorem t_574 : Cond.methodLink RX8 197 yX2_append ∈ cx_tb := cx_tb_in 574 (by decide +kernel) (by decide +kernel)
theorem t_575 : Cond.instanceMethod yX2_append ∈ cx_tb := cx_tb_in 575 (by decide +kernel) (by decide +kernel)
theorem t_576 : Cond.selects RX2 yX2_append yX2_append ∈ cx_tb := cx_tb_in 576 (by decide +kernel) (by decide +kernel)
theorem t_579 : Cond.methodLink RX8 201 yX2_count ∈ cx_tb := cx_tb_in 579 (by decide +kernel) (by decide +kernel)
theorem t_580 : Cond.instanceMethod yX2_count ∈ cx_tb := cx_tb_in 580 (by decide +kernel) (by decide +kernel)
theorem t_581 : Cond.selects RX2 yX2_count yX2_count ∈ cx_tb := cx_tb_in 581 (by decide +kernel) (by decide +kernel)
theorem t_583 : Cond.methodLink RL 131 yL_data ∈ cx_tb := cx_tb_in 583 (by decide +kernel) (by decide +kernel)
theorem t_584 : Cond.static yL_data ∈ cx_tb := cx_tb_in 584 (by decide +kernel) (by decide +kernel)
theorem t_586 : Cond.methodLink RL 53 yX8_data ∈ cx_tb := cx_tb_in 586 (by decide +kernel) (by decide +kernel)
theorem t_587 : Cond.instanceMethod yX8_data ∈ cx_tb := cx_tb_in 587 (by decide +kernel) (by decide +kernel)
theorem t_588 : Cond.selects RX8 yX8_data yX8_data ∈ cx_tb := cx_tb_in 588 (by decide +kernel) (by decide +kernel)
theorem t_594 : Cond.methodLink RX8 211 yX1_init ∈ cx_tb := cx_tb_in 594 (by decide +kernel) (by decide +kernel)
theorem t_595 : Cond.instanceMethod yX1_init ∈ cx_tb := cx_tb_in 595 (by decide +kernel) (by decide +kernel)
theorem t_597 : Cond.methodLink RX1 3 objectInit ∈ cx_tb := cx_tb_in 597 (by decide +kernel) (by decide +kernel)
theorem t_605 : Cond.methodLink RL 134 yL_fill ∈ cx_tb := cx_tb_in 605 (by decide +kernel) (by decide +kernel)
theorem t_606 : Cond.static yL_fill ∈ cx_tb := cx_tb_in 606 (by decide +kernel) (by decide +kernel)
theorem t_608 : Cond.methodLink RL 56 yX8_fill ∈ cx_tb := cx_tb_in 608 (by decide +kernel) (by decide +kernel)
theorem t_609 : Cond.instanceMethod yX8_fill ∈ cx_tb := cx_tb_in 609 (by decide +kernel) (by decide +kernel)
theorem t_610 : Cond.selects RX8 yX8_fill yX8_fill ∈ cx_tb := cx_tb_in 610 (by decide +kernel) (by decide +kernel)
theorem t_612 : Cond.methodLink RX8 214 yX8_dataAt ∈ cx_tb := cx_tb_in 612 (by decide +kernel) (by decide +kernel)
theorem t_614 : Cond.instanceMethod yX8_dataAt ∈ cx_tb := cx_tb_in 614 (by decide +kernel) (by decide +kernel)
theorem t_8 : Cond.selects RX8 yX8_dataAt yX8_dataAt ∈ cx_tb := cx_tb_in 8 (by decide +kernel) (by decide +kernel)
theorem t_617 : Cond.methodLink RX8 220 yX1_wordOf ∈ cx_tb := cx_tb_in 617 (by decide +kernel) (by decide +kernel)
theorem t_618 : Cond.instanceMethod yX1_wordOf ∈ cx_tb := cx_tb_in 618 (by decide +kernel) (by decide +kernel)
theorem t_619 : Cond.selects RX1 yX1_wordOf yX1_wordOf ∈ cx_tb := cx_tb_in 619 (by decide +kernel) (by decide +kernel)
theorem t_622 : Cond.methodLink RX8 224 yX1_setWord ∈ cx_tb := cx_tb_in 622 (by decide +kernel) (by decide +kernel)
theorem t_623 : Cond.instanceMethod yX1_setWord ∈ cx_tb := cx_tb_in 623 (by decide +kernel) (by decide +kernel)
theorem t_624 : Cond.selects RX1 yX1_setWord yX1_setWord ∈ cx_tb := cx_tb_in 624 (by decide +kernel) (by decide +kernel)
theorem t_626 : Cond.methodLink RL 137 yL_price ∈ cx_tb := cx_tb_in 626 (by decide +kernel) (by decide +kernel)
theorem t_627 : Cond.static yL_price ∈ cx_tb := cx_tb_in 627 (by decide +kernel) (by decide +kernel)
theorem t_629 : Cond.methodLink RL 59 yX8_price ∈ cx_tb := cx_tb_in 629 (by decide +kernel) (by decide +kernel)
theorem t_630 : Cond.instanceMethod yX8_price ∈ cx_tb := cx_tb_in 630 (by decide +kernel) (by decide +kernel)
theorem t_631 : Cond.selects RX8 yX8_price yX8_price ∈ cx_tb := cx_tb_in 631 (by decide +kernel) (by decide +kernel)
theorem t_635 : Cond.methodLink RL 140 yL_faultOf ∈ cx_tb := cx_tb_in 635 (by decide +kernel) (by decide +kernel)
theorem t_636 : Cond.static yL_faultOf ∈ cx_tb := cx_tb_in 636 (by decide +kernel) (by decide +kernel)
theorem t_638 : Cond.methodLink RL 62 yX8_faultOf ∈ cx_tb := cx_tb_in 638 (by decide +kernel) (by decide +kernel)
theorem t_639 : Cond.instanceMethod yX8_faultOf ∈ cx_tb := cx_tb_in 639 (by decide +kernel) (by decide +kernel)
theorem t_640 : Cond.selects RX8 yX8_faultOf yX8_faultOf ∈ cx_tb := cx_tb_in 640 (by decide +kernel) (by decide +kernel)
theorem t_644 : Cond.methodLink RX8 235 yX2_at ∈ cx_tb := cx_tb_in 644 (by decide +kernel) (by decide +kernel)
theorem t_645 : Cond.methodLink RX8 238 yX8_isIn ∈ cx_tb := cx_tb_in 645 (by decide +kernel) (by decide +kernel)
theorem t_647 : Cond.instanceMethod yX8_isIn ∈ cx_tb := cx_tb_in 647 (by decide +kernel) (by decide +kernel)
theorem t_9 : Cond.selects RX8 yX8_isIn yX8_isIn ∈ cx_tb := cx_tb_in 9 (by decide +kernel) (by decide +kernel)
theorem t_649 : Cond.methodLink RX8 300 yX0_condition ∈ cx_tb := cx_tb_in 649 (by decide +kernel) (by decide +kernel)
theorem t_650 : Cond.instanceMethod yX0_condition ∈ cx_tb := cx_tb_in 650 (by decide +kernel) (by decide +kernel)
theorem t_651 : Cond.selects RX0 yX0_condition yX0_condition ∈ cx_tb := cx_tb_in 651 (by decide +kernel) (by decide +kernel)
theorem t_653 : Cond.methodLink RX8 303 yX1_meets ∈ cx_tb := cx_tb_in 653 (by decide +kernel) (by decide +kernel)
theorem t_654 : Cond.instanceMethod yX1_meets ∈ cx_tb := cx_tb_in 654 (by decide +kernel) (by decide +kernel)
theorem t_655 : Cond.selects RX1 yX1_meets yX1_meets ∈ cx_tb := cx_tb_in 655 (by decide +kernel) (by decide +kernel)
theorem t_657 : Cond.methodLink RX8 242 yX8_faultAt ∈ cx_tb := cx_tb_in 657 (by decide +kernel) (by decide +kernel)
theorem t_659 : Cond.instanceMethod yX8_faultAt ∈ cx_tb := cx_tb_in 659 (by decide +kernel) (by decide +kernel)
theorem t_10 : Cond.selects RX8 yX8_faultAt yX8_faultAt ∈ cx_tb := cx_tb_in 10 (by decide +kernel) (by decide +kernel)
theorem t_661 : Cond.methodLink RX8 306 yX8_isRelated ∈ cx_tb := cx_tb_in 661 (by decide +kernel) (by decide +kernel)
theorem t_663 : Cond.instanceMethod yX8_isRelated ∈ cx_tb := cx_tb_in 663 (by decide +kernel) (by decide +kernel)
theorem t_11 : Cond.selects RX8 yX8_isRelated yX8_isRelated ∈ cx_tb := cx_tb_in 11 (by decide +kernel) (by decide +kernel)
theorem t_665 : Cond.methodLink RL 143 yL_sign ∈ cx_tb := cx_tb_in 665 (by decide +kernel) (by decide +kernel)
theorem t_666 : Cond.static yL_sign ∈ cx_tb := cx_tb_in 666 (by decide +kernel) (by decide +kernel)
theorem t_668 : Cond.methodLink RL 65 yX8_sign ∈ cx_tb := cx_tb_in 668 (by decide +kernel) (by decide +kernel)
theorem t_669 : Cond.instanceMethod yX8_sign ∈ cx_tb := cx_tb_in 669 (by decide +kernel) (by decide +kernel)
theorem t_670 : Cond.selects RX8 yX8_sign yX8_sign ∈ cx_tb := cx_tb_in 670 (by decide +kernel) (by decide +kernel)
theorem t_673 : Cond.methodLink RX8 248 yX8_build ∈ cx_tb := cx_tb_in 673 (by decide +kernel) (by decide +kernel)
theorem t_675 : Cond.instanceMethod yX8_build ∈ cx_tb := cx_tb_in 675 (by decide +kernel) (by decide +kernel)
theorem t_12 : Cond.selects RX8 yX8_build yX8_build ∈ cx_tb := cx_tb_in 12 (by decide +kernel) (by decide +kernel)
theorem t_677 : Cond.methodLink RX8 310 yX3_start ∈ cx_tb := cx_tb_in 677 (by decide +kernel) (by decide +kernel)
theorem t_678 : Cond.instanceMethod yX3_start ∈ cx_tb := cx_tb_in 678 (by decide +kernel) (by decide +kernel)
theorem t_679 : Cond.selects RX3 yX3_start yX3_start ∈ cx_tb := cx_tb_in 679 (by decide +kernel) (by decide +kernel)
theorem t_681 : Cond.methodLink RX3 24 yX5_empty ∈ cx_tb := cx_tb_in 681 (by decide +kernel) (by decide +kernel)
theorem t_682 : Cond.methodLink RX8 312 yX8_laidAt ∈ cx_tb := cx_tb_in 682 (by decide +kernel) (by decide +kernel)
theorem t_684 : Cond.instanceMethod yX8_laidAt ∈ cx_tb := cx_tb_in 684 (by decide +kernel) (by decide +kernel)
theorem t_13 : Cond.selects RX8 yX8_laidAt yX8_laidAt ∈ cx_tb := cx_tb_in 13 (by decide +kernel) (by decide +kernel)
theorem t_686 : Cond.methodLink RX8 316 yX3_length ∈ cx_tb := cx_tb_in 686 (by decide +kernel) (by decide +kernel)
theorem t_687 : Cond.instanceMethod yX3_length ∈ cx_tb := cx_tb_in 687 (by decide +kernel) (by decide +kernel)
theorem t_688 : Cond.selects RX3 yX3_length yX3_length ∈ cx_tb := cx_tb_in 688 (by decide +kernel) (by decide +kernel)
theorem t_690 : Cond.methodLink RX3 39 yX5_length ∈ cx_tb := cx_tb_in 690 (by decide +kernel) (by decide +kernel)
theorem t_691 : Cond.methodLink RX8 317 yX3_lay ∈ cx_tb := cx_tb_in 691 (by decide +kernel) (by decide +kernel)
theorem t_692 : Cond.instanceMethod yX3_lay ∈ cx_tb := cx_tb_in 692 (by decide +kernel) (by decide +kernel)
theorem t_693 : Cond.selects RX3 yX3_lay yX3_lay ∈ cx_tb := cx_tb_in 693 (by decide +kernel) (by decide +kernel)
theorem t_698 : Cond.methodLink RX3 31 yX5_append ∈ cx_tb := cx_tb_in 698 (by decide +kernel) (by decide +kernel)
theorem t_702 : Cond.methodLink RX8 321 yX8_layTemplate ∈ cx_tb := cx_tb_in 702 (by decide +kernel) (by decide +kernel)
theorem t_704 : Cond.instanceMethod yX8_layTemplate ∈ cx_tb := cx_tb_in 704 (by decide +kernel) (by decide +kernel)
theorem t_14 : Cond.selects RX8 yX8_layTemplate yX8_layTemplate ∈ cx_tb := cx_tb_in 14 (by decide +kernel) (by decide +kernel)
theorem t_706 : Cond.methodLink RX8 325 yX6_length ∈ cx_tb := cx_tb_in 706 (by decide +kernel) (by decide +kernel)
theorem t_707 : Cond.instanceMethod yX6_length ∈ cx_tb := cx_tb_in 707 (by decide +kernel) (by decide +kernel)
theorem t_708 : Cond.selects RX6 yX6_length yX6_length ∈ cx_tb := cx_tb_in 708 (by decide +kernel) (by decide +kernel)
theorem t_710 : Cond.methodLink RX8 326 yX6_isSlot ∈ cx_tb := cx_tb_in 710 (by decide +kernel) (by decide +kernel)
theorem t_711 : Cond.methodLink RX8 329 yX6_slotAt ∈ cx_tb := cx_tb_in 711 (by decide +kernel) (by decide +kernel)
theorem t_712 : Cond.methodLink RX8 332 yX6_grammarAt ∈ cx_tb := cx_tb_in 712 (by decide +kernel) (by decide +kernel)
theorem t_713 : Cond.instanceMethod yX6_grammarAt ∈ cx_tb := cx_tb_in 713 (by decide +kernel) (by decide +kernel)
theorem t_714 : Cond.selects RX6 yX6_grammarAt yX6_grammarAt ∈ cx_tb := cx_tb_in 714 (by decide +kernel) (by decide +kernel)
theorem t_718 : Cond.methodLink RX8 335 yX8_layForm ∈ cx_tb := cx_tb_in 718 (by decide +kernel) (by decide +kernel)
theorem t_720 : Cond.instanceMethod yX8_layForm ∈ cx_tb := cx_tb_in 720 (by decide +kernel) (by decide +kernel)
theorem t_15 : Cond.selects RX8 yX8_layForm yX8_layForm ∈ cx_tb := cx_tb_in 15 (by decide +kernel) (by decide +kernel)
theorem t_722 : Cond.methodLink RX8 339 yX7_formLength ∈ cx_tb := cx_tb_in 722 (by decide +kernel) (by decide +kernel)
theorem t_723 : Cond.instanceMethod yX7_formLength ∈ cx_tb := cx_tb_in 723 (by decide +kernel) (by decide +kernel)
theorem t_724 : Cond.selects RX7 yX7_formLength yX7_formLength ∈ cx_tb := cx_tb_in 724 (by decide +kernel) (by decide +kernel)
theorem t_726 : Cond.methodLink RX7 46 yX7_ownAt ∈ cx_tb := cx_tb_in 726 (by decide +kernel) (by decide +kernel)
theorem t_728 : Cond.instanceMethod yX7_ownAt ∈ cx_tb := cx_tb_in 728 (by decide +kernel) (by decide +kernel)
theorem t_16 : Cond.selects RX7 yX7_ownAt yX7_ownAt ∈ cx_tb := cx_tb_in 16 (by decide +kernel) (by decide +kernel)
theorem t_730 : Cond.methodLink RX7 50 yX5_length ∈ cx_tb := cx_tb_in 730 (by decide +kernel) (by decide +kernel)
theorem t_731 : Cond.methodLink RX7 54 yX7_stemAt ∈ cx_tb := cx_tb_in 731 (by decide +kernel) (by decide +kernel)
theorem t_733 : Cond.instanceMethod yX7_stemAt ∈ cx_tb := cx_tb_in 733 (by decide +kernel) (by decide +kernel)
theorem t_17 : Cond.selects RX7 yX7_stemAt yX7_stemAt ∈ cx_tb := cx_tb_in 17 (by decide +kernel) (by decide +kernel)
theorem t_735 : Cond.methodLink RX7 58 yX7_keptOfStem ∈ cx_tb := cx_tb_in 735 (by decide +kernel) (by decide +kernel)
theorem t_736 : Cond.static yX7_keptOfStem ∈ cx_tb := cx_tb_in 736 (by decide +kernel) (by decide +kernel)
theorem t_738 : Cond.methodLink RX7 62 yX5_at ∈ cx_tb := cx_tb_in 738 (by decide +kernel) (by decide +kernel)
theorem t_742 : Cond.methodLink RX8 343 yX7_formSign ∈ cx_tb := cx_tb_in 742 (by decide +kernel) (by decide +kernel)
theorem t_743 : Cond.instanceMethod yX7_formSign ∈ cx_tb := cx_tb_in 743 (by decide +kernel) (by decide +kernel)
theorem t_744 : Cond.selects RX7 yX7_formSign yX7_formSign ∈ cx_tb := cx_tb_in 744 (by decide +kernel) (by decide +kernel)
theorem t_746 : Cond.methodLink RX8 338 yX6_at ∈ cx_tb := cx_tb_in 746 (by decide +kernel) (by decide +kernel)
theorem t_747 : Cond.instanceMethod yX6_at ∈ cx_tb := cx_tb_in 747 (by decide +kernel) (by decide +kernel)
theorem t_748 : Cond.selects RX6 yX6_at yX6_at ∈ cx_tb := cx_tb_in 748 (by decide +kernel) (by decide +kernel)
theorem t_750 : Cond.methodLink RX8 252 yX3_at ∈ cx_tb := cx_tb_in 750 (by decide +kernel) (by decide +kernel)
theorem t_751 : Cond.instanceMethod yX3_at ∈ cx_tb := cx_tb_in 751 (by decide +kernel) (by decide +kernel)
theorem t_752 : Cond.selects RX3 yX3_at yX3_at ∈ cx_tb := cx_tb_in 752 (by decide +kernel) (by decide +kernel)
theorem t_754 : Cond.methodLink RX3 43 yX5_at ∈ cx_tb := cx_tb_in 754 (by decide +kernel) (by decide +kernel)
theorem t_755 : Cond.methodLink RL 146 yL_signAnew ∈ cx_tb := cx_tb_in 755 (by decide +kernel) (by decide +kernel)
theorem t_756 : Cond.static yL_signAnew ∈ cx_tb := cx_tb_in 756 (by decide +kernel) (by decide +kernel)
theorem t_758 : Cond.methodLink RL 69 yX8_signAnew ∈ cx_tb := cx_tb_in 758 (by decide +kernel) (by decide +kernel)
theorem t_759 : Cond.instanceMethod yX8_signAnew ∈ cx_tb := cx_tb_in 759 (by decide +kernel) (by decide +kernel)
theorem t_760 : Cond.selects RX8 yX8_signAnew yX8_signAnew ∈ cx_tb := cx_tb_in 760 (by decide +kernel) (by decide +kernel)
theorem t_762 : Cond.methodLink RX8 255 yX4_start ∈ cx_tb := cx_tb_in 762 (by decide +kernel) (by decide +kernel)
theorem t_763 : Cond.instanceMethod yX4_start ∈ cx_tb := cx_tb_in 763 (by decide +kernel) (by decide +kernel)
theorem t_764 : Cond.selects RX4 yX4_start yX4_start ∈ cx_tb := cx_tb_in 764 (by decide +kernel) (by decide +kernel)
theorem t_766 : Cond.methodLink RX8 258 yX8_seek ∈ cx_tb := cx_tb_in 766 (by decide +kernel) (by decide +kernel)
theorem t_768 : Cond.instanceMethod yX8_seek ∈ cx_tb := cx_tb_in 768 (by decide +kernel) (by decide +kernel)
theorem t_18 : Cond.selects RX8 yX8_seek yX8_seek ∈ cx_tb := cx_tb_in 18 (by decide +kernel) (by decide +kernel)
theorem t_770 : Cond.methodLink RX8 347 yX4_isDone ∈ cx_tb := cx_tb_in 770 (by decide +kernel) (by decide +kernel)
theorem t_771 : Cond.instanceMethod yX4_isDone ∈ cx_tb := cx_tb_in 771 (by decide +kernel) (by decide +kernel)
theorem t_772 : Cond.selects RX4 yX4_isDone yX4_isDone ∈ cx_tb := cx_tb_in 772 (by decide +kernel) (by decide +kernel)
theorem t_774 : Cond.methodLink RX8 350 yX4_pass ∈ cx_tb := cx_tb_in 774 (by decide +kernel) (by decide +kernel)
theorem t_775 : Cond.instanceMethod yX4_pass ∈ cx_tb := cx_tb_in 775 (by decide +kernel) (by decide +kernel)
theorem t_776 : Cond.selects RX4 yX4_pass yX4_pass ∈ cx_tb := cx_tb_in 776 (by decide +kernel) (by decide +kernel)
theorem t_780 : Cond.methodLink RX8 353 yX8_seekTemplate ∈ cx_tb := cx_tb_in 780 (by decide +kernel) (by decide +kernel)
theorem t_782 : Cond.instanceMethod yX8_seekTemplate ∈ cx_tb := cx_tb_in 782 (by decide +kernel) (by decide +kernel)
theorem t_19 : Cond.selects RX8 yX8_seekTemplate yX8_seekTemplate ∈ cx_tb := cx_tb_in 19 (by decide +kernel) (by decide +kernel)
theorem t_784 : Cond.methodLink RX8 356 yX4_left ∈ cx_tb := cx_tb_in 784 (by decide +kernel) (by decide +kernel)
theorem t_785 : Cond.instanceMethod yX4_left ∈ cx_tb := cx_tb_in 785 (by decide +kernel) (by decide +kernel)
theorem t_786 : Cond.selects RX4 yX4_left yX4_left ∈ cx_tb := cx_tb_in 786 (by decide +kernel) (by decide +kernel)
theorem t_788 : Cond.methodLink RX8 359 yX4_passForm ∈ cx_tb := cx_tb_in 788 (by decide +kernel) (by decide +kernel)
theorem t_789 : Cond.instanceMethod yX4_passForm ∈ cx_tb := cx_tb_in 789 (by decide +kernel) (by decide +kernel)
theorem t_790 : Cond.selects RX4 yX4_passForm yX4_passForm ∈ cx_tb := cx_tb_in 790 (by decide +kernel) (by decide +kernel)
theorem t_792 : Cond.methodLink RX8 261 yX4_found ∈ cx_tb := cx_tb_in 792 (by decide +kernel) (by decide +kernel)
theorem t_793 : Cond.instanceMethod yX4_found ∈ cx_tb := cx_tb_in 793 (by decide +kernel) (by decide +kernel)
theorem t_794 : Cond.selects RX4 yX4_found yX4_found ∈ cx_tb := cx_tb_in 794 (by decide +kernel) (by decide +kernel)
theorem t_796 : Cond.methodLink RL 149 yL_costs ∈ cx_tb := cx_tb_in 796 (by decide +kernel) (by decide +kernel)
theorem t_797 : Cond.static yL_costs ∈ cx_tb := cx_tb_in 797 (by decide +kernel) (by decide +kernel)
theorem t_799 : Cond.methodLink RL 72 yX8_costs ∈ cx_tb := cx_tb_in 799 (by decide +kernel) (by decide +kernel)
theorem t_800 : Cond.instanceMethod yX8_costs ∈ cx_tb := cx_tb_in 800 (by decide +kernel) (by decide +kernel)
theorem t_801 : Cond.selects RX8 yX8_costs yX8_costs ∈ cx_tb := cx_tb_in 801 (by decide +kernel) (by decide +kernel)
theorem t_803 : Cond.methodLink RX8 265 yX3_countWords ∈ cx_tb := cx_tb_in 803 (by decide +kernel) (by decide +kernel)
theorem t_804 : Cond.instanceMethod yX3_countWords ∈ cx_tb := cx_tb_in 804 (by decide +kernel) (by decide +kernel)
theorem t_805 : Cond.selects RX3 yX3_countWords yX3_countWords ∈ cx_tb := cx_tb_in 805 (by decide +kernel) (by decide +kernel)
theorem t_807 : Cond.methodLink RL 152 yL_sample ∈ cx_tb := cx_tb_in 807 (by decide +kernel) (by decide +kernel)
theorem t_808 : Cond.static yL_sample ∈ cx_tb := cx_tb_in 808 (by decide +kernel) (by decide +kernel)
theorem t_810 : Cond.methodLink RL 75 yX8_sample ∈ cx_tb := cx_tb_in 810 (by decide +kernel) (by decide +kernel)
theorem t_811 : Cond.instanceMethod yX8_sample ∈ cx_tb := cx_tb_in 811 (by decide +kernel) (by decide +kernel)
theorem t_812 : Cond.selects RX8 yX8_sample yX8_sample ∈ cx_tb := cx_tb_in 812 (by decide +kernel) (by decide +kernel)
theorem t_815 : Cond.methodLink RX8 270 yX8_mostBranches ∈ cx_tb := cx_tb_in 815 (by decide +kernel) (by decide +kernel)
theorem t_817 : Cond.instanceMethod yX8_mostBranches ∈ cx_tb := cx_tb_in 817 (by decide +kernel) (by decide +kernel)
theorem t_20 : Cond.selects RX8 yX8_mostBranches yX8_mostBranches ∈ cx_tb := cx_tb_in 20 (by decide +kernel) (by decide +kernel)
theorem t_819 : Cond.methodLink RX8 274 yX8_branches ∈ cx_tb := cx_tb_in 819 (by decide +kernel) (by decide +kernel)
theorem t_821 : Cond.instanceMethod yX8_branches ∈ cx_tb := cx_tb_in 821 (by decide +kernel) (by decide +kernel)
theorem t_21 : Cond.selects RX8 yX8_branches yX8_branches ∈ cx_tb := cx_tb_in 21 (by decide +kernel) (by decide +kernel)
theorem t_823 : Cond.methodLink RX8 363 yJ_bitCount ∈ cx_tb := cx_tb_in 823 (by decide +kernel) (by decide +kernel)
theorem t_824 : Cond.static yJ_bitCount ∈ cx_tb := cx_tb_in 824 (by decide +kernel) (by decide +kernel)
theorem t_831 : Cond.methodLink RL 81 yX9_init ∈ cx_tb := cx_tb_in 831 (by decide +kernel) (by decide +kernel)
theorem t_832 : Cond.instanceMethod yX9_init ∈ cx_tb := cx_tb_in 832 (by decide +kernel) (by decide +kernel)
theorem t_834 : Cond.methodLink RX9 1 objectInit ∈ cx_tb := cx_tb_in 834 (by decide +kernel) (by decide +kernel)
theorem t_918 : Cond.methodLink RL 88 yX9_thrown ∈ cx_tb := cx_tb_in 918 (by decide +kernel) (by decide +kernel)
theorem t_919 : Cond.instanceMethod yX9_thrown ∈ cx_tb := cx_tb_in 919 (by decide +kernel) (by decide +kernel)
theorem t_920 : Cond.selects RX9 yX9_thrown yX9_thrown ∈ cx_tb := cx_tb_in 920 (by decide +kernel) (by decide +kernel)
theorem t_922 : Cond.methodLink RL 87 yX9_type ∈ cx_tb := cx_tb_in 922 (by decide +kernel) (by decide +kernel)
theorem t_923 : Cond.instanceMethod yX9_type ∈ cx_tb := cx_tb_in 923 (by decide +kernel) (by decide +kernel)
theorem t_924 : Cond.selects RX9 yX9_type yX9_type ∈ cx_tb := cx_tb_in 924 (by decide +kernel) (by decide +kernel)
theorem t_926 : Cond.methodLink RX9 92 yX9_goes ∈ cx_tb := cx_tb_in 926 (by decide +kernel) (by decide +kernel)
theorem t_928 : Cond.instanceMethod yX9_goes ∈ cx_tb := cx_tb_in 928 (by decide +kernel) (by decide +kernel)
theorem t_22 : Cond.selects RX9 yX9_goes yX9_goes ∈ cx_tb := cx_tb_in 22 (by decide +kernel) (by decide +kernel)
theorem t_930 : Cond.methodLink RL 94 yX9_clear ∈ cx_tb := cx_tb_in 930 (by decide +kernel) (by decide +kernel)
theorem t_931 : Cond.instanceMethod yX9_clear ∈ cx_tb := cx_tb_in 931 (by decide +kernel) (by decide +kernel)
theorem t_932 : Cond.selects RX9 yX9_clear yX9_clear ∈ cx_tb := cx_tb_in 932 (by decide +kernel) (by decide +kernel)
theorem t_934 : Cond.methodLink RL 98 yX9_word ∈ cx_tb := cx_tb_in 934 (by decide +kernel) (by decide +kernel)
theorem t_935 : Cond.instanceMethod yX9_word ∈ cx_tb := cx_tb_in 935 (by decide +kernel) (by decide +kernel)
theorem t_936 : Cond.selects RX9 yX9_word yX9_word ∈ cx_tb := cx_tb_in 936 (by decide +kernel) (by decide +kernel)
theorem t_938 : Cond.methodLink RX9 100 yX9_isAll ∈ cx_tb := cx_tb_in 938 (by decide +kernel) (by decide +kernel)
theorem t_940 : Cond.instanceMethod yX9_isAll ∈ cx_tb := cx_tb_in 940 (by decide +kernel) (by decide +kernel)
theorem t_23 : Cond.selects RX9 yX9_isAll yX9_isAll ∈ cx_tb := cx_tb_in 23 (by decide +kernel) (by decide +kernel)
theorem t_942 : Cond.methodLink RX9 96 yX9_isSmall ∈ cx_tb := cx_tb_in 942 (by decide +kernel) (by decide +kernel)
theorem t_943 : Cond.static yX9_isSmall ∈ cx_tb := cx_tb_in 943 (by decide +kernel) (by decide +kernel)
theorem t_945 : Cond.methodLink RX9 104 yX9_takes ∈ cx_tb := cx_tb_in 945 (by decide +kernel) (by decide +kernel)
theorem t_947 : Cond.instanceMethod yX9_takes ∈ cx_tb := cx_tb_in 947 (by decide +kernel) (by decide +kernel)
theorem t_24 : Cond.selects RX9 yX9_takes yX9_takes ∈ cx_tb := cx_tb_in 24 (by decide +kernel) (by decide +kernel)
theorem t_949 : Cond.methodLink RL 102 yX9_form ∈ cx_tb := cx_tb_in 949 (by decide +kernel) (by decide +kernel)
theorem t_950 : Cond.instanceMethod yX9_form ∈ cx_tb := cx_tb_in 950 (by decide +kernel) (by decide +kernel)
theorem t_951 : Cond.selects RX9 yX9_form yX9_form ∈ cx_tb := cx_tb_in 951 (by decide +kernel) (by decide +kernel)
theorem t_953 : Cond.methodLink RX9 108 yX9_isLanguage ∈ cx_tb := cx_tb_in 953 (by decide +kernel) (by decide +kernel)
theorem t_954 : Cond.static yX9_isLanguage ∈ cx_tb := cx_tb_in 954 (by decide +kernel) (by decide +kernel)
theorem t_956 : Cond.methodLink RX9 73 yX9_isIn ∈ cx_tb := cx_tb_in 956 (by decide +kernel) (by decide +kernel)
theorem t_957 : Cond.static yX9_isIn ∈ cx_tb := cx_tb_in 957 (by decide +kernel) (by decide +kernel)
theorem t_959 : Cond.methodLink RX9 111 yX9_isWord ∈ cx_tb := cx_tb_in 959 (by decide +kernel) (by decide +kernel)
theorem t_961 : Cond.instanceMethod yX9_isWord ∈ cx_tb := cx_tb_in 961 (by decide +kernel) (by decide +kernel)
theorem t_25 : Cond.selects RX9 yX9_isWord yX9_isWord ∈ cx_tb := cx_tb_in 25 (by decide +kernel) (by decide +kernel)
theorem t_963 : Cond.methodLink RL 106 yX9_clause ∈ cx_tb := cx_tb_in 963 (by decide +kernel) (by decide +kernel)
theorem t_964 : Cond.instanceMethod yX9_clause ∈ cx_tb := cx_tb_in 964 (by decide +kernel) (by decide +kernel)
theorem t_965 : Cond.selects RX9 yX9_clause yX9_clause ∈ cx_tb := cx_tb_in 965 (by decide +kernel) (by decide +kernel)
theorem t_967 : Cond.methodLink RL 114 yX9_fault ∈ cx_tb := cx_tb_in 967 (by decide +kernel) (by decide +kernel)
theorem t_968 : Cond.instanceMethod yX9_fault ∈ cx_tb := cx_tb_in 968 (by decide +kernel) (by decide +kernel)
theorem t_969 : Cond.selects RX9 yX9_fault yX9_fault ∈ cx_tb := cx_tb_in 969 (by decide +kernel) (by decide +kernel)
theorem t_971 : Cond.methodLink RX9 121 yX9_faultOfBuffer ∈ cx_tb := cx_tb_in 971 (by decide +kernel) (by decide +kernel)
theorem t_973 : Cond.instanceMethod yX9_faultOfBuffer ∈ cx_tb := cx_tb_in 973 (by decide +kernel) (by decide +kernel)
theorem t_26 : Cond.selects RX9 yX9_faultOfBuffer yX9_faultOfBuffer ∈ cx_tb := cx_tb_in 26 (by decide +kernel) (by decide +kernel)
theorem t_975 : Cond.methodLink RX9 117 yX9_behind ∈ cx_tb := cx_tb_in 975 (by decide +kernel) (by decide +kernel)
theorem t_976 : Cond.static yX9_behind ∈ cx_tb := cx_tb_in 976 (by decide +kernel) (by decide +kernel)
theorem t_978 : Cond.methodLink RX9 114 yX9_isCase ∈ cx_tb := cx_tb_in 978 (by decide +kernel) (by decide +kernel)
theorem t_979 : Cond.static yX9_isCase ∈ cx_tb := cx_tb_in 979 (by decide +kernel) (by decide +kernel)
theorem t_981 : Cond.methodLink RL 110 yX9_text ∈ cx_tb := cx_tb_in 981 (by decide +kernel) (by decide +kernel)
theorem t_982 : Cond.instanceMethod yX9_text ∈ cx_tb := cx_tb_in 982 (by decide +kernel) (by decide +kernel)
theorem t_983 : Cond.selects RX9 yX9_text yX9_text ∈ cx_tb := cx_tb_in 983 (by decide +kernel) (by decide +kernel)
theorem t_985 : Cond.methodLink RX9 125 yX9_isClause ∈ cx_tb := cx_tb_in 985 (by decide +kernel) (by decide +kernel)
theorem t_987 : Cond.instanceMethod yX9_isClause ∈ cx_tb := cx_tb_in 987 (by decide +kernel) (by decide +kernel)
theorem t_27 : Cond.selects RX9 yX9_isClause yX9_isClause ∈ cx_tb := cx_tb_in 27 (by decide +kernel) (by decide +kernel)
theorem t_989 : Cond.methodLink RX9 128 yX9_at ∈ cx_tb := cx_tb_in 989 (by decide +kernel) (by decide +kernel)
theorem t_990 : Cond.static yX9_at ∈ cx_tb := cx_tb_in 990 (by decide +kernel) (by decide +kernel)
theorem t_992 : Cond.methodLink RL 117 yX9_approve ∈ cx_tb := cx_tb_in 992 (by decide +kernel) (by decide +kernel)
theorem t_993 : Cond.instanceMethod yX9_approve ∈ cx_tb := cx_tb_in 993 (by decide +kernel) (by decide +kernel)
theorem t_994 : Cond.selects RX9 yX9_approve yX9_approve ∈ cx_tb := cx_tb_in 994 (by decide +kernel) (by decide +kernel)
theorem t_996 : Cond.methodLink RL 121 yX9_relate ∈ cx_tb := cx_tb_in 996 (by decide +kernel) (by decide +kernel)
theorem t_997 : Cond.instanceMethod yX9_relate ∈ cx_tb := cx_tb_in 997 (by decide +kernel) (by decide +kernel)
theorem t_998 : Cond.selects RX9 yX9_relate yX9_relate ∈ cx_tb := cx_tb_in 998 (by decide +kernel) (by decide +kernel)
theorem t_1000 : Cond.methodLink RL 124 yX9_isLinked ∈ cx_tb := cx_tb_in 1000 (by decide +kernel) (by decide +kernel)
theorem t_1001 : Cond.instanceMethod yX9_isLinked ∈ cx_tb := cx_tb_in 1001 (by decide +kernel) (by decide +kernel)
theorem t_1002 : Cond.selects RX9 yX9_isLinked yX9_isLinked ∈ cx_tb := cx_tb_in 1002 (by decide +kernel) (by decide +kernel)
theorem t_1004 : Cond.methodLink RX9 132 yX9_often ∈ cx_tb := cx_tb_in 1004 (by decide +kernel) (by decide +kernel)
theorem t_1006 : Cond.instanceMethod yX9_often ∈ cx_tb := cx_tb_in 1006 (by decide +kernel) (by decide +kernel)
theorem t_28 : Cond.selects RX9 yX9_often yX9_often ∈ cx_tb := cx_tb_in 28 (by decide +kernel) (by decide +kernel)
theorem t_1008 : Cond.methodLink RL 127 yX9_letter ∈ cx_tb := cx_tb_in 1008 (by decide +kernel) (by decide +kernel)
theorem t_1009 : Cond.instanceMethod yX9_letter ∈ cx_tb := cx_tb_in 1009 (by decide +kernel) (by decide +kernel)
theorem t_1010 : Cond.selects RX9 yX9_letter yX9_letter ∈ cx_tb := cx_tb_in 1010 (by decide +kernel) (by decide +kernel)
theorem t_1012 : Cond.methodLink RL 130 yX9_put ∈ cx_tb := cx_tb_in 1012 (by decide +kernel) (by decide +kernel)
theorem t_1013 : Cond.instanceMethod yX9_put ∈ cx_tb := cx_tb_in 1013 (by decide +kernel) (by decide +kernel)
theorem t_1014 : Cond.selects RX9 yX9_put yX9_put ∈ cx_tb := cx_tb_in 1014 (by decide +kernel) (by decide +kernel)
theorem t_1016 : Cond.methodLink RX9 135 yX9_isLetter ∈ cx_tb := cx_tb_in 1016 (by decide +kernel) (by decide +kernel)
theorem t_1018 : Cond.instanceMethod yX9_isLetter ∈ cx_tb := cx_tb_in 1018 (by decide +kernel) (by decide +kernel)
theorem t_29 : Cond.selects RX9 yX9_isLetter yX9_isLetter ∈ cx_tb := cx_tb_in 29 (by decide +kernel) (by decide +kernel)
theorem t_1020 : Cond.methodLink RX9 138 yX9_has ∈ cx_tb := cx_tb_in 1020 (by decide +kernel) (by decide +kernel)
theorem t_1022 : Cond.instanceMethod yX9_has ∈ cx_tb := cx_tb_in 1022 (by decide +kernel) (by decide +kernel)
theorem t_30 : Cond.selects RX9 yX9_has yX9_has ∈ cx_tb := cx_tb_in 30 (by decide +kernel) (by decide +kernel)
theorem t_1024 : Cond.methodLink RL 133 yX9_data ∈ cx_tb := cx_tb_in 1024 (by decide +kernel) (by decide +kernel)
theorem t_1025 : Cond.instanceMethod yX9_data ∈ cx_tb := cx_tb_in 1025 (by decide +kernel) (by decide +kernel)
theorem t_1026 : Cond.selects RX9 yX9_data yX9_data ∈ cx_tb := cx_tb_in 1026 (by decide +kernel) (by decide +kernel)
theorem t_1028 : Cond.methodLink RL 136 yX9_fill ∈ cx_tb := cx_tb_in 1028 (by decide +kernel) (by decide +kernel)
theorem t_1029 : Cond.instanceMethod yX9_fill ∈ cx_tb := cx_tb_in 1029 (by decide +kernel) (by decide +kernel)
theorem t_1030 : Cond.selects RX9 yX9_fill yX9_fill ∈ cx_tb := cx_tb_in 1030 (by decide +kernel) (by decide +kernel)
theorem t_1032 : Cond.methodLink RX9 141 yX9_isData ∈ cx_tb := cx_tb_in 1032 (by decide +kernel) (by decide +kernel)
theorem t_1034 : Cond.instanceMethod yX9_isData ∈ cx_tb := cx_tb_in 1034 (by decide +kernel) (by decide +kernel)
theorem t_31 : Cond.selects RX9 yX9_isData yX9_isData ∈ cx_tb := cx_tb_in 31 (by decide +kernel) (by decide +kernel)
theorem t_1036 : Cond.methodLink RL 139 yX9_price ∈ cx_tb := cx_tb_in 1036 (by decide +kernel) (by decide +kernel)
theorem t_1037 : Cond.instanceMethod yX9_price ∈ cx_tb := cx_tb_in 1037 (by decide +kernel) (by decide +kernel)
theorem t_1038 : Cond.selects RX9 yX9_price yX9_price ∈ cx_tb := cx_tb_in 1038 (by decide +kernel) (by decide +kernel)
theorem t_1040 : Cond.methodLink RL 142 yX9_faultOf ∈ cx_tb := cx_tb_in 1040 (by decide +kernel) (by decide +kernel)
theorem t_1041 : Cond.instanceMethod yX9_faultOf ∈ cx_tb := cx_tb_in 1041 (by decide +kernel) (by decide +kernel)
theorem t_1042 : Cond.selects RX9 yX9_faultOf yX9_faultOf ∈ cx_tb := cx_tb_in 1042 (by decide +kernel) (by decide +kernel)
theorem t_1044 : Cond.methodLink RX9 144 yX9_meets ∈ cx_tb := cx_tb_in 1044 (by decide +kernel) (by decide +kernel)
theorem t_1046 : Cond.instanceMethod yX9_meets ∈ cx_tb := cx_tb_in 1046 (by decide +kernel) (by decide +kernel)
theorem t_32 : Cond.selects RX9 yX9_meets yX9_meets ∈ cx_tb := cx_tb_in 32 (by decide +kernel) (by decide +kernel)
theorem t_1048 : Cond.methodLink RX9 147 yX9_isBroken ∈ cx_tb := cx_tb_in 1048 (by decide +kernel) (by decide +kernel)
theorem t_1050 : Cond.instanceMethod yX9_isBroken ∈ cx_tb := cx_tb_in 1050 (by decide +kernel) (by decide +kernel)
theorem t_33 : Cond.selects RX9 yX9_isBroken yX9_isBroken ∈ cx_tb := cx_tb_in 33 (by decide +kernel) (by decide +kernel)
theorem t_1052 : Cond.methodLink RL 145 yX9_sign ∈ cx_tb := cx_tb_in 1052 (by decide +kernel) (by decide +kernel)
theorem t_1053 : Cond.instanceMethod yX9_sign ∈ cx_tb := cx_tb_in 1053 (by decide +kernel) (by decide +kernel)
theorem t_1054 : Cond.selects RX9 yX9_sign yX9_sign ∈ cx_tb := cx_tb_in 1054 (by decide +kernel) (by decide +kernel)
theorem t_1056 : Cond.methodLink RX9 179 yX9_signOf ∈ cx_tb := cx_tb_in 1056 (by decide +kernel) (by decide +kernel)
theorem t_1058 : Cond.instanceMethod yX9_signOf ∈ cx_tb := cx_tb_in 1058 (by decide +kernel) (by decide +kernel)
theorem t_34 : Cond.selects RX9 yX9_signOf yX9_signOf ∈ cx_tb := cx_tb_in 34 (by decide +kernel) (by decide +kernel)
theorem t_1060 : Cond.methodLink RX9 176 yX9_builds ∈ cx_tb := cx_tb_in 1060 (by decide +kernel) (by decide +kernel)
theorem t_1062 : Cond.instanceMethod yX9_builds ∈ cx_tb := cx_tb_in 1062 (by decide +kernel) (by decide +kernel)
theorem t_35 : Cond.selects RX9 yX9_builds yX9_builds ∈ cx_tb := cx_tb_in 35 (by decide +kernel) (by decide +kernel)
theorem t_1064 : Cond.methodLink RX9 158 yX9_lays ∈ cx_tb := cx_tb_in 1064 (by decide +kernel) (by decide +kernel)
theorem t_1066 : Cond.instanceMethod yX9_lays ∈ cx_tb := cx_tb_in 1066 (by decide +kernel) (by decide +kernel)
theorem t_36 : Cond.selects RX9 yX9_lays yX9_lays ∈ cx_tb := cx_tb_in 36 (by decide +kernel) (by decide +kernel)
theorem t_1068 : Cond.methodLink RX9 173 yX9_laysText ∈ cx_tb := cx_tb_in 1068 (by decide +kernel) (by decide +kernel)
theorem t_1070 : Cond.instanceMethod yX9_laysText ∈ cx_tb := cx_tb_in 1070 (by decide +kernel) (by decide +kernel)
theorem t_37 : Cond.selects RX9 yX9_laysText yX9_laysText ∈ cx_tb := cx_tb_in 37 (by decide +kernel) (by decide +kernel)
theorem t_1072 : Cond.methodLink RX9 165 yX9_grammar ∈ cx_tb := cx_tb_in 1072 (by decide +kernel) (by decide +kernel)
theorem t_1073 : Cond.static yX9_grammar ∈ cx_tb := cx_tb_in 1073 (by decide +kernel) (by decide +kernel)
theorem t_1075 : Cond.methodLink RX9 169 yX9_laysForm ∈ cx_tb := cx_tb_in 1075 (by decide +kernel) (by decide +kernel)
theorem t_1077 : Cond.instanceMethod yX9_laysForm ∈ cx_tb := cx_tb_in 1077 (by decide +kernel) (by decide +kernel)
theorem t_38 : Cond.selects RX9 yX9_laysForm yX9_laysForm ∈ cx_tb := cx_tb_in 38 (by decide +kernel) (by decide +kernel)
theorem t_1079 : Cond.methodLink RX9 162 yX9_isVowel ∈ cx_tb := cx_tb_in 1079 (by decide +kernel) (by decide +kernel)
theorem t_1080 : Cond.static yX9_isVowel ∈ cx_tb := cx_tb_in 1080 (by decide +kernel) (by decide +kernel)
theorem t_1082 : Cond.methodLink RL 148 yX9_signAnew ∈ cx_tb := cx_tb_in 1082 (by decide +kernel) (by decide +kernel)
theorem t_1083 : Cond.instanceMethod yX9_signAnew ∈ cx_tb := cx_tb_in 1083 (by decide +kernel) (by decide +kernel)
theorem t_1084 : Cond.selects RX9 yX9_signAnew yX9_signAnew ∈ cx_tb := cx_tb_in 1084 (by decide +kernel) (by decide +kernel)
theorem t_1086 : Cond.methodLink RL 151 yX9_costs ∈ cx_tb := cx_tb_in 1086 (by decide +kernel) (by decide +kernel)
theorem t_1087 : Cond.instanceMethod yX9_costs ∈ cx_tb := cx_tb_in 1087 (by decide +kernel) (by decide +kernel)
theorem t_1088 : Cond.selects RX9 yX9_costs yX9_costs ∈ cx_tb := cx_tb_in 1088 (by decide +kernel) (by decide +kernel)
theorem t_1090 : Cond.methodLink RL 154 yX9_sample ∈ cx_tb := cx_tb_in 1090 (by decide +kernel) (by decide +kernel)
theorem t_1091 : Cond.instanceMethod yX9_sample ∈ cx_tb := cx_tb_in 1091 (by decide +kernel) (by decide +kernel)
theorem t_1092 : Cond.selects RX9 yX9_sample yX9_sample ∈ cx_tb := cx_tb_in 1092 (by decide +kernel) (by decide +kernel)
theorem t_1094 : Cond.methodLink RX9 183 yX9_branches ∈ cx_tb := cx_tb_in 1094 (by decide +kernel) (by decide +kernel)
theorem t_1096 : Cond.instanceMethod yX9_branches ∈ cx_tb := cx_tb_in 1096 (by decide +kernel) (by decide +kernel)
theorem t_39 : Cond.selects RX9 yX9_branches yX9_branches ∈ cx_tb := cx_tb_in 39 (by decide +kernel) (by decide +kernel)
theorem t_111 : Cond.instanceMethod yX3_init ∈ cx_tb := cx_tb_in 111 (by decide +kernel) (by decide +kernel)
theorem t_127 : Cond.instanceMethod yX4_init ∈ cx_tb := cx_tb_in 127 (by decide +kernel) (by decide +kernel)
theorem t_407 : Cond.instanceMethod yX6_init ∈ cx_tb := cx_tb_in 407 (by decide +kernel) (by decide +kernel)
theorem t_543 : Cond.instanceMethod yX2_init ∈ cx_tb := cx_tb_in 543 (by decide +kernel) (by decide +kernel)
theorem t_696 : Cond.static yX8_capital ∈ cx_tb := cx_tb_in 696 (by decide +kernel) (by decide +kernel)
theorem t_700 : Cond.static yX8_isOpenBehind ∈ cx_tb := cx_tb_in 700 (by decide +kernel) (by decide +kernel)
theorem t_740 : Cond.static yX8_isVowel ∈ cx_tb := cx_tb_in 740 (by decide +kernel) (by decide +kernel)
theorem t_50 : Cond.initialized "java/lang/IllegalStateException" ∈ cx_tb := cx_tb_in 50 (by decide +kernel) (by decide +kernel)
theorem t_52 : Cond.initialized "java/lang/IllegalArgumentException" ∈ cx_tb := cx_tb_in 52 (by decide +kernel) (by decide +kernel)
theorem t_51 : Cond.initialized "java/lang/IndexOutOfBoundsException" ∈ cx_tb := cx_tb_in 51 (by decide +kernel) (by decide +kernel)
end
section
abbrev mX8_init : MD := (yX8_init, cX8_init, 1, (none : Option FieldType), [])
theorem kX8_init : cx_M mX8_init := ⟨rfl, cx_tb_in 62 (by decide +kernel) (by decide +kernel), t_41, by decide +kernel, by decide⟩
theorem nX8_init : cx_n mX8_init 0 := by unfold cx_n; decide +kernel
abbrev mX5_init : MD := (yX5_init, cX5_init, 2, (none : Option FieldType), [])
theorem kX5_init : cx_M mX5_init := ⟨rfl, cx_tb_in 70 (by decide +kernel) (by decide +kernel), t_42, by decide +kernel, by decide⟩
theorem nX5_init : cx_n mX5_init 1 := by unfold cx_n; decide +kernel
abbrev mX7_init : MD := (yX7_init, cX7_init, 2, (none : Option FieldType), [])
theorem kX7_init : cx_M mX7_init := ⟨rfl, cx_tb_in 84 (by decide +kernel) (by decide +kernel), t_43, by decide +kernel, by decide⟩
theorem nX7_init : cx_n mX7_init 0 := by unfold cx_n; decide +kernel
abbrev mX3_init : MD := (yX3_init, cX3_init, 1, (none : Option FieldType), [])
theorem kX3_init : cx_M mX3_init := ⟨rfl, cx_tb_in 112 (by decide +kernel) (by decide +kernel), t_44, by decide +kernel, by decide⟩
theorem nX3_init : cx_n mX3_init 0 := by unfold cx_n; decide +kernel
abbrev mX4_init : MD := (yX4_init, cX4_init, 1, (none : Option FieldType), [])
theorem kX4_init : cx_M mX4_init := ⟨rfl, cx_tb_in 128 (by decide +kernel) (by decide +kernel), t_45, by decide +kernel, by decide⟩
theorem nX4_init : cx_n mX4_init 0 := by unfold cx_n; decide +kernel
abbrev mX8_clear : MD := (yX8_clear, cX8_clear, 2, (some FieldType.int), [])
theorem kX8_clear : cx_M mX8_clear := ⟨rfl, cx_tb_in 177 (by decide +kernel) (by decide +kernel), t_41, by decide +kernel, by decide⟩
theorem nX8_clear : cx_n mX8_clear 0 := by unfold cx_n; decide +kernel
abbrev mX5_length : MD := (yX5_length, cX5_length, 1, (some FieldType.int), [])
theorem kX5_length : cx_M mX5_length := ⟨rfl, cx_tb_in 181 (by decide +kernel) (by decide +kernel), t_42, by decide +kernel, by decide⟩
theorem nX5_length : cx_n mX5_length 0 := by unfold cx_n; decide +kernel
abbrev mX5_empty : MD := (yX5_empty, cX5_empty, 1, (none : Option FieldType), [])
theorem kX5_empty : cx_M mX5_empty := ⟨rfl, cx_tb_in 185 (by decide +kernel) (by decide +kernel), t_42, by decide +kernel, by decide⟩
theorem nX5_empty : cx_n mX5_empty 0 := by unfold cx_n; decide +kernel
abbrev mX8_fault : MD := (yX8_fault, cX8_fault, 1, (some FieldType.int), [])
theorem kX8_fault : cx_M mX8_fault := ⟨rfl, cx_tb_in 189 (by decide +kernel) (by decide +kernel), t_41, by decide +kernel, by decide⟩
theorem nX8_fault : cx_n mX8_fault 0 := by unfold cx_n; decide +kernel
abbrev mX8_firstFault : MD := (yX8_firstFault, cX8_firstFault, 4, (some FieldType.int), [])
theorem kX8_firstFault : cx_M mX8_firstFault := ⟨rfl, cx_tb_in 192 (by decide +kernel) (by decide +kernel), t_41, by decide +kernel, by decide⟩
theorem nX8_firstFault : cx_n mX8_firstFault 1 := by unfold cx_n; decide +kernel
abbrev mX5_at : MD := (yX5_at, cX5_at, 2, (some FieldType.char), [])
theorem kX5_at : cx_M mX5_at := ⟨rfl, cx_tb_in 196 (by decide +kernel) (by decide +kernel), t_42, by decide +kernel, by decide⟩
theorem nX5_at : cx_n mX5_at 1 := by unfold cx_n; decide +kernel
abbrev mX8_canStand : MD := (yX8_canStand, cX8_canStand, 2, (some FieldType.boolean), [])
theorem kX8_canStand : cx_M mX8_canStand := ⟨rfl, cx_tb_in 199 (by decide +kernel) (by decide +kernel), t_41, by decide +kernel, by decide⟩
theorem nX8_canStand : cx_n mX8_canStand 2 := by unfold cx_n; decide +kernel
abbrev mX8_isSmall : MD := (yX8_isSmall, cX8_isSmall, 1, (some FieldType.boolean), [])
theorem kX8_isSmall : cx_M mX8_isSmall := ⟨rfl, cx_tb_in 202 (by decide +kernel) (by decide +kernel), t_41, by decide +kernel, by decide⟩
theorem nX8_isSmall : cx_n mX8_isSmall 1 := by unfold cx_n; decide +kernel
abbrev mX8_slotOf : MD := (yX8_slotOf, cX8_slotOf, 1, (some FieldType.int), [])
theorem kX8_slotOf : cx_M mX8_slotOf := ⟨rfl, cx_tb_in 205 (by decide +kernel) (by decide +kernel), t_41, by decide +kernel, by decide⟩
theorem nX8_slotOf : cx_n mX8_slotOf 1 := by unfold cx_n; decide +kernel
abbrev mX8_caseOf : MD := (yX8_caseOf, cX8_caseOf, 1, (some FieldType.int), [])
theorem kX8_caseOf : cx_M mX8_caseOf := ⟨rfl, cx_tb_in 208 (by decide +kernel) (by decide +kernel), t_41, by decide +kernel, by decide⟩
theorem nX8_caseOf : cx_n mX8_caseOf 1 := by unfold cx_n; decide +kernel
abbrev mX8_numberOf : MD := (yX8_numberOf, cX8_numberOf, 1, (some FieldType.int), [])
theorem kX8_numberOf : cx_M mX8_numberOf := ⟨rfl, cx_tb_in 211 (by decide +kernel) (by decide +kernel), t_41, by decide +kernel, by decide⟩
theorem nX8_numberOf : cx_n mX8_numberOf 1 := by unfold cx_n; decide +kernel
abbrev mX8_type : MD := (yX8_type, cX8_type, 2, (some FieldType.int), [])
theorem kX8_type : cx_M mX8_type := ⟨rfl, cx_tb_in 219 (by decide +kernel) (by decide +kernel), t_41, by decide +kernel, by decide⟩
theorem nX8_type : cx_n mX8_type 1 := by unfold cx_n; decide +kernel
abbrev mX5_append : MD := (yX5_append, cX5_append, 2, (some FieldType.boolean), [])
theorem kX5_append : cx_M mX5_append := ⟨rfl, cx_tb_in 223 (by decide +kernel) (by decide +kernel), t_42, by decide +kernel, by decide⟩
theorem nX5_append : cx_n mX5_append 1 := by unfold cx_n; decide +kernel
abbrev mX8_word : MD := (yX8_word, cX8_word, 2, (some FieldType.int), [])
theorem kX8_word : cx_M mX8_word := ⟨rfl, cx_tb_in 298 (by decide +kernel) (by decide +kernel), t_41, by decide +kernel, by decide⟩
theorem nX8_word : cx_n mX8_word 0 := by unfold cx_n; decide +kernel
abbrev mX5_isLetters : MD := (yX5_isLetters, cX5_isLetters, 4, (some FieldType.boolean), [])
theorem kX5_isLetters : cx_M mX5_isLetters := ⟨rfl, cx_tb_in 302 (by decide +kernel) (by decide +kernel), t_42, by decide +kernel, by decide⟩
theorem nX5_isLetters : cx_n mX5_isLetters 2 := by unfold cx_n; decide +kernel
abbrev mX7_count : MD := (yX7_count, cX7_count, 1, (some FieldType.int), [])
theorem kX7_count : cx_M mX7_count := ⟨rfl, cx_tb_in 308 (by decide +kernel) (by decide +kernel), t_43, by decide +kernel, by decide⟩
theorem nX7_count : cx_n mX7_count 0 := by unfold cx_n; decide +kernel
abbrev mX7_addStem : MD := (yX7_addStem, cX7_addStem, 3, (some FieldType.int), [])
theorem kX7_addStem : cx_M mX7_addStem := ⟨rfl, cx_tb_in 313 (by decide +kernel) (by decide +kernel), t_43, by decide +kernel, by decide⟩
theorem nX7_addStem : cx_n mX7_addStem 1 := by unfold cx_n; decide +kernel
abbrev mX8_isBelow : MD := (yX8_isBelow, cX8_isBelow, 2, (some FieldType.boolean), [])
theorem kX8_isBelow : cx_M mX8_isBelow := ⟨rfl, cx_tb_in 316 (by decide +kernel) (by decide +kernel), t_41, by decide +kernel, by decide⟩
theorem nX8_isBelow : cx_n mX8_isBelow 2 := by unfold cx_n; decide +kernel
abbrev mX5_take : MD := (yX5_take, cX5_take, 3, (none : Option FieldType), [])
theorem kX5_take : cx_M mX5_take := ⟨rfl, cx_tb_in 320 (by decide +kernel) (by decide +kernel), t_42, by decide +kernel, by decide⟩
theorem nX5_take : cx_n mX5_take 1 := by unfold cx_n; decide +kernel
abbrev mX8_form : MD := (yX8_form, cX8_form, 6, (some FieldType.int), [])
theorem kX8_form : cx_M mX8_form := ⟨rfl, cx_tb_in 332 (by decide +kernel) (by decide +kernel), t_41, by decide +kernel, by decide⟩
theorem nX8_form : cx_n mX8_form 3 := by unfold cx_n; decide +kernel
abbrev mX8_isLanguage : MD := (yX8_isLanguage, cX8_isLanguage, 1, (some FieldType.boolean), [])
theorem kX8_isLanguage : cx_M mX8_isLanguage := ⟨rfl, cx_tb_in 335 (by decide +kernel) (by decide +kernel), t_41, by decide +kernel, by decide⟩
theorem nX8_isLanguage : cx_n mX8_isLanguage 1 := by unfold cx_n; decide +kernel
abbrev mX8_isWord : MD := (yX8_isWord, cX8_isWord, 2, (some FieldType.boolean), [])
theorem kX8_isWord : cx_M mX8_isWord := ⟨rfl, cx_tb_in 340 (by decide +kernel) (by decide +kernel), t_41, by decide +kernel, by decide⟩
theorem nX8_isWord : cx_n mX8_isWord 1 := by unfold cx_n; decide +kernel
abbrev mX7_setEnding : MD := (yX7_setEnding, cX7_setEnding, 5, (none : Option FieldType), [])
theorem kX7_setEnding : cx_M mX7_setEnding := ⟨rfl, cx_tb_in 377 (by decide +kernel) (by decide +kernel), t_43, by decide +kernel, by decide⟩
theorem nX7_setEnding : cx_n mX7_setEnding 3 := by unfold cx_n; decide +kernel
abbrev mX7_endingAt : MD := (yX7_endingAt, cX7_endingAt, 4, (some (FieldType.object "Glosstemplate$Signs")), [])
theorem kX7_endingAt : cx_M mX7_endingAt := ⟨rfl, cx_tb_in 381 (by decide +kernel) (by decide +kernel), t_43, by decide +kernel, by decide⟩
theorem nX7_endingAt : cx_n mX7_endingAt 2 := by unfold cx_n; decide +kernel
abbrev mX7_setOwn : MD := (yX7_setOwn, cX7_setOwn, 7, (none : Option FieldType), [])
theorem kX7_setOwn : cx_M mX7_setOwn := ⟨rfl, cx_tb_in 385 (by decide +kernel) (by decide +kernel), t_43, by decide +kernel, by decide⟩
theorem nX7_setOwn : cx_n mX7_setOwn 4 := by unfold cx_n; decide +kernel
abbrev mX7_ownIndex : MD := (yX7_ownIndex, cX7_ownIndex, 3, (some FieldType.int), [])
theorem kX7_ownIndex : cx_M mX7_ownIndex := ⟨rfl, cx_tb_in 388 (by decide +kernel) (by decide +kernel), t_43, by decide +kernel, by decide⟩
theorem nX7_ownIndex : cx_n mX7_ownIndex 3 := by unfold cx_n; decide +kernel
abbrev mX8_clause : MD := (yX8_clause, cX8_clause, 2, (some FieldType.int), [])
theorem kX8_clause : cx_M mX8_clause := ⟨rfl, cx_tb_in 395 (by decide +kernel) (by decide +kernel), t_41, by decide +kernel, by decide⟩
theorem nX8_clause : cx_n mX8_clause 1 := by unfold cx_n; decide +kernel
abbrev mX0_init : MD := (yX0_init, cX0_init, 3, (none : Option FieldType), [])
theorem kX0_init : cx_M mX0_init := ⟨rfl, cx_tb_in 401 (by decide +kernel) (by decide +kernel), t_53, by decide +kernel, by decide⟩
theorem nX0_init : cx_n mX0_init 1 := by unfold cx_n; decide +kernel
abbrev mX6_init : MD := (yX6_init, cX6_init, 1, (none : Option FieldType), [])
theorem kX6_init : cx_M mX6_init := ⟨rfl, cx_tb_in 408 (by decide +kernel) (by decide +kernel), t_54, by decide +kernel, by decide⟩
theorem nX6_init : cx_n mX6_init 0 := by unfold cx_n; decide +kernel
abbrev mX8_text : MD := (yX8_text, cX8_text, 4, (some FieldType.int), [])
theorem kX8_text : cx_M mX8_text := ⟨rfl, cx_tb_in 435 (by decide +kernel) (by decide +kernel), t_41, by decide +kernel, by decide⟩
theorem nX8_text : cx_n mX8_text 2 := by unfold cx_n; decide +kernel
abbrev mX8_templateAt : MD := (yX8_templateAt, cX8_templateAt, 4, (some (FieldType.object "Glosstemplate$Template")), [])
theorem kX8_templateAt : cx_M mX8_templateAt := ⟨rfl, cx_tb_in 439 (by decide +kernel) (by decide +kernel), t_41, by decide +kernel, by decide⟩
theorem nX8_templateAt : cx_n mX8_templateAt 2 := by unfold cx_n; decide +kernel
abbrev mX8_clauseAt : MD := (yX8_clauseAt, cX8_clauseAt, 2, (some (FieldType.object "Glosstemplate$Clause")), [])
theorem kX8_clauseAt : cx_M mX8_clauseAt := ⟨rfl, cx_tb_in 443 (by decide +kernel) (by decide +kernel), t_41, by decide +kernel, by decide⟩
theorem nX8_clauseAt : cx_n mX8_clauseAt 1 := by unfold cx_n; decide +kernel
abbrev mX0_templateIn : MD := (yX0_templateIn, cX0_templateIn, 2, (some (FieldType.object "Glosstemplate$Template")), [])
theorem kX0_templateIn : cx_M mX0_templateIn := ⟨rfl, cx_tb_in 447 (by decide +kernel) (by decide +kernel), t_53, by decide +kernel, by decide⟩
theorem nX0_templateIn : cx_n mX0_templateIn 1 := by unfold cx_n; decide +kernel
abbrev mX6_take : MD := (yX6_take, cX6_take, 2, (none : Option FieldType), [])
theorem kX6_take : cx_M mX6_take := ⟨rfl, cx_tb_in 454 (by decide +kernel) (by decide +kernel), t_54, by decide +kernel, by decide⟩
theorem nX6_take : cx_n mX6_take 1 := by unfold cx_n; decide +kernel
abbrev mX6_slotCount : MD := (yX6_slotCount, cX6_slotCount, 3, (some FieldType.int), [])
theorem kX6_slotCount : cx_M mX6_slotCount := ⟨rfl, cx_tb_in 459 (by decide +kernel) (by decide +kernel), t_54, by decide +kernel, by decide⟩
theorem nX6_slotCount : cx_n mX6_slotCount 0 := by unfold cx_n; decide +kernel
abbrev mX6_isSlot : MD := (yX6_isSlot, cX6_isSlot, 2, (some FieldType.boolean), [])
theorem kX6_isSlot : cx_M mX6_isSlot := ⟨rfl, cx_tb_in 464 (by decide +kernel) (by decide +kernel), t_54, by decide +kernel, by decide⟩
theorem nX6_isSlot : cx_n mX6_isSlot 1 := by unfold cx_n; decide +kernel
abbrev mX8_approve : MD := (yX8_approve, cX8_approve, 5, (some FieldType.boolean), [])
theorem kX8_approve : cx_M mX8_approve := ⟨rfl, cx_tb_in 472 (by decide +kernel) (by decide +kernel), t_41, by decide +kernel, by decide⟩
theorem nX8_approve : cx_n mX8_approve 2 := by unfold cx_n; decide +kernel
abbrev mX6_isThere : MD := (yX6_isThere, cX6_isThere, 1, (some FieldType.boolean), [])
theorem kX6_isThere : cx_M mX6_isThere := ⟨rfl, cx_tb_in 476 (by decide +kernel) (by decide +kernel), t_54, by decide +kernel, by decide⟩
theorem nX6_isThere : cx_n mX6_isThere 0 := by unfold cx_n; decide +kernel
abbrev mX6_isApproved : MD := (yX6_isApproved, cX6_isApproved, 1, (some FieldType.boolean), [])
theorem kX6_isApproved : cx_M mX6_isApproved := ⟨rfl, cx_tb_in 481 (by decide +kernel) (by decide +kernel), t_54, by decide +kernel, by decide⟩
theorem nX6_isApproved : cx_n mX6_isApproved 0 := by unfold cx_n; decide +kernel
abbrev mX6_setApproved : MD := (yX6_setApproved, cX6_setApproved, 1, (none : Option FieldType), [])
theorem kX6_setApproved : cx_M mX6_setApproved := ⟨rfl, cx_tb_in 485 (by decide +kernel) (by decide +kernel), t_54, by decide +kernel, by decide⟩
theorem nX6_setApproved : cx_n mX6_setApproved 0 := by unfold cx_n; decide +kernel
abbrev mX8_relate : MD := (yX8_relate, cX8_relate, 7, (some FieldType.int), [])
theorem kX8_relate : cx_M mX8_relate := ⟨rfl, cx_tb_in 492 (by decide +kernel) (by decide +kernel), t_41, by decide +kernel, by decide⟩
theorem nX8_relate : cx_n mX8_relate 4 := by unfold cx_n; decide +kernel
abbrev mX0_how : MD := (yX0_how, cX0_how, 4, (some FieldType.int), [])
theorem kX0_how : cx_M mX0_how := ⟨rfl, cx_tb_in 498 (by decide +kernel) (by decide +kernel), t_53, by decide +kernel, by decide⟩
theorem nX0_how : cx_n mX0_how 2 := by unfold cx_n; decide +kernel
abbrev mX0_howIndex : MD := (yX0_howIndex, cX0_howIndex, 4, (some FieldType.int), [])
theorem kX0_howIndex : cx_M mX0_howIndex := ⟨rfl, cx_tb_in 502 (by decide +kernel) (by decide +kernel), t_53, by decide +kernel, by decide⟩
theorem nX0_howIndex : cx_n mX0_howIndex 2 := by unfold cx_n; decide +kernel
abbrev mX0_setHow : MD := (yX0_setHow, cX0_setHow, 5, (none : Option FieldType), [])
theorem kX0_setHow : cx_M mX0_setHow := ⟨rfl, cx_tb_in 506 (by decide +kernel) (by decide +kernel), t_53, by decide +kernel, by decide⟩
theorem nX0_setHow : cx_n mX0_setHow 3 := by unfold cx_n; decide +kernel
abbrev mX8_isLinked : MD := (yX8_isLinked, cX8_isLinked, 3, (some FieldType.boolean), [])
theorem kX8_isLinked : cx_M mX8_isLinked := ⟨rfl, cx_tb_in 513 (by decide +kernel) (by decide +kernel), t_41, by decide +kernel, by decide⟩
theorem nX8_isLinked : cx_n mX8_isLinked 1 := by unfold cx_n; decide +kernel
abbrev mX0_hasSameSlots : MD := (yX0_hasSameSlots, cX0_hasSameSlots, 2, (some FieldType.boolean), [])
theorem kX0_hasSameSlots : cx_M mX0_hasSameSlots := ⟨rfl, cx_tb_in 517 (by decide +kernel) (by decide +kernel), t_53, by decide +kernel, by decide⟩
theorem nX0_hasSameSlots : cx_n mX0_hasSameSlots 0 := by unfold cx_n; decide +kernel
abbrev mX0_isSameCount : MD := (yX0_isSameCount, cX0_isSameCount, 6, (some FieldType.boolean), [])
theorem kX0_isSameCount : cx_M mX0_isSameCount := ⟨rfl, cx_tb_in 521 (by decide +kernel) (by decide +kernel), t_53, by decide +kernel, by decide⟩
theorem nX0_isSameCount : cx_n mX0_isSameCount 1 := by unfold cx_n; decide +kernel
abbrev mX6_countOfSlot : MD := (yX6_countOfSlot, cX6_countOfSlot, 4, (some FieldType.int), [])
theorem kX6_countOfSlot : cx_M mX6_countOfSlot := ⟨rfl, cx_tb_in 527 (by decide +kernel) (by decide +kernel), t_54, by decide +kernel, by decide⟩
theorem nX6_countOfSlot : cx_n mX6_countOfSlot 1 := by unfold cx_n; decide +kernel
abbrev mX6_slotAt : MD := (yX6_slotAt, cX6_slotAt, 2, (some FieldType.int), [])
theorem kX6_slotAt : cx_M mX6_slotAt := ⟨rfl, cx_tb_in 531 (by decide +kernel) (by decide +kernel), t_54, by decide +kernel, by decide⟩
theorem nX6_slotAt : cx_n mX6_slotAt 1 := by unfold cx_n; decide +kernel
abbrev mX8_letter : MD := (yX8_letter, cX8_letter, 1, (some FieldType.int), [])
theorem kX8_letter : cx_M mX8_letter := ⟨rfl, cx_tb_in 539 (by decide +kernel) (by decide +kernel), t_41, by decide +kernel, by decide⟩
theorem nX8_letter : cx_n mX8_letter 0 := by unfold cx_n; decide +kernel
abbrev mX2_init : MD := (yX2_init, cX2_init, 1, (none : Option FieldType), [])
theorem kX2_init : cx_M mX2_init := ⟨rfl, cx_tb_in 544 (by decide +kernel) (by decide +kernel), t_55, by decide +kernel, by decide⟩
theorem nX2_init : cx_n mX2_init 0 := by unfold cx_n; decide +kernel
abbrev mX8_put : MD := (yX8_put, cX8_put, 4, (some FieldType.int), [])
theorem kX8_put : cx_M mX8_put := ⟨rfl, cx_tb_in 559 (by decide +kernel) (by decide +kernel), t_41, by decide +kernel, by decide⟩
theorem nX8_put : cx_n mX8_put 2 := by unfold cx_n; decide +kernel
abbrev mX8_letterAt : MD := (yX8_letterAt, cX8_letterAt, 2, (some (FieldType.object "Glosstemplate$Letter")), [])
theorem kX8_letterAt : cx_M mX8_letterAt := ⟨rfl, cx_tb_in 563 (by decide +kernel) (by decide +kernel), t_41, by decide +kernel, by decide⟩
theorem nX8_letterAt : cx_n mX8_letterAt 1 := by unfold cx_n; decide +kernel
abbrev mX2_has : MD := (yX2_has, cX2_has, 3, (some FieldType.boolean), [])
theorem kX2_has : cx_M mX2_has := ⟨rfl, cx_tb_in 568 (by decide +kernel) (by decide +kernel), t_55, by decide +kernel, by decide⟩
theorem nX2_has : cx_n mX2_has 1 := by unfold cx_n; decide +kernel
abbrev mX2_at : MD := (yX2_at, cX2_at, 2, (some FieldType.int), [])
theorem kX2_at : cx_M mX2_at := ⟨rfl, cx_tb_in 572 (by decide +kernel) (by decide +kernel), t_55, by decide +kernel, by decide⟩
theorem nX2_at : cx_n mX2_at 1 := by unfold cx_n; decide +kernel
abbrev mX2_append : MD := (yX2_append, cX2_append, 2, (some FieldType.boolean), [])
theorem kX2_append : cx_M mX2_append := ⟨rfl, cx_tb_in 577 (by decide +kernel) (by decide +kernel), t_55, by decide +kernel, by decide⟩
theorem nX2_append : cx_n mX2_append 1 := by unfold cx_n; decide +kernel
abbrev mX2_count : MD := (yX2_count, cX2_count, 1, (some FieldType.int), [])
theorem kX2_count : cx_M mX2_count := ⟨rfl, cx_tb_in 582 (by decide +kernel) (by decide +kernel), t_55, by decide +kernel, by decide⟩
theorem nX2_count : cx_n mX2_count 0 := by unfold cx_n; decide +kernel
abbrev mX8_data : MD := (yX8_data, cX8_data, 3, (some FieldType.int), [])
theorem kX8_data : cx_M mX8_data := ⟨rfl, cx_tb_in 589 (by decide +kernel) (by decide +kernel), t_41, by decide +kernel, by decide⟩
theorem nX8_data : cx_n mX8_data 2 := by unfold cx_n; decide +kernel
abbrev mX1_init : MD := (yX1_init, cX1_init, 4, (none : Option FieldType), [])
theorem kX1_init : cx_M mX1_init := ⟨rfl, cx_tb_in 596 (by decide +kernel) (by decide +kernel), t_56, by decide +kernel, by decide⟩
theorem nX1_init : cx_n mX1_init 2 := by unfold cx_n; decide +kernel
abbrev mX8_fill : MD := (yX8_fill, cX8_fill, 6, (some FieldType.int), [])
theorem kX8_fill : cx_M mX8_fill := ⟨rfl, cx_tb_in 611 (by decide +kernel) (by decide +kernel), t_41, by decide +kernel, by decide⟩
theorem nX8_fill : cx_n mX8_fill 3 := by unfold cx_n; decide +kernel
abbrev mX8_dataAt : MD := (yX8_dataAt, cX8_dataAt, 2, (some (FieldType.object "Glosstemplate$Data")), [])
theorem kX8_dataAt : cx_M mX8_dataAt := ⟨rfl, cx_tb_in 615 (by decide +kernel) (by decide +kernel), t_41, by decide +kernel, by decide⟩
theorem nX8_dataAt : cx_n mX8_dataAt 1 := by unfold cx_n; decide +kernel
abbrev mX1_wordOf : MD := (yX1_wordOf, cX1_wordOf, 2, (some FieldType.int), [])
theorem kX1_wordOf : cx_M mX1_wordOf := ⟨rfl, cx_tb_in 620 (by decide +kernel) (by decide +kernel), t_56, by decide +kernel, by decide⟩
theorem nX1_wordOf : cx_n mX1_wordOf 1 := by unfold cx_n; decide +kernel
abbrev mX1_setWord : MD := (yX1_setWord, cX1_setWord, 3, (none : Option FieldType), [])
theorem kX1_setWord : cx_M mX1_setWord := ⟨rfl, cx_tb_in 625 (by decide +kernel) (by decide +kernel), t_56, by decide +kernel, by decide⟩
theorem nX1_setWord : cx_n mX1_setWord 2 := by unfold cx_n; decide +kernel
abbrev mX8_price : MD := (yX8_price, cX8_price, 4, (some FieldType.int), [])
theorem kX8_price : cx_M mX8_price := ⟨rfl, cx_tb_in 632 (by decide +kernel) (by decide +kernel), t_41, by decide +kernel, by decide⟩
theorem nX8_price : cx_n mX8_price 2 := by unfold cx_n; decide +kernel
abbrev mX8_faultOf : MD := (yX8_faultOf, cX8_faultOf, 10, (some FieldType.int), [])
theorem kX8_faultOf : cx_M mX8_faultOf := ⟨rfl, cx_tb_in 641 (by decide +kernel) (by decide +kernel), t_41, by decide +kernel, by decide⟩
theorem nX8_faultOf : cx_n mX8_faultOf 4 := by unfold cx_n; decide +kernel
abbrev mX8_isIn : MD := (yX8_isIn, cX8_isIn, 5, (some FieldType.boolean), [])
theorem kX8_isIn : cx_M mX8_isIn := ⟨rfl, cx_tb_in 648 (by decide +kernel) (by decide +kernel), t_41, by decide +kernel, by decide⟩
theorem nX8_isIn : cx_n mX8_isIn 3 := by unfold cx_n; decide +kernel
abbrev mX0_condition : MD := (yX0_condition, cX0_condition, 1, (some FieldType.int), [])
theorem kX0_condition : cx_M mX0_condition := ⟨rfl, cx_tb_in 652 (by decide +kernel) (by decide +kernel), t_53, by decide +kernel, by decide⟩
theorem nX0_condition : cx_n mX0_condition 0 := by unfold cx_n; decide +kernel
abbrev mX1_meets : MD := (yX1_meets, cX1_meets, 2, (some FieldType.boolean), [])
theorem kX1_meets : cx_M mX1_meets := ⟨rfl, cx_tb_in 656 (by decide +kernel) (by decide +kernel), t_56, by decide +kernel, by decide⟩
theorem nX1_meets : cx_n mX1_meets 1 := by unfold cx_n; decide +kernel
abbrev mX8_faultAt : MD := (yX8_faultAt, cX8_faultAt, 7, (some FieldType.int), [])
theorem kX8_faultAt : cx_M mX8_faultAt := ⟨rfl, cx_tb_in 660 (by decide +kernel) (by decide +kernel), t_41, by decide +kernel, by decide⟩
theorem nX8_faultAt : cx_n mX8_faultAt 5 := by unfold cx_n; decide +kernel
abbrev mX8_isRelated : MD := (yX8_isRelated, cX8_isRelated, 8, (some FieldType.boolean), [])
theorem kX8_isRelated : cx_M mX8_isRelated := ⟨rfl, cx_tb_in 664 (by decide +kernel) (by decide +kernel), t_41, by decide +kernel, by decide⟩
theorem nX8_isRelated : cx_n mX8_isRelated 5 := by unfold cx_n; decide +kernel
abbrev mX8_sign : MD := (yX8_sign, cX8_sign, 7, (some FieldType.char), [])
theorem kX8_sign : cx_M mX8_sign := ⟨rfl, cx_tb_in 671 (by decide +kernel) (by decide +kernel), t_41, by decide +kernel, by decide⟩
theorem nX8_sign : cx_n mX8_sign 4 := by unfold cx_n; decide +kernel
abbrev mX8_build : MD := (yX8_build, cX8_build, 6, (none : Option FieldType), [])
theorem kX8_build : cx_M mX8_build := ⟨rfl, cx_tb_in 676 (by decide +kernel) (by decide +kernel), t_41, by decide +kernel, by decide⟩
theorem nX8_build : cx_n mX8_build 3 := by unfold cx_n; decide +kernel
abbrev mX3_start : MD := (yX3_start, cX3_start, 1, (none : Option FieldType), [])
theorem kX3_start : cx_M mX3_start := ⟨rfl, cx_tb_in 680 (by decide +kernel) (by decide +kernel), t_44, by decide +kernel, by decide⟩
theorem nX3_start : cx_n mX3_start 0 := by unfold cx_n; decide +kernel
abbrev mX8_laidAt : MD := (yX8_laidAt, cX8_laidAt, 7, (some (FieldType.object "Glosstemplate$Template")), [])
theorem kX8_laidAt : cx_M mX8_laidAt := ⟨rfl, cx_tb_in 685 (by decide +kernel) (by decide +kernel), t_41, by decide +kernel, by decide⟩
theorem nX8_laidAt : cx_n mX8_laidAt 4 := by unfold cx_n; decide +kernel
abbrev mX3_length : MD := (yX3_length, cX3_length, 1, (some FieldType.int), [])
theorem kX3_length : cx_M mX3_length := ⟨rfl, cx_tb_in 689 (by decide +kernel) (by decide +kernel), t_44, by decide +kernel, by decide⟩
theorem nX3_length : cx_n mX3_length 0 := by unfold cx_n; decide +kernel
abbrev mX3_lay : MD := (yX3_lay, cX3_lay, 2, (none : Option FieldType), [])
theorem kX3_lay : cx_M mX3_lay := ⟨rfl, cx_tb_in 694 (by decide +kernel) (by decide +kernel), t_44, by decide +kernel, by decide⟩
theorem nX3_lay : cx_n mX3_lay 1 := by unfold cx_n; decide +kernel
abbrev mX8_capital : MD := (yX8_capital, cX8_capital, 1, (some FieldType.char), [])
theorem kX8_capital : cx_M mX8_capital := ⟨rfl, cx_tb_in 697 (by decide +kernel) (by decide +kernel), t_41, by decide +kernel, by decide⟩
theorem nX8_capital : cx_n mX8_capital 1 := by unfold cx_n; decide +kernel
abbrev mX8_isOpenBehind : MD := (yX8_isOpenBehind, cX8_isOpenBehind, 2, (some FieldType.boolean), [])
theorem kX8_isOpenBehind : cx_M mX8_isOpenBehind := ⟨rfl, cx_tb_in 701 (by decide +kernel) (by decide +kernel), t_41, by decide +kernel, by decide⟩
theorem nX8_isOpenBehind : cx_n mX8_isOpenBehind 2 := by unfold cx_n; decide +kernel
abbrev mX8_layTemplate : MD := (yX8_layTemplate, cX8_layTemplate, 5, (none : Option FieldType), [])
theorem kX8_layTemplate : cx_M mX8_layTemplate := ⟨rfl, cx_tb_in 705 (by decide +kernel) (by decide +kernel), t_41, by decide +kernel, by decide⟩
theorem nX8_layTemplate : cx_n mX8_layTemplate 3 := by unfold cx_n; decide +kernel
abbrev mX6_length : MD := (yX6_length, cX6_length, 1, (some FieldType.int), [])
theorem kX6_length : cx_M mX6_length := ⟨rfl, cx_tb_in 709 (by decide +kernel) (by decide +kernel), t_54, by decide +kernel, by decide⟩
theorem nX6_length : cx_n mX6_length 0 := by unfold cx_n; decide +kernel
abbrev mX6_grammarAt : MD := (yX6_grammarAt, cX6_grammarAt, 2, (some FieldType.int), [])
theorem kX6_grammarAt : cx_M mX6_grammarAt := ⟨rfl, cx_tb_in 715 (by decide +kernel) (by decide +kernel), t_54, by decide +kernel, by decide⟩
theorem nX6_grammarAt : cx_n mX6_grammarAt 1 := by unfold cx_n; decide +kernel
abbrev mX8_layForm : MD := (yX8_layForm, cX8_layForm, 6, (none : Option FieldType), [])
theorem kX8_layForm : cx_M mX8_layForm := ⟨rfl, cx_tb_in 721 (by decide +kernel) (by decide +kernel), t_41, by decide +kernel, by decide⟩
theorem nX8_layForm : cx_n mX8_layForm 3 := by unfold cx_n; decide +kernel
abbrev mX7_formLength : MD := (yX7_formLength, cX7_formLength, 6, (some FieldType.int), [])
theorem kX7_formLength : cx_M mX7_formLength := ⟨rfl, cx_tb_in 725 (by decide +kernel) (by decide +kernel), t_43, by decide +kernel, by decide⟩
theorem nX7_formLength : cx_n mX7_formLength 3 := by unfold cx_n; decide +kernel
abbrev mX7_ownAt : MD := (yX7_ownAt, cX7_ownAt, 5, (some (FieldType.object "Glosstemplate$Signs")), [])
theorem kX7_ownAt : cx_M mX7_ownAt := ⟨rfl, cx_tb_in 729 (by decide +kernel) (by decide +kernel), t_43, by decide +kernel, by decide⟩
theorem nX7_ownAt : cx_n mX7_ownAt 3 := by unfold cx_n; decide +kernel
abbrev mX7_stemAt : MD := (yX7_stemAt, cX7_stemAt, 2, (some (FieldType.object "Glosstemplate$Signs")), [])
theorem kX7_stemAt : cx_M mX7_stemAt := ⟨rfl, cx_tb_in 734 (by decide +kernel) (by decide +kernel), t_43, by decide +kernel, by decide⟩
theorem nX7_stemAt : cx_n mX7_stemAt 1 := by unfold cx_n; decide +kernel
abbrev mX7_keptOfStem : MD := (yX7_keptOfStem, cX7_keptOfStem, 3, (some FieldType.int), [])
theorem kX7_keptOfStem : cx_M mX7_keptOfStem := ⟨rfl, cx_tb_in 737 (by decide +kernel) (by decide +kernel), t_43, by decide +kernel, by decide⟩
theorem nX7_keptOfStem : cx_n mX7_keptOfStem 2 := by unfold cx_n; decide +kernel
abbrev mX8_isVowel : MD := (yX8_isVowel, cX8_isVowel, 1, (some FieldType.boolean), [])
theorem kX8_isVowel : cx_M mX8_isVowel := ⟨rfl, cx_tb_in 741 (by decide +kernel) (by decide +kernel), t_41, by decide +kernel, by decide⟩
theorem nX8_isVowel : cx_n mX8_isVowel 1 := by unfold cx_n; decide +kernel
abbrev mX7_formSign : MD := (yX7_formSign, cX7_formSign, 9, (some FieldType.char), [])
theorem kX7_formSign : cx_M mX7_formSign := ⟨rfl, cx_tb_in 745 (by decide +kernel) (by decide +kernel), t_43, by decide +kernel, by decide⟩
theorem nX7_formSign : cx_n mX7_formSign 4 := by unfold cx_n; decide +kernel
abbrev mX6_at : MD := (yX6_at, cX6_at, 2, (some FieldType.char), [])
theorem kX6_at : cx_M mX6_at := ⟨rfl, cx_tb_in 749 (by decide +kernel) (by decide +kernel), t_54, by decide +kernel, by decide⟩
theorem nX6_at : cx_n mX6_at 1 := by unfold cx_n; decide +kernel
abbrev mX3_at : MD := (yX3_at, cX3_at, 2, (some FieldType.char), [])
theorem kX3_at : cx_M mX3_at := ⟨rfl, cx_tb_in 753 (by decide +kernel) (by decide +kernel), t_44, by decide +kernel, by decide⟩
theorem nX3_at : cx_n mX3_at 1 := by unfold cx_n; decide +kernel
abbrev mX8_signAnew : MD := (yX8_signAnew, cX8_signAnew, 7, (some FieldType.char), [])
theorem kX8_signAnew : cx_M mX8_signAnew := ⟨rfl, cx_tb_in 761 (by decide +kernel) (by decide +kernel), t_41, by decide +kernel, by decide⟩
theorem nX8_signAnew : cx_n mX8_signAnew 4 := by unfold cx_n; decide +kernel
abbrev mX4_start : MD := (yX4_start, cX4_start, 2, (none : Option FieldType), [])
theorem kX4_start : cx_M mX4_start := ⟨rfl, cx_tb_in 765 (by decide +kernel) (by decide +kernel), t_45, by decide +kernel, by decide⟩
theorem nX4_start : cx_n mX4_start 1 := by unfold cx_n; decide +kernel
abbrev mX8_seek : MD := (yX8_seek, cX8_seek, 7, (none : Option FieldType), [])
theorem kX8_seek : cx_M mX8_seek := ⟨rfl, cx_tb_in 769 (by decide +kernel) (by decide +kernel), t_41, by decide +kernel, by decide⟩
theorem nX8_seek : cx_n mX8_seek 3 := by unfold cx_n; decide +kernel
abbrev mX4_isDone : MD := (yX4_isDone, cX4_isDone, 1, (some FieldType.boolean), [])
theorem kX4_isDone : cx_M mX4_isDone := ⟨rfl, cx_tb_in 773 (by decide +kernel) (by decide +kernel), t_45, by decide +kernel, by decide⟩
theorem nX4_isDone : cx_n mX4_isDone 0 := by unfold cx_n; decide +kernel
abbrev mX4_pass : MD := (yX4_pass, cX4_pass, 2, (none : Option FieldType), [])
theorem kX4_pass : cx_M mX4_pass := ⟨rfl, cx_tb_in 777 (by decide +kernel) (by decide +kernel), t_45, by decide +kernel, by decide⟩
theorem nX4_pass : cx_n mX4_pass 1 := by unfold cx_n; decide +kernel
abbrev mX8_seekTemplate : MD := (yX8_seekTemplate, cX8_seekTemplate, 8, (none : Option FieldType), [])
theorem kX8_seekTemplate : cx_M mX8_seekTemplate := ⟨rfl, cx_tb_in 783 (by decide +kernel) (by decide +kernel), t_41, by decide +kernel, by decide⟩
theorem nX8_seekTemplate : cx_n mX8_seekTemplate 3 := by unfold cx_n; decide +kernel
abbrev mX4_left : MD := (yX4_left, cX4_left, 1, (some FieldType.int), [])
theorem kX4_left : cx_M mX4_left := ⟨rfl, cx_tb_in 787 (by decide +kernel) (by decide +kernel), t_45, by decide +kernel, by decide⟩
theorem nX4_left : cx_n mX4_left 0 := by unfold cx_n; decide +kernel
abbrev mX4_passForm : MD := (yX4_passForm, cX4_passForm, 3, (none : Option FieldType), [])
theorem kX4_passForm : cx_M mX4_passForm := ⟨rfl, cx_tb_in 791 (by decide +kernel) (by decide +kernel), t_45, by decide +kernel, by decide⟩
theorem nX4_passForm : cx_n mX4_passForm 2 := by unfold cx_n; decide +kernel
abbrev mX4_found : MD := (yX4_found, cX4_found, 1, (some FieldType.char), [])
theorem kX4_found : cx_M mX4_found := ⟨rfl, cx_tb_in 795 (by decide +kernel) (by decide +kernel), t_45, by decide +kernel, by decide⟩
theorem nX4_found : cx_n mX4_found 0 := by unfold cx_n; decide +kernel
abbrev mX8_costs : MD := (yX8_costs, cX8_costs, 6, (some FieldType.int), [])
theorem kX8_costs : cx_M mX8_costs := ⟨rfl, cx_tb_in 802 (by decide +kernel) (by decide +kernel), t_41, by decide +kernel, by decide⟩
theorem nX8_costs : cx_n mX8_costs 3 := by unfold cx_n; decide +kernel
abbrev mX3_countWords : MD := (yX3_countWords, cX3_countWords, 6, (some FieldType.int), [])
theorem kX3_countWords : cx_M mX3_countWords := ⟨rfl, cx_tb_in 806 (by decide +kernel) (by decide +kernel), t_44, by decide +kernel, by decide⟩
theorem nX3_countWords : cx_n mX3_countWords 0 := by unfold cx_n; decide +kernel
abbrev mX8_sample : MD := (yX8_sample, cX8_sample, 7, (some FieldType.int), [])
theorem kX8_sample : cx_M mX8_sample := ⟨rfl, cx_tb_in 813 (by decide +kernel) (by decide +kernel), t_41, by decide +kernel, by decide⟩
theorem nX8_sample : cx_n mX8_sample 2 := by unfold cx_n; decide +kernel
abbrev mX8_mostBranches : MD := (yX8_mostBranches, cX8_mostBranches, 7, (some FieldType.int), [])
theorem kX8_mostBranches : cx_M mX8_mostBranches := ⟨rfl, cx_tb_in 818 (by decide +kernel) (by decide +kernel), t_41, by decide +kernel, by decide⟩
theorem nX8_mostBranches : cx_n mX8_mostBranches 2 := by unfold cx_n; decide +kernel
abbrev mX8_branches : MD := (yX8_branches, cX8_branches, 6, (some FieldType.int), [])
theorem kX8_branches : cx_M mX8_branches := ⟨rfl, cx_tb_in 822 (by decide +kernel) (by decide +kernel), t_41, by decide +kernel, by decide⟩
theorem nX8_branches : cx_n mX8_branches 2 := by unfold cx_n; decide +kernel
abbrev mJ_bitCount : MD := (yJ_bitCount, cJ_bitCount, 1, (some FieldType.int), [])
theorem kJ_bitCount : cx_M mJ_bitCount := ⟨rfl, cx_tb_in 825 (by decide +kernel) (by decide +kernel), t_57, by decide +kernel, by decide⟩
theorem nJ_bitCount : cx_n mJ_bitCount 1 := by unfold cx_n; decide +kernel
abbrev mX9_init : MD := (yX9_init, cX9_init, 2, (none : Option FieldType), [])
theorem kX9_init : cx_M mX9_init := ⟨rfl, cx_tb_in 833 (by decide +kernel) (by decide +kernel), t_46, by decide +kernel, by decide⟩
theorem nX9_init : cx_n mX9_init 0 := by unfold cx_n; decide +kernel
abbrev mX9_thrown : MD := (yX9_thrown, cX9_thrown, 1, (some FieldType.int), [])
theorem kX9_thrown : cx_M mX9_thrown := ⟨rfl, cx_tb_in 921 (by decide +kernel) (by decide +kernel), t_46, by decide +kernel, by decide⟩
theorem nX9_thrown : cx_n mX9_thrown 0 := by unfold cx_n; decide +kernel
abbrev mX9_type : MD := (yX9_type, cX9_type, 2, (some FieldType.int), [])
theorem kX9_type : cx_M mX9_type := ⟨rfl, cx_tb_in 925 (by decide +kernel) (by decide +kernel), t_46, by decide +kernel, by decide⟩
theorem nX9_type : cx_n mX9_type 1 := by unfold cx_n; decide +kernel
abbrev mX9_goes : MD := (yX9_goes, cX9_goes, 2, (some FieldType.boolean), [])
theorem kX9_goes : cx_M mX9_goes := ⟨rfl, cx_tb_in 929 (by decide +kernel) (by decide +kernel), t_46, by decide +kernel, by decide⟩
theorem nX9_goes : cx_n mX9_goes 1 := by unfold cx_n; decide +kernel
abbrev mX9_clear : MD := (yX9_clear, cX9_clear, 2, (some FieldType.int), [])
theorem kX9_clear : cx_M mX9_clear := ⟨rfl, cx_tb_in 933 (by decide +kernel) (by decide +kernel), t_46, by decide +kernel, by decide⟩
theorem nX9_clear : cx_n mX9_clear 0 := by unfold cx_n; decide +kernel
abbrev mX9_word : MD := (yX9_word, cX9_word, 1, (some FieldType.int), [])
theorem kX9_word : cx_M mX9_word := ⟨rfl, cx_tb_in 937 (by decide +kernel) (by decide +kernel), t_46, by decide +kernel, by decide⟩
theorem nX9_word : cx_n mX9_word 0 := by unfold cx_n; decide +kernel
abbrev mX9_isAll : MD := (yX9_isAll, cX9_isAll, 5, (some FieldType.boolean), [])
theorem kX9_isAll : cx_M mX9_isAll := ⟨rfl, cx_tb_in 941 (by decide +kernel) (by decide +kernel), t_46, by decide +kernel, by decide⟩
theorem nX9_isAll : cx_n mX9_isAll 2 := by unfold cx_n; decide +kernel
abbrev mX9_isSmall : MD := (yX9_isSmall, cX9_isSmall, 1, (some FieldType.boolean), [])
theorem kX9_isSmall : cx_M mX9_isSmall := ⟨rfl, cx_tb_in 944 (by decide +kernel) (by decide +kernel), t_46, by decide +kernel, by decide⟩
theorem nX9_isSmall : cx_n mX9_isSmall 1 := by unfold cx_n; decide +kernel
abbrev mX9_takes : MD := (yX9_takes, cX9_takes, 4, (some FieldType.int), [])
theorem kX9_takes : cx_M mX9_takes := ⟨rfl, cx_tb_in 948 (by decide +kernel) (by decide +kernel), t_46, by decide +kernel, by decide⟩
theorem nX9_takes : cx_n mX9_takes 2 := by unfold cx_n; decide +kernel
abbrev mX9_form : MD := (yX9_form, cX9_form, 8, (some FieldType.int), [])
theorem kX9_form : cx_M mX9_form := ⟨rfl, cx_tb_in 952 (by decide +kernel) (by decide +kernel), t_46, by decide +kernel, by decide⟩
theorem nX9_form : cx_n mX9_form 3 := by unfold cx_n; decide +kernel
abbrev mX9_isLanguage : MD := (yX9_isLanguage, cX9_isLanguage, 1, (some FieldType.boolean), [])
theorem kX9_isLanguage : cx_M mX9_isLanguage := ⟨rfl, cx_tb_in 955 (by decide +kernel) (by decide +kernel), t_46, by decide +kernel, by decide⟩
theorem nX9_isLanguage : cx_n mX9_isLanguage 1 := by unfold cx_n; decide +kernel
abbrev mX9_isIn : MD := (yX9_isIn, cX9_isIn, 3, (some FieldType.boolean), [])
theorem kX9_isIn : cx_M mX9_isIn := ⟨rfl, cx_tb_in 958 (by decide +kernel) (by decide +kernel), t_46, by decide +kernel, by decide⟩
theorem nX9_isIn : cx_n mX9_isIn 3 := by unfold cx_n; decide +kernel
abbrev mX9_isWord : MD := (yX9_isWord, cX9_isWord, 2, (some FieldType.boolean), [])
theorem kX9_isWord : cx_M mX9_isWord := ⟨rfl, cx_tb_in 962 (by decide +kernel) (by decide +kernel), t_46, by decide +kernel, by decide⟩
theorem nX9_isWord : cx_n mX9_isWord 1 := by unfold cx_n; decide +kernel
abbrev mX9_clause : MD := (yX9_clause, cX9_clause, 2, (some FieldType.int), [])
theorem kX9_clause : cx_M mX9_clause := ⟨rfl, cx_tb_in 966 (by decide +kernel) (by decide +kernel), t_46, by decide +kernel, by decide⟩
theorem nX9_clause : cx_n mX9_clause 1 := by unfold cx_n; decide +kernel
abbrev mX9_fault : MD := (yX9_fault, cX9_fault, 1, (some FieldType.int), [])
theorem kX9_fault : cx_M mX9_fault := ⟨rfl, cx_tb_in 970 (by decide +kernel) (by decide +kernel), t_46, by decide +kernel, by decide⟩
theorem nX9_fault : cx_n mX9_fault 0 := by unfold cx_n; decide +kernel
abbrev mX9_faultOfBuffer : MD := (yX9_faultOfBuffer, cX9_faultOfBuffer, 3, (some FieldType.int), [])
theorem kX9_faultOfBuffer : cx_M mX9_faultOfBuffer := ⟨rfl, cx_tb_in 974 (by decide +kernel) (by decide +kernel), t_46, by decide +kernel, by decide⟩
theorem nX9_faultOfBuffer : cx_n mX9_faultOfBuffer 0 := by unfold cx_n; decide +kernel
abbrev mX9_behind : MD := (yX9_behind, cX9_behind, 3, (some FieldType.int), [])
theorem kX9_behind : cx_M mX9_behind := ⟨rfl, cx_tb_in 977 (by decide +kernel) (by decide +kernel), t_46, by decide +kernel, by decide⟩
theorem nX9_behind : cx_n mX9_behind 2 := by unfold cx_n; decide +kernel
abbrev mX9_isCase : MD := (yX9_isCase, cX9_isCase, 1, (some FieldType.boolean), [])
theorem kX9_isCase : cx_M mX9_isCase := ⟨rfl, cx_tb_in 980 (by decide +kernel) (by decide +kernel), t_46, by decide +kernel, by decide⟩
theorem nX9_isCase : cx_n mX9_isCase 1 := by unfold cx_n; decide +kernel
abbrev mX9_text : MD := (yX9_text, cX9_text, 6, (some FieldType.int), [])
theorem kX9_text : cx_M mX9_text := ⟨rfl, cx_tb_in 984 (by decide +kernel) (by decide +kernel), t_46, by decide +kernel, by decide⟩
theorem nX9_text : cx_n mX9_text 2 := by unfold cx_n; decide +kernel
abbrev mX9_isClause : MD := (yX9_isClause, cX9_isClause, 2, (some FieldType.boolean), [])
theorem kX9_isClause : cx_M mX9_isClause := ⟨rfl, cx_tb_in 988 (by decide +kernel) (by decide +kernel), t_46, by decide +kernel, by decide⟩
theorem nX9_isClause : cx_n mX9_isClause 1 := by unfold cx_n; decide +kernel
abbrev mX9_at : MD := (yX9_at, cX9_at, 2, (some FieldType.int), [])
theorem kX9_at : cx_M mX9_at := ⟨rfl, cx_tb_in 991 (by decide +kernel) (by decide +kernel), t_46, by decide +kernel, by decide⟩
theorem nX9_at : cx_n mX9_at 2 := by unfold cx_n; decide +kernel
abbrev mX9_approve : MD := (yX9_approve, cX9_approve, 5, (some FieldType.boolean), [])
theorem kX9_approve : cx_M mX9_approve := ⟨rfl, cx_tb_in 995 (by decide +kernel) (by decide +kernel), t_46, by decide +kernel, by decide⟩
theorem nX9_approve : cx_n mX9_approve 2 := by unfold cx_n; decide +kernel
abbrev mX9_relate : MD := (yX9_relate, cX9_relate, 9, (some FieldType.int), [])
theorem kX9_relate : cx_M mX9_relate := ⟨rfl, cx_tb_in 999 (by decide +kernel) (by decide +kernel), t_46, by decide +kernel, by decide⟩
theorem nX9_relate : cx_n mX9_relate 4 := by unfold cx_n; decide +kernel
abbrev mX9_isLinked : MD := (yX9_isLinked, cX9_isLinked, 7, (some FieldType.boolean), [])
theorem kX9_isLinked : cx_M mX9_isLinked := ⟨rfl, cx_tb_in 1003 (by decide +kernel) (by decide +kernel), t_46, by decide +kernel, by decide⟩
theorem nX9_isLinked : cx_n mX9_isLinked 1 := by unfold cx_n; decide +kernel
abbrev mX9_often : MD := (yX9_often, cX9_often, 5, (some FieldType.int), [])
theorem kX9_often : cx_M mX9_often := ⟨rfl, cx_tb_in 1007 (by decide +kernel) (by decide +kernel), t_46, by decide +kernel, by decide⟩
theorem nX9_often : cx_n mX9_often 2 := by unfold cx_n; decide +kernel
abbrev mX9_letter : MD := (yX9_letter, cX9_letter, 1, (some FieldType.int), [])
theorem kX9_letter : cx_M mX9_letter := ⟨rfl, cx_tb_in 1011 (by decide +kernel) (by decide +kernel), t_46, by decide +kernel, by decide⟩
theorem nX9_letter : cx_n mX9_letter 0 := by unfold cx_n; decide +kernel
abbrev mX9_put : MD := (yX9_put, cX9_put, 4, (some FieldType.int), [])
theorem kX9_put : cx_M mX9_put := ⟨rfl, cx_tb_in 1015 (by decide +kernel) (by decide +kernel), t_46, by decide +kernel, by decide⟩
theorem nX9_put : cx_n mX9_put 2 := by unfold cx_n; decide +kernel
abbrev mX9_isLetter : MD := (yX9_isLetter, cX9_isLetter, 2, (some FieldType.boolean), [])
theorem kX9_isLetter : cx_M mX9_isLetter := ⟨rfl, cx_tb_in 1019 (by decide +kernel) (by decide +kernel), t_46, by decide +kernel, by decide⟩
theorem nX9_isLetter : cx_n mX9_isLetter 1 := by unfold cx_n; decide +kernel
abbrev mX9_has : MD := (yX9_has, cX9_has, 5, (some FieldType.boolean), [])
theorem kX9_has : cx_M mX9_has := ⟨rfl, cx_tb_in 1023 (by decide +kernel) (by decide +kernel), t_46, by decide +kernel, by decide⟩
theorem nX9_has : cx_n mX9_has 2 := by unfold cx_n; decide +kernel
abbrev mX9_data : MD := (yX9_data, cX9_data, 4, (some FieldType.int), [])
theorem kX9_data : cx_M mX9_data := ⟨rfl, cx_tb_in 1027 (by decide +kernel) (by decide +kernel), t_46, by decide +kernel, by decide⟩
theorem nX9_data : cx_n mX9_data 2 := by unfold cx_n; decide +kernel
abbrev mX9_fill : MD := (yX9_fill, cX9_fill, 6, (some FieldType.int), [])
theorem kX9_fill : cx_M mX9_fill := ⟨rfl, cx_tb_in 1031 (by decide +kernel) (by decide +kernel), t_46, by decide +kernel, by decide⟩
theorem nX9_fill : cx_n mX9_fill 3 := by unfold cx_n; decide +kernel
abbrev mX9_isData : MD := (yX9_isData, cX9_isData, 2, (some FieldType.boolean), [])
theorem kX9_isData : cx_M mX9_isData := ⟨rfl, cx_tb_in 1035 (by decide +kernel) (by decide +kernel), t_46, by decide +kernel, by decide⟩
theorem nX9_isData : cx_n mX9_isData 1 := by unfold cx_n; decide +kernel
abbrev mX9_price : MD := (yX9_price, cX9_price, 4, (some FieldType.int), [])
theorem kX9_price : cx_M mX9_price := ⟨rfl, cx_tb_in 1039 (by decide +kernel) (by decide +kernel), t_46, by decide +kernel, by decide⟩
theorem nX9_price : cx_n mX9_price 2 := by unfold cx_n; decide +kernel
abbrev mX9_faultOf : MD := (yX9_faultOf, cX9_faultOf, 10, (some FieldType.int), [])
theorem kX9_faultOf : cx_M mX9_faultOf := ⟨rfl, cx_tb_in 1043 (by decide +kernel) (by decide +kernel), t_46, by decide +kernel, by decide⟩
theorem nX9_faultOf : cx_n mX9_faultOf 4 := by unfold cx_n; decide +kernel
abbrev mX9_meets : MD := (yX9_meets, cX9_meets, 3, (some FieldType.boolean), [])
theorem kX9_meets : cx_M mX9_meets := ⟨rfl, cx_tb_in 1047 (by decide +kernel) (by decide +kernel), t_46, by decide +kernel, by decide⟩
theorem nX9_meets : cx_n mX9_meets 2 := by unfold cx_n; decide +kernel
abbrev mX9_isBroken : MD := (yX9_isBroken, cX9_isBroken, 10, (some FieldType.boolean), [])
theorem kX9_isBroken : cx_M mX9_isBroken := ⟨rfl, cx_tb_in 1051 (by decide +kernel) (by decide +kernel), t_46, by decide +kernel, by decide⟩
theorem nX9_isBroken : cx_n mX9_isBroken 5 := by unfold cx_n; decide +kernel
abbrev mX9_sign : MD := (yX9_sign, cX9_sign, 5, (some FieldType.char), [])
theorem kX9_sign : cx_M mX9_sign := ⟨rfl, cx_tb_in 1055 (by decide +kernel) (by decide +kernel), t_46, by decide +kernel, by decide⟩
theorem nX9_sign : cx_n mX9_sign 4 := by unfold cx_n; decide +kernel
abbrev mX9_signOf : MD := (yX9_signOf, cX9_signOf, 6, (some FieldType.char), [])
theorem kX9_signOf : cx_M mX9_signOf := ⟨rfl, cx_tb_in 1059 (by decide +kernel) (by decide +kernel), t_46, by decide +kernel, by decide⟩
theorem nX9_signOf : cx_n mX9_signOf 4 := by unfold cx_n; decide +kernel
abbrev mX9_builds : MD := (yX9_builds, cX9_builds, 8, (none : Option FieldType), [])
theorem kX9_builds : cx_M mX9_builds := ⟨rfl, cx_tb_in 1063 (by decide +kernel) (by decide +kernel), t_46, by decide +kernel, by decide⟩
theorem nX9_builds : cx_n mX9_builds 3 := by unfold cx_n; decide +kernel
abbrev mX9_lays : MD := (yX9_lays, cX9_lays, 2, (none : Option FieldType), [])
theorem kX9_lays : cx_M mX9_lays := ⟨rfl, cx_tb_in 1067 (by decide +kernel) (by decide +kernel), t_46, by decide +kernel, by decide⟩
theorem nX9_lays : cx_n mX9_lays 1 := by unfold cx_n; decide +kernel
abbrev mX9_laysText : MD := (yX9_laysText, cX9_laysText, 6, (none : Option FieldType), [])
theorem kX9_laysText : cx_M mX9_laysText := ⟨rfl, cx_tb_in 1071 (by decide +kernel) (by decide +kernel), t_46, by decide +kernel, by decide⟩
theorem nX9_laysText : cx_n mX9_laysText 3 := by unfold cx_n; decide +kernel
abbrev mX9_grammar : MD := (yX9_grammar, cX9_grammar, 2, (some FieldType.int), [])
theorem kX9_grammar : cx_M mX9_grammar := ⟨rfl, cx_tb_in 1074 (by decide +kernel) (by decide +kernel), t_46, by decide +kernel, by decide⟩
theorem nX9_grammar : cx_n mX9_grammar 2 := by unfold cx_n; decide +kernel
abbrev mX9_laysForm : MD := (yX9_laysForm, cX9_laysForm, 9, (none : Option FieldType), [])
theorem kX9_laysForm : cx_M mX9_laysForm := ⟨rfl, cx_tb_in 1078 (by decide +kernel) (by decide +kernel), t_46, by decide +kernel, by decide⟩
theorem nX9_laysForm : cx_n mX9_laysForm 3 := by unfold cx_n; decide +kernel
abbrev mX9_isVowel : MD := (yX9_isVowel, cX9_isVowel, 1, (some FieldType.boolean), [])
theorem kX9_isVowel : cx_M mX9_isVowel := ⟨rfl, cx_tb_in 1081 (by decide +kernel) (by decide +kernel), t_46, by decide +kernel, by decide⟩
theorem nX9_isVowel : cx_n mX9_isVowel 1 := by unfold cx_n; decide +kernel
abbrev mX9_signAnew : MD := (yX9_signAnew, cX9_signAnew, 5, (some FieldType.char), [])
theorem kX9_signAnew : cx_M mX9_signAnew := ⟨rfl, cx_tb_in 1085 (by decide +kernel) (by decide +kernel), t_46, by decide +kernel, by decide⟩
theorem nX9_signAnew : cx_n mX9_signAnew 4 := by unfold cx_n; decide +kernel
abbrev mX9_costs : MD := (yX9_costs, cX9_costs, 9, (some FieldType.int), [])
theorem kX9_costs : cx_M mX9_costs := ⟨rfl, cx_tb_in 1089 (by decide +kernel) (by decide +kernel), t_46, by decide +kernel, by decide⟩
theorem nX9_costs : cx_n mX9_costs 3 := by unfold cx_n; decide +kernel
abbrev mX9_sample : MD := (yX9_sample, cX9_sample, 8, (some FieldType.int), [])
theorem kX9_sample : cx_M mX9_sample := ⟨rfl, cx_tb_in 1093 (by decide +kernel) (by decide +kernel), t_46, by decide +kernel, by decide⟩
theorem nX9_sample : cx_n mX9_sample 2 := by unfold cx_n; decide +kernel
abbrev mX9_branches : MD := (yX9_branches, cX9_branches, 6, (some FieldType.int), [])
theorem kX9_branches : cx_M mX9_branches := ⟨rfl, cx_tb_in 1097 (by decide +kernel) (by decide +kernel), t_46, by decide +kernel, by decide⟩
theorem nX9_branches : cx_n mX9_branches 2 := by unfold cx_n; decide +kernel
abbrev mL_type : MD := (yL_type, cL_type, 4, (some FieldType.int), [(0, 9, 12, 13)])
theorem kL_type : cx_MW mL_type := ⟨by decide, cx_tb_in 214 (by decide +kernel) (by decide +kernel), t_40, by decide +kernel, by decide⟩
theorem nL_type : cx_n mL_type 3 := by unfold cx_n; decide +kernel
abbrev mL_word : MD := (yL_word, cL_word, 3, (some FieldType.int), [(0, 8, 11, 13)])
theorem kL_word : cx_MW mL_word := ⟨by decide, cx_tb_in 294 (by decide +kernel) (by decide +kernel), t_40, by decide +kernel, by decide⟩
theorem nL_word : cx_n mL_word 2 := by unfold cx_n; decide +kernel
abbrev mL_form : MD := (yL_form, cL_form, 6, (some FieldType.int), [(0, 12, 15, 23), (0, 12, 19, 25), (0, 12, 23, 13)])
theorem kL_form : cx_MW mL_form := ⟨by decide, cx_tb_in 326 (by decide +kernel) (by decide +kernel), t_40, by decide +kernel, by decide⟩
theorem nL_form : cx_n mL_form 5 := by unfold cx_n; decide +kernel
abbrev mL_clause : MD := (yL_clause, cL_clause, 4, (some FieldType.int), [(0, 9, 12, 25), (0, 9, 15, 13)])
theorem kL_clause : cx_MW mL_clause := ⟨by decide, cx_tb_in 391 (by decide +kernel) (by decide +kernel), t_40, by decide +kernel, by decide⟩
theorem nL_clause : cx_n mL_clause 3 := by unfold cx_n; decide +kernel
abbrev mL_text : MD := (yL_text, cL_text, 5, (some FieldType.int), [(0, 10, 13, 23), (0, 10, 17, 13)])
theorem kL_text : cx_MW mL_text := ⟨by decide, cx_tb_in 431 (by decide +kernel) (by decide +kernel), t_40, by decide +kernel, by decide⟩
theorem nL_text : cx_n mL_text 4 := by unfold cx_n; decide +kernel
abbrev mL_approve : MD := (yL_approve, cL_approve, 5, (some FieldType.int), [(0, 17, 20, 23), (0, 17, 24, 13)])
theorem kL_approve : cx_MW mL_approve := ⟨by decide, cx_tb_in 468 (by decide +kernel) (by decide +kernel), t_40, by decide +kernel, by decide⟩
theorem nL_approve : cx_n mL_approve 4 := by unfold cx_n; decide +kernel
abbrev mL_relate : MD := (yL_relate, cL_relate, 7, (some FieldType.int), [(0, 14, 17, 23), (0, 14, 21, 25)])
theorem kL_relate : cx_MW mL_relate := ⟨by decide, cx_tb_in 488 (by decide +kernel) (by decide +kernel), t_40, by decide +kernel, by decide⟩
theorem nL_relate : cx_n mL_relate 6 := by unfold cx_n; decide +kernel
abbrev mL_isLinked : MD := (yL_isLinked, cL_isLinked, 4, (some FieldType.int), [(0, 16, 19, 23)])
theorem kL_isLinked : cx_MW mL_isLinked := ⟨by decide, cx_tb_in 509 (by decide +kernel) (by decide +kernel), t_40, by decide +kernel, by decide⟩
theorem nL_isLinked : cx_n mL_isLinked 3 := by unfold cx_n; decide +kernel
abbrev mL_letter : MD := (yL_letter, cL_letter, 3, (some FieldType.int), [(0, 8, 11, 13)])
theorem kL_letter : cx_MW mL_letter := ⟨by decide, cx_tb_in 535 (by decide +kernel) (by decide +kernel), t_40, by decide +kernel, by decide⟩
theorem nL_letter : cx_n mL_letter 2 := by unfold cx_n; decide +kernel
abbrev mL_put : MD := (yL_put, cL_put, 5, (some FieldType.int), [(0, 10, 13, 23), (0, 10, 17, 13)])
theorem kL_put : cx_MW mL_put := ⟨by decide, cx_tb_in 555 (by decide +kernel) (by decide +kernel), t_40, by decide +kernel, by decide⟩
theorem nL_put : cx_n mL_put 4 := by unfold cx_n; decide +kernel
abbrev mL_data : MD := (yL_data, cL_data, 5, (some FieldType.int), [(0, 10, 13, 23), (0, 10, 17, 25), (0, 10, 21, 13)])
theorem kL_data : cx_MW mL_data := ⟨by decide, cx_tb_in 585 (by decide +kernel) (by decide +kernel), t_40, by decide +kernel, by decide⟩
theorem nL_data : cx_n mL_data 4 := by unfold cx_n; decide +kernel
abbrev mL_fill : MD := (yL_fill, cL_fill, 6, (some FieldType.int), [(0, 12, 15, 23)])
theorem kL_fill : cx_MW mL_fill := ⟨by decide, cx_tb_in 607 (by decide +kernel) (by decide +kernel), t_40, by decide +kernel, by decide⟩
theorem nL_fill : cx_n mL_fill 5 := by unfold cx_n; decide +kernel
abbrev mL_price : MD := (yL_price, cL_price, 5, (some FieldType.int), [(0, 10, 13, 23), (0, 10, 17, 25)])
theorem kL_price : cx_MW mL_price := ⟨by decide, cx_tb_in 628 (by decide +kernel) (by decide +kernel), t_40, by decide +kernel, by decide⟩
theorem nL_price : cx_n mL_price 4 := by unfold cx_n; decide +kernel
abbrev mL_faultOf : MD := (yL_faultOf, cL_faultOf, 7, (some FieldType.int), [(0, 14, 17, 23), (0, 14, 21, 25)])
theorem kL_faultOf : cx_MW mL_faultOf := ⟨by decide, cx_tb_in 637 (by decide +kernel) (by decide +kernel), t_40, by decide +kernel, by decide⟩
theorem nL_faultOf : cx_n mL_faultOf 6 := by unfold cx_n; decide +kernel
abbrev mL_sign : MD := (yL_sign, cL_sign, 7, (some FieldType.int), [(0, 14, 17, 23)])
theorem kL_sign : cx_MW mL_sign := ⟨by decide, cx_tb_in 667 (by decide +kernel) (by decide +kernel), t_40, by decide +kernel, by decide⟩
theorem nL_sign : cx_n mL_sign 6 := by unfold cx_n; decide +kernel
abbrev mL_signAnew : MD := (yL_signAnew, cL_signAnew, 7, (some FieldType.int), [(0, 14, 17, 23)])
theorem kL_signAnew : cx_MW mL_signAnew := ⟨by decide, cx_tb_in 757 (by decide +kernel) (by decide +kernel), t_40, by decide +kernel, by decide⟩
theorem nL_signAnew : cx_n mL_signAnew 6 := by unfold cx_n; decide +kernel
abbrev mL_costs : MD := (yL_costs, cL_costs, 6, (some FieldType.int), [(0, 12, 15, 23)])
theorem kL_costs : cx_MW mL_costs := ⟨by decide, cx_tb_in 798 (by decide +kernel) (by decide +kernel), t_40, by decide +kernel, by decide⟩
theorem nL_costs : cx_n mL_costs 5 := by unfold cx_n; decide +kernel
abbrev mL_sample : MD := (yL_sample, cL_sample, 5, (some FieldType.int), [(0, 10, 13, 23)])
theorem kL_sample : cx_MW mL_sample := ⟨by decide, cx_tb_in 809 (by decide +kernel) (by decide +kernel), t_40, by decide +kernel, by decide⟩
theorem nL_sample : cx_n mL_sample 4 := by unfold cx_n; decide +kernel
abbrev mL_law : MD := (x, code, maxLocals, ret, [])
theorem wi_0 : ∀ w ∈ u_ws RX0 TX0 3, w ∈ cx_tb := by decide +kernel
theorem wi_1 : ∀ w ∈ u_ws RX1 TX1 2, w ∈ cx_tb := by decide +kernel
theorem wi_2 : ∀ w ∈ u_ws RX2 TX2 2, w ∈ cx_tb := by decide +kernel
theorem wi_3 : ∀ w ∈ u_ws RX3 TX3 2, w ∈ cx_tb := by decide +kernel
theorem wi_4 : ∀ w ∈ u_ws RX4 TX4 3, w ∈ cx_tb := by decide +kernel
theorem wi_5 : ∀ w ∈ u_ws RX5 TX5 2, w ∈ cx_tb := by decide +kernel
theorem wi_6 : ∀ w ∈ u_ws RX6 TX6 2, w ∈ cx_tb := by decide +kernel
theorem wi_7 : ∀ w ∈ u_ws RX7 TX7 4, w ∈ cx_tb := by decide +kernel
theorem wi_8 : ∀ w ∈ u_ws RX8 TX8 11, w ∈ cx_tb := by decide +kernel
theorem wi_9 : ∀ w ∈ u_ws RX9 TX9 27, w ∈ cx_tb := by decide +kernel
theorem fRX5_7 : cx_F RX5 7 5 0 := ⟨(RX5, TX5, 2), rfl, by decide, wi_5, t_72⟩
theorem gRX5_7 : cx_FP RX5 7 5 0 (.array .char) true := ⟨(RX5, TX5, 2), tyX5, rfl, by decide, wi_5, t_72, tyX5_ok, nmX5, rfl, rfl, rfl⟩
theorem fRX5_13 : cx_F RX5 13 5 1 := ⟨(RX5, TX5, 2), rfl, by decide, wi_5, t_73⟩
theorem gRX5_13 : cx_FP RX5 13 5 1 (.int) false := ⟨(RX5, TX5, 2), tyX5, rfl, by decide, wi_5, t_73, tyX5_ok, nmX5, rfl, rfl, rfl⟩
theorem fRX7_11 : cx_F RX7 11 7 0 := ⟨(RX7, TX7, 4), rfl, by decide, wi_7, t_89⟩
theorem gRX7_11 : cx_FP RX7 11 7 0 (.array (.object "Glosstemplate$Signs")) true := ⟨(RX7, TX7, 4), tyX7, rfl, by decide, wi_7, t_89, tyX7_ok, nmX7, rfl, rfl, rfl⟩
theorem fRX7_17 : cx_F RX7 17 7 1 := ⟨(RX7, TX7, 4), rfl, by decide, wi_7, t_90⟩
theorem gRX7_17 : cx_FP RX7 17 7 1 (.array (.object "Glosstemplate$Signs")) true := ⟨(RX7, TX7, 4), tyX7, rfl, by decide, wi_7, t_90, tyX7_ok, nmX7, rfl, rfl, rfl⟩
theorem fRX7_20 : cx_F RX7 20 7 2 := ⟨(RX7, TX7, 4), rfl, by decide, wi_7, t_91⟩
theorem gRX7_20 : cx_FP RX7 20 7 2 (.array (.object "Glosstemplate$Signs")) true := ⟨(RX7, TX7, 4), tyX7, rfl, by decide, wi_7, t_91, tyX7_ok, nmX7, rfl, rfl, rfl⟩
theorem fRX7_26 : cx_F RX7 26 7 3 := ⟨(RX7, TX7, 4), rfl, by decide, wi_7, t_92⟩
theorem gRX7_26 : cx_FP RX7 26 7 3 (.int) false := ⟨(RX7, TX7, 4), tyX7, rfl, by decide, wi_7, t_92, tyX7_ok, nmX7, rfl, rfl, rfl⟩
theorem fRX3_14 : cx_F RX3 14 3 0 := ⟨(RX3, TX3, 2), rfl, by decide, wi_3, t_116⟩
theorem gRX3_14 : cx_FP RX3 14 3 0 (.object "Glosstemplate$Signs") true := ⟨(RX3, TX3, 2), tyX3, rfl, by decide, wi_3, t_116, tyX3_ok, nmX3, rfl, rfl, rfl⟩
theorem fRX3_20 : cx_F RX3 20 3 1 := ⟨(RX3, TX3, 2), rfl, by decide, wi_3, t_117⟩
theorem gRX3_20 : cx_FP RX3 20 3 1 (.boolean) false := ⟨(RX3, TX3, 2), tyX3, rfl, by decide, wi_3, t_117, tyX3_ok, nmX3, rfl, rfl, rfl⟩
theorem fRX4_7 : cx_F RX4 7 4 0 := ⟨(RX4, TX4, 3), rfl, by decide, wi_4, t_130⟩
theorem gRX4_7 : cx_FP RX4 7 4 0 (.int) false := ⟨(RX4, TX4, 3), tyX4, rfl, by decide, wi_4, t_130, tyX4_ok, nmX4, rfl, rfl, rfl⟩
theorem fRX4_13 : cx_F RX4 13 4 1 := ⟨(RX4, TX4, 3), rfl, by decide, wi_4, t_131⟩
theorem gRX4_13 : cx_FP RX4 13 4 1 (.boolean) false := ⟨(RX4, TX4, 3), tyX4, rfl, by decide, wi_4, t_131, tyX4_ok, nmX4, rfl, rfl, rfl⟩
theorem fRX4_17 : cx_F RX4 17 4 2 := ⟨(RX4, TX4, 3), rfl, by decide, wi_4, t_132⟩
theorem gRX4_17 : cx_FP RX4 17 4 2 (.char) false := ⟨(RX4, TX4, 3), tyX4, rfl, by decide, wi_4, t_132, tyX4_ok, nmX4, rfl, rfl, rfl⟩
theorem fRX8_14 : cx_F RX8 14 8 0 := ⟨(RX8, TX8, 11), rfl, by decide, wi_8, t_140⟩
theorem gRX8_14 : cx_FP RX8 14 8 0 (.object "Glosstemplate$Signs") true := ⟨(RX8, TX8, 11), tyX8, rfl, by decide, wi_8, t_140, tyX8_ok, nmX8, rfl, rfl, rfl⟩
theorem fRX8_21 : cx_F RX8 21 8 1 := ⟨(RX8, TX8, 11), rfl, by decide, wi_8, t_141⟩
theorem gRX8_21 : cx_FP RX8 21 8 1 (.object "Glosstemplate$Words") true := ⟨(RX8, TX8, 11), tyX8, rfl, by decide, wi_8, t_141, tyX8_ok, nmX8, rfl, rfl, rfl⟩
theorem fRX8_27 : cx_F RX8 27 8 2 := ⟨(RX8, TX8, 11), rfl, by decide, wi_8, t_142⟩
theorem gRX8_27 : cx_FP RX8 27 8 2 (.array (.object "Glosstemplate$Clause")) true := ⟨(RX8, TX8, 11), tyX8, rfl, by decide, wi_8, t_142, tyX8_ok, nmX8, rfl, rfl, rfl⟩
theorem fRX8_33 : cx_F RX8 33 8 3 := ⟨(RX8, TX8, 11), rfl, by decide, wi_8, t_143⟩
theorem gRX8_33 : cx_FP RX8 33 8 3 (.array (.object "Glosstemplate$Letter")) true := ⟨(RX8, TX8, 11), tyX8, rfl, by decide, wi_8, t_143, tyX8_ok, nmX8, rfl, rfl, rfl⟩
theorem fRX8_39 : cx_F RX8 39 8 4 := ⟨(RX8, TX8, 11), rfl, by decide, wi_8, t_144⟩
theorem gRX8_39 : cx_FP RX8 39 8 4 (.array (.object "Glosstemplate$Data")) true := ⟨(RX8, TX8, 11), tyX8, rfl, by decide, wi_8, t_144, tyX8_ok, nmX8, rfl, rfl, rfl⟩
theorem fRX8_43 : cx_F RX8 43 8 5 := ⟨(RX8, TX8, 11), rfl, by decide, wi_8, t_145⟩
theorem gRX8_43 : cx_FP RX8 43 8 5 (.array .int) true := ⟨(RX8, TX8, 11), tyX8, rfl, by decide, wi_8, t_145, tyX8_ok, nmX8, rfl, rfl, rfl⟩
theorem fRX8_50 : cx_F RX8 50 8 6 := ⟨(RX8, TX8, 11), rfl, by decide, wi_8, t_146⟩
theorem gRX8_50 : cx_FP RX8 50 8 6 (.object "Glosstemplate$Page") true := ⟨(RX8, TX8, 11), tyX8, rfl, by decide, wi_8, t_146, tyX8_ok, nmX8, rfl, rfl, rfl⟩
theorem fRX8_57 : cx_F RX8 57 8 7 := ⟨(RX8, TX8, 11), rfl, by decide, wi_8, t_147⟩
theorem gRX8_57 : cx_FP RX8 57 8 7 (.object "Glosstemplate$Seeker") true := ⟨(RX8, TX8, 11), tyX8, rfl, by decide, wi_8, t_147, tyX8_ok, nmX8, rfl, rfl, rfl⟩
theorem fRX8_124 : cx_F RX8 124 8 8 := ⟨(RX8, TX8, 11), rfl, by decide, wi_8, t_148⟩
theorem gRX8_124 : cx_FP RX8 124 8 8 (.int) false := ⟨(RX8, TX8, 11), tyX8, rfl, by decide, wi_8, t_148, tyX8_ok, nmX8, rfl, rfl, rfl⟩
theorem fRX8_182 : cx_F RX8 182 8 9 := ⟨(RX8, TX8, 11), rfl, by decide, wi_8, t_149⟩
theorem gRX8_182 : cx_FP RX8 182 8 9 (.int) false := ⟨(RX8, TX8, 11), tyX8, rfl, by decide, wi_8, t_149, tyX8_ok, nmX8, rfl, rfl, rfl⟩
theorem fRX8_206 : cx_F RX8 206 8 10 := ⟨(RX8, TX8, 11), rfl, by decide, wi_8, t_150⟩
theorem gRX8_206 : cx_FP RX8 206 8 10 (.int) false := ⟨(RX8, TX8, 11), tyX8, rfl, by decide, wi_8, t_150, tyX8_ok, nmX8, rfl, rfl, rfl⟩
theorem fRX6_14 : cx_F RX6 14 6 0 := ⟨(RX6, TX6, 2), rfl, by decide, wi_6, t_412⟩
theorem gRX6_14 : cx_FP RX6 14 6 0 (.object "Glosstemplate$Signs") true := ⟨(RX6, TX6, 2), tyX6, rfl, by decide, wi_6, t_412, tyX6_ok, nmX6, rfl, rfl, rfl⟩
theorem fRX6_24 : cx_F RX6 24 6 1 := ⟨(RX6, TX6, 2), rfl, by decide, wi_6, t_413⟩
theorem gRX6_24 : cx_FP RX6 24 6 1 (.boolean) false := ⟨(RX6, TX6, 2), tyX6, rfl, by decide, wi_6, t_413, tyX6_ok, nmX6, rfl, rfl, rfl⟩
theorem fRX0_21 : cx_F RX0 21 0 0 := ⟨(RX0, TX0, 3), rfl, by decide, wi_0, t_419⟩
theorem gRX0_21 : cx_FP RX0 21 0 0 (.int) true := ⟨(RX0, TX0, 3), tyX0, rfl, by decide, wi_0, t_419, tyX0_ok, nmX0, rfl, rfl, rfl⟩
theorem fRX0_11 : cx_F RX0 11 0 1 := ⟨(RX0, TX0, 3), rfl, by decide, wi_0, t_420⟩
theorem gRX0_11 : cx_FP RX0 11 0 1 (.array (.object "Glosstemplate$Template")) true := ⟨(RX0, TX0, 3), tyX0, rfl, by decide, wi_0, t_420, tyX0_ok, nmX0, rfl, rfl, rfl⟩
theorem fRX0_17 : cx_F RX0 17 0 2 := ⟨(RX0, TX0, 3), rfl, by decide, wi_0, t_421⟩
theorem gRX0_17 : cx_FP RX0 17 0 2 (.array .int) true := ⟨(RX0, TX0, 3), tyX0, rfl, by decide, wi_0, t_421, tyX0_ok, nmX0, rfl, rfl, rfl⟩
theorem fRX2_9 : cx_F RX2 9 2 0 := ⟨(RX2, TX2, 2), rfl, by decide, wi_2, t_546⟩
theorem gRX2_9 : cx_FP RX2 9 2 0 (.array .int) true := ⟨(RX2, TX2, 2), tyX2, rfl, by decide, wi_2, t_546, tyX2_ok, nmX2, rfl, rfl, rfl⟩
theorem fRX2_15 : cx_F RX2 15 2 1 := ⟨(RX2, TX2, 2), rfl, by decide, wi_2, t_547⟩
theorem gRX2_15 : cx_FP RX2 15 2 1 (.int) false := ⟨(RX2, TX2, 2), tyX2, rfl, by decide, wi_2, t_547, tyX2_ok, nmX2, rfl, rfl, rfl⟩
theorem fRX1_9 : cx_F RX1 9 1 0 := ⟨(RX1, TX1, 2), rfl, by decide, wi_1, t_598⟩
theorem gRX1_9 : cx_FP RX1 9 1 0 (.array .int) true := ⟨(RX1, TX1, 2), tyX1, rfl, by decide, wi_1, t_598, tyX1_ok, nmX1, rfl, rfl, rfl⟩
theorem fRX1_15 : cx_F RX1 15 1 1 := ⟨(RX1, TX1, 2), rfl, by decide, wi_1, t_599⟩
theorem gRX1_15 : cx_FP RX1 15 1 1 (.int) true := ⟨(RX1, TX1, 2), tyX1, rfl, by decide, wi_1, t_599, tyX1_ok, nmX1, rfl, rfl, rfl⟩
theorem fRX9_89 : cx_F RX9 89 9 0 := ⟨(RX9, TX9, 27), rfl, by decide, wi_9, t_835⟩
theorem gRX9_89 : cx_FP RX9 89 9 0 (.int) false := ⟨(RX9, TX9, 27), tyX9, rfl, by decide, wi_9, t_835, tyX9_ok, nmX9, rfl, rfl, rfl⟩
theorem fRX9_7 : cx_F RX9 7 9 1 := ⟨(RX9, TX9, 27), rfl, by decide, wi_9, t_836⟩
theorem gRX9_7 : cx_FP RX9 7 9 1 (.array .char) true := ⟨(RX9, TX9, 27), tyX9, rfl, by decide, wi_9, t_836, tyX9_ok, nmX9, rfl, rfl, rfl⟩
theorem fRX9_77 : cx_F RX9 77 9 2 := ⟨(RX9, TX9, 27), rfl, by decide, wi_9, t_837⟩
theorem gRX9_77 : cx_FP RX9 77 9 2 (.int) false := ⟨(RX9, TX9, 27), tyX9, rfl, by decide, wi_9, t_837, tyX9_ok, nmX9, rfl, rfl, rfl⟩
theorem fRX9_13 : cx_F RX9 13 9 3 := ⟨(RX9, TX9, 27), rfl, by decide, wi_9, t_838⟩
theorem gRX9_13 : cx_FP RX9 13 9 3 (.array .char) true := ⟨(RX9, TX9, 27), tyX9, rfl, by decide, wi_9, t_838, tyX9_ok, nmX9, rfl, rfl, rfl⟩
theorem fRX9_16 : cx_F RX9 16 9 4 := ⟨(RX9, TX9, 27), rfl, by decide, wi_9, t_839⟩
theorem gRX9_16 : cx_FP RX9 16 9 4 (.array .int) true := ⟨(RX9, TX9, 27), tyX9, rfl, by decide, wi_9, t_839, tyX9_ok, nmX9, rfl, rfl, rfl⟩
theorem fRX9_20 : cx_F RX9 20 9 5 := ⟨(RX9, TX9, 27), rfl, by decide, wi_9, t_840⟩
theorem gRX9_20 : cx_FP RX9 20 9 5 (.array .char) true := ⟨(RX9, TX9, 27), tyX9, rfl, by decide, wi_9, t_840, tyX9_ok, nmX9, rfl, rfl, rfl⟩
theorem fRX9_23 : cx_F RX9 23 9 6 := ⟨(RX9, TX9, 27), rfl, by decide, wi_9, t_841⟩
theorem gRX9_23 : cx_FP RX9 23 9 6 (.array .int) true := ⟨(RX9, TX9, 27), tyX9, rfl, by decide, wi_9, t_841, tyX9_ok, nmX9, rfl, rfl, rfl⟩
theorem fRX9_26 : cx_F RX9 26 9 7 := ⟨(RX9, TX9, 27), rfl, by decide, wi_9, t_842⟩
theorem gRX9_26 : cx_FP RX9 26 9 7 (.array .char) true := ⟨(RX9, TX9, 27), tyX9, rfl, by decide, wi_9, t_842, tyX9_ok, nmX9, rfl, rfl, rfl⟩
theorem fRX9_29 : cx_F RX9 29 9 8 := ⟨(RX9, TX9, 27), rfl, by decide, wi_9, t_843⟩
theorem gRX9_29 : cx_FP RX9 29 9 8 (.array .int) true := ⟨(RX9, TX9, 27), tyX9, rfl, by decide, wi_9, t_843, tyX9_ok, nmX9, rfl, rfl, rfl⟩
theorem fRX9_80 : cx_F RX9 80 9 9 := ⟨(RX9, TX9, 27), rfl, by decide, wi_9, t_844⟩
theorem gRX9_80 : cx_FP RX9 80 9 9 (.int) false := ⟨(RX9, TX9, 27), tyX9, rfl, by decide, wi_9, t_844, tyX9_ok, nmX9, rfl, rfl, rfl⟩
theorem fRX9_32 : cx_F RX9 32 9 10 := ⟨(RX9, TX9, 27), rfl, by decide, wi_9, t_845⟩
theorem gRX9_32 : cx_FP RX9 32 9 10 (.array .int) true := ⟨(RX9, TX9, 27), tyX9, rfl, by decide, wi_9, t_845, tyX9_ok, nmX9, rfl, rfl, rfl⟩
theorem fRX9_35 : cx_F RX9 35 9 11 := ⟨(RX9, TX9, 27), rfl, by decide, wi_9, t_846⟩
theorem gRX9_35 : cx_FP RX9 35 9 11 (.array .char) true := ⟨(RX9, TX9, 27), tyX9, rfl, by decide, wi_9, t_846, tyX9_ok, nmX9, rfl, rfl, rfl⟩
theorem fRX9_38 : cx_F RX9 38 9 12 := ⟨(RX9, TX9, 27), rfl, by decide, wi_9, t_847⟩
theorem gRX9_38 : cx_FP RX9 38 9 12 (.array .int) true := ⟨(RX9, TX9, 27), tyX9, rfl, by decide, wi_9, t_847, tyX9_ok, nmX9, rfl, rfl, rfl⟩
theorem fRX9_41 : cx_F RX9 41 9 13 := ⟨(RX9, TX9, 27), rfl, by decide, wi_9, t_848⟩
theorem gRX9_41 : cx_FP RX9 41 9 13 (.array .boolean) true := ⟨(RX9, TX9, 27), tyX9, rfl, by decide, wi_9, t_848, tyX9_ok, nmX9, rfl, rfl, rfl⟩
theorem fRX9_45 : cx_F RX9 45 9 14 := ⟨(RX9, TX9, 27), rfl, by decide, wi_9, t_849⟩
theorem gRX9_45 : cx_FP RX9 45 9 14 (.array .int) true := ⟨(RX9, TX9, 27), tyX9, rfl, by decide, wi_9, t_849, tyX9_ok, nmX9, rfl, rfl, rfl⟩
theorem fRX9_83 : cx_F RX9 83 9 15 := ⟨(RX9, TX9, 27), rfl, by decide, wi_9, t_850⟩
theorem gRX9_83 : cx_FP RX9 83 9 15 (.int) false := ⟨(RX9, TX9, 27), tyX9, rfl, by decide, wi_9, t_850, tyX9_ok, nmX9, rfl, rfl, rfl⟩
theorem fRX9_48 : cx_F RX9 48 9 16 := ⟨(RX9, TX9, 27), rfl, by decide, wi_9, t_851⟩
theorem gRX9_48 : cx_FP RX9 48 9 16 (.array .int) true := ⟨(RX9, TX9, 27), tyX9, rfl, by decide, wi_9, t_851, tyX9_ok, nmX9, rfl, rfl, rfl⟩
theorem fRX9_51 : cx_F RX9 51 9 17 := ⟨(RX9, TX9, 27), rfl, by decide, wi_9, t_852⟩
theorem gRX9_51 : cx_FP RX9 51 9 17 (.array .int) true := ⟨(RX9, TX9, 27), tyX9, rfl, by decide, wi_9, t_852, tyX9_ok, nmX9, rfl, rfl, rfl⟩
theorem fRX9_86 : cx_F RX9 86 9 18 := ⟨(RX9, TX9, 27), rfl, by decide, wi_9, t_853⟩
theorem gRX9_86 : cx_FP RX9 86 9 18 (.int) false := ⟨(RX9, TX9, 27), tyX9, rfl, by decide, wi_9, t_853, tyX9_ok, nmX9, rfl, rfl, rfl⟩
theorem fRX9_54 : cx_F RX9 54 9 19 := ⟨(RX9, TX9, 27), rfl, by decide, wi_9, t_854⟩
theorem gRX9_54 : cx_FP RX9 54 9 19 (.array .int) true := ⟨(RX9, TX9, 27), tyX9, rfl, by decide, wi_9, t_854, tyX9_ok, nmX9, rfl, rfl, rfl⟩
theorem fRX9_57 : cx_F RX9 57 9 20 := ⟨(RX9, TX9, 27), rfl, by decide, wi_9, t_855⟩
theorem gRX9_57 : cx_FP RX9 57 9 20 (.array .int) true := ⟨(RX9, TX9, 27), tyX9, rfl, by decide, wi_9, t_855, tyX9_ok, nmX9, rfl, rfl, rfl⟩
theorem fRX9_60 : cx_F RX9 60 9 21 := ⟨(RX9, TX9, 27), rfl, by decide, wi_9, t_856⟩
theorem gRX9_60 : cx_FP RX9 60 9 21 (.array .int) true := ⟨(RX9, TX9, 27), tyX9, rfl, by decide, wi_9, t_856, tyX9_ok, nmX9, rfl, rfl, rfl⟩
theorem fRX9_63 : cx_F RX9 63 9 22 := ⟨(RX9, TX9, 27), rfl, by decide, wi_9, t_857⟩
theorem gRX9_63 : cx_FP RX9 63 9 22 (.array .char) true := ⟨(RX9, TX9, 27), tyX9, rfl, by decide, wi_9, t_857, tyX9_ok, nmX9, rfl, rfl, rfl⟩
theorem fRX9_151 : cx_F RX9 151 9 23 := ⟨(RX9, TX9, 27), rfl, by decide, wi_9, t_858⟩
theorem gRX9_151 : cx_FP RX9 151 9 23 (.int) false := ⟨(RX9, TX9, 27), tyX9, rfl, by decide, wi_9, t_858, tyX9_ok, nmX9, rfl, rfl, rfl⟩
theorem fRX9_154 : cx_F RX9 154 9 24 := ⟨(RX9, TX9, 27), rfl, by decide, wi_9, t_859⟩
theorem gRX9_154 : cx_FP RX9 154 9 24 (.boolean) false := ⟨(RX9, TX9, 27), tyX9, rfl, by decide, wi_9, t_859, tyX9_ok, nmX9, rfl, rfl, rfl⟩
theorem fRX9_66 : cx_F RX9 66 9 25 := ⟨(RX9, TX9, 27), rfl, by decide, wi_9, t_860⟩
theorem gRX9_66 : cx_FP RX9 66 9 25 (.array .boolean) true := ⟨(RX9, TX9, 27), tyX9, rfl, by decide, wi_9, t_860, tyX9_ok, nmX9, rfl, rfl, rfl⟩
theorem fRX9_69 : cx_F RX9 69 9 26 := ⟨(RX9, TX9, 27), rfl, by decide, wi_9, t_861⟩
theorem gRX9_69 : cx_FP RX9 69 9 26 (.int) false := ⟨(RX9, TX9, 27), tyX9, rfl, by decide, wi_9, t_861, tyX9_ok, nmX9, rfl, rfl, rfl⟩
theorem wRL_8 : cx_NW RL 8 8 [.null, .null, .null, .null, .null, .null, .null, .null, .int 0, .int 0, .int 0] := ⟨(RX8, TX8, 11), tyX8, rfl, wi_8, tyX8_ok, t_58, t_59, t_41, fun j hj => by have h9 : j < 11 := hj; revert j; decide, rfl⟩
theorem wRX8_9 : cx_NW RX8 9 5 [.null, .int 0] := ⟨(RX5, TX5, 2), tyX5, rfl, wi_5, tyX5_ok, t_66, t_67, t_42, fun j hj => by have h9 : j < 2 := hj; revert j; decide, rfl⟩
theorem wRX8_18 : cx_NW RX8 18 7 [.null, .null, .null, .int 0] := ⟨(RX7, TX7, 4), tyX7, rfl, wi_7, tyX7_ok, t_80, t_81, t_43, fun j hj => by have h9 : j < 4 := hj; revert j; decide, rfl⟩
theorem wRX7_9 : cx_NW RX7 9 5 [.null, .int 0] := ⟨(RX5, TX5, 2), tyX5, rfl, wi_5, tyX5_ok, t_86, t_67, t_42, fun j hj => by have h9 : j < 2 := hj; revert j; decide, rfl⟩
theorem wRX8_25 : cx_NW RX8 25 0 [.int 0, .null, .null] := ⟨(RX0, TX0, 3), tyX0, rfl, wi_0, tyX0_ok, t_102, t_398, t_53, fun j hj => by have h9 : j < 3 := hj; revert j; decide, rfl⟩
theorem wRX8_31 : cx_NW RX8 31 2 [.null, .int 0] := ⟨(RX2, TX2, 2), tyX2, rfl, wi_2, tyX2_ok, t_104, t_541, t_55, fun j hj => by have h9 : j < 2 := hj; revert j; decide, rfl⟩
theorem wRX8_37 : cx_NW RX8 37 1 [.null, .int 0] := ⟨(RX1, TX1, 2), tyX1, rfl, wi_1, tyX1_ok, t_106, t_593, t_56, fun j hj => by have h9 : j < 2 := hj; revert j; decide, rfl⟩
theorem wRX8_47 : cx_NW RX8 47 3 [.null, .int 0] := ⟨(RX3, TX3, 2), tyX3, rfl, wi_3, tyX3_ok, t_108, t_109, t_44, fun j hj => by have h9 : j < 2 := hj; revert j; decide, rfl⟩
theorem wRX3_9 : cx_NW RX3 9 5 [.null, .int 0] := ⟨(RX5, TX5, 2), tyX5, rfl, wi_5, tyX5_ok, t_114, t_67, t_42, fun j hj => by have h9 : j < 2 := hj; revert j; decide, rfl⟩
theorem wRX8_54 : cx_NW RX8 54 4 [.int 0, .int 0, .int 0] := ⟨(RX4, TX4, 3), tyX4, rfl, wi_4, tyX4_ok, t_124, t_125, t_45, fun j hj => by have h9 : j < 3 := hj; revert j; decide, rfl⟩
theorem wRX0_9 : cx_NW RX0 9 6 [.null, .int 0] := ⟨(RX6, TX6, 2), tyX6, rfl, wi_6, tyX6_ok, t_403, t_405, t_54, fun j hj => by have h9 : j < 2 := hj; revert j; decide, rfl⟩
theorem wRX6_9 : cx_NW RX6 9 5 [.null, .int 0] := ⟨(RX5, TX5, 2), tyX5, rfl, wi_5, tyX5_ok, t_410, t_67, t_42, fun j hj => by have h9 : j < 2 := hj; revert j; decide, rfl⟩
theorem wRL_79 : cx_NW RL 79 9 [.int 0, .null, .int 0, .null, .null, .null, .null, .null, .null, .int 0, .null, .null, .null, .null, .null, .int 0, .null, .null, .int 0, .null, .null, .null, .null, .int 0, .int 0, .null, .int 0] := ⟨(RX9, TX9, 27), tyX9, rfl, wi_9, tyX9_ok, t_829, t_830, t_46, fun j hj => by have h9 : j < 27 := hj; revert j; decide, rfl⟩
theorem lRL_78 : Cond.methodLink RL 78 yX8_init ∈ cx_tb ∧ Cond.instanceMethod yX8_init ∈ cx_tb := ⟨t_60, t_61⟩
theorem lRX8_3 : Cond.methodLink RX8 3 objectInit ∈ cx_tb ∧ Cond.instanceMethod objectInit ∈ cx_tb ∧ Cond.code objectInit ⟨#[0xb1]⟩ 1 none ∈ cx_tb := ⟨t_63, t_64, t_65⟩
theorem lRX8_11 : Cond.methodLink RX8 11 yX5_init ∈ cx_tb ∧ Cond.instanceMethod yX5_init ∈ cx_tb := ⟨t_68, t_69⟩
theorem lRX5_1 : Cond.methodLink RX5 1 objectInit ∈ cx_tb ∧ Cond.instanceMethod objectInit ∈ cx_tb ∧ Cond.code objectInit ⟨#[0xb1]⟩ 1 none ∈ cx_tb := ⟨t_71, t_64, t_65⟩
theorem lRX8_20 : Cond.methodLink RX8 20 yX7_init ∈ cx_tb ∧ Cond.instanceMethod yX7_init ∈ cx_tb := ⟨t_82, t_83⟩
theorem lRX7_3 : Cond.methodLink RX7 3 objectInit ∈ cx_tb ∧ Cond.instanceMethod objectInit ∈ cx_tb ∧ Cond.code objectInit ⟨#[0xb1]⟩ 1 none ∈ cx_tb := ⟨t_85, t_64, t_65⟩
theorem lRX7_23 : Cond.methodLink RX7 23 yX5_init ∈ cx_tb ∧ Cond.instanceMethod yX5_init ∈ cx_tb := ⟨t_88, t_69⟩
theorem lRX3_3 : Cond.methodLink RX3 3 objectInit ∈ cx_tb ∧ Cond.instanceMethod objectInit ∈ cx_tb ∧ Cond.code objectInit ⟨#[0xb1]⟩ 1 none ∈ cx_tb := ⟨t_113, t_64, t_65⟩
theorem lRX3_11 : Cond.methodLink RX3 11 yX5_init ∈ cx_tb ∧ Cond.instanceMethod yX5_init ∈ cx_tb := ⟨t_115, t_69⟩
theorem lRX4_1 : Cond.methodLink RX4 1 objectInit ∈ cx_tb ∧ Cond.instanceMethod objectInit ∈ cx_tb ∧ Cond.code objectInit ⟨#[0xb1]⟩ 1 none ∈ cx_tb := ⟨t_129, t_64, t_65⟩
theorem lRL_91 : Cond.methodLink RL 91 yX8_clear ∈ cx_tb ∧ Cond.instanceMethod yX8_clear ∈ cx_tb ∧ Cond.selects RX8 yX8_clear yX8_clear ∈ cx_tb := ⟨t_174, t_175, t_176⟩
theorem lRX8_72 : Cond.methodLink RX8 72 yX5_length ∈ cx_tb ∧ Cond.instanceMethod yX5_length ∈ cx_tb ∧ Cond.selects RX5 yX5_length yX5_length ∈ cx_tb := ⟨t_178, t_179, t_180⟩
theorem lRX8_76 : Cond.methodLink RX8 76 yX5_empty ∈ cx_tb ∧ Cond.instanceMethod yX5_empty ∈ cx_tb ∧ Cond.selects RX5 yX5_empty yX5_empty ∈ cx_tb := ⟨t_182, t_183, t_184⟩
theorem lRL_111 : Cond.methodLink RL 111 yX8_fault ∈ cx_tb ∧ Cond.instanceMethod yX8_fault ∈ cx_tb ∧ Cond.selects RX8 yX8_fault yX8_fault ∈ cx_tb := ⟨t_186, t_187, t_188⟩
theorem lRX8_137 : Cond.methodLink RX8 137 yX8_firstFault ∈ cx_tb ∧ Cond.static yX8_firstFault ∈ cx_tb := ⟨t_190, t_191⟩
theorem lRX8_285 : Cond.methodLink RX8 285 yX5_at ∈ cx_tb ∧ Cond.instanceMethod yX5_at ∈ cx_tb ∧ Cond.selects RX5 yX5_at yX5_at ∈ cx_tb := ⟨t_193, t_194, t_195⟩
theorem lRX8_286 : Cond.methodLink RX8 286 yX8_canStand ∈ cx_tb ∧ Cond.static yX8_canStand ∈ cx_tb := ⟨t_197, t_198⟩
theorem lRX8_282 : Cond.methodLink RX8 282 yX8_isSmall ∈ cx_tb ∧ Cond.static yX8_isSmall ∈ cx_tb := ⟨t_200, t_201⟩
theorem lRX8_290 : Cond.methodLink RX8 290 yX8_slotOf ∈ cx_tb ∧ Cond.static yX8_slotOf ∈ cx_tb := ⟨t_203, t_204⟩
theorem lRX8_294 : Cond.methodLink RX8 294 yX8_caseOf ∈ cx_tb ∧ Cond.static yX8_caseOf ∈ cx_tb := ⟨t_206, t_207⟩
theorem lRX8_297 : Cond.methodLink RX8 297 yX8_numberOf ∈ cx_tb ∧ Cond.static yX8_numberOf ∈ cx_tb := ⟨t_209, t_210⟩
theorem lRL_82 : Cond.methodLink RL 82 yL_type ∈ cx_tb ∧ Cond.static yL_type ∈ cx_tb := ⟨t_212, t_213⟩
theorem lRL_7 : Cond.methodLink RL 7 yX8_type ∈ cx_tb ∧ Cond.instanceMethod yX8_type ∈ cx_tb ∧ Cond.selects RX8 yX8_type yX8_type ∈ cx_tb := ⟨t_216, t_217, t_218⟩
theorem lRX8_61 : Cond.methodLink RX8 61 yX5_append ∈ cx_tb ∧ Cond.instanceMethod yX5_append ∈ cx_tb ∧ Cond.selects RX5 yX5_append yX5_append ∈ cx_tb := ⟨t_220, t_221, t_222⟩
theorem lRL_95 : Cond.methodLink RL 95 yL_word ∈ cx_tb ∧ Cond.static yL_word ∈ cx_tb := ⟨t_292, t_293⟩
theorem lRL_15 : Cond.methodLink RL 15 yX8_word ∈ cx_tb ∧ Cond.instanceMethod yX8_word ∈ cx_tb ∧ Cond.selects RX8 yX8_word yX8_word ∈ cx_tb := ⟨t_295, t_296, t_297⟩
theorem lRX8_79 : Cond.methodLink RX8 79 yX5_isLetters ∈ cx_tb ∧ Cond.instanceMethod yX5_isLetters ∈ cx_tb ∧ Cond.selects RX5 yX5_isLetters yX5_isLetters ∈ cx_tb := ⟨t_299, t_300, t_301⟩
theorem lRX5_23 : Cond.methodLink RX5 23 yX5_at ∈ cx_tb ∧ Cond.instanceMethod yX5_at ∈ cx_tb ∧ Cond.selects RX5 yX5_at yX5_at ∈ cx_tb := ⟨t_303, t_194, t_195⟩
theorem lRX8_83 : Cond.methodLink RX8 83 yX7_count ∈ cx_tb ∧ Cond.instanceMethod yX7_count ∈ cx_tb ∧ Cond.selects RX7 yX7_count yX7_count ∈ cx_tb := ⟨t_305, t_306, t_307⟩
theorem lRX8_88 : Cond.methodLink RX8 88 yX7_addStem ∈ cx_tb ∧ Cond.instanceMethod yX7_addStem ∈ cx_tb ∧ Cond.selects RX7 yX7_addStem yX7_addStem ∈ cx_tb := ⟨t_310, t_311, t_312⟩
theorem lRX7_34 : Cond.methodLink RX7 34 yX5_take ∈ cx_tb ∧ Cond.instanceMethod yX5_take ∈ cx_tb ∧ Cond.selects RX5 yX5_take yX5_take ∈ cx_tb := ⟨t_317, t_318, t_319⟩
theorem lRX5_17 : Cond.methodLink RX5 17 yX5_empty ∈ cx_tb ∧ Cond.instanceMethod yX5_empty ∈ cx_tb ∧ Cond.selects RX5 yX5_empty yX5_empty ∈ cx_tb := ⟨t_321, t_183, t_184⟩
theorem lRX5_20 : Cond.methodLink RX5 20 yX5_length ∈ cx_tb ∧ Cond.instanceMethod yX5_length ∈ cx_tb ∧ Cond.selects RX5 yX5_length yX5_length ∈ cx_tb := ⟨t_322, t_179, t_180⟩
theorem lRX5_27 : Cond.methodLink RX5 27 yX5_append ∈ cx_tb ∧ Cond.instanceMethod yX5_append ∈ cx_tb ∧ Cond.selects RX5 yX5_append yX5_append ∈ cx_tb := ⟨t_323, t_221, t_222⟩
theorem lRL_99 : Cond.methodLink RL 99 yL_form ∈ cx_tb ∧ Cond.static yL_form ∈ cx_tb := ⟨t_324, t_325⟩
theorem lRL_19 : Cond.methodLink RL 19 yX8_form ∈ cx_tb ∧ Cond.instanceMethod yX8_form ∈ cx_tb ∧ Cond.selects RX8 yX8_form yX8_form ∈ cx_tb := ⟨t_329, t_330, t_331⟩
theorem lRX8_92 : Cond.methodLink RX8 92 yX8_isLanguage ∈ cx_tb ∧ Cond.static yX8_isLanguage ∈ cx_tb := ⟨t_333, t_334⟩
theorem lRX8_104 : Cond.methodLink RX8 104 yX8_isBelow ∈ cx_tb ∧ Cond.static yX8_isBelow ∈ cx_tb := ⟨t_336, t_315⟩
theorem lRX8_96 : Cond.methodLink RX8 96 yX8_isWord ∈ cx_tb ∧ Cond.instanceMethod yX8_isWord ∈ cx_tb ∧ Cond.selects RX8 yX8_isWord yX8_isWord ∈ cx_tb := ⟨t_337, t_339, t_1⟩
theorem lRX8_114 : Cond.methodLink RX8 114 yX7_setEnding ∈ cx_tb ∧ Cond.instanceMethod yX7_setEnding ∈ cx_tb ∧ Cond.selects RX7 yX7_setEnding yX7_setEnding ∈ cx_tb := ⟨t_374, t_375, t_376⟩
theorem lRX7_38 : Cond.methodLink RX7 38 yX7_endingAt ∈ cx_tb ∧ Cond.instanceMethod yX7_endingAt ∈ cx_tb ∧ Cond.selects RX7 yX7_endingAt yX7_endingAt ∈ cx_tb := ⟨t_378, t_380, t_2⟩
theorem lRX8_118 : Cond.methodLink RX8 118 yX7_setOwn ∈ cx_tb ∧ Cond.instanceMethod yX7_setOwn ∈ cx_tb ∧ Cond.selects RX7 yX7_setOwn yX7_setOwn ∈ cx_tb := ⟨t_382, t_383, t_384⟩
theorem lRX7_42 : Cond.methodLink RX7 42 yX7_ownIndex ∈ cx_tb ∧ Cond.static yX7_ownIndex ∈ cx_tb := ⟨t_386, t_387⟩
theorem lRL_103 : Cond.methodLink RL 103 yL_clause ∈ cx_tb ∧ Cond.static yL_clause ∈ cx_tb := ⟨t_389, t_390⟩
theorem lRL_27 : Cond.methodLink RL 27 yX8_clause ∈ cx_tb ∧ Cond.instanceMethod yX8_clause ∈ cx_tb ∧ Cond.selects RX8 yX8_clause yX8_clause ∈ cx_tb := ⟨t_392, t_393, t_394⟩
theorem lRX8_130 : Cond.methodLink RX8 130 yX0_init ∈ cx_tb ∧ Cond.instanceMethod yX0_init ∈ cx_tb := ⟨t_399, t_400⟩
theorem lRX0_3 : Cond.methodLink RX0 3 objectInit ∈ cx_tb ∧ Cond.instanceMethod objectInit ∈ cx_tb ∧ Cond.code objectInit ⟨#[0xb1]⟩ 1 none ∈ cx_tb := ⟨t_402, t_64, t_65⟩
theorem lRX6_3 : Cond.methodLink RX6 3 objectInit ∈ cx_tb ∧ Cond.instanceMethod objectInit ∈ cx_tb ∧ Cond.code objectInit ⟨#[0xb1]⟩ 1 none ∈ cx_tb := ⟨t_409, t_64, t_65⟩
theorem lRX6_11 : Cond.methodLink RX6 11 yX5_init ∈ cx_tb ∧ Cond.instanceMethod yX5_init ∈ cx_tb := ⟨t_411, t_69⟩
theorem lRL_107 : Cond.methodLink RL 107 yL_text ∈ cx_tb ∧ Cond.static yL_text ∈ cx_tb := ⟨t_429, t_430⟩
theorem lRL_31 : Cond.methodLink RL 31 yX8_text ∈ cx_tb ∧ Cond.instanceMethod yX8_text ∈ cx_tb ∧ Cond.selects RX8 yX8_text yX8_text ∈ cx_tb := ⟨t_432, t_433, t_434⟩
theorem lRX8_131 : Cond.methodLink RX8 131 yX8_templateAt ∈ cx_tb ∧ Cond.instanceMethod yX8_templateAt ∈ cx_tb ∧ Cond.selects RX8 yX8_templateAt yX8_templateAt ∈ cx_tb := ⟨t_436, t_438, t_3⟩
theorem lRX8_163 : Cond.methodLink RX8 163 yX8_clauseAt ∈ cx_tb ∧ Cond.instanceMethod yX8_clauseAt ∈ cx_tb ∧ Cond.selects RX8 yX8_clauseAt yX8_clauseAt ∈ cx_tb := ⟨t_440, t_442, t_4⟩
theorem lRX8_278 : Cond.methodLink RX8 278 yX0_templateIn ∈ cx_tb ∧ Cond.instanceMethod yX0_templateIn ∈ cx_tb ∧ Cond.selects RX0 yX0_templateIn yX0_templateIn ∈ cx_tb := ⟨t_444, t_445, t_446⟩
theorem lRX8_142 : Cond.methodLink RX8 142 yX6_take ∈ cx_tb ∧ Cond.instanceMethod yX6_take ∈ cx_tb ∧ Cond.selects RX6 yX6_take yX6_take ∈ cx_tb := ⟨t_451, t_452, t_453⟩
theorem lRX6_28 : Cond.methodLink RX6 28 yX5_take ∈ cx_tb ∧ Cond.instanceMethod yX5_take ∈ cx_tb ∧ Cond.selects RX5 yX5_take yX5_take ∈ cx_tb := ⟨t_455, t_318, t_319⟩
theorem lRX8_148 : Cond.methodLink RX8 148 yX6_slotCount ∈ cx_tb ∧ Cond.instanceMethod yX6_slotCount ∈ cx_tb ∧ Cond.selects RX6 yX6_slotCount yX6_slotCount ∈ cx_tb := ⟨t_456, t_457, t_458⟩
theorem lRX6_20 : Cond.methodLink RX6 20 yX5_length ∈ cx_tb ∧ Cond.instanceMethod yX5_length ∈ cx_tb ∧ Cond.selects RX5 yX5_length yX5_length ∈ cx_tb := ⟨t_460, t_179, t_180⟩
theorem lRX6_46 : Cond.methodLink RX6 46 yX6_isSlot ∈ cx_tb ∧ Cond.instanceMethod yX6_isSlot ∈ cx_tb ∧ Cond.selects RX6 yX6_isSlot yX6_isSlot ∈ cx_tb := ⟨t_461, t_462, t_463⟩
theorem lRX6_32 : Cond.methodLink RX6 32 yX5_at ∈ cx_tb ∧ Cond.instanceMethod yX5_at ∈ cx_tb ∧ Cond.selects RX5 yX5_at yX5_at ∈ cx_tb := ⟨t_465, t_194, t_195⟩
theorem lRL_115 : Cond.methodLink RL 115 yL_approve ∈ cx_tb ∧ Cond.static yL_approve ∈ cx_tb := ⟨t_466, t_467⟩
theorem lRL_35 : Cond.methodLink RL 35 yX8_approve ∈ cx_tb ∧ Cond.instanceMethod yX8_approve ∈ cx_tb ∧ Cond.selects RX8 yX8_approve yX8_approve ∈ cx_tb := ⟨t_469, t_470, t_471⟩
theorem lRX8_151 : Cond.methodLink RX8 151 yX6_isThere ∈ cx_tb ∧ Cond.instanceMethod yX6_isThere ∈ cx_tb ∧ Cond.selects RX6 yX6_isThere yX6_isThere ∈ cx_tb := ⟨t_473, t_474, t_475⟩
theorem lRX8_157 : Cond.methodLink RX8 157 yX6_isApproved ∈ cx_tb ∧ Cond.instanceMethod yX6_isApproved ∈ cx_tb ∧ Cond.selects RX6 yX6_isApproved yX6_isApproved ∈ cx_tb := ⟨t_478, t_479, t_480⟩
theorem lRX8_160 : Cond.methodLink RX8 160 yX6_setApproved ∈ cx_tb ∧ Cond.instanceMethod yX6_setApproved ∈ cx_tb ∧ Cond.selects RX6 yX6_setApproved yX6_setApproved ∈ cx_tb := ⟨t_482, t_483, t_484⟩
theorem lRL_118 : Cond.methodLink RL 118 yL_relate ∈ cx_tb ∧ Cond.static yL_relate ∈ cx_tb := ⟨t_486, t_487⟩
theorem lRL_39 : Cond.methodLink RL 39 yX8_relate ∈ cx_tb ∧ Cond.instanceMethod yX8_relate ∈ cx_tb ∧ Cond.selects RX8 yX8_relate yX8_relate ∈ cx_tb := ⟨t_489, t_490, t_491⟩
theorem lRX8_171 : Cond.methodLink RX8 171 yX0_how ∈ cx_tb ∧ Cond.instanceMethod yX0_how ∈ cx_tb ∧ Cond.selects RX0 yX0_how yX0_how ∈ cx_tb := ⟨t_495, t_496, t_497⟩
theorem lRX0_30 : Cond.methodLink RX0 30 yX0_howIndex ∈ cx_tb ∧ Cond.instanceMethod yX0_howIndex ∈ cx_tb ∧ Cond.selects RX0 yX0_howIndex yX0_howIndex ∈ cx_tb := ⟨t_499, t_501, t_5⟩
theorem lRX8_175 : Cond.methodLink RX8 175 yX0_setHow ∈ cx_tb ∧ Cond.instanceMethod yX0_setHow ∈ cx_tb ∧ Cond.selects RX0 yX0_setHow yX0_setHow ∈ cx_tb := ⟨t_503, t_504, t_505⟩
theorem lRL_122 : Cond.methodLink RL 122 yL_isLinked ∈ cx_tb ∧ Cond.static yL_isLinked ∈ cx_tb := ⟨t_507, t_508⟩
theorem lRL_43 : Cond.methodLink RL 43 yX8_isLinked ∈ cx_tb ∧ Cond.instanceMethod yX8_isLinked ∈ cx_tb ∧ Cond.selects RX8 yX8_isLinked yX8_isLinked ∈ cx_tb := ⟨t_510, t_511, t_512⟩
theorem lRX8_179 : Cond.methodLink RX8 179 yX0_hasSameSlots ∈ cx_tb ∧ Cond.instanceMethod yX0_hasSameSlots ∈ cx_tb ∧ Cond.selects RX0 yX0_hasSameSlots yX0_hasSameSlots ∈ cx_tb := ⟨t_514, t_515, t_516⟩
theorem lRX0_34 : Cond.methodLink RX0 34 yX0_isSameCount ∈ cx_tb ∧ Cond.instanceMethod yX0_isSameCount ∈ cx_tb ∧ Cond.selects RX0 yX0_isSameCount yX0_isSameCount ∈ cx_tb := ⟨t_518, t_520, t_6⟩
theorem lRX0_38 : Cond.methodLink RX0 38 yX0_templateIn ∈ cx_tb ∧ Cond.instanceMethod yX0_templateIn ∈ cx_tb ∧ Cond.selects RX0 yX0_templateIn yX0_templateIn ∈ cx_tb := ⟨t_522, t_445, t_446⟩
theorem lRX0_42 : Cond.methodLink RX0 42 yX6_isThere ∈ cx_tb ∧ Cond.instanceMethod yX6_isThere ∈ cx_tb ∧ Cond.selects RX6 yX6_isThere yX6_isThere ∈ cx_tb := ⟨t_523, t_474, t_475⟩
theorem lRX0_46 : Cond.methodLink RX0 46 yX6_countOfSlot ∈ cx_tb ∧ Cond.instanceMethod yX6_countOfSlot ∈ cx_tb ∧ Cond.selects RX6 yX6_countOfSlot yX6_countOfSlot ∈ cx_tb := ⟨t_524, t_525, t_526⟩
theorem lRX6_50 : Cond.methodLink RX6 50 yX6_slotAt ∈ cx_tb ∧ Cond.instanceMethod yX6_slotAt ∈ cx_tb ∧ Cond.selects RX6 yX6_slotAt yX6_slotAt ∈ cx_tb := ⟨t_528, t_529, t_530⟩
theorem lRL_125 : Cond.methodLink RL 125 yL_letter ∈ cx_tb ∧ Cond.static yL_letter ∈ cx_tb := ⟨t_533, t_534⟩
theorem lRL_47 : Cond.methodLink RL 47 yX8_letter ∈ cx_tb ∧ Cond.instanceMethod yX8_letter ∈ cx_tb ∧ Cond.selects RX8 yX8_letter yX8_letter ∈ cx_tb := ⟨t_536, t_537, t_538⟩
theorem lRX2_3 : Cond.methodLink RX2 3 objectInit ∈ cx_tb ∧ Cond.instanceMethod objectInit ∈ cx_tb ∧ Cond.code objectInit ⟨#[0xb1]⟩ 1 none ∈ cx_tb := ⟨t_545, t_64, t_65⟩
theorem lRL_128 : Cond.methodLink RL 128 yL_put ∈ cx_tb ∧ Cond.static yL_put ∈ cx_tb := ⟨t_553, t_554⟩
theorem lRL_50 : Cond.methodLink RL 50 yX8_put ∈ cx_tb ∧ Cond.instanceMethod yX8_put ∈ cx_tb ∧ Cond.selects RX8 yX8_put yX8_put ∈ cx_tb := ⟨t_556, t_557, t_558⟩
theorem lRX8_188 : Cond.methodLink RX8 188 yX8_letterAt ∈ cx_tb ∧ Cond.instanceMethod yX8_letterAt ∈ cx_tb ∧ Cond.selects RX8 yX8_letterAt yX8_letterAt ∈ cx_tb := ⟨t_560, t_562, t_7⟩
theorem lRX8_194 : Cond.methodLink RX8 194 yX2_has ∈ cx_tb ∧ Cond.instanceMethod yX2_has ∈ cx_tb ∧ Cond.selects RX2 yX2_has yX2_has ∈ cx_tb := ⟨t_565, t_566, t_567⟩
theorem lRX2_23 : Cond.methodLink RX2 23 yX2_at ∈ cx_tb ∧ Cond.instanceMethod yX2_at ∈ cx_tb ∧ Cond.selects RX2 yX2_at yX2_at ∈ cx_tb := ⟨t_569, t_570, t_571⟩
theorem lRX8_197 : Cond.methodLink RX8 197 yX2_append ∈ cx_tb ∧ Cond.instanceMethod yX2_append ∈ cx_tb ∧ Cond.selects RX2 yX2_append yX2_append ∈ cx_tb := ⟨t_574, t_575, t_576⟩
theorem lRX8_201 : Cond.methodLink RX8 201 yX2_count ∈ cx_tb ∧ Cond.instanceMethod yX2_count ∈ cx_tb ∧ Cond.selects RX2 yX2_count yX2_count ∈ cx_tb := ⟨t_579, t_580, t_581⟩
theorem lRL_131 : Cond.methodLink RL 131 yL_data ∈ cx_tb ∧ Cond.static yL_data ∈ cx_tb := ⟨t_583, t_584⟩
theorem lRL_53 : Cond.methodLink RL 53 yX8_data ∈ cx_tb ∧ Cond.instanceMethod yX8_data ∈ cx_tb ∧ Cond.selects RX8 yX8_data yX8_data ∈ cx_tb := ⟨t_586, t_587, t_588⟩
theorem lRX8_211 : Cond.methodLink RX8 211 yX1_init ∈ cx_tb ∧ Cond.instanceMethod yX1_init ∈ cx_tb := ⟨t_594, t_595⟩
theorem lRX1_3 : Cond.methodLink RX1 3 objectInit ∈ cx_tb ∧ Cond.instanceMethod objectInit ∈ cx_tb ∧ Cond.code objectInit ⟨#[0xb1]⟩ 1 none ∈ cx_tb := ⟨t_597, t_64, t_65⟩
theorem lRL_134 : Cond.methodLink RL 134 yL_fill ∈ cx_tb ∧ Cond.static yL_fill ∈ cx_tb := ⟨t_605, t_606⟩
theorem lRL_56 : Cond.methodLink RL 56 yX8_fill ∈ cx_tb ∧ Cond.instanceMethod yX8_fill ∈ cx_tb ∧ Cond.selects RX8 yX8_fill yX8_fill ∈ cx_tb := ⟨t_608, t_609, t_610⟩
theorem lRX8_214 : Cond.methodLink RX8 214 yX8_dataAt ∈ cx_tb ∧ Cond.instanceMethod yX8_dataAt ∈ cx_tb ∧ Cond.selects RX8 yX8_dataAt yX8_dataAt ∈ cx_tb := ⟨t_612, t_614, t_8⟩
theorem lRX8_220 : Cond.methodLink RX8 220 yX1_wordOf ∈ cx_tb ∧ Cond.instanceMethod yX1_wordOf ∈ cx_tb ∧ Cond.selects RX1 yX1_wordOf yX1_wordOf ∈ cx_tb := ⟨t_617, t_618, t_619⟩
theorem lRX8_224 : Cond.methodLink RX8 224 yX1_setWord ∈ cx_tb ∧ Cond.instanceMethod yX1_setWord ∈ cx_tb ∧ Cond.selects RX1 yX1_setWord yX1_setWord ∈ cx_tb := ⟨t_622, t_623, t_624⟩
theorem lRL_137 : Cond.methodLink RL 137 yL_price ∈ cx_tb ∧ Cond.static yL_price ∈ cx_tb := ⟨t_626, t_627⟩
theorem lRL_59 : Cond.methodLink RL 59 yX8_price ∈ cx_tb ∧ Cond.instanceMethod yX8_price ∈ cx_tb ∧ Cond.selects RX8 yX8_price yX8_price ∈ cx_tb := ⟨t_629, t_630, t_631⟩
theorem lRL_140 : Cond.methodLink RL 140 yL_faultOf ∈ cx_tb ∧ Cond.static yL_faultOf ∈ cx_tb := ⟨t_635, t_636⟩
theorem lRL_62 : Cond.methodLink RL 62 yX8_faultOf ∈ cx_tb ∧ Cond.instanceMethod yX8_faultOf ∈ cx_tb ∧ Cond.selects RX8 yX8_faultOf yX8_faultOf ∈ cx_tb := ⟨t_638, t_639, t_640⟩
theorem lRX8_235 : Cond.methodLink RX8 235 yX2_at ∈ cx_tb ∧ Cond.instanceMethod yX2_at ∈ cx_tb ∧ Cond.selects RX2 yX2_at yX2_at ∈ cx_tb := ⟨t_644, t_570, t_571⟩
theorem lRX8_238 : Cond.methodLink RX8 238 yX8_isIn ∈ cx_tb ∧ Cond.instanceMethod yX8_isIn ∈ cx_tb ∧ Cond.selects RX8 yX8_isIn yX8_isIn ∈ cx_tb := ⟨t_645, t_647, t_9⟩
theorem lRX8_300 : Cond.methodLink RX8 300 yX0_condition ∈ cx_tb ∧ Cond.instanceMethod yX0_condition ∈ cx_tb ∧ Cond.selects RX0 yX0_condition yX0_condition ∈ cx_tb := ⟨t_649, t_650, t_651⟩
theorem lRX8_303 : Cond.methodLink RX8 303 yX1_meets ∈ cx_tb ∧ Cond.instanceMethod yX1_meets ∈ cx_tb ∧ Cond.selects RX1 yX1_meets yX1_meets ∈ cx_tb := ⟨t_653, t_654, t_655⟩
theorem lRX8_242 : Cond.methodLink RX8 242 yX8_faultAt ∈ cx_tb ∧ Cond.instanceMethod yX8_faultAt ∈ cx_tb ∧ Cond.selects RX8 yX8_faultAt yX8_faultAt ∈ cx_tb := ⟨t_657, t_659, t_10⟩
theorem lRX8_306 : Cond.methodLink RX8 306 yX8_isRelated ∈ cx_tb ∧ Cond.instanceMethod yX8_isRelated ∈ cx_tb ∧ Cond.selects RX8 yX8_isRelated yX8_isRelated ∈ cx_tb := ⟨t_661, t_663, t_11⟩
theorem lRL_143 : Cond.methodLink RL 143 yL_sign ∈ cx_tb ∧ Cond.static yL_sign ∈ cx_tb := ⟨t_665, t_666⟩
theorem lRL_65 : Cond.methodLink RL 65 yX8_sign ∈ cx_tb ∧ Cond.instanceMethod yX8_sign ∈ cx_tb ∧ Cond.selects RX8 yX8_sign yX8_sign ∈ cx_tb := ⟨t_668, t_669, t_670⟩
theorem lRX8_248 : Cond.methodLink RX8 248 yX8_build ∈ cx_tb ∧ Cond.instanceMethod yX8_build ∈ cx_tb ∧ Cond.selects RX8 yX8_build yX8_build ∈ cx_tb := ⟨t_673, t_675, t_12⟩
theorem lRX8_310 : Cond.methodLink RX8 310 yX3_start ∈ cx_tb ∧ Cond.instanceMethod yX3_start ∈ cx_tb ∧ Cond.selects RX3 yX3_start yX3_start ∈ cx_tb := ⟨t_677, t_678, t_679⟩
theorem lRX3_24 : Cond.methodLink RX3 24 yX5_empty ∈ cx_tb ∧ Cond.instanceMethod yX5_empty ∈ cx_tb ∧ Cond.selects RX5 yX5_empty yX5_empty ∈ cx_tb := ⟨t_681, t_183, t_184⟩
theorem lRX8_312 : Cond.methodLink RX8 312 yX8_laidAt ∈ cx_tb ∧ Cond.instanceMethod yX8_laidAt ∈ cx_tb ∧ Cond.selects RX8 yX8_laidAt yX8_laidAt ∈ cx_tb := ⟨t_682, t_684, t_13⟩
theorem lRX8_316 : Cond.methodLink RX8 316 yX3_length ∈ cx_tb ∧ Cond.instanceMethod yX3_length ∈ cx_tb ∧ Cond.selects RX3 yX3_length yX3_length ∈ cx_tb := ⟨t_686, t_687, t_688⟩
theorem lRX3_39 : Cond.methodLink RX3 39 yX5_length ∈ cx_tb ∧ Cond.instanceMethod yX5_length ∈ cx_tb ∧ Cond.selects RX5 yX5_length yX5_length ∈ cx_tb := ⟨t_690, t_179, t_180⟩
theorem lRX8_317 : Cond.methodLink RX8 317 yX3_lay ∈ cx_tb ∧ Cond.instanceMethod yX3_lay ∈ cx_tb ∧ Cond.selects RX3 yX3_lay yX3_lay ∈ cx_tb := ⟨t_691, t_692, t_693⟩
theorem lRX3_31 : Cond.methodLink RX3 31 yX5_append ∈ cx_tb ∧ Cond.instanceMethod yX5_append ∈ cx_tb ∧ Cond.selects RX5 yX5_append yX5_append ∈ cx_tb := ⟨t_698, t_221, t_222⟩
theorem lRX8_321 : Cond.methodLink RX8 321 yX8_layTemplate ∈ cx_tb ∧ Cond.instanceMethod yX8_layTemplate ∈ cx_tb ∧ Cond.selects RX8 yX8_layTemplate yX8_layTemplate ∈ cx_tb := ⟨t_702, t_704, t_14⟩
theorem lRX8_325 : Cond.methodLink RX8 325 yX6_length ∈ cx_tb ∧ Cond.instanceMethod yX6_length ∈ cx_tb ∧ Cond.selects RX6 yX6_length yX6_length ∈ cx_tb := ⟨t_706, t_707, t_708⟩
theorem lRX8_326 : Cond.methodLink RX8 326 yX6_isSlot ∈ cx_tb ∧ Cond.instanceMethod yX6_isSlot ∈ cx_tb ∧ Cond.selects RX6 yX6_isSlot yX6_isSlot ∈ cx_tb := ⟨t_710, t_462, t_463⟩
theorem lRX8_329 : Cond.methodLink RX8 329 yX6_slotAt ∈ cx_tb ∧ Cond.instanceMethod yX6_slotAt ∈ cx_tb ∧ Cond.selects RX6 yX6_slotAt yX6_slotAt ∈ cx_tb := ⟨t_711, t_529, t_530⟩
theorem lRX8_332 : Cond.methodLink RX8 332 yX6_grammarAt ∈ cx_tb ∧ Cond.instanceMethod yX6_grammarAt ∈ cx_tb ∧ Cond.selects RX6 yX6_grammarAt yX6_grammarAt ∈ cx_tb := ⟨t_712, t_713, t_714⟩
theorem lRX8_335 : Cond.methodLink RX8 335 yX8_layForm ∈ cx_tb ∧ Cond.instanceMethod yX8_layForm ∈ cx_tb ∧ Cond.selects RX8 yX8_layForm yX8_layForm ∈ cx_tb := ⟨t_718, t_720, t_15⟩
theorem lRX8_339 : Cond.methodLink RX8 339 yX7_formLength ∈ cx_tb ∧ Cond.instanceMethod yX7_formLength ∈ cx_tb ∧ Cond.selects RX7 yX7_formLength yX7_formLength ∈ cx_tb := ⟨t_722, t_723, t_724⟩
theorem lRX7_46 : Cond.methodLink RX7 46 yX7_ownAt ∈ cx_tb ∧ Cond.instanceMethod yX7_ownAt ∈ cx_tb ∧ Cond.selects RX7 yX7_ownAt yX7_ownAt ∈ cx_tb := ⟨t_726, t_728, t_16⟩
theorem lRX7_50 : Cond.methodLink RX7 50 yX5_length ∈ cx_tb ∧ Cond.instanceMethod yX5_length ∈ cx_tb ∧ Cond.selects RX5 yX5_length yX5_length ∈ cx_tb := ⟨t_730, t_179, t_180⟩
theorem lRX7_54 : Cond.methodLink RX7 54 yX7_stemAt ∈ cx_tb ∧ Cond.instanceMethod yX7_stemAt ∈ cx_tb ∧ Cond.selects RX7 yX7_stemAt yX7_stemAt ∈ cx_tb := ⟨t_731, t_733, t_17⟩
theorem lRX7_58 : Cond.methodLink RX7 58 yX7_keptOfStem ∈ cx_tb ∧ Cond.static yX7_keptOfStem ∈ cx_tb := ⟨t_735, t_736⟩
theorem lRX7_62 : Cond.methodLink RX7 62 yX5_at ∈ cx_tb ∧ Cond.instanceMethod yX5_at ∈ cx_tb ∧ Cond.selects RX5 yX5_at yX5_at ∈ cx_tb := ⟨t_738, t_194, t_195⟩
theorem lRX8_343 : Cond.methodLink RX8 343 yX7_formSign ∈ cx_tb ∧ Cond.instanceMethod yX7_formSign ∈ cx_tb ∧ Cond.selects RX7 yX7_formSign yX7_formSign ∈ cx_tb := ⟨t_742, t_743, t_744⟩
theorem lRX8_338 : Cond.methodLink RX8 338 yX6_at ∈ cx_tb ∧ Cond.instanceMethod yX6_at ∈ cx_tb ∧ Cond.selects RX6 yX6_at yX6_at ∈ cx_tb := ⟨t_746, t_747, t_748⟩
theorem lRX8_252 : Cond.methodLink RX8 252 yX3_at ∈ cx_tb ∧ Cond.instanceMethod yX3_at ∈ cx_tb ∧ Cond.selects RX3 yX3_at yX3_at ∈ cx_tb := ⟨t_750, t_751, t_752⟩
theorem lRX3_43 : Cond.methodLink RX3 43 yX5_at ∈ cx_tb ∧ Cond.instanceMethod yX5_at ∈ cx_tb ∧ Cond.selects RX5 yX5_at yX5_at ∈ cx_tb := ⟨t_754, t_194, t_195⟩
theorem lRL_146 : Cond.methodLink RL 146 yL_signAnew ∈ cx_tb ∧ Cond.static yL_signAnew ∈ cx_tb := ⟨t_755, t_756⟩
theorem lRL_69 : Cond.methodLink RL 69 yX8_signAnew ∈ cx_tb ∧ Cond.instanceMethod yX8_signAnew ∈ cx_tb ∧ Cond.selects RX8 yX8_signAnew yX8_signAnew ∈ cx_tb := ⟨t_758, t_759, t_760⟩
theorem lRX8_255 : Cond.methodLink RX8 255 yX4_start ∈ cx_tb ∧ Cond.instanceMethod yX4_start ∈ cx_tb ∧ Cond.selects RX4 yX4_start yX4_start ∈ cx_tb := ⟨t_762, t_763, t_764⟩
theorem lRX8_258 : Cond.methodLink RX8 258 yX8_seek ∈ cx_tb ∧ Cond.instanceMethod yX8_seek ∈ cx_tb ∧ Cond.selects RX8 yX8_seek yX8_seek ∈ cx_tb := ⟨t_766, t_768, t_18⟩
theorem lRX8_347 : Cond.methodLink RX8 347 yX4_isDone ∈ cx_tb ∧ Cond.instanceMethod yX4_isDone ∈ cx_tb ∧ Cond.selects RX4 yX4_isDone yX4_isDone ∈ cx_tb := ⟨t_770, t_771, t_772⟩
theorem lRX8_350 : Cond.methodLink RX8 350 yX4_pass ∈ cx_tb ∧ Cond.instanceMethod yX4_pass ∈ cx_tb ∧ Cond.selects RX4 yX4_pass yX4_pass ∈ cx_tb := ⟨t_774, t_775, t_776⟩
theorem lRX8_353 : Cond.methodLink RX8 353 yX8_seekTemplate ∈ cx_tb ∧ Cond.instanceMethod yX8_seekTemplate ∈ cx_tb ∧ Cond.selects RX8 yX8_seekTemplate yX8_seekTemplate ∈ cx_tb := ⟨t_780, t_782, t_19⟩
theorem lRX8_356 : Cond.methodLink RX8 356 yX4_left ∈ cx_tb ∧ Cond.instanceMethod yX4_left ∈ cx_tb ∧ Cond.selects RX4 yX4_left yX4_left ∈ cx_tb := ⟨t_784, t_785, t_786⟩
theorem lRX8_359 : Cond.methodLink RX8 359 yX4_passForm ∈ cx_tb ∧ Cond.instanceMethod yX4_passForm ∈ cx_tb ∧ Cond.selects RX4 yX4_passForm yX4_passForm ∈ cx_tb := ⟨t_788, t_789, t_790⟩
theorem lRX8_261 : Cond.methodLink RX8 261 yX4_found ∈ cx_tb ∧ Cond.instanceMethod yX4_found ∈ cx_tb ∧ Cond.selects RX4 yX4_found yX4_found ∈ cx_tb := ⟨t_792, t_793, t_794⟩
theorem lRL_149 : Cond.methodLink RL 149 yL_costs ∈ cx_tb ∧ Cond.static yL_costs ∈ cx_tb := ⟨t_796, t_797⟩
theorem lRL_72 : Cond.methodLink RL 72 yX8_costs ∈ cx_tb ∧ Cond.instanceMethod yX8_costs ∈ cx_tb ∧ Cond.selects RX8 yX8_costs yX8_costs ∈ cx_tb := ⟨t_799, t_800, t_801⟩
theorem lRX8_265 : Cond.methodLink RX8 265 yX3_countWords ∈ cx_tb ∧ Cond.instanceMethod yX3_countWords ∈ cx_tb ∧ Cond.selects RX3 yX3_countWords yX3_countWords ∈ cx_tb := ⟨t_803, t_804, t_805⟩
theorem lRL_152 : Cond.methodLink RL 152 yL_sample ∈ cx_tb ∧ Cond.static yL_sample ∈ cx_tb := ⟨t_807, t_808⟩
theorem lRL_75 : Cond.methodLink RL 75 yX8_sample ∈ cx_tb ∧ Cond.instanceMethod yX8_sample ∈ cx_tb ∧ Cond.selects RX8 yX8_sample yX8_sample ∈ cx_tb := ⟨t_810, t_811, t_812⟩
theorem lRX8_270 : Cond.methodLink RX8 270 yX8_mostBranches ∈ cx_tb ∧ Cond.instanceMethod yX8_mostBranches ∈ cx_tb ∧ Cond.selects RX8 yX8_mostBranches yX8_mostBranches ∈ cx_tb := ⟨t_815, t_817, t_20⟩
theorem lRX8_274 : Cond.methodLink RX8 274 yX8_branches ∈ cx_tb ∧ Cond.instanceMethod yX8_branches ∈ cx_tb ∧ Cond.selects RX8 yX8_branches yX8_branches ∈ cx_tb := ⟨t_819, t_821, t_21⟩
theorem lRX8_363 : Cond.methodLink RX8 363 yJ_bitCount ∈ cx_tb ∧ Cond.static yJ_bitCount ∈ cx_tb := ⟨t_823, t_824⟩
theorem lRL_81 : Cond.methodLink RL 81 yX9_init ∈ cx_tb ∧ Cond.instanceMethod yX9_init ∈ cx_tb := ⟨t_831, t_832⟩
theorem lRX9_1 : Cond.methodLink RX9 1 objectInit ∈ cx_tb ∧ Cond.instanceMethod objectInit ∈ cx_tb ∧ Cond.code objectInit ⟨#[0xb1]⟩ 1 none ∈ cx_tb := ⟨t_834, t_64, t_65⟩
theorem lRL_88 : Cond.methodLink RL 88 yX9_thrown ∈ cx_tb ∧ Cond.instanceMethod yX9_thrown ∈ cx_tb ∧ Cond.selects RX9 yX9_thrown yX9_thrown ∈ cx_tb := ⟨t_918, t_919, t_920⟩
theorem lRL_87 : Cond.methodLink RL 87 yX9_type ∈ cx_tb ∧ Cond.instanceMethod yX9_type ∈ cx_tb ∧ Cond.selects RX9 yX9_type yX9_type ∈ cx_tb := ⟨t_922, t_923, t_924⟩
theorem lRX9_92 : Cond.methodLink RX9 92 yX9_goes ∈ cx_tb ∧ Cond.instanceMethod yX9_goes ∈ cx_tb ∧ Cond.selects RX9 yX9_goes yX9_goes ∈ cx_tb := ⟨t_926, t_928, t_22⟩
theorem lRL_94 : Cond.methodLink RL 94 yX9_clear ∈ cx_tb ∧ Cond.instanceMethod yX9_clear ∈ cx_tb ∧ Cond.selects RX9 yX9_clear yX9_clear ∈ cx_tb := ⟨t_930, t_931, t_932⟩
theorem lRL_98 : Cond.methodLink RL 98 yX9_word ∈ cx_tb ∧ Cond.instanceMethod yX9_word ∈ cx_tb ∧ Cond.selects RX9 yX9_word yX9_word ∈ cx_tb := ⟨t_934, t_935, t_936⟩
theorem lRX9_100 : Cond.methodLink RX9 100 yX9_isAll ∈ cx_tb ∧ Cond.instanceMethod yX9_isAll ∈ cx_tb ∧ Cond.selects RX9 yX9_isAll yX9_isAll ∈ cx_tb := ⟨t_938, t_940, t_23⟩
theorem lRX9_96 : Cond.methodLink RX9 96 yX9_isSmall ∈ cx_tb ∧ Cond.static yX9_isSmall ∈ cx_tb := ⟨t_942, t_943⟩
theorem lRX9_104 : Cond.methodLink RX9 104 yX9_takes ∈ cx_tb ∧ Cond.instanceMethod yX9_takes ∈ cx_tb ∧ Cond.selects RX9 yX9_takes yX9_takes ∈ cx_tb := ⟨t_945, t_947, t_24⟩
theorem lRL_102 : Cond.methodLink RL 102 yX9_form ∈ cx_tb ∧ Cond.instanceMethod yX9_form ∈ cx_tb ∧ Cond.selects RX9 yX9_form yX9_form ∈ cx_tb := ⟨t_949, t_950, t_951⟩
theorem lRX9_108 : Cond.methodLink RX9 108 yX9_isLanguage ∈ cx_tb ∧ Cond.static yX9_isLanguage ∈ cx_tb := ⟨t_953, t_954⟩
theorem lRX9_73 : Cond.methodLink RX9 73 yX9_isIn ∈ cx_tb ∧ Cond.static yX9_isIn ∈ cx_tb := ⟨t_956, t_957⟩
theorem lRX9_111 : Cond.methodLink RX9 111 yX9_isWord ∈ cx_tb ∧ Cond.instanceMethod yX9_isWord ∈ cx_tb ∧ Cond.selects RX9 yX9_isWord yX9_isWord ∈ cx_tb := ⟨t_959, t_961, t_25⟩
theorem lRL_106 : Cond.methodLink RL 106 yX9_clause ∈ cx_tb ∧ Cond.instanceMethod yX9_clause ∈ cx_tb ∧ Cond.selects RX9 yX9_clause yX9_clause ∈ cx_tb := ⟨t_963, t_964, t_965⟩
theorem lRL_114 : Cond.methodLink RL 114 yX9_fault ∈ cx_tb ∧ Cond.instanceMethod yX9_fault ∈ cx_tb ∧ Cond.selects RX9 yX9_fault yX9_fault ∈ cx_tb := ⟨t_967, t_968, t_969⟩
theorem lRX9_121 : Cond.methodLink RX9 121 yX9_faultOfBuffer ∈ cx_tb ∧ Cond.instanceMethod yX9_faultOfBuffer ∈ cx_tb ∧ Cond.selects RX9 yX9_faultOfBuffer yX9_faultOfBuffer ∈ cx_tb := ⟨t_971, t_973, t_26⟩
theorem lRX9_117 : Cond.methodLink RX9 117 yX9_behind ∈ cx_tb ∧ Cond.static yX9_behind ∈ cx_tb := ⟨t_975, t_976⟩
theorem lRX9_114 : Cond.methodLink RX9 114 yX9_isCase ∈ cx_tb ∧ Cond.static yX9_isCase ∈ cx_tb := ⟨t_978, t_979⟩
theorem lRL_110 : Cond.methodLink RL 110 yX9_text ∈ cx_tb ∧ Cond.instanceMethod yX9_text ∈ cx_tb ∧ Cond.selects RX9 yX9_text yX9_text ∈ cx_tb := ⟨t_981, t_982, t_983⟩
theorem lRX9_125 : Cond.methodLink RX9 125 yX9_isClause ∈ cx_tb ∧ Cond.instanceMethod yX9_isClause ∈ cx_tb ∧ Cond.selects RX9 yX9_isClause yX9_isClause ∈ cx_tb := ⟨t_985, t_987, t_27⟩
theorem lRX9_128 : Cond.methodLink RX9 128 yX9_at ∈ cx_tb ∧ Cond.static yX9_at ∈ cx_tb := ⟨t_989, t_990⟩
theorem lRL_117 : Cond.methodLink RL 117 yX9_approve ∈ cx_tb ∧ Cond.instanceMethod yX9_approve ∈ cx_tb ∧ Cond.selects RX9 yX9_approve yX9_approve ∈ cx_tb := ⟨t_992, t_993, t_994⟩
theorem lRL_121 : Cond.methodLink RL 121 yX9_relate ∈ cx_tb ∧ Cond.instanceMethod yX9_relate ∈ cx_tb ∧ Cond.selects RX9 yX9_relate yX9_relate ∈ cx_tb := ⟨t_996, t_997, t_998⟩
theorem lRL_124 : Cond.methodLink RL 124 yX9_isLinked ∈ cx_tb ∧ Cond.instanceMethod yX9_isLinked ∈ cx_tb ∧ Cond.selects RX9 yX9_isLinked yX9_isLinked ∈ cx_tb := ⟨t_1000, t_1001, t_1002⟩
theorem lRX9_132 : Cond.methodLink RX9 132 yX9_often ∈ cx_tb ∧ Cond.instanceMethod yX9_often ∈ cx_tb ∧ Cond.selects RX9 yX9_often yX9_often ∈ cx_tb := ⟨t_1004, t_1006, t_28⟩
theorem lRL_127 : Cond.methodLink RL 127 yX9_letter ∈ cx_tb ∧ Cond.instanceMethod yX9_letter ∈ cx_tb ∧ Cond.selects RX9 yX9_letter yX9_letter ∈ cx_tb := ⟨t_1008, t_1009, t_1010⟩
theorem lRL_130 : Cond.methodLink RL 130 yX9_put ∈ cx_tb ∧ Cond.instanceMethod yX9_put ∈ cx_tb ∧ Cond.selects RX9 yX9_put yX9_put ∈ cx_tb := ⟨t_1012, t_1013, t_1014⟩
theorem lRX9_135 : Cond.methodLink RX9 135 yX9_isLetter ∈ cx_tb ∧ Cond.instanceMethod yX9_isLetter ∈ cx_tb ∧ Cond.selects RX9 yX9_isLetter yX9_isLetter ∈ cx_tb := ⟨t_1016, t_1018, t_29⟩
theorem lRX9_138 : Cond.methodLink RX9 138 yX9_has ∈ cx_tb ∧ Cond.instanceMethod yX9_has ∈ cx_tb ∧ Cond.selects RX9 yX9_has yX9_has ∈ cx_tb := ⟨t_1020, t_1022, t_30⟩
theorem lRL_133 : Cond.methodLink RL 133 yX9_data ∈ cx_tb ∧ Cond.instanceMethod yX9_data ∈ cx_tb ∧ Cond.selects RX9 yX9_data yX9_data ∈ cx_tb := ⟨t_1024, t_1025, t_1026⟩
theorem lRL_136 : Cond.methodLink RL 136 yX9_fill ∈ cx_tb ∧ Cond.instanceMethod yX9_fill ∈ cx_tb ∧ Cond.selects RX9 yX9_fill yX9_fill ∈ cx_tb := ⟨t_1028, t_1029, t_1030⟩
theorem lRX9_141 : Cond.methodLink RX9 141 yX9_isData ∈ cx_tb ∧ Cond.instanceMethod yX9_isData ∈ cx_tb ∧ Cond.selects RX9 yX9_isData yX9_isData ∈ cx_tb := ⟨t_1032, t_1034, t_31⟩
theorem lRL_139 : Cond.methodLink RL 139 yX9_price ∈ cx_tb ∧ Cond.instanceMethod yX9_price ∈ cx_tb ∧ Cond.selects RX9 yX9_price yX9_price ∈ cx_tb := ⟨t_1036, t_1037, t_1038⟩
theorem lRL_142 : Cond.methodLink RL 142 yX9_faultOf ∈ cx_tb ∧ Cond.instanceMethod yX9_faultOf ∈ cx_tb ∧ Cond.selects RX9 yX9_faultOf yX9_faultOf ∈ cx_tb := ⟨t_1040, t_1041, t_1042⟩
theorem lRX9_144 : Cond.methodLink RX9 144 yX9_meets ∈ cx_tb ∧ Cond.instanceMethod yX9_meets ∈ cx_tb ∧ Cond.selects RX9 yX9_meets yX9_meets ∈ cx_tb := ⟨t_1044, t_1046, t_32⟩
theorem lRX9_147 : Cond.methodLink RX9 147 yX9_isBroken ∈ cx_tb ∧ Cond.instanceMethod yX9_isBroken ∈ cx_tb ∧ Cond.selects RX9 yX9_isBroken yX9_isBroken ∈ cx_tb := ⟨t_1048, t_1050, t_33⟩
theorem lRL_145 : Cond.methodLink RL 145 yX9_sign ∈ cx_tb ∧ Cond.instanceMethod yX9_sign ∈ cx_tb ∧ Cond.selects RX9 yX9_sign yX9_sign ∈ cx_tb := ⟨t_1052, t_1053, t_1054⟩
theorem lRX9_179 : Cond.methodLink RX9 179 yX9_signOf ∈ cx_tb ∧ Cond.instanceMethod yX9_signOf ∈ cx_tb ∧ Cond.selects RX9 yX9_signOf yX9_signOf ∈ cx_tb := ⟨t_1056, t_1058, t_34⟩
theorem lRX9_176 : Cond.methodLink RX9 176 yX9_builds ∈ cx_tb ∧ Cond.instanceMethod yX9_builds ∈ cx_tb ∧ Cond.selects RX9 yX9_builds yX9_builds ∈ cx_tb := ⟨t_1060, t_1062, t_35⟩
theorem lRX9_158 : Cond.methodLink RX9 158 yX9_lays ∈ cx_tb ∧ Cond.instanceMethod yX9_lays ∈ cx_tb ∧ Cond.selects RX9 yX9_lays yX9_lays ∈ cx_tb := ⟨t_1064, t_1066, t_36⟩
theorem lRX9_173 : Cond.methodLink RX9 173 yX9_laysText ∈ cx_tb ∧ Cond.instanceMethod yX9_laysText ∈ cx_tb ∧ Cond.selects RX9 yX9_laysText yX9_laysText ∈ cx_tb := ⟨t_1068, t_1070, t_37⟩
theorem lRX9_165 : Cond.methodLink RX9 165 yX9_grammar ∈ cx_tb ∧ Cond.static yX9_grammar ∈ cx_tb := ⟨t_1072, t_1073⟩
theorem lRX9_169 : Cond.methodLink RX9 169 yX9_laysForm ∈ cx_tb ∧ Cond.instanceMethod yX9_laysForm ∈ cx_tb ∧ Cond.selects RX9 yX9_laysForm yX9_laysForm ∈ cx_tb := ⟨t_1075, t_1077, t_38⟩
theorem lRX9_162 : Cond.methodLink RX9 162 yX9_isVowel ∈ cx_tb ∧ Cond.static yX9_isVowel ∈ cx_tb := ⟨t_1079, t_1080⟩
theorem lRL_148 : Cond.methodLink RL 148 yX9_signAnew ∈ cx_tb ∧ Cond.instanceMethod yX9_signAnew ∈ cx_tb ∧ Cond.selects RX9 yX9_signAnew yX9_signAnew ∈ cx_tb := ⟨t_1082, t_1083, t_1084⟩
theorem lRL_151 : Cond.methodLink RL 151 yX9_costs ∈ cx_tb ∧ Cond.instanceMethod yX9_costs ∈ cx_tb ∧ Cond.selects RX9 yX9_costs yX9_costs ∈ cx_tb := ⟨t_1086, t_1087, t_1088⟩
theorem lRL_154 : Cond.methodLink RL 154 yX9_sample ∈ cx_tb ∧ Cond.instanceMethod yX9_sample ∈ cx_tb ∧ Cond.selects RX9 yX9_sample yX9_sample ∈ cx_tb := ⟨t_1090, t_1091, t_1092⟩
theorem lRX9_183 : Cond.methodLink RX9 183 yX9_branches ∈ cx_tb ∧ Cond.instanceMethod yX9_branches ∈ cx_tb ∧ Cond.selects RX9 yX9_branches yX9_branches ∈ cx_tb := ⟨t_1094, t_1096, t_39⟩
theorem lRX8_49 : (RX8, 49, yX3_init, "Glosstemplate") ∈ cx_nest ∧ Cond.instanceMethod yX3_init ∈ cx_tb := ⟨by decide +kernel, t_111⟩
theorem lRX8_56 : (RX8, 56, yX4_init, "Glosstemplate") ∈ cx_nest ∧ Cond.instanceMethod yX4_init ∈ cx_tb := ⟨by decide +kernel, t_127⟩
theorem lRX5_31 : (RX5, 31, yX8_isSmall, "Glosstemplate") ∈ cx_nest ∧ Cond.static yX8_isSmall ∈ cx_tb := ⟨by decide +kernel, t_201⟩
theorem lRX7_30 : (RX7, 30, yX8_isBelow, "Glosstemplate") ∈ cx_nest ∧ Cond.static yX8_isBelow ∈ cx_tb := ⟨by decide +kernel, t_315⟩
theorem lRX0_25 : (RX0, 25, yX6_init, "Glosstemplate") ∈ cx_nest ∧ Cond.instanceMethod yX6_init ∈ cx_tb := ⟨by decide +kernel, t_407⟩
theorem lRX0_26 : (RX0, 26, yX8_isBelow, "Glosstemplate") ∈ cx_nest ∧ Cond.static yX8_isBelow ∈ cx_tb := ⟨by decide +kernel, t_315⟩
theorem lRX6_36 : (RX6, 36, yX8_slotOf, "Glosstemplate") ∈ cx_nest ∧ Cond.static yX8_slotOf ∈ cx_tb := ⟨by decide +kernel, t_204⟩
theorem lRX8_187 : (RX8, 187, yX2_init, "Glosstemplate") ∈ cx_nest ∧ Cond.instanceMethod yX2_init ∈ cx_tb := ⟨by decide +kernel, t_543⟩
theorem lRX2_19 : (RX2, 19, yX8_isBelow, "Glosstemplate") ∈ cx_nest ∧ Cond.static yX8_isBelow ∈ cx_tb := ⟨by decide +kernel, t_315⟩
theorem lRX1_19 : (RX1, 19, yX8_isBelow, "Glosstemplate") ∈ cx_nest ∧ Cond.static yX8_isBelow ∈ cx_tb := ⟨by decide +kernel, t_315⟩
theorem lRX3_27 : (RX3, 27, yX8_capital, "Glosstemplate") ∈ cx_nest ∧ Cond.static yX8_capital ∈ cx_tb := ⟨by decide +kernel, t_696⟩
theorem lRX3_35 : (RX3, 35, yX8_isOpenBehind, "Glosstemplate") ∈ cx_nest ∧ Cond.static yX8_isOpenBehind ∈ cx_tb := ⟨by decide +kernel, t_700⟩
theorem lRX6_40 : (RX6, 40, yX8_caseOf, "Glosstemplate") ∈ cx_nest ∧ Cond.static yX8_caseOf ∈ cx_tb := ⟨by decide +kernel, t_207⟩
theorem lRX6_43 : (RX6, 43, yX8_numberOf, "Glosstemplate") ∈ cx_nest ∧ Cond.static yX8_numberOf ∈ cx_tb := ⟨by decide +kernel, t_210⟩
theorem lRX7_66 : (RX7, 66, yX8_isVowel, "Glosstemplate") ∈ cx_nest ∧ Cond.static yX8_isVowel ∈ cx_tb := ⟨by decide +kernel, t_740⟩
theorem lRX4_21 : (RX4, 21, yX8_capital, "Glosstemplate") ∈ cx_nest ∧ Cond.static yX8_capital ∈ cx_tb := ⟨by decide +kernel, t_696⟩
theorem lRX4_27 : (RX4, 27, yX8_isOpenBehind, "Glosstemplate") ∈ cx_nest ∧ Cond.static yX8_isOpenBehind ∈ cx_tb := ⟨by decide +kernel, t_700⟩
theorem ac_char : Cond.arrayClass .char ∈ cx_tb := cx_tb_in 79 (by decide +kernel) (by decide +kernel)
theorem ac_int : Cond.arrayClass .int ∈ cx_tb := cx_tb_in 123 (by decide +kernel) (by decide +kernel)
theorem ac_boolean : Cond.arrayClass .boolean ∈ cx_tb := cx_tb_in 917 (by decide +kernel) (by decide +kernel)
theorem ac_long : Cond.arrayClass .long ∈ cx_tb := cx_tb_in 1098 (by decide +kernel) (by decide +kernel)
theorem con_265 : Cond.constant "java/lang/Integer" 265 1431655765 ∈ cx_tb := cx_tb_in 826 (by decide +kernel) (by decide +kernel)
theorem con_266 : Cond.constant "java/lang/Integer" 266 858993459 ∈ cx_tb := cx_tb_in 827 (by decide +kernel) (by decide +kernel)
theorem con_267 : Cond.constant "java/lang/Integer" 267 252645135 ∈ cx_tb := cx_tb_in 828 (by decide +kernel) (by decide +kernel)
theorem exS_at : ∀ w ∈ (vx_atS RX8 69 "java/lang/IllegalStateException" ["java/lang/RuntimeException", "java/lang/Exception"]).filter goodWord, w ∈ cx_tb := by decide +kernel
theorem exS_ng : ∀ w ∈ (vx_atS RX8 69 "java/lang/IllegalStateException" ["java/lang/RuntimeException", "java/lang/Exception"]).filter (fun w => !goodWord w), w = Cond.castable "java/lang/IllegalStateException" "java/lang/IllegalStateException" ∨ w ∈ cx_dcl.map Cond.declares := by decide +kernel
theorem exB_at : ∀ w ∈ (vx_atS RX8 103 "java/lang/IndexOutOfBoundsException" ["java/lang/RuntimeException", "java/lang/Exception"]).filter goodWord, w ∈ cx_tb := by decide +kernel
theorem exB_ng : ∀ w ∈ (vx_atS RX8 103 "java/lang/IndexOutOfBoundsException" ["java/lang/RuntimeException", "java/lang/Exception"]).filter (fun w => !goodWord w), w = Cond.castable "java/lang/IndexOutOfBoundsException" "java/lang/IndexOutOfBoundsException" ∨ w ∈ cx_dcl.map Cond.declares := by decide +kernel
theorem exA_at : ∀ w ∈ (vx_atS RX8 111 "java/lang/IllegalArgumentException" ["java/lang/RuntimeException", "java/lang/Exception"]).filter goodWord, w ∈ cx_tb := by decide +kernel
theorem exA_ng : ∀ w ∈ (vx_atS RX8 111 "java/lang/IllegalArgumentException" ["java/lang/RuntimeException", "java/lang/Exception"]).filter (fun w => !goodWord w), w = Cond.castable "java/lang/IllegalArgumentException" "java/lang/IllegalArgumentException" ∨ w ∈ cx_dcl.map Cond.declares := by decide +kernel
end
section
/-! small words for the walks -/
theorem up_s {G : GH} {a : Nat} {e : Option LC} : va_up G a e a = e := by unfold va_up; rw [if_pos rfl]
theorem up_n {G : GH} {a q : Nat} {e x : Option LC} (ne : q ≠ a) (h : G q = x) : va_up G a e q = x := by unfold va_up; rw [if_neg ne]; exact h
theorem cx_ne {G : GH} {q a : Nat} {x y : LC} (h1 : G q = some x) (h2 : G a = some y) (hxy : x ≠ y) : q ≠ a := fun h => hxy (by rw [h, h2] at h1; exact (Option.some.inj h1).symm)
theorem cx_nf {G : GH} {q a : Nat} {x : LC} (h1 : G q = some x) (h2 : G a = none) : q ≠ a := fun h => by rw [h, h2] at h1; cases h1
theorem cx_det {M : MD} {d b0 : Nat} {Po : Option Value → GH → Prop} {Px : String → GH → Prop} {G1 : GH} {bc bs pc : Nat} {lv : List (Nat × Value)} {st st2 : List Value} {v : Option Value} (hst : v.toList ++ st = st2) (k : WP M d b0 Po Px G1 bc bs pc lv st2) : ∀ (r : Option Value) (G' : GH), (r = v ∧ G' = G1) → WP M d b0 Po Px G' bc bs pc lv (r.toList ++ st) := by
  intro r G' h
  obtain ⟨rfl, rfl⟩ := h
  rw [hst]
  exact k
abbrev CTd (N : MD) (d b0 : Nat) (G : GH) (av : List Value) (mc ms : Nat) (v : Option Value) (G1 : GH) : Prop := CT N d b0 G av mc ms (fun r G' => r = v ∧ G' = G1) (fun _ _ => False)
section CXT
variable {M : MD} {d b0 : Nat} {Po : Option Value → GH → Prop} {Px : String → GH → Prop} {G : GH} {bc bs pc : Nat} {lv : List (Nat × Value)} {st : List Value}
theorem r_top {x : Int32} (y : Int32) (h : x = y) (k : WP M d b0 Po Px G bc bs pc lv (.int y :: st)) : WP M d b0 Po Px G bc bs pc lv (.int x :: st) := by rw [h]; exact k
theorem r_topq {r : Option Nat} (v : Value) (h : va_rf r = v) (k : WP M d b0 Po Px G bc bs pc lv (v :: st)) : WP M d b0 Po Px G bc bs pc lv (va_rf r :: st) := by rw [h]; exact k
theorem r_heap {G' : GH} (h : G = G') (k : WP M d b0 Po Px G' bc bs pc lv st) : WP M d b0 Po Px G bc bs pc lv st := by rw [h]; exact k
end CXT
theorem cx_sw {x : Int32} (n : Nat) (hn : n < 2 ^ 31) (h : ∀ k, k < n → ¬ x = nI k) : x.toInt < 0 ∨ (n : Int) - 1 < x.toInt := by
  rcases Int.lt_or_le x.toInt 0 with q | q
  · exact Or.inl q
  · right
    rcases Int.lt_or_le ((n : Int) - 1) x.toInt with q2 | q2
    · exact q2
    · exact absurd (Int32.toInt_inj.mp (by rw [nI_toInt (by omega)]; omega)) (h x.toInt.toNat (by omega))
abbrev isC (x : Int32) : Prop := narrow .char (.int x) = .int x
abbrev isZ (x : Int32) : Prop := narrow .boolean (.int x) = .int x
theorem isC_nI {n : Nat} (h : n < 65536) : isC (nI n) := (pk_charN h).1
theorem isZ_0 : isZ 0 := rfl
theorem isZ_1 : isZ 1 := rfl
theorem fitC {x : Int32} (h : isC x) : fits .char (.int x) = true := by
  have h1 : vp_nar .char x = x := by unfold vp_nar; rw [h]
  rw [vp_nar_char, ← lg_i2c_nf] at h1
  rw [← h1]
  exact pk_fc x
theorem isZ_ite {c : Prop} [Decidable c] {a b : Int32} (ha : isZ a) (hb : isZ b) : isZ (if c then a else b) := by split <;> assumption
theorem isC_ite {c : Prop} [Decidable c] {a b : Int32} (ha : isC a) (hb : isC b) : isC (if c then a else b) := by split <;> assumption
end
section
def s_X8_isBelow (a0 a1 : Int32) : Int32 := if a0 < 0 then 0 else if a1 ≤ a0 then 0 else 1
set_option maxRecDepth 100000 in
set_option maxHeartbeats 4000000 in
theorem c_X8_isBelow {d b0 : Nat} {G : GH} (a0 a1 : Int32) : CTd mX8_isBelow d b0 G [.int a0, .int a1] 0 0 (some (.int (s_X8_isBelow a0 a1))) G := by
  refine CT.intro (by decide +kernel) rfl (Nat.le_of_ble_eq_true rfl) ?_
  show WP mX8_isBelow _ _ _ _ _ 0 0 0 [(0, .int a0), (1, .int a1)] []
  refine r_iload_n dX8_isBelow_0 rfl 0 rfl ?_
  refine r_if_lt 13 dX8_isBelow_1 (by decide) (fun c_1 => ?_) (fun c_1 => ?_)
  · refine r_iconst (v := 0) dX8_isBelow_13 (by decide) ?_
    refine r_ret .boolean dX8_isBelow_14 rfl rfl ?_
    exact ⟨by unfold s_X8_isBelow; rw [if_pos c_1], rfl⟩
  · refine r_iload_n dX8_isBelow_4 rfl 0 rfl ?_
    refine r_iload_n dX8_isBelow_5 rfl 1 rfl ?_
    refine r_icmp_ge 13 dX8_isBelow_6 (by decide) (fun c_2 => ?_) (fun c_2 => ?_)
    · refine r_iconst (v := 0) dX8_isBelow_13 (by decide) ?_
      refine r_ret .boolean dX8_isBelow_14 rfl rfl ?_
      exact ⟨by unfold s_X8_isBelow; rw [if_neg c_1, if_pos c_2], rfl⟩
    · refine r_iconst (v := 1) dX8_isBelow_9 (by decide) ?_
      refine r_goto 14 dX8_isBelow_10 (by decide) ?_
      refine r_ret .boolean dX8_isBelow_14 rfl rfl ?_
      exact ⟨by unfold s_X8_isBelow; rw [if_neg c_1, if_neg c_2], rfl⟩
theorem nb_X8_isBelow {a0 a1 : Int32} : isZ (s_X8_isBelow a0 a1) := by
  unfold s_X8_isBelow
  repeat' (first | refine isZ_ite ?_ ?_ | exact isZ_0 | exact isZ_1)
def s_X8_isSmall (a0 : Int32) : Int32 := if a0 < 97 then 0 else if 122 < a0 then 0 else 1
set_option maxRecDepth 100000 in
set_option maxHeartbeats 4000000 in
theorem c_X8_isSmall {d b0 : Nat} {G : GH} (a0 : Int32) : CTd mX8_isSmall d b0 G [.int a0] 0 0 (some (.int (s_X8_isSmall a0))) G := by
  refine CT.intro (by decide +kernel) rfl (Nat.le_of_ble_eq_true rfl) ?_
  show WP mX8_isSmall _ _ _ _ _ 0 0 0 [(0, .int a0)] []
  refine r_iload_n dX8_isSmall_0 rfl 0 rfl ?_
  refine r_bipush (v := 97) dX8_isSmall_1 (by decide) ?_
  refine r_icmp_lt 16 dX8_isSmall_3 (by decide) (fun c_1 => ?_) (fun c_1 => ?_)
  · refine r_iconst (v := 0) dX8_isSmall_16 (by decide) ?_
    refine r_ret .boolean dX8_isSmall_17 rfl rfl ?_
    exact ⟨by unfold s_X8_isSmall; rw [if_pos c_1], rfl⟩
  · refine r_iload_n dX8_isSmall_6 rfl 0 rfl ?_
    refine r_bipush (v := 122) dX8_isSmall_7 (by decide) ?_
    refine r_icmp_gt 16 dX8_isSmall_9 (by decide) (fun c_2 => ?_) (fun c_2 => ?_)
    · refine r_iconst (v := 0) dX8_isSmall_16 (by decide) ?_
      refine r_ret .boolean dX8_isSmall_17 rfl rfl ?_
      exact ⟨by unfold s_X8_isSmall; rw [if_neg c_1, if_pos c_2], rfl⟩
    · refine r_iconst (v := 1) dX8_isSmall_12 (by decide) ?_
      refine r_goto 17 dX8_isSmall_13 (by decide) ?_
      refine r_ret .boolean dX8_isSmall_17 rfl rfl ?_
      exact ⟨by unfold s_X8_isSmall; rw [if_neg c_1, if_neg c_2], rfl⟩
theorem nb_X8_isSmall {a0 : Int32} : isZ (s_X8_isSmall a0) := by
  unfold s_X8_isSmall
  repeat' (first | refine isZ_ite ?_ ?_ | exact isZ_0 | exact isZ_1)
def s_X8_isLanguage (a0 : Int32) : Int32 := s_X8_isBelow a0 3
set_option maxRecDepth 100000 in
set_option maxHeartbeats 4000000 in
theorem c_X8_isLanguage {d b0 : Nat} {G : GH} (a0 : Int32) : CTd mX8_isLanguage (d + 1) b0 G [.int a0] 0 0 (some (.int (s_X8_isLanguage a0))) G := by
  refine CT.intro (by decide +kernel) rfl (Nat.le_of_ble_eq_true rfl) ?_
  show WP mX8_isLanguage _ _ _ _ _ 0 0 0 [(0, .int a0)] []
  refine r_iload_n dX8_isLanguage_0 rfl 0 rfl ?_
  refine r_iconst (v := 3) dX8_isLanguage_1 (by decide) ?_
  refine r_callS (st := []) [.int a0, .int 3] 0 0 dX8_isLanguage_2 kX8_isBelow nX8_isBelow lRX8_104 (c_X8_isBelow a0 3) rfl rfl (by decide) (Nat.le_refl _) (Nat.le_refl _) (fun _ _ h => h.elim) ?_
  refine cx_det (st2 := [.int (s_X8_isBelow a0 3)]) rfl ?_
  refine r_ret .boolean dX8_isLanguage_5 rfl (nb_X8_isBelow) ?_
  exact ⟨by unfold s_X8_isLanguage; rfl, rfl⟩
theorem nb_X8_isLanguage {a0 : Int32} : isZ (s_X8_isLanguage a0) := by
  unfold s_X8_isLanguage
  repeat' (first | refine isZ_ite ?_ ?_ | exact nb_X8_isBelow | exact isZ_0 | exact isZ_1)
def s_X8_isVowel (a0 : Int32) : Int32 := if a0 = 97 then 1 else if a0 = 101 then 1 else if a0 = 105 then 1 else if a0 = 111 then 1 else if a0 = 117 then 1 else 0
set_option maxRecDepth 100000 in
set_option maxHeartbeats 4000000 in
theorem c_X8_isVowel {d b0 : Nat} {G : GH} (a0 : Int32) : CTd mX8_isVowel d b0 G [.int a0] 0 0 (some (.int (s_X8_isVowel a0))) G := by
  refine CT.intro (by decide +kernel) rfl (Nat.le_of_ble_eq_true rfl) ?_
  show WP mX8_isVowel _ _ _ _ _ 0 0 0 [(0, .int a0)] []
  refine r_iload_n dX8_isVowel_0 rfl 0 rfl ?_
  refine r_bipush (v := 97) dX8_isVowel_1 (by decide) ?_
  refine r_icmp_eq 30 dX8_isVowel_3 (by decide) (fun c_1 => ?_) (fun c_1 => ?_)
  · refine r_iconst (v := 1) dX8_isVowel_30 (by decide) ?_
    refine r_goto 35 dX8_isVowel_31 (by decide) ?_
    refine r_ret .boolean dX8_isVowel_35 rfl rfl ?_
    exact ⟨by unfold s_X8_isVowel; rw [if_pos c_1], rfl⟩
  · refine r_iload_n dX8_isVowel_6 rfl 0 rfl ?_
    refine r_bipush (v := 101) dX8_isVowel_7 (by decide) ?_
    refine r_icmp_eq 30 dX8_isVowel_9 (by decide) (fun c_2 => ?_) (fun c_2 => ?_)
    · refine r_iconst (v := 1) dX8_isVowel_30 (by decide) ?_
      refine r_goto 35 dX8_isVowel_31 (by decide) ?_
      refine r_ret .boolean dX8_isVowel_35 rfl rfl ?_
      exact ⟨by unfold s_X8_isVowel; rw [if_neg c_1, if_pos c_2], rfl⟩
    · refine r_iload_n dX8_isVowel_12 rfl 0 rfl ?_
      refine r_bipush (v := 105) dX8_isVowel_13 (by decide) ?_
      refine r_icmp_eq 30 dX8_isVowel_15 (by decide) (fun c_3 => ?_) (fun c_3 => ?_)
      · refine r_iconst (v := 1) dX8_isVowel_30 (by decide) ?_
        refine r_goto 35 dX8_isVowel_31 (by decide) ?_
        refine r_ret .boolean dX8_isVowel_35 rfl rfl ?_
        exact ⟨by unfold s_X8_isVowel; rw [if_neg c_1, if_neg c_2, if_pos c_3], rfl⟩
      · refine r_iload_n dX8_isVowel_18 rfl 0 rfl ?_
        refine r_bipush (v := 111) dX8_isVowel_19 (by decide) ?_
        refine r_icmp_eq 30 dX8_isVowel_21 (by decide) (fun c_4 => ?_) (fun c_4 => ?_)
        · refine r_iconst (v := 1) dX8_isVowel_30 (by decide) ?_
          refine r_goto 35 dX8_isVowel_31 (by decide) ?_
          refine r_ret .boolean dX8_isVowel_35 rfl rfl ?_
          exact ⟨by unfold s_X8_isVowel; rw [if_neg c_1, if_neg c_2, if_neg c_3, if_pos c_4], rfl⟩
        · refine r_iload_n dX8_isVowel_24 rfl 0 rfl ?_
          refine r_bipush (v := 117) dX8_isVowel_25 (by decide) ?_
          refine r_icmp_ne 34 dX8_isVowel_27 (by decide) (fun c_5 => ?_) (fun c_5 => ?_)
          · refine r_iconst (v := 0) dX8_isVowel_34 (by decide) ?_
            refine r_ret .boolean dX8_isVowel_35 rfl rfl ?_
            exact ⟨by unfold s_X8_isVowel; rw [if_neg c_1, if_neg c_2, if_neg c_3, if_neg c_4, if_neg c_5], rfl⟩
          · refine r_iconst (v := 1) dX8_isVowel_30 (by decide) ?_
            refine r_goto 35 dX8_isVowel_31 (by decide) ?_
            refine r_ret .boolean dX8_isVowel_35 rfl rfl ?_
            exact ⟨by unfold s_X8_isVowel; rw [if_neg c_1, if_neg c_2, if_neg c_3, if_neg c_4, if_pos c_5], rfl⟩
theorem nb_X8_isVowel {a0 : Int32} : isZ (s_X8_isVowel a0) := by
  unfold s_X8_isVowel
  repeat' (first | refine isZ_ite ?_ ?_ | exact isZ_0 | exact isZ_1)
def s_X8_caseOf (a0 : Int32) : Int32 := if a0 = 110 then 0 else if a0 = 103 then 1 else if a0 = 100 then 2 else if a0 = 97 then 3 else (-1)
set_option maxRecDepth 100000 in
set_option maxHeartbeats 4000000 in
theorem c_X8_caseOf {d b0 : Nat} {G : GH} (a0 : Int32) : CTd mX8_caseOf d b0 G [.int a0] 0 0 (some (.int (s_X8_caseOf a0))) G := by
  refine CT.intro (by decide +kernel) rfl (Nat.le_of_ble_eq_true rfl) ?_
  show WP mX8_caseOf _ _ _ _ _ 0 0 0 [(0, .int a0)] []
  refine r_iload_n dX8_caseOf_0 rfl 0 rfl ?_
  refine r_bipush (v := 110) dX8_caseOf_1 (by decide) ?_
  refine r_icmp_ne 10 dX8_caseOf_3 (by decide) (fun c_1 => ?_) (fun c_1 => ?_)
  · refine r_iload_n dX8_caseOf_10 rfl 0 rfl ?_
    refine r_bipush (v := 103) dX8_caseOf_11 (by decide) ?_
    refine r_icmp_ne 20 dX8_caseOf_13 (by decide) (fun c_2 => ?_) (fun c_2 => ?_)
    · refine r_iload_n dX8_caseOf_20 rfl 0 rfl ?_
      refine r_bipush (v := 100) dX8_caseOf_21 (by decide) ?_
      refine r_icmp_ne 30 dX8_caseOf_23 (by decide) (fun c_3 => ?_) (fun c_3 => ?_)
      · refine r_iload_n dX8_caseOf_30 rfl 0 rfl ?_
        refine r_bipush (v := 97) dX8_caseOf_31 (by decide) ?_
        refine r_icmp_ne 40 dX8_caseOf_33 (by decide) (fun c_4 => ?_) (fun c_4 => ?_)
        · refine r_iconst (v := (-1)) dX8_caseOf_40 (by decide) ?_
          refine r_ireti dX8_caseOf_41 rfl ?_
          exact ⟨by unfold s_X8_caseOf; rw [if_neg c_1, if_neg c_2, if_neg c_3, if_neg c_4], rfl⟩
        · refine r_iconst (v := 3) dX8_caseOf_36 (by decide) ?_
          refine r_goto 41 dX8_caseOf_37 (by decide) ?_
          refine r_ireti dX8_caseOf_41 rfl ?_
          exact ⟨by unfold s_X8_caseOf; rw [if_neg c_1, if_neg c_2, if_neg c_3, if_pos c_4], rfl⟩
      · refine r_iconst (v := 2) dX8_caseOf_26 (by decide) ?_
        refine r_goto 41 dX8_caseOf_27 (by decide) ?_
        refine r_ireti dX8_caseOf_41 rfl ?_
        exact ⟨by unfold s_X8_caseOf; rw [if_neg c_1, if_neg c_2, if_pos c_3], rfl⟩
    · refine r_iconst (v := 1) dX8_caseOf_16 (by decide) ?_
      refine r_goto 41 dX8_caseOf_17 (by decide) ?_
      refine r_ireti dX8_caseOf_41 rfl ?_
      exact ⟨by unfold s_X8_caseOf; rw [if_neg c_1, if_pos c_2], rfl⟩
  · refine r_iconst (v := 0) dX8_caseOf_6 (by decide) ?_
    refine r_goto 41 dX8_caseOf_7 (by decide) ?_
    refine r_ireti dX8_caseOf_41 rfl ?_
    exact ⟨by unfold s_X8_caseOf; rw [if_pos c_1], rfl⟩
def s_X8_numberOf (a0 : Int32) : Int32 := if a0 = 115 then 0 else if a0 = 112 then 1 else (-1)
set_option maxRecDepth 100000 in
set_option maxHeartbeats 4000000 in
theorem c_X8_numberOf {d b0 : Nat} {G : GH} (a0 : Int32) : CTd mX8_numberOf d b0 G [.int a0] 0 0 (some (.int (s_X8_numberOf a0))) G := by
  refine CT.intro (by decide +kernel) rfl (Nat.le_of_ble_eq_true rfl) ?_
  show WP mX8_numberOf _ _ _ _ _ 0 0 0 [(0, .int a0)] []
  refine r_iload_n dX8_numberOf_0 rfl 0 rfl ?_
  refine r_bipush (v := 115) dX8_numberOf_1 (by decide) ?_
  refine r_icmp_ne 10 dX8_numberOf_3 (by decide) (fun c_1 => ?_) (fun c_1 => ?_)
  · refine r_iload_n dX8_numberOf_10 rfl 0 rfl ?_
    refine r_bipush (v := 112) dX8_numberOf_11 (by decide) ?_
    refine r_icmp_ne 20 dX8_numberOf_13 (by decide) (fun c_2 => ?_) (fun c_2 => ?_)
    · refine r_iconst (v := (-1)) dX8_numberOf_20 (by decide) ?_
      refine r_ireti dX8_numberOf_21 rfl ?_
      exact ⟨by unfold s_X8_numberOf; rw [if_neg c_1, if_neg c_2], rfl⟩
    · refine r_iconst (v := 1) dX8_numberOf_16 (by decide) ?_
      refine r_goto 21 dX8_numberOf_17 (by decide) ?_
      refine r_ireti dX8_numberOf_21 rfl ?_
      exact ⟨by unfold s_X8_numberOf; rw [if_neg c_1, if_pos c_2], rfl⟩
  · refine r_iconst (v := 0) dX8_numberOf_6 (by decide) ?_
    refine r_goto 21 dX8_numberOf_7 (by decide) ?_
    refine r_ireti dX8_numberOf_21 rfl ?_
    exact ⟨by unfold s_X8_numberOf; rw [if_pos c_1], rfl⟩
def s_X8_slotOf (a0 : Int32) : Int32 := if a0 < 48 then (-1) else if 53 ≤ a0 then (-1) else a0 - 48
set_option maxRecDepth 100000 in
set_option maxHeartbeats 4000000 in
theorem c_X8_slotOf {d b0 : Nat} {G : GH} (a0 : Int32) : CTd mX8_slotOf d b0 G [.int a0] 0 0 (some (.int (s_X8_slotOf a0))) G := by
  refine CT.intro (by decide +kernel) rfl (Nat.le_of_ble_eq_true rfl) ?_
  show WP mX8_slotOf _ _ _ _ _ 0 0 0 [(0, .int a0)] []
  refine r_iload_n dX8_slotOf_0 rfl 0 rfl ?_
  refine r_bipush (v := 48) dX8_slotOf_1 (by decide) ?_
  refine r_icmp_lt 19 dX8_slotOf_3 (by decide) (fun c_1 => ?_) (fun c_1 => ?_)
  · refine r_iconst (v := (-1)) dX8_slotOf_19 (by decide) ?_
    refine r_ireti dX8_slotOf_20 rfl ?_
    exact ⟨by unfold s_X8_slotOf; rw [if_pos c_1], rfl⟩
  · refine r_iload_n dX8_slotOf_6 rfl 0 rfl ?_
    refine r_bipush (v := 53) dX8_slotOf_7 (by decide) ?_
    refine r_icmp_ge 19 dX8_slotOf_9 (by decide) (fun c_2 => ?_) (fun c_2 => ?_)
    · refine r_iconst (v := (-1)) dX8_slotOf_19 (by decide) ?_
      refine r_ireti dX8_slotOf_20 rfl ?_
      exact ⟨by unfold s_X8_slotOf; rw [if_neg c_1, if_pos c_2], rfl⟩
    · refine r_iload_n dX8_slotOf_12 rfl 0 rfl ?_
      refine r_bipush (v := 48) dX8_slotOf_13 (by decide) ?_
      refine r_isub dX8_slotOf_15 ?_
      refine r_goto 20 dX8_slotOf_16 (by decide) ?_
      refine r_ireti dX8_slotOf_20 rfl ?_
      exact ⟨by unfold s_X8_slotOf; rw [if_neg c_1, if_neg c_2], rfl⟩
def s_X8_isOpenBehind (a0 a1 : Int32) : Int32 := if a0 = 46 then 1 else if a1 = 0 then 0 else if (s_X8_isSmall a0) = 0 then 1 else 0
set_option maxRecDepth 100000 in
set_option maxHeartbeats 4000000 in
theorem c_X8_isOpenBehind {d b0 : Nat} {G : GH} (a0 a1 : Int32) : CTd mX8_isOpenBehind (d + 1) b0 G [.int a0, .int a1] 0 0 (some (.int (s_X8_isOpenBehind a0 a1))) G := by
  refine CT.intro (by decide +kernel) rfl (Nat.le_of_ble_eq_true rfl) ?_
  show WP mX8_isOpenBehind _ _ _ _ _ 0 0 0 [(0, .int a0), (1, .int a1)] []
  refine r_iload_n dX8_isOpenBehind_0 rfl 0 rfl ?_
  refine r_bipush (v := 46) dX8_isOpenBehind_1 (by decide) ?_
  refine r_icmp_eq 17 dX8_isOpenBehind_3 (by decide) (fun c_1 => ?_) (fun c_1 => ?_)
  · refine r_iconst (v := 1) dX8_isOpenBehind_17 (by decide) ?_
    refine r_goto 22 dX8_isOpenBehind_18 (by decide) ?_
    refine r_ret .boolean dX8_isOpenBehind_22 rfl rfl ?_
    exact ⟨by unfold s_X8_isOpenBehind; rw [if_pos c_1], rfl⟩
  · refine r_iload_n dX8_isOpenBehind_6 rfl 1 rfl ?_
    refine r_if_eq 21 dX8_isOpenBehind_7 (by decide) (fun c_2 => ?_) (fun c_2 => ?_)
    · refine r_iconst (v := 0) dX8_isOpenBehind_21 (by decide) ?_
      refine r_ret .boolean dX8_isOpenBehind_22 rfl rfl ?_
      exact ⟨by unfold s_X8_isOpenBehind; rw [if_neg c_1, if_pos c_2], rfl⟩
    · refine r_iload_n dX8_isOpenBehind_10 rfl 0 rfl ?_
      refine r_callS (st := []) [.int a0] 0 0 dX8_isOpenBehind_11 kX8_isSmall nX8_isSmall lRX8_282 (c_X8_isSmall a0) rfl rfl (by decide) (Nat.le_refl _) (Nat.le_refl _) (fun _ _ h => h.elim) ?_
      refine cx_det (st2 := [.int (s_X8_isSmall a0)]) rfl ?_
      refine r_if_ne 21 dX8_isOpenBehind_14 (by decide) (fun c_3 => ?_) (fun c_3 => ?_)
      · refine r_iconst (v := 0) dX8_isOpenBehind_21 (by decide) ?_
        refine r_ret .boolean dX8_isOpenBehind_22 rfl rfl ?_
        exact ⟨by unfold s_X8_isOpenBehind; rw [if_neg c_1, if_neg c_2, if_neg c_3], rfl⟩
      · refine r_iconst (v := 1) dX8_isOpenBehind_17 (by decide) ?_
        refine r_goto 22 dX8_isOpenBehind_18 (by decide) ?_
        refine r_ret .boolean dX8_isOpenBehind_22 rfl rfl ?_
        exact ⟨by unfold s_X8_isOpenBehind; rw [if_neg c_1, if_neg c_2, if_pos c_3], rfl⟩
theorem nb_X8_isOpenBehind {a0 a1 : Int32} : isZ (s_X8_isOpenBehind a0 a1) := by
  unfold s_X8_isOpenBehind
  repeat' (first | refine isZ_ite ?_ ?_ | exact isZ_0 | exact isZ_1)
def s_X8_capital (a0 : Int32) : Int32 := if (s_X8_isSmall a0) = 0 then a0 else (((a0 - 97) + 65).toUInt32 % 65536).toInt32
set_option maxRecDepth 100000 in
set_option maxHeartbeats 4000000 in
theorem c_X8_capital {d b0 : Nat} {G : GH} (a0 : Int32) (ha0 : isC a0) : CTd mX8_capital (d + 1) b0 G [.int a0] 0 0 (some (.int (s_X8_capital a0))) G := by
  refine CT.intro (by decide +kernel) rfl (Nat.le_of_ble_eq_true rfl) ?_
  show WP mX8_capital _ _ _ _ _ 0 0 0 [(0, .int a0)] []
  refine r_iload_n dX8_capital_0 rfl 0 rfl ?_
  refine r_callS (st := []) [.int a0] 0 0 dX8_capital_1 kX8_isSmall nX8_isSmall lRX8_282 (c_X8_isSmall a0) rfl rfl (by decide) (Nat.le_refl _) (Nat.le_refl _) (fun _ _ h => h.elim) ?_
  refine cx_det (st2 := [.int (s_X8_isSmall a0)]) rfl ?_
  refine r_if_eq 18 dX8_capital_4 (by decide) (fun c_1 => ?_) (fun c_1 => ?_)
  · refine r_iload_n dX8_capital_18 rfl 0 rfl ?_
    refine r_ret .char dX8_capital_19 rfl ha0 ?_
    exact ⟨by unfold s_X8_capital; rw [if_pos c_1], rfl⟩
  · refine r_iload_n dX8_capital_7 rfl 0 rfl ?_
    refine r_bipush (v := 97) dX8_capital_8 (by decide) ?_
    refine r_isub dX8_capital_10 ?_
    refine r_bipush (v := 65) dX8_capital_11 (by decide) ?_
    refine r_iadd dX8_capital_13 ?_
    refine r_i2c dX8_capital_14 rfl ?_
    refine r_goto 19 dX8_capital_15 (by decide) ?_
    refine r_ret .char dX8_capital_19 rfl (pk_nc _) ?_
    exact ⟨by unfold s_X8_capital; rw [if_neg c_1], rfl⟩
theorem nb_X8_capital {a0 : Int32} (ha0 : isC a0) : isC (s_X8_capital a0) := by
  unfold s_X8_capital
  repeat' (first | refine isC_ite ?_ ?_ | assumption | exact pk_nc _)
def s_X8_canStand (a0 a1 : Int32) : Int32 := if a1 = 0 then if (s_X8_isSmall a0) = 0 then if a0 = 32 then 1 else if a0 = 46 then 1 else if a0 = 91 then 1 else 0 else 1 else if a1 = 1 then if (s_X8_slotOf a0) = (-1) then 0 else 1 else if a1 = 2 then if (s_X8_caseOf a0) = (-1) then 0 else 1 else if a1 = 3 then if (s_X8_numberOf a0) = (-1) then 0 else 1 else if a0 = 93 then 1 else 0
set_option maxRecDepth 100000 in
set_option maxHeartbeats 4000000 in
theorem c_X8_canStand {d b0 : Nat} {G : GH} (a0 a1 : Int32) : CTd mX8_canStand (d + 1) b0 G [.int a0, .int a1] 0 0 (some (.int (s_X8_canStand a0 a1))) G := by
  refine CT.intro (by decide +kernel) rfl (Nat.le_of_ble_eq_true rfl) ?_
  show WP mX8_canStand _ _ _ _ _ 0 0 0 [(0, .int a0), (1, .int a1)] []
  refine r_iload_n dX8_canStand_0 rfl 1 rfl ?_
  by_cases c_1 : a1 = 0
  · refine r_tin 32 dX8_canStand_1 (by rw [c_1]; decide) (by rw [c_1]; decide) (by rw [c_1]; rfl) (by decide) ?_
    refine r_iload_n dX8_canStand_32 rfl 0 rfl ?_
    refine r_callS (st := []) [.int a0] 0 0 dX8_canStand_33 kX8_isSmall nX8_isSmall lRX8_282 (c_X8_isSmall a0) rfl rfl (by decide) (Nat.le_refl _) (Nat.le_refl _) (fun _ _ h => h.elim) ?_
    refine cx_det (st2 := [.int (s_X8_isSmall a0)]) rfl ?_
    refine r_if_ne 57 dX8_canStand_36 (by decide) (fun c_2 => ?_) (fun c_2 => ?_)
    · refine r_iconst (v := 1) dX8_canStand_57 (by decide) ?_
      refine r_goto 62 dX8_canStand_58 (by decide) ?_
      refine r_ret .boolean dX8_canStand_62 rfl rfl ?_
      exact ⟨by unfold s_X8_canStand; rw [if_pos c_1, if_neg c_2], rfl⟩
    · refine r_iload_n dX8_canStand_39 rfl 0 rfl ?_
      refine r_bipush (v := 32) dX8_canStand_40 (by decide) ?_
      refine r_icmp_eq 57 dX8_canStand_42 (by decide) (fun c_3 => ?_) (fun c_3 => ?_)
      · refine r_iconst (v := 1) dX8_canStand_57 (by decide) ?_
        refine r_goto 62 dX8_canStand_58 (by decide) ?_
        refine r_ret .boolean dX8_canStand_62 rfl rfl ?_
        exact ⟨by unfold s_X8_canStand; rw [if_pos c_1, if_pos c_2, if_pos c_3], rfl⟩
      · refine r_iload_n dX8_canStand_45 rfl 0 rfl ?_
        refine r_bipush (v := 46) dX8_canStand_46 (by decide) ?_
        refine r_icmp_eq 57 dX8_canStand_48 (by decide) (fun c_4 => ?_) (fun c_4 => ?_)
        · refine r_iconst (v := 1) dX8_canStand_57 (by decide) ?_
          refine r_goto 62 dX8_canStand_58 (by decide) ?_
          refine r_ret .boolean dX8_canStand_62 rfl rfl ?_
          exact ⟨by unfold s_X8_canStand; rw [if_pos c_1, if_pos c_2, if_neg c_3, if_pos c_4], rfl⟩
        · refine r_iload_n dX8_canStand_51 rfl 0 rfl ?_
          refine r_bipush (v := 91) dX8_canStand_52 (by decide) ?_
          refine r_icmp_ne 61 dX8_canStand_54 (by decide) (fun c_5 => ?_) (fun c_5 => ?_)
          · refine r_iconst (v := 0) dX8_canStand_61 (by decide) ?_
            refine r_ret .boolean dX8_canStand_62 rfl rfl ?_
            exact ⟨by unfold s_X8_canStand; rw [if_pos c_1, if_pos c_2, if_neg c_3, if_neg c_4, if_neg c_5], rfl⟩
          · refine r_iconst (v := 1) dX8_canStand_57 (by decide) ?_
            refine r_goto 62 dX8_canStand_58 (by decide) ?_
            refine r_ret .boolean dX8_canStand_62 rfl rfl ?_
            exact ⟨by unfold s_X8_canStand; rw [if_pos c_1, if_pos c_2, if_neg c_3, if_neg c_4, if_pos c_5], rfl⟩
  by_cases c_6 : a1 = 1
  · refine r_tin 63 dX8_canStand_1 (by rw [c_6]; decide) (by rw [c_6]; decide) (by rw [c_6]; rfl) (by decide) ?_
    refine r_iload_n dX8_canStand_63 rfl 0 rfl ?_
    refine r_callS (st := []) [.int a0] 0 0 dX8_canStand_64 kX8_slotOf nX8_slotOf lRX8_290 (c_X8_slotOf a0) rfl rfl (by decide) (Nat.le_refl _) (Nat.le_refl _) (fun _ _ h => h.elim) ?_
    refine cx_det (st2 := [.int (s_X8_slotOf a0)]) rfl ?_
    refine r_iconst (v := (-1)) dX8_canStand_67 (by decide) ?_
    refine r_icmp_eq 75 dX8_canStand_68 (by decide) (fun c_7 => ?_) (fun c_7 => ?_)
    · refine r_iconst (v := 0) dX8_canStand_75 (by decide) ?_
      refine r_ret .boolean dX8_canStand_76 rfl rfl ?_
      exact ⟨by unfold s_X8_canStand; rw [if_neg c_1, if_pos c_6, if_pos c_7], rfl⟩
    · refine r_iconst (v := 1) dX8_canStand_71 (by decide) ?_
      refine r_goto 76 dX8_canStand_72 (by decide) ?_
      refine r_ret .boolean dX8_canStand_76 rfl rfl ?_
      exact ⟨by unfold s_X8_canStand; rw [if_neg c_1, if_pos c_6, if_neg c_7], rfl⟩
  by_cases c_8 : a1 = 2
  · refine r_tin 77 dX8_canStand_1 (by rw [c_8]; decide) (by rw [c_8]; decide) (by rw [c_8]; rfl) (by decide) ?_
    refine r_iload_n dX8_canStand_77 rfl 0 rfl ?_
    refine r_callS (st := []) [.int a0] 0 0 dX8_canStand_78 kX8_caseOf nX8_caseOf lRX8_294 (c_X8_caseOf a0) rfl rfl (by decide) (Nat.le_refl _) (Nat.le_refl _) (fun _ _ h => h.elim) ?_
    refine cx_det (st2 := [.int (s_X8_caseOf a0)]) rfl ?_
    refine r_iconst (v := (-1)) dX8_canStand_81 (by decide) ?_
    refine r_icmp_eq 89 dX8_canStand_82 (by decide) (fun c_9 => ?_) (fun c_9 => ?_)
    · refine r_iconst (v := 0) dX8_canStand_89 (by decide) ?_
      refine r_ret .boolean dX8_canStand_90 rfl rfl ?_
      exact ⟨by unfold s_X8_canStand; rw [if_neg c_1, if_neg c_6, if_pos c_8, if_pos c_9], rfl⟩
    · refine r_iconst (v := 1) dX8_canStand_85 (by decide) ?_
      refine r_goto 90 dX8_canStand_86 (by decide) ?_
      refine r_ret .boolean dX8_canStand_90 rfl rfl ?_
      exact ⟨by unfold s_X8_canStand; rw [if_neg c_1, if_neg c_6, if_pos c_8, if_neg c_9], rfl⟩
  by_cases c_10 : a1 = 3
  · refine r_tin 91 dX8_canStand_1 (by rw [c_10]; decide) (by rw [c_10]; decide) (by rw [c_10]; rfl) (by decide) ?_
    refine r_iload_n dX8_canStand_91 rfl 0 rfl ?_
    refine r_callS (st := []) [.int a0] 0 0 dX8_canStand_92 kX8_numberOf nX8_numberOf lRX8_297 (c_X8_numberOf a0) rfl rfl (by decide) (Nat.le_refl _) (Nat.le_refl _) (fun _ _ h => h.elim) ?_
    refine cx_det (st2 := [.int (s_X8_numberOf a0)]) rfl ?_
    refine r_iconst (v := (-1)) dX8_canStand_95 (by decide) ?_
    refine r_icmp_eq 103 dX8_canStand_96 (by decide) (fun c_11 => ?_) (fun c_11 => ?_)
    · refine r_iconst (v := 0) dX8_canStand_103 (by decide) ?_
      refine r_ret .boolean dX8_canStand_104 rfl rfl ?_
      exact ⟨by unfold s_X8_canStand; rw [if_neg c_1, if_neg c_6, if_neg c_8, if_pos c_10, if_pos c_11], rfl⟩
    · refine r_iconst (v := 1) dX8_canStand_99 (by decide) ?_
      refine r_goto 104 dX8_canStand_100 (by decide) ?_
      refine r_ret .boolean dX8_canStand_104 rfl rfl ?_
      exact ⟨by unfold s_X8_canStand; rw [if_neg c_1, if_neg c_6, if_neg c_8, if_pos c_10, if_neg c_11], rfl⟩
  refine r_tout 105 dX8_canStand_1 (cx_sw 4 (by decide) (fun k hk => by
    match k, hk with
    | 0, _ => exact c_1
    | 1, _ => exact c_6
    | 2, _ => exact c_8
    | 3, _ => exact c_10
    | k + 4, hk => exact absurd hk (by omega))) (by decide) ?_
  refine r_iload_n dX8_canStand_105 rfl 0 rfl ?_
  refine r_bipush (v := 93) dX8_canStand_106 (by decide) ?_
  refine r_icmp_ne 115 dX8_canStand_108 (by decide) (fun c_12 => ?_) (fun c_12 => ?_)
  · refine r_iconst (v := 0) dX8_canStand_115 (by decide) ?_
    refine r_ret .boolean dX8_canStand_116 rfl rfl ?_
    exact ⟨by unfold s_X8_canStand; rw [if_neg c_1, if_neg c_6, if_neg c_8, if_neg c_10, if_neg c_12], rfl⟩
  · refine r_iconst (v := 1) dX8_canStand_111 (by decide) ?_
    refine r_goto 116 dX8_canStand_112 (by decide) ?_
    refine r_ret .boolean dX8_canStand_116 rfl rfl ?_
    exact ⟨by unfold s_X8_canStand; rw [if_neg c_1, if_neg c_6, if_neg c_8, if_neg c_10, if_pos c_12], rfl⟩
theorem nb_X8_canStand {a0 a1 : Int32} : isZ (s_X8_canStand a0 a1) := by
  unfold s_X8_canStand
  repeat' (first | refine isZ_ite ?_ ?_ | exact isZ_0 | exact isZ_1)
def s_X9_isIn (a0 a1 a2 : Int32) : Int32 := if a0 < a1 then 0 else if a2 < a0 then 0 else 1
set_option maxRecDepth 100000 in
set_option maxHeartbeats 4000000 in
theorem c_X9_isIn {d b0 : Nat} {G : GH} (a0 a1 a2 : Int32) : CTd mX9_isIn d b0 G [.int a0, .int a1, .int a2] 0 0 (some (.int (s_X9_isIn a0 a1 a2))) G := by
  refine CT.intro (by decide +kernel) rfl (Nat.le_of_ble_eq_true rfl) ?_
  show WP mX9_isIn _ _ _ _ _ 0 0 0 [(0, .int a0), (1, .int a1), (2, .int a2)] []
  refine r_iload_n dX9_isIn_0 rfl 0 rfl ?_
  refine r_iload_n dX9_isIn_1 rfl 1 rfl ?_
  refine r_icmp_lt 14 dX9_isIn_2 (by decide) (fun c_1 => ?_) (fun c_1 => ?_)
  · refine r_iconst (v := 0) dX9_isIn_14 (by decide) ?_
    refine r_ret .boolean dX9_isIn_15 rfl rfl ?_
    exact ⟨by unfold s_X9_isIn; rw [if_pos c_1], rfl⟩
  · refine r_iload_n dX9_isIn_5 rfl 0 rfl ?_
    refine r_iload_n dX9_isIn_6 rfl 2 rfl ?_
    refine r_icmp_gt 14 dX9_isIn_7 (by decide) (fun c_2 => ?_) (fun c_2 => ?_)
    · refine r_iconst (v := 0) dX9_isIn_14 (by decide) ?_
      refine r_ret .boolean dX9_isIn_15 rfl rfl ?_
      exact ⟨by unfold s_X9_isIn; rw [if_neg c_1, if_pos c_2], rfl⟩
    · refine r_iconst (v := 1) dX9_isIn_10 (by decide) ?_
      refine r_goto 15 dX9_isIn_11 (by decide) ?_
      refine r_ret .boolean dX9_isIn_15 rfl rfl ?_
      exact ⟨by unfold s_X9_isIn; rw [if_neg c_1, if_neg c_2], rfl⟩
theorem nb_X9_isIn {a0 a1 a2 : Int32} : isZ (s_X9_isIn a0 a1 a2) := by
  unfold s_X9_isIn
  repeat' (first | refine isZ_ite ?_ ?_ | exact isZ_0 | exact isZ_1)
def s_X9_isSmall (a0 : Int32) : Int32 := if a0 < 97 then 0 else if 122 < a0 then 0 else 1
set_option maxRecDepth 100000 in
set_option maxHeartbeats 4000000 in
theorem c_X9_isSmall {d b0 : Nat} {G : GH} (a0 : Int32) : CTd mX9_isSmall d b0 G [.int a0] 0 0 (some (.int (s_X9_isSmall a0))) G := by
  refine CT.intro (by decide +kernel) rfl (Nat.le_of_ble_eq_true rfl) ?_
  show WP mX9_isSmall _ _ _ _ _ 0 0 0 [(0, .int a0)] []
  refine r_iload_n dX9_isSmall_0 rfl 0 rfl ?_
  refine r_bipush (v := 97) dX9_isSmall_1 (by decide) ?_
  refine r_icmp_lt 16 dX9_isSmall_3 (by decide) (fun c_1 => ?_) (fun c_1 => ?_)
  · refine r_iconst (v := 0) dX9_isSmall_16 (by decide) ?_
    refine r_ret .boolean dX9_isSmall_17 rfl rfl ?_
    exact ⟨by unfold s_X9_isSmall; rw [if_pos c_1], rfl⟩
  · refine r_iload_n dX9_isSmall_6 rfl 0 rfl ?_
    refine r_bipush (v := 122) dX9_isSmall_7 (by decide) ?_
    refine r_icmp_gt 16 dX9_isSmall_9 (by decide) (fun c_2 => ?_) (fun c_2 => ?_)
    · refine r_iconst (v := 0) dX9_isSmall_16 (by decide) ?_
      refine r_ret .boolean dX9_isSmall_17 rfl rfl ?_
      exact ⟨by unfold s_X9_isSmall; rw [if_neg c_1, if_pos c_2], rfl⟩
    · refine r_iconst (v := 1) dX9_isSmall_12 (by decide) ?_
      refine r_goto 17 dX9_isSmall_13 (by decide) ?_
      refine r_ret .boolean dX9_isSmall_17 rfl rfl ?_
      exact ⟨by unfold s_X9_isSmall; rw [if_neg c_1, if_neg c_2], rfl⟩
theorem nb_X9_isSmall {a0 : Int32} : isZ (s_X9_isSmall a0) := by
  unfold s_X9_isSmall
  repeat' (first | refine isZ_ite ?_ ?_ | exact isZ_0 | exact isZ_1)
def s_X9_isLanguage (a0 : Int32) : Int32 := s_X9_isIn a0 0 2
set_option maxRecDepth 100000 in
set_option maxHeartbeats 4000000 in
theorem c_X9_isLanguage {d b0 : Nat} {G : GH} (a0 : Int32) : CTd mX9_isLanguage (d + 1) b0 G [.int a0] 0 0 (some (.int (s_X9_isLanguage a0))) G := by
  refine CT.intro (by decide +kernel) rfl (Nat.le_of_ble_eq_true rfl) ?_
  show WP mX9_isLanguage _ _ _ _ _ 0 0 0 [(0, .int a0)] []
  refine r_iload_n dX9_isLanguage_0 rfl 0 rfl ?_
  refine r_iconst (v := 0) dX9_isLanguage_1 (by decide) ?_
  refine r_iconst (v := 2) dX9_isLanguage_2 (by decide) ?_
  refine r_callS (st := []) [.int a0, .int 0, .int 2] 0 0 dX9_isLanguage_3 kX9_isIn nX9_isIn lRX9_73 (c_X9_isIn a0 0 2) rfl rfl (by decide) (Nat.le_refl _) (Nat.le_refl _) (fun _ _ h => h.elim) ?_
  refine cx_det (st2 := [.int (s_X9_isIn a0 0 2)]) rfl ?_
  refine r_ret .boolean dX9_isLanguage_6 rfl (nb_X9_isIn) ?_
  exact ⟨by unfold s_X9_isLanguage; rfl, rfl⟩
theorem nb_X9_isLanguage {a0 : Int32} : isZ (s_X9_isLanguage a0) := by
  unfold s_X9_isLanguage
  repeat' (first | refine isZ_ite ?_ ?_ | exact nb_X9_isIn | exact isZ_0 | exact isZ_1)
def s_X9_isVowel (a0 : Int32) : Int32 := if a0 = 97 then 1 else if a0 = 101 then 1 else if a0 = 105 then 1 else if a0 = 111 then 1 else if a0 = 117 then 1 else 0
set_option maxRecDepth 100000 in
set_option maxHeartbeats 4000000 in
theorem c_X9_isVowel {d b0 : Nat} {G : GH} (a0 : Int32) : CTd mX9_isVowel d b0 G [.int a0] 0 0 (some (.int (s_X9_isVowel a0))) G := by
  refine CT.intro (by decide +kernel) rfl (Nat.le_of_ble_eq_true rfl) ?_
  show WP mX9_isVowel _ _ _ _ _ 0 0 0 [(0, .int a0)] []
  refine r_iload_n dX9_isVowel_0 rfl 0 rfl ?_
  refine r_bipush (v := 97) dX9_isVowel_1 (by decide) ?_
  refine r_icmp_eq 30 dX9_isVowel_3 (by decide) (fun c_1 => ?_) (fun c_1 => ?_)
  · refine r_iconst (v := 1) dX9_isVowel_30 (by decide) ?_
    refine r_goto 35 dX9_isVowel_31 (by decide) ?_
    refine r_ret .boolean dX9_isVowel_35 rfl rfl ?_
    exact ⟨by unfold s_X9_isVowel; rw [if_pos c_1], rfl⟩
  · refine r_iload_n dX9_isVowel_6 rfl 0 rfl ?_
    refine r_bipush (v := 101) dX9_isVowel_7 (by decide) ?_
    refine r_icmp_eq 30 dX9_isVowel_9 (by decide) (fun c_2 => ?_) (fun c_2 => ?_)
    · refine r_iconst (v := 1) dX9_isVowel_30 (by decide) ?_
      refine r_goto 35 dX9_isVowel_31 (by decide) ?_
      refine r_ret .boolean dX9_isVowel_35 rfl rfl ?_
      exact ⟨by unfold s_X9_isVowel; rw [if_neg c_1, if_pos c_2], rfl⟩
    · refine r_iload_n dX9_isVowel_12 rfl 0 rfl ?_
      refine r_bipush (v := 105) dX9_isVowel_13 (by decide) ?_
      refine r_icmp_eq 30 dX9_isVowel_15 (by decide) (fun c_3 => ?_) (fun c_3 => ?_)
      · refine r_iconst (v := 1) dX9_isVowel_30 (by decide) ?_
        refine r_goto 35 dX9_isVowel_31 (by decide) ?_
        refine r_ret .boolean dX9_isVowel_35 rfl rfl ?_
        exact ⟨by unfold s_X9_isVowel; rw [if_neg c_1, if_neg c_2, if_pos c_3], rfl⟩
      · refine r_iload_n dX9_isVowel_18 rfl 0 rfl ?_
        refine r_bipush (v := 111) dX9_isVowel_19 (by decide) ?_
        refine r_icmp_eq 30 dX9_isVowel_21 (by decide) (fun c_4 => ?_) (fun c_4 => ?_)
        · refine r_iconst (v := 1) dX9_isVowel_30 (by decide) ?_
          refine r_goto 35 dX9_isVowel_31 (by decide) ?_
          refine r_ret .boolean dX9_isVowel_35 rfl rfl ?_
          exact ⟨by unfold s_X9_isVowel; rw [if_neg c_1, if_neg c_2, if_neg c_3, if_pos c_4], rfl⟩
        · refine r_iload_n dX9_isVowel_24 rfl 0 rfl ?_
          refine r_bipush (v := 117) dX9_isVowel_25 (by decide) ?_
          refine r_icmp_ne 34 dX9_isVowel_27 (by decide) (fun c_5 => ?_) (fun c_5 => ?_)
          · refine r_iconst (v := 0) dX9_isVowel_34 (by decide) ?_
            refine r_ret .boolean dX9_isVowel_35 rfl rfl ?_
            exact ⟨by unfold s_X9_isVowel; rw [if_neg c_1, if_neg c_2, if_neg c_3, if_neg c_4, if_neg c_5], rfl⟩
          · refine r_iconst (v := 1) dX9_isVowel_30 (by decide) ?_
            refine r_goto 35 dX9_isVowel_31 (by decide) ?_
            refine r_ret .boolean dX9_isVowel_35 rfl rfl ?_
            exact ⟨by unfold s_X9_isVowel; rw [if_neg c_1, if_neg c_2, if_neg c_3, if_neg c_4, if_pos c_5], rfl⟩
theorem nb_X9_isVowel {a0 : Int32} : isZ (s_X9_isVowel a0) := by
  unfold s_X9_isVowel
  repeat' (first | refine isZ_ite ?_ ?_ | exact isZ_0 | exact isZ_1)
def s_X9_isCase (a0 : Int32) : Int32 := if a0 = 110 then 1 else if a0 = 103 then 1 else if a0 = 100 then 1 else if a0 = 97 then 1 else 0
set_option maxRecDepth 100000 in
set_option maxHeartbeats 4000000 in
theorem c_X9_isCase {d b0 : Nat} {G : GH} (a0 : Int32) : CTd mX9_isCase d b0 G [.int a0] 0 0 (some (.int (s_X9_isCase a0))) G := by
  refine CT.intro (by decide +kernel) rfl (Nat.le_of_ble_eq_true rfl) ?_
  show WP mX9_isCase _ _ _ _ _ 0 0 0 [(0, .int a0)] []
  refine r_iload_n dX9_isCase_0 rfl 0 rfl ?_
  refine r_bipush (v := 110) dX9_isCase_1 (by decide) ?_
  refine r_icmp_eq 24 dX9_isCase_3 (by decide) (fun c_1 => ?_) (fun c_1 => ?_)
  · refine r_iconst (v := 1) dX9_isCase_24 (by decide) ?_
    refine r_goto 29 dX9_isCase_25 (by decide) ?_
    refine r_ret .boolean dX9_isCase_29 rfl rfl ?_
    exact ⟨by unfold s_X9_isCase; rw [if_pos c_1], rfl⟩
  · refine r_iload_n dX9_isCase_6 rfl 0 rfl ?_
    refine r_bipush (v := 103) dX9_isCase_7 (by decide) ?_
    refine r_icmp_eq 24 dX9_isCase_9 (by decide) (fun c_2 => ?_) (fun c_2 => ?_)
    · refine r_iconst (v := 1) dX9_isCase_24 (by decide) ?_
      refine r_goto 29 dX9_isCase_25 (by decide) ?_
      refine r_ret .boolean dX9_isCase_29 rfl rfl ?_
      exact ⟨by unfold s_X9_isCase; rw [if_neg c_1, if_pos c_2], rfl⟩
    · refine r_iload_n dX9_isCase_12 rfl 0 rfl ?_
      refine r_bipush (v := 100) dX9_isCase_13 (by decide) ?_
      refine r_icmp_eq 24 dX9_isCase_15 (by decide) (fun c_3 => ?_) (fun c_3 => ?_)
      · refine r_iconst (v := 1) dX9_isCase_24 (by decide) ?_
        refine r_goto 29 dX9_isCase_25 (by decide) ?_
        refine r_ret .boolean dX9_isCase_29 rfl rfl ?_
        exact ⟨by unfold s_X9_isCase; rw [if_neg c_1, if_neg c_2, if_pos c_3], rfl⟩
      · refine r_iload_n dX9_isCase_18 rfl 0 rfl ?_
        refine r_bipush (v := 97) dX9_isCase_19 (by decide) ?_
        refine r_icmp_ne 28 dX9_isCase_21 (by decide) (fun c_4 => ?_) (fun c_4 => ?_)
        · refine r_iconst (v := 0) dX9_isCase_28 (by decide) ?_
          refine r_ret .boolean dX9_isCase_29 rfl rfl ?_
          exact ⟨by unfold s_X9_isCase; rw [if_neg c_1, if_neg c_2, if_neg c_3, if_neg c_4], rfl⟩
        · refine r_iconst (v := 1) dX9_isCase_24 (by decide) ?_
          refine r_goto 29 dX9_isCase_25 (by decide) ?_
          refine r_ret .boolean dX9_isCase_29 rfl rfl ?_
          exact ⟨by unfold s_X9_isCase; rw [if_neg c_1, if_neg c_2, if_neg c_3, if_pos c_4], rfl⟩
theorem nb_X9_isCase {a0 : Int32} : isZ (s_X9_isCase a0) := by
  unfold s_X9_isCase
  repeat' (first | refine isZ_ite ?_ ?_ | exact isZ_0 | exact isZ_1)
def s_X9_at (a0 a1 : Int32) : Int32 := (3 * a0) + a1
set_option maxRecDepth 100000 in
set_option maxHeartbeats 4000000 in
theorem c_X9_at {d b0 : Nat} {G : GH} (a0 a1 : Int32) : CTd mX9_at d b0 G [.int a0, .int a1] 0 0 (some (.int (s_X9_at a0 a1))) G := by
  refine CT.intro (by decide +kernel) rfl (Nat.le_of_ble_eq_true rfl) ?_
  show WP mX9_at _ _ _ _ _ 0 0 0 [(0, .int a0), (1, .int a1)] []
  refine r_iconst (v := 3) dX9_at_0 (by decide) ?_
  refine r_iload_n dX9_at_1 rfl 0 rfl ?_
  refine r_imul dX9_at_2 ?_
  refine r_iload_n dX9_at_3 rfl 1 rfl ?_
  refine r_iadd dX9_at_4 ?_
  refine r_ireti dX9_at_5 rfl ?_
  exact ⟨by unfold s_X9_at; rfl, rfl⟩
def s_X9_grammar (a0 a1 : Int32) : Int32 := if a0 = 110 then if a1 = 112 then (2 * 0) + 1 else (2 * 0) + 0 else if a0 = 103 then if a1 = 112 then (2 * 1) + 1 else (2 * 1) + 0 else if a0 = 100 then if a1 = 112 then (2 * 2) + 1 else (2 * 2) + 0 else if a1 = 112 then (2 * 3) + 1 else (2 * 3) + 0
set_option maxRecDepth 100000 in
set_option maxHeartbeats 4000000 in
theorem c_X9_grammar {d b0 : Nat} {G : GH} (a0 a1 : Int32) : CTd mX9_grammar d b0 G [.int a0, .int a1] 0 0 (some (.int (s_X9_grammar a0 a1))) G := by
  refine CT.intro (by decide +kernel) rfl (Nat.le_of_ble_eq_true rfl) ?_
  show WP mX9_grammar _ _ _ _ _ 0 0 0 [(0, .int a0), (1, .int a1)] []
  refine r_iconst (v := 2) dX9_grammar_0 (by decide) ?_
  refine r_iload_n dX9_grammar_1 rfl 0 rfl ?_
  refine r_bipush (v := 110) dX9_grammar_2 (by decide) ?_
  refine r_icmp_ne 11 dX9_grammar_4 (by decide) (fun c_1 => ?_) (fun c_1 => ?_)
  · refine r_iload_n dX9_grammar_11 rfl 0 rfl ?_
    refine r_bipush (v := 103) dX9_grammar_12 (by decide) ?_
    refine r_icmp_ne 21 dX9_grammar_14 (by decide) (fun c_2 => ?_) (fun c_2 => ?_)
    · refine r_iload_n dX9_grammar_21 rfl 0 rfl ?_
      refine r_bipush (v := 100) dX9_grammar_22 (by decide) ?_
      refine r_icmp_ne 31 dX9_grammar_24 (by decide) (fun c_3 => ?_) (fun c_3 => ?_)
      · refine r_iconst (v := 3) dX9_grammar_31 (by decide) ?_
        refine r_imul dX9_grammar_32 ?_
        refine r_iload_n dX9_grammar_33 rfl 1 rfl ?_
        refine r_bipush (v := 112) dX9_grammar_34 (by decide) ?_
        refine r_icmp_ne 43 dX9_grammar_36 (by decide) (fun c_4 => ?_) (fun c_4 => ?_)
        · refine r_iconst (v := 0) dX9_grammar_43 (by decide) ?_
          refine r_iadd dX9_grammar_44 ?_
          refine r_ireti dX9_grammar_45 rfl ?_
          exact ⟨by unfold s_X9_grammar; rw [if_neg c_1, if_neg c_2, if_neg c_3, if_neg c_4], rfl⟩
        · refine r_iconst (v := 1) dX9_grammar_39 (by decide) ?_
          refine r_goto 44 dX9_grammar_40 (by decide) ?_
          refine r_iadd dX9_grammar_44 ?_
          refine r_ireti dX9_grammar_45 rfl ?_
          exact ⟨by unfold s_X9_grammar; rw [if_neg c_1, if_neg c_2, if_neg c_3, if_pos c_4], rfl⟩
      · refine r_iconst (v := 2) dX9_grammar_27 (by decide) ?_
        refine r_goto 32 dX9_grammar_28 (by decide) ?_
        refine r_imul dX9_grammar_32 ?_
        refine r_iload_n dX9_grammar_33 rfl 1 rfl ?_
        refine r_bipush (v := 112) dX9_grammar_34 (by decide) ?_
        refine r_icmp_ne 43 dX9_grammar_36 (by decide) (fun c_5 => ?_) (fun c_5 => ?_)
        · refine r_iconst (v := 0) dX9_grammar_43 (by decide) ?_
          refine r_iadd dX9_grammar_44 ?_
          refine r_ireti dX9_grammar_45 rfl ?_
          exact ⟨by unfold s_X9_grammar; rw [if_neg c_1, if_neg c_2, if_pos c_3, if_neg c_5], rfl⟩
        · refine r_iconst (v := 1) dX9_grammar_39 (by decide) ?_
          refine r_goto 44 dX9_grammar_40 (by decide) ?_
          refine r_iadd dX9_grammar_44 ?_
          refine r_ireti dX9_grammar_45 rfl ?_
          exact ⟨by unfold s_X9_grammar; rw [if_neg c_1, if_neg c_2, if_pos c_3, if_pos c_5], rfl⟩
    · refine r_iconst (v := 1) dX9_grammar_17 (by decide) ?_
      refine r_goto 32 dX9_grammar_18 (by decide) ?_
      refine r_imul dX9_grammar_32 ?_
      refine r_iload_n dX9_grammar_33 rfl 1 rfl ?_
      refine r_bipush (v := 112) dX9_grammar_34 (by decide) ?_
      refine r_icmp_ne 43 dX9_grammar_36 (by decide) (fun c_6 => ?_) (fun c_6 => ?_)
      · refine r_iconst (v := 0) dX9_grammar_43 (by decide) ?_
        refine r_iadd dX9_grammar_44 ?_
        refine r_ireti dX9_grammar_45 rfl ?_
        exact ⟨by unfold s_X9_grammar; rw [if_neg c_1, if_pos c_2, if_neg c_6], rfl⟩
      · refine r_iconst (v := 1) dX9_grammar_39 (by decide) ?_
        refine r_goto 44 dX9_grammar_40 (by decide) ?_
        refine r_iadd dX9_grammar_44 ?_
        refine r_ireti dX9_grammar_45 rfl ?_
        exact ⟨by unfold s_X9_grammar; rw [if_neg c_1, if_pos c_2, if_pos c_6], rfl⟩
  · refine r_iconst (v := 0) dX9_grammar_7 (by decide) ?_
    refine r_goto 32 dX9_grammar_8 (by decide) ?_
    refine r_imul dX9_grammar_32 ?_
    refine r_iload_n dX9_grammar_33 rfl 1 rfl ?_
    refine r_bipush (v := 112) dX9_grammar_34 (by decide) ?_
    refine r_icmp_ne 43 dX9_grammar_36 (by decide) (fun c_7 => ?_) (fun c_7 => ?_)
    · refine r_iconst (v := 0) dX9_grammar_43 (by decide) ?_
      refine r_iadd dX9_grammar_44 ?_
      refine r_ireti dX9_grammar_45 rfl ?_
      exact ⟨by unfold s_X9_grammar; rw [if_pos c_1, if_neg c_7], rfl⟩
    · refine r_iconst (v := 1) dX9_grammar_39 (by decide) ?_
      refine r_goto 44 dX9_grammar_40 (by decide) ?_
      refine r_iadd dX9_grammar_44 ?_
      refine r_ireti dX9_grammar_45 rfl ?_
      exact ⟨by unfold s_X9_grammar; rw [if_pos c_1, if_pos c_7], rfl⟩
def s_X9_behind (a0 a1 : Int32) : Int32 := if a0 = 0 then if (s_X9_isSmall a1) = 0 then if a1 = 32 then if a1 = 91 then 1 else 0 else if a1 = 46 then if a1 = 91 then 1 else 0 else if a1 = 91 then 1 else (-1) else if a1 = 91 then 1 else 0 else if a0 = 1 then if a1 < 48 then (-1) else if 53 ≤ a1 then (-1) else (a0 + 1) - (a0 + 1) / 5 * 5 else if a0 = 2 then if (s_X9_isCase a1) = 0 then (-1) else (a0 + 1) - (a0 + 1) / 5 * 5 else if a0 = 3 then if a1 = 115 then (a0 + 1) - (a0 + 1) / 5 * 5 else if a1 = 112 then (a0 + 1) - (a0 + 1) / 5 * 5 else (-1) else if a1 = 93 then (a0 + 1) - (a0 + 1) / 5 * 5 else (-1)
set_option maxRecDepth 100000 in
set_option maxHeartbeats 4000000 in
theorem c_X9_behind {d b0 : Nat} {G : GH} (a0 a1 : Int32) : CTd mX9_behind (d + 1) b0 G [.int a0, .int a1] 0 0 (some (.int (s_X9_behind a0 a1))) G := by
  refine CT.intro (by decide +kernel) rfl (Nat.le_of_ble_eq_true rfl) ?_
  show WP mX9_behind _ _ _ _ _ 0 0 0 [(0, .int a0), (1, .int a1)] []
  refine r_iload_n dX9_behind_0 rfl 0 rfl ?_
  refine r_if_ne 37 dX9_behind_1 (by decide) (fun c_1 => ?_) (fun c_1 => ?_)
  · refine r_iload_n dX9_behind_37 rfl 0 rfl ?_
    refine r_iconst (v := 1) dX9_behind_38 (by decide) ?_
    refine r_icmp_ne 62 dX9_behind_39 (by decide) (fun c_2 => ?_) (fun c_2 => ?_)
    · refine r_iload_n dX9_behind_62 rfl 0 rfl ?_
      refine r_iconst (v := 2) dX9_behind_63 (by decide) ?_
      refine r_icmp_ne 74 dX9_behind_64 (by decide) (fun c_3 => ?_) (fun c_3 => ?_)
      · refine r_iload_n dX9_behind_74 rfl 0 rfl ?_
        refine r_iconst (v := 3) dX9_behind_75 (by decide) ?_
        refine r_icmp_ne 99 dX9_behind_76 (by decide) (fun c_4 => ?_) (fun c_4 => ?_)
        · refine r_iload_n dX9_behind_99 rfl 1 rfl ?_
          refine r_bipush (v := 93) dX9_behind_100 (by decide) ?_
          refine r_icmp_ne 109 dX9_behind_102 (by decide) (fun c_5 => ?_) (fun c_5 => ?_)
          · refine r_iconst (v := 0) dX9_behind_109 (by decide) ?_
            refine r_istore_n [(2, .int 0), (0, .int a0), (1, .int a1)] dX9_behind_110 rfl (by decide) rfl ?_
            refine r_iload_n dX9_behind_111 rfl 0 rfl ?_
            refine r_if_ne 119 dX9_behind_112 (by decide) (fun c_6 => absurd (by decide) c_6) (fun c_6 => ?_)
            refine r_iconst (v := (-1)) dX9_behind_115 (by decide) ?_
            refine r_goto 142 dX9_behind_116 (by decide) ?_
            refine r_ireti dX9_behind_142 rfl ?_
            exact ⟨by unfold s_X9_behind; rw [if_neg c_1, if_neg c_2, if_neg c_3, if_neg c_4, if_neg c_5], rfl⟩
          · refine r_iconst (v := 1) dX9_behind_105 (by decide) ?_
            refine r_goto 110 dX9_behind_106 (by decide) ?_
            refine r_istore_n [(2, .int 1), (0, .int a0), (1, .int a1)] dX9_behind_110 rfl (by decide) rfl ?_
            refine r_iload_n dX9_behind_111 rfl 0 rfl ?_
            refine r_if_ne 119 dX9_behind_112 (by decide) (fun c_7 => ?_) (fun c_7 => absurd c_7 (by decide))
            refine r_iload_n dX9_behind_119 rfl 1 rfl ?_
            refine r_if_ne 137 dX9_behind_120 (by decide) (fun c_8 => ?_) (fun c_8 => absurd c_8 c_1)
            refine r_iload_n dX9_behind_137 rfl 1 rfl ?_
            refine r_iconst (v := 1) dX9_behind_138 (by decide) ?_
            refine r_iadd dX9_behind_139 ?_
            refine r_iconst (v := 5) dX9_behind_140 (by decide) ?_
            refine r_irem dX9_behind_141 (by decide) ?_
            refine r_ireti dX9_behind_142 rfl ?_
            exact ⟨by unfold s_X9_behind; rw [if_neg c_1, if_neg c_2, if_neg c_3, if_neg c_4, if_pos c_5], rfl⟩
        · refine r_iload_n dX9_behind_79 rfl 1 rfl ?_
          refine r_bipush (v := 115) dX9_behind_80 (by decide) ?_
          refine r_icmp_eq 91 dX9_behind_82 (by decide) (fun c_9 => ?_) (fun c_9 => ?_)
          · refine r_iconst (v := 1) dX9_behind_91 (by decide) ?_
            refine r_goto 110 dX9_behind_92 (by decide) ?_
            refine r_istore_n [(2, .int 1), (0, .int a0), (1, .int a1)] dX9_behind_110 rfl (by decide) rfl ?_
            refine r_iload_n dX9_behind_111 rfl 0 rfl ?_
            refine r_if_ne 119 dX9_behind_112 (by decide) (fun c_10 => ?_) (fun c_10 => absurd c_10 (by decide))
            refine r_iload_n dX9_behind_119 rfl 1 rfl ?_
            refine r_if_ne 137 dX9_behind_120 (by decide) (fun c_11 => ?_) (fun c_11 => absurd c_11 c_1)
            refine r_iload_n dX9_behind_137 rfl 1 rfl ?_
            refine r_iconst (v := 1) dX9_behind_138 (by decide) ?_
            refine r_iadd dX9_behind_139 ?_
            refine r_iconst (v := 5) dX9_behind_140 (by decide) ?_
            refine r_irem dX9_behind_141 (by decide) ?_
            refine r_ireti dX9_behind_142 rfl ?_
            exact ⟨by unfold s_X9_behind; rw [if_neg c_1, if_neg c_2, if_neg c_3, if_pos c_4, if_pos c_9], rfl⟩
          · refine r_iload_n dX9_behind_85 rfl 1 rfl ?_
            refine r_bipush (v := 112) dX9_behind_86 (by decide) ?_
            refine r_icmp_ne 95 dX9_behind_88 (by decide) (fun c_12 => ?_) (fun c_12 => ?_)
            · refine r_iconst (v := 0) dX9_behind_95 (by decide) ?_
              refine r_goto 110 dX9_behind_96 (by decide) ?_
              refine r_istore_n [(2, .int 0), (0, .int a0), (1, .int a1)] dX9_behind_110 rfl (by decide) rfl ?_
              refine r_iload_n dX9_behind_111 rfl 0 rfl ?_
              refine r_if_ne 119 dX9_behind_112 (by decide) (fun c_13 => absurd (by decide) c_13) (fun c_13 => ?_)
              refine r_iconst (v := (-1)) dX9_behind_115 (by decide) ?_
              refine r_goto 142 dX9_behind_116 (by decide) ?_
              refine r_ireti dX9_behind_142 rfl ?_
              exact ⟨by unfold s_X9_behind; rw [if_neg c_1, if_neg c_2, if_neg c_3, if_pos c_4, if_neg c_9, if_neg c_12], rfl⟩
            · refine r_iconst (v := 1) dX9_behind_91 (by decide) ?_
              refine r_goto 110 dX9_behind_92 (by decide) ?_
              refine r_istore_n [(2, .int 1), (0, .int a0), (1, .int a1)] dX9_behind_110 rfl (by decide) rfl ?_
              refine r_iload_n dX9_behind_111 rfl 0 rfl ?_
              refine r_if_ne 119 dX9_behind_112 (by decide) (fun c_14 => ?_) (fun c_14 => absurd c_14 (by decide))
              refine r_iload_n dX9_behind_119 rfl 1 rfl ?_
              refine r_if_ne 137 dX9_behind_120 (by decide) (fun c_15 => ?_) (fun c_15 => absurd c_15 c_1)
              refine r_iload_n dX9_behind_137 rfl 1 rfl ?_
              refine r_iconst (v := 1) dX9_behind_138 (by decide) ?_
              refine r_iadd dX9_behind_139 ?_
              refine r_iconst (v := 5) dX9_behind_140 (by decide) ?_
              refine r_irem dX9_behind_141 (by decide) ?_
              refine r_ireti dX9_behind_142 rfl ?_
              exact ⟨by unfold s_X9_behind; rw [if_neg c_1, if_neg c_2, if_neg c_3, if_pos c_4, if_neg c_9, if_pos c_12], rfl⟩
      · refine r_iload_n dX9_behind_67 rfl 1 rfl ?_
        refine r_callS (st := []) [.int a1] 0 0 dX9_behind_68 kX9_isCase nX9_isCase lRX9_114 (c_X9_isCase a1) rfl rfl (by decide) (Nat.le_refl _) (Nat.le_refl _) (fun _ _ h => h.elim) ?_
        refine cx_det (st2 := [.int (s_X9_isCase a1)]) rfl ?_
        refine r_goto 110 dX9_behind_71 (by decide) ?_
        refine r_istore_n [(2, .int (s_X9_isCase a1)), (0, .int a0), (1, .int a1)] dX9_behind_110 rfl (by decide) rfl ?_
        refine r_iload_n dX9_behind_111 rfl 0 rfl ?_
        refine r_if_ne 119 dX9_behind_112 (by decide) (fun c_17 => ?_) (fun c_17 => ?_)
        · refine r_iload_n dX9_behind_119 rfl 1 rfl ?_
          refine r_if_ne 137 dX9_behind_120 (by decide) (fun c_18 => ?_) (fun c_18 => absurd c_18 c_1)
          refine r_iload_n dX9_behind_137 rfl 1 rfl ?_
          refine r_iconst (v := 1) dX9_behind_138 (by decide) ?_
          refine r_iadd dX9_behind_139 ?_
          refine r_iconst (v := 5) dX9_behind_140 (by decide) ?_
          refine r_irem dX9_behind_141 (by decide) ?_
          refine r_ireti dX9_behind_142 rfl ?_
          exact ⟨by unfold s_X9_behind; rw [if_neg c_1, if_neg c_2, if_pos c_3, if_neg c_17], rfl⟩
        · refine r_iconst (v := (-1)) dX9_behind_115 (by decide) ?_
          refine r_goto 142 dX9_behind_116 (by decide) ?_
          refine r_ireti dX9_behind_142 rfl ?_
          exact ⟨by unfold s_X9_behind; rw [if_neg c_1, if_neg c_2, if_pos c_3, if_pos c_17], rfl⟩
    · refine r_iload_n dX9_behind_42 rfl 1 rfl ?_
      refine r_bipush (v := 48) dX9_behind_43 (by decide) ?_
      refine r_icmp_lt 58 dX9_behind_45 (by decide) (fun c_19 => ?_) (fun c_19 => ?_)
      · refine r_iconst (v := 0) dX9_behind_58 (by decide) ?_
        refine r_goto 110 dX9_behind_59 (by decide) ?_
        refine r_istore_n [(2, .int 0), (0, .int a0), (1, .int a1)] dX9_behind_110 rfl (by decide) rfl ?_
        refine r_iload_n dX9_behind_111 rfl 0 rfl ?_
        refine r_if_ne 119 dX9_behind_112 (by decide) (fun c_20 => absurd (by decide) c_20) (fun c_20 => ?_)
        refine r_iconst (v := (-1)) dX9_behind_115 (by decide) ?_
        refine r_goto 142 dX9_behind_116 (by decide) ?_
        refine r_ireti dX9_behind_142 rfl ?_
        exact ⟨by unfold s_X9_behind; rw [if_neg c_1, if_pos c_2, if_pos c_19], rfl⟩
      · refine r_iload_n dX9_behind_48 rfl 1 rfl ?_
        refine r_bipush (v := 53) dX9_behind_49 (by decide) ?_
        refine r_icmp_ge 58 dX9_behind_51 (by decide) (fun c_21 => ?_) (fun c_21 => ?_)
        · refine r_iconst (v := 0) dX9_behind_58 (by decide) ?_
          refine r_goto 110 dX9_behind_59 (by decide) ?_
          refine r_istore_n [(2, .int 0), (0, .int a0), (1, .int a1)] dX9_behind_110 rfl (by decide) rfl ?_
          refine r_iload_n dX9_behind_111 rfl 0 rfl ?_
          refine r_if_ne 119 dX9_behind_112 (by decide) (fun c_22 => absurd (by decide) c_22) (fun c_22 => ?_)
          refine r_iconst (v := (-1)) dX9_behind_115 (by decide) ?_
          refine r_goto 142 dX9_behind_116 (by decide) ?_
          refine r_ireti dX9_behind_142 rfl ?_
          exact ⟨by unfold s_X9_behind; rw [if_neg c_1, if_pos c_2, if_neg c_19, if_pos c_21], rfl⟩
        · refine r_iconst (v := 1) dX9_behind_54 (by decide) ?_
          refine r_goto 110 dX9_behind_55 (by decide) ?_
          refine r_istore_n [(2, .int 1), (0, .int a0), (1, .int a1)] dX9_behind_110 rfl (by decide) rfl ?_
          refine r_iload_n dX9_behind_111 rfl 0 rfl ?_
          refine r_if_ne 119 dX9_behind_112 (by decide) (fun c_23 => ?_) (fun c_23 => absurd c_23 (by decide))
          refine r_iload_n dX9_behind_119 rfl 1 rfl ?_
          refine r_if_ne 137 dX9_behind_120 (by decide) (fun c_24 => ?_) (fun c_24 => absurd c_24 c_1)
          refine r_iload_n dX9_behind_137 rfl 1 rfl ?_
          refine r_iconst (v := 1) dX9_behind_138 (by decide) ?_
          refine r_iadd dX9_behind_139 ?_
          refine r_iconst (v := 5) dX9_behind_140 (by decide) ?_
          refine r_irem dX9_behind_141 (by decide) ?_
          refine r_ireti dX9_behind_142 rfl ?_
          exact ⟨by unfold s_X9_behind; rw [if_neg c_1, if_pos c_2, if_neg c_19, if_neg c_21], rfl⟩
  · refine r_iload_n dX9_behind_4 rfl 1 rfl ?_
    refine r_callS (st := []) [.int a1] 0 0 dX9_behind_5 kX9_isSmall nX9_isSmall lRX9_96 (c_X9_isSmall a1) rfl rfl (by decide) (Nat.le_refl _) (Nat.le_refl _) (fun _ _ h => h.elim) ?_
    refine cx_det (st2 := [.int (s_X9_isSmall a1)]) rfl ?_
    refine r_if_ne 29 dX9_behind_8 (by decide) (fun c_25 => ?_) (fun c_25 => ?_)
    · refine r_iconst (v := 1) dX9_behind_29 (by decide) ?_
      refine r_goto 110 dX9_behind_30 (by decide) ?_
      refine r_istore_n [(2, .int 1), (0, .int a0), (1, .int a1)] dX9_behind_110 rfl (by decide) rfl ?_
      refine r_iload_n dX9_behind_111 rfl 0 rfl ?_
      refine r_if_ne 119 dX9_behind_112 (by decide) (fun c_26 => ?_) (fun c_26 => absurd c_26 (by decide))
      refine r_iload_n dX9_behind_119 rfl 1 rfl ?_
      refine r_if_ne 137 dX9_behind_120 (by decide) (fun c_27 => absurd c_1 c_27) (fun c_27 => ?_)
      refine r_iload_n dX9_behind_123 rfl 2 rfl ?_
      refine r_bipush (v := 91) dX9_behind_124 (by decide) ?_
      refine r_icmp_ne 133 dX9_behind_126 (by decide) (fun c_28 => ?_) (fun c_28 => ?_)
      · refine r_iconst (v := 0) dX9_behind_133 (by decide) ?_
        refine r_goto 142 dX9_behind_134 (by decide) ?_
        refine r_ireti dX9_behind_142 rfl ?_
        exact ⟨by unfold s_X9_behind; rw [if_pos c_1, if_neg c_25, if_neg c_28], rfl⟩
      · refine r_iconst (v := 1) dX9_behind_129 (by decide) ?_
        refine r_goto 142 dX9_behind_130 (by decide) ?_
        refine r_ireti dX9_behind_142 rfl ?_
        exact ⟨by unfold s_X9_behind; rw [if_pos c_1, if_neg c_25, if_pos c_28], rfl⟩
    · refine r_iload_n dX9_behind_11 rfl 1 rfl ?_
      refine r_bipush (v := 32) dX9_behind_12 (by decide) ?_
      refine r_icmp_eq 29 dX9_behind_14 (by decide) (fun c_29 => ?_) (fun c_29 => ?_)
      · refine r_iconst (v := 1) dX9_behind_29 (by decide) ?_
        refine r_goto 110 dX9_behind_30 (by decide) ?_
        refine r_istore_n [(2, .int 1), (0, .int a0), (1, .int a1)] dX9_behind_110 rfl (by decide) rfl ?_
        refine r_iload_n dX9_behind_111 rfl 0 rfl ?_
        refine r_if_ne 119 dX9_behind_112 (by decide) (fun c_30 => ?_) (fun c_30 => absurd c_30 (by decide))
        refine r_iload_n dX9_behind_119 rfl 1 rfl ?_
        refine r_if_ne 137 dX9_behind_120 (by decide) (fun c_31 => absurd c_1 c_31) (fun c_31 => ?_)
        refine r_iload_n dX9_behind_123 rfl 2 rfl ?_
        refine r_bipush (v := 91) dX9_behind_124 (by decide) ?_
        refine r_icmp_ne 133 dX9_behind_126 (by decide) (fun c_32 => ?_) (fun c_32 => ?_)
        · refine r_iconst (v := 0) dX9_behind_133 (by decide) ?_
          refine r_goto 142 dX9_behind_134 (by decide) ?_
          refine r_ireti dX9_behind_142 rfl ?_
          exact ⟨by unfold s_X9_behind; rw [if_pos c_1, if_pos c_25, if_pos c_29, if_neg c_32], rfl⟩
        · refine r_iconst (v := 1) dX9_behind_129 (by decide) ?_
          refine r_goto 142 dX9_behind_130 (by decide) ?_
          refine r_ireti dX9_behind_142 rfl ?_
          exact ⟨by unfold s_X9_behind; rw [if_pos c_1, if_pos c_25, if_pos c_29, if_pos c_32], rfl⟩
      · refine r_iload_n dX9_behind_17 rfl 1 rfl ?_
        refine r_bipush (v := 46) dX9_behind_18 (by decide) ?_
        refine r_icmp_eq 29 dX9_behind_20 (by decide) (fun c_33 => ?_) (fun c_33 => ?_)
        · refine r_iconst (v := 1) dX9_behind_29 (by decide) ?_
          refine r_goto 110 dX9_behind_30 (by decide) ?_
          refine r_istore_n [(2, .int 1), (0, .int a0), (1, .int a1)] dX9_behind_110 rfl (by decide) rfl ?_
          refine r_iload_n dX9_behind_111 rfl 0 rfl ?_
          refine r_if_ne 119 dX9_behind_112 (by decide) (fun c_34 => ?_) (fun c_34 => absurd c_34 (by decide))
          refine r_iload_n dX9_behind_119 rfl 1 rfl ?_
          refine r_if_ne 137 dX9_behind_120 (by decide) (fun c_35 => absurd c_1 c_35) (fun c_35 => ?_)
          refine r_iload_n dX9_behind_123 rfl 2 rfl ?_
          refine r_bipush (v := 91) dX9_behind_124 (by decide) ?_
          refine r_icmp_ne 133 dX9_behind_126 (by decide) (fun c_36 => ?_) (fun c_36 => ?_)
          · refine r_iconst (v := 0) dX9_behind_133 (by decide) ?_
            refine r_goto 142 dX9_behind_134 (by decide) ?_
            refine r_ireti dX9_behind_142 rfl ?_
            exact ⟨by unfold s_X9_behind; rw [if_pos c_1, if_pos c_25, if_neg c_29, if_pos c_33, if_neg c_36], rfl⟩
          · refine r_iconst (v := 1) dX9_behind_129 (by decide) ?_
            refine r_goto 142 dX9_behind_130 (by decide) ?_
            refine r_ireti dX9_behind_142 rfl ?_
            exact ⟨by unfold s_X9_behind; rw [if_pos c_1, if_pos c_25, if_neg c_29, if_pos c_33, if_pos c_36], rfl⟩
        · refine r_iload_n dX9_behind_23 rfl 1 rfl ?_
          refine r_bipush (v := 91) dX9_behind_24 (by decide) ?_
          refine r_icmp_ne 33 dX9_behind_26 (by decide) (fun c_37 => ?_) (fun c_37 => ?_)
          · refine r_iconst (v := 0) dX9_behind_33 (by decide) ?_
            refine r_goto 110 dX9_behind_34 (by decide) ?_
            refine r_istore_n [(2, .int 0), (0, .int a0), (1, .int a1)] dX9_behind_110 rfl (by decide) rfl ?_
            refine r_iload_n dX9_behind_111 rfl 0 rfl ?_
            refine r_if_ne 119 dX9_behind_112 (by decide) (fun c_38 => absurd (by decide) c_38) (fun c_38 => ?_)
            refine r_iconst (v := (-1)) dX9_behind_115 (by decide) ?_
            refine r_goto 142 dX9_behind_116 (by decide) ?_
            refine r_ireti dX9_behind_142 rfl ?_
            exact ⟨by unfold s_X9_behind; rw [if_pos c_1, if_pos c_25, if_neg c_29, if_neg c_33, if_neg c_37], rfl⟩
          · refine r_iconst (v := 1) dX9_behind_29 (by decide) ?_
            refine r_goto 110 dX9_behind_30 (by decide) ?_
            refine r_istore_n [(2, .int 1), (0, .int a0), (1, .int a1)] dX9_behind_110 rfl (by decide) rfl ?_
            refine r_iload_n dX9_behind_111 rfl 0 rfl ?_
            refine r_if_ne 119 dX9_behind_112 (by decide) (fun c_39 => ?_) (fun c_39 => absurd c_39 (by decide))
            refine r_iload_n dX9_behind_119 rfl 1 rfl ?_
            refine r_if_ne 137 dX9_behind_120 (by decide) (fun c_40 => absurd c_1 c_40) (fun c_40 => ?_)
            refine r_iload_n dX9_behind_123 rfl 2 rfl ?_
            refine r_bipush (v := 91) dX9_behind_124 (by decide) ?_
            refine r_icmp_ne 133 dX9_behind_126 (by decide) (fun c_41 => absurd c_37 c_41) (fun c_41 => ?_)
            refine r_iconst (v := 1) dX9_behind_129 (by decide) ?_
            refine r_goto 142 dX9_behind_130 (by decide) ?_
            refine r_ireti dX9_behind_142 rfl ?_
            exact ⟨by unfold s_X9_behind; rw [if_pos c_1, if_pos c_25, if_neg c_29, if_neg c_33, if_pos c_37], rfl⟩
end
section
/-! what the small objects are -/
theorem vin {x : Int32} {n : Nat} (h0 : ¬ x < 0) (h1 : ¬ nI n ≤ x) (hn : n < 2 ^ 31) : vp_in x n := by
  obtain ⟨j, hj, hx, -⟩ := pk_mu h0 h1 hn
  rw [hx]
  exact vp_in_nI hj hn
abbrev sgC (arr len : Nat) : LC := .inr (5, [.ref arr, .int (nI len)])
abbrev chA (cap : Nat) (f : Nat → Int32) : LC := .inl (.char, (cap, .inl f))
abbrev inA (cap : Nat) (f : Nat → Int32) : LC := .inl (.int, (cap, .inl f))
/-- a row of signs: its array, its room, how many, which -/
abbrev SG (G : GH) (a arr cap len : Nat) (f : Nat → Int32) : Prop := G a = some (.inr (5, [.ref arr, .int (nI len)])) ∧ G arr = some (.inl (.char, (cap, .inl f))) ∧ len ≤ cap ∧ cap < 2000
theorem SG.ne {G : GH} {a arr cap len : Nat} {f : Nat → Int32} (h : SG G a arr cap len f) : a ≠ arr := cx_ne h.1 h.2.1 (by simp)
theorem SG.keep {G : GH} {a arr cap len : Nat} {f : Nat → Int32} (h : SG G a arr cap len f) {q : Nat} {e : Option LC} (h1 : a ≠ q) (h2 : arr ≠ q) : SG (va_up G q e) a arr cap len f := ⟨up_n h1 h.1, up_n h2 h.2.1, h.2.2⟩
theorem up_twice {G : GH} {a : Nat} {x y : Option LC} : va_up (va_up G a x) a y = va_up G a y := by
  funext q; unfold va_up; by_cases h : q = a
  · rw [if_pos h, if_pos h]
  · rw [if_neg h, if_neg h, if_neg h]
theorem up_swap {G : GH} {a b : Nat} {x y : Option LC} (h : a ≠ b) : va_up (va_up G a x) b y = va_up (va_up G b y) a x := by
  funext q; unfold va_up; by_cases h1 : q = a
  · have h2 : q ≠ b := fun e => h (h1.symm.trans e)
    rw [if_neg h2, if_pos h1, if_pos h1]
  · by_cases h2 : q = b
    · rw [if_pos h2, if_neg h1, if_pos h2]
    · rw [if_neg h2, if_neg h1, if_neg h1, if_neg h2]
theorem up_self {G : GH} {a : Nat} {x : Option LC} (h : G a = x) : va_up G a x = G := by
  funext q; unfold va_up; by_cases h1 : q = a
  · rw [if_pos h1, h1, h]
  · rw [if_neg h1]
theorem up_four {G : GH} {a b : Nat} {x y z w : Option LC} (h : a ≠ b) : va_up (va_up (va_up (va_up G a x) b y) a z) b w = va_up (va_up G a z) b w := by
  rw [up_swap (G := va_up G a x) (Ne.symm h), up_twice, up_twice]
/-- the first n of g, then f -/
def cpy (g f : Nat → Int32) (n : Nat) : Nat → Int32 := fun j => if j < n then g j else f j
theorem cpy_0 (g f : Nat → Int32) : cpy g f 0 = f := by funext j; unfold cpy; rw [if_neg (Nat.not_lt_zero j)]
theorem cpy_s (g f : Nat → Int32) (n : Nat) : upd (cpy g f n) n (g n) = cpy g f (n + 1) := by
  funext j; unfold upd cpy
  by_cases h : j = n
  · rw [if_pos h, if_pos (by omega), h]
  · rw [if_neg h]
    by_cases h2 : j < n
    · rw [if_pos h2, if_pos (by omega)]
    · rw [if_neg h2, if_neg (by omega)]
theorem nI_cl {n : Nat} (h : n < 2 ^ 31) : (nI n).toNatClampNeg = n := nI_clamp h
theorem ni_le {a b : Nat} (ha : a < 2 ^ 31) (hb : b < 2 ^ 31) (h : nI a ≤ nI b) : a ≤ b := (nI_leI ha hb).mp h
theorem ni_nle {a b : Nat} (ha : a < 2 ^ 31) (hb : b < 2 ^ 31) (h : ¬ nI a ≤ nI b) : b < a := Nat.not_le.mp fun q => h ((nI_leI ha hb).mpr q)
theorem ni_lt {a b : Nat} (ha : a < 2 ^ 31) (hb : b < 2 ^ 31) (h : nI a < nI b) : a < b := (nI_ltI ha hb).mp h
theorem ni_nlt {a b : Nat} (ha : a < 2 ^ 31) (hb : b < 2 ^ 31) (h : ¬ nI a < nI b) : b ≤ a := Nat.not_lt.mp fun q => h ((nI_ltI ha hb).mpr q)
theorem ni_eq {a b : Nat} (ha : a < 2 ^ 31) (hb : b < 2 ^ 31) (h : nI a = nI b) : a = b := (nI_eq ha hb).mp h
theorem ni_ne {a b : Nat} (ha : a < 2 ^ 31) (hb : b < 2 ^ 31) (h : ¬ nI a = nI b) : a ≠ b := fun q => h (by rw [q])
def allB (p : Nat → Bool) : Nat → Bool
  | 0 => true
  | n + 1 => allB p n && p n
def cntB (p : Nat → Bool) : Nat → Nat
  | 0 => 0
  | n + 1 => cntB p n + (if p n then 1 else 0)
theorem allB_iff (p : Nat → Bool) : ∀ n, allB p n = true ↔ ∀ k, k < n → p k = true
  | 0 => ⟨fun _ k hk => absurd hk (Nat.not_lt_zero k), fun _ => rfl⟩
  | n + 1 => by
    unfold allB
    rw [Bool.and_eq_true, allB_iff p n]
    refine ⟨fun h k hk => ?_, fun h => ⟨fun k hk => h k (by omega), h n (by omega)⟩⟩
    rcases Nat.lt_or_ge k n with q | q
    · exact h.1 k q
    · rw [show k = n by omega]; exact h.2
theorem allB_no {p : Nat → Bool} {n k : Nat} (hk : k < n) (h : p k = false) : allB p n = false := by
  cases hx : allB p n with
  | false => rfl
  | true => rw [((allB_iff p n).mp hx) k hk] at h; cases h
theorem allB_congr {p q : Nat → Bool} : ∀ {n : Nat}, (∀ k, k < n → p k = q k) → allB p n = allB q n
  | 0, _ => rfl
  | n + 1, h => by unfold allB; rw [allB_congr (fun k hk => h k (by omega)), h n (by omega)]
theorem cntB_le (p : Nat → Bool) : ∀ n, cntB p n ≤ n
  | 0 => Nat.le_refl 0
  | n + 1 => by
    have h := cntB_le p n
    unfold cntB
    split <;> omega
theorem cntB_congr {p q : Nat → Bool} : ∀ {n : Nat}, (∀ k, k < n → p k = q k) → cntB p n = cntB q n
  | 0, _ => rfl
  | n + 1, h => by unfold cntB; rw [cntB_congr (fun k hk => h k (by omega)), h n (by omega)]
def b2i (b : Bool) : Int32 := if b then 1 else 0
theorem b2i_Z {b : Bool} : isZ (b2i b) := by cases b <;> rfl
theorem b2i_t : b2i true = 1 := rfl
theorem b2i_f : b2i false = 0 := rfl
/-- a sign of a row; 0 beyond -/
def chr (f : Nat → Int32) (len k : Nat) : Int32 := if k < len then f k else 0
def smB (x : Int32) : Bool := !(decide (s_X8_isSmall x = 0))
theorem smB_t {x : Int32} (h : ¬ s_X8_isSmall x = 0) : smB x = true := by unfold smB; rw [decide_eq_false h]; rfl
theorem smB_f {x : Int32} (h : s_X8_isSmall x = 0) : smB x = false := by unfold smB; rw [decide_eq_true h]; rfl
theorem nI_up {a b : Nat} {x : Int32} (h : a ≤ b) (hb : b < 2 ^ 31) (q : nI b ≤ x) : nI a ≤ x := by
  have h1 := nI_le h hb
  exact Int32.le_trans h1 q
end
section
set_option maxRecDepth 100000 in
set_option maxHeartbeats 4000000 in
theorem c_X5_init {d b0 : Nat} {G : GH} {a N : Nat} (hN : 0 < N) (hN2 : N < 2000) (h : G a = some (.inr (5, [.null, .int 0]))) : CT mX5_init (d + 1) b0 G [.ref a, .int (nI N)] 1 N (fun r G' => r = none ∧ ∃ q : Nat, G q = none ∧ b0 ≤ q ∧ G' = va_up (va_up G q (some (chA N (fun _ => 0)))) a (some (sgC q 0))) (fun _ _ => False) := by
  refine CT.intro (by decide +kernel) rfl (Nat.le_of_ble_eq_true rfl) ?_
  show WP mX5_init _ _ _ _ _ 1 N 0 [(0, .ref a), (1, .int (nI N))] []
  refine r_aload_n dX5_init_0 rfl 0 rfl ?_
  refine r_obj dX5_init_1 lRX5_1 (by omega) (Nat.le_of_ble_eq_true rfl) ?_
  refine r_aload_n dX5_init_4 rfl 0 rfl ?_
  refine r_iload_n dX5_init_5 rfl 1 rfl ?_
  refine r_if_le 13 dX5_init_6 (by decide) (fun c_1 => absurd c_1 (fun q => nI_nle hN (by omega) q)) (fun c_1 => ?_)
  refine r_iload_n dX5_init_9 rfl 1 rfl ?_
  refine r_goto 14 dX5_init_10 (by decide) ?_
  refine r_newa (.char) N (N, .inl (fun _ => 0)) 0 0 dX5_init_14 ac_char rfl (fun _ _ h => h) (fun _ => rfl) (nI_pos (by omega)) (nI_cl (by omega)) (by show N * 2 ≤ 536870912; omega) (Nat.le_refl _) (by omega) (fun q_2 hq_3 hb_4 => ?_)
  have hG_5 := up_n (e := some (.inl (.char, N, .inl (fun _ => 0)))) (cx_nf h hq_3) h
  have hG_6 : (va_up G q_2 (some (.inl (.char, N, .inl (fun _ => 0))))) q_2 = some (.inl (.char, N, .inl (fun _ => 0))) := up_s
  refine r_heap (G' := (va_up G q_2 (some (.inl (.char, N, .inl (fun _ => 0)))))) rfl ?_
  refine r_putF 0 (.array .char) dX5_init_16 gRX5_7 rfl hG_5 (Nat.le_of_ble_eq_true rfl) rfl rfl ?_
  have hG_7 := up_n (e := some (.inr (5, [.ref q_2, .int 0]))) (cx_ne hG_6 hG_5 (by simp)) hG_6
  have hG_8 : (va_up (va_up G q_2 (some (.inl (.char, N, .inl (fun _ => 0))))) a (some (.inr (5, [.ref q_2, .int 0])))) a = some (.inr (5, [.ref q_2, .int 0])) := up_s
  refine r_heap (G' := (va_up (va_up G q_2 (some (.inl (.char, N, .inl (fun _ => 0))))) a (some (.inr (5, [.ref q_2, .int 0]))))) rfl ?_
  refine r_vret dX5_init_19 rfl ?_
  exact ⟨rfl, q_2, hq_3, hb_4, by first | rfl | (unfold sgC; rw [nI_0])⟩
set_option maxRecDepth 100000 in
set_option maxHeartbeats 4000000 in
theorem c_X5_length {d b0 : Nat} {G : GH} {a arr cap len : Nat} {f : Nat → Int32} (h : SG G a arr cap len f) : CTd mX5_length d b0 G [.ref a] 0 0 (some (.int (nI len))) G := by
  refine CT.intro (by decide +kernel) rfl (Nat.le_of_ble_eq_true rfl) ?_
  show WP mX5_length _ _ _ _ _ 0 0 0 [(0, .ref a)] []
  refine r_aload_n dX5_length_0 rfl 0 rfl ?_
  refine r_get 1 dX5_length_1 fRX5_13 h.1 rfl ?_
  refine r_ireti dX5_length_4 rfl ?_
  exact ⟨rfl, rfl⟩
def s_X5_at (len : Nat) (f : Nat → Int32) (i : Int32) : Int32 := if i < 0 then 0 else if nI len ≤ i then 0 else f i.toNatClampNeg
theorem s_X5_at_nI {len : Nat} {f : Nat → Int32} {k : Nat} (hl : len < 2000) (hk : k < 2 ^ 31) : s_X5_at len f (nI k) = chr f len k := by
  unfold s_X5_at chr
  rw [if_neg (nI_pos hk)]
  by_cases h : k < len
  · rw [if_pos h, if_neg (nI_ge h (by omega)), nI_cl hk]
  · rw [if_neg h, if_pos (nI_le (by omega) hk)]
theorem s_X5_at_lt {len : Nat} {f : Nat → Int32} {k : Nat} (hl : len < 2000) (h : k < len) : s_X5_at len f (nI k) = f k := by
  rw [s_X5_at_nI hl (by omega)]; unfold chr; rw [if_pos h]
theorem s_X5_at_C {len : Nat} {f : Nat → Int32} {i : Int32} (hl : len < 2000) (hf : ∀ k, k < len → isC (f k)) : isC (s_X5_at len f i) := by
  by_cases h0 : i < 0
  · unfold s_X5_at; rw [if_pos h0]; rfl
  · obtain ⟨k, hk, rfl⟩ := nI_of h0
    rw [s_X5_at_nI hl hk]
    unfold chr
    split
    · exact hf k (by assumption)
    · rfl
theorem chr_C {len : Nat} {f : Nat → Int32} {k : Nat} (hf : ∀ k, k < len → isC (f k)) : isC (chr f len k) := by
  unfold chr
  split
  · exact hf k (by assumption)
  · rfl
set_option maxRecDepth 100000 in
set_option maxHeartbeats 4000000 in
theorem c_X5_at {d b0 : Nat} {G : GH} {a arr cap len : Nat} {f : Nat → Int32} (h : SG G a arr cap len f) (hf : ∀ k, k < len → isC (f k)) (i : Int32) : CTd mX5_at d b0 G [.ref a, .int i] 0 0 (some (.int (s_X5_at len f i))) G := by
  have hf2 : ∀ i : Int32, ¬ i < 0 → ¬ nI len ≤ i → isC (f i.toNatClampNeg) := fun i h1 h2 => by
    obtain ⟨j, hj, hx, -⟩ := pk_mu h1 h2 (by omega)
    rw [hx, nI_cl (by omega)]
    exact hf j hj
  refine CT.intro (by decide +kernel) rfl (Nat.le_of_ble_eq_true rfl) ?_
  show WP mX5_at _ _ _ _ _ 0 0 0 [(0, .ref a), (1, .int i)] []
  refine r_iload_n dX5_at_0 rfl 1 rfl ?_
  refine r_if_lt 30 dX5_at_1 (by decide) (fun c_1 => ?_) (fun c_1 => ?_)
  · refine r_iconst (v := 0) dX5_at_30 (by decide) ?_
    refine r_ret .char dX5_at_31 rfl rfl ?_
    exact ⟨by unfold s_X5_at; rw [if_pos c_1], rfl⟩
  · refine r_iload_n dX5_at_4 rfl 1 rfl ?_
    refine r_aload_n dX5_at_5 rfl 0 rfl ?_
    refine r_get 1 dX5_at_6 fRX5_13 h.1 rfl ?_
    refine r_icmp_ge 30 dX5_at_9 (by decide) (fun c_2 => ?_) (fun c_2 => ?_)
    · refine r_iconst (v := 0) dX5_at_30 (by decide) ?_
      refine r_ret .char dX5_at_31 rfl rfl ?_
      exact ⟨by unfold s_X5_at; rw [if_neg c_1, if_pos c_2], rfl⟩
    · refine r_iload_n dX5_at_12 rfl 1 rfl ?_
      refine r_aload_n dX5_at_13 rfl 0 rfl ?_
      refine r_get 0 dX5_at_14 fRX5_7 h.1 rfl ?_
      refine r_alen (v := nI cap) dX5_at_17 h.2.1 rfl ?_
      refine r_icmp_ge 30 dX5_at_18 (by decide) (fun c_3 => absurd c_3 (fun q => c_2 (nI_up h.2.2.1 (by omega) q))) (fun c_3 => ?_)
      refine r_aload_n dX5_at_21 rfl 0 rfl ?_
      refine r_get 0 dX5_at_22 fRX5_7 h.1 rfl ?_
      refine r_iload_n dX5_at_25 rfl 1 rfl ?_
      refine r_cald dX5_at_26 h.2.1 (vin c_1 (fun q => c_2 (nI_up h.2.2.1 (by omega) q)) (by omega)) ?_
      refine r_goto 31 dX5_at_27 (by decide) ?_
      refine r_ret .char dX5_at_31 rfl (hf2 _ c_1 c_2) ?_
      exact ⟨by unfold s_X5_at; rw [if_neg c_1, if_neg c_2], rfl⟩
set_option maxRecDepth 100000 in
set_option maxHeartbeats 4000000 in
theorem c_X5_append_t {d b0 : Nat} {G : GH} {a arr cap len : Nat} {f : Nat → Int32} (h : SG G a arr cap len f) (hlt : len < cap) {x : Int32} (hx : isC x) : CTd mX5_append d b0 G [.ref a, .int x] 0 0 (some (.int 1)) (va_up (va_up G arr (some (chA cap (upd f len x)))) a (some (sgC arr (len + 1)))) := by
  refine CT.intro (by decide +kernel) rfl (Nat.le_of_ble_eq_true rfl) ?_
  show WP mX5_append _ _ _ _ _ 0 0 0 [(0, .ref a), (1, .int x)] []
  refine r_aload_n dX5_append_0 rfl 0 rfl ?_
  refine r_get 1 dX5_append_1 fRX5_13 h.1 rfl ?_
  refine r_if_lt 19 dX5_append_4 (by decide) (fun c_1 => absurd c_1 (nI_pos (by omega))) (fun c_1 => ?_)
  refine r_aload_n dX5_append_7 rfl 0 rfl ?_
  refine r_get 1 dX5_append_8 fRX5_13 h.1 rfl ?_
  refine r_aload_n dX5_append_11 rfl 0 rfl ?_
  refine r_get 0 dX5_append_12 fRX5_7 h.1 rfl ?_
  refine r_alen (v := nI cap) dX5_append_15 h.2.1 rfl ?_
  refine r_icmp_lt 21 dX5_append_16 (by decide) (fun c_2 => ?_) (fun c_2 => absurd (nI_lt hlt (by omega)) c_2)
  refine r_aload_n dX5_append_21 rfl 0 rfl ?_
  refine r_get 0 dX5_append_22 fRX5_7 h.1 rfl ?_
  refine r_aload_n dX5_append_25 rfl 0 rfl ?_
  refine r_get 1 dX5_append_26 fRX5_13 h.1 rfl ?_
  refine r_iload_n dX5_append_29 rfl 1 rfl ?_
  refine r_cast dX5_append_30 h.2.1 (vp_in_nI hlt (by omega)) hx ?_
  have hG_3 := up_n (e := some (.inl (.char, cap, .inl (upd f (nI len).toNatClampNeg x)))) (cx_ne h.1 h.2.1 (by simp)) h.1
  have hG_4 : (va_up G arr (some (.inl (.char, cap, .inl (upd f (nI len).toNatClampNeg x))))) arr = some (.inl (.char, cap, .inl (upd f (nI len).toNatClampNeg x))) := up_s
  refine r_heap (G' := (va_up G arr (some (.inl (.char, cap, .inl (upd f (nI len).toNatClampNeg x)))))) rfl ?_
  refine r_aload_n dX5_append_31 rfl 0 rfl ?_
  refine r_dup dX5_append_32 rfl ?_
  refine r_get 1 dX5_append_33 fRX5_13 hG_3 rfl ?_
  refine r_iconst (v := 1) dX5_append_36 (by decide) ?_
  refine r_iadd dX5_append_37 ?_
  refine r_put 1 (.int) dX5_append_38 gRX5_13 hG_3 (Nat.le_of_ble_eq_true rfl) rfl rfl ?_
  have hG_5 := up_n (e := some (.inr (5, [.ref arr, .int ((nI len) + 1)]))) (cx_ne hG_4 hG_3 (by simp)) hG_4
  have hG_6 : (va_up (va_up G arr (some (.inl (.char, cap, .inl (upd f (nI len).toNatClampNeg x))))) a (some (.inr (5, [.ref arr, .int ((nI len) + 1)])))) a = some (.inr (5, [.ref arr, .int ((nI len) + 1)])) := up_s
  refine r_heap (G' := (va_up (va_up G arr (some (.inl (.char, cap, .inl (upd f (nI len).toNatClampNeg x))))) a (some (.inr (5, [.ref arr, .int ((nI len) + 1)]))))) rfl ?_
  refine r_iconst (v := 1) dX5_append_41 (by decide) ?_
  refine r_ret .boolean dX5_append_42 rfl rfl ?_
  exact ⟨rfl, by rw [nI_cl (by omega), nI_1]⟩
set_option maxRecDepth 100000 in
set_option maxHeartbeats 4000000 in
theorem c_X5_append_f {d b0 : Nat} {G : GH} {a arr cap len : Nat} {f : Nat → Int32} (h : SG G a arr cap len f) (hge : ¬ len < cap) (x : Int32) : CTd mX5_append d b0 G [.ref a, .int x] 0 0 (some (.int 0)) G := by
  refine CT.intro (by decide +kernel) rfl (Nat.le_of_ble_eq_true rfl) ?_
  show WP mX5_append _ _ _ _ _ 0 0 0 [(0, .ref a), (1, .int x)] []
  refine r_aload_n dX5_append_0 rfl 0 rfl ?_
  refine r_get 1 dX5_append_1 fRX5_13 h.1 rfl ?_
  refine r_if_lt 19 dX5_append_4 (by decide) (fun c_1 => absurd c_1 (nI_pos (by omega))) (fun c_1 => ?_)
  refine r_aload_n dX5_append_7 rfl 0 rfl ?_
  refine r_get 1 dX5_append_8 fRX5_13 h.1 rfl ?_
  refine r_aload_n dX5_append_11 rfl 0 rfl ?_
  refine r_get 0 dX5_append_12 fRX5_7 h.1 rfl ?_
  refine r_alen (v := nI cap) dX5_append_15 h.2.1 rfl ?_
  refine r_icmp_lt 21 dX5_append_16 (by decide) (fun c_2 => absurd c_2 (nI_nlt (by omega) (by omega))) (fun c_2 => ?_)
  refine r_iconst (v := 0) dX5_append_19 (by decide) ?_
  refine r_ret .boolean dX5_append_20 rfl rfl ?_
  exact ⟨rfl, rfl⟩
set_option maxRecDepth 100000 in
set_option maxHeartbeats 4000000 in
theorem c_X5_empty {d b0 : Nat} {G : GH} {a arr cap len : Nat} {f : Nat → Int32} (h : SG G a arr cap len f) : CTd mX5_empty d b0 G [.ref a] 0 0 none (va_up G a (some (sgC arr 0))) := by
  refine CT.intro (by decide +kernel) rfl (Nat.le_of_ble_eq_true rfl) ?_
  show WP mX5_empty _ _ _ _ _ 0 0 0 [(0, .ref a)] []
  refine r_aload_n dX5_empty_0 rfl 0 rfl ?_
  refine r_iconst (v := 0) dX5_empty_1 (by decide) ?_
  refine r_put 1 (.int) dX5_empty_2 gRX5_13 h.1 (Nat.le_of_ble_eq_true rfl) rfl rfl ?_
  have hG_1 := up_n (e := some (.inr (5, [.ref arr, .int 0]))) (cx_ne h.2.1 h.1 (by simp)) h.2.1
  have hG_2 : (va_up G a (some (.inr (5, [.ref arr, .int 0])))) a = some (.inr (5, [.ref arr, .int 0])) := up_s
  refine r_heap (G' := (va_up G a (some (.inr (5, [.ref arr, .int 0]))))) rfl ?_
  refine r_vret dX5_empty_5 rfl ?_
  exact ⟨rfl, by first | rfl | (unfold sgC; rw [nI_0])⟩
def s_X5_isLetters (f : Nat → Int32) (len lo hi : Nat) : Int32 := b2i (allB (fun k => smB (f k)) len && (decide (lo ≤ len) && decide (len ≤ hi)))
set_option maxRecDepth 100000 in
set_option maxHeartbeats 4000000 in
theorem lp_X5_isLetters {d b0 : Nat} {G : GH} {a arr cap len : Nat} {f : Nat → Int32} (h : SG G a arr cap len f) (hf : ∀ k, k < len → isC (f k)) {lo hi : Nat} (hlo : lo < 2000) (hhi : hi < 2000) : ∀ (n : Nat) (k : Nat), k ≤ len ∧ (∀ j, j < k → smB (f j) = true) → len - k < n → WP mX5_isLetters (d + 1) b0 (fun r G' => r = some (.int (s_X5_isLetters f len lo hi)) ∧ G' = G) (fun _ _ => False) G 0 0 2 [(3, .int (nI k)), (0, .ref a), (1, .int (nI lo)), (2, .int (nI hi))] [] := by
  intro n
  induction n with
  | zero => intro k hinv hn; exact absurd hn (Nat.not_lt_zero _)
  | succ n ih =>
    intro k hinv hn
    have hb1 := h.2.2.1
    have hb2 := h.2.2.2
    refine r_iload_n dX5_isLetters_2 rfl 0 rfl ?_
    refine r_aload_n dX5_isLetters_3 rfl 1 rfl ?_
    refine r_get 1 dX5_isLetters_4 fRX5_13 h.1 rfl ?_
    refine r_icmp_ge 29 dX5_isLetters_7 (by decide) (fun c_1 => ?_) (fun c_1 => ?_)
    · refine r_aload_n dX5_isLetters_29 rfl 1 rfl ?_
      refine r_get 1 dX5_isLetters_30 fRX5_13 h.1 rfl ?_
      refine r_iload_n dX5_isLetters_33 rfl 2 rfl ?_
      refine r_icmp_lt 49 dX5_isLetters_34 (by decide) (fun c_2 => ?_) (fun c_2 => ?_)
      · refine r_iconst (v := 0) dX5_isLetters_49 (by decide) ?_
        refine r_ret .boolean dX5_isLetters_50 rfl rfl ?_
        have hk : len ≤ k := ni_le (by omega) (by omega) c_1
        have hall : allB (fun k => smB (f k)) len = true := (allB_iff _ _).mpr (fun j hj => hinv.2 j (by omega))
        have h1 : ¬ lo ≤ len := Nat.not_le.mpr (ni_lt (by omega) (by omega) c_2)
        exact ⟨by unfold s_X5_isLetters; rw [hall, decide_eq_false h1]; rfl, rfl⟩
      · refine r_aload_n dX5_isLetters_37 rfl 1 rfl ?_
        refine r_get 1 dX5_isLetters_38 fRX5_13 h.1 rfl ?_
        refine r_iload_n dX5_isLetters_41 rfl 3 rfl ?_
        refine r_icmp_gt 49 dX5_isLetters_42 (by decide) (fun c_3 => ?_) (fun c_3 => ?_)
        · refine r_iconst (v := 0) dX5_isLetters_49 (by decide) ?_
          refine r_ret .boolean dX5_isLetters_50 rfl rfl ?_
          have hk : len ≤ k := ni_le (by omega) (by omega) c_1
          have hall : allB (fun k => smB (f k)) len = true := (allB_iff _ _).mpr (fun j hj => hinv.2 j (by omega))
          have h1 : lo ≤ len := ni_nlt (by omega) (by omega) c_2
          have h2 : ¬ len ≤ hi := Nat.not_le.mpr (ni_lt (by omega) (by omega) c_3)
          exact ⟨by unfold s_X5_isLetters; rw [hall, decide_eq_true h1, decide_eq_false h2]; rfl, rfl⟩
        · refine r_iconst (v := 1) dX5_isLetters_45 (by decide) ?_
          refine r_goto 50 dX5_isLetters_46 (by decide) ?_
          refine r_ret .boolean dX5_isLetters_50 rfl rfl ?_
          have hk : len ≤ k := ni_le (by omega) (by omega) c_1
          have hall : allB (fun k => smB (f k)) len = true := (allB_iff _ _).mpr (fun j hj => hinv.2 j (by omega))
          have h1 : lo ≤ len := ni_nlt (by omega) (by omega) c_2
          have h2 : len ≤ hi := ni_nlt (by omega) (by omega) c_3
          exact ⟨by unfold s_X5_isLetters; rw [hall, decide_eq_true h1, decide_eq_true h2]; rfl, rfl⟩
    · refine r_aload_n dX5_isLetters_10 rfl 1 rfl ?_
      refine r_iload_n dX5_isLetters_11 rfl 0 rfl ?_
      refine r_callV (st := []) [.int (nI k)] 0 0 dX5_isLetters_12 kX5_at nX5_at lRX5_23 h.1 rfl (c_X5_at h hf (nI k)) rfl rfl (Nat.le_of_ble_eq_true rfl) (Nat.le_refl _) (Nat.le_refl _) (fun _ _ h => h.elim) ?_
      refine cx_det (st2 := [.int (s_X5_at len f (nI k))]) rfl ?_
      have hat : s_X5_at len f (nI k) = f k := s_X5_at_lt (by omega) (ni_nle (by omega) (by omega) c_1)
      refine r_top (f k) hat ?_
      refine r_callSN (st := []) [.int (f k)] 0 0 dX5_isLetters_15 kX8_isSmall nX8_isSmall lRX5_31 (c_X8_isSmall (f k)) rfl rfl (Nat.le_of_ble_eq_true rfl) (Nat.le_refl _) (Nat.le_refl _) (fun _ _ h => h.elim) ?_
      refine cx_det (st2 := [.int (s_X8_isSmall (f k))]) rfl ?_
      refine r_if_ne 23 dX5_isLetters_18 (by decide) (fun c_4 => ?_) (fun c_4 => ?_)
      · have hk : k < len := ni_nle (by omega) (by omega) c_1
        refine r_iinc (nI (k + 1)) [(3, .int (nI (k + 1))), (0, .ref a), (1, .int (nI lo)), (2, .int (nI hi))] dX5_isLetters_23 0 rfl (nI_1 k) (by decide) rfl ?_
        refine r_goto 2 dX5_isLetters_26 (by decide) ?_
        exact ih (k + 1) ⟨by omega, fun j hj => by
          rcases Nat.lt_or_ge j k with q | q
          · exact hinv.2 j q
          · rw [show j = k by omega]; exact smB_t c_4⟩ (by omega)
      · refine r_iconst (v := 0) dX5_isLetters_21 (by decide) ?_
        refine r_ret .boolean dX5_isLetters_22 rfl rfl ?_
        have hk : k < len := ni_nle (by omega) (by omega) c_1
        exact ⟨by unfold s_X5_isLetters; rw [allB_no hk (smB_f c_4)]; rfl, rfl⟩
set_option maxRecDepth 100000 in
set_option maxHeartbeats 4000000 in
theorem c_X5_isLetters {d b0 : Nat} {G : GH} {a arr cap len : Nat} {f : Nat → Int32} (h : SG G a arr cap len f) (hf : ∀ k, k < len → isC (f k)) {lo hi : Nat} (hlo : lo < 2000) (hhi : hi < 2000) : CTd mX5_isLetters (d + 1) b0 G [.ref a, .int (nI lo), .int (nI hi)] 0 0 (some (.int (s_X5_isLetters f len lo hi))) G := by
  refine CT.intro (by decide +kernel) rfl (Nat.le_of_ble_eq_true rfl) ?_
  show WP mX5_isLetters _ _ _ _ _ 0 0 0 [(0, .ref a), (1, .int (nI lo)), (2, .int (nI hi))] []
  refine r_iconst (v := nI 0) dX5_isLetters_0 (by decide) ?_
  refine r_istore_n [(3, .int (nI 0)), (0, .ref a), (1, .int (nI lo)), (2, .int (nI hi))] dX5_isLetters_1 rfl (by decide) rfl ?_
  exact lp_X5_isLetters h hf hlo hhi (len + 1) 0 ⟨Nat.zero_le _, fun j hj => absurd hj (Nat.not_lt_zero j)⟩ (by omega)
set_option maxRecDepth 100000 in
set_option maxHeartbeats 4000000 in
theorem lp_X5_take {d b0 : Nat} {G : GH} {a arr cap len b brr bcap blen : Nat} {f g : Nat → Int32} (h : SG G a arr cap len f) (h2 : SG G b brr bcap blen g) (hab : a ≠ b) (hrr : arr ≠ brr) (hg : ∀ k, k < blen → isC (g k)) (hle : blen ≤ cap) : ∀ (n : Nat) (k : Nat), k ≤ blen → blen - k < n → WP mX5_take (d + 1) b0 (fun r G' => r = none ∧ G' = va_up (va_up G arr (some (chA cap (cpy g f blen)))) a (some (sgC arr blen))) (fun _ _ => False) (va_up (va_up G arr (some (chA cap (cpy g f k)))) a (some (sgC arr k))) 0 0 6 [(2, .int (nI k)), (0, .ref a), (1, .ref b)] [] := by
  intro n
  induction n with
  | zero => intro k hinv hn; exact absurd hn (Nat.not_lt_zero _)
  | succ n ih =>
    intro k hinv hn
    have hb1 := h.2.2.1
    have hb2 := h.2.2.2
    have hb3 := h2.2.2.1
    have hb4 := h2.2.2.2
    have ha : SG (va_up (va_up G arr (some (chA cap (cpy g f k)))) a (some (sgC arr k))) a arr cap k (cpy g f k) := ⟨up_s, up_n (Ne.symm h.ne) up_s, by omega, by omega⟩
    have hb : SG (va_up (va_up G arr (some (chA cap (cpy g f k)))) a (some (sgC arr k))) b brr bcap blen g := (h2.keep (cx_ne h2.1 h.2.1 (by simp)) (Ne.symm hrr)).keep (Ne.symm hab) (cx_ne h2.2.1 h.1 (by simp))
    refine r_iload_n dX5_take_6 rfl 0 rfl ?_
    refine r_aload_n dX5_take_7 rfl 2 rfl ?_
    refine r_callV (st := [.int (nI k)]) [] 0 0 dX5_take_8 kX5_length nX5_length lRX5_20 hb.1 rfl (c_X5_length hb) rfl rfl (Nat.le_of_ble_eq_true rfl) (Nat.le_refl _) (Nat.le_refl _) (fun _ _ h => h.elim) ?_
    refine cx_det (st2 := [.int (nI blen), .int (nI k)]) rfl ?_
    refine r_icmp_ge 30 dX5_take_11 (by decide) (fun c_1 => ?_) (fun c_1 => ?_)
    · refine r_vret dX5_take_30 rfl ?_
      have hk : k = blen := by have := ni_le (by omega) (by omega) c_1; omega
      exact ⟨rfl, by rw [hk]⟩
    · refine r_aload_n dX5_take_14 rfl 1 rfl ?_
      refine r_aload_n dX5_take_15 rfl 2 rfl ?_
      refine r_iload_n dX5_take_16 rfl 0 rfl ?_
      refine r_callV (st := [.ref a]) [.int (nI k)] 0 0 dX5_take_17 kX5_at nX5_at lRX5_23 hb.1 rfl (c_X5_at hb hg (nI k)) rfl rfl (Nat.le_of_ble_eq_true rfl) (Nat.le_refl _) (Nat.le_refl _) (fun _ _ h => h.elim) ?_
      refine cx_det (st2 := [.int (s_X5_at blen g (nI k)), .ref a]) rfl ?_
      have hk : k < blen := ni_nle (by omega) (by omega) c_1
      refine r_top (g k) (s_X5_at_lt (by omega) hk) ?_
      refine r_callV (st := []) [.int (g k)] 0 0 dX5_take_20 kX5_append nX5_append lRX5_27 ha.1 rfl (c_X5_append_t ha (by omega) (hg k hk)) rfl rfl (Nat.le_of_ble_eq_true rfl) (Nat.le_refl _) (Nat.le_refl _) (fun _ _ h => h.elim) ?_
      refine cx_det (st2 := [.int 1]) rfl ?_
      refine r_pop dX5_take_23 rfl ?_
      refine r_heap ((up_four (Ne.symm h.ne)).trans (by rw [cpy_s])) ?_
      refine r_iinc (nI (k + 1)) [(2, .int (nI (k + 1))), (0, .ref a), (1, .ref b)] dX5_take_24 0 rfl (nI_1 k) (by decide) rfl ?_
      refine r_goto 6 dX5_take_27 (by decide) ?_
      exact ih (k + 1) (by omega) (by omega)
set_option maxRecDepth 100000 in
set_option maxHeartbeats 4000000 in
theorem c_X5_take {d b0 : Nat} {G : GH} {a arr cap len b brr bcap blen : Nat} {f g : Nat → Int32} (h : SG G a arr cap len f) (h2 : SG G b brr bcap blen g) (hab : a ≠ b) (hrr : arr ≠ brr) (hg : ∀ k, k < blen → isC (g k)) (hle : blen ≤ cap) : CTd mX5_take (d + 1) b0 G [.ref a, .ref b] 0 0 none (va_up (va_up G arr (some (chA cap (cpy g f blen)))) a (some (sgC arr blen))) := by
  refine CT.intro (by decide +kernel) rfl (Nat.le_of_ble_eq_true rfl) ?_
  show WP mX5_take _ _ _ _ _ 0 0 0 [(0, .ref a), (1, .ref b)] []
  refine r_aload_n dX5_take_0 rfl 0 rfl ?_
  refine r_callV (st := []) [] 0 0 dX5_take_1 kX5_empty nX5_empty lRX5_17 h.1 rfl (c_X5_empty h) rfl rfl (Nat.le_of_ble_eq_true rfl) (Nat.le_refl _) (Nat.le_refl _) (fun _ _ h => h.elim) ?_
  refine cx_det (st2 := []) rfl ?_
  refine r_iconst (v := nI 0) dX5_take_4 (by decide) ?_
  refine r_istore_n [(2, .int (nI 0)), (0, .ref a), (1, .ref b)] dX5_take_5 rfl (by decide) rfl ?_
  have h0 : va_up G a (some (sgC arr 0)) = va_up (va_up G arr (some (chA cap (cpy g f 0)))) a (some (sgC arr 0)) := by rw [cpy_0, up_self h.2.1]
  refine r_heap h0 ?_
  exact lp_X5_take h h2 hab hrr hg hle (blen + 1) 0 (Nat.zero_le _) (by omega)
end
