section
-- ===== PART A: goes FIRST, ahead of the names: the tables' words, and 'selects' of the private methods out of them =====
/-- a private method of a class that the tables say can be made, by its rows of tables_1 -/
def lw_okq (q : MethodName × Nat) : Prop := (q.1.cls ≠ "java/lang/invoke/MethodHandle" ∧ q.1.cls ≠ "java/lang/invoke/VarHandle") ∧ Cond.instantiable q.1.cls q.2 ∈ tables_1 ∧ Cond.privateMethod q.1 ∈ tables_1 ∧ Cond.instanceMethod q.1 ∈ tables_1
theorem lw_p0 : lw_okq (⟨"SiblingJoins", "scanBuffer", "()I"⟩, 7) := ⟨⟨by decide +kernel, by decide +kernel⟩, List.mem_of_getElem? (i := 21) (by decide +kernel), List.mem_of_getElem? (i := 172) (by decide +kernel), List.mem_of_getElem? (i := 173) (by decide +kernel)⟩
theorem lw_p1 : lw_okq (⟨"SiblingJoins", "shareOfAgreement", "()D"⟩, 7) := ⟨⟨by decide +kernel, by decide +kernel⟩, List.mem_of_getElem? (i := 21) (by decide +kernel), List.mem_of_getElem? (i := 260) (by decide +kernel), List.mem_of_getElem? (i := 261) (by decide +kernel)⟩
theorem lw_p2 : lw_okq (⟨"SiblingJoins", "tally", "(I)I"⟩, 7) := ⟨⟨by decide +kernel, by decide +kernel⟩, List.mem_of_getElem? (i := 21) (by decide +kernel), List.mem_of_getElem? (i := 278) (by decide +kernel), List.mem_of_getElem? (i := 279) (by decide +kernel)⟩
theorem lw_p3 : lw_okq (⟨"java/lang/Throwable", "fillInStackTrace", "(I)Ljava/lang/Throwable;"⟩, 6) := ⟨⟨by decide +kernel, by decide +kernel⟩, List.mem_of_getElem? (i := 453) (by decide +kernel), List.mem_of_getElem? (i := 451) (by decide +kernel), List.mem_of_getElem? (i := 452) (by decide +kernel)⟩
theorem lw_p4 : lw_okq (⟨"SiblingJoins", "save", "()V"⟩, 7) := ⟨⟨by decide +kernel, by decide +kernel⟩, List.mem_of_getElem? (i := 21) (by decide +kernel), List.mem_of_getElem? (i := 482) (by decide +kernel), List.mem_of_getElem? (i := 483) (by decide +kernel)⟩
theorem lw_p5 : lw_okq (⟨"SiblingJoins", "dropOldest", "()V"⟩, 7) := ⟨⟨by decide +kernel, by decide +kernel⟩, List.mem_of_getElem? (i := 21) (by decide +kernel), List.mem_of_getElem? (i := 486) (by decide +kernel), List.mem_of_getElem? (i := 487) (by decide +kernel)⟩
theorem lw_p6 : lw_okq (⟨"SiblingJoins", "runParts", "()I"⟩, 7) := ⟨⟨by decide +kernel, by decide +kernel⟩, List.mem_of_getElem? (i := 21) (by decide +kernel), List.mem_of_getElem? (i := 682) (by decide +kernel), List.mem_of_getElem? (i := 683) (by decide +kernel)⟩
theorem lw_p7 : lw_okq (⟨"SiblingJoins", "runPart", "()Z"⟩, 7) := ⟨⟨by decide +kernel, by decide +kernel⟩, List.mem_of_getElem? (i := 21) (by decide +kernel), List.mem_of_getElem? (i := 686) (by decide +kernel), List.mem_of_getElem? (i := 687) (by decide +kernel)⟩
theorem lw_p8 : lw_okq (⟨"SiblingJoinsModel", "fails", "(I)I"⟩, 16) := ⟨⟨by decide +kernel, by decide +kernel⟩, List.mem_of_getElem? (i := 754) (by decide +kernel), List.mem_of_getElem? (i := 817) (by decide +kernel), List.mem_of_getElem? (i := 818) (by decide +kernel)⟩
theorem lw_p9 : lw_okq (⟨"SiblingJoinsModel", "saves", "([I)V"⟩, 16) := ⟨⟨by decide +kernel, by decide +kernel⟩, List.mem_of_getElem? (i := 754) (by decide +kernel), List.mem_of_getElem? (i := 840) (by decide +kernel), List.mem_of_getElem? (i := 841) (by decide +kernel)⟩
theorem lw_p10 : lw_okq (⟨"SiblingJoinsModel", "merges", "(II)V"⟩, 16) := ⟨⟨by decide +kernel, by decide +kernel⟩, List.mem_of_getElem? (i := 754) (by decide +kernel), List.mem_of_getElem? (i := 850) (by decide +kernel), List.mem_of_getElem? (i := 851) (by decide +kernel)⟩
theorem lw_p11 : lw_okq (⟨"SiblingJoinsModel", "siblings", "(II)I"⟩, 16) := ⟨⟨by decide +kernel, by decide +kernel⟩, List.mem_of_getElem? (i := 754) (by decide +kernel), List.mem_of_getElem? (i := 854) (by decide +kernel), List.mem_of_getElem? (i := 855) (by decide +kernel)⟩
theorem lw_p12 : lw_okq (⟨"SiblingJoinsModel", "mayWrite", "(III)Z"⟩, 16) := ⟨⟨by decide +kernel, by decide +kernel⟩, List.mem_of_getElem? (i := 754) (by decide +kernel), List.mem_of_getElem? (i := 865) (by decide +kernel), List.mem_of_getElem? (i := 866) (by decide +kernel)⟩
theorem lw_p13 : lw_okq (⟨"SiblingJoinsModel", "coveredBy", "(III)I"⟩, 16) := ⟨⟨by decide +kernel, by decide +kernel⟩, List.mem_of_getElem? (i := 754) (by decide +kernel), List.mem_of_getElem? (i := 869) (by decide +kernel), List.mem_of_getElem? (i := 870) (by decide +kernel)⟩
theorem lw_p14 : lw_okq (⟨"SiblingJoinsModel", "covers", "(II)Z"⟩, 16) := ⟨⟨by decide +kernel, by decide +kernel⟩, List.mem_of_getElem? (i := 754) (by decide +kernel), List.mem_of_getElem? (i := 876) (by decide +kernel), List.mem_of_getElem? (i := 877) (by decide +kernel)⟩
theorem lw_p15 : lw_okq (⟨"SiblingJoinsModel", "writes", "(IIII)I"⟩, 16) := ⟨⟨by decide +kernel, by decide +kernel⟩, List.mem_of_getElem? (i := 754) (by decide +kernel), List.mem_of_getElem? (i := 883) (by decide +kernel), List.mem_of_getElem? (i := 884) (by decide +kernel)⟩
def lw_privs_1 : List (MethodName × Nat) := [(⟨"SiblingJoins", "scanBuffer", "()I"⟩, 7), (⟨"SiblingJoins", "shareOfAgreement", "()D"⟩, 7), (⟨"SiblingJoins", "tally", "(I)I"⟩, 7), (⟨"java/lang/Throwable", "fillInStackTrace", "(I)Ljava/lang/Throwable;"⟩, 6), (⟨"SiblingJoins", "save", "()V"⟩, 7), (⟨"SiblingJoins", "dropOldest", "()V"⟩, 7), (⟨"SiblingJoins", "runParts", "()I"⟩, 7), (⟨"SiblingJoins", "runPart", "()Z"⟩, 7), (⟨"SiblingJoinsModel", "fails", "(I)I"⟩, 16), (⟨"SiblingJoinsModel", "saves", "([I)V"⟩, 16), (⟨"SiblingJoinsModel", "merges", "(II)V"⟩, 16), (⟨"SiblingJoinsModel", "siblings", "(II)I"⟩, 16), (⟨"SiblingJoinsModel", "mayWrite", "(III)Z"⟩, 16), (⟨"SiblingJoinsModel", "coveredBy", "(III)I"⟩, 16), (⟨"SiblingJoinsModel", "covers", "(II)Z"⟩, 16), (⟨"SiblingJoinsModel", "writes", "(IIII)I"⟩, 16)]
theorem lw_r1 : ∀ q ∈ lw_privs_1, lw_okq q := List.forall_mem_cons.mpr ⟨lw_p0, List.forall_mem_cons.mpr ⟨lw_p1, List.forall_mem_cons.mpr ⟨lw_p2, List.forall_mem_cons.mpr ⟨lw_p3, List.forall_mem_cons.mpr ⟨lw_p4, List.forall_mem_cons.mpr ⟨lw_p5, List.forall_mem_cons.mpr ⟨lw_p6, List.forall_mem_cons.mpr ⟨lw_p7, List.forall_mem_cons.mpr ⟨lw_p8, List.forall_mem_cons.mpr ⟨lw_p9, List.forall_mem_cons.mpr ⟨lw_p10, List.forall_mem_cons.mpr ⟨lw_p11, List.forall_mem_cons.mpr ⟨lw_p12, List.forall_mem_cons.mpr ⟨lw_p13, List.forall_mem_cons.mpr ⟨lw_p14, List.forall_mem_cons.mpr ⟨lw_p15, fun _ h => absurd h List.not_mem_nil⟩⟩⟩⟩⟩⟩⟩⟩⟩⟩⟩⟩⟩⟩⟩⟩
theorem lw_p16 : lw_okq (⟨"SiblingJoinsModel", "drops", "(III)V"⟩, 16) := ⟨⟨by decide +kernel, by decide +kernel⟩, List.mem_of_getElem? (i := 754) (by decide +kernel), List.mem_of_getElem? (i := 887) (by decide +kernel), List.mem_of_getElem? (i := 888) (by decide +kernel)⟩
theorem lw_p17 : lw_okq (⟨"SiblingJoinsModel", "comes", "(IIIII)V"⟩, 16) := ⟨⟨by decide +kernel, by decide +kernel⟩, List.mem_of_getElem? (i := 754) (by decide +kernel), List.mem_of_getElem? (i := 891) (by decide +kernel), List.mem_of_getElem? (i := 892) (by decide +kernel)⟩
theorem lw_p18 : lw_okq (⟨"SiblingJoinsModel", "joined", "(III)I"⟩, 16) := ⟨⟨by decide +kernel, by decide +kernel⟩, List.mem_of_getElem? (i := 754) (by decide +kernel), List.mem_of_getElem? (i := 899) (by decide +kernel), List.mem_of_getElem? (i := 900) (by decide +kernel)⟩
theorem lw_p19 : lw_okq (⟨"SiblingJoinsModel", "why", "(II)I"⟩, 16) := ⟨⟨by decide +kernel, by decide +kernel⟩, List.mem_of_getElem? (i := 754) (by decide +kernel), List.mem_of_getElem? (i := 911) (by decide +kernel), List.mem_of_getElem? (i := 912) (by decide +kernel)⟩
theorem lw_p20 : lw_okq (⟨"SiblingJoinsModel", "tries", "(III)V"⟩, 16) := ⟨⟨by decide +kernel, by decide +kernel⟩, List.mem_of_getElem? (i := 754) (by decide +kernel), List.mem_of_getElem? (i := 923) (by decide +kernel), List.mem_of_getElem? (i := 924) (by decide +kernel)⟩
theorem lw_p21 : lw_okq (⟨"SiblingJoinsModel", "has", "(IIII)Z"⟩, 16) := ⟨⟨by decide +kernel, by decide +kernel⟩, List.mem_of_getElem? (i := 754) (by decide +kernel), List.mem_of_getElem? (i := 927) (by decide +kernel), List.mem_of_getElem? (i := 928) (by decide +kernel)⟩
theorem lw_p22 : lw_okq (⟨"SiblingJoinsModel", "adds", "(I)V"⟩, 16) := ⟨⟨by decide +kernel, by decide +kernel⟩, List.mem_of_getElem? (i := 754) (by decide +kernel), List.mem_of_getElem? (i := 931) (by decide +kernel), List.mem_of_getElem? (i := 932) (by decide +kernel)⟩
theorem lw_p23 : lw_okq (⟨"SiblingJoinsModel", "pulls", "(III)I"⟩, 16) := ⟨⟨by decide +kernel, by decide +kernel⟩, List.mem_of_getElem? (i := 754) (by decide +kernel), List.mem_of_getElem? (i := 935) (by decide +kernel), List.mem_of_getElem? (i := 936) (by decide +kernel)⟩
theorem lw_p24 : lw_okq (⟨"SiblingJoinsModel", "isText", "()Z"⟩, 16) := ⟨⟨by decide +kernel, by decide +kernel⟩, List.mem_of_getElem? (i := 754) (by decide +kernel), List.mem_of_getElem? (i := 955) (by decide +kernel), List.mem_of_getElem? (i := 956) (by decide +kernel)⟩
theorem lw_p25 : lw_okq (⟨"SiblingJoinsModel", "takesOne", "()Z"⟩, 16) := ⟨⟨by decide +kernel, by decide +kernel⟩, List.mem_of_getElem? (i := 754) (by decide +kernel), List.mem_of_getElem? (i := 959) (by decide +kernel), List.mem_of_getElem? (i := 960) (by decide +kernel)⟩
theorem lw_p26 : lw_okq (⟨"SiblingJoinsModel", "takes", "(I)Z"⟩, 16) := ⟨⟨by decide +kernel, by decide +kernel⟩, List.mem_of_getElem? (i := 754) (by decide +kernel), List.mem_of_getElem? (i := 963) (by decide +kernel), List.mem_of_getElem? (i := 964) (by decide +kernel)⟩
theorem lw_p27 : lw_okq (⟨"SiblingJoinsModel", "isAt", "(II)Z"⟩, 16) := ⟨⟨by decide +kernel, by decide +kernel⟩, List.mem_of_getElem? (i := 754) (by decide +kernel), List.mem_of_getElem? (i := 967) (by decide +kernel), List.mem_of_getElem? (i := 968) (by decide +kernel)⟩
theorem lw_p28 : lw_okq (⟨"SiblingJoinsModel", "stops", "()Z"⟩, 16) := ⟨⟨by decide +kernel, by decide +kernel⟩, List.mem_of_getElem? (i := 754) (by decide +kernel), List.mem_of_getElem? (i := 971) (by decide +kernel), List.mem_of_getElem? (i := 972) (by decide +kernel)⟩
theorem lw_p29 : lw_okq (⟨"SiblingJoinsModel", "takesPart", "(II)Z"⟩, 16) := ⟨⟨by decide +kernel, by decide +kernel⟩, List.mem_of_getElem? (i := 754) (by decide +kernel), List.mem_of_getElem? (i := 975) (by decide +kernel), List.mem_of_getElem? (i := 976) (by decide +kernel)⟩
theorem lw_p30 : lw_okq (⟨"SiblingJoinsModel", "takesValue", "()Z"⟩, 16) := ⟨⟨by decide +kernel, by decide +kernel⟩, List.mem_of_getElem? (i := 754) (by decide +kernel), List.mem_of_getElem? (i := 979) (by decide +kernel), List.mem_of_getElem? (i := 980) (by decide +kernel)⟩
theorem lw_p31 : lw_okq (⟨"SiblingJoinsModel", "does", "(I)Z"⟩, 16) := ⟨⟨by decide +kernel, by decide +kernel⟩, List.mem_of_getElem? (i := 754) (by decide +kernel), List.mem_of_getElem? (i := 987) (by decide +kernel), List.mem_of_getElem? (i := 988) (by decide +kernel)⟩
def lw_privs_2 : List (MethodName × Nat) := [(⟨"SiblingJoinsModel", "drops", "(III)V"⟩, 16), (⟨"SiblingJoinsModel", "comes", "(IIIII)V"⟩, 16), (⟨"SiblingJoinsModel", "joined", "(III)I"⟩, 16), (⟨"SiblingJoinsModel", "why", "(II)I"⟩, 16), (⟨"SiblingJoinsModel", "tries", "(III)V"⟩, 16), (⟨"SiblingJoinsModel", "has", "(IIII)Z"⟩, 16), (⟨"SiblingJoinsModel", "adds", "(I)V"⟩, 16), (⟨"SiblingJoinsModel", "pulls", "(III)I"⟩, 16), (⟨"SiblingJoinsModel", "isText", "()Z"⟩, 16), (⟨"SiblingJoinsModel", "takesOne", "()Z"⟩, 16), (⟨"SiblingJoinsModel", "takes", "(I)Z"⟩, 16), (⟨"SiblingJoinsModel", "isAt", "(II)Z"⟩, 16), (⟨"SiblingJoinsModel", "stops", "()Z"⟩, 16), (⟨"SiblingJoinsModel", "takesPart", "(II)Z"⟩, 16), (⟨"SiblingJoinsModel", "takesValue", "()Z"⟩, 16), (⟨"SiblingJoinsModel", "does", "(I)Z"⟩, 16)]
theorem lw_r2 : ∀ q ∈ lw_privs_2, lw_okq q := List.forall_mem_cons.mpr ⟨lw_p16, List.forall_mem_cons.mpr ⟨lw_p17, List.forall_mem_cons.mpr ⟨lw_p18, List.forall_mem_cons.mpr ⟨lw_p19, List.forall_mem_cons.mpr ⟨lw_p20, List.forall_mem_cons.mpr ⟨lw_p21, List.forall_mem_cons.mpr ⟨lw_p22, List.forall_mem_cons.mpr ⟨lw_p23, List.forall_mem_cons.mpr ⟨lw_p24, List.forall_mem_cons.mpr ⟨lw_p25, List.forall_mem_cons.mpr ⟨lw_p26, List.forall_mem_cons.mpr ⟨lw_p27, List.forall_mem_cons.mpr ⟨lw_p28, List.forall_mem_cons.mpr ⟨lw_p29, List.forall_mem_cons.mpr ⟨lw_p30, List.forall_mem_cons.mpr ⟨lw_p31, fun _ h => absurd h List.not_mem_nil⟩⟩⟩⟩⟩⟩⟩⟩⟩⟩⟩⟩⟩⟩⟩⟩
theorem lw_p32 : lw_okq (⟨"SiblingJoinsModel", "ofSibling", "(IIII)I"⟩, 16) := ⟨⟨by decide +kernel, by decide +kernel⟩, List.mem_of_getElem? (i := 754) (by decide +kernel), List.mem_of_getElem? (i := 995) (by decide +kernel), List.mem_of_getElem? (i := 996) (by decide +kernel)⟩
theorem lw_p33 : lw_okq (⟨"SiblingJoinsModel", "coverers", "(II)I"⟩, 16) := ⟨⟨by decide +kernel, by decide +kernel⟩, List.mem_of_getElem? (i := 754) (by decide +kernel), List.mem_of_getElem? (i := 999) (by decide +kernel), List.mem_of_getElem? (i := 1000) (by decide +kernel)⟩
theorem lw_p34 : lw_okq (⟨"SiblingJoinsModel", "holders", "(II)I"⟩, 16) := ⟨⟨by decide +kernel, by decide +kernel⟩, List.mem_of_getElem? (i := 754) (by decide +kernel), List.mem_of_getElem? (i := 1003) (by decide +kernel), List.mem_of_getElem? (i := 1004) (by decide +kernel)⟩
theorem lw_p35 : lw_okq (⟨"SiblingJoinsModel", "ofKey", "(II)I"⟩, 16) := ⟨⟨by decide +kernel, by decide +kernel⟩, List.mem_of_getElem? (i := 754) (by decide +kernel), List.mem_of_getElem? (i := 1019) (by decide +kernel), List.mem_of_getElem? (i := 1020) (by decide +kernel)⟩
theorem lw_p36 : lw_okq (⟨"SiblingJoinsModel", "unlike", "(I)I"⟩, 16) := ⟨⟨by decide +kernel, by decide +kernel⟩, List.mem_of_getElem? (i := 754) (by decide +kernel), List.mem_of_getElem? (i := 1023) (by decide +kernel), List.mem_of_getElem? (i := 1024) (by decide +kernel)⟩
theorem lw_p37 : lw_okq (⟨"SiblingJoinsModel", "counts", "(I)I"⟩, 16) := ⟨⟨by decide +kernel, by decide +kernel⟩, List.mem_of_getElem? (i := 754) (by decide +kernel), List.mem_of_getElem? (i := 1027) (by decide +kernel), List.mem_of_getElem? (i := 1028) (by decide +kernel)⟩
theorem lw_p38 : lw_okq (⟨"SiblingJoinsModel", "areAlike", "(III)Z"⟩, 16) := ⟨⟨by decide +kernel, by decide +kernel⟩, List.mem_of_getElem? (i := 754) (by decide +kernel), List.mem_of_getElem? (i := 1031) (by decide +kernel), List.mem_of_getElem? (i := 1032) (by decide +kernel)⟩
theorem lw_p39 : lw_okq (⟨"SiblingJoinsModel", "areVectorsAlike", "(I)Z"⟩, 16) := ⟨⟨by decide +kernel, by decide +kernel⟩, List.mem_of_getElem? (i := 754) (by decide +kernel), List.mem_of_getElem? (i := 1035) (by decide +kernel), List.mem_of_getElem? (i := 1036) (by decide +kernel)⟩
theorem lw_p40 : lw_okq (⟨"SiblingJoinsModel", "forgettable", "(I)I"⟩, 16) := ⟨⟨by decide +kernel, by decide +kernel⟩, List.mem_of_getElem? (i := 754) (by decide +kernel), List.mem_of_getElem? (i := 1039) (by decide +kernel), List.mem_of_getElem? (i := 1040) (by decide +kernel)⟩
theorem lw_p41 : lw_okq (⟨"SiblingJoinsModel", "counted", "(I)I"⟩, 16) := ⟨⟨by decide +kernel, by decide +kernel⟩, List.mem_of_getElem? (i := 754) (by decide +kernel), List.mem_of_getElem? (i := 1047) (by decide +kernel), List.mem_of_getElem? (i := 1048) (by decide +kernel)⟩
theorem lw_p42 : lw_okq (⟨"SiblingJoinsModel", "written", "(IIII)I"⟩, 16) := ⟨⟨by decide +kernel, by decide +kernel⟩, List.mem_of_getElem? (i := 754) (by decide +kernel), List.mem_of_getElem? (i := 1055) (by decide +kernel), List.mem_of_getElem? (i := 1056) (by decide +kernel)⟩
theorem lw_p43 : lw_okq (⟨"SiblingJoinsModel", "pulled", "(IIII)I"⟩, 16) := ⟨⟨by decide +kernel, by decide +kernel⟩, List.mem_of_getElem? (i := 754) (by decide +kernel), List.mem_of_getElem? (i := 1063) (by decide +kernel), List.mem_of_getElem? (i := 1064) (by decide +kernel)⟩
theorem lw_p44 : lw_okq (⟨"SiblingJoinsModel", "agrees", "()D"⟩, 16) := ⟨⟨by decide +kernel, by decide +kernel⟩, List.mem_of_getElem? (i := 754) (by decide +kernel), List.mem_of_getElem? (i := 1071) (by decide +kernel), List.mem_of_getElem? (i := 1072) (by decide +kernel)⟩
theorem lw_p45 : lw_okq (⟨"SiblingJoinsModel", "mixes", "(J)V"⟩, 16) := ⟨⟨by decide +kernel, by decide +kernel⟩, List.mem_of_getElem? (i := 754) (by decide +kernel), List.mem_of_getElem? (i := 1081) (by decide +kernel), List.mem_of_getElem? (i := 1082) (by decide +kernel)⟩
theorem lw_p46 : lw_okq (⟨"SiblingJoinsModel", "mixesKey", "(I)V"⟩, 16) := ⟨⟨by decide +kernel, by decide +kernel⟩, List.mem_of_getElem? (i := 754) (by decide +kernel), List.mem_of_getElem? (i := 1086) (by decide +kernel), List.mem_of_getElem? (i := 1087) (by decide +kernel)⟩
def lw_privs_3 : List (MethodName × Nat) := [(⟨"SiblingJoinsModel", "ofSibling", "(IIII)I"⟩, 16), (⟨"SiblingJoinsModel", "coverers", "(II)I"⟩, 16), (⟨"SiblingJoinsModel", "holders", "(II)I"⟩, 16), (⟨"SiblingJoinsModel", "ofKey", "(II)I"⟩, 16), (⟨"SiblingJoinsModel", "unlike", "(I)I"⟩, 16), (⟨"SiblingJoinsModel", "counts", "(I)I"⟩, 16), (⟨"SiblingJoinsModel", "areAlike", "(III)Z"⟩, 16), (⟨"SiblingJoinsModel", "areVectorsAlike", "(I)Z"⟩, 16), (⟨"SiblingJoinsModel", "forgettable", "(I)I"⟩, 16), (⟨"SiblingJoinsModel", "counted", "(I)I"⟩, 16), (⟨"SiblingJoinsModel", "written", "(IIII)I"⟩, 16), (⟨"SiblingJoinsModel", "pulled", "(IIII)I"⟩, 16), (⟨"SiblingJoinsModel", "agrees", "()D"⟩, 16), (⟨"SiblingJoinsModel", "mixes", "(J)V"⟩, 16), (⟨"SiblingJoinsModel", "mixesKey", "(I)V"⟩, 16)]
theorem lw_r3 : ∀ q ∈ lw_privs_3, lw_okq q := List.forall_mem_cons.mpr ⟨lw_p32, List.forall_mem_cons.mpr ⟨lw_p33, List.forall_mem_cons.mpr ⟨lw_p34, List.forall_mem_cons.mpr ⟨lw_p35, List.forall_mem_cons.mpr ⟨lw_p36, List.forall_mem_cons.mpr ⟨lw_p37, List.forall_mem_cons.mpr ⟨lw_p38, List.forall_mem_cons.mpr ⟨lw_p39, List.forall_mem_cons.mpr ⟨lw_p40, List.forall_mem_cons.mpr ⟨lw_p41, List.forall_mem_cons.mpr ⟨lw_p42, List.forall_mem_cons.mpr ⟨lw_p43, List.forall_mem_cons.mpr ⟨lw_p44, List.forall_mem_cons.mpr ⟨lw_p45, List.forall_mem_cons.mpr ⟨lw_p46, fun _ h => absurd h List.not_mem_nil⟩⟩⟩⟩⟩⟩⟩⟩⟩⟩⟩⟩⟩⟩⟩
def lw_privs : List (MethodName × Nat) := lw_privs_1 ++ (lw_privs_2 ++ (lw_privs_3))
def lw_tbl : List Cond := k2_sels lw_privs ++ tables_1
theorem lw_privs_ok : ∀ q ∈ lw_privs, lw_okq q := by
  show ∀ q ∈ lw_privs_1 ++ (lw_privs_2 ++ (lw_privs_3)), lw_okq q
  exact List.forall_mem_append.mpr ⟨lw_r1, List.forall_mem_append.mpr ⟨lw_r2, lw_r3⟩⟩
/-- the streams that the claim lets the run draw from -/
abbrev lw_cs : List Choice := [Jvm.Choice.named "NaN.bits"]
theorem lw_bits : nanBits ∈ lw_cs := by first | decide | exact List.mem_cons_self | simp [lw_cs, nanBits]
-- ===== end of PART A; then your names; then what follows =====
end
section
/-! ===== BEGIN words of one list among another's, by their places ===== -/
theorem goodIn_r {big : List Cond} (ws : List Cond) (ps : List Nat) (hp : ws = ps.filterMap (fun i => big[i]?)) (h : ws.all goodWord = true) : GoodIn big ws := by
  intro w hw
  have h1 := List.all_eq_true.mp h w hw
  rw [hp] at hw
  obtain ⟨i, -, hi⟩ := List.mem_filterMap.mp hw
  have hm : w ∈ big := by first | exact List.mem_of_getElem? hi | exact List.getElem?_mem hi
  exact ⟨hm, good_of_word h1⟩
theorem goodIn_app {big a b : List Cond} (ha : GoodIn big a) (hb : GoodIn big b) : GoodIn big (a ++ b) := fun w h => (List.mem_append.mp h).elim (ha w) (hb w)
theorem goodIn_ca {big a b : List Cond} {c : Cond} (ha : GoodIn big (c :: a)) (hb : GoodIn big b) : GoodIn big (c :: (a ++ b)) := fun w h => (List.mem_cons.mp h).elim (fun e => ha w (List.mem_cons.mpr (Or.inl e))) (fun h => (List.mem_append.mp h).elim (fun h => ha w (List.mem_cons.mpr (Or.inr h))) (hb w))
theorem goodIn_sub {big ws : List Cond} (hm : ∀ w ∈ ws, w ∈ big) (h : ws.all goodWord = true) : GoodIn big ws := fun w hw => ⟨hm w hw, good_of_word (List.all_eq_true.mp h w hw)⟩
/-! ===== END ===== -/

/-! ===== BEGIN new T[n][m]: the outer array a place, the inner ones among the pooled ===== -/
/-- f, but v at every address of l -/
def vr_up {α : Type} (f : Nat → α) (l : List Nat) (v : α) : Nat → α := fun a => if a ∈ l then v else f a
theorem vr_up_in {α : Type} {f : Nat → α} {l : List Nat} {v : α} {a : Nat} (h : a ∈ l) : vr_up f l v a = v := if_pos h
theorem vr_up_ne {α : Type} {f : Nat → α} {l : List Nat} {v : α} {a : Nat} (h : a ∉ l) : vr_up f l v a = f a := if_neg h
theorem vr_rows {L l : List Nat} {f : Nat → va_E} {e : va_E} (h : ∀ a, a ∈ l → a ∉ L) : va_pl L f ++ l.map (fun a => (a, e)) = va_pl (L ++ l) (vr_up f l e) := by
  unfold va_pl
  rw [List.map_append]
  congr 1
  · apply List.map_congr_left
    intro a ha
    rw [vr_up_ne (fun q => h a q ha)]
  · apply List.map_congr_left
    intro a ha
    rw [vr_up_in ha]
theorem vr_lay {X rows : va_W} {x : Nat × va_E} {pl : va_W} {D : va_G} {cl : List vw_C} {H : Heap} (hP : va_P D cl (((X ++ pl) ++ [x]) ++ rows) H) : va_P D cl ((X ++ [x]) ++ (pl ++ rows)) H := by
  rw [List.append_assoc (X ++ pl)] at hP
  have h := va_P.swap hP
  rw [← List.append_assoc X] at h
  have h2 := va_P.swap h
  rw [List.append_assoc (X ++ [x])] at h2
  exact h2
theorem vr_layD {X rows : va_W} {x : Nat × va_E} {pl : va_W} {A : Nat → Prop} (hD : va_D A (((X ++ pl) ++ [x]) ++ rows)) : va_D A ((X ++ [x]) ++ (pl ++ rows)) := by
  rw [List.append_assoc (X ++ pl)] at hD
  have h := va_D.swap hD
  rw [← List.append_assoc X] at h
  have h2 := va_D.swap h
  rw [List.append_assoc (X ++ [x])] at h2
  exact h2
theorem vr_outer (c : ClassId) (N h0 : Nat) : ∀ i : Nat, Jvm.Free.Multi.outerC c N h0 i = arrV c N (fun j => va_rf (if j < i then some (h0 + 1 + j) else none))
  | 0 => by
    show ({ cls := c, slots := Array.replicate N .null, vm := .none } : Cell) = _
    rw [arrV_new]
    refine congrArg (arrV c N) (funext fun j => ?_)
    simp [va_rf]
  | i + 1 => by
    show (Jvm.Free.Multi.outerC c N h0 i).setSlot i (.ref (h0 + 1 + i)) = _
    rw [vr_outer c N h0 i, arrV_store]
    refine congrArg (arrV c N) (funext fun j => ?_)
    by_cases e : j = i
    · subst e
      simp [updV, va_rf]
    · by_cases h : j < i
      · simp [updV, e, h, Nat.lt_succ_of_lt h]
      · simp [updV, e, h, show ¬ j < i + 1 by omega]
/-! ===== END ===== -/

/-! ===== BEGIN exceptions that leave a method, and their catching by the caller (launches without stack traces) ===== -/
section VXA
/-! The laws vx_back, vx_callV, vx_callS, vx_callSW, vx_throw0, vx_throwS follow proofs of the library, with one case more: JvmDerived/Free/Laws.lean (Back.of_free), Shelf42/LK1.lean (callV, callS), Shelf/KitTraced.lean (throwNew0V, throwNewS). -/
/-- where a method has thrown q: the class by its name, the cell, what was written, the world -/
def vx_T (XC : String → State → State → Prop) (st : State) (q : Addr) (t : State) (mc ms : Nat) (free : Addr → Prop) : Prop :=
  ∃ (E : String) (ce : Cell) (L : List Loc), XC E st t ∧ t.heap[q]? = some ce ∧ ce.vm = .none ∧ st.vm.findClass E = some ce.cls ∧ st.WarmedH t.vm ∧ st.sameButNew ({ t with vm := st.vm } : State) L mc ms ∧ ∀ z ∈ L, free z.base
def vx_Q (Qc : Array Value → State → Outcome → State → Prop) (XC : String → State → State → Prop) (mc ms : Nat) (free : Addr → Prop) : Array Value → State → Outcome → State → Prop := fun a st o t =>
  (Qc a st o t ∧ ∃ L, FrameEnd st o t L mc ms ∧ ∀ q ∈ L, free q.base) ∨ ∃ q, o = .threw q ∧ vx_T XC st q t mc ms free
/-- a callee that returns or throws -/
def vx_Met (l : Launch) (y : MethodName) (ws : List Cond) (rm : Room) (Pc : Array Value → State → Prop) (Qc : Array Value → State → Outcome → State → Prop) (XC : String → State → State → Prop) (mc ms : Nat) (free : Addr → Prop) : Prop :=
  MetFree l y (headSpec ws rm) Pc (fun _ _ _ _ _ => True) (vx_Q Qc XC mc ms free)
def vx_Post (XC : String → State → State → Prop) (mc ms : Nat) (free : Addr → Prop) : Pt → Array Value → Addr → Pt → Prop := fun A a q B =>
  ∃ (g : JFrame) (mk : MethodId) (t : State) (L : List Loc) (E : String) (ce : Cell), B.U.heap = t.heap ∧ B.U.vm = t.vm ∧ XC E (A.U.calling g mk a) t ∧ t.heap[q]? = some ce ∧ ce.vm = .none ∧ A.U.vm.findClass E = some ce.cls ∧ B.locs = A.locs ++ L ∧ (∀ z ∈ L, free z.base) ∧ B.cells = A.cells + mc ∧ B.slots = A.slots + ms
def vx_Back (l : Launch) (R : Room) (p : Program) (e : Env) (below : List Frame) (s : State) (sargs : Array Value) (y : MethodName) (len W9 : Nat)
    (Pre : Pt → Array Value → Prop) (Post : Pt → Array Value → Option Value → Pt → Prop) (PostX : Pt → Array Value → Addr → Pt → Prop) : Prop :=
  ∀ (m : MethodId) (meth : Method) (c : Code) (A : Pt) (g : JFrame) (ig : Instr) (mk : MethodId) (a : Array Value),
    Stand p l e R s m sargs below meth c A.U A.locs A.cells A.slots → g.method = m → g.locals.size = c.maxLocals → decode c.code g.pc = .ok (ig, len) →
    2 * g.monitorRoom + (g.stack.map fun v => v.category).sum ≤ W9 → A.U.methodNamed? y = some mk → Pre A a →
    (∃ (v : Option Value) (B : Pt), Stand p l e R s m sargs below meth c B.U B.locs B.cells B.slots ∧ Post A a v B ∧
      Steps p.tables e below (doInvoke e (A.U.setTop g) [] mk a).1 (B.U.setTop { g with pc := g.pc + len, stack := v.toList ++ g.stack })) ∨
    (∃ (q : Addr) (B : Pt), Stand p l e R s m sargs below meth c B.U B.locs B.cells B.slots ∧ PostX A a q B ∧
      Steps p.tables e below (doInvoke e (A.U.setTop g) [] mk a).1 ((B.U.setTop g).pushFrame (.throwing q)))
section Payer
variable {l : Launch} {R : Room} {p : Program} {e : Env} {below : List Frame} {s : State} {sargs : Array Value} {y : MethodName} {len W9 : Nat}
theorem vx_back {ws : List Cond} {rm : Room} {Pc : Array Value → State → Prop} {Qc : Array Value → State → Outcome → State → Prop} {XC : String → State → State → Prop} {mc ms : Nat} {free : Addr → Prop} {bytes : ByteArray} {maxL : Nat} {ret : Option FieldType}
    (hM : vx_Met l y ws rm Pc Qc XC mc ms free) (hblind : FrameBlind Pc) (hrc : rm.cells = mc) (hrs : rm.slots = ms)
    (hframes : rm.frames + 1 ≤ R.frames) (hlocals : W9 + (maxL + 11) + rm.locals ≤ R.locals)
    (hws : ∀ w ∈ ws, ∀ a' U, s.WarmedH U.vm → w.before a' U = true) (hcode : Cond.code y bytes maxL ret ∈ ws) (hinit : ∀ a' U, s.WarmedH U.vm → (Cond.initialized y.cls).before a' U = true) :
    vx_Back l R p e below s sargs y len W9 (PreOf R mc ms Pc) (PostOf Qc mc ms free) (vx_Post XC mc ms free) := by
  intro m meth c A g ig mk a X hg hsize hdg hW hn hp
  have h1 : (headSpec ws rm).pre.before a A.U = true := atoms_intro fun w hw => hws w hw _ _ X.warmed
  have h2 : (Cond.code y bytes maxL ret).before a A.U = true := hws _ hcode _ _ X.warmed
  have h3 : (Cond.initialized y.cls).before a A.U = true := hinit _ _ X.warmed
  have h4 : A.cells + (headSpec ws rm).room.cells ≤ R.cells := by rw [show (headSpec ws rm).room.cells = mc from hrc]; exact hp.1
  have h5 : A.slots + (headSpec ws rm).room.slots ≤ R.slots := by rw [show (headSpec ws rm).room.slots = ms from hrs]; exact hp.2.1
  have hPc : Pc a (A.U.calling g mk a) := hblind _ _ _ _ hp.2.2
  obtain ⟨U, Ls, c0, s0⟩ := A
  dsimp only [Pt.U, Pt.locs, Pt.cells, Pt.slots] at h1 h2 h3 h4 h5 X hn hPc ⊢
  obtain ⟨methY, cY, hmY, hcY, -, hlY, -, -, -, -⟩ := Cond.code_spec hn h2
  obtain ⟨kY, hkY, -⟩ := className_of_methodNamed hn
  have hinitY : kY.init = .initialized := Cond.initialized_spec (findClass_of_methodNamed hn) hkY h3
  have h : At U g.method c below := by rw [hg]; exact X.here
  have hlocals9 : W9 + (maxL + 11) + (headSpec ws rm).room.locals ≤ R.locals := hlocals
  have happ : (headSpec ws rm).appliesLoose y e.platform (U.calling g mk a) = true :=
    Spec.appliesLoose_calling (g := g) h hdg hn hkY hinitY
      (X.room_calling (g := g) (R' := (headSpec ws rm).room) hsize hmY hcY hframes (by rw [hlY]; omega) h4 h5) h1
  obtain ⟨mid, hmid⟩ := h.above
  have hfr : (U.setTop g).frames = (.java g :: mid) ++ below := by rw [State.frames_setTop' g h.top, hmid]; rfl
  obtain ⟨o, s₂, hsteps, -, hend, hq⟩ := Steps.callFree hM p X.admits X.cas X.clock (acts := []) hfr happ hPc trivial
  have hq' : vx_Q Qc XC mc ms free a (U.calling g mk a) o s₂ := hq
  rw [State.frames_setTop' g h.top] at hend
  obtain ⟨g₀, hg0⟩ := Option.isSome_iff_exists.mp h.top
  obtain ⟨r, hr⟩ := State.topJava?_eq_some.mp hg0
  have hr' : (({ U with heap := s₂.heap, slotsUsed := s₂.slotsUsed } : State).setVm s₂.vm).frames = .java g₀ :: r := hr
  rcases hq' with ⟨hqc, L, hfe, hL⟩ | ⟨q, rfl, E, ce, L, hx, hce, hcv, hcl, hW₂, hsm, hL⟩
  · obtain ⟨⟨v, rfl⟩, hW₂, e2, q2, q3, q4, q5, q6⟩ := id hfe
    have e3 : s₂ = ({ (U.calling g mk a).setFrames s₂.frames with heap := s₂.heap, slotsUsed := s₂.slotsUsed } : State).setVm s₂.vm := by
      have : s₂ = ({ s₂ with vm := (U.calling g mk a).vm } : State).setVm s₂.vm := rfl
      rw [e2] at this
      exact this
    obtain ⟨c₂, i₂, len₂, hc₂, hd₂, hf₂⟩ := hend
    have hW' : U.WarmedH s₂.vm := hW₂
    have hcc : c₂ = c := by
      have h1 : s₂.code? g.method = U.code? g.method := by
        rw [State.code?_eq, State.code?_eq, hW'.alike.method?]
      exact Option.some.inj (hc₂.symm.trans (h1.trans h.code))
    subst hcc
    have hlen : len₂ = len := by rw [hdg] at hd₂; cases hd₂; rfl
    subst hlen
    have hs₂ : s₂ = (({ U with heap := s₂.heap, slotsUsed := s₂.slotsUsed } : State).setVm s₂.vm).setTop { g with pc := g.pc + len₂, stack := v.toList ++ g.stack } := by
      refine e3.trans ?_
      rw [hf₂, State.calling_eq h.top, State.setFrames_setFrames, State.setTop_of_frames _ hr', hr]
      rfl
    have hsame : U.sameButNew ({ U with heap := s₂.heap, slotsUsed := s₂.slotsUsed } : State) L mc ms := by
      refine ⟨?_, q2, q3, q4, q5, q6⟩
      obtain ⟨t, ht, -⟩ := State.frames_cons hr
      show ({ U with heap := s₂.heap, slotsUsed := s₂.slotsUsed } : State) = { U.setFrames U.frames with heap := s₂.heap, slotsUsed := s₂.slotsUsed }
      rw [State.setFrames_self ht]
    subst hg
    refine Or.inl ⟨v, ⟨(({ U with heap := s₂.heap, slotsUsed := s₂.slotsUsed } : State).setVm s₂.vm), Ls ++ L, c0 + mc, s0 + ms⟩,
      ⟨X.admits, X.cas, X.clock, X.frames, X.room, X.hears, X.method, X.code, (X.here.setHeapUsed s₂.heap s₂.slotsUsed).setVm hW'.alike, X.tail, State.WarmedH.trans X.warmed hW', X.limits, X.bytes, X.same.trans (hsame.setVm s.vm)⟩,
      ⟨g, mk, s₂, L, rfl, rfl, hqc, rfl, hL, rfl, rfl⟩, ?_⟩
    show Steps p.tables e below _ ((({ U with heap := s₂.heap, slotsUsed := s₂.slotsUsed } : State).setVm s₂.vm).setTop { g with pc := g.pc + len₂, stack := v.toList ++ g.stack })
    rw [← hs₂]
    exact hsteps
  · obtain ⟨e2, q2, q3, q4, q5, q6⟩ := id hsm
    have e3 : s₂ = ({ (U.calling g mk a).setFrames s₂.frames with heap := s₂.heap, slotsUsed := s₂.slotsUsed } : State).setVm s₂.vm := by
      have : s₂ = ({ s₂ with vm := (U.calling g mk a).vm } : State).setVm s₂.vm := rfl
      rw [e2] at this
      exact this
    have hf₂ : s₂.frames = .throwing q :: .java g :: U.frames.tail := hend
    have hW' : U.WarmedH s₂.vm := hW₂
    have hs₂ : s₂ = ((({ U with heap := s₂.heap, slotsUsed := s₂.slotsUsed } : State).setVm s₂.vm).setTop g).pushFrame (.throwing q) := by
      refine e3.trans ?_
      rw [hf₂, State.calling_eq h.top, State.setFrames_setFrames, State.pushFrame, State.frames_setTop _ hr', State.setTop_of_frames _ hr', State.setFrames_setFrames, hr]
      rfl
    have hsame : U.sameButNew ({ U with heap := s₂.heap, slotsUsed := s₂.slotsUsed } : State) L mc ms := by
      refine ⟨?_, q2, q3, q4, q5, q6⟩
      obtain ⟨t, ht, -⟩ := State.frames_cons hr
      show ({ U with heap := s₂.heap, slotsUsed := s₂.slotsUsed } : State) = { U.setFrames U.frames with heap := s₂.heap, slotsUsed := s₂.slotsUsed }
      rw [State.setFrames_self ht]
    subst hg
    refine Or.inr ⟨q, ⟨(({ U with heap := s₂.heap, slotsUsed := s₂.slotsUsed } : State).setVm s₂.vm), Ls ++ L, c0 + mc, s0 + ms⟩,
      ⟨X.admits, X.cas, X.clock, X.frames, X.room, X.hears, X.method, X.code, (X.here.setHeapUsed s₂.heap s₂.slotsUsed).setVm hW'.alike, X.tail, State.WarmedH.trans X.warmed hW', X.limits, X.bytes, X.same.trans (hsame.setVm s.vm)⟩,
      ⟨g, mk, s₂, L, E, ce, rfl, rfl, hx, hce, hcv, hcl, rfl, hL, rfl, rfl⟩, ?_⟩
    show Steps p.tables e below _ (((({ U with heap := s₂.heap, slotsUsed := s₂.slotsUsed } : State).setVm s₂.vm).setTop g).pushFrame (.throwing q))
    rw [← hs₂]
    exact hsteps
end Payer
section Calls
variable {p : Program} {l : Launch} {e : Env} {R : Room} {s : State} {m : MethodId} {args : Array Value} {below : List Frame} {meth : Method} {c : Code} {T : State} {locs : List Loc} {cells slots : Nat}
theorem vx_callV (X : Stand p l e R s m args below meth c T locs cells slots) (hexec : p.tables.exec = Jvm.exec) {own C : String} {index : Nat} {y : MethodName} {bytes : ByteArray} {maxL : Nat} {ret : Option FieldType}
    (hown : s.vm.findClass own = some m.cls) (hlink : (Cond.methodLink own index y).before args s = true) (hinst : (Cond.instanceMethod y).before args s = true) (hsel : (Cond.selects C y y).before args s = true)
    (hcode : (Cond.code y bytes maxL ret).before args s = true) (hy : y.cls ≠ "java/lang/invoke/MethodHandle" ∧ y.cls ≠ "java/lang/invoke/VarHandle")
    {W9 : Nat} {Pre : Pt → Array Value → Prop} {Post : Pt → Array Value → Option Value → Pt → Prop} {PostX : Pt → Array Value → Addr → Pt → Prop} (hK : vx_Back l R p e below s args y 3 W9 Pre Post PostX)
    {b : Addr} {cellB : Cell} (hcell : T.heap[b]? = some cellB) (hobj : cellB.vm.isStatics = false) (hcls : s.vm.findClass C = some cellB.cls)
    {g : JFrame} (hg : g.method = m) (hsize : g.locals.size = c.maxLocals) {argsL rest : List Value} (hlen : ∀ sig, parseMethodDescriptor y.desc = some sig → argsL.length = sig.parameters.length)
    (hstack : g.stack = argsL.reverse ++ .ref b :: rest) (hW : 2 * g.monitorRoom + (rest.map fun v => v.category).sum ≤ W9) (hdg : decode c.code g.pc = .ok (.invokevirtual index, 3))
    (hpre : ∀ vm₁, s.WarmedH vm₁ → Pre ⟨T.setVm vm₁, locs, cells, slots⟩ (Value.ref b :: argsL).toArray) :
    (∃ (v : Option Value) (vm₁ : Vm) (B : Pt), s.WarmedH vm₁ ∧ Stand p l e R s m args below meth c B.U B.locs B.cells B.slots ∧ Post ⟨T.setVm vm₁, locs, cells, slots⟩ (Value.ref b :: argsL).toArray v B ∧
      ∀ target, Steps p.tables e below (B.U.setTop { g with pc := g.pc + 3, stack := v.toList ++ rest }) target → Steps p.tables e below (T.setTop g) target) ∨
    (∃ (q : Addr) (vm₁ : Vm) (B : Pt), s.WarmedH vm₁ ∧ Stand p l e R s m args below meth c B.U B.locs B.cells B.slots ∧ PostX ⟨T.setVm vm₁, locs, cells, slots⟩ (Value.ref b :: argsL).toArray q B ∧
      Steps p.tables e below (T.setTop g) ((B.U.setTop { g with stack := rest }).pushFrame (.throwing q))) := by
  obtain ⟨mk, methM, hnamed, hmethM, hstM, habM⟩ := Cond.instanceMethod_spec hinst
  obtain ⟨methM', cM, hmethM', -, -, -, -, -, -, hsigM⟩ := Cond.code_spec hnamed hcode
  cases hmethM.symm.trans hmethM'
  obtain ⟨c2, r2, m2, q1, q2, q3, q4, kP, hkP, hkPi⟩ := Cond.selects_spec hsel
  cases hcls.symm.trans q1
  cases (State.methodFound?_of_named hnamed hy).symm.trans q2
  cases hnamed.symm.trans q3
  have hselP : selectMethod e.platform s.vm cellB.cls mk = .method mk := by rw [Launch.admits_selectMethod X.admits]; exact q4
  obtain ⟨vm₁, X₁, hstep₁⟩ := X.invokevirtual hexec hown hlink hnamed hmethM hstM hkP hkPi hy (a := b) (cell := cellB) hcell
    (fun z h => by rw [h] at hobj; cases hobj) hselP hmethM habM hkP hkPi (g := g) hg (argsL := argsL) (rest := rest) (hlen _ hsigM) hstack hdg
  rcases hK m meth c ⟨T.setVm vm₁, locs, cells, slots⟩ { g with stack := rest } (.invokevirtual index) mk (Value.ref b :: argsL).toArray X₁ hg hsize hdg hW (X₁.named hnamed) (hpre vm₁ X₁.warmed) with ⟨v, B, X', hpost, hsteps⟩ | ⟨q, B, X', hpost, hsteps⟩
  · exact Or.inl ⟨v, vm₁, B, X₁.warmed, X', hpost, fun target h => hstep₁ _ fun acts => by rw [doInvoke_state]; exact hsteps.trans h⟩
  · exact Or.inr ⟨q, vm₁, B, X₁.warmed, X', hpost, hstep₁ _ fun acts => by rw [doInvoke_state]; exact hsteps⟩
theorem vx_callS (X : Stand p l e R s m args below meth c T locs cells slots) (hexec : p.tables.exec = Jvm.exec) {own : String} {index : Nat} {y : MethodName} {bytes : ByteArray} {maxL : Nat} {ret : Option FieldType}
    (hown : s.vm.findClass own = some m.cls) (hlink : (Cond.methodLink own index y).before args s = true) (hstat : (Cond.static y).before args s = true) (hinit : (Cond.initialized y.cls).before args s = true)
    (hcode : (Cond.code y bytes maxL ret).before args s = true) (hy : y.cls ≠ "java/lang/invoke/MethodHandle" ∧ y.cls ≠ "java/lang/invoke/VarHandle")
    {W9 : Nat} {Pre : Pt → Array Value → Prop} {Post : Pt → Array Value → Option Value → Pt → Prop} {PostX : Pt → Array Value → Addr → Pt → Prop} (hK : vx_Back l R p e below s args y 3 W9 Pre Post PostX)
    {g : JFrame} (hg : g.method = m) (hsize : g.locals.size = c.maxLocals) {argsL rest : List Value} (hlen : ∀ sig, parseMethodDescriptor y.desc = some sig → argsL.length = sig.parameters.length)
    (hstack : g.stack = argsL.reverse ++ rest) (hW : 2 * g.monitorRoom + (rest.map fun v => v.category).sum ≤ W9) (hdg : decode c.code g.pc = .ok (.invokestatic index, 3))
    (hpre : ∀ vm₁, s.WarmedH vm₁ → Pre ⟨T.setVm vm₁, locs, cells, slots⟩ argsL.toArray) :
    (∃ (v : Option Value) (vm₁ : Vm) (B : Pt), s.WarmedH vm₁ ∧ Stand p l e R s m args below meth c B.U B.locs B.cells B.slots ∧ Post ⟨T.setVm vm₁, locs, cells, slots⟩ argsL.toArray v B ∧
      ∀ target, Steps p.tables e below (B.U.setTop { g with pc := g.pc + 3, stack := v.toList ++ rest }) target → Steps p.tables e below (T.setTop g) target) ∨
    (∃ (q : Addr) (vm₁ : Vm) (B : Pt), s.WarmedH vm₁ ∧ Stand p l e R s m args below meth c B.U B.locs B.cells B.slots ∧ PostX ⟨T.setVm vm₁, locs, cells, slots⟩ argsL.toArray q B ∧
      Steps p.tables e below (T.setTop g) ((B.U.setTop { g with stack := rest }).pushFrame (.throwing q))) := by
  obtain ⟨mk, hnamed⟩ := Cond.code_named hcode
  obtain ⟨methM, cM, hmethM, -, -, -, -, -, -, hsigM⟩ := Cond.code_spec hnamed hcode
  have hstatic : methM.isStatic = true := Cond.static_spec hnamed hmethM hstat
  obtain ⟨kP, hkP, -⟩ := className_of_methodNamed hnamed
  have hinitP : kP.init = .initialized := Cond.initialized_spec (findClass_of_methodNamed hnamed) hkP hinit
  obtain ⟨vm₁, X₁, hstep₁⟩ := X.invokestatic hexec hown hlink hnamed hmethM hstatic hkP hinitP hy (g := g) hg (argsL := argsL) (rest := rest) (hlen _ hsigM) hstack hdg
  rcases hK m meth c ⟨T.setVm vm₁, locs, cells, slots⟩ { g with stack := rest } (.invokestatic index) mk argsL.toArray X₁ hg hsize hdg hW (X₁.named hnamed) (hpre vm₁ X₁.warmed) with ⟨v, B, X', hpost, hsteps⟩ | ⟨q, B, X', hpost, hsteps⟩
  · exact Or.inl ⟨v, vm₁, B, X₁.warmed, X', hpost, fun target h => hstep₁ _ fun acts => by rw [doInvoke_state]; exact hsteps.trans h⟩
  · exact Or.inr ⟨q, vm₁, B, X₁.warmed, X', hpost, hstep₁ _ fun acts => by rw [doInvoke_state]; exact hsteps⟩
end Calls
theorem vx_cls {s : State} {T : State} {vm₁ : Vm} {E : String} {k : ClassId} (hW : s.WarmedH vm₁) (h : (T.setVm vm₁).vm.findClass E = some k) : s.vm.findClass E = some k := by
  have h1 : vm₁.findClass E = some k := h
  rw [hW.alike.findClass] at h1
  exact h1
/-- the method's frame g, with q thrown over it -/
def vx_W (p : Program) (l : Launch) (e : Env) (R : Room) (s : State) (m : MethodId) (args : Array Value) (below : List Frame) (meth : Method) (c : Code) (H : Heap) (locs : List Loc) (cells slots : Nat) (Q : State → Prop) (g : JFrame) (q : Addr) : Prop :=
  ∀ T : State, T.heap = H → Stand p l e R s m args below meth c T locs cells slots → ∃ t, Steps p.tables e below ((T.setTop g).pushFrame (.throwing q)) t ∧ Q t
def vx_Run (p : Program) (l : Launch) (e : Env) (R : Room) (s : State) (m : MethodId) (args : Array Value) (below : List Frame) (meth : Method) (c : Code) (H : Heap) (locs : List Loc) (cells slots mc ms : Nat) (g : JFrame) (rest : List Value) (Qa : State → Outcome → State → Prop) (XC : String → State → State → Prop) (free : Addr → Prop) : Prop :=
  ∀ T : State, T.heap = H → Stand p l e R s m args below meth c T locs cells slots →
    (∃ (v : Option Value) (st₀ t T' : State) (L : List Loc), st₀.heap = H ∧ Stand p l e R s m args below meth c T' (locs ++ L) (cells + mc) (slots + ms) ∧ (∀ q ∈ L, free q.base) ∧ T'.heap = t.heap ∧ T'.vm = t.vm ∧ Qa st₀ (.returned v) t ∧
      Goes p e below T g T' { g with pc := g.pc + 3, stack := v.toList ++ rest }) ∨
    (∃ (q : Addr) (st₀ t T' : State) (L : List Loc) (E : String) (ce : Cell), st₀.heap = H ∧ Stand p l e R s m args below meth c T' (locs ++ L) (cells + mc) (slots + ms) ∧ (∀ z ∈ L, free z.base) ∧ T'.heap = t.heap ∧ T'.vm = t.vm ∧ XC E st₀ t ∧ t.heap[q]? = some ce ∧ ce.vm = .none ∧ s.vm.findClass E = some ce.cls ∧
      Steps p.tables e below (T.setTop g) ((T'.setTop { g with stack := rest }).pushFrame (.throwing q)))
def vx_X {S : Type} (px : S → Prop) (B : String → S → State → Prop) (A : Nat → Prop) : String → State → State → Prop := fun E st t => ∃ u : S, px u ∧ B E u t ∧ va_F A st t
section Runs
variable {p : Program} {l : Launch} {e : Env} {R : Room} {s : State} {m : MethodId} {args : Array Value} {below : List Frame} {meth : Method} {c : Code} {H : Heap} {locs : List Loc} {cells slots : Nat}
variable {y : MethodName} {bytes cc : ByteArray} {maxL nL mc ms n index : Nat} {ret : Option FieldType} {ws : List Cond} {rm : Room} {Pc : Array Value → State → Prop} {Qc : Array Value → State → Outcome → State → Prop} {XC : String → State → State → Prop} {free : Addr → Prop} {Ts : List Cond} {own C : String} {b : Addr} {As rest : List Value} {g : JFrame}
theorem vx_callBack (cb : CallB R s args own index y bytes maxL ret ws rm mc ms n) (hM : vx_Met l y ws rm Pc Qc XC mc ms free) (hbl : FrameBlind Pc) : vx_Back l R p e below s args y 3 8 (PreOf R mc ms Pc) (PostOf Qc mc ms free) (vx_Post XC mc ms free) := by
  obtain ⟨hrc, hrs, hfr, hlo, hws, hcw, -, hini, -⟩ := cb
  exact vx_back (bytes := bytes) (maxL := maxL) (ret := ret) hM hbl hrc hrs hfr hlo hws hcw (fun a' U hW => word_at hW (Or.inl (by first | rfl | simp [Cond.onTables, Cond.keeps, Cond.steady])) hini)
theorem vx_runV (S : CallFix p m c cc nL s args Ts own) (hM : vx_Met l y ws rm Pc Qc XC mc ms free) (cw : CallW R s args own C index y bytes maxL ret ws rm mc ms n) (hp : PreV s H C b Pc As)
    (hg : g.method = m) (hn : As.length = n) (hsize : g.locals.size = nL) (hstack : g.stack = As.reverse ++ .ref b :: rest) (hW : 2 * g.monitorRoom + (rest.map fun v => v.category).sum ≤ 8) (hdg : decode cc g.pc = .ok (.invokevirtual index, 3)) (hf : cells + mc ≤ R.cells ∧ slots + ms ≤ R.slots) :
    vx_Run p l e R s m args below meth c H locs cells slots mc ms g rest (Qc (Value.ref b :: As).toArray) XC free := by
  have hK : vx_Back l R p e below s args y 3 8 (PreOf R mc ms Pc) (PostOf Qc mc ms free) (vx_Post XC mc ms free) := vx_callBack cw.1 hM hp.1
  obtain ⟨⟨-, -, -, -, -, -, hcode, -, hy, hlen, hl⟩, hin, hse⟩ := cw
  obtain ⟨hx, hb, hml, ho, -⟩ := S
  obtain ⟨-, ⟨cellB, hcB, hoB, hclB⟩, hPc⟩ := hp
  intro T hT X
  rcases vx_callV X hx (C := C) (bytes := bytes) (maxL := maxL) (ret := ret) ho hl hin hse hcode hy hK (by rw [hT]; exact hcB) hoB hclB hg (hsize.trans hml.symm) (argsL := As) (rest := rest) (fun sig h => hn.trans (hlen sig h)) hstack hW (by rw [hb]; exact hdg)
    (fun vm₁ hW₁ => ⟨hf.1, hf.2, hPc (T.setVm vm₁) hT hW₁⟩) with ⟨v, vm₁, ⟨U', l2, c2, s2⟩, hW₁, X', ⟨g', mk, t, L, e1, e2, hq, h1, hL, h2, h3⟩, st⟩ | ⟨q, vm₁, ⟨U', l2, c2, s2⟩, hW₁, X', ⟨g', mk, t, L, E, ce, e1, e2, hq, hce, hcv, hcl, h1, hL, h2, h3⟩, st⟩
  · dsimp only [Pt.U, Pt.locs, Pt.cells, Pt.slots] at X' e1 e2 h1 h2 h3 st
    subst h1; subst h2; subst h3
    exact Or.inl ⟨v, (T.setVm vm₁).calling g' mk (Value.ref b :: As).toArray, t, U', L, hT, X', hL, e1, e2, hq, st⟩
  · dsimp only [Pt.U, Pt.locs, Pt.cells, Pt.slots] at X' e1 e2 h1 h2 h3 st hcl
    subst h1; subst h2; subst h3
    exact Or.inr ⟨q, (T.setVm vm₁).calling g' mk (Value.ref b :: As).toArray, t, U', L, E, ce, hT, X', hL, e1, e2, hq, hce, hcv, vx_cls hW₁ hcl, st⟩
theorem vx_runS (S : CallFix p m c cc nL s args Ts own) (hM : vx_Met l y ws rm Pc Qc XC mc ms free) (cw : CallB R s args own index y bytes maxL ret ws rm mc ms n ∧ (Cond.static y).before args s = true) (hp : PreS s H Pc As)
    (hg : g.method = m) (hn : As.length = n) (hsize : g.locals.size = nL) (hstack : g.stack = As.reverse ++ rest) (hW : 2 * g.monitorRoom + (rest.map fun v => v.category).sum ≤ 8) (hdg : decode cc g.pc = .ok (.invokestatic index, 3)) (hf : cells + mc ≤ R.cells ∧ slots + ms ≤ R.slots) :
    vx_Run p l e R s m args below meth c H locs cells slots mc ms g rest (Qc As.toArray) XC free := by
  have hK : vx_Back l R p e below s args y 3 8 (PreOf R mc ms Pc) (PostOf Qc mc ms free) (vx_Post XC mc ms free) := vx_callBack cw.1 hM hp.1
  obtain ⟨⟨-, -, -, -, -, -, hcode, hini, hy, hlen, hl⟩, hstt⟩ := cw
  obtain ⟨hx, hb, hml, ho, -⟩ := S
  intro T hT X
  rcases vx_callS X hx (bytes := bytes) (maxL := maxL) (ret := ret) ho hl hstt hini hcode hy hK hg (hsize.trans hml.symm) (argsL := As) (rest := rest) (fun sig h => hn.trans (hlen sig h)) hstack hW (by rw [hb]; exact hdg)
    (fun vm₁ hW₁ => ⟨hf.1, hf.2, hp.2 (T.setVm vm₁) hT hW₁⟩) with ⟨v, vm₁, ⟨U', l2, c2, s2⟩, hW₁, X', ⟨g', mk, t, L, e1, e2, hq, h1, hL, h2, h3⟩, st⟩ | ⟨q, vm₁, ⟨U', l2, c2, s2⟩, hW₁, X', ⟨g', mk, t, L, E, ce, e1, e2, hq, hce, hcv, hcl, h1, hL, h2, h3⟩, st⟩
  · dsimp only [Pt.U, Pt.locs, Pt.cells, Pt.slots] at X' e1 e2 h1 h2 h3 st
    subst h1; subst h2; subst h3
    exact Or.inl ⟨v, (T.setVm vm₁).calling g' mk As.toArray, t, U', L, hT, X', hL, e1, e2, hq, st⟩
  · dsimp only [Pt.U, Pt.locs, Pt.cells, Pt.slots] at X' e1 e2 h1 h2 h3 st hcl
    subst h1; subst h2; subst h3
    exact Or.inr ⟨q, (T.setVm vm₁).calling g' mk As.toArray, t, U', L, E, ce, hT, X', hL, e1, e2, hq, hce, hcv, vx_cls hW₁ hcl, st⟩
end Runs
section Rows
variable {p : Program} {l : Launch} {e : Env} {R : Room} {s : State} {m : MethodId} {args : Array Value} {below : List Frame} {meth : Method} {c : Code} {H : Heap} {locs : List Loc} {cells slots : Nat} {Q : State → Prop}
variable {mc ms : Nat} {free : Addr → Prop} {A0 A1 : Nat → Prop} {H0 : Heap} {a : Array Value} {pc : Nat} {ls : Array Slot} {st0 rest : List Value}
theorem vx_keep {st₀ t T' : State} {L : List Loc} (h0 : st₀.heap = H) (e1 : T'.heap = t.heap) (hS : va_S A0 H0 H locs) (hA : ∀ q, q < H.size → A1 q → A0 q) (hf : ∀ q, free q → A0 q) (hL : ∀ q ∈ L, free q.base) (hF : va_F A1 st₀ t) :
    H.size ≤ T'.heap.size ∧ (∀ q : Nat, q < H.size → ¬ A1 q → T'.heap[q]? = H[q]?) ∧ va_S A0 H0 T'.heap (locs ++ L) := by
  obtain ⟨hz, hk⟩ := hF
  rw [h0] at hz hk
  exact ⟨by rw [e1]; exact hz, fun q h1 h2 => by rw [e1]; exact hk q h1 h2,
    ⟨Nat.le_trans hS.1 (by rw [e1]; exact hz), fun q h1 h2 => by rw [e1, hk q (Nat.lt_of_lt_of_le h1 hS.1) (fun z => h2 (hA q (Nat.lt_of_lt_of_le h1 hS.1) z))]; exact hS.2.1 q h1 h2, fun q hq => by
      rcases List.mem_append.mp hq with h | h
      · exact hS.2.2 q h
      · exact hf _ (hL q h)⟩⟩
theorem vx_calli {S SX : Type} {post : Int32 → S → Prop} {px : SX → Prop} {B : S → State → Prop} {BX : String → SX → State → Prop} {AX : Nat → Prop} (hr : vx_Run p l e R s m args below meth c H locs cells slots mc ms (F0 m pc ls st0) rest (va_Qi post B A1 a) (vx_X px BX AX) free) (hS : va_S A0 H0 H locs) (hA : ∀ q, q < H.size → A1 q → A0 q) (hf : ∀ q, free q → A0 q) (hAX : ∀ q, q < H.size → AX q → A0 q)
    (kx : ∀ (E : String) (ce : Cell) (q9 : Addr) (u : SX) (t : State) (H1 : Heap) (locs1 : List Loc), t.heap = H1 → s.vm.Alike t.vm → px u → BX E u t → H.size ≤ H1.size → (∀ q : Nat, q < H.size → ¬ AX q → H1[q]? = H[q]?) → va_S A0 H0 H1 locs1 → H1[q9]? = some ce → ce.vm = .none → s.vm.findClass E = some ce.cls → vx_W p l e R s m args below meth c H1 locs1 (cells + mc) (slots + ms) Q (F0 m pc ls rest) q9)
    (kk : ∀ (r : Int32) (u : S) (t : State) (H1 : Heap) (locs1 : List Loc), t.heap = H1 → s.vm.Alike t.vm → post r u → B u t → H.size ≤ H1.size → (∀ q : Nat, q < H.size → ¬ A1 q → H1[q]? = H[q]?) → va_S A0 H0 H1 locs1 → W p l e R s m args below meth c H1 locs1 (cells + mc) (slots + ms) Q (F0 m (pc + 3) ls (.int r :: rest))) : W p l e R s m args below meth c H locs cells slots Q (F0 m pc ls st0) := by
  intro T hT X
  rcases hr T hT X with ⟨v, st₀, t, T', L, h0, X', hL, e1, e2, ⟨⟨r, u, hv, hp, hb⟩, hF⟩, st⟩ | ⟨q, st₀, t, T', L, E, ce, h0, X', hL, e1, e2, ⟨u, hp, hb, hF⟩, hce, hcv, hcl, st⟩
  · cases hv
    obtain ⟨k1, k2, k3⟩ := vx_keep h0 e1 hS hA hf hL hF
    obtain ⟨t2, a1, b1⟩ := kk r u t T'.heap (locs ++ L) e1.symm (by rw [← e2]; exact X'.warmed.alike) hp hb k1 k2 k3 T' rfl X'
    exact ⟨t2, st t2 a1, b1⟩
  · obtain ⟨k1, k2, k3⟩ := vx_keep h0 e1 hS hAX hf hL hF
    obtain ⟨t2, a1, b1⟩ := kx E ce q u t T'.heap (locs ++ L) e1.symm (by rw [← e2]; exact X'.warmed.alike) hp hb k1 k2 k3 (by rw [e1]; exact hce) hcv hcl T' rfl X'
    exact ⟨t2, st.trans a1, b1⟩
theorem vx_calll {S SX : Type} {post : Int64 → S → Prop} {px : SX → Prop} {B : S → State → Prop} {BX : String → SX → State → Prop} {AX : Nat → Prop} (hr : vx_Run p l e R s m args below meth c H locs cells slots mc ms (F0 m pc ls st0) rest (va_Ql post B A1 a) (vx_X px BX AX) free) (hS : va_S A0 H0 H locs) (hA : ∀ q, q < H.size → A1 q → A0 q) (hf : ∀ q, free q → A0 q) (hAX : ∀ q, q < H.size → AX q → A0 q)
    (kx : ∀ (E : String) (ce : Cell) (q9 : Addr) (u : SX) (t : State) (H1 : Heap) (locs1 : List Loc), t.heap = H1 → s.vm.Alike t.vm → px u → BX E u t → H.size ≤ H1.size → (∀ q : Nat, q < H.size → ¬ AX q → H1[q]? = H[q]?) → va_S A0 H0 H1 locs1 → H1[q9]? = some ce → ce.vm = .none → s.vm.findClass E = some ce.cls → vx_W p l e R s m args below meth c H1 locs1 (cells + mc) (slots + ms) Q (F0 m pc ls rest) q9)
    (kk : ∀ (r : Int64) (u : S) (t : State) (H1 : Heap) (locs1 : List Loc), t.heap = H1 → s.vm.Alike t.vm → post r u → B u t → H.size ≤ H1.size → (∀ q : Nat, q < H.size → ¬ A1 q → H1[q]? = H[q]?) → va_S A0 H0 H1 locs1 → W p l e R s m args below meth c H1 locs1 (cells + mc) (slots + ms) Q (F0 m (pc + 3) ls (.long r :: rest))) : W p l e R s m args below meth c H locs cells slots Q (F0 m pc ls st0) := by
  intro T hT X
  rcases hr T hT X with ⟨v, st₀, t, T', L, h0, X', hL, e1, e2, ⟨⟨r, u, hv, hp, hb⟩, hF⟩, st⟩ | ⟨q, st₀, t, T', L, E, ce, h0, X', hL, e1, e2, ⟨u, hp, hb, hF⟩, hce, hcv, hcl, st⟩
  · cases hv
    obtain ⟨k1, k2, k3⟩ := vx_keep h0 e1 hS hA hf hL hF
    obtain ⟨t2, a1, b1⟩ := kk r u t T'.heap (locs ++ L) e1.symm (by rw [← e2]; exact X'.warmed.alike) hp hb k1 k2 k3 T' rfl X'
    exact ⟨t2, st t2 a1, b1⟩
  · obtain ⟨k1, k2, k3⟩ := vx_keep h0 e1 hS hAX hf hL hF
    obtain ⟨t2, a1, b1⟩ := kx E ce q u t T'.heap (locs ++ L) e1.symm (by rw [← e2]; exact X'.warmed.alike) hp hb k1 k2 k3 (by rw [e1]; exact hce) hcv hcl T' rfl X'
    exact ⟨t2, st.trans a1, b1⟩
theorem vx_callf {S SX : Type} {post : UInt32 → S → Prop} {px : SX → Prop} {B : S → State → Prop} {BX : String → SX → State → Prop} {AX : Nat → Prop} (hr : vx_Run p l e R s m args below meth c H locs cells slots mc ms (F0 m pc ls st0) rest (va_Qf post B A1 a) (vx_X px BX AX) free) (hS : va_S A0 H0 H locs) (hA : ∀ q, q < H.size → A1 q → A0 q) (hf : ∀ q, free q → A0 q) (hAX : ∀ q, q < H.size → AX q → A0 q)
    (kx : ∀ (E : String) (ce : Cell) (q9 : Addr) (u : SX) (t : State) (H1 : Heap) (locs1 : List Loc), t.heap = H1 → s.vm.Alike t.vm → px u → BX E u t → H.size ≤ H1.size → (∀ q : Nat, q < H.size → ¬ AX q → H1[q]? = H[q]?) → va_S A0 H0 H1 locs1 → H1[q9]? = some ce → ce.vm = .none → s.vm.findClass E = some ce.cls → vx_W p l e R s m args below meth c H1 locs1 (cells + mc) (slots + ms) Q (F0 m pc ls rest) q9)
    (kk : ∀ (r : UInt32) (u : S) (t : State) (H1 : Heap) (locs1 : List Loc), t.heap = H1 → s.vm.Alike t.vm → post r u → B u t → H.size ≤ H1.size → (∀ q : Nat, q < H.size → ¬ A1 q → H1[q]? = H[q]?) → va_S A0 H0 H1 locs1 → W p l e R s m args below meth c H1 locs1 (cells + mc) (slots + ms) Q (F0 m (pc + 3) ls (.float r :: rest))) : W p l e R s m args below meth c H locs cells slots Q (F0 m pc ls st0) := by
  intro T hT X
  rcases hr T hT X with ⟨v, st₀, t, T', L, h0, X', hL, e1, e2, ⟨⟨r, u, hv, hp, hb⟩, hF⟩, st⟩ | ⟨q, st₀, t, T', L, E, ce, h0, X', hL, e1, e2, ⟨u, hp, hb, hF⟩, hce, hcv, hcl, st⟩
  · cases hv
    obtain ⟨k1, k2, k3⟩ := vx_keep h0 e1 hS hA hf hL hF
    obtain ⟨t2, a1, b1⟩ := kk r u t T'.heap (locs ++ L) e1.symm (by rw [← e2]; exact X'.warmed.alike) hp hb k1 k2 k3 T' rfl X'
    exact ⟨t2, st t2 a1, b1⟩
  · obtain ⟨k1, k2, k3⟩ := vx_keep h0 e1 hS hAX hf hL hF
    obtain ⟨t2, a1, b1⟩ := kx E ce q u t T'.heap (locs ++ L) e1.symm (by rw [← e2]; exact X'.warmed.alike) hp hb k1 k2 k3 (by rw [e1]; exact hce) hcv hcl T' rfl X'
    exact ⟨t2, st.trans a1, b1⟩
theorem vx_calld {S SX : Type} {post : UInt64 → S → Prop} {px : SX → Prop} {B : S → State → Prop} {BX : String → SX → State → Prop} {AX : Nat → Prop} (hr : vx_Run p l e R s m args below meth c H locs cells slots mc ms (F0 m pc ls st0) rest (va_Qd post B A1 a) (vx_X px BX AX) free) (hS : va_S A0 H0 H locs) (hA : ∀ q, q < H.size → A1 q → A0 q) (hf : ∀ q, free q → A0 q) (hAX : ∀ q, q < H.size → AX q → A0 q)
    (kx : ∀ (E : String) (ce : Cell) (q9 : Addr) (u : SX) (t : State) (H1 : Heap) (locs1 : List Loc), t.heap = H1 → s.vm.Alike t.vm → px u → BX E u t → H.size ≤ H1.size → (∀ q : Nat, q < H.size → ¬ AX q → H1[q]? = H[q]?) → va_S A0 H0 H1 locs1 → H1[q9]? = some ce → ce.vm = .none → s.vm.findClass E = some ce.cls → vx_W p l e R s m args below meth c H1 locs1 (cells + mc) (slots + ms) Q (F0 m pc ls rest) q9)
    (kk : ∀ (r : UInt64) (u : S) (t : State) (H1 : Heap) (locs1 : List Loc), t.heap = H1 → s.vm.Alike t.vm → post r u → B u t → H.size ≤ H1.size → (∀ q : Nat, q < H.size → ¬ A1 q → H1[q]? = H[q]?) → va_S A0 H0 H1 locs1 → W p l e R s m args below meth c H1 locs1 (cells + mc) (slots + ms) Q (F0 m (pc + 3) ls (.double r :: rest))) : W p l e R s m args below meth c H locs cells slots Q (F0 m pc ls st0) := by
  intro T hT X
  rcases hr T hT X with ⟨v, st₀, t, T', L, h0, X', hL, e1, e2, ⟨⟨r, u, hv, hp, hb⟩, hF⟩, st⟩ | ⟨q, st₀, t, T', L, E, ce, h0, X', hL, e1, e2, ⟨u, hp, hb, hF⟩, hce, hcv, hcl, st⟩
  · cases hv
    obtain ⟨k1, k2, k3⟩ := vx_keep h0 e1 hS hA hf hL hF
    obtain ⟨t2, a1, b1⟩ := kk r u t T'.heap (locs ++ L) e1.symm (by rw [← e2]; exact X'.warmed.alike) hp hb k1 k2 k3 T' rfl X'
    exact ⟨t2, st t2 a1, b1⟩
  · obtain ⟨k1, k2, k3⟩ := vx_keep h0 e1 hS hAX hf hL hF
    obtain ⟨t2, a1, b1⟩ := kx E ce q u t T'.heap (locs ++ L) e1.symm (by rw [← e2]; exact X'.warmed.alike) hp hb k1 k2 k3 (by rw [e1]; exact hce) hcv hcl T' rfl X'
    exact ⟨t2, st.trans a1, b1⟩
theorem vx_callv {S SX : Type} {post : S → Prop} {px : SX → Prop} {B : S → State → Prop} {BX : String → SX → State → Prop} {AX : Nat → Prop} (hr : vx_Run p l e R s m args below meth c H locs cells slots mc ms (F0 m pc ls st0) rest (va_Qv post B A1 a) (vx_X px BX AX) free) (hS : va_S A0 H0 H locs) (hA : ∀ q, q < H.size → A1 q → A0 q) (hf : ∀ q, free q → A0 q) (hAX : ∀ q, q < H.size → AX q → A0 q)
    (kx : ∀ (E : String) (ce : Cell) (q9 : Addr) (u : SX) (t : State) (H1 : Heap) (locs1 : List Loc), t.heap = H1 → s.vm.Alike t.vm → px u → BX E u t → H.size ≤ H1.size → (∀ q : Nat, q < H.size → ¬ AX q → H1[q]? = H[q]?) → va_S A0 H0 H1 locs1 → H1[q9]? = some ce → ce.vm = .none → s.vm.findClass E = some ce.cls → vx_W p l e R s m args below meth c H1 locs1 (cells + mc) (slots + ms) Q (F0 m pc ls rest) q9)
    (kk : ∀ (u : S) (t : State) (H1 : Heap) (locs1 : List Loc), t.heap = H1 → s.vm.Alike t.vm → post u → B u t → H.size ≤ H1.size → (∀ q : Nat, q < H.size → ¬ A1 q → H1[q]? = H[q]?) → va_S A0 H0 H1 locs1 → W p l e R s m args below meth c H1 locs1 (cells + mc) (slots + ms) Q (F0 m (pc + 3) ls (rest))) : W p l e R s m args below meth c H locs cells slots Q (F0 m pc ls st0) := by
  intro T hT X
  rcases hr T hT X with ⟨v, st₀, t, T', L, h0, X', hL, e1, e2, ⟨⟨u, hv, hp, hb⟩, hF⟩, st⟩ | ⟨q, st₀, t, T', L, E, ce, h0, X', hL, e1, e2, ⟨u, hp, hb, hF⟩, hce, hcv, hcl, st⟩
  · cases hv
    obtain ⟨k1, k2, k3⟩ := vx_keep h0 e1 hS hA hf hL hF
    obtain ⟨t2, a1, b1⟩ := kk u t T'.heap (locs ++ L) e1.symm (by rw [← e2]; exact X'.warmed.alike) hp hb k1 k2 k3 T' rfl X'
    exact ⟨t2, st t2 a1, b1⟩
  · obtain ⟨k1, k2, k3⟩ := vx_keep h0 e1 hS hAX hf hL hF
    obtain ⟨t2, a1, b1⟩ := kx E ce q u t T'.heap (locs ++ L) e1.symm (by rw [← e2]; exact X'.warmed.alike) hp hb k1 k2 k3 (by rw [e1]; exact hce) hcv hcl T' rfl X'
    exact ⟨t2, st.trans a1, b1⟩
/-- caught by the row x of this method's table; the rows ahead don't take it -/
theorem vx_catch {own name : String} {E : String} {ce : Cell} {q : Addr} (hown : s.vm.findClass own = some m.cls) (pre : List ExceptionTableEntry) (x : ExceptionTableEntry) (suf : List ExceptionTableEntry) (hsplit : c.exceptionTable.toList = pre ++ x :: suf)
    (hpass : ∀ z ∈ pre, covers z pc = false ∨ (z.catchType ≠ 0 ∧ ∃ nm : String, (Cond.classLink own z.catchType nm).before args s = true ∧ va_Nc E nm s)) (hx : covers x pc = true) (h0 : x.catchType ≠ 0)
    (hlink : (Cond.classLink own x.catchType name).before args s = true) (hcast : (Cond.castable E name).before args s = true) (hcell : H[q]? = some ce) (hv : ce.vm = .none) (hcl : s.vm.findClass E = some ce.cls)
    (kk : W p l e R s m args below meth c H locs cells slots Q (F0 m x.handlerPc ls [.ref q])) : vx_W p l e R s m args below meth c H locs cells slots Q (F0 m pc ls rest) q := by
  intro T hT X
  have hpl : e.platform.magicAccessors = ({} : Platform).magicAccessors := by rw [X.admits.platform]
  obtain ⟨c3, c4, hc3, hc4, hasg⟩ := Cond.castable_spec hcast
  cases Option.some.inj (hc3.symm.trans hcl)
  obtain ⟨c5, hc5, hcl5⟩ := Cond.classLink_spec hown hlink e.platform hpl
  cases Option.some.inj (hc4.symm.trans hc5)
  obtain ⟨vm', X', st⟩ := X.thenCaughtThrough q (g := F0 m pc ls rest) rfl (Steps.refl _) (by rw [hT]; exact hcell) (by rw [hv]; rfl) (by obtain ⟨k9, h9, -⟩ := Vm.findClass_spec hcl; exact ⟨k9, h9⟩) pre x suf hsplit
    (fun z hz => by
      rcases hpass z hz with h | ⟨hz0, nm, hl1, hn1⟩
      · exact Or.inl h
      · obtain ⟨c6, hc6, hcl6⟩ := Cond.classLink_spec hown hl1 e.platform hpl
        obtain ⟨a8, b8, h1, h2, h3⟩ := hn1
        cases Option.some.inj (h1.symm.trans hcl)
        cases Option.some.inj (h2.symm.trans hc6)
        exact Or.inr ⟨hz0, _, hcl6, h3⟩) hx (Or.inr ⟨h0, c4, hcl5, hasg⟩)
  obtain ⟨t, a1, b1⟩ := kk (T.setVm vm') hT X'
  exact ⟨t, st.trans a1, b1⟩
end Rows
section Ends
variable {p : Program} {l : Launch} {e : Env} {R : Room} {s : State} {m : MethodId} {args : Array Value} {below : List Frame} {meth : Method} {c : Code} {H : Heap} {locs : List Loc} {cells slots : Nat} {Q : State → Prop}
variable {mc ms : Nat} {free : Addr → Prop} {A0 A1 : Nat → Prop} {H0 : Heap} {a : Array Value} {ls : Array Slot} {st0 rest : List Value}
variable {Qc : Array Value → State → Outcome → State → Prop} {XC : String → State → State → Prop}
/-- what a body that may throw owes at its end -/
def vx_MQ (below : List Frame) (Qc : Array Value → State → Outcome → State → Prop) (XC : String → State → State → Prop) (a : Array Value) (s : State) (mc ms : Nat) (free : Addr → Prop) : State → Prop := fun t =>
  ∃ o, t.status = .running ∧ Ended t below o ∧ vx_Q Qc XC mc ms free a s o t
theorem vx_ret {g : JFrame} {mc ms : Nat} (k : W p l e R s m args below meth c H locs cells slots (MQ below Qc args s mc ms free) g) : W p l e R s m args below meth c H locs cells slots (vx_MQ below Qc XC args s mc ms free) g := by
  intro T hT X
  obtain ⟨t, a1, o, b1, b2, b3, b4⟩ := k T hT X
  exact ⟨t, a1, o, b1, b2, Or.inl ⟨b3, b4⟩⟩
/-- not caught here: it goes on to the caller -/
theorem vx_widen {g : JFrame} {q : Addr} {k n : Nat} (h1 : cells ≤ k) (h2 : slots ≤ n) (kk : vx_W p l e R s m args below meth c H locs k n Q g q) : vx_W p l e R s m args below meth c H locs cells slots Q g q := fun T hT X => kk T hT (stand_widen X h1 h2)
theorem vx_out {pc : Nat} {E : String} {ce : Cell} {q : Addr} {mc ms : Nat} (hout : ∀ x ∈ c.exceptionTable.toList, covers x pc = false) (hlocks : meth.locks = false) (hcell : H[q]? = some ce) (hv : ce.vm = .none) (hcl : s.vm.findClass E = some ce.cls)
    (hx : ∀ t : State, t.heap = H → s.vm.Alike t.vm → XC E s t) (hf : ∀ z ∈ locs, free z.base) (hc : cells ≤ mc) (hs : slots ≤ ms) :
    vx_W p l e R s m args below meth c H locs cells slots (vx_MQ below Qc XC args s mc ms free) (F0 m pc ls rest) q := by
  intro T hT X
  obtain ⟨st1, hrun, hend, hW, hsm⟩ := X.leaveThrown q (g := F0 m pc ls rest) rfl rfl rfl hout hlocks
  have hcell9 : (T.setFrames (.throwing q :: below)).heap[q]? = some ce := by
    show T.heap[q]? = some ce
    rw [hT]; exact hcell
  exact ⟨_, st1, .threw q, hrun, hend, Or.inr ⟨q, rfl, E, ce, locs, hx _ hT hW.alike, hcell9, hv, hcl, hW, hsm.mono hc hs, hf⟩⟩
theorem vx_frame {U : State} {k n : Nat} (h : s.sameButNew ({ U with vm := s.vm } : State) locs k n) : s.heap.size ≤ U.heap.size ∧ ∀ q : Nat, q < s.heap.size → (∀ z ∈ locs, z.base ≠ q) → U.heap[q]? = s.heap[q]? := by
  obtain ⟨-, h2, -, -, -, h6⟩ := h
  refine ⟨h2, fun q hq hz => ?_⟩
  obtain ⟨c9, e1, e2, e3, e4⟩ := h6 q _ (Array.getElem?_eq_getElem hq)
  have hs : c9.slots = (s.heap[q]).slots := Array.ext_getElem? fun i => e4 i fun hm => hz _ hm rfl
  have h9 : c9 = s.heap[q] := by
    rw [hs] at e2
    exact e2
  have e5 : U.heap[q]? = some c9 := e1
  rw [e5, h9, Array.getElem?_eq_getElem hq]
/-- the words of a throw but the four that speak of the heap -/
def vx_no (w : Cond) : Bool := decide (w ≠ .isRef (.static Bundle.tN "UNASSIGNED_STACK" Bundle.steD)) && decide (w ≠ .isRef (.static Bundle.tN "SUPPRESSED_SENTINEL" Bundle.listD)) && decide (w ≠ .laysStatic Bundle.tN "UNASSIGNED_STACK" Bundle.steD) && decide (w ≠ .laysStatic Bundle.tN "SUPPRESSED_SENTINEL" Bundle.listD)
def vx_at0 (own : String) (ic : Nat) (X : String) (names : List String) : List Cond := (Bundle.ownAtoms0 own ic X names).filter vx_no
def vx_atS (own : String) (ic : Nat) (X : String) (names : List String) : List Cond := (Bundle.ownAtoms own ic X names).filter vx_no
/-- a word that the tables alone decide, or a good one -/
def vx_ot (w : Cond) : Bool := w.onTables || goodWord w
theorem vx_ot_at {args a' : Array Value} {s U : State} {w : Cond} (hW : s.WarmedH U.vm) (hvm : s.vm = U.vm) (hg : vx_ot w = true) (h : w.before args s = true) : w.before a' U = true := by
  simp only [vx_ot, Bool.or_eq_true] at hg
  rcases hg with hg | hg
  · exact va_tabs hg hvm h
  · exact word_at hW (good_of_word hg) h
/-- a list's words: the good ones out of the method's own list, the others by premises of their own -/
theorem vx_hat {args : Array Value} {s : State} {L B : List Cond} (h1 : ∀ w ∈ L.filter goodWord, w.before args s = true) (h2 : ∀ w ∈ L.filter (fun w => !goodWord w), w ∈ B) (h3 : ∀ w ∈ B, w.before args s = true) : ∀ w ∈ L, w.before args s = true := by
  intro w hw
  by_cases g : goodWord w = true
  · exact h1 w (List.mem_filter.mpr ⟨hw, g⟩)
  · refine h3 w (h2 w (List.mem_filter.mpr ⟨hw, ?_⟩))
    show (!goodWord w) = true
    cases hgw : goodWord w
    · rfl
    · exact absurd hgw g
theorem vx_c {args : Array Value} {s : State} {w : Cond} {B : List Cond} (h : w.before args s = true) (t : ∀ w ∈ B, w.before args s = true) : ∀ w' ∈ w :: B, w'.before args s = true := fun w' h' => (List.mem_cons.mp h').elim (fun e => by rw [e]; exact h) (t w')
theorem vx_n {args : Array Value} {s : State} : ∀ w ∈ ([] : List Cond), w.before args s = true := fun _ h => nomatch h
theorem vx_own {args : Array Value} {s : State} {L : List Cond} (h1 : ∀ w ∈ L.filter vx_no, w.before args s = true)
    (hU : (Cond.isRef (.static Bundle.tN "UNASSIGNED_STACK" Bundle.steD)).before args s = true) (hN : (Cond.isRef (.static Bundle.tN "SUPPRESSED_SENTINEL" Bundle.listD)).before args s = true)
    (lU : (Cond.laysStatic Bundle.tN "UNASSIGNED_STACK" Bundle.steD).before args s = true) (lN : (Cond.laysStatic Bundle.tN "SUPPRESSED_SENTINEL" Bundle.listD).before args s = true) : ∀ w ∈ L, w.before args s = true := by
  intro w hw
  by_cases e1 : w = .isRef (.static Bundle.tN "UNASSIGNED_STACK" Bundle.steD)
  · rw [e1]; exact hU
  · by_cases e2 : w = .isRef (.static Bundle.tN "SUPPRESSED_SENTINEL" Bundle.listD)
    · rw [e2]; exact hN
    · by_cases e3 : w = .laysStatic Bundle.tN "UNASSIGNED_STACK" Bundle.steD
      · rw [e3]; exact lU
      · by_cases e4 : w = .laysStatic Bundle.tN "SUPPRESSED_SENTINEL" Bundle.listD
        · rw [e4]; exact lN
        · exact h1 w (List.mem_filter.mpr ⟨hw, by unfold vx_no; rw [decide_eq_true e1, decide_eq_true e2, decide_eq_true e3, decide_eq_true e4]; rfl⟩)
/-- where a static field lies, its class's statics cell in H -/
def vx_L (C n d : String) (A : Nat → Prop) (U : State) (H : Heap) : Prop := ∃ (c : ClassId) (k : Class) (i : Nat) (f : Field) (a : Nat) (cell : Cell), U.vm.findClass C = some c ∧ U.fieldFound? C n d = some (c, k, i, f) ∧ f.isStatic = true ∧ k.statics = some a ∧ H[a]? = some cell ∧ cell.vm.isStatics = true ∧ cell.cls = c ∧ f.slot < cell.slots.size ∧ k.staticTypes[f.slot]? = some f.type ∧ ¬ A a
theorem vx_L.moved {C n d : String} {A : Nat → Prop} {u U : State} {H : Heap} (hvm : u.vm.Alike U.vm) (h : vx_L C n d A u H) : vx_L C n d A U H := by
  obtain ⟨c, k, i, f, a, cell, h1, h2, h3, h4, h5, h6, h7, h8, h9, h10⟩ := h
  obtain ⟨k', hi', he⟩ := State.fieldFound?_setVm hvm h2
  exact ⟨c, k', i, f, a, cell, by rw [hvm.findClass]; exact h1, hi', h3, by rw [he]; exact h4, h5, h6, h7, h8, by rw [he]; exact h9, h10⟩
theorem vx_L.kept {C n d : String} {A : Nat → Prop} {U : State} {H H1 : Heap} (h : vx_L C n d A U H) (hq : ∀ a : Nat, a < H.size → ¬ A a → H1[a]? = H[a]?) : vx_L C n d A U H1 := by
  obtain ⟨c, k, i, f, a, cell, h1, h2, h3, h4, h5, h6, h7, h8, h9, h10⟩ := h
  exact ⟨c, k, i, f, a, cell, h1, h2, h3, h4, by rw [hq a (Array.getElem?_eq_some_iff.mp h5).1 h10]; exact h5, h6, h7, h8, h9, h10⟩
theorem vx_L.narrow {C n d : String} {A B : Nat → Prop} {U : State} {H : Heap} (h : vx_L C n d A U H) (hAB : ∀ q, B q → A q) : vx_L C n d B U H := by
  obtain ⟨c, k, i, f, a, cell, h1, h2, h3, h4, h5, h6, h7, h8, h9, h10⟩ := h
  exact ⟨c, k, i, f, a, cell, h1, h2, h3, h4, h5, h6, h7, h8, h9, fun z => h10 (hAB _ z)⟩
theorem vx_L.word {C n d : String} {A : Nat → Prop} {s : State} {args : Array Value} (h : vx_L C n d A s s.heap) : (Cond.laysStatic C n d).before args s = true := by
  obtain ⟨c, k, i, f, a, cell, h1, h2, h3, h4, h5, h6, h7, h8, h9, -⟩ := h
  show (Cond.laysStatic C n d).holds args s none s [] = true
  exact Cond.laysStatic_of h1 h2 h3 h4 h5 h6 h7 h8 h9
/-- .. and what it holds: null or some reference -/
def vx_Zq (C n d : String) (A : Nat → Prop) (U : State) (H : Heap) : Prop := va_Zq C n d A U H ∧ vx_L C n d A U H
theorem vx_Zq.moved {C n d : String} {A : Nat → Prop} {u U : State} {H : Heap} (hvm : u.vm.Alike U.vm) (h : vx_Zq C n d A u H) : vx_Zq C n d A U H := ⟨va_Zq.moved hvm h.1, vx_L.moved hvm h.2⟩
theorem vx_Zq.kept {C n d : String} {A : Nat → Prop} {U : State} {H H1 : Heap} (h : vx_Zq C n d A U H) (hq : ∀ a : Nat, a < H.size → ¬ A a → H1[a]? = H[a]?) : vx_Zq C n d A U H1 := ⟨va_Zq.kept h.1 hq, vx_L.kept h.2 hq⟩
theorem vx_Zq.narrow {C n d : String} {A B : Nat → Prop} {U : State} {H : Heap} (h : vx_Zq C n d A U H) (hAB : ∀ q, B q → A q) : vx_Zq C n d B U H := ⟨va_Zq.narrow h.1 hAB, vx_L.narrow h.2 hAB⟩
theorem vx_Zqof {args : Array Value} {s : State} {C n d : String} {A : Nat → Prop} (hl : (Cond.laysStatic C n d).before args s = true) (hini : (Cond.initialized C).before args s = true) (h : (Cond.isRef (.static C n d)).before args s = true) (hA : ∀ a : Nat, a < s.heap.size → ¬ A a) : vx_Zq C n d A s s.heap := by
  refine ⟨va_Zqof hl hini h hA, ?_⟩
  obtain ⟨c, k, i, f, a, cell, h1, h2, h3, h4, h5, h6, h7, h8, h9⟩ := Cond.laysStatic_spec hl
  exact ⟨c, k, i, f, a, cell, h1, h2, h3, h4, h5, h6, h7, h8, h9, hA a (Array.getElem?_eq_some_iff.mp h5).1⟩
theorem vx_isRef {C n d : String} {v : Value} {A : Nat → Prop} {s : State} {args : Array Value} (h : va_Z C n d v A s s.heap) (hv : v.isRef = true) : (Cond.isRef (.static C n d)).before args s = true := by
  obtain ⟨cf, kf, fi, f, a, cell, h1, h2, h3, h4, h5, h6, h7, -⟩ := h
  have he : (Term.static C n d).eval args s none [] s = some v := by
    simp [Term.eval, State.fieldNamed?, h1, h2, h4, h5, h6, h7]
  simp only [Cond.before, Cond.holds, Cond.value, he]
  cases v <;> simp_all [Value.isRef]
theorem vx_isRefq {C n d : String} {A : Nat → Prop} {s : State} {args : Array Value} (h : va_Zq C n d A s s.heap) : (Cond.isRef (.static C n d)).before args s = true := by
  rcases h with h | ⟨t, h⟩
  · exact vx_isRef h rfl
  · exact vx_isRef h rfl
/-- the same frame, seen from here: as if the method were called anew in this heap -/
theorem vx_rebase {T : State} (X : Stand p l e R s m args below meth c T locs cells slots) {R' : Room} (hf : R'.frames ≤ R.frames) (hl : R'.locals ≤ R.locals) (hc : cells + R'.cells ≤ R.cells) (hs : slots + R'.slots ≤ R.slots) :
    Stand p l e R' ((T.setVm s.vm).setFrames (.invoking m args :: below)) m args below meth c T [] 0 0 := by
  have htop : (T.setVm s.vm).topJava?.isSome := X.here.top
  have hF : ((T.setVm s.vm).setFrames (.invoking m args :: below)).frames = .invoking m args :: below := State.frames_setFrames _ (State.cur_lt_of_top htop)
  obtain ⟨g₀, hg0⟩ := Option.isSome_iff_exists.mp htop
  obtain ⟨r, hr⟩ := State.topJava?_eq_some.mp hg0
  have hl9 : e.platform.stackLimits (T.setVm s.vm).me = e.platform.stackLimits s.me := X.limits
  have hb9 : (T.setVm s.vm).me.stackBytes = s.me.stackBytes := X.bytes
  refine ⟨X.admits, X.cas, X.clock, hF, ?_, X.hears, X.method, X.code, X.here, X.tail, X.warmed, ?_, ?_, ?_⟩
  · have h := X.room
    have hU : ((T.setVm s.vm).setFrames (.invoking m args :: below)).localsInUse = s.localsInUse := by
      rw [State.localsInUse_invoking hF (meth := meth) (c := c) X.method X.code, State.localsInUse_invoking X.frames X.method X.code]
    simp only [State.hasRoom, Bool.and_eq_true, decide_eq_true_eq] at h ⊢
    obtain ⟨⟨⟨⟨h1, h2, h3, h4, h5, h6⟩, h7⟩, h8⟩, h9⟩ := h
    rw [X.frames, List.length_cons] at h2 h3
    have q1 := X.heapSize
    have q2 := X.used
    simp only [hF, hU, List.length_cons, State.stackLimits_setFrames, State.stackBytes_setFrames, hl9, hb9]
    refine ⟨⟨⟨⟨by omega, by omega, by omega, by omega, by omega, h6⟩, ?_⟩, ?_⟩, X.book⟩
    · show T.heap.size + R'.cells ≤ e.platform.maxCells
      omega
    · show T.slotsUsed + R'.slots ≤ e.platform.maxSlots
      omega
  · rw [State.stackLimits_setFrames]; rfl
  · rw [State.stackBytes_setFrames]; rfl
  · refine ⟨?_, Nat.le_refl _, Nat.le_refl _, ?_, ?_, fun a c9 h9 => ⟨c9, h9, rfl, rfl, fun _ _ => rfl⟩⟩
    · obtain ⟨t, ht, -⟩ := State.frames_cons hr
      show T.setVm s.vm = { ((T.setVm s.vm).setFrames (.invoking m args :: below)).setFrames (T.setVm s.vm).frames with heap := T.heap, slotsUsed := T.slotsUsed }
      rw [State.setFrames_setFrames, State.setFrames_self ht]
      rfl
    · show T.slotsUsed = T.slotsUsed + ((T.heap.toList.drop T.heap.size).map (·.slots.size)).sum
      rw [List.drop_eq_nil_of_le (Nat.le_of_eq Array.length_toList)]
      rfl
    · show ((T.heap.toList.drop T.heap.size).map (·.slots.size)).sum ≤ 0
      rw [List.drop_eq_nil_of_le (Nat.le_of_eq Array.length_toList)]
      exact Nat.le_refl _
/-- 'throw new E()': new; dup; invokespecial; athrow -/
theorem vx_throw0 {cc : ByteArray} {pc : Nat} (hexec : p.tables.exec = Jvm.exec) (hb : c.code = cc) (hl : l.stackTraces = false) {own cls : String} {names : List String} {ik ic mc ms : Nat} {A : Nat → Prop}
    (hown : s.vm.findClass own = some m.cls) (hcls : Bundle.fit cls = true) (hnames : ∀ n ∈ names, Bundle.fit n = true)
    (hk : (Cond.classLink own ik cls).before args s = true) (hini : (Cond.initialized cls).before args s = true) (hat : ∀ w ∈ vx_at0 own ic cls names, w.before args s = true)
    (hgood : ∀ w ∈ Cond.classLink own ik cls :: Cond.initialized cls :: vx_at0 own ic cls names, vx_ot w = true)
    (hU : vx_Zq Bundle.tN "UNASSIGNED_STACK" Bundle.steD A s s.heap) (hN : vx_Zq Bundle.tN "SUPPRESSED_SENTINEL" Bundle.listD A s s.heap) (hS : va_S A s.heap H locs) (hsize : ls.size = c.maxLocals)
    (d0 : decode cc pc = .ok (.new ik, 3)) (d3 : decode cc (pc + 3) = .ok (.dup, 1)) (d4 : decode cc (pc + 4) = .ok (.invokespecial ic, 3)) (d7 : decode cc (pc + 7) = .ok (.athrow, 1))
    (hout : ∀ x ∈ c.exceptionTable.toList, covers x (pc + 7) = false)
    (hRframes : names.length + 3 < R.frames) (hRlocals : (rest.map fun v => v.category).sum + (13 * (names.length + 1) + 42) ≤ R.locals) (hRcells : cells + 1 ≤ R.cells) (hRslots : slots + 6 ≤ R.slots) (hlocks : meth.locks = false)
    (hx : ∀ t : State, s.vm.Alike t.vm → H.size ≤ t.heap.size → (∀ q : Nat, q < H.size → t.heap[q]? = H[q]?) → XC cls s t)
    (hf : ∀ z ∈ locs, free z.base) (hc : cells + 1 ≤ mc) (hs : slots + 6 ≤ ms) :
    W p l e R s m args below meth c H locs cells slots (vx_MQ below Qc XC args s mc ms free) (F0 m pc ls rest) := by
  intro T hT X
  have htr : e.platform.stackTraces = false := (show e.platform.stackTraces = l.stackTraces by rw [X.admits.platform]).trans hl
  have Y := vx_rebase X (R' := { frames := R.frames, locals := R.locals, cells := 1, slots := 6 }) (Nat.le_refl _) (Nat.le_refl _) hRcells hRslots
  obtain ⟨s', hA⟩ : ∃ z, z = (T.setVm s.vm).setFrames (.invoking m args :: below) := ⟨_, rfl⟩
  rw [← hA] at Y
  have hvm : s'.vm = s.vm := by rw [hA]; rfl
  have hhp : s'.heap = H := by rw [hA]; exact hT
  have hW0 : s.WarmedH s'.vm := by rw [hvm]; exact State.WarmedH.refl s
  have hat' : ∀ w ∈ vx_at0 own ic cls names, w.before args s' = true := fun w hw => vx_ot_at hW0 hvm.symm (hgood w (List.mem_cons_of_mem _ (List.mem_cons_of_mem _ hw))) (hat w hw)
  have hk' : (Cond.classLink own ik cls).before args s' = true := vx_ot_at hW0 hvm.symm (hgood _ List.mem_cons_self) hk
  have hini' : (Cond.initialized cls).before args s' = true := vx_ot_at hW0 hvm.symm (hgood _ (List.mem_cons_of_mem _ List.mem_cons_self)) hini
  have hU' : vx_Zq Bundle.tN "UNASSIGNED_STACK" Bundle.steD A s' s'.heap := by rw [hhp]; exact vx_Zq.moved hW0.alike (hU.kept hS.2.1)
  have hN' : vx_Zq Bundle.tN "SUPPRESSED_SENTINEL" Bundle.listD A s' s'.heap := by rw [hhp]; exact vx_Zq.moved hW0.alike (hN.kept hS.2.1)
  have h : ∀ w ∈ Bundle.ownAtoms0 own ic cls names, w.before args s' = true := vx_own hat' (vx_isRefq hU'.1) (vx_isRefq hN'.1) hU'.2.word hN'.2.word
  have hown' : s'.vm.findClass own = some m.cls := by rw [hvm]; exact hown
  have hins : (Cond.instantiable cls 6).before args s' = true := h _ (by simp [Bundle.ownAtoms0])
  obtain ⟨vm₁, cX, kX, hfX, hkX, -, -, X₁, st1⟩ := Y.newCold hexec (own := own) (C := cls) (index := ik) (n := 6) hown' hk' hins hini'
    (g := F0 m pc ls rest) rfl (by rw [hb]; exact d0) (Nat.le_refl _) (Nat.le_refl _)
  generalize hT1 : (T.setVm vm₁).pushCell { cls := cX, slots := kX.instanceTypes.map defaultValue, vm := .none } = T1 at X₁ st1
  have hcat : (Value.ref T.heap.size).category = 1 := rfl
  have hcellA : T1.heap[T.heap.size]? = some (freshCell cX kX) := by rw [← hT1]; exact State.heap_pushCell_size _ _
  have d3' : decode c.code (pc + 3) = .ok (.dup, 1) := by rw [hb]; exact d3
  obtain ⟨U, hsteps, hrun, hend, hW, hsame, ce, hce, hO⟩ := X₁.ctorThrow0 hexec htr (own := own) (cls := cls) (names := names) (ic := ic) hown' hcls hnames h (fun x hx => nomatch hx) hfX hkX hcellA (by rw [hhp, hT]; exact Nat.le_refl _)
    (g := { method := m, pc := pc + 4, locals := ls, stack := .ref T.heap.size :: .ref T.heap.size :: rest, locked := none }) rfl hsize rfl rfl (rest := rest) rfl
    (by rw [hb]; exact d4) (by rw [hb]; exact d7) hout hRframes (by simp only [List.map_cons, List.sum_cons, hcat]; omega) hlocks
  obtain ⟨f1, f2⟩ := vx_frame hsame
  rw [hhp] at f1 f2
  have hWs : s.WarmedH U.vm := State.WarmedH.trans hW0 hW
  have hcl : s.vm.findClass cls = some ce.cls := by
    have h9 := hO.cls
    rw [hvm] at h9
    exact h9
  have hall : s.sameButNew ({ U with vm := s.vm } : State) locs mc ms := by
    subst hA
    obtain ⟨e1, e2⟩ := hsame
    rw [State.setFrames_setFrames] at e1
    have h2 : (T.setVm s.vm).sameButNew ({ U with vm := s.vm } : State) [] (0 + 1) (0 + 6) := ⟨e1, e2⟩
    have h3 := X.same.trans h2
    rw [List.append_nil] at h3
    exact h3.mono hc hs
  refine ⟨U, ?_, .threw T.heap.size, hrun, hend, Or.inr ⟨T.heap.size, rfl, cls, ce, locs, hx U hWs.alike f1 (fun q hq => f2 q hq (fun z hz => nomatch hz)), hce, hO.vm, hcl, hWs, hall, hf⟩⟩
  refine st1 _ ?_
  show Steps p.tables e below (T1.setTop { method := m, pc := pc + 3, locals := ls, stack := .ref T.heap.size :: rest, locked := none }) _
  jvm_step X₁.here [X₁.here.top, hexec, d3', Value.category]
  exact hsteps
/-- 'throw new E("text")': new; dup; ldc; invokespecial; athrow -/
theorem vx_throwS {cc : ByteArray} {pc : Nat} (hexec : p.tables.exec = Jvm.exec) (hb : c.code = cc) (hl : l.stackTraces = false) {own cls text : String} {names : List String} {ik is ic mc ms sa : Nat} {A : Nat → Prop}
    (hown : s.vm.findClass own = some m.cls) (hcls : Bundle.fit cls = true) (hnames : ∀ n ∈ names, Bundle.fit n = true)
    (hk : (Cond.classLink own ik cls).before args s = true) (hini : (Cond.initialized cls).before args s = true) (hstr : vk_R own is text sa s) (hat : ∀ w ∈ vx_atS own ic cls names, w.before args s = true)
    (hgood : ∀ w ∈ Cond.classLink own ik cls :: Cond.initialized cls :: vx_atS own ic cls names, vx_ot w = true)
    (hU : vx_Zq Bundle.tN "UNASSIGNED_STACK" Bundle.steD A s s.heap) (hN : vx_Zq Bundle.tN "SUPPRESSED_SENTINEL" Bundle.listD A s s.heap) (hS : va_S A s.heap H locs) (hsize : ls.size = c.maxLocals)
    (d0 : decode cc pc = .ok (.new ik, 3)) (d3 : decode cc (pc + 3) = .ok (.dup, 1)) (d4 : decode cc (pc + 4) = .ok (.ldc is, 2)) (d6 : decode cc (pc + 6) = .ok (.invokespecial ic, 3)) (d9 : decode cc (pc + 9) = .ok (.athrow, 1))
    (hout : ∀ x ∈ c.exceptionTable.toList, covers x (pc + 9) = false)
    (hRframes : names.length + 3 < R.frames) (hRlocals : (rest.map fun v => v.category).sum + (13 * (names.length + 1) + 43) ≤ R.locals) (hRcells : cells + 1 ≤ R.cells) (hRslots : slots + 6 ≤ R.slots) (hlocks : meth.locks = false)
    (hx : ∀ t : State, s.vm.Alike t.vm → H.size ≤ t.heap.size → (∀ q : Nat, q < H.size → t.heap[q]? = H[q]?) → XC cls s t)
    (hf : ∀ z ∈ locs, free z.base) (hc : cells + 1 ≤ mc) (hs : slots + 6 ≤ ms) :
    W p l e R s m args below meth c H locs cells slots (vx_MQ below Qc XC args s mc ms free) (F0 m pc ls rest) := by
  intro T hT X
  have htr : e.platform.stackTraces = false := (show e.platform.stackTraces = l.stackTraces by rw [X.admits.platform]).trans hl
  have Y := vx_rebase X (R' := { frames := R.frames, locals := R.locals, cells := 1, slots := 6 }) (Nat.le_refl _) (Nat.le_refl _) hRcells hRslots
  obtain ⟨s', hA⟩ : ∃ z, z = (T.setVm s.vm).setFrames (.invoking m args :: below) := ⟨_, rfl⟩
  rw [← hA] at Y
  have hvm : s'.vm = s.vm := by rw [hA]; rfl
  have hhp : s'.heap = H := by rw [hA]; exact hT
  have hW0 : s.WarmedH s'.vm := by rw [hvm]; exact State.WarmedH.refl s
  have hat' : ∀ w ∈ vx_atS own ic cls names, w.before args s' = true := fun w hw => vx_ot_at hW0 hvm.symm (hgood w (List.mem_cons_of_mem _ (List.mem_cons_of_mem _ hw))) (hat w hw)
  have hk' : (Cond.classLink own ik cls).before args s' = true := vx_ot_at hW0 hvm.symm (hgood _ List.mem_cons_self) hk
  have hini' : (Cond.initialized cls).before args s' = true := vx_ot_at hW0 hvm.symm (hgood _ (List.mem_cons_of_mem _ List.mem_cons_self)) hini
  have hU' : vx_Zq Bundle.tN "UNASSIGNED_STACK" Bundle.steD A s' s'.heap := by rw [hhp]; exact vx_Zq.moved hW0.alike (hU.kept hS.2.1)
  have hN' : vx_Zq Bundle.tN "SUPPRESSED_SENTINEL" Bundle.listD A s' s'.heap := by rw [hhp]; exact vx_Zq.moved hW0.alike (hN.kept hS.2.1)
  have h : ∀ w ∈ Bundle.ownAtoms own ic cls names, w.before args s' = true := vx_own hat' (vx_isRefq hU'.1) (vx_isRefq hN'.1) hU'.2.word hN'.2.word
  have hown' : s'.vm.findClass own = some m.cls := by rw [hvm]; exact hown
  have hins : (Cond.instantiable cls 6).before args s' = true := h _ (by simp [Bundle.ownAtoms])
  obtain ⟨vm₁, cX, kX, hfX, hkX, -, -, X₁, st1⟩ := Y.newCold hexec (own := own) (C := cls) (index := ik) (n := 6) hown' hk' hins hini'
    (g := F0 m pc ls rest) rfl (by rw [hb]; exact d0) (Nat.le_refl _) (Nat.le_refl _)
  generalize hT1 : (T.setVm vm₁).pushCell { cls := cX, slots := kX.instanceTypes.map defaultValue, vm := .none } = T1 at X₁ st1
  have hcat : (Value.ref T.heap.size).category = 1 := rfl
  have hcellA : T1.heap[T.heap.size]? = some (freshCell cX kX) := by rw [← hT1]; exact State.heap_pushCell_size _ _
  have d3' : decode c.code (pc + 3) = .ok (.dup, 1) := by rw [hb]; exact d3
  have d4' : decode c.code (pc + 4) = .ok (.ldc is, 2) := by rw [hb]; exact d4
  have hstr' : vk_R own is text sa s' := vk_R.warm hW0 hstr
  obtain ⟨U, hsteps, hrun, hend, hW, hsame, ce, hce, hO⟩ := X₁.ctorThrowS hexec htr (own := own) (cls := cls) (names := names) (ic := ic) hown' hcls hnames h (fun x hx => nomatch hx) hfX hkX hcellA (by rw [hhp, hT]; exact Nat.le_refl _) (msg := .ref sa) rfl
    (g := { method := m, pc := pc + 6, locals := ls, stack := .ref sa :: .ref T.heap.size :: .ref T.heap.size :: rest, locked := none }) rfl hsize rfl rfl (rest := rest) rfl
    (by rw [hb]; exact d6) (by rw [hb]; exact d9) hout hRframes (by simp only [List.map_cons, List.sum_cons, hcat]; omega) hlocks
  obtain ⟨f1, f2⟩ := vx_frame hsame
  rw [hhp] at f1 f2
  have hWs : s.WarmedH U.vm := State.WarmedH.trans hW0 hW
  have hcl : s.vm.findClass cls = some ce.cls := by
    have h9 := hO.cls
    rw [hvm] at h9
    exact h9
  have hall : s.sameButNew ({ U with vm := s.vm } : State) locs mc ms := by
    subst hA
    obtain ⟨e1, e2⟩ := hsame
    rw [State.setFrames_setFrames] at e1
    have h2 : (T.setVm s.vm).sameButNew ({ U with vm := s.vm } : State) [] (0 + 1) (0 + 6) := ⟨e1, e2⟩
    have h3 := X.same.trans h2
    rw [List.append_nil] at h3
    exact h3.mono hc hs
  refine ⟨U, ?_, .threw T.heap.size, hrun, hend, Or.inr ⟨T.heap.size, rfl, cls, ce, locs, hx U hWs.alike f1 (fun q hq => f2 q hq (fun z hz => nomatch hz)), hce, hO.vm, hcl, hWs, hall, hf⟩⟩
  refine st1 _ ?_
  show Steps p.tables e below (T1.setTop { method := m, pc := pc + 3, locals := ls, stack := .ref T.heap.size :: rest, locked := none }) _
  jvm_step X₁.here [X₁.here.top, hexec, d3', Value.category]
  exact X₁.ldcString hexec (own := own) (text := text) (index := is) (a := sa) hown' hstr'.1 hstr'.2
    (g := { method := m, pc := pc + 4, locals := ls, stack := .ref T.heap.size :: .ref T.heap.size :: rest, locked := none }) rfl d4' _ hsteps
/-- 'throw new E("text")', the text by a wide index -/
theorem vx_throwSW {cc : ByteArray} {pc : Nat} (hexec : p.tables.exec = Jvm.exec) (hb : c.code = cc) (hl : l.stackTraces = false) {own cls text : String} {names : List String} {ik is ic mc ms sa : Nat} {A : Nat → Prop}
    (hown : s.vm.findClass own = some m.cls) (hcls : Bundle.fit cls = true) (hnames : ∀ n ∈ names, Bundle.fit n = true)
    (hk : (Cond.classLink own ik cls).before args s = true) (hini : (Cond.initialized cls).before args s = true) (hstr : vk_R own is text sa s) (hat : ∀ w ∈ vx_atS own ic cls names, w.before args s = true)
    (hgood : ∀ w ∈ Cond.classLink own ik cls :: Cond.initialized cls :: vx_atS own ic cls names, vx_ot w = true)
    (hU : vx_Zq Bundle.tN "UNASSIGNED_STACK" Bundle.steD A s s.heap) (hN : vx_Zq Bundle.tN "SUPPRESSED_SENTINEL" Bundle.listD A s s.heap) (hS : va_S A s.heap H locs) (hsize : ls.size = c.maxLocals)
    (d0 : decode cc pc = .ok (.new ik, 3)) (d3 : decode cc (pc + 3) = .ok (.dup, 1)) (d4 : decode cc (pc + 4) = .ok (.ldc_w is, 3)) (d7 : decode cc (pc + 7) = .ok (.invokespecial ic, 3)) (d10 : decode cc (pc + 10) = .ok (.athrow, 1))
    (hout : ∀ x ∈ c.exceptionTable.toList, covers x (pc + 10) = false)
    (hRframes : names.length + 3 < R.frames) (hRlocals : (rest.map fun v => v.category).sum + (13 * (names.length + 1) + 43) ≤ R.locals) (hRcells : cells + 1 ≤ R.cells) (hRslots : slots + 6 ≤ R.slots) (hlocks : meth.locks = false)
    (hx : ∀ t : State, s.vm.Alike t.vm → H.size ≤ t.heap.size → (∀ q : Nat, q < H.size → t.heap[q]? = H[q]?) → XC cls s t)
    (hf : ∀ z ∈ locs, free z.base) (hc : cells + 1 ≤ mc) (hs : slots + 6 ≤ ms) :
    W p l e R s m args below meth c H locs cells slots (vx_MQ below Qc XC args s mc ms free) (F0 m pc ls rest) := by
  intro T hT X
  have htr : e.platform.stackTraces = false := (show e.platform.stackTraces = l.stackTraces by rw [X.admits.platform]).trans hl
  have Y := vx_rebase X (R' := { frames := R.frames, locals := R.locals, cells := 1, slots := 6 }) (Nat.le_refl _) (Nat.le_refl _) hRcells hRslots
  obtain ⟨s', hA⟩ : ∃ z, z = (T.setVm s.vm).setFrames (.invoking m args :: below) := ⟨_, rfl⟩
  rw [← hA] at Y
  have hvm : s'.vm = s.vm := by rw [hA]; rfl
  have hhp : s'.heap = H := by rw [hA]; exact hT
  have hW0 : s.WarmedH s'.vm := by rw [hvm]; exact State.WarmedH.refl s
  have hat' : ∀ w ∈ vx_atS own ic cls names, w.before args s' = true := fun w hw => vx_ot_at hW0 hvm.symm (hgood w (List.mem_cons_of_mem _ (List.mem_cons_of_mem _ hw))) (hat w hw)
  have hk' : (Cond.classLink own ik cls).before args s' = true := vx_ot_at hW0 hvm.symm (hgood _ List.mem_cons_self) hk
  have hini' : (Cond.initialized cls).before args s' = true := vx_ot_at hW0 hvm.symm (hgood _ (List.mem_cons_of_mem _ List.mem_cons_self)) hini
  have hU' : vx_Zq Bundle.tN "UNASSIGNED_STACK" Bundle.steD A s' s'.heap := by rw [hhp]; exact vx_Zq.moved hW0.alike (hU.kept hS.2.1)
  have hN' : vx_Zq Bundle.tN "SUPPRESSED_SENTINEL" Bundle.listD A s' s'.heap := by rw [hhp]; exact vx_Zq.moved hW0.alike (hN.kept hS.2.1)
  have h : ∀ w ∈ Bundle.ownAtoms own ic cls names, w.before args s' = true := vx_own hat' (vx_isRefq hU'.1) (vx_isRefq hN'.1) hU'.2.word hN'.2.word
  have hown' : s'.vm.findClass own = some m.cls := by rw [hvm]; exact hown
  have hins : (Cond.instantiable cls 6).before args s' = true := h _ (by simp [Bundle.ownAtoms])
  obtain ⟨vm₁, cX, kX, hfX, hkX, -, -, X₁, st1⟩ := Y.newCold hexec (own := own) (C := cls) (index := ik) (n := 6) hown' hk' hins hini'
    (g := F0 m pc ls rest) rfl (by rw [hb]; exact d0) (Nat.le_refl _) (Nat.le_refl _)
  generalize hT1 : (T.setVm vm₁).pushCell { cls := cX, slots := kX.instanceTypes.map defaultValue, vm := .none } = T1 at X₁ st1
  have hcat : (Value.ref T.heap.size).category = 1 := rfl
  have hcellA : T1.heap[T.heap.size]? = some (freshCell cX kX) := by rw [← hT1]; exact State.heap_pushCell_size _ _
  have d3' : decode c.code (pc + 3) = .ok (.dup, 1) := by rw [hb]; exact d3
  have d4' : decode c.code (pc + 4) = .ok (.ldc_w is, 3) := by rw [hb]; exact d4
  have hstr' : vk_R own is text sa s' := vk_R.warm hW0 hstr
  obtain ⟨U, hsteps, hrun, hend, hW, hsame, ce, hce, hO⟩ := X₁.ctorThrowS hexec htr (own := own) (cls := cls) (names := names) (ic := ic) hown' hcls hnames h (fun x hx => nomatch hx) hfX hkX hcellA (by rw [hhp, hT]; exact Nat.le_refl _) (msg := .ref sa) rfl
    (g := { method := m, pc := pc + 7, locals := ls, stack := .ref sa :: .ref T.heap.size :: .ref T.heap.size :: rest, locked := none }) rfl hsize rfl rfl (rest := rest) rfl
    (by rw [hb]; exact d7) (by rw [hb]; exact d10) hout hRframes (by simp only [List.map_cons, List.sum_cons, hcat]; omega) hlocks
  obtain ⟨f1, f2⟩ := vx_frame hsame
  rw [hhp] at f1 f2
  have hWs : s.WarmedH U.vm := State.WarmedH.trans hW0 hW
  have hcl : s.vm.findClass cls = some ce.cls := by
    have h9 := hO.cls
    rw [hvm] at h9
    exact h9
  have hall : s.sameButNew ({ U with vm := s.vm } : State) locs mc ms := by
    subst hA
    obtain ⟨e1, e2⟩ := hsame
    rw [State.setFrames_setFrames] at e1
    have h2 : (T.setVm s.vm).sameButNew ({ U with vm := s.vm } : State) [] (0 + 1) (0 + 6) := ⟨e1, e2⟩
    have h3 := X.same.trans h2
    rw [List.append_nil] at h3
    exact h3.mono hc hs
  refine ⟨U, ?_, .threw T.heap.size, hrun, hend, Or.inr ⟨T.heap.size, rfl, cls, ce, locs, hx U hWs.alike f1 (fun q hq => f2 q hq (fun z hz => nomatch hz)), hce, hO.vm, hcl, hWs, hall, hf⟩⟩
  refine st1 _ ?_
  show Steps p.tables e below (T1.setTop { method := m, pc := pc + 3, locals := ls, stack := .ref T.heap.size :: rest, locked := none }) _
  jvm_step X₁.here [X₁.here.top, hexec, d3', Value.category]
  exact X₁.ldcStringW hexec (own := own) (text := text) (index := is) (a := sa) hown' hstr'.1 hstr'.2
    (g := { method := m, pc := pc + 4, locals := ls, stack := .ref T.heap.size :: .ref T.heap.size :: rest, locked := none }) rfl d4' _ hsteps
end Ends
section Bodies
variable {l : Launch}
theorem vx_ofW {y : MethodName} {ws ws' : List Cond} {rm : Room} {Pc : Array Value → State → Prop} {Qc : Array Value → State → Outcome → State → Prop} {XC : String → State → State → Prop} {mc ms : Nat} {free : Addr → Prop} {cc : ByteArray} {maxL : Nat} {ret : Option FieldType}
    (hy : plainName y.cls = true) (hw : ws = Cond.code y cc maxL ret :: ws')
    (body : ∀ p e s m args below meth c s₁, BodyLoose p l y (headSpec ws rm) cc maxL ret e s m args below meth c s₁ → c.maxLocals = maxL → (∀ x ∈ c.exceptionTable.toList, False) → Pc args s →
      W p l e (headSpec ws rm).room s m args below meth c s.heap [] 0 0 (vx_MQ below Qc XC args s mc ms free) (entryFrame m args maxL)) : vx_Met l y ws rm Pc Qc XC mc ms free := by
  refine MetFree.of_bodyS (code := cc) (maxLocals := maxL) (ret := ret) hy ?_ ?_
  · intro args s m h hn
    obtain ⟨meth, c, h1, h2, h3, h4, h5, h6, -, -⟩ := Cond.code_spec hn (atoms_spec (ws := ws) h _ (by rw [hw]; exact List.mem_cons_self))
    exact ⟨meth, c, h1, h2, h3, h4, h5, h6⟩
  · intro p e s m args below meth c s₁ B hml hP _
    have hh0 : s₁.heap = s.heap := by rw [B.state]; rfl
    have ht : ∀ x ∈ c.exceptionTable.toList, False := by
      obtain ⟨meth9, c9, h1, h2, -, -, -, -, h7, -⟩ := Cond.code_spec B.named (atoms_spec (ws := ws) B.pre _ (by rw [hw]; exact List.mem_cons_self))
      cases Option.some.inj (h1.symm.trans B.method)
      cases Option.some.inj (h2.symm.trans (Stand.of_body B).code)
      intro x hx
      rw [Array.isEmpty_iff.mp h7] at hx
      cases hx
    obtain ⟨t, a1, o, b1, b2, b3⟩ := body p e s m args below meth c s₁ B hml ht hP s₁ hh0 (Stand.of_body B)
    exact ⟨t, o, a1, b1, b2, b3⟩
/-- the table of a body with handlers -/
theorem vx_table {p : Program} {x y : MethodName} {S : Spec} {cc bytes : ByteArray} {maxL maxL' : Nat} {ret ret' : Option FieldType} {e : Env} {s s₁ : State} {m : MethodId} {args : Array Value} {below : List Frame} {meth : Method} {c : Code} {hh : List (Nat × Nat × Nat × Nat)}
    (B : BodyLoose p l y S cc maxL ret e s m args below meth c s₁) (h : (Cond.codeWith y bytes maxL' ret' hh).before args s = true) : c.exceptionTable.toList = tableOf hh := by
  obtain ⟨m9, meth9, c9, hn9, h1, h2, -, -, h6, -⟩ := Cond.codeWith_spec h
  cases Option.some.inj (hn9.symm.trans B.named)
  cases Option.some.inj (h1.symm.trans B.method)
  cases Option.some.inj (h2.symm.trans (Stand.of_body B).code)
  rw [← h6, table_eq]
end Bodies
end VXA
/-! ===== END ===== -/
/-! ===== BEGIN a static call of a method with an exception table ===== -/
section VXS
variable {p : Program} {l : Launch} {e : Env} {R : Room} {s : State} {m : MethodId} {args : Array Value} {below : List Frame} {meth : Method} {c : Code} {T : State} {H : Heap} {locs : List Loc} {cells slots : Nat}
abbrev vx_CSW (R : Room) (s : State) (args : Array Value) (own : String) (index : Nat) (y : MethodName) (bytes : ByteArray) (maxL : Nat) (ret : Option FieldType) (hh : List (Nat × Nat × Nat × Nat)) (ws : List Cond) (rm : Room) (mc ms n : Nat) : Prop :=
  (rm.cells = mc ∧ rm.slots = ms ∧ rm.frames + 1 ≤ R.frames ∧ 8 + (maxL + 11) + rm.locals ≤ R.locals ∧ (∀ w ∈ ws, ∀ (a' : Array Value) (U : State), s.WarmedH U.vm → w.before a' U = true) ∧ Cond.codeWith y bytes maxL ret hh ∈ ws) ∧
  (Cond.codeWith y bytes maxL ret hh).before args s = true ∧ (Cond.initialized y.cls).before args s = true ∧ (y.cls ≠ "java/lang/invoke/MethodHandle" ∧ y.cls ≠ "java/lang/invoke/VarHandle") ∧
  (∀ sig, parseMethodDescriptor y.desc = some sig → n = sig.parameters.length) ∧ (Cond.methodLink own index y).before args s = true ∧ (Cond.static y).before args s = true
theorem vx_cwSW {own : String} {index maxL mc ms : Nat} {y : MethodName} {bytes : ByteArray} {ret : Option FieldType} {hh : List (Nat × Nat × Nat × Nat)} {Ts ws ws' : List Cond} {rm : Room} (n : Nat) (ht : ∀ w ∈ Ts, w.before args s = true) (hT : GoodIn Ts (va_wsS own index y ws)) (hw : ws = Cond.codeWith y bytes maxL ret hh :: ws') (hrc : rm.cells = mc) (hrs : rm.slots = ms)
    (hd : y.cls ≠ "java/lang/invoke/MethodHandle" ∧ y.cls ≠ "java/lang/invoke/VarHandle" ∧ (parseMethodDescriptor y.desc).map (fun d => d.parameters.length) = some n) (hR : rm.frames + 1 ≤ R.frames ∧ 8 + (maxL + 11) + rm.locals ≤ R.locals) :
    vx_CSW R s args own index y bytes maxL ret hh ws rm mc ms n := by
  have ok : ∀ w ∈ va_wsS own index y ws, w.before args s = true := fun w h => ht w (hT w h).1
  have hG : GoodIn Ts ws := fun w h => hT w (by unfold va_wsS; exact List.mem_append_right _ h)
  have hc : Cond.codeWith y bytes maxL ret hh ∈ ws := by rw [hw]; exact List.mem_cons_self
  refine ⟨⟨hrc, hrs, hR.1, hR.2, pay_in ht hG, hc⟩, ht _ (hG _ hc).1, ok _ (by simp [va_wsS]), ⟨hd.1, hd.2.1⟩, fun sig h => ?_, ok _ (by simp [va_wsS]), ok _ (by simp [va_wsS])⟩
  have h2 := hd.2.2
  rw [h] at h2
  exact (Option.some.inj h2).symm
theorem vx_callSW (X : Stand p l e R s m args below meth c T locs cells slots) (hexec : p.tables.exec = Jvm.exec) {own : String} {index : Nat} {y : MethodName} {bytes : ByteArray} {maxL : Nat} {ret : Option FieldType} {hh : List (Nat × Nat × Nat × Nat)}
    (hown : s.vm.findClass own = some m.cls) (hlink : (Cond.methodLink own index y).before args s = true) (hstat : (Cond.static y).before args s = true) (hinit : (Cond.initialized y.cls).before args s = true)
    (hcode : (Cond.codeWith y bytes maxL ret hh).before args s = true) (hy : y.cls ≠ "java/lang/invoke/MethodHandle" ∧ y.cls ≠ "java/lang/invoke/VarHandle")
    {W9 : Nat} {Pre : Pt → Array Value → Prop} {Post : Pt → Array Value → Option Value → Pt → Prop} (hK : Back l R p e below s args y 3 W9 Pre Post)
    {g : JFrame} (hg : g.method = m) (hsize : g.locals.size = c.maxLocals) {argsL rest : List Value} (hlen : ∀ sig, parseMethodDescriptor y.desc = some sig → argsL.length = sig.parameters.length)
    (hstack : g.stack = argsL.reverse ++ rest) (hW : 2 * g.monitorRoom + (rest.map fun v => v.category).sum ≤ W9) (hdg : decode c.code g.pc = .ok (.invokestatic index, 3))
    (hpre : ∀ vm₁, s.WarmedH vm₁ → Pre ⟨T.setVm vm₁, locs, cells, slots⟩ argsL.toArray) :
    ∃ (v : Option Value) (vm₁ : Vm) (B : Pt), s.WarmedH vm₁ ∧ Stand p l e R s m args below meth c B.U B.locs B.cells B.slots ∧ Post ⟨T.setVm vm₁, locs, cells, slots⟩ argsL.toArray v B ∧
      ∀ target, Steps p.tables e below (B.U.setTop { g with pc := g.pc + 3, stack := v.toList ++ rest }) target → Steps p.tables e below (T.setTop g) target := by
  obtain ⟨mk, methM, cM, hnamed, hmethM, -, -, -, -, -, -, hsigM⟩ := Cond.codeWith_spec hcode
  have hstatic : methM.isStatic = true := Cond.static_spec hnamed hmethM hstat
  obtain ⟨kP, hkP, -⟩ := className_of_methodNamed hnamed
  have hinitP : kP.init = .initialized := Cond.initialized_spec (findClass_of_methodNamed hnamed) hkP hinit
  obtain ⟨vm₁, X₁, hstep₁⟩ := X.invokestatic hexec hown hlink hnamed hmethM hstatic hkP hinitP hy (g := g) hg (argsL := argsL) (rest := rest) (hlen _ hsigM) hstack hdg
  obtain ⟨v, B, X', hpost, hsteps⟩ := hK m meth c ⟨T.setVm vm₁, locs, cells, slots⟩ { g with stack := rest } (.invokestatic index) mk argsL.toArray X₁ hg hsize hdg hW (X₁.named hnamed) (hpre vm₁ X₁.warmed)
  exact ⟨v, vm₁, B, X₁.warmed, X', hpost, fun target h => hstep₁ _ fun acts => by rw [doInvoke_state]; exact hsteps.trans h⟩
theorem vx_runSW {y : MethodName} {bytes cc : ByteArray} {maxL nL mc ms n index : Nat} {ret : Option FieldType} {hh : List (Nat × Nat × Nat × Nat)} {ws : List Cond} {rm : Room} {Pc : Array Value → State → Prop} {Qc : Array Value → State → Outcome → State → Prop} {free : Addr → Prop} {Ts : List Cond} {own : String} {As rest : List Value} {g : JFrame}
    (S : CallFix p m c cc nL s args Ts own) (hM : Met l y ws rm Pc Qc mc ms free) (cw : vx_CSW R s args own index y bytes maxL ret hh ws rm mc ms n) (hp : PreS s H Pc As)
    (hg : g.method = m) (hn : As.length = n) (hsize : g.locals.size = nL) (hstack : g.stack = As.reverse ++ rest) (hW : 2 * g.monitorRoom + (rest.map fun v => v.category).sum ≤ 8) (hdg : decode cc g.pc = .ok (.invokestatic index, 3)) (hf : cells + mc ≤ R.cells ∧ slots + ms ≤ R.slots) :
    va_Run p l e R s m args below meth c H locs cells slots mc ms g rest (Qc As.toArray) (free) := by
  obtain ⟨⟨hrc, hrs, hfr, hlo, hws, hcw⟩, hcode, hini, hy, hlen, hl, hstt⟩ := cw
  have hK : Back l R p e below s args y 3 8 (PreOf R mc ms Pc) (PostOf Qc mc ms free) := va_backW (hh := hh) (bytes := bytes) (maxL := maxL) (ret := ret) hM hp.1 hrc hrs hfr hlo hws hcw (fun a' U hW => word_at hW (Or.inl (by first | rfl | simp [Cond.onTables, Cond.keeps, Cond.steady])) hini)
  obtain ⟨hx, hb, hml, ho, -⟩ := S
  intro T hT X
  obtain ⟨v, vm₁, ⟨U', l2, c2, s2⟩, hW₁, X', ⟨g', mk, t, L, e1, e2, hq, h1, hL, h2, h3⟩, st⟩ := vx_callSW X hx (hh := hh) (bytes := bytes) (maxL := maxL) (ret := ret) ho hl hstt hini hcode hy hK hg (hsize.trans hml.symm) (argsL := As) (rest := rest) (fun sig h => hn.trans (hlen sig h)) hstack hW (by rw [hb]; exact hdg)
    (fun vm₁ hW₁ => ⟨hf.1, hf.2, hp.2 (T.setVm vm₁) hT hW₁⟩)
  dsimp only [Pt.U, Pt.locs, Pt.cells, Pt.slots] at X' e1 e2 h1 h2 h3 st
  subst h1; subst h2; subst h3
  exact ⟨v, (T.setVm vm₁).calling g' mk As.toArray, t, U', L, hT, X', hL, e1, e2, hq, st⟩
/-- not caught here, past rows that name other classes: it goes on to the caller -/
theorem vx_outP {p : Program} {l : Launch} {e : Env} {R : Room} {s : State} {m : MethodId} {args : Array Value} {below : List Frame} {meth : Method} {c : Code} {H : Heap} {locs : List Loc} {cells slots : Nat} {free : Addr → Prop} {ls : Array Slot} {rest : List Value} {Qc : Array Value → State → Outcome → State → Prop} {XC : String → State → State → Prop}
    {pc : Nat} {own E : String} {ce : Cell} {q : Addr} {mc ms : Nat} (hown : s.vm.findClass own = some m.cls) (hlocks : meth.locks = false)
    (hpass : ∀ z ∈ c.exceptionTable.toList, covers z pc = false ∨ (z.catchType ≠ 0 ∧ ∃ nm : String, (Cond.classLink own z.catchType nm).before args s = true ∧ va_Nc E nm s)) (hcell : H[q]? = some ce) (hv : ce.vm = .none) (hcl : s.vm.findClass E = some ce.cls)
    (hx : ∀ t : State, t.heap = H → s.vm.Alike t.vm → XC E s t) (hf : ∀ z ∈ locs, free z.base) (hc : cells ≤ mc) (hs : slots ≤ ms) :
    vx_W p l e R s m args below meth c H locs cells slots (vx_MQ below Qc XC args s mc ms free) (F0 m pc ls rest) q := by
  intro T hT X
  have hpl : e.platform.magicAccessors = ({} : Platform).magicAccessors := by rw [X.admits.platform]
  obtain ⟨vm', hW', X', st⟩ := X.outThrough hlocks q (g := F0 m pc ls rest) rfl rfl rfl (cell := ce) (by rw [hT]; exact hcell) (by rw [hv]; rfl)
    (by obtain ⟨k9, h9, -⟩ := Vm.findClass_spec hcl; exact ⟨k9, h9⟩) (fun z hz => by
      rcases hpass z hz with h | ⟨hz0, nm, hl1, hn1⟩
      · exact Or.inl h
      · obtain ⟨c6, hc6, hcl6⟩ := Cond.classLink_spec hown hl1 e.platform hpl
        obtain ⟨a8, b8, h1, h2, h3⟩ := hn1
        cases Option.some.inj (h1.symm.trans hcl)
        cases Option.some.inj (h2.symm.trans hc6)
        exact Or.inr ⟨hz0, _, hcl6, h3⟩)
  obtain ⟨g₀, hfr⟩ := X'.frames_eq
  have hcell9 : ((T.setVm vm').setFrames (.throwing q :: below)).heap[q]? = some ce := by
    show T.heap[q]? = some ce
    rw [hT]; exact hcell
  have hend : Ended ((T.setVm vm').setFrames (.throwing q :: below)) below (.threw q) := State.frames_setFrames _ (State.cur_lt_of_frames hfr)
  refine ⟨(T.setVm vm').setFrames (.throwing q :: below), ?_, .threw q, X'.here.running, hend, Or.inr ⟨q, rfl, E, ce, locs, hx _ hT (X'.ends _).1.alike, hcell9, hv, hcl, (X'.ends _).1, (X'.ends _).2.mono hc hs, hf⟩⟩
  rw [X.pushThrowing_eq]
  exact st
/-- a thing of a world lies in the heap -/
theorem vx_lt {D : va_G} {cl : List vw_C} {ws : va_W} {H1 : Heap} (h : va_P D cl ws H1) {k : Nat} {q : Nat × va_E} (hk : ws[k]? = some q) : q.1 < H1.size := (h k q hk).lt
end VXS
/-! ===== END ===== -/
/-! ===== BEGIN methods with a table of their own: called by a name, returning or throwing ===== -/
section VXH
/-! vx_backW, vx_callVX, vx_callSX, vx_callVW, vx_runVW, vx_runVX, vx_runSX, vx_ofWH follow the same proofs as their sisters above (Free/Laws.lean, Shelf42/LK1.lean); vx_outP calls Shelf42/NT130.lean (outThrough). -/
section
variable {l : Launch} {R : Room} {p : Program} {e : Env} {below : List Frame} {s : State} {sargs : Array Value} {y : MethodName} {len W9 : Nat}
theorem vx_backW {ws : List Cond} {rm : Room} {Pc : Array Value → State → Prop} {Qc : Array Value → State → Outcome → State → Prop} {XC : String → State → State → Prop} {mc ms : Nat} {free : Addr → Prop} {bytes : ByteArray} {maxL : Nat} {ret : Option FieldType} {hh : List (Nat × Nat × Nat × Nat)}
    (hM : vx_Met l y ws rm Pc Qc XC mc ms free) (hblind : FrameBlind Pc) (hrc : rm.cells = mc) (hrs : rm.slots = ms)
    (hframes : rm.frames + 1 ≤ R.frames) (hlocals : W9 + (maxL + 11) + rm.locals ≤ R.locals)
    (hws : ∀ w ∈ ws, ∀ a' U, s.WarmedH U.vm → w.before a' U = true) (hcode : Cond.codeWith y bytes maxL ret hh ∈ ws) (hinit : ∀ a' U, s.WarmedH U.vm → (Cond.initialized y.cls).before a' U = true) :
    vx_Back l R p e below s sargs y len W9 (PreOf R mc ms Pc) (PostOf Qc mc ms free) (vx_Post XC mc ms free) := by
  intro m meth c A g ig mk a X hg hsize hdg hW hn hp
  have h1 : (headSpec ws rm).pre.before a A.U = true := atoms_intro fun w hw => hws w hw _ _ X.warmed
  have h2 : (Cond.codeWith y bytes maxL ret hh).before a A.U = true := hws _ hcode _ _ X.warmed
  have h3 : (Cond.initialized y.cls).before a A.U = true := hinit _ _ X.warmed
  have h4 : A.cells + (headSpec ws rm).room.cells ≤ R.cells := by rw [show (headSpec ws rm).room.cells = mc from hrc]; exact hp.1
  have h5 : A.slots + (headSpec ws rm).room.slots ≤ R.slots := by rw [show (headSpec ws rm).room.slots = ms from hrs]; exact hp.2.1
  have hPc : Pc a (A.U.calling g mk a) := hblind _ _ _ _ hp.2.2
  obtain ⟨U, Ls, c0, s0⟩ := A
  dsimp only [Pt.U, Pt.locs, Pt.cells, Pt.slots] at h1 h2 h3 h4 h5 X hn hPc ⊢
  obtain ⟨m9, methY, cY, hn9, hmY, hcY, -, hlY, -⟩ := Cond.codeWith_spec h2
  cases Option.some.inj (hn9.symm.trans hn)
  obtain ⟨kY, hkY, -⟩ := className_of_methodNamed hn
  have hinitY : kY.init = .initialized := Cond.initialized_spec (findClass_of_methodNamed hn) hkY h3
  have h : At U g.method c below := by rw [hg]; exact X.here
  have hlocals9 : W9 + (maxL + 11) + (headSpec ws rm).room.locals ≤ R.locals := hlocals
  have happ : (headSpec ws rm).appliesLoose y e.platform (U.calling g mk a) = true :=
    Spec.appliesLoose_calling (g := g) h hdg hn hkY hinitY
      (X.room_calling (g := g) (R' := (headSpec ws rm).room) hsize hmY hcY hframes (by rw [hlY]; omega) h4 h5) h1
  obtain ⟨mid, hmid⟩ := h.above
  have hfr : (U.setTop g).frames = (.java g :: mid) ++ below := by rw [State.frames_setTop' g h.top, hmid]; rfl
  obtain ⟨o, s₂, hsteps, -, hend, hq⟩ := Steps.callFree hM p X.admits X.cas X.clock (acts := []) hfr happ hPc trivial
  have hq' : vx_Q Qc XC mc ms free a (U.calling g mk a) o s₂ := hq
  rw [State.frames_setTop' g h.top] at hend
  obtain ⟨g₀, hg0⟩ := Option.isSome_iff_exists.mp h.top
  obtain ⟨r, hr⟩ := State.topJava?_eq_some.mp hg0
  have hr' : (({ U with heap := s₂.heap, slotsUsed := s₂.slotsUsed } : State).setVm s₂.vm).frames = .java g₀ :: r := hr
  rcases hq' with ⟨hqc, L, hfe, hL⟩ | ⟨q, rfl, E, ce, L, hx, hce, hcv, hcl, hW₂, hsm, hL⟩
  · obtain ⟨⟨v, rfl⟩, hW₂, e2, q2, q3, q4, q5, q6⟩ := id hfe
    have e3 : s₂ = ({ (U.calling g mk a).setFrames s₂.frames with heap := s₂.heap, slotsUsed := s₂.slotsUsed } : State).setVm s₂.vm := by
      have : s₂ = ({ s₂ with vm := (U.calling g mk a).vm } : State).setVm s₂.vm := rfl
      rw [e2] at this
      exact this
    obtain ⟨c₂, i₂, len₂, hc₂, hd₂, hf₂⟩ := hend
    have hW' : U.WarmedH s₂.vm := hW₂
    have hcc : c₂ = c := by
      have h1 : s₂.code? g.method = U.code? g.method := by
        rw [State.code?_eq, State.code?_eq, hW'.alike.method?]
      exact Option.some.inj (hc₂.symm.trans (h1.trans h.code))
    subst hcc
    have hlen : len₂ = len := by rw [hdg] at hd₂; cases hd₂; rfl
    subst hlen
    have hs₂ : s₂ = (({ U with heap := s₂.heap, slotsUsed := s₂.slotsUsed } : State).setVm s₂.vm).setTop { g with pc := g.pc + len₂, stack := v.toList ++ g.stack } := by
      refine e3.trans ?_
      rw [hf₂, State.calling_eq h.top, State.setFrames_setFrames, State.setTop_of_frames _ hr', hr]
      rfl
    have hsame : U.sameButNew ({ U with heap := s₂.heap, slotsUsed := s₂.slotsUsed } : State) L mc ms := by
      refine ⟨?_, q2, q3, q4, q5, q6⟩
      obtain ⟨t, ht, -⟩ := State.frames_cons hr
      show ({ U with heap := s₂.heap, slotsUsed := s₂.slotsUsed } : State) = { U.setFrames U.frames with heap := s₂.heap, slotsUsed := s₂.slotsUsed }
      rw [State.setFrames_self ht]
    subst hg
    refine Or.inl ⟨v, ⟨(({ U with heap := s₂.heap, slotsUsed := s₂.slotsUsed } : State).setVm s₂.vm), Ls ++ L, c0 + mc, s0 + ms⟩,
      ⟨X.admits, X.cas, X.clock, X.frames, X.room, X.hears, X.method, X.code, (X.here.setHeapUsed s₂.heap s₂.slotsUsed).setVm hW'.alike, X.tail, State.WarmedH.trans X.warmed hW', X.limits, X.bytes, X.same.trans (hsame.setVm s.vm)⟩,
      ⟨g, mk, s₂, L, rfl, rfl, hqc, rfl, hL, rfl, rfl⟩, ?_⟩
    show Steps p.tables e below _ ((({ U with heap := s₂.heap, slotsUsed := s₂.slotsUsed } : State).setVm s₂.vm).setTop { g with pc := g.pc + len₂, stack := v.toList ++ g.stack })
    rw [← hs₂]
    exact hsteps
  · obtain ⟨e2, q2, q3, q4, q5, q6⟩ := id hsm
    have e3 : s₂ = ({ (U.calling g mk a).setFrames s₂.frames with heap := s₂.heap, slotsUsed := s₂.slotsUsed } : State).setVm s₂.vm := by
      have : s₂ = ({ s₂ with vm := (U.calling g mk a).vm } : State).setVm s₂.vm := rfl
      rw [e2] at this
      exact this
    have hf₂ : s₂.frames = .throwing q :: .java g :: U.frames.tail := hend
    have hW' : U.WarmedH s₂.vm := hW₂
    have hs₂ : s₂ = ((({ U with heap := s₂.heap, slotsUsed := s₂.slotsUsed } : State).setVm s₂.vm).setTop g).pushFrame (.throwing q) := by
      refine e3.trans ?_
      rw [hf₂, State.calling_eq h.top, State.setFrames_setFrames, State.pushFrame, State.frames_setTop _ hr', State.setTop_of_frames _ hr', State.setFrames_setFrames, hr]
      rfl
    have hsame : U.sameButNew ({ U with heap := s₂.heap, slotsUsed := s₂.slotsUsed } : State) L mc ms := by
      refine ⟨?_, q2, q3, q4, q5, q6⟩
      obtain ⟨t, ht, -⟩ := State.frames_cons hr
      show ({ U with heap := s₂.heap, slotsUsed := s₂.slotsUsed } : State) = { U.setFrames U.frames with heap := s₂.heap, slotsUsed := s₂.slotsUsed }
      rw [State.setFrames_self ht]
    subst hg
    refine Or.inr ⟨q, ⟨(({ U with heap := s₂.heap, slotsUsed := s₂.slotsUsed } : State).setVm s₂.vm), Ls ++ L, c0 + mc, s0 + ms⟩,
      ⟨X.admits, X.cas, X.clock, X.frames, X.room, X.hears, X.method, X.code, (X.here.setHeapUsed s₂.heap s₂.slotsUsed).setVm hW'.alike, X.tail, State.WarmedH.trans X.warmed hW', X.limits, X.bytes, X.same.trans (hsame.setVm s.vm)⟩,
      ⟨g, mk, s₂, L, E, ce, rfl, rfl, hx, hce, hcv, hcl, rfl, hL, rfl, rfl⟩, ?_⟩
    show Steps p.tables e below _ (((({ U with heap := s₂.heap, slotsUsed := s₂.slotsUsed } : State).setVm s₂.vm).setTop g).pushFrame (.throwing q))
    rw [← hs₂]
    exact hsteps
end
variable {p : Program} {l : Launch} {e : Env} {R : Room} {s : State} {m : MethodId} {args : Array Value} {below : List Frame} {meth : Method} {c : Code} {T : State} {H : Heap} {locs : List Loc} {cells slots : Nat}
theorem vx_callVX (X : Stand p l e R s m args below meth c T locs cells slots) (hexec : p.tables.exec = Jvm.exec) {own C : String} {index : Nat} {y : MethodName} {bytes : ByteArray} {maxL : Nat} {ret : Option FieldType} {hh : List (Nat × Nat × Nat × Nat)}
    (hown : s.vm.findClass own = some m.cls) (hlink : (Cond.methodLink own index y).before args s = true) (hinst : (Cond.instanceMethod y).before args s = true) (hsel : (Cond.selects C y y).before args s = true)
    (hcode : (Cond.codeWith y bytes maxL ret hh).before args s = true) (hy : y.cls ≠ "java/lang/invoke/MethodHandle" ∧ y.cls ≠ "java/lang/invoke/VarHandle")
    {W9 : Nat} {Pre : Pt → Array Value → Prop} {Post : Pt → Array Value → Option Value → Pt → Prop} {PostX : Pt → Array Value → Addr → Pt → Prop} (hK : vx_Back l R p e below s args y 3 W9 Pre Post PostX)
    {b : Addr} {cellB : Cell} (hcell : T.heap[b]? = some cellB) (hobj : cellB.vm.isStatics = false) (hcls : s.vm.findClass C = some cellB.cls)
    {g : JFrame} (hg : g.method = m) (hsize : g.locals.size = c.maxLocals) {argsL rest : List Value} (hlen : ∀ sig, parseMethodDescriptor y.desc = some sig → argsL.length = sig.parameters.length)
    (hstack : g.stack = argsL.reverse ++ .ref b :: rest) (hW : 2 * g.monitorRoom + (rest.map fun v => v.category).sum ≤ W9) (hdg : decode c.code g.pc = .ok (.invokevirtual index, 3))
    (hpre : ∀ vm₁, s.WarmedH vm₁ → Pre ⟨T.setVm vm₁, locs, cells, slots⟩ (Value.ref b :: argsL).toArray) :
    (∃ (v : Option Value) (vm₁ : Vm) (B : Pt), s.WarmedH vm₁ ∧ Stand p l e R s m args below meth c B.U B.locs B.cells B.slots ∧ Post ⟨T.setVm vm₁, locs, cells, slots⟩ (Value.ref b :: argsL).toArray v B ∧
      ∀ target, Steps p.tables e below (B.U.setTop { g with pc := g.pc + 3, stack := v.toList ++ rest }) target → Steps p.tables e below (T.setTop g) target) ∨
    (∃ (q : Addr) (vm₁ : Vm) (B : Pt), s.WarmedH vm₁ ∧ Stand p l e R s m args below meth c B.U B.locs B.cells B.slots ∧ PostX ⟨T.setVm vm₁, locs, cells, slots⟩ (Value.ref b :: argsL).toArray q B ∧
      Steps p.tables e below (T.setTop g) ((B.U.setTop { g with stack := rest }).pushFrame (.throwing q))) := by
  obtain ⟨mk, methM, hnamed, hmethM, hstM, habM⟩ := Cond.instanceMethod_spec hinst
  obtain ⟨m8, methM', cM, hn8, hmethM', -, -, -, -, -, -, hsigM⟩ := Cond.codeWith_spec hcode
  cases Option.some.inj (hn8.symm.trans hnamed)
  cases hmethM.symm.trans hmethM'
  obtain ⟨c2, r2, m2, q1, q2, q3, q4, kP, hkP, hkPi⟩ := Cond.selects_spec hsel
  cases hcls.symm.trans q1
  cases (State.methodFound?_of_named hnamed hy).symm.trans q2
  cases hnamed.symm.trans q3
  have hselP : selectMethod e.platform s.vm cellB.cls mk = .method mk := by rw [Launch.admits_selectMethod X.admits]; exact q4
  obtain ⟨vm₁, X₁, hstep₁⟩ := X.invokevirtual hexec hown hlink hnamed hmethM hstM hkP hkPi hy (a := b) (cell := cellB) hcell
    (fun z h => by rw [h] at hobj; cases hobj) hselP hmethM habM hkP hkPi (g := g) hg (argsL := argsL) (rest := rest) (hlen _ hsigM) hstack hdg
  rcases hK m meth c ⟨T.setVm vm₁, locs, cells, slots⟩ { g with stack := rest } (.invokevirtual index) mk (Value.ref b :: argsL).toArray X₁ hg hsize hdg hW (X₁.named hnamed) (hpre vm₁ X₁.warmed) with ⟨v, B, X', hpost, hsteps⟩ | ⟨q, B, X', hpost, hsteps⟩
  · exact Or.inl ⟨v, vm₁, B, X₁.warmed, X', hpost, fun target h => hstep₁ _ fun acts => by rw [doInvoke_state]; exact hsteps.trans h⟩
  · exact Or.inr ⟨q, vm₁, B, X₁.warmed, X', hpost, hstep₁ _ fun acts => by rw [doInvoke_state]; exact hsteps⟩
theorem vx_callSX (X : Stand p l e R s m args below meth c T locs cells slots) (hexec : p.tables.exec = Jvm.exec) {own : String} {index : Nat} {y : MethodName} {bytes : ByteArray} {maxL : Nat} {ret : Option FieldType} {hh : List (Nat × Nat × Nat × Nat)}
    (hown : s.vm.findClass own = some m.cls) (hlink : (Cond.methodLink own index y).before args s = true) (hstat : (Cond.static y).before args s = true) (hinit : (Cond.initialized y.cls).before args s = true)
    (hcode : (Cond.codeWith y bytes maxL ret hh).before args s = true) (hy : y.cls ≠ "java/lang/invoke/MethodHandle" ∧ y.cls ≠ "java/lang/invoke/VarHandle")
    {W9 : Nat} {Pre : Pt → Array Value → Prop} {Post : Pt → Array Value → Option Value → Pt → Prop} {PostX : Pt → Array Value → Addr → Pt → Prop} (hK : vx_Back l R p e below s args y 3 W9 Pre Post PostX)
    {g : JFrame} (hg : g.method = m) (hsize : g.locals.size = c.maxLocals) {argsL rest : List Value} (hlen : ∀ sig, parseMethodDescriptor y.desc = some sig → argsL.length = sig.parameters.length)
    (hstack : g.stack = argsL.reverse ++ rest) (hW : 2 * g.monitorRoom + (rest.map fun v => v.category).sum ≤ W9) (hdg : decode c.code g.pc = .ok (.invokestatic index, 3))
    (hpre : ∀ vm₁, s.WarmedH vm₁ → Pre ⟨T.setVm vm₁, locs, cells, slots⟩ argsL.toArray) :
    (∃ (v : Option Value) (vm₁ : Vm) (B : Pt), s.WarmedH vm₁ ∧ Stand p l e R s m args below meth c B.U B.locs B.cells B.slots ∧ Post ⟨T.setVm vm₁, locs, cells, slots⟩ argsL.toArray v B ∧
      ∀ target, Steps p.tables e below (B.U.setTop { g with pc := g.pc + 3, stack := v.toList ++ rest }) target → Steps p.tables e below (T.setTop g) target) ∨
    (∃ (q : Addr) (vm₁ : Vm) (B : Pt), s.WarmedH vm₁ ∧ Stand p l e R s m args below meth c B.U B.locs B.cells B.slots ∧ PostX ⟨T.setVm vm₁, locs, cells, slots⟩ argsL.toArray q B ∧
      Steps p.tables e below (T.setTop g) ((B.U.setTop { g with stack := rest }).pushFrame (.throwing q))) := by
  obtain ⟨mk, methM, cM, hnamed, hmethM, -, -, -, -, -, -, hsigM⟩ := Cond.codeWith_spec hcode
  have hstatic : methM.isStatic = true := Cond.static_spec hnamed hmethM hstat
  obtain ⟨kP, hkP, -⟩ := className_of_methodNamed hnamed
  have hinitP : kP.init = .initialized := Cond.initialized_spec (findClass_of_methodNamed hnamed) hkP hinit
  obtain ⟨vm₁, X₁, hstep₁⟩ := X.invokestatic hexec hown hlink hnamed hmethM hstatic hkP hinitP hy (g := g) hg (argsL := argsL) (rest := rest) (hlen _ hsigM) hstack hdg
  rcases hK m meth c ⟨T.setVm vm₁, locs, cells, slots⟩ { g with stack := rest } (.invokestatic index) mk argsL.toArray X₁ hg hsize hdg hW (X₁.named hnamed) (hpre vm₁ X₁.warmed) with ⟨v, B, X', hpost, hsteps⟩ | ⟨q, B, X', hpost, hsteps⟩
  · exact Or.inl ⟨v, vm₁, B, X₁.warmed, X', hpost, fun target h => hstep₁ _ fun acts => by rw [doInvoke_state]; exact hsteps.trans h⟩
  · exact Or.inr ⟨q, vm₁, B, X₁.warmed, X', hpost, hstep₁ _ fun acts => by rw [doInvoke_state]; exact hsteps⟩
theorem vx_callVW (X : Stand p l e R s m args below meth c T locs cells slots) (hexec : p.tables.exec = Jvm.exec) {own C : String} {index : Nat} {y : MethodName} {bytes : ByteArray} {maxL : Nat} {ret : Option FieldType} {hh : List (Nat × Nat × Nat × Nat)}
    (hown : s.vm.findClass own = some m.cls) (hlink : (Cond.methodLink own index y).before args s = true) (hinst : (Cond.instanceMethod y).before args s = true) (hsel : (Cond.selects C y y).before args s = true)
    (hcode : (Cond.codeWith y bytes maxL ret hh).before args s = true) (hy : y.cls ≠ "java/lang/invoke/MethodHandle" ∧ y.cls ≠ "java/lang/invoke/VarHandle")
    {W9 : Nat} {Pre : Pt → Array Value → Prop} {Post : Pt → Array Value → Option Value → Pt → Prop} (hK : Back l R p e below s args y 3 W9 Pre Post)
    {b : Addr} {cellB : Cell} (hcell : T.heap[b]? = some cellB) (hobj : cellB.vm.isStatics = false) (hcls : s.vm.findClass C = some cellB.cls)
    {g : JFrame} (hg : g.method = m) (hsize : g.locals.size = c.maxLocals) {argsL rest : List Value} (hlen : ∀ sig, parseMethodDescriptor y.desc = some sig → argsL.length = sig.parameters.length)
    (hstack : g.stack = argsL.reverse ++ .ref b :: rest) (hW : 2 * g.monitorRoom + (rest.map fun v => v.category).sum ≤ W9) (hdg : decode c.code g.pc = .ok (.invokevirtual index, 3))
    (hpre : ∀ vm₁, s.WarmedH vm₁ → Pre ⟨T.setVm vm₁, locs, cells, slots⟩ (Value.ref b :: argsL).toArray) :
    ∃ (v : Option Value) (vm₁ : Vm) (B : Pt), s.WarmedH vm₁ ∧ Stand p l e R s m args below meth c B.U B.locs B.cells B.slots ∧ Post ⟨T.setVm vm₁, locs, cells, slots⟩ (Value.ref b :: argsL).toArray v B ∧
      ∀ target, Steps p.tables e below (B.U.setTop { g with pc := g.pc + 3, stack := v.toList ++ rest }) target → Steps p.tables e below (T.setTop g) target := by
  obtain ⟨mk, methM, hnamed, hmethM, hstM, habM⟩ := Cond.instanceMethod_spec hinst
  obtain ⟨m8, methM', cM, hn8, hmethM', -, -, -, -, -, -, hsigM⟩ := Cond.codeWith_spec hcode
  cases Option.some.inj (hn8.symm.trans hnamed)
  cases hmethM.symm.trans hmethM'
  obtain ⟨c2, r2, m2, q1, q2, q3, q4, kP, hkP, hkPi⟩ := Cond.selects_spec hsel
  cases hcls.symm.trans q1
  cases (State.methodFound?_of_named hnamed hy).symm.trans q2
  cases hnamed.symm.trans q3
  have hselP : selectMethod e.platform s.vm cellB.cls mk = .method mk := by rw [Launch.admits_selectMethod X.admits]; exact q4
  obtain ⟨vm₁, X₁, hstep₁⟩ := X.invokevirtual hexec hown hlink hnamed hmethM hstM hkP hkPi hy (a := b) (cell := cellB) hcell
    (fun z h => by rw [h] at hobj; cases hobj) hselP hmethM habM hkP hkPi (g := g) hg (argsL := argsL) (rest := rest) (hlen _ hsigM) hstack hdg
  obtain ⟨v, B, X', hpost, hsteps⟩ := hK m meth c ⟨T.setVm vm₁, locs, cells, slots⟩ { g with stack := rest } (.invokevirtual index) mk (Value.ref b :: argsL).toArray X₁ hg hsize hdg hW (X₁.named hnamed) (hpre vm₁ X₁.warmed)
  exact ⟨v, vm₁, B, X₁.warmed, X', hpost, fun target h => hstep₁ _ fun acts => by rw [doInvoke_state]; exact hsteps.trans h⟩
abbrev vx_CVW (R : Room) (s : State) (args : Array Value) (own C : String) (index : Nat) (y : MethodName) (bytes : ByteArray) (maxL : Nat) (ret : Option FieldType) (hh : List (Nat × Nat × Nat × Nat)) (ws : List Cond) (rm : Room) (mc ms n : Nat) : Prop :=
  (rm.cells = mc ∧ rm.slots = ms ∧ rm.frames + 1 ≤ R.frames ∧ 8 + (maxL + 11) + rm.locals ≤ R.locals ∧ (∀ w ∈ ws, ∀ (a' : Array Value) (U : State), s.WarmedH U.vm → w.before a' U = true) ∧ Cond.codeWith y bytes maxL ret hh ∈ ws) ∧
  (Cond.codeWith y bytes maxL ret hh).before args s = true ∧ (Cond.initialized y.cls).before args s = true ∧ (y.cls ≠ "java/lang/invoke/MethodHandle" ∧ y.cls ≠ "java/lang/invoke/VarHandle") ∧
  (∀ sig, parseMethodDescriptor y.desc = some sig → n = sig.parameters.length) ∧ (Cond.methodLink own index y).before args s = true ∧ (Cond.instanceMethod y).before args s = true ∧ (Cond.selects C y y).before args s = true
theorem vx_cwVW {own C : String} {index maxL mc ms : Nat} {y : MethodName} {bytes : ByteArray} {ret : Option FieldType} {hh : List (Nat × Nat × Nat × Nat)} {Ts ws ws' : List Cond} {rm : Room} (n : Nat) (ht : ∀ w ∈ Ts, w.before args s = true) (hT : GoodIn Ts (wsV own index C y ws)) (hw : ws = Cond.codeWith y bytes maxL ret hh :: ws') (hrc : rm.cells = mc) (hrs : rm.slots = ms)
    (hd : y.cls = C ∧ y.cls ≠ "java/lang/invoke/MethodHandle" ∧ y.cls ≠ "java/lang/invoke/VarHandle" ∧ (parseMethodDescriptor y.desc).map (fun d => d.parameters.length) = some n) (hR : rm.frames + 1 ≤ R.frames ∧ 8 + (maxL + 11) + rm.locals ≤ R.locals) :
    vx_CVW R s args own C index y bytes maxL ret hh ws rm mc ms n := by
  obtain ⟨hC, hd⟩ := hd
  subst hC
  have ok : ∀ w ∈ wsV own index y.cls y ws, w.before args s = true := fun w h => ht w (hT w h).1
  have hG : GoodIn Ts ws := fun w h => hT w (by unfold wsV; exact List.mem_append_right _ h)
  have hc : Cond.codeWith y bytes maxL ret hh ∈ ws := by rw [hw]; exact List.mem_cons_self
  refine ⟨⟨hrc, hrs, hR.1, hR.2, pay_in ht hG, hc⟩, ht _ (hG _ hc).1, ok _ (by simp [wsV]), ⟨hd.1, hd.2.1⟩, fun sig h => ?_, ok _ (by simp [wsV]), ok _ (by simp [wsV]), ok _ (by simp [wsV])⟩
  have h2 := hd.2.2
  rw [h] at h2
  exact (Option.some.inj h2).symm
theorem vx_runVW {y : MethodName} {bytes cc : ByteArray} {maxL nL mc ms n index : Nat} {ret : Option FieldType} {hh : List (Nat × Nat × Nat × Nat)} {ws : List Cond} {rm : Room} {Pc : Array Value → State → Prop} {Qc : Array Value → State → Outcome → State → Prop} {free : Addr → Prop} {Ts : List Cond} {own C : String} {b : Addr} {As rest : List Value} {g : JFrame}
    (S : CallFix p m c cc nL s args Ts own) (hM : Met l y ws rm Pc Qc mc ms free) (cw : vx_CVW R s args own C index y bytes maxL ret hh ws rm mc ms n) (hp : PreV s H C b Pc As)
    (hg : g.method = m) (hn : As.length = n) (hsize : g.locals.size = nL) (hstack : g.stack = As.reverse ++ .ref b :: rest) (hW : 2 * g.monitorRoom + (rest.map fun v => v.category).sum ≤ 8) (hdg : decode cc g.pc = .ok (.invokevirtual index, 3)) (hf : cells + mc ≤ R.cells ∧ slots + ms ≤ R.slots) :
    va_Run p l e R s m args below meth c H locs cells slots mc ms g rest (Qc (Value.ref b :: As).toArray) free := by
  obtain ⟨⟨hrc, hrs, hfr, hlo, hws, hcw⟩, hcode, hini, hy, hlen, hl, hin, hse⟩ := cw
  have hK : Back l R p e below s args y 3 8 (PreOf R mc ms Pc) (PostOf Qc mc ms free) := va_backW (hh := hh) (bytes := bytes) (maxL := maxL) (ret := ret) hM hp.1 hrc hrs hfr hlo hws hcw (fun a' U hW => word_at hW (Or.inl (by first | rfl | simp [Cond.onTables, Cond.keeps, Cond.steady])) hini)
  obtain ⟨hx, hb, hml, ho, -⟩ := S
  obtain ⟨-, ⟨cellB, hcB, hoB, hclB⟩, hPc⟩ := hp
  intro T hT X
  obtain ⟨v, vm₁, ⟨U', l2, c2, s2⟩, hW₁, X', ⟨g', mk, t, L, e1, e2, hq, h1, hL, h2, h3⟩, st⟩ := vx_callVW X hx (C := C) (hh := hh) (bytes := bytes) (maxL := maxL) (ret := ret) ho hl hin hse hcode hy hK (by rw [hT]; exact hcB) hoB hclB hg (hsize.trans hml.symm) (argsL := As) (rest := rest) (fun sig h => hn.trans (hlen sig h)) hstack hW (by rw [hb]; exact hdg)
    (fun vm₁ hW₁ => ⟨hf.1, hf.2, hPc (T.setVm vm₁) hT hW₁⟩)
  dsimp only [Pt.U, Pt.locs, Pt.cells, Pt.slots] at X' e1 e2 h1 h2 h3 st
  subst h1; subst h2; subst h3
  exact ⟨v, (T.setVm vm₁).calling g' mk (Value.ref b :: As).toArray, t, U', L, hT, X', hL, e1, e2, hq, st⟩
section
variable {y : MethodName} {bytes cc : ByteArray} {maxL nL mc ms n index : Nat} {ret : Option FieldType} {ws : List Cond} {rm : Room} {Pc : Array Value → State → Prop} {Qc : Array Value → State → Outcome → State → Prop} {XC : String → State → State → Prop} {free : Addr → Prop} {Ts : List Cond} {own C : String} {b : Addr} {As rest : List Value} {g : JFrame}
theorem vx_runVX {hh : List (Nat × Nat × Nat × Nat)} (S : CallFix p m c cc nL s args Ts own) (hM : vx_Met l y ws rm Pc Qc XC mc ms free) (cw : vx_CVW R s args own C index y bytes maxL ret hh ws rm mc ms n) (hp : PreV s H C b Pc As)
    (hg : g.method = m) (hn : As.length = n) (hsize : g.locals.size = nL) (hstack : g.stack = As.reverse ++ .ref b :: rest) (hW : 2 * g.monitorRoom + (rest.map fun v => v.category).sum ≤ 8) (hdg : decode cc g.pc = .ok (.invokevirtual index, 3)) (hf : cells + mc ≤ R.cells ∧ slots + ms ≤ R.slots) :
    vx_Run p l e R s m args below meth c H locs cells slots mc ms g rest (Qc (Value.ref b :: As).toArray) XC free := by
  obtain ⟨⟨hrc, hrs, hfr, hlo, hws, hcw⟩, hcode, hini, hy, hlen, hl, hin, hse⟩ := cw
  have hK : vx_Back l R p e below s args y 3 8 (PreOf R mc ms Pc) (PostOf Qc mc ms free) (vx_Post XC mc ms free) := vx_backW (hh := hh) (bytes := bytes) (maxL := maxL) (ret := ret) hM hp.1 hrc hrs hfr hlo hws hcw (fun a' U hW => word_at hW (Or.inl (by first | rfl | simp [Cond.onTables, Cond.keeps, Cond.steady])) hini)
  obtain ⟨hx, hb, hml, ho, -⟩ := S
  obtain ⟨-, ⟨cellB, hcB, hoB, hclB⟩, hPc⟩ := hp
  intro T hT X
  rcases vx_callVX X hx (C := C) (hh := hh) (bytes := bytes) (maxL := maxL) (ret := ret) ho hl hin hse hcode hy hK (by rw [hT]; exact hcB) hoB hclB hg (hsize.trans hml.symm) (argsL := As) (rest := rest) (fun sig h => hn.trans (hlen sig h)) hstack hW (by rw [hb]; exact hdg)
    (fun vm₁ hW₁ => ⟨hf.1, hf.2, hPc (T.setVm vm₁) hT hW₁⟩) with ⟨v, vm₁, ⟨U', l2, c2, s2⟩, hW₁, X', ⟨g', mk, t, L, e1, e2, hq, h1, hL, h2, h3⟩, st⟩ | ⟨q, vm₁, ⟨U', l2, c2, s2⟩, hW₁, X', ⟨g', mk, t, L, E, ce, e1, e2, hq, hce, hcv, hcl, h1, hL, h2, h3⟩, st⟩
  · dsimp only [Pt.U, Pt.locs, Pt.cells, Pt.slots] at X' e1 e2 h1 h2 h3 st
    subst h1; subst h2; subst h3
    exact Or.inl ⟨v, (T.setVm vm₁).calling g' mk (Value.ref b :: As).toArray, t, U', L, hT, X', hL, e1, e2, hq, st⟩
  · dsimp only [Pt.U, Pt.locs, Pt.cells, Pt.slots] at X' e1 e2 h1 h2 h3 st hcl
    subst h1; subst h2; subst h3
    exact Or.inr ⟨q, (T.setVm vm₁).calling g' mk (Value.ref b :: As).toArray, t, U', L, E, ce, hT, X', hL, e1, e2, hq, hce, hcv, vx_cls hW₁ hcl, st⟩
theorem vx_runSX {hh : List (Nat × Nat × Nat × Nat)} (S : CallFix p m c cc nL s args Ts own) (hM : vx_Met l y ws rm Pc Qc XC mc ms free) (cw : vx_CSW R s args own index y bytes maxL ret hh ws rm mc ms n) (hp : PreS s H Pc As)
    (hg : g.method = m) (hn : As.length = n) (hsize : g.locals.size = nL) (hstack : g.stack = As.reverse ++ rest) (hW : 2 * g.monitorRoom + (rest.map fun v => v.category).sum ≤ 8) (hdg : decode cc g.pc = .ok (.invokestatic index, 3)) (hf : cells + mc ≤ R.cells ∧ slots + ms ≤ R.slots) :
    vx_Run p l e R s m args below meth c H locs cells slots mc ms g rest (Qc As.toArray) XC free := by
  obtain ⟨⟨hrc, hrs, hfr, hlo, hws, hcw⟩, hcode, hini, hy, hlen, hl, hstt⟩ := cw
  have hK : vx_Back l R p e below s args y 3 8 (PreOf R mc ms Pc) (PostOf Qc mc ms free) (vx_Post XC mc ms free) := vx_backW (hh := hh) (bytes := bytes) (maxL := maxL) (ret := ret) hM hp.1 hrc hrs hfr hlo hws hcw (fun a' U hW => word_at hW (Or.inl (by first | rfl | simp [Cond.onTables, Cond.keeps, Cond.steady])) hini)
  obtain ⟨hx, hb, hml, ho, -⟩ := S
  intro T hT X
  rcases vx_callSX X hx (hh := hh) (bytes := bytes) (maxL := maxL) (ret := ret) ho hl hstt hini hcode hy hK hg (hsize.trans hml.symm) (argsL := As) (rest := rest) (fun sig h => hn.trans (hlen sig h)) hstack hW (by rw [hb]; exact hdg)
    (fun vm₁ hW₁ => ⟨hf.1, hf.2, hp.2 (T.setVm vm₁) hT hW₁⟩) with ⟨v, vm₁, ⟨U', l2, c2, s2⟩, hW₁, X', ⟨g', mk, t, L, e1, e2, hq, h1, hL, h2, h3⟩, st⟩ | ⟨q, vm₁, ⟨U', l2, c2, s2⟩, hW₁, X', ⟨g', mk, t, L, E, ce, e1, e2, hq, hce, hcv, hcl, h1, hL, h2, h3⟩, st⟩
  · dsimp only [Pt.U, Pt.locs, Pt.cells, Pt.slots] at X' e1 e2 h1 h2 h3 st
    subst h1; subst h2; subst h3
    exact Or.inl ⟨v, (T.setVm vm₁).calling g' mk As.toArray, t, U', L, hT, X', hL, e1, e2, hq, st⟩
  · dsimp only [Pt.U, Pt.locs, Pt.cells, Pt.slots] at X' e1 e2 h1 h2 h3 st hcl
    subst h1; subst h2; subst h3
    exact Or.inr ⟨q, (T.setVm vm₁).calling g' mk As.toArray, t, U', L, E, ce, hT, X', hL, e1, e2, hq, hce, hcv, vx_cls hW₁ hcl, st⟩
end
end VXH
theorem vx_ofWH {l : Launch} {y : MethodName} {ws ws' : List Cond} {rm : Room} {Pc : Array Value → State → Prop} {Qc : Array Value → State → Outcome → State → Prop} {XC : String → State → State → Prop} {mc ms : Nat} {free : Addr → Prop} {cc : ByteArray} {maxL : Nat} {ret : Option FieldType} {hh : List (Nat × Nat × Nat × Nat)}
    (hy : plainName y.cls = true) (hw : ws = Cond.codeWith y cc maxL ret hh :: ws')
    (body : ∀ p e s m args below meth c s₁, BodyLoose p l y (headSpec ws rm) cc maxL ret e s m args below meth c s₁ → c.maxLocals = maxL → Pc args s →
      W p l e (headSpec ws rm).room s m args below meth c s.heap [] 0 0 (vx_MQ below Qc XC args s mc ms free) (entryFrame m args maxL)) : vx_Met l y ws rm Pc Qc XC mc ms free := by
  refine MetFree.of_bodyS (code := cc) (maxLocals := maxL) (ret := ret) hy ?_ ?_
  · intro args s m h hn
    obtain ⟨m9, meth, c, hn9, h1, h2, h3, h4, -, h5, h6, -⟩ := Cond.codeWith_spec (atoms_spec (ws := ws) h _ (by rw [hw]; exact List.mem_cons_self))
    cases hn.symm.trans hn9
    exact ⟨meth, c, h1, h2, h3, h4, h5, h6⟩
  · intro p e s m args below meth c s₁ B hml hP _
    have hh0 : s₁.heap = s.heap := by rw [B.state]; rfl
    obtain ⟨t, a1, o, b1, b2, b3⟩ := body p e s m args below meth c s₁ B hml hP s₁ hh0 (Stand.of_body B)
    exact ⟨t, o, a1, b1, b2, b3⟩
/-! ===== END ===== -/
end
section
/-! ===== BEGIN printed: names, fields, word lists, decode rows ===== -/
def RX0 : String := "SiblingJoins$Copy"
def TX0 : u_T := fun k => match k with
  | 0 => ("SiblingJoins$Copy", "seen", "[I", true)
  | 1 => ("SiblingJoins$Copy", "marks", "[I", true)
  | 2 => ("SiblingJoins$Copy", "values", "[I", true)
  | _ => ("SiblingJoins$Copy", "size", "I", false)
def tyX0 : Nat → FieldType := fun k => match k with
  | 0 => .array .int
  | 1 => .array .int
  | 2 => .array .int
  | _ => .int
abbrev wsX00 : List Cond := u_ws RX0 TX0 4
theorem nmX0 : ∀ a, a < 4 → ∀ b, b < 4 → a ≠ b → (TX0 a).2.1 ≠ (TX0 b).2.1 := by decide +kernel
theorem tyX0_ok : ∀ k, k < 4 → parseFieldDescriptor (TX0 k).2.2.1 = some (tyX0 k) := by decide +kernel
abbrev cX0_init : ByteArray := prog_2_method_1_code
def yX0_init : MethodName := ⟨RX0, "<init>", "()V"⟩
abbrev cX0_become : ByteArray := prog_2_method_2_code
def yX0_become : MethodName := ⟨RX0, "become", "(LSiblingJoins$Copy;)V"⟩
abbrev cX0_has : ByteArray := prog_2_method_3_code
def yX0_has : MethodName := ⟨RX0, "has", "(I)Z"⟩
abbrev cX0_hasOneOf : ByteArray := prog_2_method_4_code
def yX0_hasOneOf : MethodName := ⟨RX0, "hasOneOf", "(I)Z"⟩
abbrev cX0_hasSameSiblings : ByteArray := prog_2_method_5_code
def yX0_hasSameSiblings : MethodName := ⟨RX0, "hasSameSiblings", "(LSiblingJoins$Copy;)Z"⟩
abbrev cX0_coveredBy : ByteArray := prog_2_method_6_code
def yX0_coveredBy : MethodName := ⟨RX0, "coveredBy", "([I)I"⟩
abbrev cX0_hasDropped : ByteArray := prog_2_method_7_code
def yX0_hasDropped : MethodName := ⟨RX0, "hasDropped", "(I)Z"⟩
abbrev cX0_isNew : ByteArray := prog_2_method_8_code
def yX0_isNew : MethodName := ⟨RX0, "isNew", "(I)Z"⟩
abbrev cX0_lostTo : ByteArray := prog_2_method_9_code
def yX0_lostTo : MethodName := ⟨RX0, "lostTo", "(LSiblingJoins$Copy;)I"⟩
abbrev cX0_gainedFrom : ByteArray := prog_2_method_10_code
def yX0_gainedFrom : MethodName := ⟨RX0, "gainedFrom", "(LSiblingJoins$Copy;)I"⟩
abbrev cX0_dropCoveredBy : ByteArray := prog_2_method_11_code
def yX0_dropCoveredBy : MethodName := ⟨RX0, "dropCoveredBy", "([I)V"⟩
abbrev cX0_takeFrom : ByteArray := prog_2_method_12_code
def yX0_takeFrom : MethodName := ⟨RX0, "takeFrom", "(LSiblingJoins$Copy;)V"⟩
abbrev cX0_insert : ByteArray := prog_2_method_13_code
def yX0_insert : MethodName := ⟨RX0, "insert", "(II)V"⟩
abbrev cX0_remove : ByteArray := prog_2_method_14_code
def yX0_remove : MethodName := ⟨RX0, "remove", "(I)V"⟩
abbrev cX0_valueBy : ByteArray := prog_2_method_15_code
def yX0_valueBy : MethodName := ⟨RX0, "valueBy", "(I)I"⟩
def RX1 : String := "SiblingJoins$KeyState"
def TX1 : u_T := fun k => match k with
  | 0 => ("SiblingJoins$KeyState", "copies", "[LSiblingJoins$Copy;", true)
  | 1 => ("SiblingJoins$KeyState", "knowledge", "[[I", true)
  | _ => ("SiblingJoins$KeyState", "writes", "[I", true)
def tyX1 : Nat → FieldType := fun k => match k with
  | 0 => .array (.object "SiblingJoins$Copy")
  | 1 => .array (.array .int)
  | _ => .array .int
abbrev wsX10 : List Cond := u_ws RX1 TX1 3
theorem nmX1 : ∀ a, a < 3 → ∀ b, b < 3 → a ≠ b → (TX1 a).2.1 ≠ (TX1 b).2.1 := by decide +kernel
theorem tyX1_ok : ∀ k, k < 3 → parseFieldDescriptor (TX1 k).2.2.1 = some (tyX1 k) := by decide +kernel
abbrev cX1_init : ByteArray := prog_3_method_1_code
def yX1_init : MethodName := ⟨RX1, "<init>", "()V"⟩
abbrev cX1_become : ByteArray := prog_3_method_2_code
def yX1_become : MethodName := ⟨RX1, "become", "(LSiblingJoins$KeyState;)V"⟩
abbrev cX1_learn : ByteArray := prog_3_method_3_code
def yX1_learn : MethodName := ⟨RX1, "learn", "(II)V"⟩
abbrev cX1_mayWrite : ByteArray := prog_3_method_4_code
def yX1_mayWrite : MethodName := ⟨RX1, "mayWrite", "(II)Z"⟩
abbrev cX1_mayPull : ByteArray := prog_3_method_5_code
def yX1_mayPull : MethodName := ⟨RX1, "mayPull", "(II)Z"⟩
abbrev cX1_writeOutlook : ByteArray := prog_3_method_6_code
def yX1_writeOutlook : MethodName := ⟨RX1, "writeOutlook", "(III)I"⟩
abbrev cX1_pullOutlook : ByteArray := prog_3_method_7_code
def yX1_pullOutlook : MethodName := ⟨RX1, "pullOutlook", "(III)I"⟩
abbrev cX1_put : ByteArray := prog_3_method_8_code
def yX1_put : MethodName := ⟨RX1, "put", "(III)V"⟩
abbrev cX1_unlearn : ByteArray := prog_3_method_9_code
def yX1_unlearn : MethodName := ⟨RX1, "unlearn", "(I)I"⟩
abbrev cX1_hindrance : ByteArray := prog_3_method_10_code
def yX1_hindrance : MethodName := ⟨RX1, "hindrance", "(I)I"⟩
abbrev cX1_erase : ByteArray := prog_3_method_11_code
def yX1_erase : MethodName := ⟨RX1, "erase", "(I)V"⟩
abbrev cX1_siblingFact : ByteArray := prog_3_method_12_code
def yX1_siblingFact : MethodName := ⟨RX1, "siblingFact", "(III)I"⟩
abbrev cX1_knowers : ByteArray := prog_3_method_13_code
def yX1_knowers : MethodName := ⟨RX1, "knowers", "(I)I"⟩
abbrev cX1_holders : ByteArray := prog_3_method_14_code
def yX1_holders : MethodName := ⟨RX1, "holders", "(I)I"⟩
abbrev cX1_keyFact : ByteArray := prog_3_method_15_code
def yX1_keyFact : MethodName := ⟨RX1, "keyFact", "(I)I"⟩
abbrev cX1_unlikeSiblings : ByteArray := prog_3_method_16_code
def yX1_unlikeSiblings : MethodName := ⟨RX1, "unlikeSiblings", "()I"⟩
abbrev cX1_writesInAll : ByteArray := prog_3_method_17_code
def yX1_writesInAll : MethodName := ⟨RX1, "writesInAll", "()I"⟩
abbrev cX1_agreeingPairs : ByteArray := prog_3_method_18_code
def yX1_agreeingPairs : MethodName := ⟨RX1, "agreeingPairs", "()I"⟩
abbrev cX1_allSeeTheSame : ByteArray := prog_3_method_19_code
def yX1_allSeeTheSame : MethodName := ⟨RX1, "allSeeTheSame", "()Z"⟩
abbrev cX1_forgettable : ByteArray := prog_3_method_20_code
def yX1_forgettable : MethodName := ⟨RX1, "forgettable", "()I"⟩
def RX2 : String := "SiblingJoins$Part"
def TX2 : u_T := fun k => match k with
  | 0 => ("SiblingJoins$Part", "place", "I", false)
  | 1 => ("SiblingJoins$Part", "writing", "Z", false)
  | 2 => ("SiblingJoins$Part", "writer", "I", false)
  | 3 => ("SiblingJoins$Part", "key", "I", false)
  | 4 => ("SiblingJoins$Part", "store", "I", false)
  | _ => ("SiblingJoins$Part", "value", "I", false)
def tyX2 : Nat → FieldType := fun k => match k with
  | 0 => .int
  | 1 => .boolean
  | 2 => .int
  | 3 => .int
  | 4 => .int
  | _ => .int
abbrev wsX20 : List Cond := u_ws RX2 TX2 6
theorem nmX2 : ∀ a, a < 6 → ∀ b, b < 6 → a ≠ b → (TX2 a).2.1 ≠ (TX2 b).2.1 := by decide +kernel
theorem tyX2_ok : ∀ k, k < 6 → parseFieldDescriptor (TX2 k).2.2.1 = some (tyX2 k) := by decide +kernel
abbrev cX2_init : ByteArray := prog_4_method_1_code
def yX2_init : MethodName := ⟨RX2, "<init>", "()V"⟩
abbrev cX2_restart : ByteArray := prog_4_method_2_code
def yX2_restart : MethodName := ⟨RX2, "restart", "()V"⟩
abbrev cX2_isWhole : ByteArray := prog_4_method_3_code
def yX2_isWhole : MethodName := ⟨RX2, "isWhole", "()Z"⟩
abbrev cX2_takes : ByteArray := prog_4_method_4_code
def yX2_takes : MethodName := ⟨RX2, "takes", "(I)Z"⟩
abbrev cX2_shape : ByteArray := prog_4_method_5_code
def yX2_shape : MethodName := ⟨RX2, "shape", "()Ljava/lang/String;"⟩
abbrev cX2_takesKind : ByteArray := prog_4_method_6_code
def yX2_takesKind : MethodName := ⟨RX2, "takesKind", "(I)Z"⟩
abbrev cX2_takesDigit : ByteArray := prog_4_method_7_code
def yX2_takesDigit : MethodName := ⟨RX2, "takesDigit", "(IC)Z"⟩
abbrev cX2_takesEnd : ByteArray := prog_4_method_8_code
def yX2_takesEnd : MethodName := ⟨RX2, "takesEnd", "(I)Z"⟩
def RX3 : String := "SiblingJoins$State"
def TX3 : u_T := fun k => match k with
  | 0 => ("SiblingJoins$State", "keys", "[LSiblingJoins$KeyState;", true)
  | 1 => ("SiblingJoins$State", "writings", "I", false)
  | 2 => ("SiblingJoins$State", "droppedByWrites", "I", false)
  | 3 => ("SiblingJoins$State", "droppedByPulls", "I", false)
  | 4 => ("SiblingJoins$State", "joins", "I", false)
  | _ => ("SiblingJoins$State", "forgotten", "I", false)
def tyX3 : Nat → FieldType := fun k => match k with
  | 0 => .array (.object "SiblingJoins$KeyState")
  | 1 => .int
  | 2 => .int
  | 3 => .int
  | 4 => .int
  | _ => .int
abbrev wsX30 : List Cond := u_ws RX3 TX3 6
theorem nmX3 : ∀ a, a < 6 → ∀ b, b < 6 → a ≠ b → (TX3 a).2.1 ≠ (TX3 b).2.1 := by decide +kernel
theorem tyX3_ok : ∀ k, k < 6 → parseFieldDescriptor (TX3 k).2.2.1 = some (tyX3 k) := by decide +kernel
abbrev cX3_init : ByteArray := prog_5_method_1_code
def yX3_init : MethodName := ⟨RX3, "<init>", "()V"⟩
abbrev cX3_become : ByteArray := prog_5_method_2_code
def yX3_become : MethodName := ⟨RX3, "become", "(LSiblingJoins$State;)V"⟩
abbrev cX3_replace : ByteArray := prog_5_method_3_code
def yX3_replace : MethodName := ⟨RX3, "replace", "(IIII)I"⟩
abbrev cX3_bring : ByteArray := prog_5_method_4_code
def yX3_bring : MethodName := ⟨RX3, "bring", "(III)I"⟩
abbrev cX3_bringAll : ByteArray := prog_5_method_5_code
def yX3_bringAll : MethodName := ⟨RX3, "bringAll", "()Z"⟩
abbrev cX3_siblingsInAll : ByteArray := prog_5_method_6_code
def yX3_siblingsInAll : MethodName := ⟨RX3, "siblingsInAll", "()I"⟩
abbrev cX3_mostSiblings : ByteArray := prog_5_method_7_code
def yX3_mostSiblings : MethodName := ⟨RX3, "mostSiblings", "()I"⟩
def RX4 : String := "SiblingJoins"
def TX4 : u_T := fun k => match k with
  | 0 => ("SiblingJoins", "now", "LSiblingJoins$State;", true)
  | 1 => ("SiblingJoins", "trial", "LSiblingJoins$State;", true)
  | 2 => ("SiblingJoins", "saved", "[LSiblingJoins$State;", true)
  | 3 => ("SiblingJoins", "savedCount", "I", false)
  | 4 => ("SiblingJoins", "buffer", "[I", true)
  | 5 => ("SiblingJoins", "bufferLength", "I", false)
  | _ => ("SiblingJoins", "part", "LSiblingJoins$Part;", true)
def tyX4 : Nat → FieldType := fun k => match k with
  | 0 => .object "SiblingJoins$State"
  | 1 => .object "SiblingJoins$State"
  | 2 => .array (.object "SiblingJoins$State")
  | 3 => .int
  | 4 => .array .int
  | 5 => .int
  | _ => .object "SiblingJoins$Part"
abbrev wsX40 : List Cond := u_ws RX4 TX4 7
theorem nmX4 : ∀ a, a < 7 → ∀ b, b < 7 → a ≠ b → (TX4 a).2.1 ≠ (TX4 b).2.1 := by decide +kernel
theorem tyX4_ok : ∀ k, k < 7 → parseFieldDescriptor (TX4 k).2.2.1 = some (tyX4 k) := by decide +kernel
abbrev cX4_init : ByteArray := prog_1_method_1_code
def yX4_init : MethodName := ⟨RX4, "<init>", "()V"⟩
abbrev cX4_read : ByteArray := prog_1_method_2_code
def yX4_read : MethodName := ⟨RX4, "read", "(III)I"⟩
abbrev cX4_write : ByteArray := prog_1_method_3_code
def yX4_write : MethodName := ⟨RX4, "write", "(IIII)I"⟩
abbrev cX4_pull : ByteArray := prog_1_method_4_code
def yX4_pull : MethodName := ⟨RX4, "pull", "(III)I"⟩
abbrev cX4_join : ByteArray := prog_1_method_5_code
def yX4_join : MethodName := ⟨RX4, "join", "(IIII)I"⟩
abbrev cX4_lose : ByteArray := prog_1_method_6_code
def yX4_lose : MethodName := ⟨RX4, "lose", "(II)I"⟩
abbrev cX4_forget : ByteArray := prog_1_method_7_code
def yX4_forget : MethodName := ⟨RX4, "forget", "(II)I"⟩
abbrev cX4_pullAll : ByteArray := prog_1_method_8_code
def yX4_pullAll : MethodName := ⟨RX4, "pullAll", "()I"⟩
abbrev cX4_append : ByteArray := prog_1_method_9_code
def yX4_append : MethodName := ⟨RX4, "append", "(I)I"⟩
abbrev cX4_clearBuffer : ByteArray := prog_1_method_10_code
def yX4_clearBuffer : MethodName := ⟨RX4, "clearBuffer", "()I"⟩
abbrev cX4_firstError : ByteArray := prog_1_method_11_code
def yX4_firstError : MethodName := ⟨RX4, "firstError", "()I"⟩
abbrev cX4_runAll : ByteArray := prog_1_method_12_code
def yX4_runAll : MethodName := ⟨RX4, "runAll", "()I"⟩
abbrev cX4_undo : ByteArray := prog_1_method_13_code
def yX4_undo : MethodName := ⟨RX4, "undo", "()I"⟩
abbrev cX4_sibling : ByteArray := prog_1_method_14_code
def yX4_sibling : MethodName := ⟨RX4, "sibling", "(IIII)I"⟩
abbrev cX4_vector : ByteArray := prog_1_method_15_code
def yX4_vector : MethodName := ⟨RX4, "vector", "(III)I"⟩
abbrev cX4_knows : ByteArray := prog_1_method_16_code
def yX4_knows : MethodName := ⟨RX4, "knows", "(III)I"⟩
abbrev cX4_key : ByteArray := prog_1_method_17_code
def yX4_key : MethodName := ⟨RX4, "key", "(II)I"⟩
abbrev cX4_count : ByteArray := prog_1_method_18_code
def yX4_count : MethodName := ⟨RX4, "count", "(I)I"⟩
abbrev cX4_ifWritten : ByteArray := prog_1_method_19_code
def yX4_ifWritten : MethodName := ⟨RX4, "ifWritten", "(IIII)I"⟩
abbrev cX4_ifPulled : ByteArray := prog_1_method_20_code
def yX4_ifPulled : MethodName := ⟨RX4, "ifPulled", "(IIII)I"⟩
abbrev cX4_whyNot : ByteArray := prog_1_method_21_code
def yX4_whyNot : MethodName := ⟨RX4, "whyNot", "(II)I"⟩
abbrev cX4_agreement : ByteArray := prog_1_method_22_code
def yX4_agreement : MethodName := ⟨RX4, "agreement", "()D"⟩
abbrev cX4_digest : ByteArray := prog_1_method_23_code
def yX4_digest : MethodName := ⟨RX4, "digest", "()J"⟩
abbrev cX4_checkIndex : ByteArray := prog_1_method_24_code
def yX4_checkIndex : MethodName := ⟨RX4, "checkIndex", "(II)V"⟩
abbrev cX4_checkUpTo : ByteArray := prog_1_method_25_code
def yX4_checkUpTo : MethodName := ⟨RX4, "checkUpTo", "(II)V"⟩
abbrev cX4_checkWriterKeyStore : ByteArray := prog_1_method_26_code
def yX4_checkWriterKeyStore : MethodName := ⟨RX4, "checkWriterKeyStore", "(III)V"⟩
abbrev cX4_checkTwoStores : ByteArray := prog_1_method_27_code
def yX4_checkTwoStores : MethodName := ⟨RX4, "checkTwoStores", "(III)V"⟩
abbrev cX4_save : ByteArray := prog_1_method_28_code
def yX4_save : MethodName := ⟨RX4, "save", "()V"⟩
abbrev cX4_dropOldest : ByteArray := prog_1_method_29_code
def yX4_dropOldest : MethodName := ⟨RX4, "dropOldest", "()V"⟩
abbrev cX4_scanBuffer : ByteArray := prog_1_method_30_code
def yX4_scanBuffer : MethodName := ⟨RX4, "scanBuffer", "()I"⟩
abbrev cX4_runParts : ByteArray := prog_1_method_31_code
def yX4_runParts : MethodName := ⟨RX4, "runParts", "()I"⟩
abbrev cX4_runPart : ByteArray := prog_1_method_32_code
def yX4_runPart : MethodName := ⟨RX4, "runPart", "()Z"⟩
abbrev cX4_tally : ByteArray := prog_1_method_33_code
def yX4_tally : MethodName := ⟨RX4, "tally", "(I)I"⟩
abbrev cX4_shareOfAgreement : ByteArray := prog_1_method_34_code
def yX4_shareOfAgreement : MethodName := ⟨RX4, "shareOfAgreement", "()D"⟩
abbrev cX4_mix : ByteArray := prog_1_method_35_code
def yX4_mix : MethodName := ⟨RX4, "mix", "(JJ)J"⟩
abbrev cX4_mixKey : ByteArray := prog_1_method_36_code
def yX4_mixKey : MethodName := ⟨RX4, "mixKey", "(JLSiblingJoins$KeyState;)J"⟩
abbrev cX4_mixStore : ByteArray := prog_1_method_37_code
def yX4_mixStore : MethodName := ⟨RX4, "mixStore", "(JLSiblingJoins$KeyState;I)J"⟩
abbrev cX4_mixRow : ByteArray := prog_1_method_38_code
def yX4_mixRow : MethodName := ⟨RX4, "mixRow", "(J[I)J"⟩
abbrev cX4_bitsOfShare : ByteArray := prog_1_method_39_code
def yX4_bitsOfShare : MethodName := ⟨RX4, "bitsOfShare", "(D)J"⟩
abbrev cX4_writerOf : ByteArray := prog_1_method_40_code
def yX4_writerOf : MethodName := ⟨RX4, "writerOf", "(I)I"⟩
abbrev cX4_numberOf : ByteArray := prog_1_method_41_code
def yX4_numberOf : MethodName := ⟨RX4, "numberOf", "(I)I"⟩
abbrev cX4_covers : ByteArray := prog_1_method_42_code
def yX4_covers : MethodName := ⟨RX4, "covers", "([II)Z"⟩
abbrev cX4_mergeInto : ByteArray := prog_1_method_43_code
def yX4_mergeInto : MethodName := ⟨RX4, "mergeInto", "([I[I)V"⟩
abbrev cX4_sameNumbers : ByteArray := prog_1_method_44_code
def yX4_sameNumbers : MethodName := ⟨RX4, "sameNumbers", "([I[I)Z"⟩
def RX5 : String := "SiblingJoinsModel"
def TX5 : u_T := fun k => match k with
  | 0 => ("SiblingJoinsModel", "z", "[I", true)
  | 1 => ("SiblingJoinsModel", "spare", "[I", true)
  | 2 => ("SiblingJoinsModel", "past", "[I", true)
  | 3 => ("SiblingJoinsModel", "kept", "I", false)
  | 4 => ("SiblingJoinsModel", "text", "[I", true)
  | 5 => ("SiblingJoinsModel", "typed", "I", false)
  | 6 => ("SiblingJoinsModel", "thrown", "I", false)
  | 7 => ("SiblingJoinsModel", "made", "[I", true)
  | 8 => ("SiblingJoinsModel", "many", "I", false)
  | 9 => ("SiblingJoinsModel", "dropped", "I", false)
  | 10 => ("SiblingJoinsModel", "fresh", "I", false)
  | 11 => ("SiblingJoinsModel", "at", "I", false)
  | 12 => ("SiblingJoinsModel", "isFault", "Z", false)
  | 13 => ("SiblingJoinsModel", "told", "[I", true)
  | 14 => ("SiblingJoinsModel", "tolds", "I", false)
  | _ => ("SiblingJoinsModel", "hash", "J", false)
def tyX5 : Nat → FieldType := fun k => match k with
  | 0 => .array .int
  | 1 => .array .int
  | 2 => .array .int
  | 3 => .int
  | 4 => .array .int
  | 5 => .int
  | 6 => .int
  | 7 => .array .int
  | 8 => .int
  | 9 => .int
  | 10 => .int
  | 11 => .int
  | 12 => .boolean
  | 13 => .array .int
  | 14 => .int
  | _ => .long
abbrev wsX50 : List Cond := u_ws RX5 TX5 16
theorem nmX5 : ∀ a, a < 16 → ∀ b, b < 16 → a ≠ b → (TX5 a).2.1 ≠ (TX5 b).2.1 := by decide +kernel
theorem tyX5_ok : ∀ k, k < 16 → parseFieldDescriptor (TX5 k).2.2.1 = some (tyX5 k) := by decide +kernel
abbrev cX5_init : ByteArray := prog_7_method_1_code
def yX5_init : MethodName := ⟨RX5, "<init>", "()V"⟩
abbrev cX5_thrown : ByteArray := prog_7_method_2_code
def yX5_thrown : MethodName := ⟨RX5, "thrown", "()I"⟩
abbrev cX5_fails : ByteArray := prog_7_method_3_code
def yX5_fails : MethodName := ⟨RX5, "fails", "(I)I"⟩
abbrev cX5_in : ByteArray := prog_7_method_4_code
def yX5_in : MethodName := ⟨RX5, "in", "(III)Z"⟩
abbrev cX5_isWriter : ByteArray := prog_7_method_5_code
def yX5_isWriter : MethodName := ⟨RX5, "isWriter", "(I)Z"⟩
abbrev cX5_isStore : ByteArray := prog_7_method_6_code
def yX5_isStore : MethodName := ⟨RX5, "isStore", "(I)Z"⟩
abbrev cX5_isKey : ByteArray := prog_7_method_7_code
def yX5_isKey : MethodName := ⟨RX5, "isKey", "(I)Z"⟩
abbrev cX5_saves : ByteArray := prog_7_method_8_code
def yX5_saves : MethodName := ⟨RX5, "saves", "([I)V"⟩
abbrev cX5_undo : ByteArray := prog_7_method_9_code
def yX5_undo : MethodName := ⟨RX5, "undo", "()I"⟩
abbrev cX5_countAt : ByteArray := prog_7_method_10_code
def yX5_countAt : MethodName := ⟨RX5, "countAt", "(II)I"⟩
abbrev cX5_knowsAt : ByteArray := prog_7_method_11_code
def yX5_knowsAt : MethodName := ⟨RX5, "knowsAt", "(II)I"⟩
abbrev cX5_vectorAt : ByteArray := prog_7_method_12_code
def yX5_vectorAt : MethodName := ⟨RX5, "vectorAt", "(II)I"⟩
abbrev cX5_rowAt : ByteArray := prog_7_method_13_code
def yX5_rowAt : MethodName := ⟨RX5, "rowAt", "(II)I"⟩
abbrev cX5_placeAt : ByteArray := prog_7_method_14_code
def yX5_placeAt : MethodName := ⟨RX5, "placeAt", "(III)I"⟩
abbrev cX5_siblings : ByteArray := prog_7_method_15_code
def yX5_siblings : MethodName := ⟨RX5, "siblings", "(II)I"⟩
abbrev cX5_merges : ByteArray := prog_7_method_16_code
def yX5_merges : MethodName := ⟨RX5, "merges", "(II)V"⟩
abbrev cX5_covers : ByteArray := prog_7_method_17_code
def yX5_covers : MethodName := ⟨RX5, "covers", "(II)Z"⟩
abbrev cX5_has : ByteArray := prog_7_method_18_code
def yX5_has : MethodName := ⟨RX5, "has", "(IIII)Z"⟩
abbrev cX5_coveredBy : ByteArray := prog_7_method_19_code
def yX5_coveredBy : MethodName := ⟨RX5, "coveredBy", "(III)I"⟩
abbrev cX5_drops : ByteArray := prog_7_method_20_code
def yX5_drops : MethodName := ⟨RX5, "drops", "(III)V"⟩
abbrev cX5_comes : ByteArray := prog_7_method_21_code
def yX5_comes : MethodName := ⟨RX5, "comes", "(IIIII)V"⟩
abbrev cX5_mayWrite : ByteArray := prog_7_method_22_code
def yX5_mayWrite : MethodName := ⟨RX5, "mayWrite", "(III)Z"⟩
abbrev cX5_writes : ByteArray := prog_7_method_23_code
def yX5_writes : MethodName := ⟨RX5, "writes", "(IIII)I"⟩
abbrev cX5_areThere : ByteArray := prog_7_method_24_code
def yX5_areThere : MethodName := ⟨RX5, "areThere", "(III)Z"⟩
abbrev cX5_read : ByteArray := prog_7_method_25_code
def yX5_read : MethodName := ⟨RX5, "read", "(III)I"⟩
abbrev cX5_write : ByteArray := prog_7_method_26_code
def yX5_write : MethodName := ⟨RX5, "write", "(IIII)I"⟩
abbrev cX5_joined : ByteArray := prog_7_method_27_code
def yX5_joined : MethodName := ⟨RX5, "joined", "(III)I"⟩
abbrev cX5_join : ByteArray := prog_7_method_28_code
def yX5_join : MethodName := ⟨RX5, "join", "(IIII)I"⟩
abbrev cX5_lose : ByteArray := prog_7_method_29_code
def yX5_lose : MethodName := ⟨RX5, "lose", "(II)I"⟩
abbrev cX5_why : ByteArray := prog_7_method_30_code
def yX5_why : MethodName := ⟨RX5, "why", "(II)I"⟩
abbrev cX5_whyNot : ByteArray := prog_7_method_31_code
def yX5_whyNot : MethodName := ⟨RX5, "whyNot", "(II)I"⟩
abbrev cX5_forget : ByteArray := prog_7_method_32_code
def yX5_forget : MethodName := ⟨RX5, "forget", "(II)I"⟩
abbrev cX5_adds : ByteArray := prog_7_method_33_code
def yX5_adds : MethodName := ⟨RX5, "adds", "(I)V"⟩
abbrev cX5_tries : ByteArray := prog_7_method_34_code
def yX5_tries : MethodName := ⟨RX5, "tries", "(III)V"⟩
abbrev cX5_pulls : ByteArray := prog_7_method_35_code
def yX5_pulls : MethodName := ⟨RX5, "pulls", "(III)I"⟩
abbrev cX5_pull : ByteArray := prog_7_method_36_code
def yX5_pull : MethodName := ⟨RX5, "pull", "(III)I"⟩
abbrev cX5_pullAll : ByteArray := prog_7_method_37_code
def yX5_pullAll : MethodName := ⟨RX5, "pullAll", "()I"⟩
abbrev cX5_append : ByteArray := prog_7_method_38_code
def yX5_append : MethodName := ⟨RX5, "append", "(I)I"⟩
abbrev cX5_clearBuffer : ByteArray := prog_7_method_39_code
def yX5_clearBuffer : MethodName := ⟨RX5, "clearBuffer", "()I"⟩
abbrev cX5_isAt : ByteArray := prog_7_method_40_code
def yX5_isAt : MethodName := ⟨RX5, "isAt", "(II)Z"⟩
abbrev cX5_stops : ByteArray := prog_7_method_41_code
def yX5_stops : MethodName := ⟨RX5, "stops", "()Z"⟩
abbrev cX5_takes : ByteArray := prog_7_method_42_code
def yX5_takes : MethodName := ⟨RX5, "takes", "(I)Z"⟩
abbrev cX5_takesPart : ByteArray := prog_7_method_43_code
def yX5_takesPart : MethodName := ⟨RX5, "takesPart", "(II)Z"⟩
abbrev cX5_takesValue : ByteArray := prog_7_method_44_code
def yX5_takesValue : MethodName := ⟨RX5, "takesValue", "()Z"⟩
abbrev cX5_takesOne : ByteArray := prog_7_method_45_code
def yX5_takesOne : MethodName := ⟨RX5, "takesOne", "()Z"⟩
abbrev cX5_isText : ByteArray := prog_7_method_46_code
def yX5_isText : MethodName := ⟨RX5, "isText", "()Z"⟩
abbrev cX5_firstError : ByteArray := prog_7_method_47_code
def yX5_firstError : MethodName := ⟨RX5, "firstError", "()I"⟩
abbrev cX5_does : ByteArray := prog_7_method_48_code
def yX5_does : MethodName := ⟨RX5, "does", "(I)Z"⟩
abbrev cX5_runAll : ByteArray := prog_7_method_49_code
def yX5_runAll : MethodName := ⟨RX5, "runAll", "()I"⟩
abbrev cX5_coverers : ByteArray := prog_7_method_50_code
def yX5_coverers : MethodName := ⟨RX5, "coverers", "(II)I"⟩
abbrev cX5_holders : ByteArray := prog_7_method_51_code
def yX5_holders : MethodName := ⟨RX5, "holders", "(II)I"⟩
abbrev cX5_ofSibling : ByteArray := prog_7_method_52_code
def yX5_ofSibling : MethodName := ⟨RX5, "ofSibling", "(IIII)I"⟩
abbrev cX5_sibling : ByteArray := prog_7_method_53_code
def yX5_sibling : MethodName := ⟨RX5, "sibling", "(IIII)I"⟩
abbrev cX5_vector : ByteArray := prog_7_method_54_code
def yX5_vector : MethodName := ⟨RX5, "vector", "(III)I"⟩
abbrev cX5_knows : ByteArray := prog_7_method_55_code
def yX5_knows : MethodName := ⟨RX5, "knows", "(III)I"⟩
abbrev cX5_areAlike : ByteArray := prog_7_method_56_code
def yX5_areAlike : MethodName := ⟨RX5, "areAlike", "(III)Z"⟩
abbrev cX5_areVectorsAlike : ByteArray := prog_7_method_57_code
def yX5_areVectorsAlike : MethodName := ⟨RX5, "areVectorsAlike", "(I)Z"⟩
abbrev cX5_unlike : ByteArray := prog_7_method_58_code
def yX5_unlike : MethodName := ⟨RX5, "unlike", "(I)I"⟩
abbrev cX5_forgettable : ByteArray := prog_7_method_59_code
def yX5_forgettable : MethodName := ⟨RX5, "forgettable", "(I)I"⟩
abbrev cX5_counts : ByteArray := prog_7_method_60_code
def yX5_counts : MethodName := ⟨RX5, "counts", "(I)I"⟩
abbrev cX5_ofKey : ByteArray := prog_7_method_61_code
def yX5_ofKey : MethodName := ⟨RX5, "ofKey", "(II)I"⟩
abbrev cX5_key : ByteArray := prog_7_method_62_code
def yX5_key : MethodName := ⟨RX5, "key", "(II)I"⟩
abbrev cX5_counted : ByteArray := prog_7_method_63_code
def yX5_counted : MethodName := ⟨RX5, "counted", "(I)I"⟩
abbrev cX5_count : ByteArray := prog_7_method_64_code
def yX5_count : MethodName := ⟨RX5, "count", "(I)I"⟩
abbrev cX5_written : ByteArray := prog_7_method_65_code
def yX5_written : MethodName := ⟨RX5, "written", "(IIII)I"⟩
abbrev cX5_ifWritten : ByteArray := prog_7_method_66_code
def yX5_ifWritten : MethodName := ⟨RX5, "ifWritten", "(IIII)I"⟩
abbrev cX5_pulled : ByteArray := prog_7_method_67_code
def yX5_pulled : MethodName := ⟨RX5, "pulled", "(IIII)I"⟩
abbrev cX5_ifPulled : ByteArray := prog_7_method_68_code
def yX5_ifPulled : MethodName := ⟨RX5, "ifPulled", "(IIII)I"⟩
abbrev cX5_agrees : ByteArray := prog_7_method_69_code
def yX5_agrees : MethodName := ⟨RX5, "agrees", "()D"⟩
abbrev cX5_agreement : ByteArray := prog_7_method_70_code
def yX5_agreement : MethodName := ⟨RX5, "agreement", "()D"⟩
abbrev cX5_mixes : ByteArray := prog_7_method_71_code
def yX5_mixes : MethodName := ⟨RX5, "mixes", "(J)V"⟩
abbrev cX5_mixesKey : ByteArray := prog_7_method_72_code
def yX5_mixesKey : MethodName := ⟨RX5, "mixesKey", "(I)V"⟩
abbrev cX5_digest : ByteArray := prog_7_method_73_code
def yX5_digest : MethodName := ⟨RX5, "digest", "()J"⟩
def RJxe99ae : String := "java/lang/Double"
def TJxe99ae : u_T := fun k => match k with
  | _ => ("", "", "", false)
def tyJxe99ae : Nat → FieldType := fun k => match k with
  | _ => .int
abbrev wsJxe99ae0 : List Cond := u_ws RJxe99ae TJxe99ae 0
theorem nmJxe99ae : ∀ a, a < 0 → ∀ b, b < 0 → a ≠ b → (TJxe99ae a).2.1 ≠ (TJxe99ae b).2.1 := by decide +kernel
theorem tyJxe99ae_ok : ∀ k, k < 0 → parseFieldDescriptor (TJxe99ae k).2.2.1 = some (tyJxe99ae k) := by decide +kernel
abbrev cJxe99ae_isNaN_b9ae7 : ByteArray := prog_8_method_6_code
def yJxe99ae_isNaN_b9ae7 : MethodName := ⟨RJxe99ae, "isNaN", "(D)Z"⟩
abbrev cJxe99ae_doubleToLongBits_ccdee : ByteArray := prog_8_method_23_code
def yJxe99ae_doubleToLongBits_ccdee : MethodName := ⟨RJxe99ae, "doubleToLongBits", "(D)J"⟩
def RJ9 : String := "java/lang/Math"
def TJ9 : u_T := fun k => match k with
  | _ => ("", "", "", false)
def tyJ9 : Nat → FieldType := fun k => match k with
  | _ => .int
abbrev wsJ90 : List Cond := u_ws RJ9 TJ9 0
theorem nmJ9 : ∀ a, a < 0 → ∀ b, b < 0 → a ≠ b → (TJ9 a).2.1 ≠ (TJ9 b).2.1 := by decide +kernel
theorem tyJ9_ok : ∀ k, k < 0 → parseFieldDescriptor (TJ9 k).2.2.1 = some (tyJ9 k) := by decide +kernel
abbrev cJ9_max_7cf53 : ByteArray := prog_13_method_65_code
def yJ9_max_7cf53 : MethodName := ⟨RJ9, "max", "(II)I"⟩
abbrev cJ9_min_7cf53 : ByteArray := prog_13_method_69_code
def yJ9_min_7cf53 : MethodName := ⟨RJ9, "min", "(II)I"⟩
def RJ0 : String := "java/lang/String"
def TJ0 : u_T := fun k => match k with
  | _ => ("", "", "", false)
def tyJ0 : Nat → FieldType := fun k => match k with
  | _ => .int
abbrev wsJ00 : List Cond := u_ws RJ0 TJ0 0
theorem nmJ0 : ∀ a, a < 0 → ∀ b, b < 0 → a ≠ b → (TJ0 a).2.1 ≠ (TJ0 b).2.1 := by decide +kernel
theorem tyJ0_ok : ∀ k, k < 0 → parseFieldDescriptor (TJ0 k).2.2.1 = some (tyJ0 k) := by decide +kernel
abbrev cJ0_length_8abf5 : ByteArray := prog_15_method_54_code
def yJ0_length_8abf5 : MethodName := ⟨RJ0, "length", "()I"⟩
abbrev cJ0_charAt_5068e : ByteArray := prog_15_method_56_code
def yJ0_charAt_5068e : MethodName := ⟨RJ0, "charAt", "(I)C"⟩
abbrev cJ0_coder_7d493 : ByteArray := prog_15_method_152_code
def yJ0_coder_7d493 : MethodName := ⟨RJ0, "coder", "()B"⟩
abbrev cJ0_isLatin1_aae02 : ByteArray := prog_15_method_154_code
def yJ0_isLatin1_aae02 : MethodName := ⟨RJ0, "isLatin1", "()Z"⟩
abbrev cJ0_checkIndex_df160 : ByteArray := prog_15_method_155_code
def yJ0_checkIndex_df160 : MethodName := ⟨RJ0, "checkIndex", "(II)V"⟩
def RJ1 : String := "java/lang/StringLatin1"
def TJ1 : u_T := fun k => match k with
  | _ => ("", "", "", false)
def tyJ1 : Nat → FieldType := fun k => match k with
  | _ => .int
abbrev wsJ10 : List Cond := u_ws RJ1 TJ1 0
theorem nmJ1 : ∀ a, a < 0 → ∀ b, b < 0 → a ≠ b → (TJ1 a).2.1 ≠ (TJ1 b).2.1 := by decide +kernel
theorem tyJ1_ok : ∀ k, k < 0 → parseFieldDescriptor (TJ1 k).2.2.1 = some (tyJ1 k) := by decide +kernel
abbrev cJ1_charAt_3b067 : ByteArray := prog_16_method_2_code
def yJ1_charAt_3b067 : MethodName := ⟨RJ1, "charAt", "([BI)C"⟩
def RJ2 : String := "java/lang/StringUTF16"
def TJ2 : u_T := fun k => match k with
  | _ => ("", "", "", false)
def tyJ2 : Nat → FieldType := fun k => match k with
  | _ => .int
abbrev wsJ20 : List Cond := u_ws RJ2 TJ2 0
theorem nmJ2 : ∀ a, a < 0 → ∀ b, b < 0 → a ≠ b → (TJ2 a).2.1 ≠ (TJ2 b).2.1 := by decide +kernel
theorem tyJ2_ok : ∀ k, k < 0 → parseFieldDescriptor (TJ2 k).2.2.1 = some (tyJ2 k) := by decide +kernel
abbrev cJ2_getChar_3b067 : ByteArray := prog_17_method_5_code
def yJ2_getChar_3b067 : MethodName := ⟨RJ2, "getChar", "([BI)C"⟩
abbrev cJ2_length_9d52b : ByteArray := prog_17_method_6_code
def yJ2_length_9d52b : MethodName := ⟨RJ2, "length", "([B)I"⟩
abbrev cJ2_charAt_3b067 : ByteArray := prog_17_method_83_code
def yJ2_charAt_3b067 : MethodName := ⟨RJ2, "charAt", "([BI)C"⟩
abbrev cJ2_checkIndex_2214a : ByteArray := prog_17_method_91_code
def yJ2_checkIndex_2214a : MethodName := ⟨RJ2, "checkIndex", "(I[B)V"⟩
def RJ10 : String := "java/lang/System"
def TJ10 : u_T := fun k => match k with
  | _ => ("", "", "", false)
def tyJ10 : Nat → FieldType := fun k => match k with
  | _ => .int
abbrev wsJ100 : List Cond := u_ws RJ10 TJ10 0
theorem nmJ10 : ∀ a, a < 0 → ∀ b, b < 0 → a ≠ b → (TJ10 a).2.1 ≠ (TJ10 b).2.1 := by decide +kernel
theorem tyJ10_ok : ∀ k, k < 0 → parseFieldDescriptor (TJ10 k).2.2.1 = some (tyJ10 k) := by decide +kernel
def RJ3 : String := "jdk/internal/util/Preconditions"
def TJ3 : u_T := fun k => match k with
  | _ => ("", "", "", false)
def tyJ3 : Nat → FieldType := fun k => match k with
  | _ => .int
abbrev wsJ30 : List Cond := u_ws RJ3 TJ3 0
theorem nmJ3 : ∀ a, a < 0 → ∀ b, b < 0 → a ≠ b → (TJ3 a).2.1 ≠ (TJ3 b).2.1 := by decide +kernel
theorem tyJ3_ok : ∀ k, k < 0 → parseFieldDescriptor (TJ3 k).2.2.1 = some (tyJ3 k) := by decide +kernel
abbrev cJ3_checkIndex_8e157 : ByteArray := prog_20_method_11_code
def yJ3_checkIndex_8e157 : MethodName := ⟨RJ3, "checkIndex", "(IILjava/util/function/BiFunction;)I"⟩
def RL : String := "SiblingJoinsLaw"
abbrev cL_read : ByteArray := method_3_code
def yL_read : MethodName := ⟨RL, "read", "(LSiblingJoins;III[J)I"⟩
abbrev cL_write : ByteArray := method_4_code
def yL_write : MethodName := ⟨RL, "write", "(LSiblingJoins;IIII[J)I"⟩
abbrev cL_pull : ByteArray := method_5_code
def yL_pull : MethodName := ⟨RL, "pull", "(LSiblingJoins;III[J)I"⟩
abbrev cL_join : ByteArray := method_6_code
def yL_join : MethodName := ⟨RL, "join", "(LSiblingJoins;IIII[J)I"⟩
abbrev cL_lose : ByteArray := method_7_code
def yL_lose : MethodName := ⟨RL, "lose", "(LSiblingJoins;II[J)I"⟩
abbrev cL_forget : ByteArray := method_8_code
def yL_forget : MethodName := ⟨RL, "forget", "(LSiblingJoins;II[J)I"⟩
abbrev cL_pullAll : ByteArray := method_9_code
def yL_pullAll : MethodName := ⟨RL, "pullAll", "(LSiblingJoins;[J)I"⟩
abbrev cL_append : ByteArray := method_10_code
def yL_append : MethodName := ⟨RL, "append", "(LSiblingJoins;I[J)I"⟩
abbrev cL_runAll : ByteArray := method_11_code
def yL_runAll : MethodName := ⟨RL, "runAll", "(LSiblingJoins;[J)I"⟩
abbrev cL_undo : ByteArray := method_12_code
def yL_undo : MethodName := ⟨RL, "undo", "(LSiblingJoins;[J)I"⟩
abbrev cL_sibling : ByteArray := method_13_code
def yL_sibling : MethodName := ⟨RL, "sibling", "(LSiblingJoins;IIII[J)I"⟩
abbrev cL_vector : ByteArray := method_14_code
def yL_vector : MethodName := ⟨RL, "vector", "(LSiblingJoins;III[J)I"⟩
abbrev cL_knows : ByteArray := method_15_code
def yL_knows : MethodName := ⟨RL, "knows", "(LSiblingJoins;III[J)I"⟩
abbrev cL_key : ByteArray := method_16_code
def yL_key : MethodName := ⟨RL, "key", "(LSiblingJoins;II[J)I"⟩
abbrev cL_count : ByteArray := method_17_code
def yL_count : MethodName := ⟨RL, "count", "(LSiblingJoins;I[J)I"⟩
abbrev cL_ifWritten : ByteArray := method_18_code
def yL_ifWritten : MethodName := ⟨RL, "ifWritten", "(LSiblingJoins;IIII[J)I"⟩
abbrev cL_ifPulled : ByteArray := method_19_code
def yL_ifPulled : MethodName := ⟨RL, "ifPulled", "(LSiblingJoins;IIII[J)I"⟩
abbrev cL_whyNot : ByteArray := method_20_code
def yL_whyNot : MethodName := ⟨RL, "whyNot", "(LSiblingJoins;II[J)I"⟩
abbrev cL_law : ByteArray := code
def yL_law : MethodName := ⟨RL, "law", "([I)Z"⟩
abbrev vwCl : List vw_C := [(RX0, TX0, 4), (RX1, TX1, 3), (RX2, TX2, 6), (RX3, TX3, 6), (RX4, TX4, 7), (RX5, TX5, 16)]
end
section
theorem dX0_init_0 : decode cX0_init 0 = .ok (.aload_n 0, 1) := by decide +kernel
theorem dX0_init_1 : decode cX0_init 1 = .ok (.invokespecial 3, 3) := by decide +kernel
theorem dX0_init_4 : decode cX0_init 4 = .ok (.aload_n 0, 1) := by decide +kernel
theorem dX0_init_5 : decode cX0_init 5 = .ok (.iconst 5, 1) := by decide +kernel
theorem dX0_init_6 : decode cX0_init 6 = .ok (.newarray .int, 2) := by decide +kernel
theorem dX0_init_8 : decode cX0_init 8 = .ok (.putfield 9, 3) := by decide +kernel
theorem dX0_init_11 : decode cX0_init 11 = .ok (.aload_n 0, 1) := by decide +kernel
theorem dX0_init_12 : decode cX0_init 12 = .ok (.iconst 4, 1) := by decide +kernel
theorem dX0_init_13 : decode cX0_init 13 = .ok (.newarray .int, 2) := by decide +kernel
theorem dX0_init_15 : decode cX0_init 15 = .ok (.putfield 15, 3) := by decide +kernel
theorem dX0_init_18 : decode cX0_init 18 = .ok (.aload_n 0, 1) := by decide +kernel
theorem dX0_init_19 : decode cX0_init 19 = .ok (.iconst 4, 1) := by decide +kernel
theorem dX0_init_20 : decode cX0_init 20 = .ok (.newarray .int, 2) := by decide +kernel
theorem dX0_init_22 : decode cX0_init 22 = .ok (.putfield 18, 3) := by decide +kernel
theorem dX0_init_25 : decode cX0_init 25 = .ok (.return_, 1) := by decide +kernel
theorem dX0_become_0 : decode cX0_become 0 = .ok (.aload_n 1, 1) := by decide +kernel
theorem dX0_become_1 : decode cX0_become 1 = .ok (.getfield 9, 3) := by decide +kernel
theorem dX0_become_4 : decode cX0_become 4 = .ok (.iconst 0, 1) := by decide +kernel
theorem dX0_become_5 : decode cX0_become 5 = .ok (.aload_n 0, 1) := by decide +kernel
theorem dX0_become_6 : decode cX0_become 6 = .ok (.getfield 9, 3) := by decide +kernel
theorem dX0_become_9 : decode cX0_become 9 = .ok (.iconst 0, 1) := by decide +kernel
theorem dX0_become_10 : decode cX0_become 10 = .ok (.iconst 5, 1) := by decide +kernel
theorem dX0_become_11 : decode cX0_become 11 = .ok (.invokestatic 21, 3) := by decide +kernel
theorem dX0_become_14 : decode cX0_become 14 = .ok (.aload_n 1, 1) := by decide +kernel
theorem dX0_become_15 : decode cX0_become 15 = .ok (.getfield 15, 3) := by decide +kernel
theorem dX0_become_18 : decode cX0_become 18 = .ok (.iconst 0, 1) := by decide +kernel
theorem dX0_become_19 : decode cX0_become 19 = .ok (.aload_n 0, 1) := by decide +kernel
theorem dX0_become_20 : decode cX0_become 20 = .ok (.getfield 15, 3) := by decide +kernel
theorem dX0_become_23 : decode cX0_become 23 = .ok (.iconst 0, 1) := by decide +kernel
theorem dX0_become_24 : decode cX0_become 24 = .ok (.iconst 4, 1) := by decide +kernel
theorem dX0_become_25 : decode cX0_become 25 = .ok (.invokestatic 21, 3) := by decide +kernel
theorem dX0_become_28 : decode cX0_become 28 = .ok (.aload_n 1, 1) := by decide +kernel
theorem dX0_become_29 : decode cX0_become 29 = .ok (.getfield 18, 3) := by decide +kernel
theorem dX0_become_32 : decode cX0_become 32 = .ok (.iconst 0, 1) := by decide +kernel
theorem dX0_become_33 : decode cX0_become 33 = .ok (.aload_n 0, 1) := by decide +kernel
theorem dX0_become_34 : decode cX0_become 34 = .ok (.getfield 18, 3) := by decide +kernel
theorem dX0_become_37 : decode cX0_become 37 = .ok (.iconst 0, 1) := by decide +kernel
theorem dX0_become_38 : decode cX0_become 38 = .ok (.iconst 4, 1) := by decide +kernel
theorem dX0_become_39 : decode cX0_become 39 = .ok (.invokestatic 21, 3) := by decide +kernel
theorem dX0_become_42 : decode cX0_become 42 = .ok (.aload_n 0, 1) := by decide +kernel
theorem dX0_become_43 : decode cX0_become 43 = .ok (.aload_n 1, 1) := by decide +kernel
theorem dX0_become_44 : decode cX0_become 44 = .ok (.getfield 27, 3) := by decide +kernel
theorem dX0_become_47 : decode cX0_become 47 = .ok (.putfield 27, 3) := by decide +kernel
theorem dX0_become_50 : decode cX0_become 50 = .ok (.return_, 1) := by decide +kernel
theorem dX0_has_0 : decode cX0_has 0 = .ok (.iconst 0, 1) := by decide +kernel
theorem dX0_has_1 : decode cX0_has 1 = .ok (.istore_n 2, 1) := by decide +kernel
theorem dX0_has_2 : decode cX0_has 2 = .ok (.iload_n 2, 1) := by decide +kernel
theorem dX0_has_3 : decode cX0_has 3 = .ok (.aload_n 0, 1) := by decide +kernel
theorem dX0_has_4 : decode cX0_has 4 = .ok (.getfield 27, 3) := by decide +kernel
theorem dX0_has_7 : decode cX0_has 7 = .ok (.if_icmp .ge 21, 3) := by decide +kernel
theorem dX0_has_10 : decode cX0_has 10 = .ok (.aload_n 0, 1) := by decide +kernel
theorem dX0_has_11 : decode cX0_has 11 = .ok (.getfield 15, 3) := by decide +kernel
theorem dX0_has_14 : decode cX0_has 14 = .ok (.iload_n 2, 1) := by decide +kernel
theorem dX0_has_15 : decode cX0_has 15 = .ok (.iaload, 1) := by decide +kernel
theorem dX0_has_16 : decode cX0_has 16 = .ok (.iload_n 1, 1) := by decide +kernel
theorem dX0_has_17 : decode cX0_has 17 = .ok (.if_icmp .ne 5, 3) := by decide +kernel
theorem dX0_has_20 : decode cX0_has 20 = .ok (.iconst 1, 1) := by decide +kernel
theorem dX0_has_21 : decode cX0_has 21 = .ok (.ireturn, 1) := by decide +kernel
theorem dX0_has_22 : decode cX0_has 22 = .ok (.iinc 2 1, 3) := by decide +kernel
theorem dX0_has_25 : decode cX0_has 25 = .ok (.goto (-23), 3) := by decide +kernel
theorem dX0_has_28 : decode cX0_has 28 = .ok (.iconst 0, 1) := by decide +kernel
theorem dX0_has_29 : decode cX0_has 29 = .ok (.ireturn, 1) := by decide +kernel
theorem dX0_hasOneOf_0 : decode cX0_hasOneOf 0 = .ok (.iconst 0, 1) := by decide +kernel
theorem dX0_hasOneOf_1 : decode cX0_hasOneOf 1 = .ok (.istore_n 2, 1) := by decide +kernel
theorem dX0_hasOneOf_2 : decode cX0_hasOneOf 2 = .ok (.iload_n 2, 1) := by decide +kernel
theorem dX0_hasOneOf_3 : decode cX0_hasOneOf 3 = .ok (.aload_n 0, 1) := by decide +kernel
theorem dX0_hasOneOf_4 : decode cX0_hasOneOf 4 = .ok (.getfield 27, 3) := by decide +kernel
theorem dX0_hasOneOf_7 : decode cX0_hasOneOf 7 = .ok (.if_icmp .ge 24, 3) := by decide +kernel
theorem dX0_hasOneOf_10 : decode cX0_hasOneOf 10 = .ok (.aload_n 0, 1) := by decide +kernel
theorem dX0_hasOneOf_11 : decode cX0_hasOneOf 11 = .ok (.getfield 15, 3) := by decide +kernel
theorem dX0_hasOneOf_14 : decode cX0_hasOneOf 14 = .ok (.iload_n 2, 1) := by decide +kernel
theorem dX0_hasOneOf_15 : decode cX0_hasOneOf 15 = .ok (.iaload, 1) := by decide +kernel
theorem dX0_hasOneOf_16 : decode cX0_hasOneOf 16 = .ok (.invokestatic 31, 3) := by decide +kernel
theorem dX0_hasOneOf_19 : decode cX0_hasOneOf 19 = .ok (.iload_n 1, 1) := by decide +kernel
theorem dX0_hasOneOf_20 : decode cX0_hasOneOf 20 = .ok (.if_icmp .ne 5, 3) := by decide +kernel
theorem dX0_hasOneOf_23 : decode cX0_hasOneOf 23 = .ok (.iconst 1, 1) := by decide +kernel
theorem dX0_hasOneOf_24 : decode cX0_hasOneOf 24 = .ok (.ireturn, 1) := by decide +kernel
theorem dX0_hasOneOf_25 : decode cX0_hasOneOf 25 = .ok (.iinc 2 1, 3) := by decide +kernel
theorem dX0_hasOneOf_28 : decode cX0_hasOneOf 28 = .ok (.goto (-26), 3) := by decide +kernel
theorem dX0_hasOneOf_31 : decode cX0_hasOneOf 31 = .ok (.iconst 0, 1) := by decide +kernel
theorem dX0_hasOneOf_32 : decode cX0_hasOneOf 32 = .ok (.ireturn, 1) := by decide +kernel
theorem dX0_hasSameSiblings_0 : decode cX0_hasSameSiblings 0 = .ok (.aload_n 0, 1) := by decide +kernel
theorem dX0_hasSameSiblings_1 : decode cX0_hasSameSiblings 1 = .ok (.getfield 27, 3) := by decide +kernel
theorem dX0_hasSameSiblings_4 : decode cX0_hasSameSiblings 4 = .ok (.aload_n 1, 1) := by decide +kernel
theorem dX0_hasSameSiblings_5 : decode cX0_hasSameSiblings 5 = .ok (.getfield 27, 3) := by decide +kernel
theorem dX0_hasSameSiblings_8 : decode cX0_hasSameSiblings 8 = .ok (.if_icmp .eq 5, 3) := by decide +kernel
theorem dX0_hasSameSiblings_11 : decode cX0_hasSameSiblings 11 = .ok (.iconst 0, 1) := by decide +kernel
theorem dX0_hasSameSiblings_12 : decode cX0_hasSameSiblings 12 = .ok (.ireturn, 1) := by decide +kernel
theorem dX0_hasSameSiblings_13 : decode cX0_hasSameSiblings 13 = .ok (.iconst 0, 1) := by decide +kernel
theorem dX0_hasSameSiblings_14 : decode cX0_hasSameSiblings 14 = .ok (.istore_n 2, 1) := by decide +kernel
theorem dX0_hasSameSiblings_15 : decode cX0_hasSameSiblings 15 = .ok (.iload_n 2, 1) := by decide +kernel
theorem dX0_hasSameSiblings_16 : decode cX0_hasSameSiblings 16 = .ok (.aload_n 0, 1) := by decide +kernel
theorem dX0_hasSameSiblings_17 : decode cX0_hasSameSiblings 17 = .ok (.getfield 27, 3) := by decide +kernel
theorem dX0_hasSameSiblings_20 : decode cX0_hasSameSiblings 20 = .ok (.if_icmp .ge 26, 3) := by decide +kernel
theorem dX0_hasSameSiblings_23 : decode cX0_hasSameSiblings 23 = .ok (.aload_n 0, 1) := by decide +kernel
theorem dX0_hasSameSiblings_24 : decode cX0_hasSameSiblings 24 = .ok (.getfield 15, 3) := by decide +kernel
theorem dX0_hasSameSiblings_27 : decode cX0_hasSameSiblings 27 = .ok (.iload_n 2, 1) := by decide +kernel
theorem dX0_hasSameSiblings_28 : decode cX0_hasSameSiblings 28 = .ok (.iaload, 1) := by decide +kernel
theorem dX0_hasSameSiblings_29 : decode cX0_hasSameSiblings 29 = .ok (.aload_n 1, 1) := by decide +kernel
theorem dX0_hasSameSiblings_30 : decode cX0_hasSameSiblings 30 = .ok (.getfield 15, 3) := by decide +kernel
theorem dX0_hasSameSiblings_33 : decode cX0_hasSameSiblings 33 = .ok (.iload_n 2, 1) := by decide +kernel
theorem dX0_hasSameSiblings_34 : decode cX0_hasSameSiblings 34 = .ok (.iaload, 1) := by decide +kernel
theorem dX0_hasSameSiblings_35 : decode cX0_hasSameSiblings 35 = .ok (.if_icmp .eq 5, 3) := by decide +kernel
theorem dX0_hasSameSiblings_38 : decode cX0_hasSameSiblings 38 = .ok (.iconst 0, 1) := by decide +kernel
theorem dX0_hasSameSiblings_39 : decode cX0_hasSameSiblings 39 = .ok (.ireturn, 1) := by decide +kernel
theorem dX0_hasSameSiblings_40 : decode cX0_hasSameSiblings 40 = .ok (.iinc 2 1, 3) := by decide +kernel
theorem dX0_hasSameSiblings_43 : decode cX0_hasSameSiblings 43 = .ok (.goto (-28), 3) := by decide +kernel
theorem dX0_hasSameSiblings_46 : decode cX0_hasSameSiblings 46 = .ok (.iconst 1, 1) := by decide +kernel
theorem dX0_hasSameSiblings_47 : decode cX0_hasSameSiblings 47 = .ok (.ireturn, 1) := by decide +kernel
theorem dX0_coveredBy_0 : decode cX0_coveredBy 0 = .ok (.iconst 0, 1) := by decide +kernel
theorem dX0_coveredBy_1 : decode cX0_coveredBy 1 = .ok (.istore_n 2, 1) := by decide +kernel
theorem dX0_coveredBy_2 : decode cX0_coveredBy 2 = .ok (.iconst 0, 1) := by decide +kernel
theorem dX0_coveredBy_3 : decode cX0_coveredBy 3 = .ok (.istore_n 3, 1) := by decide +kernel
theorem dX0_coveredBy_4 : decode cX0_coveredBy 4 = .ok (.iload_n 3, 1) := by decide +kernel
theorem dX0_coveredBy_5 : decode cX0_coveredBy 5 = .ok (.aload_n 0, 1) := by decide +kernel
theorem dX0_coveredBy_6 : decode cX0_coveredBy 6 = .ok (.getfield 27, 3) := by decide +kernel
theorem dX0_coveredBy_9 : decode cX0_coveredBy 9 = .ok (.if_icmp .ge 25, 3) := by decide +kernel
theorem dX0_coveredBy_12 : decode cX0_coveredBy 12 = .ok (.aload_n 1, 1) := by decide +kernel
theorem dX0_coveredBy_13 : decode cX0_coveredBy 13 = .ok (.aload_n 0, 1) := by decide +kernel
theorem dX0_coveredBy_14 : decode cX0_coveredBy 14 = .ok (.getfield 15, 3) := by decide +kernel
theorem dX0_coveredBy_17 : decode cX0_coveredBy 17 = .ok (.iload_n 3, 1) := by decide +kernel
theorem dX0_coveredBy_18 : decode cX0_coveredBy 18 = .ok (.iaload, 1) := by decide +kernel
theorem dX0_coveredBy_19 : decode cX0_coveredBy 19 = .ok (.invokestatic 35, 3) := by decide +kernel
theorem dX0_coveredBy_22 : decode cX0_coveredBy 22 = .ok (.ifCond .eq 6, 3) := by decide +kernel
theorem dX0_coveredBy_25 : decode cX0_coveredBy 25 = .ok (.iinc 2 1, 3) := by decide +kernel
theorem dX0_coveredBy_28 : decode cX0_coveredBy 28 = .ok (.iinc 3 1, 3) := by decide +kernel
theorem dX0_coveredBy_31 : decode cX0_coveredBy 31 = .ok (.goto (-27), 3) := by decide +kernel
theorem dX0_coveredBy_34 : decode cX0_coveredBy 34 = .ok (.iload_n 2, 1) := by decide +kernel
theorem dX0_coveredBy_35 : decode cX0_coveredBy 35 = .ok (.ireturn, 1) := by decide +kernel
theorem dX0_hasDropped_0 : decode cX0_hasDropped 0 = .ok (.aload_n 0, 1) := by decide +kernel
theorem dX0_hasDropped_1 : decode cX0_hasDropped 1 = .ok (.iload_n 1, 1) := by decide +kernel
theorem dX0_hasDropped_2 : decode cX0_hasDropped 2 = .ok (.invokevirtual 39, 3) := by decide +kernel
theorem dX0_hasDropped_5 : decode cX0_hasDropped 5 = .ok (.ifCond .ne 18, 3) := by decide +kernel
theorem dX0_hasDropped_8 : decode cX0_hasDropped 8 = .ok (.aload_n 0, 1) := by decide +kernel
theorem dX0_hasDropped_9 : decode cX0_hasDropped 9 = .ok (.getfield 9, 3) := by decide +kernel
theorem dX0_hasDropped_12 : decode cX0_hasDropped 12 = .ok (.iload_n 1, 1) := by decide +kernel
theorem dX0_hasDropped_13 : decode cX0_hasDropped 13 = .ok (.invokestatic 35, 3) := by decide +kernel
theorem dX0_hasDropped_16 : decode cX0_hasDropped 16 = .ok (.ifCond .eq 7, 3) := by decide +kernel
theorem dX0_hasDropped_19 : decode cX0_hasDropped 19 = .ok (.iconst 1, 1) := by decide +kernel
theorem dX0_hasDropped_20 : decode cX0_hasDropped 20 = .ok (.goto 4, 3) := by decide +kernel
theorem dX0_hasDropped_23 : decode cX0_hasDropped 23 = .ok (.iconst 0, 1) := by decide +kernel
theorem dX0_hasDropped_24 : decode cX0_hasDropped 24 = .ok (.ireturn, 1) := by decide +kernel
theorem dX0_isNew_0 : decode cX0_isNew 0 = .ok (.aload_n 0, 1) := by decide +kernel
theorem dX0_isNew_1 : decode cX0_isNew 1 = .ok (.iload_n 1, 1) := by decide +kernel
theorem dX0_isNew_2 : decode cX0_isNew 2 = .ok (.invokevirtual 39, 3) := by decide +kernel
theorem dX0_isNew_5 : decode cX0_isNew 5 = .ok (.ifCond .ne 18, 3) := by decide +kernel
theorem dX0_isNew_8 : decode cX0_isNew 8 = .ok (.aload_n 0, 1) := by decide +kernel
theorem dX0_isNew_9 : decode cX0_isNew 9 = .ok (.getfield 9, 3) := by decide +kernel
theorem dX0_isNew_12 : decode cX0_isNew 12 = .ok (.iload_n 1, 1) := by decide +kernel
theorem dX0_isNew_13 : decode cX0_isNew 13 = .ok (.invokestatic 35, 3) := by decide +kernel
theorem dX0_isNew_16 : decode cX0_isNew 16 = .ok (.ifCond .ne 7, 3) := by decide +kernel
theorem dX0_isNew_19 : decode cX0_isNew 19 = .ok (.iconst 1, 1) := by decide +kernel
theorem dX0_isNew_20 : decode cX0_isNew 20 = .ok (.goto 4, 3) := by decide +kernel
theorem dX0_isNew_23 : decode cX0_isNew 23 = .ok (.iconst 0, 1) := by decide +kernel
theorem dX0_isNew_24 : decode cX0_isNew 24 = .ok (.ireturn, 1) := by decide +kernel
theorem dX0_lostTo_0 : decode cX0_lostTo 0 = .ok (.iconst 0, 1) := by decide +kernel
theorem dX0_lostTo_1 : decode cX0_lostTo 1 = .ok (.istore_n 2, 1) := by decide +kernel
theorem dX0_lostTo_2 : decode cX0_lostTo 2 = .ok (.iconst 0, 1) := by decide +kernel
theorem dX0_lostTo_3 : decode cX0_lostTo 3 = .ok (.istore_n 3, 1) := by decide +kernel
theorem dX0_lostTo_4 : decode cX0_lostTo 4 = .ok (.iload_n 3, 1) := by decide +kernel
theorem dX0_lostTo_5 : decode cX0_lostTo 5 = .ok (.aload_n 0, 1) := by decide +kernel
theorem dX0_lostTo_6 : decode cX0_lostTo 6 = .ok (.getfield 27, 3) := by decide +kernel
theorem dX0_lostTo_9 : decode cX0_lostTo 9 = .ok (.if_icmp .ge 25, 3) := by decide +kernel
theorem dX0_lostTo_12 : decode cX0_lostTo 12 = .ok (.aload_n 1, 1) := by decide +kernel
theorem dX0_lostTo_13 : decode cX0_lostTo 13 = .ok (.aload_n 0, 1) := by decide +kernel
theorem dX0_lostTo_14 : decode cX0_lostTo 14 = .ok (.getfield 15, 3) := by decide +kernel
theorem dX0_lostTo_17 : decode cX0_lostTo 17 = .ok (.iload_n 3, 1) := by decide +kernel
theorem dX0_lostTo_18 : decode cX0_lostTo 18 = .ok (.iaload, 1) := by decide +kernel
theorem dX0_lostTo_19 : decode cX0_lostTo 19 = .ok (.invokevirtual 43, 3) := by decide +kernel
theorem dX0_lostTo_22 : decode cX0_lostTo 22 = .ok (.ifCond .eq 6, 3) := by decide +kernel
theorem dX0_lostTo_25 : decode cX0_lostTo 25 = .ok (.iinc 2 1, 3) := by decide +kernel
theorem dX0_lostTo_28 : decode cX0_lostTo 28 = .ok (.iinc 3 1, 3) := by decide +kernel
theorem dX0_lostTo_31 : decode cX0_lostTo 31 = .ok (.goto (-27), 3) := by decide +kernel
theorem dX0_lostTo_34 : decode cX0_lostTo 34 = .ok (.iload_n 2, 1) := by decide +kernel
theorem dX0_lostTo_35 : decode cX0_lostTo 35 = .ok (.ireturn, 1) := by decide +kernel
theorem dX0_gainedFrom_0 : decode cX0_gainedFrom 0 = .ok (.iconst 0, 1) := by decide +kernel
theorem dX0_gainedFrom_1 : decode cX0_gainedFrom 1 = .ok (.istore_n 2, 1) := by decide +kernel
theorem dX0_gainedFrom_2 : decode cX0_gainedFrom 2 = .ok (.iconst 0, 1) := by decide +kernel
theorem dX0_gainedFrom_3 : decode cX0_gainedFrom 3 = .ok (.istore_n 3, 1) := by decide +kernel
theorem dX0_gainedFrom_4 : decode cX0_gainedFrom 4 = .ok (.iload_n 3, 1) := by decide +kernel
theorem dX0_gainedFrom_5 : decode cX0_gainedFrom 5 = .ok (.aload_n 1, 1) := by decide +kernel
theorem dX0_gainedFrom_6 : decode cX0_gainedFrom 6 = .ok (.getfield 27, 3) := by decide +kernel
theorem dX0_gainedFrom_9 : decode cX0_gainedFrom 9 = .ok (.if_icmp .ge 25, 3) := by decide +kernel
theorem dX0_gainedFrom_12 : decode cX0_gainedFrom 12 = .ok (.aload_n 0, 1) := by decide +kernel
theorem dX0_gainedFrom_13 : decode cX0_gainedFrom 13 = .ok (.aload_n 1, 1) := by decide +kernel
theorem dX0_gainedFrom_14 : decode cX0_gainedFrom 14 = .ok (.getfield 15, 3) := by decide +kernel
theorem dX0_gainedFrom_17 : decode cX0_gainedFrom 17 = .ok (.iload_n 3, 1) := by decide +kernel
theorem dX0_gainedFrom_18 : decode cX0_gainedFrom 18 = .ok (.iaload, 1) := by decide +kernel
theorem dX0_gainedFrom_19 : decode cX0_gainedFrom 19 = .ok (.invokevirtual 46, 3) := by decide +kernel
theorem dX0_gainedFrom_22 : decode cX0_gainedFrom 22 = .ok (.ifCond .eq 6, 3) := by decide +kernel
theorem dX0_gainedFrom_25 : decode cX0_gainedFrom 25 = .ok (.iinc 2 1, 3) := by decide +kernel
theorem dX0_gainedFrom_28 : decode cX0_gainedFrom 28 = .ok (.iinc 3 1, 3) := by decide +kernel
theorem dX0_gainedFrom_31 : decode cX0_gainedFrom 31 = .ok (.goto (-27), 3) := by decide +kernel
theorem dX0_gainedFrom_34 : decode cX0_gainedFrom 34 = .ok (.iload_n 2, 1) := by decide +kernel
theorem dX0_gainedFrom_35 : decode cX0_gainedFrom 35 = .ok (.ireturn, 1) := by decide +kernel
theorem dX0_dropCoveredBy_0 : decode cX0_dropCoveredBy 0 = .ok (.aload_n 0, 1) := by decide +kernel
theorem dX0_dropCoveredBy_1 : decode cX0_dropCoveredBy 1 = .ok (.getfield 27, 3) := by decide +kernel
theorem dX0_dropCoveredBy_4 : decode cX0_dropCoveredBy 4 = .ok (.iconst 1, 1) := by decide +kernel
theorem dX0_dropCoveredBy_5 : decode cX0_dropCoveredBy 5 = .ok (.isub, 1) := by decide +kernel
theorem dX0_dropCoveredBy_6 : decode cX0_dropCoveredBy 6 = .ok (.istore_n 2, 1) := by decide +kernel
theorem dX0_dropCoveredBy_7 : decode cX0_dropCoveredBy 7 = .ok (.iload_n 2, 1) := by decide +kernel
theorem dX0_dropCoveredBy_8 : decode cX0_dropCoveredBy 8 = .ok (.ifCond .lt 27, 3) := by decide +kernel
theorem dX0_dropCoveredBy_11 : decode cX0_dropCoveredBy 11 = .ok (.aload_n 1, 1) := by decide +kernel
theorem dX0_dropCoveredBy_12 : decode cX0_dropCoveredBy 12 = .ok (.aload_n 0, 1) := by decide +kernel
theorem dX0_dropCoveredBy_13 : decode cX0_dropCoveredBy 13 = .ok (.getfield 15, 3) := by decide +kernel
theorem dX0_dropCoveredBy_16 : decode cX0_dropCoveredBy 16 = .ok (.iload_n 2, 1) := by decide +kernel
theorem dX0_dropCoveredBy_17 : decode cX0_dropCoveredBy 17 = .ok (.iaload, 1) := by decide +kernel
theorem dX0_dropCoveredBy_18 : decode cX0_dropCoveredBy 18 = .ok (.invokestatic 35, 3) := by decide +kernel
theorem dX0_dropCoveredBy_21 : decode cX0_dropCoveredBy 21 = .ok (.ifCond .eq 8, 3) := by decide +kernel
theorem dX0_dropCoveredBy_24 : decode cX0_dropCoveredBy 24 = .ok (.aload_n 0, 1) := by decide +kernel
theorem dX0_dropCoveredBy_25 : decode cX0_dropCoveredBy 25 = .ok (.iload_n 2, 1) := by decide +kernel
theorem dX0_dropCoveredBy_26 : decode cX0_dropCoveredBy 26 = .ok (.invokevirtual 49, 3) := by decide +kernel
theorem dX0_dropCoveredBy_29 : decode cX0_dropCoveredBy 29 = .ok (.iinc 2 (-1), 3) := by decide +kernel
theorem dX0_dropCoveredBy_32 : decode cX0_dropCoveredBy 32 = .ok (.goto (-25), 3) := by decide +kernel
theorem dX0_dropCoveredBy_35 : decode cX0_dropCoveredBy 35 = .ok (.return_, 1) := by decide +kernel
theorem dX0_takeFrom_0 : decode cX0_takeFrom 0 = .ok (.aload_n 0, 1) := by decide +kernel
theorem dX0_takeFrom_1 : decode cX0_takeFrom 1 = .ok (.getfield 27, 3) := by decide +kernel
theorem dX0_takeFrom_4 : decode cX0_takeFrom 4 = .ok (.iconst 1, 1) := by decide +kernel
theorem dX0_takeFrom_5 : decode cX0_takeFrom 5 = .ok (.isub, 1) := by decide +kernel
theorem dX0_takeFrom_6 : decode cX0_takeFrom 6 = .ok (.istore_n 2, 1) := by decide +kernel
theorem dX0_takeFrom_7 : decode cX0_takeFrom 7 = .ok (.iload_n 2, 1) := by decide +kernel
theorem dX0_takeFrom_8 : decode cX0_takeFrom 8 = .ok (.ifCond .lt 27, 3) := by decide +kernel
theorem dX0_takeFrom_11 : decode cX0_takeFrom 11 = .ok (.aload_n 1, 1) := by decide +kernel
theorem dX0_takeFrom_12 : decode cX0_takeFrom 12 = .ok (.aload_n 0, 1) := by decide +kernel
theorem dX0_takeFrom_13 : decode cX0_takeFrom 13 = .ok (.getfield 15, 3) := by decide +kernel
theorem dX0_takeFrom_16 : decode cX0_takeFrom 16 = .ok (.iload_n 2, 1) := by decide +kernel
theorem dX0_takeFrom_17 : decode cX0_takeFrom 17 = .ok (.iaload, 1) := by decide +kernel
theorem dX0_takeFrom_18 : decode cX0_takeFrom 18 = .ok (.invokevirtual 43, 3) := by decide +kernel
theorem dX0_takeFrom_21 : decode cX0_takeFrom 21 = .ok (.ifCond .eq 8, 3) := by decide +kernel
theorem dX0_takeFrom_24 : decode cX0_takeFrom 24 = .ok (.aload_n 0, 1) := by decide +kernel
theorem dX0_takeFrom_25 : decode cX0_takeFrom 25 = .ok (.iload_n 2, 1) := by decide +kernel
theorem dX0_takeFrom_26 : decode cX0_takeFrom 26 = .ok (.invokevirtual 49, 3) := by decide +kernel
theorem dX0_takeFrom_29 : decode cX0_takeFrom 29 = .ok (.iinc 2 (-1), 3) := by decide +kernel
theorem dX0_takeFrom_32 : decode cX0_takeFrom 32 = .ok (.goto (-25), 3) := by decide +kernel
theorem dX0_takeFrom_35 : decode cX0_takeFrom 35 = .ok (.iconst 0, 1) := by decide +kernel
theorem dX0_takeFrom_36 : decode cX0_takeFrom 36 = .ok (.istore_n 2, 1) := by decide +kernel
theorem dX0_takeFrom_37 : decode cX0_takeFrom 37 = .ok (.iload_n 2, 1) := by decide +kernel
theorem dX0_takeFrom_38 : decode cX0_takeFrom 38 = .ok (.aload_n 1, 1) := by decide +kernel
theorem dX0_takeFrom_39 : decode cX0_takeFrom 39 = .ok (.getfield 27, 3) := by decide +kernel
theorem dX0_takeFrom_42 : decode cX0_takeFrom 42 = .ok (.if_icmp .ge 38, 3) := by decide +kernel
theorem dX0_takeFrom_45 : decode cX0_takeFrom 45 = .ok (.aload_n 0, 1) := by decide +kernel
theorem dX0_takeFrom_46 : decode cX0_takeFrom 46 = .ok (.aload_n 1, 1) := by decide +kernel
theorem dX0_takeFrom_47 : decode cX0_takeFrom 47 = .ok (.getfield 15, 3) := by decide +kernel
theorem dX0_takeFrom_50 : decode cX0_takeFrom 50 = .ok (.iload_n 2, 1) := by decide +kernel
theorem dX0_takeFrom_51 : decode cX0_takeFrom 51 = .ok (.iaload, 1) := by decide +kernel
theorem dX0_takeFrom_52 : decode cX0_takeFrom 52 = .ok (.invokevirtual 46, 3) := by decide +kernel
theorem dX0_takeFrom_55 : decode cX0_takeFrom 55 = .ok (.ifCond .eq 19, 3) := by decide +kernel
theorem dX0_takeFrom_58 : decode cX0_takeFrom 58 = .ok (.aload_n 0, 1) := by decide +kernel
theorem dX0_takeFrom_59 : decode cX0_takeFrom 59 = .ok (.aload_n 1, 1) := by decide +kernel
theorem dX0_takeFrom_60 : decode cX0_takeFrom 60 = .ok (.getfield 15, 3) := by decide +kernel
theorem dX0_takeFrom_63 : decode cX0_takeFrom 63 = .ok (.iload_n 2, 1) := by decide +kernel
theorem dX0_takeFrom_64 : decode cX0_takeFrom 64 = .ok (.iaload, 1) := by decide +kernel
theorem dX0_takeFrom_65 : decode cX0_takeFrom 65 = .ok (.aload_n 1, 1) := by decide +kernel
theorem dX0_takeFrom_66 : decode cX0_takeFrom 66 = .ok (.getfield 18, 3) := by decide +kernel
theorem dX0_takeFrom_69 : decode cX0_takeFrom 69 = .ok (.iload_n 2, 1) := by decide +kernel
theorem dX0_takeFrom_70 : decode cX0_takeFrom 70 = .ok (.iaload, 1) := by decide +kernel
theorem dX0_takeFrom_71 : decode cX0_takeFrom 71 = .ok (.invokevirtual 53, 3) := by decide +kernel
theorem dX0_takeFrom_74 : decode cX0_takeFrom 74 = .ok (.iinc 2 1, 3) := by decide +kernel
theorem dX0_takeFrom_77 : decode cX0_takeFrom 77 = .ok (.goto (-40), 3) := by decide +kernel
theorem dX0_takeFrom_80 : decode cX0_takeFrom 80 = .ok (.aload_n 0, 1) := by decide +kernel
theorem dX0_takeFrom_81 : decode cX0_takeFrom 81 = .ok (.getfield 9, 3) := by decide +kernel
theorem dX0_takeFrom_84 : decode cX0_takeFrom 84 = .ok (.aload_n 1, 1) := by decide +kernel
theorem dX0_takeFrom_85 : decode cX0_takeFrom 85 = .ok (.getfield 9, 3) := by decide +kernel
theorem dX0_takeFrom_88 : decode cX0_takeFrom 88 = .ok (.invokestatic 57, 3) := by decide +kernel
theorem dX0_takeFrom_91 : decode cX0_takeFrom 91 = .ok (.return_, 1) := by decide +kernel
theorem dX0_insert_0 : decode cX0_insert 0 = .ok (.aload_n 0, 1) := by decide +kernel
theorem dX0_insert_1 : decode cX0_insert 1 = .ok (.getfield 27, 3) := by decide +kernel
theorem dX0_insert_4 : decode cX0_insert 4 = .ok (.ifCond .lt 11, 3) := by decide +kernel
theorem dX0_insert_7 : decode cX0_insert 7 = .ok (.aload_n 0, 1) := by decide +kernel
theorem dX0_insert_8 : decode cX0_insert 8 = .ok (.getfield 27, 3) := by decide +kernel
theorem dX0_insert_11 : decode cX0_insert 11 = .ok (.iconst 4, 1) := by decide +kernel
theorem dX0_insert_12 : decode cX0_insert 12 = .ok (.if_icmp .lt 4, 3) := by decide +kernel
theorem dX0_insert_15 : decode cX0_insert 15 = .ok (.return_, 1) := by decide +kernel
theorem dX0_insert_16 : decode cX0_insert 16 = .ok (.aload_n 0, 1) := by decide +kernel
theorem dX0_insert_17 : decode cX0_insert 17 = .ok (.getfield 27, 3) := by decide +kernel
theorem dX0_insert_20 : decode cX0_insert 20 = .ok (.istore_n 3, 1) := by decide +kernel
theorem dX0_insert_21 : decode cX0_insert 21 = .ok (.iload_n 3, 1) := by decide +kernel
theorem dX0_insert_22 : decode cX0_insert 22 = .ok (.ifCond .le 49, 3) := by decide +kernel
theorem dX0_insert_25 : decode cX0_insert 25 = .ok (.aload_n 0, 1) := by decide +kernel
theorem dX0_insert_26 : decode cX0_insert 26 = .ok (.getfield 15, 3) := by decide +kernel
theorem dX0_insert_29 : decode cX0_insert 29 = .ok (.iload_n 3, 1) := by decide +kernel
theorem dX0_insert_30 : decode cX0_insert 30 = .ok (.iconst 1, 1) := by decide +kernel
theorem dX0_insert_31 : decode cX0_insert 31 = .ok (.isub, 1) := by decide +kernel
theorem dX0_insert_32 : decode cX0_insert 32 = .ok (.iaload, 1) := by decide +kernel
theorem dX0_insert_33 : decode cX0_insert 33 = .ok (.iload_n 1, 1) := by decide +kernel
theorem dX0_insert_34 : decode cX0_insert 34 = .ok (.if_icmp .le 37, 3) := by decide +kernel
theorem dX0_insert_37 : decode cX0_insert 37 = .ok (.aload_n 0, 1) := by decide +kernel
theorem dX0_insert_38 : decode cX0_insert 38 = .ok (.getfield 15, 3) := by decide +kernel
theorem dX0_insert_41 : decode cX0_insert 41 = .ok (.iload_n 3, 1) := by decide +kernel
theorem dX0_insert_42 : decode cX0_insert 42 = .ok (.aload_n 0, 1) := by decide +kernel
theorem dX0_insert_43 : decode cX0_insert 43 = .ok (.getfield 15, 3) := by decide +kernel
theorem dX0_insert_46 : decode cX0_insert 46 = .ok (.iload_n 3, 1) := by decide +kernel
theorem dX0_insert_47 : decode cX0_insert 47 = .ok (.iconst 1, 1) := by decide +kernel
theorem dX0_insert_48 : decode cX0_insert 48 = .ok (.isub, 1) := by decide +kernel
theorem dX0_insert_49 : decode cX0_insert 49 = .ok (.iaload, 1) := by decide +kernel
theorem dX0_insert_50 : decode cX0_insert 50 = .ok (.iastore, 1) := by decide +kernel
theorem dX0_insert_51 : decode cX0_insert 51 = .ok (.aload_n 0, 1) := by decide +kernel
theorem dX0_insert_52 : decode cX0_insert 52 = .ok (.getfield 18, 3) := by decide +kernel
theorem dX0_insert_55 : decode cX0_insert 55 = .ok (.iload_n 3, 1) := by decide +kernel
theorem dX0_insert_56 : decode cX0_insert 56 = .ok (.aload_n 0, 1) := by decide +kernel
theorem dX0_insert_57 : decode cX0_insert 57 = .ok (.getfield 18, 3) := by decide +kernel
theorem dX0_insert_60 : decode cX0_insert 60 = .ok (.iload_n 3, 1) := by decide +kernel
theorem dX0_insert_61 : decode cX0_insert 61 = .ok (.iconst 1, 1) := by decide +kernel
theorem dX0_insert_62 : decode cX0_insert 62 = .ok (.isub, 1) := by decide +kernel
theorem dX0_insert_63 : decode cX0_insert 63 = .ok (.iaload, 1) := by decide +kernel
theorem dX0_insert_64 : decode cX0_insert 64 = .ok (.iastore, 1) := by decide +kernel
theorem dX0_insert_65 : decode cX0_insert 65 = .ok (.iinc 3 (-1), 3) := by decide +kernel
theorem dX0_insert_68 : decode cX0_insert 68 = .ok (.goto (-47), 3) := by decide +kernel
theorem dX0_insert_71 : decode cX0_insert 71 = .ok (.aload_n 0, 1) := by decide +kernel
theorem dX0_insert_72 : decode cX0_insert 72 = .ok (.getfield 15, 3) := by decide +kernel
theorem dX0_insert_75 : decode cX0_insert 75 = .ok (.iload_n 3, 1) := by decide +kernel
theorem dX0_insert_76 : decode cX0_insert 76 = .ok (.iload_n 1, 1) := by decide +kernel
theorem dX0_insert_77 : decode cX0_insert 77 = .ok (.iastore, 1) := by decide +kernel
theorem dX0_insert_78 : decode cX0_insert 78 = .ok (.aload_n 0, 1) := by decide +kernel
theorem dX0_insert_79 : decode cX0_insert 79 = .ok (.getfield 18, 3) := by decide +kernel
theorem dX0_insert_82 : decode cX0_insert 82 = .ok (.iload_n 3, 1) := by decide +kernel
theorem dX0_insert_83 : decode cX0_insert 83 = .ok (.iload_n 2, 1) := by decide +kernel
theorem dX0_insert_84 : decode cX0_insert 84 = .ok (.iastore, 1) := by decide +kernel
theorem dX0_insert_85 : decode cX0_insert 85 = .ok (.aload_n 0, 1) := by decide +kernel
theorem dX0_insert_86 : decode cX0_insert 86 = .ok (.dup, 1) := by decide +kernel
theorem dX0_insert_87 : decode cX0_insert 87 = .ok (.getfield 27, 3) := by decide +kernel
theorem dX0_insert_90 : decode cX0_insert 90 = .ok (.iconst 1, 1) := by decide +kernel
theorem dX0_insert_91 : decode cX0_insert 91 = .ok (.iadd, 1) := by decide +kernel
theorem dX0_insert_92 : decode cX0_insert 92 = .ok (.putfield 27, 3) := by decide +kernel
theorem dX0_insert_95 : decode cX0_insert 95 = .ok (.return_, 1) := by decide +kernel
theorem dX0_remove_0 : decode cX0_remove 0 = .ok (.iload_n 1, 1) := by decide +kernel
theorem dX0_remove_1 : decode cX0_remove 1 = .ok (.iconst 1, 1) := by decide +kernel
theorem dX0_remove_2 : decode cX0_remove 2 = .ok (.iadd, 1) := by decide +kernel
theorem dX0_remove_3 : decode cX0_remove 3 = .ok (.istore_n 2, 1) := by decide +kernel
theorem dX0_remove_4 : decode cX0_remove 4 = .ok (.iload_n 2, 1) := by decide +kernel
theorem dX0_remove_5 : decode cX0_remove 5 = .ok (.aload_n 0, 1) := by decide +kernel
theorem dX0_remove_6 : decode cX0_remove 6 = .ok (.getfield 27, 3) := by decide +kernel
theorem dX0_remove_9 : decode cX0_remove 9 = .ok (.if_icmp .ge 37, 3) := by decide +kernel
theorem dX0_remove_12 : decode cX0_remove 12 = .ok (.aload_n 0, 1) := by decide +kernel
theorem dX0_remove_13 : decode cX0_remove 13 = .ok (.getfield 15, 3) := by decide +kernel
theorem dX0_remove_16 : decode cX0_remove 16 = .ok (.iload_n 2, 1) := by decide +kernel
theorem dX0_remove_17 : decode cX0_remove 17 = .ok (.iconst 1, 1) := by decide +kernel
theorem dX0_remove_18 : decode cX0_remove 18 = .ok (.isub, 1) := by decide +kernel
theorem dX0_remove_19 : decode cX0_remove 19 = .ok (.aload_n 0, 1) := by decide +kernel
theorem dX0_remove_20 : decode cX0_remove 20 = .ok (.getfield 15, 3) := by decide +kernel
theorem dX0_remove_23 : decode cX0_remove 23 = .ok (.iload_n 2, 1) := by decide +kernel
theorem dX0_remove_24 : decode cX0_remove 24 = .ok (.iaload, 1) := by decide +kernel
theorem dX0_remove_25 : decode cX0_remove 25 = .ok (.iastore, 1) := by decide +kernel
theorem dX0_remove_26 : decode cX0_remove 26 = .ok (.aload_n 0, 1) := by decide +kernel
theorem dX0_remove_27 : decode cX0_remove 27 = .ok (.getfield 18, 3) := by decide +kernel
theorem dX0_remove_30 : decode cX0_remove 30 = .ok (.iload_n 2, 1) := by decide +kernel
theorem dX0_remove_31 : decode cX0_remove 31 = .ok (.iconst 1, 1) := by decide +kernel
theorem dX0_remove_32 : decode cX0_remove 32 = .ok (.isub, 1) := by decide +kernel
theorem dX0_remove_33 : decode cX0_remove 33 = .ok (.aload_n 0, 1) := by decide +kernel
theorem dX0_remove_34 : decode cX0_remove 34 = .ok (.getfield 18, 3) := by decide +kernel
theorem dX0_remove_37 : decode cX0_remove 37 = .ok (.iload_n 2, 1) := by decide +kernel
theorem dX0_remove_38 : decode cX0_remove 38 = .ok (.iaload, 1) := by decide +kernel
theorem dX0_remove_39 : decode cX0_remove 39 = .ok (.iastore, 1) := by decide +kernel
theorem dX0_remove_40 : decode cX0_remove 40 = .ok (.iinc 2 1, 3) := by decide +kernel
theorem dX0_remove_43 : decode cX0_remove 43 = .ok (.goto (-39), 3) := by decide +kernel
theorem dX0_remove_46 : decode cX0_remove 46 = .ok (.aload_n 0, 1) := by decide +kernel
theorem dX0_remove_47 : decode cX0_remove 47 = .ok (.dup, 1) := by decide +kernel
theorem dX0_remove_48 : decode cX0_remove 48 = .ok (.getfield 27, 3) := by decide +kernel
theorem dX0_remove_51 : decode cX0_remove 51 = .ok (.iconst 1, 1) := by decide +kernel
theorem dX0_remove_52 : decode cX0_remove 52 = .ok (.isub, 1) := by decide +kernel
theorem dX0_remove_53 : decode cX0_remove 53 = .ok (.putfield 27, 3) := by decide +kernel
theorem dX0_remove_56 : decode cX0_remove 56 = .ok (.return_, 1) := by decide +kernel
theorem dX0_valueBy_0 : decode cX0_valueBy 0 = .ok (.aload_n 0, 1) := by decide +kernel
theorem dX0_valueBy_1 : decode cX0_valueBy 1 = .ok (.getfield 18, 3) := by decide +kernel
theorem dX0_valueBy_4 : decode cX0_valueBy 4 = .ok (.iconst 0, 1) := by decide +kernel
theorem dX0_valueBy_5 : decode cX0_valueBy 5 = .ok (.iaload, 1) := by decide +kernel
theorem dX0_valueBy_6 : decode cX0_valueBy 6 = .ok (.istore_n 2, 1) := by decide +kernel
theorem dX0_valueBy_7 : decode cX0_valueBy 7 = .ok (.aload_n 0, 1) := by decide +kernel
theorem dX0_valueBy_8 : decode cX0_valueBy 8 = .ok (.getfield 18, 3) := by decide +kernel
theorem dX0_valueBy_11 : decode cX0_valueBy 11 = .ok (.iconst 0, 1) := by decide +kernel
theorem dX0_valueBy_12 : decode cX0_valueBy 12 = .ok (.iaload, 1) := by decide +kernel
theorem dX0_valueBy_13 : decode cX0_valueBy 13 = .ok (.istore_n 3, 1) := by decide +kernel
theorem dX0_valueBy_14 : decode cX0_valueBy 14 = .ok (.iconst 0, 1) := by decide +kernel
theorem dX0_valueBy_15 : decode cX0_valueBy 15 = .ok (.istore 4, 2) := by decide +kernel
theorem dX0_valueBy_17 : decode cX0_valueBy 17 = .ok (.iconst 0, 1) := by decide +kernel
theorem dX0_valueBy_18 : decode cX0_valueBy 18 = .ok (.istore 5, 2) := by decide +kernel
theorem dX0_valueBy_20 : decode cX0_valueBy 20 = .ok (.iload 5, 2) := by decide +kernel
theorem dX0_valueBy_22 : decode cX0_valueBy 22 = .ok (.aload_n 0, 1) := by decide +kernel
theorem dX0_valueBy_23 : decode cX0_valueBy 23 = .ok (.getfield 27, 3) := by decide +kernel
theorem dX0_valueBy_26 : decode cX0_valueBy 26 = .ok (.if_icmp .ge 45, 3) := by decide +kernel
theorem dX0_valueBy_29 : decode cX0_valueBy 29 = .ok (.iload_n 2, 1) := by decide +kernel
theorem dX0_valueBy_30 : decode cX0_valueBy 30 = .ok (.aload_n 0, 1) := by decide +kernel
theorem dX0_valueBy_31 : decode cX0_valueBy 31 = .ok (.getfield 18, 3) := by decide +kernel
theorem dX0_valueBy_34 : decode cX0_valueBy 34 = .ok (.iload 5, 2) := by decide +kernel
theorem dX0_valueBy_36 : decode cX0_valueBy 36 = .ok (.iaload, 1) := by decide +kernel
theorem dX0_valueBy_37 : decode cX0_valueBy 37 = .ok (.invokestatic 61, 3) := by decide +kernel
theorem dX0_valueBy_40 : decode cX0_valueBy 40 = .ok (.istore_n 2, 1) := by decide +kernel
theorem dX0_valueBy_41 : decode cX0_valueBy 41 = .ok (.iload_n 3, 1) := by decide +kernel
theorem dX0_valueBy_42 : decode cX0_valueBy 42 = .ok (.aload_n 0, 1) := by decide +kernel
theorem dX0_valueBy_43 : decode cX0_valueBy 43 = .ok (.getfield 18, 3) := by decide +kernel
theorem dX0_valueBy_46 : decode cX0_valueBy 46 = .ok (.iload 5, 2) := by decide +kernel
theorem dX0_valueBy_48 : decode cX0_valueBy 48 = .ok (.iaload, 1) := by decide +kernel
theorem dX0_valueBy_49 : decode cX0_valueBy 49 = .ok (.invokestatic 67, 3) := by decide +kernel
theorem dX0_valueBy_52 : decode cX0_valueBy 52 = .ok (.istore_n 3, 1) := by decide +kernel
theorem dX0_valueBy_53 : decode cX0_valueBy 53 = .ok (.iload 4, 2) := by decide +kernel
theorem dX0_valueBy_55 : decode cX0_valueBy 55 = .ok (.aload_n 0, 1) := by decide +kernel
theorem dX0_valueBy_56 : decode cX0_valueBy 56 = .ok (.getfield 18, 3) := by decide +kernel
theorem dX0_valueBy_59 : decode cX0_valueBy 59 = .ok (.iload 5, 2) := by decide +kernel
theorem dX0_valueBy_61 : decode cX0_valueBy 61 = .ok (.iaload, 1) := by decide +kernel
theorem dX0_valueBy_62 : decode cX0_valueBy 62 = .ok (.iadd, 1) := by decide +kernel
theorem dX0_valueBy_63 : decode cX0_valueBy 63 = .ok (.istore 4, 2) := by decide +kernel
theorem dX0_valueBy_65 : decode cX0_valueBy 65 = .ok (.iinc 5 1, 3) := by decide +kernel
theorem dX0_valueBy_68 : decode cX0_valueBy 68 = .ok (.goto (-48), 3) := by decide +kernel
theorem dX0_valueBy_71 : decode cX0_valueBy 71 = .ok (.iload_n 1, 1) := by decide +kernel
theorem dX0_valueBy_72 : decode cX0_valueBy 72 = .ok (.tableswitch 38 0 2 #[28, 30, 32], 28) := by decide +kernel
theorem dX0_valueBy_100 : decode cX0_valueBy 100 = .ok (.iload_n 2, 1) := by decide +kernel
theorem dX0_valueBy_101 : decode cX0_valueBy 101 = .ok (.ireturn, 1) := by decide +kernel
theorem dX0_valueBy_102 : decode cX0_valueBy 102 = .ok (.iload_n 3, 1) := by decide +kernel
theorem dX0_valueBy_103 : decode cX0_valueBy 103 = .ok (.ireturn, 1) := by decide +kernel
theorem dX0_valueBy_104 : decode cX0_valueBy 104 = .ok (.iload 4, 2) := by decide +kernel
theorem dX0_valueBy_106 : decode cX0_valueBy 106 = .ok (.bipush 100, 2) := by decide +kernel
theorem dX0_valueBy_108 : decode cX0_valueBy 108 = .ok (.irem, 1) := by decide +kernel
theorem dX0_valueBy_109 : decode cX0_valueBy 109 = .ok (.ireturn, 1) := by decide +kernel
theorem dX0_valueBy_110 : decode cX0_valueBy 110 = .ok (.aload_n 0, 1) := by decide +kernel
theorem dX0_valueBy_111 : decode cX0_valueBy 111 = .ok (.getfield 18, 3) := by decide +kernel
theorem dX0_valueBy_114 : decode cX0_valueBy 114 = .ok (.iconst 0, 1) := by decide +kernel
theorem dX0_valueBy_115 : decode cX0_valueBy 115 = .ok (.iaload, 1) := by decide +kernel
theorem dX0_valueBy_116 : decode cX0_valueBy 116 = .ok (.ireturn, 1) := by decide +kernel
theorem dX1_init_0 : decode cX1_init 0 = .ok (.aload_n 0, 1) := by decide +kernel
theorem dX1_init_1 : decode cX1_init 1 = .ok (.invokespecial 3, 3) := by decide +kernel
theorem dX1_init_4 : decode cX1_init 4 = .ok (.aload_n 0, 1) := by decide +kernel
theorem dX1_init_5 : decode cX1_init 5 = .ok (.iconst 3, 1) := by decide +kernel
theorem dX1_init_6 : decode cX1_init 6 = .ok (.anewarray 9, 3) := by decide +kernel
theorem dX1_init_9 : decode cX1_init 9 = .ok (.putfield 11, 3) := by decide +kernel
theorem dX1_init_12 : decode cX1_init 12 = .ok (.aload_n 0, 1) := by decide +kernel
theorem dX1_init_13 : decode cX1_init 13 = .ok (.iconst 5, 1) := by decide +kernel
theorem dX1_init_14 : decode cX1_init 14 = .ok (.iconst 5, 1) := by decide +kernel
theorem dX1_init_15 : decode cX1_init 15 = .ok (.multianewarray 17 2, 4) := by decide +kernel
theorem dX1_init_19 : decode cX1_init 19 = .ok (.putfield 19, 3) := by decide +kernel
theorem dX1_init_22 : decode cX1_init 22 = .ok (.aload_n 0, 1) := by decide +kernel
theorem dX1_init_23 : decode cX1_init 23 = .ok (.iconst 5, 1) := by decide +kernel
theorem dX1_init_24 : decode cX1_init 24 = .ok (.newarray .int, 2) := by decide +kernel
theorem dX1_init_26 : decode cX1_init 26 = .ok (.putfield 22, 3) := by decide +kernel
theorem dX1_init_29 : decode cX1_init 29 = .ok (.iconst 0, 1) := by decide +kernel
theorem dX1_init_30 : decode cX1_init 30 = .ok (.istore_n 1, 1) := by decide +kernel
theorem dX1_init_31 : decode cX1_init 31 = .ok (.iload_n 1, 1) := by decide +kernel
theorem dX1_init_32 : decode cX1_init 32 = .ok (.iconst 3, 1) := by decide +kernel
theorem dX1_init_33 : decode cX1_init 33 = .ok (.if_icmp .ge 22, 3) := by decide +kernel
theorem dX1_init_36 : decode cX1_init 36 = .ok (.aload_n 0, 1) := by decide +kernel
theorem dX1_init_37 : decode cX1_init 37 = .ok (.getfield 11, 3) := by decide +kernel
theorem dX1_init_40 : decode cX1_init 40 = .ok (.iload_n 1, 1) := by decide +kernel
theorem dX1_init_41 : decode cX1_init 41 = .ok (.new 9, 3) := by decide +kernel
theorem dX1_init_44 : decode cX1_init 44 = .ok (.dup, 1) := by decide +kernel
theorem dX1_init_45 : decode cX1_init 45 = .ok (.invokespecial 26, 3) := by decide +kernel
theorem dX1_init_48 : decode cX1_init 48 = .ok (.aastore, 1) := by decide +kernel
theorem dX1_init_49 : decode cX1_init 49 = .ok (.iinc 1 1, 3) := by decide +kernel
theorem dX1_init_52 : decode cX1_init 52 = .ok (.goto (-21), 3) := by decide +kernel
theorem dX1_init_55 : decode cX1_init 55 = .ok (.return_, 1) := by decide +kernel
theorem dX1_become_0 : decode cX1_become 0 = .ok (.iconst 0, 1) := by decide +kernel
theorem dX1_become_1 : decode cX1_become 1 = .ok (.istore_n 2, 1) := by decide +kernel
theorem dX1_become_2 : decode cX1_become 2 = .ok (.iload_n 2, 1) := by decide +kernel
theorem dX1_become_3 : decode cX1_become 3 = .ok (.iconst 3, 1) := by decide +kernel
theorem dX1_become_4 : decode cX1_become 4 = .ok (.if_icmp .ge 24, 3) := by decide +kernel
theorem dX1_become_7 : decode cX1_become 7 = .ok (.aload_n 0, 1) := by decide +kernel
theorem dX1_become_8 : decode cX1_become 8 = .ok (.getfield 11, 3) := by decide +kernel
theorem dX1_become_11 : decode cX1_become 11 = .ok (.iload_n 2, 1) := by decide +kernel
theorem dX1_become_12 : decode cX1_become 12 = .ok (.aaload, 1) := by decide +kernel
theorem dX1_become_13 : decode cX1_become 13 = .ok (.aload_n 1, 1) := by decide +kernel
theorem dX1_become_14 : decode cX1_become 14 = .ok (.getfield 11, 3) := by decide +kernel
theorem dX1_become_17 : decode cX1_become 17 = .ok (.iload_n 2, 1) := by decide +kernel
theorem dX1_become_18 : decode cX1_become 18 = .ok (.aaload, 1) := by decide +kernel
theorem dX1_become_19 : decode cX1_become 19 = .ok (.invokevirtual 27, 3) := by decide +kernel
theorem dX1_become_22 : decode cX1_become 22 = .ok (.iinc 2 1, 3) := by decide +kernel
theorem dX1_become_25 : decode cX1_become 25 = .ok (.goto (-23), 3) := by decide +kernel
theorem dX1_become_28 : decode cX1_become 28 = .ok (.iconst 0, 1) := by decide +kernel
theorem dX1_become_29 : decode cX1_become 29 = .ok (.istore_n 2, 1) := by decide +kernel
theorem dX1_become_30 : decode cX1_become 30 = .ok (.iload_n 2, 1) := by decide +kernel
theorem dX1_become_31 : decode cX1_become 31 = .ok (.iconst 5, 1) := by decide +kernel
theorem dX1_become_32 : decode cX1_become 32 = .ok (.if_icmp .ge 27, 3) := by decide +kernel
theorem dX1_become_35 : decode cX1_become 35 = .ok (.aload_n 1, 1) := by decide +kernel
theorem dX1_become_36 : decode cX1_become 36 = .ok (.getfield 19, 3) := by decide +kernel
theorem dX1_become_39 : decode cX1_become 39 = .ok (.iload_n 2, 1) := by decide +kernel
theorem dX1_become_40 : decode cX1_become 40 = .ok (.aaload, 1) := by decide +kernel
theorem dX1_become_41 : decode cX1_become 41 = .ok (.iconst 0, 1) := by decide +kernel
theorem dX1_become_42 : decode cX1_become 42 = .ok (.aload_n 0, 1) := by decide +kernel
theorem dX1_become_43 : decode cX1_become 43 = .ok (.getfield 19, 3) := by decide +kernel
theorem dX1_become_46 : decode cX1_become 46 = .ok (.iload_n 2, 1) := by decide +kernel
theorem dX1_become_47 : decode cX1_become 47 = .ok (.aaload, 1) := by decide +kernel
theorem dX1_become_48 : decode cX1_become 48 = .ok (.iconst 0, 1) := by decide +kernel
theorem dX1_become_49 : decode cX1_become 49 = .ok (.iconst 5, 1) := by decide +kernel
theorem dX1_become_50 : decode cX1_become 50 = .ok (.invokestatic 31, 3) := by decide +kernel
theorem dX1_become_53 : decode cX1_become 53 = .ok (.iinc 2 1, 3) := by decide +kernel
theorem dX1_become_56 : decode cX1_become 56 = .ok (.goto (-26), 3) := by decide +kernel
theorem dX1_become_59 : decode cX1_become 59 = .ok (.aload_n 1, 1) := by decide +kernel
theorem dX1_become_60 : decode cX1_become 60 = .ok (.getfield 22, 3) := by decide +kernel
theorem dX1_become_63 : decode cX1_become 63 = .ok (.iconst 0, 1) := by decide +kernel
theorem dX1_become_64 : decode cX1_become 64 = .ok (.aload_n 0, 1) := by decide +kernel
theorem dX1_become_65 : decode cX1_become 65 = .ok (.getfield 22, 3) := by decide +kernel
theorem dX1_become_68 : decode cX1_become 68 = .ok (.iconst 0, 1) := by decide +kernel
theorem dX1_become_69 : decode cX1_become 69 = .ok (.iconst 5, 1) := by decide +kernel
theorem dX1_become_70 : decode cX1_become 70 = .ok (.invokestatic 31, 3) := by decide +kernel
theorem dX1_become_73 : decode cX1_become 73 = .ok (.return_, 1) := by decide +kernel
theorem dX1_learn_0 : decode cX1_learn 0 = .ok (.aload_n 0, 1) := by decide +kernel
theorem dX1_learn_1 : decode cX1_learn 1 = .ok (.getfield 19, 3) := by decide +kernel
theorem dX1_learn_4 : decode cX1_learn 4 = .ok (.iload_n 1, 1) := by decide +kernel
theorem dX1_learn_5 : decode cX1_learn 5 = .ok (.aaload, 1) := by decide +kernel
theorem dX1_learn_6 : decode cX1_learn 6 = .ok (.aload_n 0, 1) := by decide +kernel
theorem dX1_learn_7 : decode cX1_learn 7 = .ok (.getfield 11, 3) := by decide +kernel
theorem dX1_learn_10 : decode cX1_learn 10 = .ok (.iload_n 2, 1) := by decide +kernel
theorem dX1_learn_11 : decode cX1_learn 11 = .ok (.aaload, 1) := by decide +kernel
theorem dX1_learn_12 : decode cX1_learn 12 = .ok (.getfield 37, 3) := by decide +kernel
theorem dX1_learn_15 : decode cX1_learn 15 = .ok (.invokestatic 40, 3) := by decide +kernel
theorem dX1_learn_18 : decode cX1_learn 18 = .ok (.return_, 1) := by decide +kernel
theorem dX1_mayWrite_0 : decode cX1_mayWrite 0 = .ok (.aload_n 0, 1) := by decide +kernel
theorem dX1_mayWrite_1 : decode cX1_mayWrite 1 = .ok (.getfield 22, 3) := by decide +kernel
theorem dX1_mayWrite_4 : decode cX1_mayWrite 4 = .ok (.iload_n 1, 1) := by decide +kernel
theorem dX1_mayWrite_5 : decode cX1_mayWrite 5 = .ok (.iaload, 1) := by decide +kernel
theorem dX1_mayWrite_6 : decode cX1_mayWrite 6 = .ok (.sipush 999, 3) := by decide +kernel
theorem dX1_mayWrite_9 : decode cX1_mayWrite 9 = .ok (.if_icmp .ge 18, 3) := by decide +kernel
theorem dX1_mayWrite_12 : decode cX1_mayWrite 12 = .ok (.aload_n 0, 1) := by decide +kernel
theorem dX1_mayWrite_13 : decode cX1_mayWrite 13 = .ok (.iload_n 1, 1) := by decide +kernel
theorem dX1_mayWrite_14 : decode cX1_mayWrite 14 = .ok (.iload_n 2, 1) := by decide +kernel
theorem dX1_mayWrite_15 : decode cX1_mayWrite 15 = .ok (.iconst 1, 1) := by decide +kernel
theorem dX1_mayWrite_16 : decode cX1_mayWrite 16 = .ok (.invokevirtual 44, 3) := by decide +kernel
theorem dX1_mayWrite_19 : decode cX1_mayWrite 19 = .ok (.iconst 4, 1) := by decide +kernel
theorem dX1_mayWrite_20 : decode cX1_mayWrite 20 = .ok (.if_icmp .gt 7, 3) := by decide +kernel
theorem dX1_mayWrite_23 : decode cX1_mayWrite 23 = .ok (.iconst 1, 1) := by decide +kernel
theorem dX1_mayWrite_24 : decode cX1_mayWrite 24 = .ok (.goto 4, 3) := by decide +kernel
theorem dX1_mayWrite_27 : decode cX1_mayWrite 27 = .ok (.iconst 0, 1) := by decide +kernel
theorem dX1_mayWrite_28 : decode cX1_mayWrite 28 = .ok (.ireturn, 1) := by decide +kernel
theorem dX1_mayPull_0 : decode cX1_mayPull 0 = .ok (.aload_n 0, 1) := by decide +kernel
theorem dX1_mayPull_1 : decode cX1_mayPull 1 = .ok (.iload_n 1, 1) := by decide +kernel
theorem dX1_mayPull_2 : decode cX1_mayPull 2 = .ok (.iload_n 2, 1) := by decide +kernel
theorem dX1_mayPull_3 : decode cX1_mayPull 3 = .ok (.iconst 2, 1) := by decide +kernel
theorem dX1_mayPull_4 : decode cX1_mayPull 4 = .ok (.invokevirtual 48, 3) := by decide +kernel
theorem dX1_mayPull_7 : decode cX1_mayPull 7 = .ok (.iconst 4, 1) := by decide +kernel
theorem dX1_mayPull_8 : decode cX1_mayPull 8 = .ok (.if_icmp .gt 7, 3) := by decide +kernel
theorem dX1_mayPull_11 : decode cX1_mayPull 11 = .ok (.iconst 1, 1) := by decide +kernel
theorem dX1_mayPull_12 : decode cX1_mayPull 12 = .ok (.goto 4, 3) := by decide +kernel
theorem dX1_mayPull_15 : decode cX1_mayPull 15 = .ok (.iconst 0, 1) := by decide +kernel
theorem dX1_mayPull_16 : decode cX1_mayPull 16 = .ok (.ireturn, 1) := by decide +kernel
theorem dX1_writeOutlook_0 : decode cX1_writeOutlook 0 = .ok (.aload_n 0, 1) := by decide +kernel
theorem dX1_writeOutlook_1 : decode cX1_writeOutlook 1 = .ok (.getfield 11, 3) := by decide +kernel
theorem dX1_writeOutlook_4 : decode cX1_writeOutlook 4 = .ok (.iload_n 2, 1) := by decide +kernel
theorem dX1_writeOutlook_5 : decode cX1_writeOutlook 5 = .ok (.aaload, 1) := by decide +kernel
theorem dX1_writeOutlook_6 : decode cX1_writeOutlook 6 = .ok (.aload_n 0, 1) := by decide +kernel
theorem dX1_writeOutlook_7 : decode cX1_writeOutlook 7 = .ok (.getfield 19, 3) := by decide +kernel
theorem dX1_writeOutlook_10 : decode cX1_writeOutlook 10 = .ok (.iload_n 1, 1) := by decide +kernel
theorem dX1_writeOutlook_11 : decode cX1_writeOutlook 11 = .ok (.aaload, 1) := by decide +kernel
theorem dX1_writeOutlook_12 : decode cX1_writeOutlook 12 = .ok (.invokevirtual 51, 3) := by decide +kernel
theorem dX1_writeOutlook_15 : decode cX1_writeOutlook 15 = .ok (.istore 4, 2) := by decide +kernel
theorem dX1_writeOutlook_17 : decode cX1_writeOutlook 17 = .ok (.iload_n 3, 1) := by decide +kernel
theorem dX1_writeOutlook_18 : decode cX1_writeOutlook 18 = .ok (.ifCond .ne 8, 3) := by decide +kernel
theorem dX1_writeOutlook_21 : decode cX1_writeOutlook 21 = .ok (.iload 4, 2) := by decide +kernel
theorem dX1_writeOutlook_23 : decode cX1_writeOutlook 23 = .ok (.goto 17, 3) := by decide +kernel
theorem dX1_writeOutlook_26 : decode cX1_writeOutlook 26 = .ok (.aload_n 0, 1) := by decide +kernel
theorem dX1_writeOutlook_27 : decode cX1_writeOutlook 27 = .ok (.getfield 11, 3) := by decide +kernel
theorem dX1_writeOutlook_30 : decode cX1_writeOutlook 30 = .ok (.iload_n 2, 1) := by decide +kernel
theorem dX1_writeOutlook_31 : decode cX1_writeOutlook 31 = .ok (.aaload, 1) := by decide +kernel
theorem dX1_writeOutlook_32 : decode cX1_writeOutlook 32 = .ok (.getfield 55, 3) := by decide +kernel
theorem dX1_writeOutlook_35 : decode cX1_writeOutlook 35 = .ok (.iload 4, 2) := by decide +kernel
theorem dX1_writeOutlook_37 : decode cX1_writeOutlook 37 = .ok (.isub, 1) := by decide +kernel
theorem dX1_writeOutlook_38 : decode cX1_writeOutlook 38 = .ok (.iconst 1, 1) := by decide +kernel
theorem dX1_writeOutlook_39 : decode cX1_writeOutlook 39 = .ok (.iadd, 1) := by decide +kernel
theorem dX1_writeOutlook_40 : decode cX1_writeOutlook 40 = .ok (.ireturn, 1) := by decide +kernel
theorem dX1_pullOutlook_0 : decode cX1_pullOutlook 0 = .ok (.aload_n 0, 1) := by decide +kernel
theorem dX1_pullOutlook_1 : decode cX1_pullOutlook 1 = .ok (.getfield 11, 3) := by decide +kernel
theorem dX1_pullOutlook_4 : decode cX1_pullOutlook 4 = .ok (.iload_n 1, 1) := by decide +kernel
theorem dX1_pullOutlook_5 : decode cX1_pullOutlook 5 = .ok (.aaload, 1) := by decide +kernel
theorem dX1_pullOutlook_6 : decode cX1_pullOutlook 6 = .ok (.aload_n 0, 1) := by decide +kernel
theorem dX1_pullOutlook_7 : decode cX1_pullOutlook 7 = .ok (.getfield 11, 3) := by decide +kernel
theorem dX1_pullOutlook_10 : decode cX1_pullOutlook 10 = .ok (.iload_n 2, 1) := by decide +kernel
theorem dX1_pullOutlook_11 : decode cX1_pullOutlook 11 = .ok (.aaload, 1) := by decide +kernel
theorem dX1_pullOutlook_12 : decode cX1_pullOutlook 12 = .ok (.invokevirtual 59, 3) := by decide +kernel
theorem dX1_pullOutlook_15 : decode cX1_pullOutlook 15 = .ok (.istore 4, 2) := by decide +kernel
theorem dX1_pullOutlook_17 : decode cX1_pullOutlook 17 = .ok (.aload_n 0, 1) := by decide +kernel
theorem dX1_pullOutlook_18 : decode cX1_pullOutlook 18 = .ok (.getfield 11, 3) := by decide +kernel
theorem dX1_pullOutlook_21 : decode cX1_pullOutlook 21 = .ok (.iload_n 1, 1) := by decide +kernel
theorem dX1_pullOutlook_22 : decode cX1_pullOutlook 22 = .ok (.aaload, 1) := by decide +kernel
theorem dX1_pullOutlook_23 : decode cX1_pullOutlook 23 = .ok (.aload_n 0, 1) := by decide +kernel
theorem dX1_pullOutlook_24 : decode cX1_pullOutlook 24 = .ok (.getfield 11, 3) := by decide +kernel
theorem dX1_pullOutlook_27 : decode cX1_pullOutlook 27 = .ok (.iload_n 2, 1) := by decide +kernel
theorem dX1_pullOutlook_28 : decode cX1_pullOutlook 28 = .ok (.aaload, 1) := by decide +kernel
theorem dX1_pullOutlook_29 : decode cX1_pullOutlook 29 = .ok (.invokevirtual 63, 3) := by decide +kernel
theorem dX1_pullOutlook_32 : decode cX1_pullOutlook 32 = .ok (.istore 5, 2) := by decide +kernel
theorem dX1_pullOutlook_34 : decode cX1_pullOutlook 34 = .ok (.iload_n 3, 1) := by decide +kernel
theorem dX1_pullOutlook_35 : decode cX1_pullOutlook 35 = .ok (.lookupswitch 31 #[(0, 25), (1, 28)], 25) := by decide +kernel
theorem dX1_pullOutlook_60 : decode cX1_pullOutlook 60 = .ok (.iload 4, 2) := by decide +kernel
theorem dX1_pullOutlook_62 : decode cX1_pullOutlook 62 = .ok (.ireturn, 1) := by decide +kernel
theorem dX1_pullOutlook_63 : decode cX1_pullOutlook 63 = .ok (.iload 5, 2) := by decide +kernel
theorem dX1_pullOutlook_65 : decode cX1_pullOutlook 65 = .ok (.ireturn, 1) := by decide +kernel
theorem dX1_pullOutlook_66 : decode cX1_pullOutlook 66 = .ok (.aload_n 0, 1) := by decide +kernel
theorem dX1_pullOutlook_67 : decode cX1_pullOutlook 67 = .ok (.getfield 11, 3) := by decide +kernel
theorem dX1_pullOutlook_70 : decode cX1_pullOutlook 70 = .ok (.iload_n 1, 1) := by decide +kernel
theorem dX1_pullOutlook_71 : decode cX1_pullOutlook 71 = .ok (.aaload, 1) := by decide +kernel
theorem dX1_pullOutlook_72 : decode cX1_pullOutlook 72 = .ok (.getfield 55, 3) := by decide +kernel
theorem dX1_pullOutlook_75 : decode cX1_pullOutlook 75 = .ok (.iload 4, 2) := by decide +kernel
theorem dX1_pullOutlook_77 : decode cX1_pullOutlook 77 = .ok (.isub, 1) := by decide +kernel
theorem dX1_pullOutlook_78 : decode cX1_pullOutlook 78 = .ok (.iload 5, 2) := by decide +kernel
theorem dX1_pullOutlook_80 : decode cX1_pullOutlook 80 = .ok (.iadd, 1) := by decide +kernel
theorem dX1_pullOutlook_81 : decode cX1_pullOutlook 81 = .ok (.ireturn, 1) := by decide +kernel
theorem dX1_put_0 : decode cX1_put 0 = .ok (.aload_n 0, 1) := by decide +kernel
theorem dX1_put_1 : decode cX1_put 1 = .ok (.getfield 11, 3) := by decide +kernel
theorem dX1_put_4 : decode cX1_put 4 = .ok (.iload_n 2, 1) := by decide +kernel
theorem dX1_put_5 : decode cX1_put 5 = .ok (.aaload, 1) := by decide +kernel
theorem dX1_put_6 : decode cX1_put 6 = .ok (.aload_n 0, 1) := by decide +kernel
theorem dX1_put_7 : decode cX1_put 7 = .ok (.getfield 19, 3) := by decide +kernel
theorem dX1_put_10 : decode cX1_put 10 = .ok (.iload_n 1, 1) := by decide +kernel
theorem dX1_put_11 : decode cX1_put 11 = .ok (.aaload, 1) := by decide +kernel
theorem dX1_put_12 : decode cX1_put 12 = .ok (.invokevirtual 66, 3) := by decide +kernel
theorem dX1_put_15 : decode cX1_put 15 = .ok (.aload_n 0, 1) := by decide +kernel
theorem dX1_put_16 : decode cX1_put 16 = .ok (.getfield 22, 3) := by decide +kernel
theorem dX1_put_19 : decode cX1_put 19 = .ok (.iload_n 1, 1) := by decide +kernel
theorem dX1_put_20 : decode cX1_put 20 = .ok (.dup2, 1) := by decide +kernel
theorem dX1_put_21 : decode cX1_put 21 = .ok (.iaload, 1) := by decide +kernel
theorem dX1_put_22 : decode cX1_put 22 = .ok (.iconst 1, 1) := by decide +kernel
theorem dX1_put_23 : decode cX1_put 23 = .ok (.iadd, 1) := by decide +kernel
theorem dX1_put_24 : decode cX1_put 24 = .ok (.iastore, 1) := by decide +kernel
theorem dX1_put_25 : decode cX1_put 25 = .ok (.aload_n 0, 1) := by decide +kernel
theorem dX1_put_26 : decode cX1_put 26 = .ok (.getfield 11, 3) := by decide +kernel
theorem dX1_put_29 : decode cX1_put 29 = .ok (.iload_n 2, 1) := by decide +kernel
theorem dX1_put_30 : decode cX1_put 30 = .ok (.aaload, 1) := by decide +kernel
theorem dX1_put_31 : decode cX1_put 31 = .ok (.iload_n 1, 1) := by decide +kernel
theorem dX1_put_32 : decode cX1_put 32 = .ok (.sipush 1000, 3) := by decide +kernel
theorem dX1_put_35 : decode cX1_put 35 = .ok (.imul, 1) := by decide +kernel
theorem dX1_put_36 : decode cX1_put 36 = .ok (.aload_n 0, 1) := by decide +kernel
theorem dX1_put_37 : decode cX1_put 37 = .ok (.getfield 22, 3) := by decide +kernel
theorem dX1_put_40 : decode cX1_put 40 = .ok (.iload_n 1, 1) := by decide +kernel
theorem dX1_put_41 : decode cX1_put 41 = .ok (.iaload, 1) := by decide +kernel
theorem dX1_put_42 : decode cX1_put 42 = .ok (.iadd, 1) := by decide +kernel
theorem dX1_put_43 : decode cX1_put 43 = .ok (.iload_n 3, 1) := by decide +kernel
theorem dX1_put_44 : decode cX1_put 44 = .ok (.invokevirtual 70, 3) := by decide +kernel
theorem dX1_put_47 : decode cX1_put 47 = .ok (.aload_n 0, 1) := by decide +kernel
theorem dX1_put_48 : decode cX1_put 48 = .ok (.getfield 19, 3) := by decide +kernel
theorem dX1_put_51 : decode cX1_put 51 = .ok (.iload_n 1, 1) := by decide +kernel
theorem dX1_put_52 : decode cX1_put 52 = .ok (.aaload, 1) := by decide +kernel
theorem dX1_put_53 : decode cX1_put 53 = .ok (.iload_n 1, 1) := by decide +kernel
theorem dX1_put_54 : decode cX1_put 54 = .ok (.aload_n 0, 1) := by decide +kernel
theorem dX1_put_55 : decode cX1_put 55 = .ok (.getfield 22, 3) := by decide +kernel
theorem dX1_put_58 : decode cX1_put 58 = .ok (.iload_n 1, 1) := by decide +kernel
theorem dX1_put_59 : decode cX1_put 59 = .ok (.iaload, 1) := by decide +kernel
theorem dX1_put_60 : decode cX1_put 60 = .ok (.iastore, 1) := by decide +kernel
theorem dX1_put_61 : decode cX1_put 61 = .ok (.aload_n 0, 1) := by decide +kernel
theorem dX1_put_62 : decode cX1_put 62 = .ok (.getfield 11, 3) := by decide +kernel
theorem dX1_put_65 : decode cX1_put 65 = .ok (.iload_n 2, 1) := by decide +kernel
theorem dX1_put_66 : decode cX1_put 66 = .ok (.aaload, 1) := by decide +kernel
theorem dX1_put_67 : decode cX1_put 67 = .ok (.getfield 37, 3) := by decide +kernel
theorem dX1_put_70 : decode cX1_put 70 = .ok (.aload_n 0, 1) := by decide +kernel
theorem dX1_put_71 : decode cX1_put 71 = .ok (.getfield 19, 3) := by decide +kernel
theorem dX1_put_74 : decode cX1_put 74 = .ok (.iload_n 1, 1) := by decide +kernel
theorem dX1_put_75 : decode cX1_put 75 = .ok (.aaload, 1) := by decide +kernel
theorem dX1_put_76 : decode cX1_put 76 = .ok (.invokestatic 40, 3) := by decide +kernel
theorem dX1_put_79 : decode cX1_put 79 = .ok (.return_, 1) := by decide +kernel
theorem dX1_unlearn_0 : decode cX1_unlearn 0 = .ok (.iconst 0, 1) := by decide +kernel
theorem dX1_unlearn_1 : decode cX1_unlearn 1 = .ok (.istore_n 2, 1) := by decide +kernel
theorem dX1_unlearn_2 : decode cX1_unlearn 2 = .ok (.iconst 0, 1) := by decide +kernel
theorem dX1_unlearn_3 : decode cX1_unlearn 3 = .ok (.istore_n 3, 1) := by decide +kernel
theorem dX1_unlearn_4 : decode cX1_unlearn 4 = .ok (.iload_n 3, 1) := by decide +kernel
theorem dX1_unlearn_5 : decode cX1_unlearn 5 = .ok (.iconst 5, 1) := by decide +kernel
theorem dX1_unlearn_6 : decode cX1_unlearn 6 = .ok (.if_icmp .ge 34, 3) := by decide +kernel
theorem dX1_unlearn_9 : decode cX1_unlearn 9 = .ok (.iload_n 3, 1) := by decide +kernel
theorem dX1_unlearn_10 : decode cX1_unlearn 10 = .ok (.iload_n 1, 1) := by decide +kernel
theorem dX1_unlearn_11 : decode cX1_unlearn 11 = .ok (.if_icmp .eq 23, 3) := by decide +kernel
theorem dX1_unlearn_14 : decode cX1_unlearn 14 = .ok (.iload_n 2, 1) := by decide +kernel
theorem dX1_unlearn_15 : decode cX1_unlearn 15 = .ok (.aload_n 0, 1) := by decide +kernel
theorem dX1_unlearn_16 : decode cX1_unlearn 16 = .ok (.getfield 19, 3) := by decide +kernel
theorem dX1_unlearn_19 : decode cX1_unlearn 19 = .ok (.iload_n 1, 1) := by decide +kernel
theorem dX1_unlearn_20 : decode cX1_unlearn 20 = .ok (.aaload, 1) := by decide +kernel
theorem dX1_unlearn_21 : decode cX1_unlearn 21 = .ok (.iload_n 3, 1) := by decide +kernel
theorem dX1_unlearn_22 : decode cX1_unlearn 22 = .ok (.iaload, 1) := by decide +kernel
theorem dX1_unlearn_23 : decode cX1_unlearn 23 = .ok (.iadd, 1) := by decide +kernel
theorem dX1_unlearn_24 : decode cX1_unlearn 24 = .ok (.istore_n 2, 1) := by decide +kernel
theorem dX1_unlearn_25 : decode cX1_unlearn 25 = .ok (.aload_n 0, 1) := by decide +kernel
theorem dX1_unlearn_26 : decode cX1_unlearn 26 = .ok (.getfield 19, 3) := by decide +kernel
theorem dX1_unlearn_29 : decode cX1_unlearn 29 = .ok (.iload_n 1, 1) := by decide +kernel
theorem dX1_unlearn_30 : decode cX1_unlearn 30 = .ok (.aaload, 1) := by decide +kernel
theorem dX1_unlearn_31 : decode cX1_unlearn 31 = .ok (.iload_n 3, 1) := by decide +kernel
theorem dX1_unlearn_32 : decode cX1_unlearn 32 = .ok (.iconst 0, 1) := by decide +kernel
theorem dX1_unlearn_33 : decode cX1_unlearn 33 = .ok (.iastore, 1) := by decide +kernel
theorem dX1_unlearn_34 : decode cX1_unlearn 34 = .ok (.iinc 3 1, 3) := by decide +kernel
theorem dX1_unlearn_37 : decode cX1_unlearn 37 = .ok (.goto (-33), 3) := by decide +kernel
theorem dX1_unlearn_40 : decode cX1_unlearn 40 = .ok (.iload_n 2, 1) := by decide +kernel
theorem dX1_unlearn_41 : decode cX1_unlearn 41 = .ok (.ireturn, 1) := by decide +kernel
theorem dX1_hindrance_0 : decode cX1_hindrance 0 = .ok (.iconst 0, 1) := by decide +kernel
theorem dX1_hindrance_1 : decode cX1_hindrance 1 = .ok (.istore_n 2, 1) := by decide +kernel
theorem dX1_hindrance_2 : decode cX1_hindrance 2 = .ok (.iconst 0, 1) := by decide +kernel
theorem dX1_hindrance_3 : decode cX1_hindrance 3 = .ok (.istore_n 3, 1) := by decide +kernel
theorem dX1_hindrance_4 : decode cX1_hindrance 4 = .ok (.iload_n 3, 1) := by decide +kernel
theorem dX1_hindrance_5 : decode cX1_hindrance 5 = .ok (.iconst 3, 1) := by decide +kernel
theorem dX1_hindrance_6 : decode cX1_hindrance 6 = .ok (.if_icmp .ge 51, 3) := by decide +kernel
theorem dX1_hindrance_9 : decode cX1_hindrance 9 = .ok (.aload_n 0, 1) := by decide +kernel
theorem dX1_hindrance_10 : decode cX1_hindrance 10 = .ok (.getfield 11, 3) := by decide +kernel
theorem dX1_hindrance_13 : decode cX1_hindrance 13 = .ok (.iload_n 3, 1) := by decide +kernel
theorem dX1_hindrance_14 : decode cX1_hindrance 14 = .ok (.aaload, 1) := by decide +kernel
theorem dX1_hindrance_15 : decode cX1_hindrance 15 = .ok (.iload_n 1, 1) := by decide +kernel
theorem dX1_hindrance_16 : decode cX1_hindrance 16 = .ok (.invokevirtual 74, 3) := by decide +kernel
theorem dX1_hindrance_19 : decode cX1_hindrance 19 = .ok (.ifCond .eq 5, 3) := by decide +kernel
theorem dX1_hindrance_22 : decode cX1_hindrance 22 = .ok (.iconst 1, 1) := by decide +kernel
theorem dX1_hindrance_23 : decode cX1_hindrance 23 = .ok (.ireturn, 1) := by decide +kernel
theorem dX1_hindrance_24 : decode cX1_hindrance 24 = .ok (.aload_n 0, 1) := by decide +kernel
theorem dX1_hindrance_25 : decode cX1_hindrance 25 = .ok (.getfield 11, 3) := by decide +kernel
theorem dX1_hindrance_28 : decode cX1_hindrance 28 = .ok (.iload_n 3, 1) := by decide +kernel
theorem dX1_hindrance_29 : decode cX1_hindrance 29 = .ok (.aaload, 1) := by decide +kernel
theorem dX1_hindrance_30 : decode cX1_hindrance 30 = .ok (.getfield 37, 3) := by decide +kernel
theorem dX1_hindrance_33 : decode cX1_hindrance 33 = .ok (.iload_n 1, 1) := by decide +kernel
theorem dX1_hindrance_34 : decode cX1_hindrance 34 = .ok (.iaload, 1) := by decide +kernel
theorem dX1_hindrance_35 : decode cX1_hindrance 35 = .ok (.aload_n 0, 1) := by decide +kernel
theorem dX1_hindrance_36 : decode cX1_hindrance 36 = .ok (.getfield 11, 3) := by decide +kernel
theorem dX1_hindrance_39 : decode cX1_hindrance 39 = .ok (.iconst 0, 1) := by decide +kernel
theorem dX1_hindrance_40 : decode cX1_hindrance 40 = .ok (.aaload, 1) := by decide +kernel
theorem dX1_hindrance_41 : decode cX1_hindrance 41 = .ok (.getfield 37, 3) := by decide +kernel
theorem dX1_hindrance_44 : decode cX1_hindrance 44 = .ok (.iload_n 1, 1) := by decide +kernel
theorem dX1_hindrance_45 : decode cX1_hindrance 45 = .ok (.iaload, 1) := by decide +kernel
theorem dX1_hindrance_46 : decode cX1_hindrance 46 = .ok (.if_icmp .eq 5, 3) := by decide +kernel
theorem dX1_hindrance_49 : decode cX1_hindrance 49 = .ok (.iconst 1, 1) := by decide +kernel
theorem dX1_hindrance_50 : decode cX1_hindrance 50 = .ok (.istore_n 2, 1) := by decide +kernel
theorem dX1_hindrance_51 : decode cX1_hindrance 51 = .ok (.iinc 3 1, 3) := by decide +kernel
theorem dX1_hindrance_54 : decode cX1_hindrance 54 = .ok (.goto (-50), 3) := by decide +kernel
theorem dX1_hindrance_57 : decode cX1_hindrance 57 = .ok (.iload_n 2, 1) := by decide +kernel
theorem dX1_hindrance_58 : decode cX1_hindrance 58 = .ok (.ifCond .eq 7, 3) := by decide +kernel
theorem dX1_hindrance_61 : decode cX1_hindrance 61 = .ok (.iconst 2, 1) := by decide +kernel
theorem dX1_hindrance_62 : decode cX1_hindrance 62 = .ok (.goto 4, 3) := by decide +kernel
theorem dX1_hindrance_65 : decode cX1_hindrance 65 = .ok (.iconst 0, 1) := by decide +kernel
theorem dX1_hindrance_66 : decode cX1_hindrance 66 = .ok (.ireturn, 1) := by decide +kernel
theorem dX1_erase_0 : decode cX1_erase 0 = .ok (.iconst 0, 1) := by decide +kernel
theorem dX1_erase_1 : decode cX1_erase 1 = .ok (.istore_n 2, 1) := by decide +kernel
theorem dX1_erase_2 : decode cX1_erase 2 = .ok (.iload_n 2, 1) := by decide +kernel
theorem dX1_erase_3 : decode cX1_erase 3 = .ok (.iconst 3, 1) := by decide +kernel
theorem dX1_erase_4 : decode cX1_erase 4 = .ok (.if_icmp .ge 21, 3) := by decide +kernel
theorem dX1_erase_7 : decode cX1_erase 7 = .ok (.aload_n 0, 1) := by decide +kernel
theorem dX1_erase_8 : decode cX1_erase 8 = .ok (.getfield 11, 3) := by decide +kernel
theorem dX1_erase_11 : decode cX1_erase 11 = .ok (.iload_n 2, 1) := by decide +kernel
theorem dX1_erase_12 : decode cX1_erase 12 = .ok (.aaload, 1) := by decide +kernel
theorem dX1_erase_13 : decode cX1_erase 13 = .ok (.getfield 37, 3) := by decide +kernel
theorem dX1_erase_16 : decode cX1_erase 16 = .ok (.iload_n 1, 1) := by decide +kernel
theorem dX1_erase_17 : decode cX1_erase 17 = .ok (.iconst 0, 1) := by decide +kernel
theorem dX1_erase_18 : decode cX1_erase 18 = .ok (.iastore, 1) := by decide +kernel
theorem dX1_erase_19 : decode cX1_erase 19 = .ok (.iinc 2 1, 3) := by decide +kernel
theorem dX1_erase_22 : decode cX1_erase 22 = .ok (.goto (-20), 3) := by decide +kernel
theorem dX1_erase_25 : decode cX1_erase 25 = .ok (.iconst 0, 1) := by decide +kernel
theorem dX1_erase_26 : decode cX1_erase 26 = .ok (.istore_n 2, 1) := by decide +kernel
theorem dX1_erase_27 : decode cX1_erase 27 = .ok (.iload_n 2, 1) := by decide +kernel
theorem dX1_erase_28 : decode cX1_erase 28 = .ok (.iconst 5, 1) := by decide +kernel
theorem dX1_erase_29 : decode cX1_erase 29 = .ok (.if_icmp .ge 18, 3) := by decide +kernel
theorem dX1_erase_32 : decode cX1_erase 32 = .ok (.aload_n 0, 1) := by decide +kernel
theorem dX1_erase_33 : decode cX1_erase 33 = .ok (.getfield 19, 3) := by decide +kernel
theorem dX1_erase_36 : decode cX1_erase 36 = .ok (.iload_n 2, 1) := by decide +kernel
theorem dX1_erase_37 : decode cX1_erase 37 = .ok (.aaload, 1) := by decide +kernel
theorem dX1_erase_38 : decode cX1_erase 38 = .ok (.iload_n 1, 1) := by decide +kernel
theorem dX1_erase_39 : decode cX1_erase 39 = .ok (.iconst 0, 1) := by decide +kernel
theorem dX1_erase_40 : decode cX1_erase 40 = .ok (.iastore, 1) := by decide +kernel
theorem dX1_erase_41 : decode cX1_erase 41 = .ok (.iinc 2 1, 3) := by decide +kernel
theorem dX1_erase_44 : decode cX1_erase 44 = .ok (.goto (-17), 3) := by decide +kernel
theorem dX1_erase_47 : decode cX1_erase 47 = .ok (.aload_n 0, 1) := by decide +kernel
theorem dX1_erase_48 : decode cX1_erase 48 = .ok (.getfield 22, 3) := by decide +kernel
theorem dX1_erase_51 : decode cX1_erase 51 = .ok (.iload_n 1, 1) := by decide +kernel
theorem dX1_erase_52 : decode cX1_erase 52 = .ok (.iconst 0, 1) := by decide +kernel
theorem dX1_erase_53 : decode cX1_erase 53 = .ok (.iastore, 1) := by decide +kernel
theorem dX1_erase_54 : decode cX1_erase 54 = .ok (.return_, 1) := by decide +kernel
theorem dX1_siblingFact_0 : decode cX1_siblingFact 0 = .ok (.aload_n 0, 1) := by decide +kernel
theorem dX1_siblingFact_1 : decode cX1_siblingFact 1 = .ok (.getfield 11, 3) := by decide +kernel
theorem dX1_siblingFact_4 : decode cX1_siblingFact 4 = .ok (.iload_n 1, 1) := by decide +kernel
theorem dX1_siblingFact_5 : decode cX1_siblingFact 5 = .ok (.aaload, 1) := by decide +kernel
theorem dX1_siblingFact_6 : decode cX1_siblingFact 6 = .ok (.astore 4, 2) := by decide +kernel
theorem dX1_siblingFact_8 : decode cX1_siblingFact 8 = .ok (.iload_n 2, 1) := by decide +kernel
theorem dX1_siblingFact_9 : decode cX1_siblingFact 9 = .ok (.aload 4, 2) := by decide +kernel
theorem dX1_siblingFact_11 : decode cX1_siblingFact 11 = .ok (.getfield 55, 3) := by decide +kernel
theorem dX1_siblingFact_14 : decode cX1_siblingFact 14 = .ok (.if_icmp .lt 5, 3) := by decide +kernel
theorem dX1_siblingFact_17 : decode cX1_siblingFact 17 = .ok (.iconst (-1), 1) := by decide +kernel
theorem dX1_siblingFact_18 : decode cX1_siblingFact 18 = .ok (.ireturn, 1) := by decide +kernel
theorem dX1_siblingFact_19 : decode cX1_siblingFact 19 = .ok (.aload 4, 2) := by decide +kernel
theorem dX1_siblingFact_21 : decode cX1_siblingFact 21 = .ok (.getfield 78, 3) := by decide +kernel
theorem dX1_siblingFact_24 : decode cX1_siblingFact 24 = .ok (.iload_n 2, 1) := by decide +kernel
theorem dX1_siblingFact_25 : decode cX1_siblingFact 25 = .ok (.iaload, 1) := by decide +kernel
theorem dX1_siblingFact_26 : decode cX1_siblingFact 26 = .ok (.istore 5, 2) := by decide +kernel
theorem dX1_siblingFact_28 : decode cX1_siblingFact 28 = .ok (.iload_n 3, 1) := by decide +kernel
theorem dX1_siblingFact_29 : decode cX1_siblingFact 29 = .ok (.tableswitch 58 0 3 #[31, 37, 43, 51], 31) := by decide +kernel
theorem dX1_siblingFact_60 : decode cX1_siblingFact 60 = .ok (.iload 5, 2) := by decide +kernel
theorem dX1_siblingFact_62 : decode cX1_siblingFact 62 = .ok (.invokestatic 81, 3) := by decide +kernel
theorem dX1_siblingFact_65 : decode cX1_siblingFact 65 = .ok (.ireturn, 1) := by decide +kernel
theorem dX1_siblingFact_66 : decode cX1_siblingFact 66 = .ok (.iload 5, 2) := by decide +kernel
theorem dX1_siblingFact_68 : decode cX1_siblingFact 68 = .ok (.invokestatic 85, 3) := by decide +kernel
theorem dX1_siblingFact_71 : decode cX1_siblingFact 71 = .ok (.ireturn, 1) := by decide +kernel
theorem dX1_siblingFact_72 : decode cX1_siblingFact 72 = .ok (.aload 4, 2) := by decide +kernel
theorem dX1_siblingFact_74 : decode cX1_siblingFact 74 = .ok (.getfield 88, 3) := by decide +kernel
theorem dX1_siblingFact_77 : decode cX1_siblingFact 77 = .ok (.iload_n 2, 1) := by decide +kernel
theorem dX1_siblingFact_78 : decode cX1_siblingFact 78 = .ok (.iaload, 1) := by decide +kernel
theorem dX1_siblingFact_79 : decode cX1_siblingFact 79 = .ok (.ireturn, 1) := by decide +kernel
theorem dX1_siblingFact_80 : decode cX1_siblingFact 80 = .ok (.aload_n 0, 1) := by decide +kernel
theorem dX1_siblingFact_81 : decode cX1_siblingFact 81 = .ok (.iload 5, 2) := by decide +kernel
theorem dX1_siblingFact_83 : decode cX1_siblingFact 83 = .ok (.invokevirtual 91, 3) := by decide +kernel
theorem dX1_siblingFact_86 : decode cX1_siblingFact 86 = .ok (.ireturn, 1) := by decide +kernel
theorem dX1_siblingFact_87 : decode cX1_siblingFact 87 = .ok (.aload_n 0, 1) := by decide +kernel
theorem dX1_siblingFact_88 : decode cX1_siblingFact 88 = .ok (.iload 5, 2) := by decide +kernel
theorem dX1_siblingFact_90 : decode cX1_siblingFact 90 = .ok (.invokevirtual 94, 3) := by decide +kernel
theorem dX1_siblingFact_93 : decode cX1_siblingFact 93 = .ok (.ireturn, 1) := by decide +kernel
theorem dX1_knowers_0 : decode cX1_knowers 0 = .ok (.iconst 0, 1) := by decide +kernel
theorem dX1_knowers_1 : decode cX1_knowers 1 = .ok (.istore_n 2, 1) := by decide +kernel
theorem dX1_knowers_2 : decode cX1_knowers 2 = .ok (.iconst 0, 1) := by decide +kernel
theorem dX1_knowers_3 : decode cX1_knowers 3 = .ok (.istore_n 3, 1) := by decide +kernel
theorem dX1_knowers_4 : decode cX1_knowers 4 = .ok (.iload_n 3, 1) := by decide +kernel
theorem dX1_knowers_5 : decode cX1_knowers 5 = .ok (.iconst 5, 1) := by decide +kernel
theorem dX1_knowers_6 : decode cX1_knowers 6 = .ok (.if_icmp .ge 28, 3) := by decide +kernel
theorem dX1_knowers_9 : decode cX1_knowers 9 = .ok (.aload_n 0, 1) := by decide +kernel
theorem dX1_knowers_10 : decode cX1_knowers 10 = .ok (.getfield 19, 3) := by decide +kernel
theorem dX1_knowers_13 : decode cX1_knowers 13 = .ok (.iload_n 3, 1) := by decide +kernel
theorem dX1_knowers_14 : decode cX1_knowers 14 = .ok (.aaload, 1) := by decide +kernel
theorem dX1_knowers_15 : decode cX1_knowers 15 = .ok (.iload_n 1, 1) := by decide +kernel
theorem dX1_knowers_16 : decode cX1_knowers 16 = .ok (.invokestatic 97, 3) := by decide +kernel
theorem dX1_knowers_19 : decode cX1_knowers 19 = .ok (.ifCond .eq 9, 3) := by decide +kernel
theorem dX1_knowers_22 : decode cX1_knowers 22 = .ok (.iload_n 2, 1) := by decide +kernel
theorem dX1_knowers_23 : decode cX1_knowers 23 = .ok (.iconst 1, 1) := by decide +kernel
theorem dX1_knowers_24 : decode cX1_knowers 24 = .ok (.iload_n 3, 1) := by decide +kernel
theorem dX1_knowers_25 : decode cX1_knowers 25 = .ok (.ishl, 1) := by decide +kernel
theorem dX1_knowers_26 : decode cX1_knowers 26 = .ok (.ior, 1) := by decide +kernel
theorem dX1_knowers_27 : decode cX1_knowers 27 = .ok (.istore_n 2, 1) := by decide +kernel
theorem dX1_knowers_28 : decode cX1_knowers 28 = .ok (.iinc 3 1, 3) := by decide +kernel
theorem dX1_knowers_31 : decode cX1_knowers 31 = .ok (.goto (-27), 3) := by decide +kernel
theorem dX1_knowers_34 : decode cX1_knowers 34 = .ok (.iload_n 2, 1) := by decide +kernel
theorem dX1_knowers_35 : decode cX1_knowers 35 = .ok (.ireturn, 1) := by decide +kernel
theorem dX1_holders_0 : decode cX1_holders 0 = .ok (.iconst 0, 1) := by decide +kernel
theorem dX1_holders_1 : decode cX1_holders 1 = .ok (.istore_n 2, 1) := by decide +kernel
theorem dX1_holders_2 : decode cX1_holders 2 = .ok (.iconst 0, 1) := by decide +kernel
theorem dX1_holders_3 : decode cX1_holders 3 = .ok (.istore_n 3, 1) := by decide +kernel
theorem dX1_holders_4 : decode cX1_holders 4 = .ok (.iload_n 3, 1) := by decide +kernel
theorem dX1_holders_5 : decode cX1_holders 5 = .ok (.iconst 3, 1) := by decide +kernel
theorem dX1_holders_6 : decode cX1_holders 6 = .ok (.if_icmp .ge 28, 3) := by decide +kernel
theorem dX1_holders_9 : decode cX1_holders 9 = .ok (.aload_n 0, 1) := by decide +kernel
theorem dX1_holders_10 : decode cX1_holders 10 = .ok (.getfield 11, 3) := by decide +kernel
theorem dX1_holders_13 : decode cX1_holders 13 = .ok (.iload_n 3, 1) := by decide +kernel
theorem dX1_holders_14 : decode cX1_holders 14 = .ok (.aaload, 1) := by decide +kernel
theorem dX1_holders_15 : decode cX1_holders 15 = .ok (.iload_n 1, 1) := by decide +kernel
theorem dX1_holders_16 : decode cX1_holders 16 = .ok (.invokevirtual 101, 3) := by decide +kernel
theorem dX1_holders_19 : decode cX1_holders 19 = .ok (.ifCond .eq 9, 3) := by decide +kernel
theorem dX1_holders_22 : decode cX1_holders 22 = .ok (.iload_n 2, 1) := by decide +kernel
theorem dX1_holders_23 : decode cX1_holders 23 = .ok (.iconst 1, 1) := by decide +kernel
theorem dX1_holders_24 : decode cX1_holders 24 = .ok (.iload_n 3, 1) := by decide +kernel
theorem dX1_holders_25 : decode cX1_holders 25 = .ok (.ishl, 1) := by decide +kernel
theorem dX1_holders_26 : decode cX1_holders 26 = .ok (.ior, 1) := by decide +kernel
theorem dX1_holders_27 : decode cX1_holders 27 = .ok (.istore_n 2, 1) := by decide +kernel
theorem dX1_holders_28 : decode cX1_holders 28 = .ok (.iinc 3 1, 3) := by decide +kernel
theorem dX1_holders_31 : decode cX1_holders 31 = .ok (.goto (-27), 3) := by decide +kernel
theorem dX1_holders_34 : decode cX1_holders 34 = .ok (.iload_n 2, 1) := by decide +kernel
theorem dX1_holders_35 : decode cX1_holders 35 = .ok (.ireturn, 1) := by decide +kernel
theorem dX1_keyFact_0 : decode cX1_keyFact 0 = .ok (.iload_n 1, 1) := by decide +kernel
theorem dX1_keyFact_1 : decode cX1_keyFact 1 = .ok (.tableswitch 77 3 7 #[35, 40, 45, 59, 72], 35) := by decide +kernel
theorem dX1_keyFact_36 : decode cX1_keyFact 36 = .ok (.aload_n 0, 1) := by decide +kernel
theorem dX1_keyFact_37 : decode cX1_keyFact 37 = .ok (.invokevirtual 104, 3) := by decide +kernel
theorem dX1_keyFact_40 : decode cX1_keyFact 40 = .ok (.ireturn, 1) := by decide +kernel
theorem dX1_keyFact_41 : decode cX1_keyFact 41 = .ok (.aload_n 0, 1) := by decide +kernel
theorem dX1_keyFact_42 : decode cX1_keyFact 42 = .ok (.invokevirtual 108, 3) := by decide +kernel
theorem dX1_keyFact_45 : decode cX1_keyFact 45 = .ok (.ireturn, 1) := by decide +kernel
theorem dX1_keyFact_46 : decode cX1_keyFact 46 = .ok (.aload_n 0, 1) := by decide +kernel
theorem dX1_keyFact_47 : decode cX1_keyFact 47 = .ok (.invokevirtual 111, 3) := by decide +kernel
theorem dX1_keyFact_50 : decode cX1_keyFact 50 = .ok (.iconst 3, 1) := by decide +kernel
theorem dX1_keyFact_51 : decode cX1_keyFact 51 = .ok (.if_icmp .ne 7, 3) := by decide +kernel
theorem dX1_keyFact_54 : decode cX1_keyFact 54 = .ok (.iconst 1, 1) := by decide +kernel
theorem dX1_keyFact_55 : decode cX1_keyFact 55 = .ok (.goto 4, 3) := by decide +kernel
theorem dX1_keyFact_58 : decode cX1_keyFact 58 = .ok (.iconst 0, 1) := by decide +kernel
theorem dX1_keyFact_59 : decode cX1_keyFact 59 = .ok (.ireturn, 1) := by decide +kernel
theorem dX1_keyFact_60 : decode cX1_keyFact 60 = .ok (.aload_n 0, 1) := by decide +kernel
theorem dX1_keyFact_61 : decode cX1_keyFact 61 = .ok (.invokevirtual 114, 3) := by decide +kernel
theorem dX1_keyFact_64 : decode cX1_keyFact 64 = .ok (.ifCond .eq 7, 3) := by decide +kernel
theorem dX1_keyFact_67 : decode cX1_keyFact 67 = .ok (.iconst 1, 1) := by decide +kernel
theorem dX1_keyFact_68 : decode cX1_keyFact 68 = .ok (.goto 4, 3) := by decide +kernel
theorem dX1_keyFact_71 : decode cX1_keyFact 71 = .ok (.iconst 0, 1) := by decide +kernel
theorem dX1_keyFact_72 : decode cX1_keyFact 72 = .ok (.ireturn, 1) := by decide +kernel
theorem dX1_keyFact_73 : decode cX1_keyFact 73 = .ok (.aload_n 0, 1) := by decide +kernel
theorem dX1_keyFact_74 : decode cX1_keyFact 74 = .ok (.invokevirtual 118, 3) := by decide +kernel
theorem dX1_keyFact_77 : decode cX1_keyFact 77 = .ok (.ireturn, 1) := by decide +kernel
theorem dX1_keyFact_78 : decode cX1_keyFact 78 = .ok (.iload_n 1, 1) := by decide +kernel
theorem dX1_keyFact_79 : decode cX1_keyFact 79 = .ok (.ifCond .lt 20, 3) := by decide +kernel
theorem dX1_keyFact_82 : decode cX1_keyFact 82 = .ok (.iload_n 1, 1) := by decide +kernel
theorem dX1_keyFact_83 : decode cX1_keyFact 83 = .ok (.iconst 3, 1) := by decide +kernel
theorem dX1_keyFact_84 : decode cX1_keyFact 84 = .ok (.if_icmp .ge 15, 3) := by decide +kernel
theorem dX1_keyFact_87 : decode cX1_keyFact 87 = .ok (.aload_n 0, 1) := by decide +kernel
theorem dX1_keyFact_88 : decode cX1_keyFact 88 = .ok (.getfield 11, 3) := by decide +kernel
theorem dX1_keyFact_91 : decode cX1_keyFact 91 = .ok (.iload_n 1, 1) := by decide +kernel
theorem dX1_keyFact_92 : decode cX1_keyFact 92 = .ok (.aaload, 1) := by decide +kernel
theorem dX1_keyFact_93 : decode cX1_keyFact 93 = .ok (.getfield 55, 3) := by decide +kernel
theorem dX1_keyFact_96 : decode cX1_keyFact 96 = .ok (.goto 4, 3) := by decide +kernel
theorem dX1_keyFact_99 : decode cX1_keyFact 99 = .ok (.iconst (-1), 1) := by decide +kernel
theorem dX1_keyFact_100 : decode cX1_keyFact 100 = .ok (.ireturn, 1) := by decide +kernel
theorem dX1_unlikeSiblings_0 : decode cX1_unlikeSiblings 0 = .ok (.iconst 0, 1) := by decide +kernel
theorem dX1_unlikeSiblings_1 : decode cX1_unlikeSiblings 1 = .ok (.istore_n 1, 1) := by decide +kernel
theorem dX1_unlikeSiblings_2 : decode cX1_unlikeSiblings 2 = .ok (.iconst 0, 1) := by decide +kernel
theorem dX1_unlikeSiblings_3 : decode cX1_unlikeSiblings 3 = .ok (.istore_n 2, 1) := by decide +kernel
theorem dX1_unlikeSiblings_4 : decode cX1_unlikeSiblings 4 = .ok (.iload_n 2, 1) := by decide +kernel
theorem dX1_unlikeSiblings_5 : decode cX1_unlikeSiblings 5 = .ok (.iconst 3, 1) := by decide +kernel
theorem dX1_unlikeSiblings_6 : decode cX1_unlikeSiblings 6 = .ok (.if_icmp .ge 61, 3) := by decide +kernel
theorem dX1_unlikeSiblings_9 : decode cX1_unlikeSiblings 9 = .ok (.iconst 0, 1) := by decide +kernel
theorem dX1_unlikeSiblings_10 : decode cX1_unlikeSiblings 10 = .ok (.istore_n 3, 1) := by decide +kernel
theorem dX1_unlikeSiblings_11 : decode cX1_unlikeSiblings 11 = .ok (.iload_n 3, 1) := by decide +kernel
theorem dX1_unlikeSiblings_12 : decode cX1_unlikeSiblings 12 = .ok (.aload_n 0, 1) := by decide +kernel
theorem dX1_unlikeSiblings_13 : decode cX1_unlikeSiblings 13 = .ok (.getfield 11, 3) := by decide +kernel
theorem dX1_unlikeSiblings_16 : decode cX1_unlikeSiblings 16 = .ok (.iload_n 2, 1) := by decide +kernel
theorem dX1_unlikeSiblings_17 : decode cX1_unlikeSiblings 17 = .ok (.aaload, 1) := by decide +kernel
theorem dX1_unlikeSiblings_18 : decode cX1_unlikeSiblings 18 = .ok (.getfield 55, 3) := by decide +kernel
theorem dX1_unlikeSiblings_21 : decode cX1_unlikeSiblings 21 = .ok (.if_icmp .ge 40, 3) := by decide +kernel
theorem dX1_unlikeSiblings_24 : decode cX1_unlikeSiblings 24 = .ok (.aload_n 0, 1) := by decide +kernel
theorem dX1_unlikeSiblings_25 : decode cX1_unlikeSiblings 25 = .ok (.aload_n 0, 1) := by decide +kernel
theorem dX1_unlikeSiblings_26 : decode cX1_unlikeSiblings 26 = .ok (.getfield 11, 3) := by decide +kernel
theorem dX1_unlikeSiblings_29 : decode cX1_unlikeSiblings 29 = .ok (.iload_n 2, 1) := by decide +kernel
theorem dX1_unlikeSiblings_30 : decode cX1_unlikeSiblings 30 = .ok (.aaload, 1) := by decide +kernel
theorem dX1_unlikeSiblings_31 : decode cX1_unlikeSiblings 31 = .ok (.getfield 78, 3) := by decide +kernel
theorem dX1_unlikeSiblings_34 : decode cX1_unlikeSiblings 34 = .ok (.iload_n 3, 1) := by decide +kernel
theorem dX1_unlikeSiblings_35 : decode cX1_unlikeSiblings 35 = .ok (.iaload, 1) := by decide +kernel
theorem dX1_unlikeSiblings_36 : decode cX1_unlikeSiblings 36 = .ok (.invokevirtual 94, 3) := by decide +kernel
theorem dX1_unlikeSiblings_39 : decode cX1_unlikeSiblings 39 = .ok (.iconst 1, 1) := by decide +kernel
theorem dX1_unlikeSiblings_40 : decode cX1_unlikeSiblings 40 = .ok (.iload_n 2, 1) := by decide +kernel
theorem dX1_unlikeSiblings_41 : decode cX1_unlikeSiblings 41 = .ok (.ishl, 1) := by decide +kernel
theorem dX1_unlikeSiblings_42 : decode cX1_unlikeSiblings 42 = .ok (.iconst 1, 1) := by decide +kernel
theorem dX1_unlikeSiblings_43 : decode cX1_unlikeSiblings 43 = .ok (.isub, 1) := by decide +kernel
theorem dX1_unlikeSiblings_44 : decode cX1_unlikeSiblings 44 = .ok (.iand, 1) := by decide +kernel
theorem dX1_unlikeSiblings_45 : decode cX1_unlikeSiblings 45 = .ok (.istore 4, 2) := by decide +kernel
theorem dX1_unlikeSiblings_47 : decode cX1_unlikeSiblings 47 = .ok (.iload 4, 2) := by decide +kernel
theorem dX1_unlikeSiblings_49 : decode cX1_unlikeSiblings 49 = .ok (.ifCond .ne 6, 3) := by decide +kernel
theorem dX1_unlikeSiblings_52 : decode cX1_unlikeSiblings 52 = .ok (.iinc 1 1, 3) := by decide +kernel
theorem dX1_unlikeSiblings_55 : decode cX1_unlikeSiblings 55 = .ok (.iinc 3 1, 3) := by decide +kernel
theorem dX1_unlikeSiblings_58 : decode cX1_unlikeSiblings 58 = .ok (.goto (-47), 3) := by decide +kernel
theorem dX1_unlikeSiblings_61 : decode cX1_unlikeSiblings 61 = .ok (.iinc 2 1, 3) := by decide +kernel
theorem dX1_unlikeSiblings_64 : decode cX1_unlikeSiblings 64 = .ok (.goto (-60), 3) := by decide +kernel
theorem dX1_unlikeSiblings_67 : decode cX1_unlikeSiblings 67 = .ok (.iload_n 1, 1) := by decide +kernel
theorem dX1_unlikeSiblings_68 : decode cX1_unlikeSiblings 68 = .ok (.ireturn, 1) := by decide +kernel
theorem dX1_writesInAll_0 : decode cX1_writesInAll 0 = .ok (.iconst 0, 1) := by decide +kernel
theorem dX1_writesInAll_1 : decode cX1_writesInAll 1 = .ok (.istore_n 1, 1) := by decide +kernel
theorem dX1_writesInAll_2 : decode cX1_writesInAll 2 = .ok (.iconst 0, 1) := by decide +kernel
theorem dX1_writesInAll_3 : decode cX1_writesInAll 3 = .ok (.istore_n 2, 1) := by decide +kernel
theorem dX1_writesInAll_4 : decode cX1_writesInAll 4 = .ok (.iload_n 2, 1) := by decide +kernel
theorem dX1_writesInAll_5 : decode cX1_writesInAll 5 = .ok (.iconst 5, 1) := by decide +kernel
theorem dX1_writesInAll_6 : decode cX1_writesInAll 6 = .ok (.if_icmp .ge 18, 3) := by decide +kernel
theorem dX1_writesInAll_9 : decode cX1_writesInAll 9 = .ok (.iload_n 1, 1) := by decide +kernel
theorem dX1_writesInAll_10 : decode cX1_writesInAll 10 = .ok (.aload_n 0, 1) := by decide +kernel
theorem dX1_writesInAll_11 : decode cX1_writesInAll 11 = .ok (.getfield 22, 3) := by decide +kernel
theorem dX1_writesInAll_14 : decode cX1_writesInAll 14 = .ok (.iload_n 2, 1) := by decide +kernel
theorem dX1_writesInAll_15 : decode cX1_writesInAll 15 = .ok (.iaload, 1) := by decide +kernel
theorem dX1_writesInAll_16 : decode cX1_writesInAll 16 = .ok (.iadd, 1) := by decide +kernel
theorem dX1_writesInAll_17 : decode cX1_writesInAll 17 = .ok (.istore_n 1, 1) := by decide +kernel
theorem dX1_writesInAll_18 : decode cX1_writesInAll 18 = .ok (.iinc 2 1, 3) := by decide +kernel
theorem dX1_writesInAll_21 : decode cX1_writesInAll 21 = .ok (.goto (-17), 3) := by decide +kernel
theorem dX1_writesInAll_24 : decode cX1_writesInAll 24 = .ok (.iload_n 1, 1) := by decide +kernel
theorem dX1_writesInAll_25 : decode cX1_writesInAll 25 = .ok (.ireturn, 1) := by decide +kernel
theorem dX1_agreeingPairs_0 : decode cX1_agreeingPairs 0 = .ok (.iconst 0, 1) := by decide +kernel
theorem dX1_agreeingPairs_1 : decode cX1_agreeingPairs 1 = .ok (.istore_n 1, 1) := by decide +kernel
theorem dX1_agreeingPairs_2 : decode cX1_agreeingPairs 2 = .ok (.iconst 0, 1) := by decide +kernel
theorem dX1_agreeingPairs_3 : decode cX1_agreeingPairs 3 = .ok (.istore_n 2, 1) := by decide +kernel
theorem dX1_agreeingPairs_4 : decode cX1_agreeingPairs 4 = .ok (.iload_n 2, 1) := by decide +kernel
theorem dX1_agreeingPairs_5 : decode cX1_agreeingPairs 5 = .ok (.iconst 3, 1) := by decide +kernel
theorem dX1_agreeingPairs_6 : decode cX1_agreeingPairs 6 = .ok (.if_icmp .ge 45, 3) := by decide +kernel
theorem dX1_agreeingPairs_9 : decode cX1_agreeingPairs 9 = .ok (.iload_n 2, 1) := by decide +kernel
theorem dX1_agreeingPairs_10 : decode cX1_agreeingPairs 10 = .ok (.iconst 1, 1) := by decide +kernel
theorem dX1_agreeingPairs_11 : decode cX1_agreeingPairs 11 = .ok (.iadd, 1) := by decide +kernel
theorem dX1_agreeingPairs_12 : decode cX1_agreeingPairs 12 = .ok (.istore_n 3, 1) := by decide +kernel
theorem dX1_agreeingPairs_13 : decode cX1_agreeingPairs 13 = .ok (.iload_n 3, 1) := by decide +kernel
theorem dX1_agreeingPairs_14 : decode cX1_agreeingPairs 14 = .ok (.iconst 3, 1) := by decide +kernel
theorem dX1_agreeingPairs_15 : decode cX1_agreeingPairs 15 = .ok (.if_icmp .ge 30, 3) := by decide +kernel
theorem dX1_agreeingPairs_18 : decode cX1_agreeingPairs 18 = .ok (.aload_n 0, 1) := by decide +kernel
theorem dX1_agreeingPairs_19 : decode cX1_agreeingPairs 19 = .ok (.getfield 11, 3) := by decide +kernel
theorem dX1_agreeingPairs_22 : decode cX1_agreeingPairs 22 = .ok (.iload_n 2, 1) := by decide +kernel
theorem dX1_agreeingPairs_23 : decode cX1_agreeingPairs 23 = .ok (.aaload, 1) := by decide +kernel
theorem dX1_agreeingPairs_24 : decode cX1_agreeingPairs 24 = .ok (.aload_n 0, 1) := by decide +kernel
theorem dX1_agreeingPairs_25 : decode cX1_agreeingPairs 25 = .ok (.getfield 11, 3) := by decide +kernel
theorem dX1_agreeingPairs_28 : decode cX1_agreeingPairs 28 = .ok (.iload_n 3, 1) := by decide +kernel
theorem dX1_agreeingPairs_29 : decode cX1_agreeingPairs 29 = .ok (.aaload, 1) := by decide +kernel
theorem dX1_agreeingPairs_30 : decode cX1_agreeingPairs 30 = .ok (.invokevirtual 121, 3) := by decide +kernel
theorem dX1_agreeingPairs_33 : decode cX1_agreeingPairs 33 = .ok (.ifCond .eq 6, 3) := by decide +kernel
theorem dX1_agreeingPairs_36 : decode cX1_agreeingPairs 36 = .ok (.iinc 1 1, 3) := by decide +kernel
theorem dX1_agreeingPairs_39 : decode cX1_agreeingPairs 39 = .ok (.iinc 3 1, 3) := by decide +kernel
theorem dX1_agreeingPairs_42 : decode cX1_agreeingPairs 42 = .ok (.goto (-29), 3) := by decide +kernel
theorem dX1_agreeingPairs_45 : decode cX1_agreeingPairs 45 = .ok (.iinc 2 1, 3) := by decide +kernel
theorem dX1_agreeingPairs_48 : decode cX1_agreeingPairs 48 = .ok (.goto (-44), 3) := by decide +kernel
theorem dX1_agreeingPairs_51 : decode cX1_agreeingPairs 51 = .ok (.iload_n 1, 1) := by decide +kernel
theorem dX1_agreeingPairs_52 : decode cX1_agreeingPairs 52 = .ok (.ireturn, 1) := by decide +kernel
theorem dX1_allSeeTheSame_0 : decode cX1_allSeeTheSame 0 = .ok (.iconst 1, 1) := by decide +kernel
theorem dX1_allSeeTheSame_1 : decode cX1_allSeeTheSame 1 = .ok (.istore_n 1, 1) := by decide +kernel
theorem dX1_allSeeTheSame_2 : decode cX1_allSeeTheSame 2 = .ok (.iload_n 1, 1) := by decide +kernel
theorem dX1_allSeeTheSame_3 : decode cX1_allSeeTheSame 3 = .ok (.iconst 3, 1) := by decide +kernel
theorem dX1_allSeeTheSame_4 : decode cX1_allSeeTheSame 4 = .ok (.if_icmp .ge 35, 3) := by decide +kernel
theorem dX1_allSeeTheSame_7 : decode cX1_allSeeTheSame 7 = .ok (.aload_n 0, 1) := by decide +kernel
theorem dX1_allSeeTheSame_8 : decode cX1_allSeeTheSame 8 = .ok (.getfield 11, 3) := by decide +kernel
theorem dX1_allSeeTheSame_11 : decode cX1_allSeeTheSame 11 = .ok (.iconst 0, 1) := by decide +kernel
theorem dX1_allSeeTheSame_12 : decode cX1_allSeeTheSame 12 = .ok (.aaload, 1) := by decide +kernel
theorem dX1_allSeeTheSame_13 : decode cX1_allSeeTheSame 13 = .ok (.getfield 37, 3) := by decide +kernel
theorem dX1_allSeeTheSame_16 : decode cX1_allSeeTheSame 16 = .ok (.aload_n 0, 1) := by decide +kernel
theorem dX1_allSeeTheSame_17 : decode cX1_allSeeTheSame 17 = .ok (.getfield 11, 3) := by decide +kernel
theorem dX1_allSeeTheSame_20 : decode cX1_allSeeTheSame 20 = .ok (.iload_n 1, 1) := by decide +kernel
theorem dX1_allSeeTheSame_21 : decode cX1_allSeeTheSame 21 = .ok (.aaload, 1) := by decide +kernel
theorem dX1_allSeeTheSame_22 : decode cX1_allSeeTheSame 22 = .ok (.getfield 37, 3) := by decide +kernel
theorem dX1_allSeeTheSame_25 : decode cX1_allSeeTheSame 25 = .ok (.invokestatic 125, 3) := by decide +kernel
theorem dX1_allSeeTheSame_28 : decode cX1_allSeeTheSame 28 = .ok (.ifCond .ne 5, 3) := by decide +kernel
theorem dX1_allSeeTheSame_31 : decode cX1_allSeeTheSame 31 = .ok (.iconst 0, 1) := by decide +kernel
theorem dX1_allSeeTheSame_32 : decode cX1_allSeeTheSame 32 = .ok (.ireturn, 1) := by decide +kernel
theorem dX1_allSeeTheSame_33 : decode cX1_allSeeTheSame 33 = .ok (.iinc 1 1, 3) := by decide +kernel
theorem dX1_allSeeTheSame_36 : decode cX1_allSeeTheSame 36 = .ok (.goto (-34), 3) := by decide +kernel
theorem dX1_allSeeTheSame_39 : decode cX1_allSeeTheSame 39 = .ok (.iconst 1, 1) := by decide +kernel
theorem dX1_allSeeTheSame_40 : decode cX1_allSeeTheSame 40 = .ok (.ireturn, 1) := by decide +kernel
theorem dX1_forgettable_0 : decode cX1_forgettable 0 = .ok (.iconst 0, 1) := by decide +kernel
theorem dX1_forgettable_1 : decode cX1_forgettable 1 = .ok (.istore_n 1, 1) := by decide +kernel
theorem dX1_forgettable_2 : decode cX1_forgettable 2 = .ok (.iconst 0, 1) := by decide +kernel
theorem dX1_forgettable_3 : decode cX1_forgettable 3 = .ok (.istore_n 2, 1) := by decide +kernel
theorem dX1_forgettable_4 : decode cX1_forgettable 4 = .ok (.iload_n 2, 1) := by decide +kernel
theorem dX1_forgettable_5 : decode cX1_forgettable 5 = .ok (.iconst 5, 1) := by decide +kernel
theorem dX1_forgettable_6 : decode cX1_forgettable 6 = .ok (.if_icmp .ge 37, 3) := by decide +kernel
theorem dX1_forgettable_9 : decode cX1_forgettable 9 = .ok (.aload_n 0, 1) := by decide +kernel
theorem dX1_forgettable_10 : decode cX1_forgettable 10 = .ok (.iload_n 2, 1) := by decide +kernel
theorem dX1_forgettable_11 : decode cX1_forgettable 11 = .ok (.invokevirtual 129, 3) := by decide +kernel
theorem dX1_forgettable_14 : decode cX1_forgettable 14 = .ok (.ifCond .ne 23, 3) := by decide +kernel
theorem dX1_forgettable_17 : decode cX1_forgettable 17 = .ok (.aload_n 0, 1) := by decide +kernel
theorem dX1_forgettable_18 : decode cX1_forgettable 18 = .ok (.getfield 11, 3) := by decide +kernel
theorem dX1_forgettable_21 : decode cX1_forgettable 21 = .ok (.iconst 0, 1) := by decide +kernel
theorem dX1_forgettable_22 : decode cX1_forgettable 22 = .ok (.aaload, 1) := by decide +kernel
theorem dX1_forgettable_23 : decode cX1_forgettable 23 = .ok (.getfield 37, 3) := by decide +kernel
theorem dX1_forgettable_26 : decode cX1_forgettable 26 = .ok (.iload_n 2, 1) := by decide +kernel
theorem dX1_forgettable_27 : decode cX1_forgettable 27 = .ok (.iaload, 1) := by decide +kernel
theorem dX1_forgettable_28 : decode cX1_forgettable 28 = .ok (.ifCond .le 9, 3) := by decide +kernel
theorem dX1_forgettable_31 : decode cX1_forgettable 31 = .ok (.iload_n 1, 1) := by decide +kernel
theorem dX1_forgettable_32 : decode cX1_forgettable 32 = .ok (.iconst 1, 1) := by decide +kernel
theorem dX1_forgettable_33 : decode cX1_forgettable 33 = .ok (.iload_n 2, 1) := by decide +kernel
theorem dX1_forgettable_34 : decode cX1_forgettable 34 = .ok (.ishl, 1) := by decide +kernel
theorem dX1_forgettable_35 : decode cX1_forgettable 35 = .ok (.ior, 1) := by decide +kernel
theorem dX1_forgettable_36 : decode cX1_forgettable 36 = .ok (.istore_n 1, 1) := by decide +kernel
theorem dX1_forgettable_37 : decode cX1_forgettable 37 = .ok (.iinc 2 1, 3) := by decide +kernel
theorem dX1_forgettable_40 : decode cX1_forgettable 40 = .ok (.goto (-36), 3) := by decide +kernel
theorem dX1_forgettable_43 : decode cX1_forgettable 43 = .ok (.iload_n 1, 1) := by decide +kernel
theorem dX1_forgettable_44 : decode cX1_forgettable 44 = .ok (.ireturn, 1) := by decide +kernel
theorem dX2_init_0 : decode cX2_init 0 = .ok (.aload_n 0, 1) := by decide +kernel
theorem dX2_init_1 : decode cX2_init 1 = .ok (.invokespecial 1, 3) := by decide +kernel
theorem dX2_init_4 : decode cX2_init 4 = .ok (.return_, 1) := by decide +kernel
theorem dX2_restart_0 : decode cX2_restart 0 = .ok (.aload_n 0, 1) := by decide +kernel
theorem dX2_restart_1 : decode cX2_restart 1 = .ok (.iconst 0, 1) := by decide +kernel
theorem dX2_restart_2 : decode cX2_restart 2 = .ok (.putfield 7, 3) := by decide +kernel
theorem dX2_restart_5 : decode cX2_restart 5 = .ok (.return_, 1) := by decide +kernel
theorem dX2_isWhole_0 : decode cX2_isWhole 0 = .ok (.aload_n 0, 1) := by decide +kernel
theorem dX2_isWhole_1 : decode cX2_isWhole 1 = .ok (.getfield 7, 3) := by decide +kernel
theorem dX2_isWhole_4 : decode cX2_isWhole 4 = .ok (.aload_n 0, 1) := by decide +kernel
theorem dX2_isWhole_5 : decode cX2_isWhole 5 = .ok (.invokevirtual 13, 3) := by decide +kernel
theorem dX2_isWhole_8 : decode cX2_isWhole 8 = .ok (.invokevirtual 17, 3) := by decide +kernel
theorem dX2_isWhole_11 : decode cX2_isWhole 11 = .ok (.if_icmp .lt 7, 3) := by decide +kernel
theorem dX2_isWhole_14 : decode cX2_isWhole 14 = .ok (.iconst 1, 1) := by decide +kernel
theorem dX2_isWhole_15 : decode cX2_isWhole 15 = .ok (.goto 4, 3) := by decide +kernel
theorem dX2_isWhole_18 : decode cX2_isWhole 18 = .ok (.iconst 0, 1) := by decide +kernel
theorem dX2_isWhole_19 : decode cX2_isWhole 19 = .ok (.ireturn, 1) := by decide +kernel
theorem dX2_takes_0 : decode cX2_takes 0 = .ok (.aload_n 0, 1) := by decide +kernel
theorem dX2_takes_1 : decode cX2_takes 1 = .ok (.getfield 7, 3) := by decide +kernel
theorem dX2_takes_4 : decode cX2_takes 4 = .ok (.ifCond .ne 9, 3) := by decide +kernel
theorem dX2_takes_7 : decode cX2_takes 7 = .ok (.aload_n 0, 1) := by decide +kernel
theorem dX2_takes_8 : decode cX2_takes 8 = .ok (.iload_n 1, 1) := by decide +kernel
theorem dX2_takes_9 : decode cX2_takes 9 = .ok (.invokevirtual 23, 3) := by decide +kernel
theorem dX2_takes_12 : decode cX2_takes 12 = .ok (.ireturn, 1) := by decide +kernel
theorem dX2_takes_13 : decode cX2_takes 13 = .ok (.aload_n 0, 1) := by decide +kernel
theorem dX2_takes_14 : decode cX2_takes 14 = .ok (.invokevirtual 27, 3) := by decide +kernel
theorem dX2_takes_17 : decode cX2_takes 17 = .ok (.ifCond .eq 9, 3) := by decide +kernel
theorem dX2_takes_20 : decode cX2_takes 20 = .ok (.aload_n 0, 1) := by decide +kernel
theorem dX2_takes_21 : decode cX2_takes 21 = .ok (.iload_n 1, 1) := by decide +kernel
theorem dX2_takes_22 : decode cX2_takes 22 = .ok (.invokevirtual 31, 3) := by decide +kernel
theorem dX2_takes_25 : decode cX2_takes 25 = .ok (.ireturn, 1) := by decide +kernel
theorem dX2_takes_26 : decode cX2_takes 26 = .ok (.aload_n 0, 1) := by decide +kernel
theorem dX2_takes_27 : decode cX2_takes 27 = .ok (.invokevirtual 13, 3) := by decide +kernel
theorem dX2_takes_30 : decode cX2_takes 30 = .ok (.aload_n 0, 1) := by decide +kernel
theorem dX2_takes_31 : decode cX2_takes 31 = .ok (.getfield 7, 3) := by decide +kernel
theorem dX2_takes_34 : decode cX2_takes 34 = .ok (.invokevirtual 34, 3) := by decide +kernel
theorem dX2_takes_37 : decode cX2_takes 37 = .ok (.istore_n 2, 1) := by decide +kernel
theorem dX2_takes_38 : decode cX2_takes 38 = .ok (.iload_n 2, 1) := by decide +kernel
theorem dX2_takes_39 : decode cX2_takes 39 = .ok (.bipush 48, 2) := by decide +kernel
theorem dX2_takes_41 : decode cX2_takes 41 = .ok (.if_icmp .lt 16, 3) := by decide +kernel
theorem dX2_takes_44 : decode cX2_takes 44 = .ok (.iload_n 2, 1) := by decide +kernel
theorem dX2_takes_45 : decode cX2_takes 45 = .ok (.bipush 57, 2) := by decide +kernel
theorem dX2_takes_47 : decode cX2_takes 47 = .ok (.if_icmp .gt 10, 3) := by decide +kernel
theorem dX2_takes_50 : decode cX2_takes 50 = .ok (.aload_n 0, 1) := by decide +kernel
theorem dX2_takes_51 : decode cX2_takes 51 = .ok (.iload_n 1, 1) := by decide +kernel
theorem dX2_takes_52 : decode cX2_takes 52 = .ok (.iload_n 2, 1) := by decide +kernel
theorem dX2_takes_53 : decode cX2_takes 53 = .ok (.invokevirtual 38, 3) := by decide +kernel
theorem dX2_takes_56 : decode cX2_takes 56 = .ok (.ireturn, 1) := by decide +kernel
theorem dX2_takes_57 : decode cX2_takes 57 = .ok (.iload_n 1, 1) := by decide +kernel
theorem dX2_takes_58 : decode cX2_takes 58 = .ok (.iload_n 2, 1) := by decide +kernel
theorem dX2_takes_59 : decode cX2_takes 59 = .ok (.if_icmp .eq 5, 3) := by decide +kernel
theorem dX2_takes_62 : decode cX2_takes 62 = .ok (.iconst 0, 1) := by decide +kernel
theorem dX2_takes_63 : decode cX2_takes 63 = .ok (.ireturn, 1) := by decide +kernel
theorem dX2_takes_64 : decode cX2_takes 64 = .ok (.aload_n 0, 1) := by decide +kernel
theorem dX2_takes_65 : decode cX2_takes 65 = .ok (.dup, 1) := by decide +kernel
theorem dX2_takes_66 : decode cX2_takes 66 = .ok (.getfield 7, 3) := by decide +kernel
theorem dX2_takes_69 : decode cX2_takes 69 = .ok (.iconst 1, 1) := by decide +kernel
theorem dX2_takes_70 : decode cX2_takes 70 = .ok (.iadd, 1) := by decide +kernel
theorem dX2_takes_71 : decode cX2_takes 71 = .ok (.putfield 7, 3) := by decide +kernel
theorem dX2_takes_74 : decode cX2_takes 74 = .ok (.iconst 1, 1) := by decide +kernel
theorem dX2_takes_75 : decode cX2_takes 75 = .ok (.ireturn, 1) := by decide +kernel
theorem dX2_shape_0 : decode cX2_shape 0 = .ok (.aload_n 0, 1) := by decide +kernel
theorem dX2_shape_1 : decode cX2_shape 1 = .ok (.getfield 42, 3) := by decide +kernel
theorem dX2_shape_4 : decode cX2_shape 4 = .ok (.ifCond .eq 8, 3) := by decide +kernel
theorem dX2_shape_7 : decode cX2_shape 7 = .ok (.ldc 46, 2) := by decide +kernel
theorem dX2_shape_9 : decode cX2_shape 9 = .ok (.goto 5, 3) := by decide +kernel
theorem dX2_shape_12 : decode cX2_shape 12 = .ok (.ldc 48, 2) := by decide +kernel
theorem dX2_shape_14 : decode cX2_shape 14 = .ok (.areturn, 1) := by decide +kernel
theorem dX2_takesKind_0 : decode cX2_takesKind 0 = .ok (.iload_n 1, 1) := by decide +kernel
theorem dX2_takesKind_1 : decode cX2_takesKind 1 = .ok (.bipush 114, 2) := by decide +kernel
theorem dX2_takesKind_3 : decode cX2_takesKind 3 = .ok (.if_icmp .eq 11, 3) := by decide +kernel
theorem dX2_takesKind_6 : decode cX2_takesKind 6 = .ok (.iload_n 1, 1) := by decide +kernel
theorem dX2_takesKind_7 : decode cX2_takesKind 7 = .ok (.bipush 119, 2) := by decide +kernel
theorem dX2_takesKind_9 : decode cX2_takesKind 9 = .ok (.if_icmp .eq 5, 3) := by decide +kernel
theorem dX2_takesKind_12 : decode cX2_takesKind 12 = .ok (.iconst 0, 1) := by decide +kernel
theorem dX2_takesKind_13 : decode cX2_takesKind 13 = .ok (.ireturn, 1) := by decide +kernel
theorem dX2_takesKind_14 : decode cX2_takesKind 14 = .ok (.aload_n 0, 1) := by decide +kernel
theorem dX2_takesKind_15 : decode cX2_takesKind 15 = .ok (.iload_n 1, 1) := by decide +kernel
theorem dX2_takesKind_16 : decode cX2_takesKind 16 = .ok (.bipush 119, 2) := by decide +kernel
theorem dX2_takesKind_18 : decode cX2_takesKind 18 = .ok (.if_icmp .ne 7, 3) := by decide +kernel
theorem dX2_takesKind_21 : decode cX2_takesKind 21 = .ok (.iconst 1, 1) := by decide +kernel
theorem dX2_takesKind_22 : decode cX2_takesKind 22 = .ok (.goto 4, 3) := by decide +kernel
theorem dX2_takesKind_25 : decode cX2_takesKind 25 = .ok (.iconst 0, 1) := by decide +kernel
theorem dX2_takesKind_26 : decode cX2_takesKind 26 = .ok (.putfield 42, 3) := by decide +kernel
theorem dX2_takesKind_29 : decode cX2_takesKind 29 = .ok (.aload_n 0, 1) := by decide +kernel
theorem dX2_takesKind_30 : decode cX2_takesKind 30 = .ok (.iconst 1, 1) := by decide +kernel
theorem dX2_takesKind_31 : decode cX2_takesKind 31 = .ok (.putfield 7, 3) := by decide +kernel
theorem dX2_takesKind_34 : decode cX2_takesKind 34 = .ok (.iconst 1, 1) := by decide +kernel
theorem dX2_takesKind_35 : decode cX2_takesKind 35 = .ok (.ireturn, 1) := by decide +kernel
theorem dX2_takesDigit_0 : decode cX2_takesDigit 0 = .ok (.iload_n 1, 1) := by decide +kernel
theorem dX2_takesDigit_1 : decode cX2_takesDigit 1 = .ok (.bipush 48, 2) := by decide +kernel
theorem dX2_takesDigit_3 : decode cX2_takesDigit 3 = .ok (.if_icmp .lt 8, 3) := by decide +kernel
theorem dX2_takesDigit_6 : decode cX2_takesDigit 6 = .ok (.iload_n 1, 1) := by decide +kernel
theorem dX2_takesDigit_7 : decode cX2_takesDigit 7 = .ok (.iload_n 2, 1) := by decide +kernel
theorem dX2_takesDigit_8 : decode cX2_takesDigit 8 = .ok (.if_icmp .le 5, 3) := by decide +kernel
theorem dX2_takesDigit_11 : decode cX2_takesDigit 11 = .ok (.iconst 0, 1) := by decide +kernel
theorem dX2_takesDigit_12 : decode cX2_takesDigit 12 = .ok (.ireturn, 1) := by decide +kernel
theorem dX2_takesDigit_13 : decode cX2_takesDigit 13 = .ok (.iload_n 1, 1) := by decide +kernel
theorem dX2_takesDigit_14 : decode cX2_takesDigit 14 = .ok (.bipush 48, 2) := by decide +kernel
theorem dX2_takesDigit_16 : decode cX2_takesDigit 16 = .ok (.isub, 1) := by decide +kernel
theorem dX2_takesDigit_17 : decode cX2_takesDigit 17 = .ok (.istore_n 3, 1) := by decide +kernel
theorem dX2_takesDigit_18 : decode cX2_takesDigit 18 = .ok (.aload_n 0, 1) := by decide +kernel
theorem dX2_takesDigit_19 : decode cX2_takesDigit 19 = .ok (.getfield 7, 3) := by decide +kernel
theorem dX2_takesDigit_22 : decode cX2_takesDigit 22 = .ok (.tableswitch 58 1 5 #[34, 58, 42, 58, 50], 34) := by decide +kernel
theorem dX2_takesDigit_56 : decode cX2_takesDigit 56 = .ok (.aload_n 0, 1) := by decide +kernel
theorem dX2_takesDigit_57 : decode cX2_takesDigit 57 = .ok (.iload_n 3, 1) := by decide +kernel
theorem dX2_takesDigit_58 : decode cX2_takesDigit 58 = .ok (.putfield 50, 3) := by decide +kernel
theorem dX2_takesDigit_61 : decode cX2_takesDigit 61 = .ok (.goto 24, 3) := by decide +kernel
theorem dX2_takesDigit_64 : decode cX2_takesDigit 64 = .ok (.aload_n 0, 1) := by decide +kernel
theorem dX2_takesDigit_65 : decode cX2_takesDigit 65 = .ok (.iload_n 3, 1) := by decide +kernel
theorem dX2_takesDigit_66 : decode cX2_takesDigit 66 = .ok (.putfield 53, 3) := by decide +kernel
theorem dX2_takesDigit_69 : decode cX2_takesDigit 69 = .ok (.goto 16, 3) := by decide +kernel
theorem dX2_takesDigit_72 : decode cX2_takesDigit 72 = .ok (.aload_n 0, 1) := by decide +kernel
theorem dX2_takesDigit_73 : decode cX2_takesDigit 73 = .ok (.iload_n 3, 1) := by decide +kernel
theorem dX2_takesDigit_74 : decode cX2_takesDigit 74 = .ok (.putfield 56, 3) := by decide +kernel
theorem dX2_takesDigit_77 : decode cX2_takesDigit 77 = .ok (.goto 8, 3) := by decide +kernel
theorem dX2_takesDigit_80 : decode cX2_takesDigit 80 = .ok (.aload_n 0, 1) := by decide +kernel
theorem dX2_takesDigit_81 : decode cX2_takesDigit 81 = .ok (.iload_n 3, 1) := by decide +kernel
theorem dX2_takesDigit_82 : decode cX2_takesDigit 82 = .ok (.putfield 59, 3) := by decide +kernel
theorem dX2_takesDigit_85 : decode cX2_takesDigit 85 = .ok (.aload_n 0, 1) := by decide +kernel
theorem dX2_takesDigit_86 : decode cX2_takesDigit 86 = .ok (.dup, 1) := by decide +kernel
theorem dX2_takesDigit_87 : decode cX2_takesDigit 87 = .ok (.getfield 7, 3) := by decide +kernel
theorem dX2_takesDigit_90 : decode cX2_takesDigit 90 = .ok (.iconst 1, 1) := by decide +kernel
theorem dX2_takesDigit_91 : decode cX2_takesDigit 91 = .ok (.iadd, 1) := by decide +kernel
theorem dX2_takesDigit_92 : decode cX2_takesDigit 92 = .ok (.putfield 7, 3) := by decide +kernel
theorem dX2_takesDigit_95 : decode cX2_takesDigit 95 = .ok (.iconst 1, 1) := by decide +kernel
theorem dX2_takesDigit_96 : decode cX2_takesDigit 96 = .ok (.ireturn, 1) := by decide +kernel
theorem dX2_takesEnd_0 : decode cX2_takesEnd 0 = .ok (.iload_n 1, 1) := by decide +kernel
theorem dX2_takesEnd_1 : decode cX2_takesEnd 1 = .ok (.bipush 59, 2) := by decide +kernel
theorem dX2_takesEnd_3 : decode cX2_takesEnd 3 = .ok (.if_icmp .ne 9, 3) := by decide +kernel
theorem dX2_takesEnd_6 : decode cX2_takesEnd 6 = .ok (.aload_n 0, 1) := by decide +kernel
theorem dX2_takesEnd_7 : decode cX2_takesEnd 7 = .ok (.invokevirtual 62, 3) := by decide +kernel
theorem dX2_takesEnd_10 : decode cX2_takesEnd 10 = .ok (.iconst 1, 1) := by decide +kernel
theorem dX2_takesEnd_11 : decode cX2_takesEnd 11 = .ok (.ireturn, 1) := by decide +kernel
theorem dX2_takesEnd_12 : decode cX2_takesEnd 12 = .ok (.aload_n 0, 1) := by decide +kernel
theorem dX2_takesEnd_13 : decode cX2_takesEnd 13 = .ok (.getfield 42, 3) := by decide +kernel
theorem dX2_takesEnd_16 : decode cX2_takesEnd 16 = .ok (.ifCond .eq 26, 3) := by decide +kernel
theorem dX2_takesEnd_19 : decode cX2_takesEnd 19 = .ok (.aload_n 0, 1) := by decide +kernel
theorem dX2_takesEnd_20 : decode cX2_takesEnd 20 = .ok (.getfield 7, 3) := by decide +kernel
theorem dX2_takesEnd_23 : decode cX2_takesEnd 23 = .ok (.ldc 46, 2) := by decide +kernel
theorem dX2_takesEnd_25 : decode cX2_takesEnd 25 = .ok (.invokevirtual 17, 3) := by decide +kernel
theorem dX2_takesEnd_28 : decode cX2_takesEnd 28 = .ok (.if_icmp .ne 14, 3) := by decide +kernel
theorem dX2_takesEnd_31 : decode cX2_takesEnd 31 = .ok (.aload_n 0, 1) := by decide +kernel
theorem dX2_takesEnd_32 : decode cX2_takesEnd 32 = .ok (.getfield 59, 3) := by decide +kernel
theorem dX2_takesEnd_35 : decode cX2_takesEnd 35 = .ok (.ifCond .le 7, 3) := by decide +kernel
theorem dX2_takesEnd_38 : decode cX2_takesEnd 38 = .ok (.iconst 1, 1) := by decide +kernel
theorem dX2_takesEnd_39 : decode cX2_takesEnd 39 = .ok (.goto 4, 3) := by decide +kernel
theorem dX2_takesEnd_42 : decode cX2_takesEnd 42 = .ok (.iconst 0, 1) := by decide +kernel
theorem dX2_takesEnd_43 : decode cX2_takesEnd 43 = .ok (.istore_n 2, 1) := by decide +kernel
theorem dX2_takesEnd_44 : decode cX2_takesEnd 44 = .ok (.iload_n 2, 1) := by decide +kernel
theorem dX2_takesEnd_45 : decode cX2_takesEnd 45 = .ok (.ifCond .eq 15, 3) := by decide +kernel
theorem dX2_takesEnd_48 : decode cX2_takesEnd 48 = .ok (.iload_n 1, 1) := by decide +kernel
theorem dX2_takesEnd_49 : decode cX2_takesEnd 49 = .ok (.bipush 48, 2) := by decide +kernel
theorem dX2_takesEnd_51 : decode cX2_takesEnd 51 = .ok (.if_icmp .lt 9, 3) := by decide +kernel
theorem dX2_takesEnd_54 : decode cX2_takesEnd 54 = .ok (.iload_n 1, 1) := by decide +kernel
theorem dX2_takesEnd_55 : decode cX2_takesEnd 55 = .ok (.bipush 57, 2) := by decide +kernel
theorem dX2_takesEnd_57 : decode cX2_takesEnd 57 = .ok (.if_icmp .le 5, 3) := by decide +kernel
theorem dX2_takesEnd_60 : decode cX2_takesEnd 60 = .ok (.iconst 0, 1) := by decide +kernel
theorem dX2_takesEnd_61 : decode cX2_takesEnd 61 = .ok (.ireturn, 1) := by decide +kernel
theorem dX2_takesEnd_62 : decode cX2_takesEnd 62 = .ok (.aload_n 0, 1) := by decide +kernel
theorem dX2_takesEnd_63 : decode cX2_takesEnd 63 = .ok (.bipush 10, 2) := by decide +kernel
theorem dX2_takesEnd_65 : decode cX2_takesEnd 65 = .ok (.aload_n 0, 1) := by decide +kernel
theorem dX2_takesEnd_66 : decode cX2_takesEnd 66 = .ok (.getfield 59, 3) := by decide +kernel
theorem dX2_takesEnd_69 : decode cX2_takesEnd 69 = .ok (.imul, 1) := by decide +kernel
theorem dX2_takesEnd_70 : decode cX2_takesEnd 70 = .ok (.iload_n 1, 1) := by decide +kernel
theorem dX2_takesEnd_71 : decode cX2_takesEnd 71 = .ok (.iadd, 1) := by decide +kernel
theorem dX2_takesEnd_72 : decode cX2_takesEnd 72 = .ok (.bipush 48, 2) := by decide +kernel
theorem dX2_takesEnd_74 : decode cX2_takesEnd 74 = .ok (.isub, 1) := by decide +kernel
theorem dX2_takesEnd_75 : decode cX2_takesEnd 75 = .ok (.putfield 59, 3) := by decide +kernel
theorem dX2_takesEnd_78 : decode cX2_takesEnd 78 = .ok (.aload_n 0, 1) := by decide +kernel
theorem dX2_takesEnd_79 : decode cX2_takesEnd 79 = .ok (.dup, 1) := by decide +kernel
theorem dX2_takesEnd_80 : decode cX2_takesEnd 80 = .ok (.getfield 7, 3) := by decide +kernel
theorem dX2_takesEnd_83 : decode cX2_takesEnd 83 = .ok (.iconst 1, 1) := by decide +kernel
theorem dX2_takesEnd_84 : decode cX2_takesEnd 84 = .ok (.iadd, 1) := by decide +kernel
theorem dX2_takesEnd_85 : decode cX2_takesEnd 85 = .ok (.putfield 7, 3) := by decide +kernel
theorem dX2_takesEnd_88 : decode cX2_takesEnd 88 = .ok (.iconst 1, 1) := by decide +kernel
theorem dX2_takesEnd_89 : decode cX2_takesEnd 89 = .ok (.ireturn, 1) := by decide +kernel
theorem dX3_init_0 : decode cX3_init 0 = .ok (.aload_n 0, 1) := by decide +kernel
theorem dX3_init_1 : decode cX3_init 1 = .ok (.invokespecial 3, 3) := by decide +kernel
theorem dX3_init_4 : decode cX3_init 4 = .ok (.aload_n 0, 1) := by decide +kernel
theorem dX3_init_5 : decode cX3_init 5 = .ok (.iconst 3, 1) := by decide +kernel
theorem dX3_init_6 : decode cX3_init 6 = .ok (.anewarray 9, 3) := by decide +kernel
theorem dX3_init_9 : decode cX3_init 9 = .ok (.putfield 11, 3) := by decide +kernel
theorem dX3_init_12 : decode cX3_init 12 = .ok (.iconst 0, 1) := by decide +kernel
theorem dX3_init_13 : decode cX3_init 13 = .ok (.istore_n 1, 1) := by decide +kernel
theorem dX3_init_14 : decode cX3_init 14 = .ok (.iload_n 1, 1) := by decide +kernel
theorem dX3_init_15 : decode cX3_init 15 = .ok (.iconst 3, 1) := by decide +kernel
theorem dX3_init_16 : decode cX3_init 16 = .ok (.if_icmp .ge 22, 3) := by decide +kernel
theorem dX3_init_19 : decode cX3_init 19 = .ok (.aload_n 0, 1) := by decide +kernel
theorem dX3_init_20 : decode cX3_init 20 = .ok (.getfield 11, 3) := by decide +kernel
theorem dX3_init_23 : decode cX3_init 23 = .ok (.iload_n 1, 1) := by decide +kernel
theorem dX3_init_24 : decode cX3_init 24 = .ok (.new 9, 3) := by decide +kernel
theorem dX3_init_27 : decode cX3_init 27 = .ok (.dup, 1) := by decide +kernel
theorem dX3_init_28 : decode cX3_init 28 = .ok (.invokespecial 17, 3) := by decide +kernel
theorem dX3_init_31 : decode cX3_init 31 = .ok (.aastore, 1) := by decide +kernel
theorem dX3_init_32 : decode cX3_init 32 = .ok (.iinc 1 1, 3) := by decide +kernel
theorem dX3_init_35 : decode cX3_init 35 = .ok (.goto (-21), 3) := by decide +kernel
theorem dX3_init_38 : decode cX3_init 38 = .ok (.return_, 1) := by decide +kernel
theorem dX3_become_0 : decode cX3_become 0 = .ok (.iconst 0, 1) := by decide +kernel
theorem dX3_become_1 : decode cX3_become 1 = .ok (.istore_n 2, 1) := by decide +kernel
theorem dX3_become_2 : decode cX3_become 2 = .ok (.iload_n 2, 1) := by decide +kernel
theorem dX3_become_3 : decode cX3_become 3 = .ok (.iconst 3, 1) := by decide +kernel
theorem dX3_become_4 : decode cX3_become 4 = .ok (.if_icmp .ge 24, 3) := by decide +kernel
theorem dX3_become_7 : decode cX3_become 7 = .ok (.aload_n 0, 1) := by decide +kernel
theorem dX3_become_8 : decode cX3_become 8 = .ok (.getfield 11, 3) := by decide +kernel
theorem dX3_become_11 : decode cX3_become 11 = .ok (.iload_n 2, 1) := by decide +kernel
theorem dX3_become_12 : decode cX3_become 12 = .ok (.aaload, 1) := by decide +kernel
theorem dX3_become_13 : decode cX3_become 13 = .ok (.aload_n 1, 1) := by decide +kernel
theorem dX3_become_14 : decode cX3_become 14 = .ok (.getfield 11, 3) := by decide +kernel
theorem dX3_become_17 : decode cX3_become 17 = .ok (.iload_n 2, 1) := by decide +kernel
theorem dX3_become_18 : decode cX3_become 18 = .ok (.aaload, 1) := by decide +kernel
theorem dX3_become_19 : decode cX3_become 19 = .ok (.invokevirtual 18, 3) := by decide +kernel
theorem dX3_become_22 : decode cX3_become 22 = .ok (.iinc 2 1, 3) := by decide +kernel
theorem dX3_become_25 : decode cX3_become 25 = .ok (.goto (-23), 3) := by decide +kernel
theorem dX3_become_28 : decode cX3_become 28 = .ok (.aload_n 0, 1) := by decide +kernel
theorem dX3_become_29 : decode cX3_become 29 = .ok (.aload_n 1, 1) := by decide +kernel
theorem dX3_become_30 : decode cX3_become 30 = .ok (.getfield 22, 3) := by decide +kernel
theorem dX3_become_33 : decode cX3_become 33 = .ok (.putfield 22, 3) := by decide +kernel
theorem dX3_become_36 : decode cX3_become 36 = .ok (.aload_n 0, 1) := by decide +kernel
theorem dX3_become_37 : decode cX3_become 37 = .ok (.aload_n 1, 1) := by decide +kernel
theorem dX3_become_38 : decode cX3_become 38 = .ok (.getfield 26, 3) := by decide +kernel
theorem dX3_become_41 : decode cX3_become 41 = .ok (.putfield 26, 3) := by decide +kernel
theorem dX3_become_44 : decode cX3_become 44 = .ok (.aload_n 0, 1) := by decide +kernel
theorem dX3_become_45 : decode cX3_become 45 = .ok (.aload_n 1, 1) := by decide +kernel
theorem dX3_become_46 : decode cX3_become 46 = .ok (.getfield 29, 3) := by decide +kernel
theorem dX3_become_49 : decode cX3_become 49 = .ok (.putfield 29, 3) := by decide +kernel
theorem dX3_become_52 : decode cX3_become 52 = .ok (.aload_n 0, 1) := by decide +kernel
theorem dX3_become_53 : decode cX3_become 53 = .ok (.aload_n 1, 1) := by decide +kernel
theorem dX3_become_54 : decode cX3_become 54 = .ok (.getfield 32, 3) := by decide +kernel
theorem dX3_become_57 : decode cX3_become 57 = .ok (.putfield 32, 3) := by decide +kernel
theorem dX3_become_60 : decode cX3_become 60 = .ok (.aload_n 0, 1) := by decide +kernel
theorem dX3_become_61 : decode cX3_become 61 = .ok (.aload_n 1, 1) := by decide +kernel
theorem dX3_become_62 : decode cX3_become 62 = .ok (.getfield 35, 3) := by decide +kernel
theorem dX3_become_65 : decode cX3_become 65 = .ok (.putfield 35, 3) := by decide +kernel
theorem dX3_become_68 : decode cX3_become 68 = .ok (.return_, 1) := by decide +kernel
theorem dX3_replace_0 : decode cX3_replace 0 = .ok (.aload_n 0, 1) := by decide +kernel
theorem dX3_replace_1 : decode cX3_replace 1 = .ok (.getfield 11, 3) := by decide +kernel
theorem dX3_replace_4 : decode cX3_replace 4 = .ok (.iload_n 2, 1) := by decide +kernel
theorem dX3_replace_5 : decode cX3_replace 5 = .ok (.aaload, 1) := by decide +kernel
theorem dX3_replace_6 : decode cX3_replace 6 = .ok (.iload_n 1, 1) := by decide +kernel
theorem dX3_replace_7 : decode cX3_replace 7 = .ok (.iload_n 3, 1) := by decide +kernel
theorem dX3_replace_8 : decode cX3_replace 8 = .ok (.iconst 0, 1) := by decide +kernel
theorem dX3_replace_9 : decode cX3_replace 9 = .ok (.invokevirtual 38, 3) := by decide +kernel
theorem dX3_replace_12 : decode cX3_replace 12 = .ok (.istore 5, 2) := by decide +kernel
theorem dX3_replace_14 : decode cX3_replace 14 = .ok (.aload_n 0, 1) := by decide +kernel
theorem dX3_replace_15 : decode cX3_replace 15 = .ok (.getfield 11, 3) := by decide +kernel
theorem dX3_replace_18 : decode cX3_replace 18 = .ok (.iload_n 2, 1) := by decide +kernel
theorem dX3_replace_19 : decode cX3_replace 19 = .ok (.aaload, 1) := by decide +kernel
theorem dX3_replace_20 : decode cX3_replace 20 = .ok (.iload_n 1, 1) := by decide +kernel
theorem dX3_replace_21 : decode cX3_replace 21 = .ok (.iload_n 3, 1) := by decide +kernel
theorem dX3_replace_22 : decode cX3_replace 22 = .ok (.iload 4, 2) := by decide +kernel
theorem dX3_replace_24 : decode cX3_replace 24 = .ok (.invokevirtual 42, 3) := by decide +kernel
theorem dX3_replace_27 : decode cX3_replace 27 = .ok (.aload_n 0, 1) := by decide +kernel
theorem dX3_replace_28 : decode cX3_replace 28 = .ok (.dup, 1) := by decide +kernel
theorem dX3_replace_29 : decode cX3_replace 29 = .ok (.getfield 22, 3) := by decide +kernel
theorem dX3_replace_32 : decode cX3_replace 32 = .ok (.iconst 1, 1) := by decide +kernel
theorem dX3_replace_33 : decode cX3_replace 33 = .ok (.iadd, 1) := by decide +kernel
theorem dX3_replace_34 : decode cX3_replace 34 = .ok (.putfield 22, 3) := by decide +kernel
theorem dX3_replace_37 : decode cX3_replace 37 = .ok (.aload_n 0, 1) := by decide +kernel
theorem dX3_replace_38 : decode cX3_replace 38 = .ok (.dup, 1) := by decide +kernel
theorem dX3_replace_39 : decode cX3_replace 39 = .ok (.getfield 26, 3) := by decide +kernel
theorem dX3_replace_42 : decode cX3_replace 42 = .ok (.iload 5, 2) := by decide +kernel
theorem dX3_replace_44 : decode cX3_replace 44 = .ok (.iadd, 1) := by decide +kernel
theorem dX3_replace_45 : decode cX3_replace 45 = .ok (.putfield 26, 3) := by decide +kernel
theorem dX3_replace_48 : decode cX3_replace 48 = .ok (.iload 5, 2) := by decide +kernel
theorem dX3_replace_50 : decode cX3_replace 50 = .ok (.ireturn, 1) := by decide +kernel
theorem dX3_bring_0 : decode cX3_bring 0 = .ok (.aload_n 0, 1) := by decide +kernel
theorem dX3_bring_1 : decode cX3_bring 1 = .ok (.getfield 11, 3) := by decide +kernel
theorem dX3_bring_4 : decode cX3_bring 4 = .ok (.iload_n 3, 1) := by decide +kernel
theorem dX3_bring_5 : decode cX3_bring 5 = .ok (.aaload, 1) := by decide +kernel
theorem dX3_bring_6 : decode cX3_bring 6 = .ok (.iload_n 1, 1) := by decide +kernel
theorem dX3_bring_7 : decode cX3_bring 7 = .ok (.iload_n 2, 1) := by decide +kernel
theorem dX3_bring_8 : decode cX3_bring 8 = .ok (.iconst 0, 1) := by decide +kernel
theorem dX3_bring_9 : decode cX3_bring 9 = .ok (.invokevirtual 46, 3) := by decide +kernel
theorem dX3_bring_12 : decode cX3_bring 12 = .ok (.istore 4, 2) := by decide +kernel
theorem dX3_bring_14 : decode cX3_bring 14 = .ok (.aload_n 0, 1) := by decide +kernel
theorem dX3_bring_15 : decode cX3_bring 15 = .ok (.getfield 11, 3) := by decide +kernel
theorem dX3_bring_18 : decode cX3_bring 18 = .ok (.iload_n 3, 1) := by decide +kernel
theorem dX3_bring_19 : decode cX3_bring 19 = .ok (.aaload, 1) := by decide +kernel
theorem dX3_bring_20 : decode cX3_bring 20 = .ok (.getfield 49, 3) := by decide +kernel
theorem dX3_bring_23 : decode cX3_bring 23 = .ok (.iload_n 1, 1) := by decide +kernel
theorem dX3_bring_24 : decode cX3_bring 24 = .ok (.aaload, 1) := by decide +kernel
theorem dX3_bring_25 : decode cX3_bring 25 = .ok (.aload_n 0, 1) := by decide +kernel
theorem dX3_bring_26 : decode cX3_bring 26 = .ok (.getfield 11, 3) := by decide +kernel
theorem dX3_bring_29 : decode cX3_bring 29 = .ok (.iload_n 3, 1) := by decide +kernel
theorem dX3_bring_30 : decode cX3_bring 30 = .ok (.aaload, 1) := by decide +kernel
theorem dX3_bring_31 : decode cX3_bring 31 = .ok (.getfield 49, 3) := by decide +kernel
theorem dX3_bring_34 : decode cX3_bring 34 = .ok (.iload_n 2, 1) := by decide +kernel
theorem dX3_bring_35 : decode cX3_bring 35 = .ok (.aaload, 1) := by decide +kernel
theorem dX3_bring_36 : decode cX3_bring 36 = .ok (.invokevirtual 53, 3) := by decide +kernel
theorem dX3_bring_39 : decode cX3_bring 39 = .ok (.aload_n 0, 1) := by decide +kernel
theorem dX3_bring_40 : decode cX3_bring 40 = .ok (.dup, 1) := by decide +kernel
theorem dX3_bring_41 : decode cX3_bring 41 = .ok (.getfield 29, 3) := by decide +kernel
theorem dX3_bring_44 : decode cX3_bring 44 = .ok (.iload 4, 2) := by decide +kernel
theorem dX3_bring_46 : decode cX3_bring 46 = .ok (.iadd, 1) := by decide +kernel
theorem dX3_bring_47 : decode cX3_bring 47 = .ok (.putfield 29, 3) := by decide +kernel
theorem dX3_bring_50 : decode cX3_bring 50 = .ok (.iload 4, 2) := by decide +kernel
theorem dX3_bring_52 : decode cX3_bring 52 = .ok (.ireturn, 1) := by decide +kernel
theorem dX3_bringAll_0 : decode cX3_bringAll 0 = .ok (.iconst 0, 1) := by decide +kernel
theorem dX3_bringAll_1 : decode cX3_bringAll 1 = .ok (.istore_n 1, 1) := by decide +kernel
theorem dX3_bringAll_2 : decode cX3_bringAll 2 = .ok (.iload_n 1, 1) := by decide +kernel
theorem dX3_bringAll_3 : decode cX3_bringAll 3 = .ok (.iconst 3, 1) := by decide +kernel
theorem dX3_bringAll_4 : decode cX3_bringAll 4 = .ok (.if_icmp .ge 69, 3) := by decide +kernel
theorem dX3_bringAll_7 : decode cX3_bringAll 7 = .ok (.iconst 0, 1) := by decide +kernel
theorem dX3_bringAll_8 : decode cX3_bringAll 8 = .ok (.istore_n 2, 1) := by decide +kernel
theorem dX3_bringAll_9 : decode cX3_bringAll 9 = .ok (.iload_n 2, 1) := by decide +kernel
theorem dX3_bringAll_10 : decode cX3_bringAll 10 = .ok (.iconst 3, 1) := by decide +kernel
theorem dX3_bringAll_11 : decode cX3_bringAll 11 = .ok (.if_icmp .ge 56, 3) := by decide +kernel
theorem dX3_bringAll_14 : decode cX3_bringAll 14 = .ok (.iconst 0, 1) := by decide +kernel
theorem dX3_bringAll_15 : decode cX3_bringAll 15 = .ok (.istore_n 3, 1) := by decide +kernel
theorem dX3_bringAll_16 : decode cX3_bringAll 16 = .ok (.iload_n 3, 1) := by decide +kernel
theorem dX3_bringAll_17 : decode cX3_bringAll 17 = .ok (.iconst 3, 1) := by decide +kernel
theorem dX3_bringAll_18 : decode cX3_bringAll 18 = .ok (.if_icmp .ge 43, 3) := by decide +kernel
theorem dX3_bringAll_21 : decode cX3_bringAll 21 = .ok (.iload_n 2, 1) := by decide +kernel
theorem dX3_bringAll_22 : decode cX3_bringAll 22 = .ok (.iload_n 3, 1) := by decide +kernel
theorem dX3_bringAll_23 : decode cX3_bringAll 23 = .ok (.if_icmp .eq 19, 3) := by decide +kernel
theorem dX3_bringAll_26 : decode cX3_bringAll 26 = .ok (.aload_n 0, 1) := by decide +kernel
theorem dX3_bringAll_27 : decode cX3_bringAll 27 = .ok (.getfield 11, 3) := by decide +kernel
theorem dX3_bringAll_30 : decode cX3_bringAll 30 = .ok (.iload_n 1, 1) := by decide +kernel
theorem dX3_bringAll_31 : decode cX3_bringAll 31 = .ok (.aaload, 1) := by decide +kernel
theorem dX3_bringAll_32 : decode cX3_bringAll 32 = .ok (.iload_n 2, 1) := by decide +kernel
theorem dX3_bringAll_33 : decode cX3_bringAll 33 = .ok (.iload_n 3, 1) := by decide +kernel
theorem dX3_bringAll_34 : decode cX3_bringAll 34 = .ok (.invokevirtual 59, 3) := by decide +kernel
theorem dX3_bringAll_37 : decode cX3_bringAll 37 = .ok (.ifCond .ne 5, 3) := by decide +kernel
theorem dX3_bringAll_40 : decode cX3_bringAll 40 = .ok (.iconst 0, 1) := by decide +kernel
theorem dX3_bringAll_41 : decode cX3_bringAll 41 = .ok (.ireturn, 1) := by decide +kernel
theorem dX3_bringAll_42 : decode cX3_bringAll 42 = .ok (.iload_n 2, 1) := by decide +kernel
theorem dX3_bringAll_43 : decode cX3_bringAll 43 = .ok (.iload_n 3, 1) := by decide +kernel
theorem dX3_bringAll_44 : decode cX3_bringAll 44 = .ok (.if_icmp .eq 11, 3) := by decide +kernel
theorem dX3_bringAll_47 : decode cX3_bringAll 47 = .ok (.aload_n 0, 1) := by decide +kernel
theorem dX3_bringAll_48 : decode cX3_bringAll 48 = .ok (.iload_n 2, 1) := by decide +kernel
theorem dX3_bringAll_49 : decode cX3_bringAll 49 = .ok (.iload_n 3, 1) := by decide +kernel
theorem dX3_bringAll_50 : decode cX3_bringAll 50 = .ok (.iload_n 1, 1) := by decide +kernel
theorem dX3_bringAll_51 : decode cX3_bringAll 51 = .ok (.invokevirtual 63, 3) := by decide +kernel
theorem dX3_bringAll_54 : decode cX3_bringAll 54 = .ok (.pop, 1) := by decide +kernel
theorem dX3_bringAll_55 : decode cX3_bringAll 55 = .ok (.iinc 3 1, 3) := by decide +kernel
theorem dX3_bringAll_58 : decode cX3_bringAll 58 = .ok (.goto (-42), 3) := by decide +kernel
theorem dX3_bringAll_61 : decode cX3_bringAll 61 = .ok (.iinc 2 1, 3) := by decide +kernel
theorem dX3_bringAll_64 : decode cX3_bringAll 64 = .ok (.goto (-55), 3) := by decide +kernel
theorem dX3_bringAll_67 : decode cX3_bringAll 67 = .ok (.iinc 1 1, 3) := by decide +kernel
theorem dX3_bringAll_70 : decode cX3_bringAll 70 = .ok (.goto (-68), 3) := by decide +kernel
theorem dX3_bringAll_73 : decode cX3_bringAll 73 = .ok (.iconst 1, 1) := by decide +kernel
theorem dX3_bringAll_74 : decode cX3_bringAll 74 = .ok (.ireturn, 1) := by decide +kernel
theorem dX3_siblingsInAll_0 : decode cX3_siblingsInAll 0 = .ok (.iconst 0, 1) := by decide +kernel
theorem dX3_siblingsInAll_1 : decode cX3_siblingsInAll 1 = .ok (.istore_n 1, 1) := by decide +kernel
theorem dX3_siblingsInAll_2 : decode cX3_siblingsInAll 2 = .ok (.iconst 0, 1) := by decide +kernel
theorem dX3_siblingsInAll_3 : decode cX3_siblingsInAll 3 = .ok (.istore_n 2, 1) := by decide +kernel
theorem dX3_siblingsInAll_4 : decode cX3_siblingsInAll 4 = .ok (.iload_n 2, 1) := by decide +kernel
theorem dX3_siblingsInAll_5 : decode cX3_siblingsInAll 5 = .ok (.iconst 3, 1) := by decide +kernel
theorem dX3_siblingsInAll_6 : decode cX3_siblingsInAll 6 = .ok (.if_icmp .ge 39, 3) := by decide +kernel
theorem dX3_siblingsInAll_9 : decode cX3_siblingsInAll 9 = .ok (.iconst 0, 1) := by decide +kernel
theorem dX3_siblingsInAll_10 : decode cX3_siblingsInAll 10 = .ok (.istore_n 3, 1) := by decide +kernel
theorem dX3_siblingsInAll_11 : decode cX3_siblingsInAll 11 = .ok (.iload_n 3, 1) := by decide +kernel
theorem dX3_siblingsInAll_12 : decode cX3_siblingsInAll 12 = .ok (.iconst 3, 1) := by decide +kernel
theorem dX3_siblingsInAll_13 : decode cX3_siblingsInAll 13 = .ok (.if_icmp .ge 26, 3) := by decide +kernel
theorem dX3_siblingsInAll_16 : decode cX3_siblingsInAll 16 = .ok (.iload_n 1, 1) := by decide +kernel
theorem dX3_siblingsInAll_17 : decode cX3_siblingsInAll 17 = .ok (.aload_n 0, 1) := by decide +kernel
theorem dX3_siblingsInAll_18 : decode cX3_siblingsInAll 18 = .ok (.getfield 11, 3) := by decide +kernel
theorem dX3_siblingsInAll_21 : decode cX3_siblingsInAll 21 = .ok (.iload_n 2, 1) := by decide +kernel
theorem dX3_siblingsInAll_22 : decode cX3_siblingsInAll 22 = .ok (.aaload, 1) := by decide +kernel
theorem dX3_siblingsInAll_23 : decode cX3_siblingsInAll 23 = .ok (.getfield 49, 3) := by decide +kernel
theorem dX3_siblingsInAll_26 : decode cX3_siblingsInAll 26 = .ok (.iload_n 3, 1) := by decide +kernel
theorem dX3_siblingsInAll_27 : decode cX3_siblingsInAll 27 = .ok (.aaload, 1) := by decide +kernel
theorem dX3_siblingsInAll_28 : decode cX3_siblingsInAll 28 = .ok (.getfield 66, 3) := by decide +kernel
theorem dX3_siblingsInAll_31 : decode cX3_siblingsInAll 31 = .ok (.iadd, 1) := by decide +kernel
theorem dX3_siblingsInAll_32 : decode cX3_siblingsInAll 32 = .ok (.istore_n 1, 1) := by decide +kernel
theorem dX3_siblingsInAll_33 : decode cX3_siblingsInAll 33 = .ok (.iinc 3 1, 3) := by decide +kernel
theorem dX3_siblingsInAll_36 : decode cX3_siblingsInAll 36 = .ok (.goto (-25), 3) := by decide +kernel
theorem dX3_siblingsInAll_39 : decode cX3_siblingsInAll 39 = .ok (.iinc 2 1, 3) := by decide +kernel
theorem dX3_siblingsInAll_42 : decode cX3_siblingsInAll 42 = .ok (.goto (-38), 3) := by decide +kernel
theorem dX3_siblingsInAll_45 : decode cX3_siblingsInAll 45 = .ok (.iload_n 1, 1) := by decide +kernel
theorem dX3_siblingsInAll_46 : decode cX3_siblingsInAll 46 = .ok (.ireturn, 1) := by decide +kernel
theorem dX3_mostSiblings_0 : decode cX3_mostSiblings 0 = .ok (.iconst 0, 1) := by decide +kernel
theorem dX3_mostSiblings_1 : decode cX3_mostSiblings 1 = .ok (.istore_n 1, 1) := by decide +kernel
theorem dX3_mostSiblings_2 : decode cX3_mostSiblings 2 = .ok (.iconst 0, 1) := by decide +kernel
theorem dX3_mostSiblings_3 : decode cX3_mostSiblings 3 = .ok (.istore_n 2, 1) := by decide +kernel
theorem dX3_mostSiblings_4 : decode cX3_mostSiblings 4 = .ok (.iload_n 2, 1) := by decide +kernel
theorem dX3_mostSiblings_5 : decode cX3_mostSiblings 5 = .ok (.iconst 3, 1) := by decide +kernel
theorem dX3_mostSiblings_6 : decode cX3_mostSiblings 6 = .ok (.if_icmp .ge 41, 3) := by decide +kernel
theorem dX3_mostSiblings_9 : decode cX3_mostSiblings 9 = .ok (.iconst 0, 1) := by decide +kernel
theorem dX3_mostSiblings_10 : decode cX3_mostSiblings 10 = .ok (.istore_n 3, 1) := by decide +kernel
theorem dX3_mostSiblings_11 : decode cX3_mostSiblings 11 = .ok (.iload_n 3, 1) := by decide +kernel
theorem dX3_mostSiblings_12 : decode cX3_mostSiblings 12 = .ok (.iconst 3, 1) := by decide +kernel
theorem dX3_mostSiblings_13 : decode cX3_mostSiblings 13 = .ok (.if_icmp .ge 28, 3) := by decide +kernel
theorem dX3_mostSiblings_16 : decode cX3_mostSiblings 16 = .ok (.iload_n 1, 1) := by decide +kernel
theorem dX3_mostSiblings_17 : decode cX3_mostSiblings 17 = .ok (.aload_n 0, 1) := by decide +kernel
theorem dX3_mostSiblings_18 : decode cX3_mostSiblings 18 = .ok (.getfield 11, 3) := by decide +kernel
theorem dX3_mostSiblings_21 : decode cX3_mostSiblings 21 = .ok (.iload_n 2, 1) := by decide +kernel
theorem dX3_mostSiblings_22 : decode cX3_mostSiblings 22 = .ok (.aaload, 1) := by decide +kernel
theorem dX3_mostSiblings_23 : decode cX3_mostSiblings 23 = .ok (.getfield 49, 3) := by decide +kernel
theorem dX3_mostSiblings_26 : decode cX3_mostSiblings 26 = .ok (.iload_n 3, 1) := by decide +kernel
theorem dX3_mostSiblings_27 : decode cX3_mostSiblings 27 = .ok (.aaload, 1) := by decide +kernel
theorem dX3_mostSiblings_28 : decode cX3_mostSiblings 28 = .ok (.getfield 66, 3) := by decide +kernel
theorem dX3_mostSiblings_31 : decode cX3_mostSiblings 31 = .ok (.invokestatic 69, 3) := by decide +kernel
theorem dX3_mostSiblings_34 : decode cX3_mostSiblings 34 = .ok (.istore_n 1, 1) := by decide +kernel
theorem dX3_mostSiblings_35 : decode cX3_mostSiblings 35 = .ok (.iinc 3 1, 3) := by decide +kernel
theorem dX3_mostSiblings_38 : decode cX3_mostSiblings 38 = .ok (.goto (-27), 3) := by decide +kernel
theorem dX3_mostSiblings_41 : decode cX3_mostSiblings 41 = .ok (.iinc 2 1, 3) := by decide +kernel
theorem dX3_mostSiblings_44 : decode cX3_mostSiblings 44 = .ok (.goto (-40), 3) := by decide +kernel
theorem dX3_mostSiblings_47 : decode cX3_mostSiblings 47 = .ok (.iload_n 1, 1) := by decide +kernel
theorem dX3_mostSiblings_48 : decode cX3_mostSiblings 48 = .ok (.ireturn, 1) := by decide +kernel
theorem dX4_init_0 : decode cX4_init 0 = .ok (.aload_n 0, 1) := by decide +kernel
theorem dX4_init_1 : decode cX4_init 1 = .ok (.invokespecial 1, 3) := by decide +kernel
theorem dX4_init_4 : decode cX4_init 4 = .ok (.aload_n 0, 1) := by decide +kernel
theorem dX4_init_5 : decode cX4_init 5 = .ok (.new 7, 3) := by decide +kernel
theorem dX4_init_8 : decode cX4_init 8 = .ok (.dup, 1) := by decide +kernel
theorem dX4_init_9 : decode cX4_init 9 = .ok (.invokespecial 9, 3) := by decide +kernel
theorem dX4_init_12 : decode cX4_init 12 = .ok (.putfield 10, 3) := by decide +kernel
theorem dX4_init_15 : decode cX4_init 15 = .ok (.aload_n 0, 1) := by decide +kernel
theorem dX4_init_16 : decode cX4_init 16 = .ok (.new 7, 3) := by decide +kernel
theorem dX4_init_19 : decode cX4_init 19 = .ok (.dup, 1) := by decide +kernel
theorem dX4_init_20 : decode cX4_init 20 = .ok (.invokespecial 9, 3) := by decide +kernel
theorem dX4_init_23 : decode cX4_init 23 = .ok (.putfield 16, 3) := by decide +kernel
theorem dX4_init_26 : decode cX4_init 26 = .ok (.aload_n 0, 1) := by decide +kernel
theorem dX4_init_27 : decode cX4_init 27 = .ok (.bipush 6, 2) := by decide +kernel
theorem dX4_init_29 : decode cX4_init 29 = .ok (.anewarray 7, 3) := by decide +kernel
theorem dX4_init_32 : decode cX4_init 32 = .ok (.putfield 19, 3) := by decide +kernel
theorem dX4_init_35 : decode cX4_init 35 = .ok (.aload_n 0, 1) := by decide +kernel
theorem dX4_init_36 : decode cX4_init 36 = .ok (.bipush 60, 2) := by decide +kernel
theorem dX4_init_38 : decode cX4_init 38 = .ok (.newarray .int, 2) := by decide +kernel
theorem dX4_init_40 : decode cX4_init 40 = .ok (.putfield 23, 3) := by decide +kernel
theorem dX4_init_43 : decode cX4_init 43 = .ok (.aload_n 0, 1) := by decide +kernel
theorem dX4_init_44 : decode cX4_init 44 = .ok (.new 27, 3) := by decide +kernel
theorem dX4_init_47 : decode cX4_init 47 = .ok (.dup, 1) := by decide +kernel
theorem dX4_init_48 : decode cX4_init 48 = .ok (.invokespecial 29, 3) := by decide +kernel
theorem dX4_init_51 : decode cX4_init 51 = .ok (.putfield 30, 3) := by decide +kernel
theorem dX4_init_54 : decode cX4_init 54 = .ok (.iconst 0, 1) := by decide +kernel
theorem dX4_init_55 : decode cX4_init 55 = .ok (.istore_n 1, 1) := by decide +kernel
theorem dX4_init_56 : decode cX4_init 56 = .ok (.iload_n 1, 1) := by decide +kernel
theorem dX4_init_57 : decode cX4_init 57 = .ok (.bipush 6, 2) := by decide +kernel
theorem dX4_init_59 : decode cX4_init 59 = .ok (.if_icmp .ge 22, 3) := by decide +kernel
theorem dX4_init_62 : decode cX4_init 62 = .ok (.aload_n 0, 1) := by decide +kernel
theorem dX4_init_63 : decode cX4_init 63 = .ok (.getfield 19, 3) := by decide +kernel
theorem dX4_init_66 : decode cX4_init 66 = .ok (.iload_n 1, 1) := by decide +kernel
theorem dX4_init_67 : decode cX4_init 67 = .ok (.new 7, 3) := by decide +kernel
theorem dX4_init_70 : decode cX4_init 70 = .ok (.dup, 1) := by decide +kernel
theorem dX4_init_71 : decode cX4_init 71 = .ok (.invokespecial 9, 3) := by decide +kernel
theorem dX4_init_74 : decode cX4_init 74 = .ok (.aastore, 1) := by decide +kernel
theorem dX4_init_75 : decode cX4_init 75 = .ok (.iinc 1 1, 3) := by decide +kernel
theorem dX4_init_78 : decode cX4_init 78 = .ok (.goto (-22), 3) := by decide +kernel
theorem dX4_init_81 : decode cX4_init 81 = .ok (.return_, 1) := by decide +kernel
theorem dX4_read_0 : decode cX4_read 0 = .ok (.iload_n 1, 1) := by decide +kernel
theorem dX4_read_1 : decode cX4_read 1 = .ok (.iload_n 2, 1) := by decide +kernel
theorem dX4_read_2 : decode cX4_read 2 = .ok (.iload_n 3, 1) := by decide +kernel
theorem dX4_read_3 : decode cX4_read 3 = .ok (.invokestatic 34, 3) := by decide +kernel
theorem dX4_read_6 : decode cX4_read 6 = .ok (.aload_n 0, 1) := by decide +kernel
theorem dX4_read_7 : decode cX4_read 7 = .ok (.invokevirtual 38, 3) := by decide +kernel
theorem dX4_read_10 : decode cX4_read 10 = .ok (.aload_n 0, 1) := by decide +kernel
theorem dX4_read_11 : decode cX4_read 11 = .ok (.getfield 10, 3) := by decide +kernel
theorem dX4_read_14 : decode cX4_read 14 = .ok (.getfield 41, 3) := by decide +kernel
theorem dX4_read_17 : decode cX4_read 17 = .ok (.iload_n 2, 1) := by decide +kernel
theorem dX4_read_18 : decode cX4_read 18 = .ok (.aaload, 1) := by decide +kernel
theorem dX4_read_19 : decode cX4_read 19 = .ok (.astore 4, 2) := by decide +kernel
theorem dX4_read_21 : decode cX4_read 21 = .ok (.aload 4, 2) := by decide +kernel
theorem dX4_read_23 : decode cX4_read 23 = .ok (.iload_n 1, 1) := by decide +kernel
theorem dX4_read_24 : decode cX4_read 24 = .ok (.iload_n 3, 1) := by decide +kernel
theorem dX4_read_25 : decode cX4_read 25 = .ok (.invokevirtual 45, 3) := by decide +kernel
theorem dX4_read_28 : decode cX4_read 28 = .ok (.aload 4, 2) := by decide +kernel
theorem dX4_read_30 : decode cX4_read 30 = .ok (.getfield 51, 3) := by decide +kernel
theorem dX4_read_33 : decode cX4_read 33 = .ok (.iload_n 3, 1) := by decide +kernel
theorem dX4_read_34 : decode cX4_read 34 = .ok (.aaload, 1) := by decide +kernel
theorem dX4_read_35 : decode cX4_read 35 = .ok (.getfield 55, 3) := by decide +kernel
theorem dX4_read_38 : decode cX4_read 38 = .ok (.ireturn, 1) := by decide +kernel
theorem dX4_write_0 : decode cX4_write 0 = .ok (.iload_n 1, 1) := by decide +kernel
theorem dX4_write_1 : decode cX4_write 1 = .ok (.iload_n 2, 1) := by decide +kernel
theorem dX4_write_2 : decode cX4_write 2 = .ok (.iload_n 3, 1) := by decide +kernel
theorem dX4_write_3 : decode cX4_write 3 = .ok (.invokestatic 34, 3) := by decide +kernel
theorem dX4_write_6 : decode cX4_write 6 = .ok (.iload 4, 2) := by decide +kernel
theorem dX4_write_8 : decode cX4_write 8 = .ok (.bipush 99, 2) := by decide +kernel
theorem dX4_write_10 : decode cX4_write 10 = .ok (.invokestatic 61, 3) := by decide +kernel
theorem dX4_write_13 : decode cX4_write 13 = .ok (.aload_n 0, 1) := by decide +kernel
theorem dX4_write_14 : decode cX4_write 14 = .ok (.getfield 10, 3) := by decide +kernel
theorem dX4_write_17 : decode cX4_write 17 = .ok (.getfield 41, 3) := by decide +kernel
theorem dX4_write_20 : decode cX4_write 20 = .ok (.iload_n 2, 1) := by decide +kernel
theorem dX4_write_21 : decode cX4_write 21 = .ok (.aaload, 1) := by decide +kernel
theorem dX4_write_22 : decode cX4_write 22 = .ok (.iload_n 1, 1) := by decide +kernel
theorem dX4_write_23 : decode cX4_write 23 = .ok (.iload_n 3, 1) := by decide +kernel
theorem dX4_write_24 : decode cX4_write 24 = .ok (.invokevirtual 64, 3) := by decide +kernel
theorem dX4_write_27 : decode cX4_write 27 = .ok (.ifCond .ne 13, 3) := by decide +kernel
theorem dX4_write_30 : decode cX4_write 30 = .ok (.new 68, 3) := by decide +kernel
theorem dX4_write_33 : decode cX4_write 33 = .ok (.dup, 1) := by decide +kernel
theorem dX4_write_34 : decode cX4_write 34 = .ok (.ldc 70, 2) := by decide +kernel
theorem dX4_write_36 : decode cX4_write 36 = .ok (.invokespecial 72, 3) := by decide +kernel
theorem dX4_write_39 : decode cX4_write 39 = .ok (.athrow, 1) := by decide +kernel
theorem dX4_write_40 : decode cX4_write 40 = .ok (.aload_n 0, 1) := by decide +kernel
theorem dX4_write_41 : decode cX4_write 41 = .ok (.invokevirtual 38, 3) := by decide +kernel
theorem dX4_write_44 : decode cX4_write 44 = .ok (.aload_n 0, 1) := by decide +kernel
theorem dX4_write_45 : decode cX4_write 45 = .ok (.getfield 10, 3) := by decide +kernel
theorem dX4_write_48 : decode cX4_write 48 = .ok (.iload_n 1, 1) := by decide +kernel
theorem dX4_write_49 : decode cX4_write 49 = .ok (.iload_n 2, 1) := by decide +kernel
theorem dX4_write_50 : decode cX4_write 50 = .ok (.iload_n 3, 1) := by decide +kernel
theorem dX4_write_51 : decode cX4_write 51 = .ok (.iload 4, 2) := by decide +kernel
theorem dX4_write_53 : decode cX4_write 53 = .ok (.invokevirtual 75, 3) := by decide +kernel
theorem dX4_write_56 : decode cX4_write 56 = .ok (.ireturn, 1) := by decide +kernel
theorem dX4_pull_0 : decode cX4_pull 0 = .ok (.iload_n 1, 1) := by decide +kernel
theorem dX4_pull_1 : decode cX4_pull 1 = .ok (.iload_n 2, 1) := by decide +kernel
theorem dX4_pull_2 : decode cX4_pull 2 = .ok (.iload_n 3, 1) := by decide +kernel
theorem dX4_pull_3 : decode cX4_pull 3 = .ok (.invokestatic 79, 3) := by decide +kernel
theorem dX4_pull_6 : decode cX4_pull 6 = .ok (.aload_n 0, 1) := by decide +kernel
theorem dX4_pull_7 : decode cX4_pull 7 = .ok (.getfield 10, 3) := by decide +kernel
theorem dX4_pull_10 : decode cX4_pull 10 = .ok (.getfield 41, 3) := by decide +kernel
theorem dX4_pull_13 : decode cX4_pull 13 = .ok (.iload_n 3, 1) := by decide +kernel
theorem dX4_pull_14 : decode cX4_pull 14 = .ok (.aaload, 1) := by decide +kernel
theorem dX4_pull_15 : decode cX4_pull 15 = .ok (.iload_n 1, 1) := by decide +kernel
theorem dX4_pull_16 : decode cX4_pull 16 = .ok (.iload_n 2, 1) := by decide +kernel
theorem dX4_pull_17 : decode cX4_pull 17 = .ok (.invokevirtual 82, 3) := by decide +kernel
theorem dX4_pull_20 : decode cX4_pull 20 = .ok (.ifCond .ne 13, 3) := by decide +kernel
theorem dX4_pull_23 : decode cX4_pull 23 = .ok (.new 68, 3) := by decide +kernel
theorem dX4_pull_26 : decode cX4_pull 26 = .ok (.dup, 1) := by decide +kernel
theorem dX4_pull_27 : decode cX4_pull 27 = .ok (.ldc 85, 2) := by decide +kernel
theorem dX4_pull_29 : decode cX4_pull 29 = .ok (.invokespecial 72, 3) := by decide +kernel
theorem dX4_pull_32 : decode cX4_pull 32 = .ok (.athrow, 1) := by decide +kernel
theorem dX4_pull_33 : decode cX4_pull 33 = .ok (.aload_n 0, 1) := by decide +kernel
theorem dX4_pull_34 : decode cX4_pull 34 = .ok (.invokevirtual 38, 3) := by decide +kernel
theorem dX4_pull_37 : decode cX4_pull 37 = .ok (.aload_n 0, 1) := by decide +kernel
theorem dX4_pull_38 : decode cX4_pull 38 = .ok (.getfield 10, 3) := by decide +kernel
theorem dX4_pull_41 : decode cX4_pull 41 = .ok (.iload_n 1, 1) := by decide +kernel
theorem dX4_pull_42 : decode cX4_pull 42 = .ok (.iload_n 2, 1) := by decide +kernel
theorem dX4_pull_43 : decode cX4_pull 43 = .ok (.iload_n 3, 1) := by decide +kernel
theorem dX4_pull_44 : decode cX4_pull 44 = .ok (.invokevirtual 87, 3) := by decide +kernel
theorem dX4_pull_47 : decode cX4_pull 47 = .ok (.ireturn, 1) := by decide +kernel
theorem dX4_join_0 : decode cX4_join 0 = .ok (.iload_n 1, 1) := by decide +kernel
theorem dX4_join_1 : decode cX4_join 1 = .ok (.iload_n 2, 1) := by decide +kernel
theorem dX4_join_2 : decode cX4_join 2 = .ok (.iload_n 3, 1) := by decide +kernel
theorem dX4_join_3 : decode cX4_join 3 = .ok (.invokestatic 34, 3) := by decide +kernel
theorem dX4_join_6 : decode cX4_join 6 = .ok (.iload 4, 2) := by decide +kernel
theorem dX4_join_8 : decode cX4_join 8 = .ok (.iconst 3, 1) := by decide +kernel
theorem dX4_join_9 : decode cX4_join 9 = .ok (.invokestatic 61, 3) := by decide +kernel
theorem dX4_join_12 : decode cX4_join 12 = .ok (.aload_n 0, 1) := by decide +kernel
theorem dX4_join_13 : decode cX4_join 13 = .ok (.getfield 10, 3) := by decide +kernel
theorem dX4_join_16 : decode cX4_join 16 = .ok (.getfield 41, 3) := by decide +kernel
theorem dX4_join_19 : decode cX4_join 19 = .ok (.iload_n 2, 1) := by decide +kernel
theorem dX4_join_20 : decode cX4_join 20 = .ok (.aaload, 1) := by decide +kernel
theorem dX4_join_21 : decode cX4_join 21 = .ok (.astore 5, 2) := by decide +kernel
theorem dX4_join_23 : decode cX4_join 23 = .ok (.aload 5, 2) := by decide +kernel
theorem dX4_join_25 : decode cX4_join 25 = .ok (.getfield 51, 3) := by decide +kernel
theorem dX4_join_28 : decode cX4_join 28 = .ok (.iload_n 3, 1) := by decide +kernel
theorem dX4_join_29 : decode cX4_join 29 = .ok (.aaload, 1) := by decide +kernel
theorem dX4_join_30 : decode cX4_join 30 = .ok (.getfield 55, 3) := by decide +kernel
theorem dX4_join_33 : decode cX4_join 33 = .ok (.ifCond .eq 16, 3) := by decide +kernel
theorem dX4_join_36 : decode cX4_join 36 = .ok (.aload 5, 2) := by decide +kernel
theorem dX4_join_38 : decode cX4_join 38 = .ok (.getfield 91, 3) := by decide +kernel
theorem dX4_join_41 : decode cX4_join 41 = .ok (.iload_n 1, 1) := by decide +kernel
theorem dX4_join_42 : decode cX4_join 42 = .ok (.iaload, 1) := by decide +kernel
theorem dX4_join_43 : decode cX4_join 43 = .ok (.sipush 999, 3) := by decide +kernel
theorem dX4_join_46 : decode cX4_join 46 = .ok (.if_icmp .lt 13, 3) := by decide +kernel
theorem dX4_join_49 : decode cX4_join 49 = .ok (.new 68, 3) := by decide +kernel
theorem dX4_join_52 : decode cX4_join 52 = .ok (.dup, 1) := by decide +kernel
theorem dX4_join_53 : decode cX4_join 53 = .ok (.ldc 94, 2) := by decide +kernel
theorem dX4_join_55 : decode cX4_join 55 = .ok (.invokespecial 72, 3) := by decide +kernel
theorem dX4_join_58 : decode cX4_join 58 = .ok (.athrow, 1) := by decide +kernel
theorem dX4_join_59 : decode cX4_join 59 = .ok (.aload_n 0, 1) := by decide +kernel
theorem dX4_join_60 : decode cX4_join 60 = .ok (.invokevirtual 38, 3) := by decide +kernel
theorem dX4_join_63 : decode cX4_join 63 = .ok (.aload 5, 2) := by decide +kernel
theorem dX4_join_65 : decode cX4_join 65 = .ok (.getfield 51, 3) := by decide +kernel
theorem dX4_join_68 : decode cX4_join 68 = .ok (.iload_n 3, 1) := by decide +kernel
theorem dX4_join_69 : decode cX4_join 69 = .ok (.aaload, 1) := by decide +kernel
theorem dX4_join_70 : decode cX4_join 70 = .ok (.iload 4, 2) := by decide +kernel
theorem dX4_join_72 : decode cX4_join 72 = .ok (.invokevirtual 96, 3) := by decide +kernel
theorem dX4_join_75 : decode cX4_join 75 = .ok (.istore 6, 2) := by decide +kernel
theorem dX4_join_77 : decode cX4_join 77 = .ok (.aload 5, 2) := by decide +kernel
theorem dX4_join_79 : decode cX4_join 79 = .ok (.iload_n 1, 1) := by decide +kernel
theorem dX4_join_80 : decode cX4_join 80 = .ok (.iload_n 3, 1) := by decide +kernel
theorem dX4_join_81 : decode cX4_join 81 = .ok (.invokevirtual 45, 3) := by decide +kernel
theorem dX4_join_84 : decode cX4_join 84 = .ok (.aload_n 0, 1) := by decide +kernel
theorem dX4_join_85 : decode cX4_join 85 = .ok (.getfield 10, 3) := by decide +kernel
theorem dX4_join_88 : decode cX4_join 88 = .ok (.iload_n 1, 1) := by decide +kernel
theorem dX4_join_89 : decode cX4_join 89 = .ok (.iload_n 2, 1) := by decide +kernel
theorem dX4_join_90 : decode cX4_join 90 = .ok (.iload_n 3, 1) := by decide +kernel
theorem dX4_join_91 : decode cX4_join 91 = .ok (.iload 6, 2) := by decide +kernel
theorem dX4_join_93 : decode cX4_join 93 = .ok (.invokevirtual 75, 3) := by decide +kernel
theorem dX4_join_96 : decode cX4_join 96 = .ok (.pop, 1) := by decide +kernel
theorem dX4_join_97 : decode cX4_join 97 = .ok (.aload_n 0, 1) := by decide +kernel
theorem dX4_join_98 : decode cX4_join 98 = .ok (.getfield 10, 3) := by decide +kernel
theorem dX4_join_101 : decode cX4_join 101 = .ok (.dup, 1) := by decide +kernel
theorem dX4_join_102 : decode cX4_join 102 = .ok (.getfield 100, 3) := by decide +kernel
theorem dX4_join_105 : decode cX4_join 105 = .ok (.iconst 1, 1) := by decide +kernel
theorem dX4_join_106 : decode cX4_join 106 = .ok (.iadd, 1) := by decide +kernel
theorem dX4_join_107 : decode cX4_join 107 = .ok (.putfield 100, 3) := by decide +kernel
theorem dX4_join_110 : decode cX4_join 110 = .ok (.iload 6, 2) := by decide +kernel
theorem dX4_join_112 : decode cX4_join 112 = .ok (.ireturn, 1) := by decide +kernel
theorem dX4_lose_0 : decode cX4_lose 0 = .ok (.iload_n 1, 1) := by decide +kernel
theorem dX4_lose_1 : decode cX4_lose 1 = .ok (.iconst 5, 1) := by decide +kernel
theorem dX4_lose_2 : decode cX4_lose 2 = .ok (.invokestatic 103, 3) := by decide +kernel
theorem dX4_lose_5 : decode cX4_lose 5 = .ok (.iload_n 2, 1) := by decide +kernel
theorem dX4_lose_6 : decode cX4_lose 6 = .ok (.iconst 3, 1) := by decide +kernel
theorem dX4_lose_7 : decode cX4_lose 7 = .ok (.invokestatic 103, 3) := by decide +kernel
theorem dX4_lose_10 : decode cX4_lose 10 = .ok (.aload_n 0, 1) := by decide +kernel
theorem dX4_lose_11 : decode cX4_lose 11 = .ok (.invokevirtual 38, 3) := by decide +kernel
theorem dX4_lose_14 : decode cX4_lose 14 = .ok (.aload_n 0, 1) := by decide +kernel
theorem dX4_lose_15 : decode cX4_lose 15 = .ok (.getfield 10, 3) := by decide +kernel
theorem dX4_lose_18 : decode cX4_lose 18 = .ok (.getfield 41, 3) := by decide +kernel
theorem dX4_lose_21 : decode cX4_lose 21 = .ok (.iload_n 2, 1) := by decide +kernel
theorem dX4_lose_22 : decode cX4_lose 22 = .ok (.aaload, 1) := by decide +kernel
theorem dX4_lose_23 : decode cX4_lose 23 = .ok (.iload_n 1, 1) := by decide +kernel
theorem dX4_lose_24 : decode cX4_lose 24 = .ok (.invokevirtual 106, 3) := by decide +kernel
theorem dX4_lose_27 : decode cX4_lose 27 = .ok (.ireturn, 1) := by decide +kernel
theorem dX4_forget_0 : decode cX4_forget 0 = .ok (.iload_n 1, 1) := by decide +kernel
theorem dX4_forget_1 : decode cX4_forget 1 = .ok (.iconst 5, 1) := by decide +kernel
theorem dX4_forget_2 : decode cX4_forget 2 = .ok (.invokestatic 103, 3) := by decide +kernel
theorem dX4_forget_5 : decode cX4_forget 5 = .ok (.iload_n 2, 1) := by decide +kernel
theorem dX4_forget_6 : decode cX4_forget 6 = .ok (.iconst 3, 1) := by decide +kernel
theorem dX4_forget_7 : decode cX4_forget 7 = .ok (.invokestatic 103, 3) := by decide +kernel
theorem dX4_forget_10 : decode cX4_forget 10 = .ok (.aload_n 0, 1) := by decide +kernel
theorem dX4_forget_11 : decode cX4_forget 11 = .ok (.getfield 10, 3) := by decide +kernel
theorem dX4_forget_14 : decode cX4_forget 14 = .ok (.getfield 41, 3) := by decide +kernel
theorem dX4_forget_17 : decode cX4_forget 17 = .ok (.iload_n 2, 1) := by decide +kernel
theorem dX4_forget_18 : decode cX4_forget 18 = .ok (.aaload, 1) := by decide +kernel
theorem dX4_forget_19 : decode cX4_forget 19 = .ok (.astore_n 3, 1) := by decide +kernel
theorem dX4_forget_20 : decode cX4_forget 20 = .ok (.aload_n 3, 1) := by decide +kernel
theorem dX4_forget_21 : decode cX4_forget 21 = .ok (.iload_n 1, 1) := by decide +kernel
theorem dX4_forget_22 : decode cX4_forget 22 = .ok (.invokevirtual 109, 3) := by decide +kernel
theorem dX4_forget_25 : decode cX4_forget 25 = .ok (.ifCond .eq 13, 3) := by decide +kernel
theorem dX4_forget_28 : decode cX4_forget 28 = .ok (.new 68, 3) := by decide +kernel
theorem dX4_forget_31 : decode cX4_forget 31 = .ok (.dup, 1) := by decide +kernel
theorem dX4_forget_32 : decode cX4_forget 32 = .ok (.ldc 112, 2) := by decide +kernel
theorem dX4_forget_34 : decode cX4_forget 34 = .ok (.invokespecial 72, 3) := by decide +kernel
theorem dX4_forget_37 : decode cX4_forget 37 = .ok (.athrow, 1) := by decide +kernel
theorem dX4_forget_38 : decode cX4_forget 38 = .ok (.aload_n 0, 1) := by decide +kernel
theorem dX4_forget_39 : decode cX4_forget 39 = .ok (.invokevirtual 38, 3) := by decide +kernel
theorem dX4_forget_42 : decode cX4_forget 42 = .ok (.aload_n 3, 1) := by decide +kernel
theorem dX4_forget_43 : decode cX4_forget 43 = .ok (.getfield 91, 3) := by decide +kernel
theorem dX4_forget_46 : decode cX4_forget 46 = .ok (.iload_n 1, 1) := by decide +kernel
theorem dX4_forget_47 : decode cX4_forget 47 = .ok (.iaload, 1) := by decide +kernel
theorem dX4_forget_48 : decode cX4_forget 48 = .ok (.istore 4, 2) := by decide +kernel
theorem dX4_forget_50 : decode cX4_forget 50 = .ok (.aload_n 3, 1) := by decide +kernel
theorem dX4_forget_51 : decode cX4_forget 51 = .ok (.iload_n 1, 1) := by decide +kernel
theorem dX4_forget_52 : decode cX4_forget 52 = .ok (.invokevirtual 114, 3) := by decide +kernel
theorem dX4_forget_55 : decode cX4_forget 55 = .ok (.aload_n 0, 1) := by decide +kernel
theorem dX4_forget_56 : decode cX4_forget 56 = .ok (.getfield 10, 3) := by decide +kernel
theorem dX4_forget_59 : decode cX4_forget 59 = .ok (.dup, 1) := by decide +kernel
theorem dX4_forget_60 : decode cX4_forget 60 = .ok (.getfield 118, 3) := by decide +kernel
theorem dX4_forget_63 : decode cX4_forget 63 = .ok (.iconst 1, 1) := by decide +kernel
theorem dX4_forget_64 : decode cX4_forget 64 = .ok (.iadd, 1) := by decide +kernel
theorem dX4_forget_65 : decode cX4_forget 65 = .ok (.putfield 118, 3) := by decide +kernel
theorem dX4_forget_68 : decode cX4_forget 68 = .ok (.iload 4, 2) := by decide +kernel
theorem dX4_forget_70 : decode cX4_forget 70 = .ok (.ireturn, 1) := by decide +kernel
theorem dX4_pullAll_0 : decode cX4_pullAll 0 = .ok (.aload_n 0, 1) := by decide +kernel
theorem dX4_pullAll_1 : decode cX4_pullAll 1 = .ok (.getfield 16, 3) := by decide +kernel
theorem dX4_pullAll_4 : decode cX4_pullAll 4 = .ok (.aload_n 0, 1) := by decide +kernel
theorem dX4_pullAll_5 : decode cX4_pullAll 5 = .ok (.getfield 10, 3) := by decide +kernel
theorem dX4_pullAll_8 : decode cX4_pullAll 8 = .ok (.invokevirtual 121, 3) := by decide +kernel
theorem dX4_pullAll_11 : decode cX4_pullAll 11 = .ok (.aload_n 0, 1) := by decide +kernel
theorem dX4_pullAll_12 : decode cX4_pullAll 12 = .ok (.getfield 16, 3) := by decide +kernel
theorem dX4_pullAll_15 : decode cX4_pullAll 15 = .ok (.invokevirtual 125, 3) := by decide +kernel
theorem dX4_pullAll_18 : decode cX4_pullAll 18 = .ok (.ifCond .ne 13, 3) := by decide +kernel
theorem dX4_pullAll_21 : decode cX4_pullAll 21 = .ok (.new 68, 3) := by decide +kernel
theorem dX4_pullAll_24 : decode cX4_pullAll 24 = .ok (.dup, 1) := by decide +kernel
theorem dX4_pullAll_25 : decode cX4_pullAll 25 = .ok (.ldc 85, 2) := by decide +kernel
theorem dX4_pullAll_27 : decode cX4_pullAll 27 = .ok (.invokespecial 72, 3) := by decide +kernel
theorem dX4_pullAll_30 : decode cX4_pullAll 30 = .ok (.athrow, 1) := by decide +kernel
theorem dX4_pullAll_31 : decode cX4_pullAll 31 = .ok (.aload_n 0, 1) := by decide +kernel
theorem dX4_pullAll_32 : decode cX4_pullAll 32 = .ok (.getfield 16, 3) := by decide +kernel
theorem dX4_pullAll_35 : decode cX4_pullAll 35 = .ok (.getfield 129, 3) := by decide +kernel
theorem dX4_pullAll_38 : decode cX4_pullAll 38 = .ok (.aload_n 0, 1) := by decide +kernel
theorem dX4_pullAll_39 : decode cX4_pullAll 39 = .ok (.getfield 10, 3) := by decide +kernel
theorem dX4_pullAll_42 : decode cX4_pullAll 42 = .ok (.getfield 129, 3) := by decide +kernel
theorem dX4_pullAll_45 : decode cX4_pullAll 45 = .ok (.isub, 1) := by decide +kernel
theorem dX4_pullAll_46 : decode cX4_pullAll 46 = .ok (.istore_n 1, 1) := by decide +kernel
theorem dX4_pullAll_47 : decode cX4_pullAll 47 = .ok (.aload_n 0, 1) := by decide +kernel
theorem dX4_pullAll_48 : decode cX4_pullAll 48 = .ok (.invokevirtual 38, 3) := by decide +kernel
theorem dX4_pullAll_51 : decode cX4_pullAll 51 = .ok (.aload_n 0, 1) := by decide +kernel
theorem dX4_pullAll_52 : decode cX4_pullAll 52 = .ok (.getfield 10, 3) := by decide +kernel
theorem dX4_pullAll_55 : decode cX4_pullAll 55 = .ok (.aload_n 0, 1) := by decide +kernel
theorem dX4_pullAll_56 : decode cX4_pullAll 56 = .ok (.getfield 16, 3) := by decide +kernel
theorem dX4_pullAll_59 : decode cX4_pullAll 59 = .ok (.invokevirtual 121, 3) := by decide +kernel
theorem dX4_pullAll_62 : decode cX4_pullAll 62 = .ok (.iload_n 1, 1) := by decide +kernel
theorem dX4_pullAll_63 : decode cX4_pullAll 63 = .ok (.ireturn, 1) := by decide +kernel
theorem dX4_append_0 : decode cX4_append 0 = .ok (.iload_n 1, 1) := by decide +kernel
theorem dX4_append_1 : decode cX4_append 1 = .ok (.bipush 33, 2) := by decide +kernel
theorem dX4_append_3 : decode cX4_append 3 = .ok (.if_icmp .lt 9, 3) := by decide +kernel
theorem dX4_append_6 : decode cX4_append 6 = .ok (.iload_n 1, 1) := by decide +kernel
theorem dX4_append_7 : decode cX4_append 7 = .ok (.bipush 126, 2) := by decide +kernel
theorem dX4_append_9 : decode cX4_append 9 = .ok (.if_icmp .le 13, 3) := by decide +kernel
theorem dX4_append_12 : decode cX4_append 12 = .ok (.new 132, 3) := by decide +kernel
theorem dX4_append_15 : decode cX4_append 15 = .ok (.dup, 1) := by decide +kernel
theorem dX4_append_16 : decode cX4_append 16 = .ok (.ldc 134, 2) := by decide +kernel
theorem dX4_append_18 : decode cX4_append 18 = .ok (.invokespecial 136, 3) := by decide +kernel
theorem dX4_append_21 : decode cX4_append 21 = .ok (.athrow, 1) := by decide +kernel
theorem dX4_append_22 : decode cX4_append 22 = .ok (.aload_n 0, 1) := by decide +kernel
theorem dX4_append_23 : decode cX4_append 23 = .ok (.getfield 137, 3) := by decide +kernel
theorem dX4_append_26 : decode cX4_append 26 = .ok (.bipush 60, 2) := by decide +kernel
theorem dX4_append_28 : decode cX4_append 28 = .ok (.if_icmp .lt 13, 3) := by decide +kernel
theorem dX4_append_31 : decode cX4_append 31 = .ok (.new 68, 3) := by decide +kernel
theorem dX4_append_34 : decode cX4_append 34 = .ok (.dup, 1) := by decide +kernel
theorem dX4_append_35 : decode cX4_append 35 = .ok (.ldc 140, 2) := by decide +kernel
theorem dX4_append_37 : decode cX4_append 37 = .ok (.invokespecial 72, 3) := by decide +kernel
theorem dX4_append_40 : decode cX4_append 40 = .ok (.athrow, 1) := by decide +kernel
theorem dX4_append_41 : decode cX4_append 41 = .ok (.aload_n 0, 1) := by decide +kernel
theorem dX4_append_42 : decode cX4_append 42 = .ok (.getfield 23, 3) := by decide +kernel
theorem dX4_append_45 : decode cX4_append 45 = .ok (.aload_n 0, 1) := by decide +kernel
theorem dX4_append_46 : decode cX4_append 46 = .ok (.getfield 137, 3) := by decide +kernel
theorem dX4_append_49 : decode cX4_append 49 = .ok (.iload_n 1, 1) := by decide +kernel
theorem dX4_append_50 : decode cX4_append 50 = .ok (.iastore, 1) := by decide +kernel
theorem dX4_append_51 : decode cX4_append 51 = .ok (.aload_n 0, 1) := by decide +kernel
theorem dX4_append_52 : decode cX4_append 52 = .ok (.dup, 1) := by decide +kernel
theorem dX4_append_53 : decode cX4_append 53 = .ok (.getfield 137, 3) := by decide +kernel
theorem dX4_append_56 : decode cX4_append 56 = .ok (.iconst 1, 1) := by decide +kernel
theorem dX4_append_57 : decode cX4_append 57 = .ok (.iadd, 1) := by decide +kernel
theorem dX4_append_58 : decode cX4_append 58 = .ok (.putfield 137, 3) := by decide +kernel
theorem dX4_append_61 : decode cX4_append 61 = .ok (.aload_n 0, 1) := by decide +kernel
theorem dX4_append_62 : decode cX4_append 62 = .ok (.getfield 137, 3) := by decide +kernel
theorem dX4_append_65 : decode cX4_append 65 = .ok (.ireturn, 1) := by decide +kernel
theorem dX4_clearBuffer_0 : decode cX4_clearBuffer 0 = .ok (.aload_n 0, 1) := by decide +kernel
theorem dX4_clearBuffer_1 : decode cX4_clearBuffer 1 = .ok (.getfield 137, 3) := by decide +kernel
theorem dX4_clearBuffer_4 : decode cX4_clearBuffer 4 = .ok (.istore_n 1, 1) := by decide +kernel
theorem dX4_clearBuffer_5 : decode cX4_clearBuffer 5 = .ok (.aload_n 0, 1) := by decide +kernel
theorem dX4_clearBuffer_6 : decode cX4_clearBuffer 6 = .ok (.iconst 0, 1) := by decide +kernel
theorem dX4_clearBuffer_7 : decode cX4_clearBuffer 7 = .ok (.putfield 137, 3) := by decide +kernel
theorem dX4_clearBuffer_10 : decode cX4_clearBuffer 10 = .ok (.iload_n 1, 1) := by decide +kernel
theorem dX4_clearBuffer_11 : decode cX4_clearBuffer 11 = .ok (.ireturn, 1) := by decide +kernel
theorem dX4_firstError_0 : decode cX4_firstError 0 = .ok (.aload_n 0, 1) := by decide +kernel
theorem dX4_firstError_1 : decode cX4_firstError 1 = .ok (.invokevirtual 142, 3) := by decide +kernel
theorem dX4_firstError_4 : decode cX4_firstError 4 = .ok (.ireturn, 1) := by decide +kernel
theorem dX4_runAll_0 : decode cX4_runAll 0 = .ok (.aload_n 0, 1) := by decide +kernel
theorem dX4_runAll_1 : decode cX4_runAll 1 = .ok (.invokevirtual 142, 3) := by decide +kernel
theorem dX4_runAll_4 : decode cX4_runAll 4 = .ok (.aload_n 0, 1) := by decide +kernel
theorem dX4_runAll_5 : decode cX4_runAll 5 = .ok (.getfield 137, 3) := by decide +kernel
theorem dX4_runAll_8 : decode cX4_runAll 8 = .ok (.if_icmp .lt 13, 3) := by decide +kernel
theorem dX4_runAll_11 : decode cX4_runAll 11 = .ok (.aload_n 0, 1) := by decide +kernel
theorem dX4_runAll_12 : decode cX4_runAll 12 = .ok (.getfield 30, 3) := by decide +kernel
theorem dX4_runAll_15 : decode cX4_runAll 15 = .ok (.invokevirtual 146, 3) := by decide +kernel
theorem dX4_runAll_18 : decode cX4_runAll 18 = .ok (.ifCond .ne 13, 3) := by decide +kernel
theorem dX4_runAll_21 : decode cX4_runAll 21 = .ok (.new 132, 3) := by decide +kernel
theorem dX4_runAll_24 : decode cX4_runAll 24 = .ok (.dup, 1) := by decide +kernel
theorem dX4_runAll_25 : decode cX4_runAll 25 = .ok (.ldc 149, 2) := by decide +kernel
theorem dX4_runAll_27 : decode cX4_runAll 27 = .ok (.invokespecial 136, 3) := by decide +kernel
theorem dX4_runAll_30 : decode cX4_runAll 30 = .ok (.athrow, 1) := by decide +kernel
theorem dX4_runAll_31 : decode cX4_runAll 31 = .ok (.aload_n 0, 1) := by decide +kernel
theorem dX4_runAll_32 : decode cX4_runAll 32 = .ok (.invokevirtual 38, 3) := by decide +kernel
theorem dX4_runAll_35 : decode cX4_runAll 35 = .ok (.aload_n 0, 1) := by decide +kernel
theorem dX4_runAll_36 : decode cX4_runAll 36 = .ok (.invokevirtual 151, 3) := by decide +kernel
theorem dX4_runAll_39 : decode cX4_runAll 39 = .ok (.istore_n 1, 1) := by decide +kernel
theorem dX4_runAll_40 : decode cX4_runAll 40 = .ok (.aload_n 0, 1) := by decide +kernel
theorem dX4_runAll_41 : decode cX4_runAll 41 = .ok (.iconst 0, 1) := by decide +kernel
theorem dX4_runAll_42 : decode cX4_runAll 42 = .ok (.putfield 137, 3) := by decide +kernel
theorem dX4_runAll_45 : decode cX4_runAll 45 = .ok (.iload_n 1, 1) := by decide +kernel
theorem dX4_runAll_46 : decode cX4_runAll 46 = .ok (.ireturn, 1) := by decide +kernel
theorem dX4_undo_0 : decode cX4_undo 0 = .ok (.aload_n 0, 1) := by decide +kernel
theorem dX4_undo_1 : decode cX4_undo 1 = .ok (.getfield 154, 3) := by decide +kernel
theorem dX4_undo_4 : decode cX4_undo 4 = .ok (.ifCond .ne 13, 3) := by decide +kernel
theorem dX4_undo_7 : decode cX4_undo 7 = .ok (.new 68, 3) := by decide +kernel
theorem dX4_undo_10 : decode cX4_undo 10 = .ok (.dup, 1) := by decide +kernel
theorem dX4_undo_11 : decode cX4_undo 11 = .ok (.ldc 157, 2) := by decide +kernel
theorem dX4_undo_13 : decode cX4_undo 13 = .ok (.invokespecial 72, 3) := by decide +kernel
theorem dX4_undo_16 : decode cX4_undo 16 = .ok (.athrow, 1) := by decide +kernel
theorem dX4_undo_17 : decode cX4_undo 17 = .ok (.aload_n 0, 1) := by decide +kernel
theorem dX4_undo_18 : decode cX4_undo 18 = .ok (.dup, 1) := by decide +kernel
theorem dX4_undo_19 : decode cX4_undo 19 = .ok (.getfield 154, 3) := by decide +kernel
theorem dX4_undo_22 : decode cX4_undo 22 = .ok (.iconst 1, 1) := by decide +kernel
theorem dX4_undo_23 : decode cX4_undo 23 = .ok (.isub, 1) := by decide +kernel
theorem dX4_undo_24 : decode cX4_undo 24 = .ok (.putfield 154, 3) := by decide +kernel
theorem dX4_undo_27 : decode cX4_undo 27 = .ok (.aload_n 0, 1) := by decide +kernel
theorem dX4_undo_28 : decode cX4_undo 28 = .ok (.getfield 10, 3) := by decide +kernel
theorem dX4_undo_31 : decode cX4_undo 31 = .ok (.aload_n 0, 1) := by decide +kernel
theorem dX4_undo_32 : decode cX4_undo 32 = .ok (.getfield 19, 3) := by decide +kernel
theorem dX4_undo_35 : decode cX4_undo 35 = .ok (.aload_n 0, 1) := by decide +kernel
theorem dX4_undo_36 : decode cX4_undo 36 = .ok (.getfield 154, 3) := by decide +kernel
theorem dX4_undo_39 : decode cX4_undo 39 = .ok (.aaload, 1) := by decide +kernel
theorem dX4_undo_40 : decode cX4_undo 40 = .ok (.invokevirtual 121, 3) := by decide +kernel
theorem dX4_undo_43 : decode cX4_undo 43 = .ok (.aload_n 0, 1) := by decide +kernel
theorem dX4_undo_44 : decode cX4_undo 44 = .ok (.getfield 154, 3) := by decide +kernel
theorem dX4_undo_47 : decode cX4_undo 47 = .ok (.ireturn, 1) := by decide +kernel
theorem dX4_sibling_0 : decode cX4_sibling 0 = .ok (.iload_n 1, 1) := by decide +kernel
theorem dX4_sibling_1 : decode cX4_sibling 1 = .ok (.iconst 3, 1) := by decide +kernel
theorem dX4_sibling_2 : decode cX4_sibling 2 = .ok (.invokestatic 103, 3) := by decide +kernel
theorem dX4_sibling_5 : decode cX4_sibling 5 = .ok (.iload_n 2, 1) := by decide +kernel
theorem dX4_sibling_6 : decode cX4_sibling 6 = .ok (.iconst 3, 1) := by decide +kernel
theorem dX4_sibling_7 : decode cX4_sibling 7 = .ok (.invokestatic 103, 3) := by decide +kernel
theorem dX4_sibling_10 : decode cX4_sibling 10 = .ok (.iload_n 3, 1) := by decide +kernel
theorem dX4_sibling_11 : decode cX4_sibling 11 = .ok (.iconst 3, 1) := by decide +kernel
theorem dX4_sibling_12 : decode cX4_sibling 12 = .ok (.invokestatic 61, 3) := by decide +kernel
theorem dX4_sibling_15 : decode cX4_sibling 15 = .ok (.iload 4, 2) := by decide +kernel
theorem dX4_sibling_17 : decode cX4_sibling 17 = .ok (.iconst 4, 1) := by decide +kernel
theorem dX4_sibling_18 : decode cX4_sibling 18 = .ok (.invokestatic 61, 3) := by decide +kernel
theorem dX4_sibling_21 : decode cX4_sibling 21 = .ok (.aload_n 0, 1) := by decide +kernel
theorem dX4_sibling_22 : decode cX4_sibling 22 = .ok (.getfield 10, 3) := by decide +kernel
theorem dX4_sibling_25 : decode cX4_sibling 25 = .ok (.getfield 41, 3) := by decide +kernel
theorem dX4_sibling_28 : decode cX4_sibling 28 = .ok (.iload_n 2, 1) := by decide +kernel
theorem dX4_sibling_29 : decode cX4_sibling 29 = .ok (.aaload, 1) := by decide +kernel
theorem dX4_sibling_30 : decode cX4_sibling 30 = .ok (.iload_n 1, 1) := by decide +kernel
theorem dX4_sibling_31 : decode cX4_sibling 31 = .ok (.iload_n 3, 1) := by decide +kernel
theorem dX4_sibling_32 : decode cX4_sibling 32 = .ok (.iload 4, 2) := by decide +kernel
theorem dX4_sibling_34 : decode cX4_sibling 34 = .ok (.invokevirtual 159, 3) := by decide +kernel
theorem dX4_sibling_37 : decode cX4_sibling 37 = .ok (.ireturn, 1) := by decide +kernel
theorem dX4_vector_0 : decode cX4_vector 0 = .ok (.iload_n 3, 1) := by decide +kernel
theorem dX4_vector_1 : decode cX4_vector 1 = .ok (.iload_n 2, 1) := by decide +kernel
theorem dX4_vector_2 : decode cX4_vector 2 = .ok (.iload_n 1, 1) := by decide +kernel
theorem dX4_vector_3 : decode cX4_vector 3 = .ok (.invokestatic 34, 3) := by decide +kernel
theorem dX4_vector_6 : decode cX4_vector 6 = .ok (.aload_n 0, 1) := by decide +kernel
theorem dX4_vector_7 : decode cX4_vector 7 = .ok (.getfield 10, 3) := by decide +kernel
theorem dX4_vector_10 : decode cX4_vector 10 = .ok (.getfield 41, 3) := by decide +kernel
theorem dX4_vector_13 : decode cX4_vector 13 = .ok (.iload_n 2, 1) := by decide +kernel
theorem dX4_vector_14 : decode cX4_vector 14 = .ok (.aaload, 1) := by decide +kernel
theorem dX4_vector_15 : decode cX4_vector 15 = .ok (.getfield 51, 3) := by decide +kernel
theorem dX4_vector_18 : decode cX4_vector 18 = .ok (.iload_n 1, 1) := by decide +kernel
theorem dX4_vector_19 : decode cX4_vector 19 = .ok (.aaload, 1) := by decide +kernel
theorem dX4_vector_20 : decode cX4_vector 20 = .ok (.getfield 162, 3) := by decide +kernel
theorem dX4_vector_23 : decode cX4_vector 23 = .ok (.iload_n 3, 1) := by decide +kernel
theorem dX4_vector_24 : decode cX4_vector 24 = .ok (.iaload, 1) := by decide +kernel
theorem dX4_vector_25 : decode cX4_vector 25 = .ok (.ireturn, 1) := by decide +kernel
theorem dX4_knows_0 : decode cX4_knows 0 = .ok (.iload_n 1, 1) := by decide +kernel
theorem dX4_knows_1 : decode cX4_knows 1 = .ok (.iconst 5, 1) := by decide +kernel
theorem dX4_knows_2 : decode cX4_knows 2 = .ok (.invokestatic 103, 3) := by decide +kernel
theorem dX4_knows_5 : decode cX4_knows 5 = .ok (.iload_n 2, 1) := by decide +kernel
theorem dX4_knows_6 : decode cX4_knows 6 = .ok (.iconst 3, 1) := by decide +kernel
theorem dX4_knows_7 : decode cX4_knows 7 = .ok (.invokestatic 103, 3) := by decide +kernel
theorem dX4_knows_10 : decode cX4_knows 10 = .ok (.iload_n 3, 1) := by decide +kernel
theorem dX4_knows_11 : decode cX4_knows 11 = .ok (.iconst 5, 1) := by decide +kernel
theorem dX4_knows_12 : decode cX4_knows 12 = .ok (.invokestatic 103, 3) := by decide +kernel
theorem dX4_knows_15 : decode cX4_knows 15 = .ok (.aload_n 0, 1) := by decide +kernel
theorem dX4_knows_16 : decode cX4_knows 16 = .ok (.getfield 10, 3) := by decide +kernel
theorem dX4_knows_19 : decode cX4_knows 19 = .ok (.getfield 41, 3) := by decide +kernel
theorem dX4_knows_22 : decode cX4_knows 22 = .ok (.iload_n 2, 1) := by decide +kernel
theorem dX4_knows_23 : decode cX4_knows 23 = .ok (.aaload, 1) := by decide +kernel
theorem dX4_knows_24 : decode cX4_knows 24 = .ok (.getfield 165, 3) := by decide +kernel
theorem dX4_knows_27 : decode cX4_knows 27 = .ok (.iload_n 1, 1) := by decide +kernel
theorem dX4_knows_28 : decode cX4_knows 28 = .ok (.aaload, 1) := by decide +kernel
theorem dX4_knows_29 : decode cX4_knows 29 = .ok (.iload_n 3, 1) := by decide +kernel
theorem dX4_knows_30 : decode cX4_knows 30 = .ok (.iaload, 1) := by decide +kernel
theorem dX4_knows_31 : decode cX4_knows 31 = .ok (.ireturn, 1) := by decide +kernel
theorem dX4_key_0 : decode cX4_key 0 = .ok (.iload_n 1, 1) := by decide +kernel
theorem dX4_key_1 : decode cX4_key 1 = .ok (.iconst 3, 1) := by decide +kernel
theorem dX4_key_2 : decode cX4_key 2 = .ok (.invokestatic 103, 3) := by decide +kernel
theorem dX4_key_5 : decode cX4_key 5 = .ok (.iload_n 2, 1) := by decide +kernel
theorem dX4_key_6 : decode cX4_key 6 = .ok (.bipush 7, 2) := by decide +kernel
theorem dX4_key_8 : decode cX4_key 8 = .ok (.invokestatic 61, 3) := by decide +kernel
theorem dX4_key_11 : decode cX4_key 11 = .ok (.aload_n 0, 1) := by decide +kernel
theorem dX4_key_12 : decode cX4_key 12 = .ok (.getfield 10, 3) := by decide +kernel
theorem dX4_key_15 : decode cX4_key 15 = .ok (.getfield 41, 3) := by decide +kernel
theorem dX4_key_18 : decode cX4_key 18 = .ok (.iload_n 1, 1) := by decide +kernel
theorem dX4_key_19 : decode cX4_key 19 = .ok (.aaload, 1) := by decide +kernel
theorem dX4_key_20 : decode cX4_key 20 = .ok (.iload_n 2, 1) := by decide +kernel
theorem dX4_key_21 : decode cX4_key 21 = .ok (.invokevirtual 169, 3) := by decide +kernel
theorem dX4_key_24 : decode cX4_key 24 = .ok (.ireturn, 1) := by decide +kernel
theorem dX4_count_0 : decode cX4_count 0 = .ok (.iload_n 1, 1) := by decide +kernel
theorem dX4_count_1 : decode cX4_count 1 = .ok (.bipush 7, 2) := by decide +kernel
theorem dX4_count_3 : decode cX4_count 3 = .ok (.invokestatic 61, 3) := by decide +kernel
theorem dX4_count_6 : decode cX4_count 6 = .ok (.aload_n 0, 1) := by decide +kernel
theorem dX4_count_7 : decode cX4_count 7 = .ok (.iload_n 1, 1) := by decide +kernel
theorem dX4_count_8 : decode cX4_count 8 = .ok (.invokevirtual 172, 3) := by decide +kernel
theorem dX4_count_11 : decode cX4_count 11 = .ok (.ireturn, 1) := by decide +kernel
theorem dX4_ifWritten_0 : decode cX4_ifWritten 0 = .ok (.iload_n 1, 1) := by decide +kernel
theorem dX4_ifWritten_1 : decode cX4_ifWritten 1 = .ok (.iload_n 2, 1) := by decide +kernel
theorem dX4_ifWritten_2 : decode cX4_ifWritten 2 = .ok (.iload_n 3, 1) := by decide +kernel
theorem dX4_ifWritten_3 : decode cX4_ifWritten 3 = .ok (.invokestatic 34, 3) := by decide +kernel
theorem dX4_ifWritten_6 : decode cX4_ifWritten 6 = .ok (.iload 4, 2) := by decide +kernel
theorem dX4_ifWritten_8 : decode cX4_ifWritten 8 = .ok (.iconst 1, 1) := by decide +kernel
theorem dX4_ifWritten_9 : decode cX4_ifWritten 9 = .ok (.invokestatic 61, 3) := by decide +kernel
theorem dX4_ifWritten_12 : decode cX4_ifWritten 12 = .ok (.aload_n 0, 1) := by decide +kernel
theorem dX4_ifWritten_13 : decode cX4_ifWritten 13 = .ok (.getfield 10, 3) := by decide +kernel
theorem dX4_ifWritten_16 : decode cX4_ifWritten 16 = .ok (.getfield 41, 3) := by decide +kernel
theorem dX4_ifWritten_19 : decode cX4_ifWritten 19 = .ok (.iload_n 2, 1) := by decide +kernel
theorem dX4_ifWritten_20 : decode cX4_ifWritten 20 = .ok (.aaload, 1) := by decide +kernel
theorem dX4_ifWritten_21 : decode cX4_ifWritten 21 = .ok (.iload_n 1, 1) := by decide +kernel
theorem dX4_ifWritten_22 : decode cX4_ifWritten 22 = .ok (.iload_n 3, 1) := by decide +kernel
theorem dX4_ifWritten_23 : decode cX4_ifWritten 23 = .ok (.iload 4, 2) := by decide +kernel
theorem dX4_ifWritten_25 : decode cX4_ifWritten 25 = .ok (.invokevirtual 175, 3) := by decide +kernel
theorem dX4_ifWritten_28 : decode cX4_ifWritten 28 = .ok (.ireturn, 1) := by decide +kernel
theorem dX4_ifPulled_0 : decode cX4_ifPulled 0 = .ok (.iload_n 1, 1) := by decide +kernel
theorem dX4_ifPulled_1 : decode cX4_ifPulled 1 = .ok (.iload_n 2, 1) := by decide +kernel
theorem dX4_ifPulled_2 : decode cX4_ifPulled 2 = .ok (.iload_n 3, 1) := by decide +kernel
theorem dX4_ifPulled_3 : decode cX4_ifPulled 3 = .ok (.invokestatic 79, 3) := by decide +kernel
theorem dX4_ifPulled_6 : decode cX4_ifPulled 6 = .ok (.iload 4, 2) := by decide +kernel
theorem dX4_ifPulled_8 : decode cX4_ifPulled 8 = .ok (.iconst 2, 1) := by decide +kernel
theorem dX4_ifPulled_9 : decode cX4_ifPulled 9 = .ok (.invokestatic 61, 3) := by decide +kernel
theorem dX4_ifPulled_12 : decode cX4_ifPulled 12 = .ok (.aload_n 0, 1) := by decide +kernel
theorem dX4_ifPulled_13 : decode cX4_ifPulled 13 = .ok (.getfield 10, 3) := by decide +kernel
theorem dX4_ifPulled_16 : decode cX4_ifPulled 16 = .ok (.getfield 41, 3) := by decide +kernel
theorem dX4_ifPulled_19 : decode cX4_ifPulled 19 = .ok (.iload_n 3, 1) := by decide +kernel
theorem dX4_ifPulled_20 : decode cX4_ifPulled 20 = .ok (.aaload, 1) := by decide +kernel
theorem dX4_ifPulled_21 : decode cX4_ifPulled 21 = .ok (.iload_n 1, 1) := by decide +kernel
theorem dX4_ifPulled_22 : decode cX4_ifPulled 22 = .ok (.iload_n 2, 1) := by decide +kernel
theorem dX4_ifPulled_23 : decode cX4_ifPulled 23 = .ok (.iload 4, 2) := by decide +kernel
theorem dX4_ifPulled_25 : decode cX4_ifPulled 25 = .ok (.invokevirtual 178, 3) := by decide +kernel
theorem dX4_ifPulled_28 : decode cX4_ifPulled 28 = .ok (.ireturn, 1) := by decide +kernel
theorem dX4_whyNot_0 : decode cX4_whyNot 0 = .ok (.iload_n 1, 1) := by decide +kernel
theorem dX4_whyNot_1 : decode cX4_whyNot 1 = .ok (.iconst 5, 1) := by decide +kernel
theorem dX4_whyNot_2 : decode cX4_whyNot 2 = .ok (.invokestatic 103, 3) := by decide +kernel
theorem dX4_whyNot_5 : decode cX4_whyNot 5 = .ok (.iload_n 2, 1) := by decide +kernel
theorem dX4_whyNot_6 : decode cX4_whyNot 6 = .ok (.iconst 3, 1) := by decide +kernel
theorem dX4_whyNot_7 : decode cX4_whyNot 7 = .ok (.invokestatic 103, 3) := by decide +kernel
theorem dX4_whyNot_10 : decode cX4_whyNot 10 = .ok (.aload_n 0, 1) := by decide +kernel
theorem dX4_whyNot_11 : decode cX4_whyNot 11 = .ok (.getfield 10, 3) := by decide +kernel
theorem dX4_whyNot_14 : decode cX4_whyNot 14 = .ok (.getfield 41, 3) := by decide +kernel
theorem dX4_whyNot_17 : decode cX4_whyNot 17 = .ok (.iload_n 2, 1) := by decide +kernel
theorem dX4_whyNot_18 : decode cX4_whyNot 18 = .ok (.aaload, 1) := by decide +kernel
theorem dX4_whyNot_19 : decode cX4_whyNot 19 = .ok (.iload_n 1, 1) := by decide +kernel
theorem dX4_whyNot_20 : decode cX4_whyNot 20 = .ok (.invokevirtual 109, 3) := by decide +kernel
theorem dX4_whyNot_23 : decode cX4_whyNot 23 = .ok (.ireturn, 1) := by decide +kernel
theorem dX4_agreement_0 : decode cX4_agreement 0 = .ok (.aload_n 0, 1) := by decide +kernel
theorem dX4_agreement_1 : decode cX4_agreement 1 = .ok (.invokevirtual 181, 3) := by decide +kernel
theorem dX4_agreement_4 : decode cX4_agreement 4 = .ok (.dreturn, 1) := by decide +kernel
theorem dX4_digest_0 : decode cX4_digest 0 = .ok (.ldc2_w 185, 3) := by decide +kernel
theorem dX4_digest_3 : decode cX4_digest 3 = .ok (.lstore_n 1, 1) := by decide +kernel
theorem dX4_digest_4 : decode cX4_digest 4 = .ok (.iconst 0, 1) := by decide +kernel
theorem dX4_digest_5 : decode cX4_digest 5 = .ok (.istore_n 3, 1) := by decide +kernel
theorem dX4_digest_6 : decode cX4_digest 6 = .ok (.iload_n 3, 1) := by decide +kernel
theorem dX4_digest_7 : decode cX4_digest 7 = .ok (.bipush 7, 2) := by decide +kernel
theorem dX4_digest_9 : decode cX4_digest 9 = .ok (.if_icmp .gt 20, 3) := by decide +kernel
theorem dX4_digest_12 : decode cX4_digest 12 = .ok (.lload_n 1, 1) := by decide +kernel
theorem dX4_digest_13 : decode cX4_digest 13 = .ok (.aload_n 0, 1) := by decide +kernel
theorem dX4_digest_14 : decode cX4_digest 14 = .ok (.iload_n 3, 1) := by decide +kernel
theorem dX4_digest_15 : decode cX4_digest 15 = .ok (.invokevirtual 172, 3) := by decide +kernel
theorem dX4_digest_18 : decode cX4_digest 18 = .ok (.i2l, 1) := by decide +kernel
theorem dX4_digest_19 : decode cX4_digest 19 = .ok (.invokestatic 187, 3) := by decide +kernel
theorem dX4_digest_22 : decode cX4_digest 22 = .ok (.lstore_n 1, 1) := by decide +kernel
theorem dX4_digest_23 : decode cX4_digest 23 = .ok (.iinc 3 1, 3) := by decide +kernel
theorem dX4_digest_26 : decode cX4_digest 26 = .ok (.goto (-20), 3) := by decide +kernel
theorem dX4_digest_29 : decode cX4_digest 29 = .ok (.iconst 0, 1) := by decide +kernel
theorem dX4_digest_30 : decode cX4_digest 30 = .ok (.istore_n 3, 1) := by decide +kernel
theorem dX4_digest_31 : decode cX4_digest 31 = .ok (.iload_n 3, 1) := by decide +kernel
theorem dX4_digest_32 : decode cX4_digest 32 = .ok (.iconst 3, 1) := by decide +kernel
theorem dX4_digest_33 : decode cX4_digest 33 = .ok (.if_icmp .ge 23, 3) := by decide +kernel
theorem dX4_digest_36 : decode cX4_digest 36 = .ok (.lload_n 1, 1) := by decide +kernel
theorem dX4_digest_37 : decode cX4_digest 37 = .ok (.aload_n 0, 1) := by decide +kernel
theorem dX4_digest_38 : decode cX4_digest 38 = .ok (.getfield 10, 3) := by decide +kernel
theorem dX4_digest_41 : decode cX4_digest 41 = .ok (.getfield 41, 3) := by decide +kernel
theorem dX4_digest_44 : decode cX4_digest 44 = .ok (.iload_n 3, 1) := by decide +kernel
theorem dX4_digest_45 : decode cX4_digest 45 = .ok (.aaload, 1) := by decide +kernel
theorem dX4_digest_46 : decode cX4_digest 46 = .ok (.invokestatic 191, 3) := by decide +kernel
theorem dX4_digest_49 : decode cX4_digest 49 = .ok (.lstore_n 1, 1) := by decide +kernel
theorem dX4_digest_50 : decode cX4_digest 50 = .ok (.iinc 3 1, 3) := by decide +kernel
theorem dX4_digest_53 : decode cX4_digest 53 = .ok (.goto (-22), 3) := by decide +kernel
theorem dX4_digest_56 : decode cX4_digest 56 = .ok (.iconst 0, 1) := by decide +kernel
theorem dX4_digest_57 : decode cX4_digest 57 = .ok (.istore_n 3, 1) := by decide +kernel
theorem dX4_digest_58 : decode cX4_digest 58 = .ok (.iload_n 3, 1) := by decide +kernel
theorem dX4_digest_59 : decode cX4_digest 59 = .ok (.iconst 3, 1) := by decide +kernel
theorem dX4_digest_60 : decode cX4_digest 60 = .ok (.if_icmp .ge 46, 3) := by decide +kernel
theorem dX4_digest_63 : decode cX4_digest 63 = .ok (.iconst 0, 1) := by decide +kernel
theorem dX4_digest_64 : decode cX4_digest 64 = .ok (.istore 4, 2) := by decide +kernel
theorem dX4_digest_66 : decode cX4_digest 66 = .ok (.iload 4, 2) := by decide +kernel
theorem dX4_digest_68 : decode cX4_digest 68 = .ok (.iconst 2, 1) := by decide +kernel
theorem dX4_digest_69 : decode cX4_digest 69 = .ok (.if_icmp .gt 31, 3) := by decide +kernel
theorem dX4_digest_72 : decode cX4_digest 72 = .ok (.lload_n 1, 1) := by decide +kernel
theorem dX4_digest_73 : decode cX4_digest 73 = .ok (.aload_n 0, 1) := by decide +kernel
theorem dX4_digest_74 : decode cX4_digest 74 = .ok (.getfield 10, 3) := by decide +kernel
theorem dX4_digest_77 : decode cX4_digest 77 = .ok (.getfield 41, 3) := by decide +kernel
theorem dX4_digest_80 : decode cX4_digest 80 = .ok (.iload_n 3, 1) := by decide +kernel
theorem dX4_digest_81 : decode cX4_digest 81 = .ok (.aaload, 1) := by decide +kernel
theorem dX4_digest_82 : decode cX4_digest 82 = .ok (.iconst 1, 1) := by decide +kernel
theorem dX4_digest_83 : decode cX4_digest 83 = .ok (.iconst 0, 1) := by decide +kernel
theorem dX4_digest_84 : decode cX4_digest 84 = .ok (.iload 4, 2) := by decide +kernel
theorem dX4_digest_86 : decode cX4_digest 86 = .ok (.invokevirtual 178, 3) := by decide +kernel
theorem dX4_digest_89 : decode cX4_digest 89 = .ok (.i2l, 1) := by decide +kernel
theorem dX4_digest_90 : decode cX4_digest 90 = .ok (.invokestatic 187, 3) := by decide +kernel
theorem dX4_digest_93 : decode cX4_digest 93 = .ok (.lstore_n 1, 1) := by decide +kernel
theorem dX4_digest_94 : decode cX4_digest 94 = .ok (.iinc 4 1, 3) := by decide +kernel
theorem dX4_digest_97 : decode cX4_digest 97 = .ok (.goto (-31), 3) := by decide +kernel
theorem dX4_digest_100 : decode cX4_digest 100 = .ok (.iinc 3 1, 3) := by decide +kernel
theorem dX4_digest_103 : decode cX4_digest 103 = .ok (.goto (-45), 3) := by decide +kernel
theorem dX4_digest_106 : decode cX4_digest 106 = .ok (.lload_n 1, 1) := by decide +kernel
theorem dX4_digest_107 : decode cX4_digest 107 = .ok (.aload_n 0, 1) := by decide +kernel
theorem dX4_digest_108 : decode cX4_digest 108 = .ok (.invokevirtual 181, 3) := by decide +kernel
theorem dX4_digest_111 : decode cX4_digest 111 = .ok (.invokestatic 195, 3) := by decide +kernel
theorem dX4_digest_114 : decode cX4_digest 114 = .ok (.invokestatic 187, 3) := by decide +kernel
theorem dX4_digest_117 : decode cX4_digest 117 = .ok (.lstore_n 1, 1) := by decide +kernel
theorem dX4_digest_118 : decode cX4_digest 118 = .ok (.lload_n 1, 1) := by decide +kernel
theorem dX4_digest_119 : decode cX4_digest 119 = .ok (.aload_n 0, 1) := by decide +kernel
theorem dX4_digest_120 : decode cX4_digest 120 = .ok (.getfield 137, 3) := by decide +kernel
theorem dX4_digest_123 : decode cX4_digest 123 = .ok (.i2l, 1) := by decide +kernel
theorem dX4_digest_124 : decode cX4_digest 124 = .ok (.invokestatic 187, 3) := by decide +kernel
theorem dX4_digest_127 : decode cX4_digest 127 = .ok (.lstore_n 1, 1) := by decide +kernel
theorem dX4_digest_128 : decode cX4_digest 128 = .ok (.iconst 0, 1) := by decide +kernel
theorem dX4_digest_129 : decode cX4_digest 129 = .ok (.istore_n 3, 1) := by decide +kernel
theorem dX4_digest_130 : decode cX4_digest 130 = .ok (.iload_n 3, 1) := by decide +kernel
theorem dX4_digest_131 : decode cX4_digest 131 = .ok (.aload_n 0, 1) := by decide +kernel
theorem dX4_digest_132 : decode cX4_digest 132 = .ok (.getfield 137, 3) := by decide +kernel
theorem dX4_digest_135 : decode cX4_digest 135 = .ok (.if_icmp .ge 21, 3) := by decide +kernel
theorem dX4_digest_138 : decode cX4_digest 138 = .ok (.lload_n 1, 1) := by decide +kernel
theorem dX4_digest_139 : decode cX4_digest 139 = .ok (.aload_n 0, 1) := by decide +kernel
theorem dX4_digest_140 : decode cX4_digest 140 = .ok (.getfield 23, 3) := by decide +kernel
theorem dX4_digest_143 : decode cX4_digest 143 = .ok (.iload_n 3, 1) := by decide +kernel
theorem dX4_digest_144 : decode cX4_digest 144 = .ok (.iaload, 1) := by decide +kernel
theorem dX4_digest_145 : decode cX4_digest 145 = .ok (.i2l, 1) := by decide +kernel
theorem dX4_digest_146 : decode cX4_digest 146 = .ok (.invokestatic 187, 3) := by decide +kernel
theorem dX4_digest_149 : decode cX4_digest 149 = .ok (.lstore_n 1, 1) := by decide +kernel
theorem dX4_digest_150 : decode cX4_digest 150 = .ok (.iinc 3 1, 3) := by decide +kernel
theorem dX4_digest_153 : decode cX4_digest 153 = .ok (.goto (-23), 3) := by decide +kernel
theorem dX4_digest_156 : decode cX4_digest 156 = .ok (.lload_n 1, 1) := by decide +kernel
theorem dX4_digest_157 : decode cX4_digest 157 = .ok (.lreturn, 1) := by decide +kernel
theorem dX4_checkIndex_0 : decode cX4_checkIndex 0 = .ok (.iload_n 0, 1) := by decide +kernel
theorem dX4_checkIndex_1 : decode cX4_checkIndex 1 = .ok (.ifCond .lt 8, 3) := by decide +kernel
theorem dX4_checkIndex_4 : decode cX4_checkIndex 4 = .ok (.iload_n 0, 1) := by decide +kernel
theorem dX4_checkIndex_5 : decode cX4_checkIndex 5 = .ok (.iload_n 1, 1) := by decide +kernel
theorem dX4_checkIndex_6 : decode cX4_checkIndex 6 = .ok (.if_icmp .lt 13, 3) := by decide +kernel
theorem dX4_checkIndex_9 : decode cX4_checkIndex 9 = .ok (.new 199, 3) := by decide +kernel
theorem dX4_checkIndex_12 : decode cX4_checkIndex 12 = .ok (.dup, 1) := by decide +kernel
theorem dX4_checkIndex_13 : decode cX4_checkIndex 13 = .ok (.ldc 201, 2) := by decide +kernel
theorem dX4_checkIndex_15 : decode cX4_checkIndex 15 = .ok (.invokespecial 203, 3) := by decide +kernel
theorem dX4_checkIndex_18 : decode cX4_checkIndex 18 = .ok (.athrow, 1) := by decide +kernel
theorem dX4_checkIndex_19 : decode cX4_checkIndex 19 = .ok (.return_, 1) := by decide +kernel
theorem dX4_checkUpTo_0 : decode cX4_checkUpTo 0 = .ok (.iload_n 0, 1) := by decide +kernel
theorem dX4_checkUpTo_1 : decode cX4_checkUpTo 1 = .ok (.ifCond .lt 8, 3) := by decide +kernel
theorem dX4_checkUpTo_4 : decode cX4_checkUpTo 4 = .ok (.iload_n 0, 1) := by decide +kernel
theorem dX4_checkUpTo_5 : decode cX4_checkUpTo 5 = .ok (.iload_n 1, 1) := by decide +kernel
theorem dX4_checkUpTo_6 : decode cX4_checkUpTo 6 = .ok (.if_icmp .le 13, 3) := by decide +kernel
theorem dX4_checkUpTo_9 : decode cX4_checkUpTo 9 = .ok (.new 132, 3) := by decide +kernel
theorem dX4_checkUpTo_12 : decode cX4_checkUpTo 12 = .ok (.dup, 1) := by decide +kernel
theorem dX4_checkUpTo_13 : decode cX4_checkUpTo 13 = .ok (.ldc 204, 2) := by decide +kernel
theorem dX4_checkUpTo_15 : decode cX4_checkUpTo 15 = .ok (.invokespecial 136, 3) := by decide +kernel
theorem dX4_checkUpTo_18 : decode cX4_checkUpTo 18 = .ok (.athrow, 1) := by decide +kernel
theorem dX4_checkUpTo_19 : decode cX4_checkUpTo 19 = .ok (.return_, 1) := by decide +kernel
theorem dX4_checkWriterKeyStore_0 : decode cX4_checkWriterKeyStore 0 = .ok (.iload_n 0, 1) := by decide +kernel
theorem dX4_checkWriterKeyStore_1 : decode cX4_checkWriterKeyStore 1 = .ok (.iconst 5, 1) := by decide +kernel
theorem dX4_checkWriterKeyStore_2 : decode cX4_checkWriterKeyStore 2 = .ok (.invokestatic 103, 3) := by decide +kernel
theorem dX4_checkWriterKeyStore_5 : decode cX4_checkWriterKeyStore 5 = .ok (.iload_n 1, 1) := by decide +kernel
theorem dX4_checkWriterKeyStore_6 : decode cX4_checkWriterKeyStore 6 = .ok (.iconst 3, 1) := by decide +kernel
theorem dX4_checkWriterKeyStore_7 : decode cX4_checkWriterKeyStore 7 = .ok (.invokestatic 103, 3) := by decide +kernel
theorem dX4_checkWriterKeyStore_10 : decode cX4_checkWriterKeyStore 10 = .ok (.iload_n 2, 1) := by decide +kernel
theorem dX4_checkWriterKeyStore_11 : decode cX4_checkWriterKeyStore 11 = .ok (.iconst 3, 1) := by decide +kernel
theorem dX4_checkWriterKeyStore_12 : decode cX4_checkWriterKeyStore 12 = .ok (.invokestatic 103, 3) := by decide +kernel
theorem dX4_checkWriterKeyStore_15 : decode cX4_checkWriterKeyStore 15 = .ok (.return_, 1) := by decide +kernel
theorem dX4_checkTwoStores_0 : decode cX4_checkTwoStores 0 = .ok (.iload_n 0, 1) := by decide +kernel
theorem dX4_checkTwoStores_1 : decode cX4_checkTwoStores 1 = .ok (.iconst 3, 1) := by decide +kernel
theorem dX4_checkTwoStores_2 : decode cX4_checkTwoStores 2 = .ok (.invokestatic 103, 3) := by decide +kernel
theorem dX4_checkTwoStores_5 : decode cX4_checkTwoStores 5 = .ok (.iload_n 1, 1) := by decide +kernel
theorem dX4_checkTwoStores_6 : decode cX4_checkTwoStores 6 = .ok (.iconst 3, 1) := by decide +kernel
theorem dX4_checkTwoStores_7 : decode cX4_checkTwoStores 7 = .ok (.invokestatic 103, 3) := by decide +kernel
theorem dX4_checkTwoStores_10 : decode cX4_checkTwoStores 10 = .ok (.iload_n 2, 1) := by decide +kernel
theorem dX4_checkTwoStores_11 : decode cX4_checkTwoStores 11 = .ok (.iconst 3, 1) := by decide +kernel
theorem dX4_checkTwoStores_12 : decode cX4_checkTwoStores 12 = .ok (.invokestatic 103, 3) := by decide +kernel
theorem dX4_checkTwoStores_15 : decode cX4_checkTwoStores 15 = .ok (.iload_n 0, 1) := by decide +kernel
theorem dX4_checkTwoStores_16 : decode cX4_checkTwoStores 16 = .ok (.iload_n 1, 1) := by decide +kernel
theorem dX4_checkTwoStores_17 : decode cX4_checkTwoStores 17 = .ok (.if_icmp .ne 13, 3) := by decide +kernel
theorem dX4_checkTwoStores_20 : decode cX4_checkTwoStores 20 = .ok (.new 132, 3) := by decide +kernel
theorem dX4_checkTwoStores_23 : decode cX4_checkTwoStores 23 = .ok (.dup, 1) := by decide +kernel
theorem dX4_checkTwoStores_24 : decode cX4_checkTwoStores 24 = .ok (.ldc 206, 2) := by decide +kernel
theorem dX4_checkTwoStores_26 : decode cX4_checkTwoStores 26 = .ok (.invokespecial 136, 3) := by decide +kernel
theorem dX4_checkTwoStores_29 : decode cX4_checkTwoStores 29 = .ok (.athrow, 1) := by decide +kernel
theorem dX4_checkTwoStores_30 : decode cX4_checkTwoStores 30 = .ok (.return_, 1) := by decide +kernel
theorem dX4_save_0 : decode cX4_save 0 = .ok (.aload_n 0, 1) := by decide +kernel
theorem dX4_save_1 : decode cX4_save 1 = .ok (.getfield 154, 3) := by decide +kernel
theorem dX4_save_4 : decode cX4_save 4 = .ok (.bipush 6, 2) := by decide +kernel
theorem dX4_save_6 : decode cX4_save 6 = .ok (.if_icmp .ne 7, 3) := by decide +kernel
theorem dX4_save_9 : decode cX4_save 9 = .ok (.aload_n 0, 1) := by decide +kernel
theorem dX4_save_10 : decode cX4_save 10 = .ok (.invokevirtual 208, 3) := by decide +kernel
theorem dX4_save_13 : decode cX4_save 13 = .ok (.aload_n 0, 1) := by decide +kernel
theorem dX4_save_14 : decode cX4_save 14 = .ok (.getfield 19, 3) := by decide +kernel
theorem dX4_save_17 : decode cX4_save 17 = .ok (.aload_n 0, 1) := by decide +kernel
theorem dX4_save_18 : decode cX4_save 18 = .ok (.getfield 154, 3) := by decide +kernel
theorem dX4_save_21 : decode cX4_save 21 = .ok (.aaload, 1) := by decide +kernel
theorem dX4_save_22 : decode cX4_save 22 = .ok (.aload_n 0, 1) := by decide +kernel
theorem dX4_save_23 : decode cX4_save 23 = .ok (.getfield 10, 3) := by decide +kernel
theorem dX4_save_26 : decode cX4_save 26 = .ok (.invokevirtual 121, 3) := by decide +kernel
theorem dX4_save_29 : decode cX4_save 29 = .ok (.aload_n 0, 1) := by decide +kernel
theorem dX4_save_30 : decode cX4_save 30 = .ok (.dup, 1) := by decide +kernel
theorem dX4_save_31 : decode cX4_save 31 = .ok (.getfield 154, 3) := by decide +kernel
theorem dX4_save_34 : decode cX4_save 34 = .ok (.iconst 1, 1) := by decide +kernel
theorem dX4_save_35 : decode cX4_save 35 = .ok (.iadd, 1) := by decide +kernel
theorem dX4_save_36 : decode cX4_save 36 = .ok (.putfield 154, 3) := by decide +kernel
theorem dX4_save_39 : decode cX4_save 39 = .ok (.return_, 1) := by decide +kernel
theorem dX4_dropOldest_0 : decode cX4_dropOldest 0 = .ok (.aload_n 0, 1) := by decide +kernel
theorem dX4_dropOldest_1 : decode cX4_dropOldest 1 = .ok (.getfield 19, 3) := by decide +kernel
theorem dX4_dropOldest_4 : decode cX4_dropOldest 4 = .ok (.iconst 0, 1) := by decide +kernel
theorem dX4_dropOldest_5 : decode cX4_dropOldest 5 = .ok (.aaload, 1) := by decide +kernel
theorem dX4_dropOldest_6 : decode cX4_dropOldest 6 = .ok (.astore_n 1, 1) := by decide +kernel
theorem dX4_dropOldest_7 : decode cX4_dropOldest 7 = .ok (.iconst 1, 1) := by decide +kernel
theorem dX4_dropOldest_8 : decode cX4_dropOldest 8 = .ok (.istore_n 2, 1) := by decide +kernel
theorem dX4_dropOldest_9 : decode cX4_dropOldest 9 = .ok (.iload_n 2, 1) := by decide +kernel
theorem dX4_dropOldest_10 : decode cX4_dropOldest 10 = .ok (.bipush 6, 2) := by decide +kernel
theorem dX4_dropOldest_12 : decode cX4_dropOldest 12 = .ok (.if_icmp .ge 23, 3) := by decide +kernel
theorem dX4_dropOldest_15 : decode cX4_dropOldest 15 = .ok (.aload_n 0, 1) := by decide +kernel
theorem dX4_dropOldest_16 : decode cX4_dropOldest 16 = .ok (.getfield 19, 3) := by decide +kernel
theorem dX4_dropOldest_19 : decode cX4_dropOldest 19 = .ok (.iload_n 2, 1) := by decide +kernel
theorem dX4_dropOldest_20 : decode cX4_dropOldest 20 = .ok (.iconst 1, 1) := by decide +kernel
theorem dX4_dropOldest_21 : decode cX4_dropOldest 21 = .ok (.isub, 1) := by decide +kernel
theorem dX4_dropOldest_22 : decode cX4_dropOldest 22 = .ok (.aload_n 0, 1) := by decide +kernel
theorem dX4_dropOldest_23 : decode cX4_dropOldest 23 = .ok (.getfield 19, 3) := by decide +kernel
theorem dX4_dropOldest_26 : decode cX4_dropOldest 26 = .ok (.iload_n 2, 1) := by decide +kernel
theorem dX4_dropOldest_27 : decode cX4_dropOldest 27 = .ok (.aaload, 1) := by decide +kernel
theorem dX4_dropOldest_28 : decode cX4_dropOldest 28 = .ok (.aastore, 1) := by decide +kernel
theorem dX4_dropOldest_29 : decode cX4_dropOldest 29 = .ok (.iinc 2 1, 3) := by decide +kernel
theorem dX4_dropOldest_32 : decode cX4_dropOldest 32 = .ok (.goto (-23), 3) := by decide +kernel
theorem dX4_dropOldest_35 : decode cX4_dropOldest 35 = .ok (.aload_n 0, 1) := by decide +kernel
theorem dX4_dropOldest_36 : decode cX4_dropOldest 36 = .ok (.getfield 19, 3) := by decide +kernel
theorem dX4_dropOldest_39 : decode cX4_dropOldest 39 = .ok (.iconst 5, 1) := by decide +kernel
theorem dX4_dropOldest_40 : decode cX4_dropOldest 40 = .ok (.aload_n 1, 1) := by decide +kernel
theorem dX4_dropOldest_41 : decode cX4_dropOldest 41 = .ok (.aastore, 1) := by decide +kernel
theorem dX4_dropOldest_42 : decode cX4_dropOldest 42 = .ok (.aload_n 0, 1) := by decide +kernel
theorem dX4_dropOldest_43 : decode cX4_dropOldest 43 = .ok (.iconst 5, 1) := by decide +kernel
theorem dX4_dropOldest_44 : decode cX4_dropOldest 44 = .ok (.putfield 154, 3) := by decide +kernel
theorem dX4_dropOldest_47 : decode cX4_dropOldest 47 = .ok (.return_, 1) := by decide +kernel
theorem dX4_scanBuffer_0 : decode cX4_scanBuffer 0 = .ok (.aload_n 0, 1) := by decide +kernel
theorem dX4_scanBuffer_1 : decode cX4_scanBuffer 1 = .ok (.getfield 30, 3) := by decide +kernel
theorem dX4_scanBuffer_4 : decode cX4_scanBuffer 4 = .ok (.invokevirtual 211, 3) := by decide +kernel
theorem dX4_scanBuffer_7 : decode cX4_scanBuffer 7 = .ok (.iconst 0, 1) := by decide +kernel
theorem dX4_scanBuffer_8 : decode cX4_scanBuffer 8 = .ok (.istore_n 1, 1) := by decide +kernel
theorem dX4_scanBuffer_9 : decode cX4_scanBuffer 9 = .ok (.iload_n 1, 1) := by decide +kernel
theorem dX4_scanBuffer_10 : decode cX4_scanBuffer 10 = .ok (.aload_n 0, 1) := by decide +kernel
theorem dX4_scanBuffer_11 : decode cX4_scanBuffer 11 = .ok (.getfield 137, 3) := by decide +kernel
theorem dX4_scanBuffer_14 : decode cX4_scanBuffer 14 = .ok (.if_icmp .ge 27, 3) := by decide +kernel
theorem dX4_scanBuffer_17 : decode cX4_scanBuffer 17 = .ok (.aload_n 0, 1) := by decide +kernel
theorem dX4_scanBuffer_18 : decode cX4_scanBuffer 18 = .ok (.getfield 30, 3) := by decide +kernel
theorem dX4_scanBuffer_21 : decode cX4_scanBuffer 21 = .ok (.aload_n 0, 1) := by decide +kernel
theorem dX4_scanBuffer_22 : decode cX4_scanBuffer 22 = .ok (.getfield 23, 3) := by decide +kernel
theorem dX4_scanBuffer_25 : decode cX4_scanBuffer 25 = .ok (.iload_n 1, 1) := by decide +kernel
theorem dX4_scanBuffer_26 : decode cX4_scanBuffer 26 = .ok (.iaload, 1) := by decide +kernel
theorem dX4_scanBuffer_27 : decode cX4_scanBuffer 27 = .ok (.invokevirtual 214, 3) := by decide +kernel
theorem dX4_scanBuffer_30 : decode cX4_scanBuffer 30 = .ok (.ifCond .ne 5, 3) := by decide +kernel
theorem dX4_scanBuffer_33 : decode cX4_scanBuffer 33 = .ok (.iload_n 1, 1) := by decide +kernel
theorem dX4_scanBuffer_34 : decode cX4_scanBuffer 34 = .ok (.ireturn, 1) := by decide +kernel
theorem dX4_scanBuffer_35 : decode cX4_scanBuffer 35 = .ok (.iinc 1 1, 3) := by decide +kernel
theorem dX4_scanBuffer_38 : decode cX4_scanBuffer 38 = .ok (.goto (-29), 3) := by decide +kernel
theorem dX4_scanBuffer_41 : decode cX4_scanBuffer 41 = .ok (.aload_n 0, 1) := by decide +kernel
theorem dX4_scanBuffer_42 : decode cX4_scanBuffer 42 = .ok (.getfield 137, 3) := by decide +kernel
theorem dX4_scanBuffer_45 : decode cX4_scanBuffer 45 = .ok (.ireturn, 1) := by decide +kernel
theorem dX4_runParts_0 : decode cX4_runParts 0 = .ok (.aload_n 0, 1) := by decide +kernel
theorem dX4_runParts_1 : decode cX4_runParts 1 = .ok (.getfield 30, 3) := by decide +kernel
theorem dX4_runParts_4 : decode cX4_runParts 4 = .ok (.invokevirtual 211, 3) := by decide +kernel
theorem dX4_runParts_7 : decode cX4_runParts 7 = .ok (.iconst 0, 1) := by decide +kernel
theorem dX4_runParts_8 : decode cX4_runParts 8 = .ok (.istore_n 1, 1) := by decide +kernel
theorem dX4_runParts_9 : decode cX4_runParts 9 = .ok (.iconst 0, 1) := by decide +kernel
theorem dX4_runParts_10 : decode cX4_runParts 10 = .ok (.istore_n 2, 1) := by decide +kernel
theorem dX4_runParts_11 : decode cX4_runParts 11 = .ok (.iload_n 2, 1) := by decide +kernel
theorem dX4_runParts_12 : decode cX4_runParts 12 = .ok (.aload_n 0, 1) := by decide +kernel
theorem dX4_runParts_13 : decode cX4_runParts 13 = .ok (.getfield 137, 3) := by decide +kernel
theorem dX4_runParts_16 : decode cX4_runParts 16 = .ok (.if_icmp .ge 46, 3) := by decide +kernel
theorem dX4_runParts_19 : decode cX4_runParts 19 = .ok (.aload_n 0, 1) := by decide +kernel
theorem dX4_runParts_20 : decode cX4_runParts 20 = .ok (.getfield 23, 3) := by decide +kernel
theorem dX4_runParts_23 : decode cX4_runParts 23 = .ok (.iload_n 2, 1) := by decide +kernel
theorem dX4_runParts_24 : decode cX4_runParts 24 = .ok (.iaload, 1) := by decide +kernel
theorem dX4_runParts_25 : decode cX4_runParts 25 = .ok (.bipush 59, 2) := by decide +kernel
theorem dX4_runParts_27 : decode cX4_runParts 27 = .ok (.if_icmp .ne 15, 3) := by decide +kernel
theorem dX4_runParts_30 : decode cX4_runParts 30 = .ok (.aload_n 0, 1) := by decide +kernel
theorem dX4_runParts_31 : decode cX4_runParts 31 = .ok (.invokevirtual 218, 3) := by decide +kernel
theorem dX4_runParts_34 : decode cX4_runParts 34 = .ok (.ifCond .ne 5, 3) := by decide +kernel
theorem dX4_runParts_37 : decode cX4_runParts 37 = .ok (.iload_n 1, 1) := by decide +kernel
theorem dX4_runParts_38 : decode cX4_runParts 38 = .ok (.ireturn, 1) := by decide +kernel
theorem dX4_runParts_39 : decode cX4_runParts 39 = .ok (.iinc 1 1, 3) := by decide +kernel
theorem dX4_runParts_42 : decode cX4_runParts 42 = .ok (.aload_n 0, 1) := by decide +kernel
theorem dX4_runParts_43 : decode cX4_runParts 43 = .ok (.getfield 30, 3) := by decide +kernel
theorem dX4_runParts_46 : decode cX4_runParts 46 = .ok (.aload_n 0, 1) := by decide +kernel
theorem dX4_runParts_47 : decode cX4_runParts 47 = .ok (.getfield 23, 3) := by decide +kernel
theorem dX4_runParts_50 : decode cX4_runParts 50 = .ok (.iload_n 2, 1) := by decide +kernel
theorem dX4_runParts_51 : decode cX4_runParts 51 = .ok (.iaload, 1) := by decide +kernel
theorem dX4_runParts_52 : decode cX4_runParts 52 = .ok (.invokevirtual 214, 3) := by decide +kernel
theorem dX4_runParts_55 : decode cX4_runParts 55 = .ok (.pop, 1) := by decide +kernel
theorem dX4_runParts_56 : decode cX4_runParts 56 = .ok (.iinc 2 1, 3) := by decide +kernel
theorem dX4_runParts_59 : decode cX4_runParts 59 = .ok (.goto (-48), 3) := by decide +kernel
theorem dX4_runParts_62 : decode cX4_runParts 62 = .ok (.aload_n 0, 1) := by decide +kernel
theorem dX4_runParts_63 : decode cX4_runParts 63 = .ok (.invokevirtual 218, 3) := by decide +kernel
theorem dX4_runParts_66 : decode cX4_runParts 66 = .ok (.ifCond .eq 9, 3) := by decide +kernel
theorem dX4_runParts_69 : decode cX4_runParts 69 = .ok (.iload_n 1, 1) := by decide +kernel
theorem dX4_runParts_70 : decode cX4_runParts 70 = .ok (.iconst 1, 1) := by decide +kernel
theorem dX4_runParts_71 : decode cX4_runParts 71 = .ok (.iadd, 1) := by decide +kernel
theorem dX4_runParts_72 : decode cX4_runParts 72 = .ok (.goto 4, 3) := by decide +kernel
theorem dX4_runParts_75 : decode cX4_runParts 75 = .ok (.iload_n 1, 1) := by decide +kernel
theorem dX4_runParts_76 : decode cX4_runParts 76 = .ok (.ireturn, 1) := by decide +kernel
theorem dX4_runPart_0 : decode cX4_runPart 0 = .ok (.aload_n 0, 1) := by decide +kernel
theorem dX4_runPart_1 : decode cX4_runPart 1 = .ok (.getfield 10, 3) := by decide +kernel
theorem dX4_runPart_4 : decode cX4_runPart 4 = .ok (.getfield 41, 3) := by decide +kernel
theorem dX4_runPart_7 : decode cX4_runPart 7 = .ok (.aload_n 0, 1) := by decide +kernel
theorem dX4_runPart_8 : decode cX4_runPart 8 = .ok (.getfield 30, 3) := by decide +kernel
theorem dX4_runPart_11 : decode cX4_runPart 11 = .ok (.getfield 221, 3) := by decide +kernel
theorem dX4_runPart_14 : decode cX4_runPart 14 = .ok (.aaload, 1) := by decide +kernel
theorem dX4_runPart_15 : decode cX4_runPart 15 = .ok (.astore_n 1, 1) := by decide +kernel
theorem dX4_runPart_16 : decode cX4_runPart 16 = .ok (.aload_n 0, 1) := by decide +kernel
theorem dX4_runPart_17 : decode cX4_runPart 17 = .ok (.getfield 30, 3) := by decide +kernel
theorem dX4_runPart_20 : decode cX4_runPart 20 = .ok (.getfield 224, 3) := by decide +kernel
theorem dX4_runPart_23 : decode cX4_runPart 23 = .ok (.ifCond .ne 23, 3) := by decide +kernel
theorem dX4_runPart_26 : decode cX4_runPart 26 = .ok (.aload_n 1, 1) := by decide +kernel
theorem dX4_runPart_27 : decode cX4_runPart 27 = .ok (.aload_n 0, 1) := by decide +kernel
theorem dX4_runPart_28 : decode cX4_runPart 28 = .ok (.getfield 30, 3) := by decide +kernel
theorem dX4_runPart_31 : decode cX4_runPart 31 = .ok (.getfield 228, 3) := by decide +kernel
theorem dX4_runPart_34 : decode cX4_runPart 34 = .ok (.aload_n 0, 1) := by decide +kernel
theorem dX4_runPart_35 : decode cX4_runPart 35 = .ok (.getfield 30, 3) := by decide +kernel
theorem dX4_runPart_38 : decode cX4_runPart 38 = .ok (.getfield 231, 3) := by decide +kernel
theorem dX4_runPart_41 : decode cX4_runPart 41 = .ok (.invokevirtual 45, 3) := by decide +kernel
theorem dX4_runPart_44 : decode cX4_runPart 44 = .ok (.iconst 1, 1) := by decide +kernel
theorem dX4_runPart_45 : decode cX4_runPart 45 = .ok (.ireturn, 1) := by decide +kernel
theorem dX4_runPart_46 : decode cX4_runPart 46 = .ok (.aload_n 1, 1) := by decide +kernel
theorem dX4_runPart_47 : decode cX4_runPart 47 = .ok (.aload_n 0, 1) := by decide +kernel
theorem dX4_runPart_48 : decode cX4_runPart 48 = .ok (.getfield 30, 3) := by decide +kernel
theorem dX4_runPart_51 : decode cX4_runPart 51 = .ok (.getfield 228, 3) := by decide +kernel
theorem dX4_runPart_54 : decode cX4_runPart 54 = .ok (.aload_n 0, 1) := by decide +kernel
theorem dX4_runPart_55 : decode cX4_runPart 55 = .ok (.getfield 30, 3) := by decide +kernel
theorem dX4_runPart_58 : decode cX4_runPart 58 = .ok (.getfield 231, 3) := by decide +kernel
theorem dX4_runPart_61 : decode cX4_runPart 61 = .ok (.invokevirtual 64, 3) := by decide +kernel
theorem dX4_runPart_64 : decode cX4_runPart 64 = .ok (.ifCond .ne 5, 3) := by decide +kernel
theorem dX4_runPart_67 : decode cX4_runPart 67 = .ok (.iconst 0, 1) := by decide +kernel
theorem dX4_runPart_68 : decode cX4_runPart 68 = .ok (.ireturn, 1) := by decide +kernel
theorem dX4_runPart_69 : decode cX4_runPart 69 = .ok (.aload_n 0, 1) := by decide +kernel
theorem dX4_runPart_70 : decode cX4_runPart 70 = .ok (.getfield 10, 3) := by decide +kernel
theorem dX4_runPart_73 : decode cX4_runPart 73 = .ok (.aload_n 0, 1) := by decide +kernel
theorem dX4_runPart_74 : decode cX4_runPart 74 = .ok (.getfield 30, 3) := by decide +kernel
theorem dX4_runPart_77 : decode cX4_runPart 77 = .ok (.getfield 228, 3) := by decide +kernel
theorem dX4_runPart_80 : decode cX4_runPart 80 = .ok (.aload_n 0, 1) := by decide +kernel
theorem dX4_runPart_81 : decode cX4_runPart 81 = .ok (.getfield 30, 3) := by decide +kernel
theorem dX4_runPart_84 : decode cX4_runPart 84 = .ok (.getfield 221, 3) := by decide +kernel
theorem dX4_runPart_87 : decode cX4_runPart 87 = .ok (.aload_n 0, 1) := by decide +kernel
theorem dX4_runPart_88 : decode cX4_runPart 88 = .ok (.getfield 30, 3) := by decide +kernel
theorem dX4_runPart_91 : decode cX4_runPart 91 = .ok (.getfield 231, 3) := by decide +kernel
theorem dX4_runPart_94 : decode cX4_runPart 94 = .ok (.aload_n 0, 1) := by decide +kernel
theorem dX4_runPart_95 : decode cX4_runPart 95 = .ok (.getfield 30, 3) := by decide +kernel
theorem dX4_runPart_98 : decode cX4_runPart 98 = .ok (.getfield 234, 3) := by decide +kernel
theorem dX4_runPart_101 : decode cX4_runPart 101 = .ok (.invokevirtual 75, 3) := by decide +kernel
theorem dX4_runPart_104 : decode cX4_runPart 104 = .ok (.pop, 1) := by decide +kernel
theorem dX4_runPart_105 : decode cX4_runPart 105 = .ok (.iconst 1, 1) := by decide +kernel
theorem dX4_runPart_106 : decode cX4_runPart 106 = .ok (.ireturn, 1) := by decide +kernel
theorem dX4_tally_0 : decode cX4_tally 0 = .ok (.iload_n 1, 1) := by decide +kernel
theorem dX4_tally_1 : decode cX4_tally 1 = .ok (.tableswitch 99 0 6 #[43, 51, 59, 67, 75, 83, 91], 43) := by decide +kernel
theorem dX4_tally_44 : decode cX4_tally 44 = .ok (.aload_n 0, 1) := by decide +kernel
theorem dX4_tally_45 : decode cX4_tally 45 = .ok (.getfield 10, 3) := by decide +kernel
theorem dX4_tally_48 : decode cX4_tally 48 = .ok (.invokevirtual 237, 3) := by decide +kernel
theorem dX4_tally_51 : decode cX4_tally 51 = .ok (.ireturn, 1) := by decide +kernel
theorem dX4_tally_52 : decode cX4_tally 52 = .ok (.aload_n 0, 1) := by decide +kernel
theorem dX4_tally_53 : decode cX4_tally 53 = .ok (.getfield 10, 3) := by decide +kernel
theorem dX4_tally_56 : decode cX4_tally 56 = .ok (.invokevirtual 240, 3) := by decide +kernel
theorem dX4_tally_59 : decode cX4_tally 59 = .ok (.ireturn, 1) := by decide +kernel
theorem dX4_tally_60 : decode cX4_tally 60 = .ok (.aload_n 0, 1) := by decide +kernel
theorem dX4_tally_61 : decode cX4_tally 61 = .ok (.getfield 10, 3) := by decide +kernel
theorem dX4_tally_64 : decode cX4_tally 64 = .ok (.getfield 243, 3) := by decide +kernel
theorem dX4_tally_67 : decode cX4_tally 67 = .ok (.ireturn, 1) := by decide +kernel
theorem dX4_tally_68 : decode cX4_tally 68 = .ok (.aload_n 0, 1) := by decide +kernel
theorem dX4_tally_69 : decode cX4_tally 69 = .ok (.getfield 10, 3) := by decide +kernel
theorem dX4_tally_72 : decode cX4_tally 72 = .ok (.getfield 246, 3) := by decide +kernel
theorem dX4_tally_75 : decode cX4_tally 75 = .ok (.ireturn, 1) := by decide +kernel
theorem dX4_tally_76 : decode cX4_tally 76 = .ok (.aload_n 0, 1) := by decide +kernel
theorem dX4_tally_77 : decode cX4_tally 77 = .ok (.getfield 10, 3) := by decide +kernel
theorem dX4_tally_80 : decode cX4_tally 80 = .ok (.getfield 129, 3) := by decide +kernel
theorem dX4_tally_83 : decode cX4_tally 83 = .ok (.ireturn, 1) := by decide +kernel
theorem dX4_tally_84 : decode cX4_tally 84 = .ok (.aload_n 0, 1) := by decide +kernel
theorem dX4_tally_85 : decode cX4_tally 85 = .ok (.getfield 10, 3) := by decide +kernel
theorem dX4_tally_88 : decode cX4_tally 88 = .ok (.getfield 100, 3) := by decide +kernel
theorem dX4_tally_91 : decode cX4_tally 91 = .ok (.ireturn, 1) := by decide +kernel
theorem dX4_tally_92 : decode cX4_tally 92 = .ok (.aload_n 0, 1) := by decide +kernel
theorem dX4_tally_93 : decode cX4_tally 93 = .ok (.getfield 10, 3) := by decide +kernel
theorem dX4_tally_96 : decode cX4_tally 96 = .ok (.getfield 118, 3) := by decide +kernel
theorem dX4_tally_99 : decode cX4_tally 99 = .ok (.ireturn, 1) := by decide +kernel
theorem dX4_tally_100 : decode cX4_tally 100 = .ok (.aload_n 0, 1) := by decide +kernel
theorem dX4_tally_101 : decode cX4_tally 101 = .ok (.getfield 154, 3) := by decide +kernel
theorem dX4_tally_104 : decode cX4_tally 104 = .ok (.ireturn, 1) := by decide +kernel
theorem dX4_shareOfAgreement_0 : decode cX4_shareOfAgreement 0 = .ok (.iconst 0, 1) := by decide +kernel
theorem dX4_shareOfAgreement_1 : decode cX4_shareOfAgreement 1 = .ok (.istore_n 1, 1) := by decide +kernel
theorem dX4_shareOfAgreement_2 : decode cX4_shareOfAgreement 2 = .ok (.iconst 0, 1) := by decide +kernel
theorem dX4_shareOfAgreement_3 : decode cX4_shareOfAgreement 3 = .ok (.istore_n 2, 1) := by decide +kernel
theorem dX4_shareOfAgreement_4 : decode cX4_shareOfAgreement 4 = .ok (.iload_n 2, 1) := by decide +kernel
theorem dX4_shareOfAgreement_5 : decode cX4_shareOfAgreement 5 = .ok (.iconst 3, 1) := by decide +kernel
theorem dX4_shareOfAgreement_6 : decode cX4_shareOfAgreement 6 = .ok (.if_icmp .ge 24, 3) := by decide +kernel
theorem dX4_shareOfAgreement_9 : decode cX4_shareOfAgreement 9 = .ok (.iload_n 1, 1) := by decide +kernel
theorem dX4_shareOfAgreement_10 : decode cX4_shareOfAgreement 10 = .ok (.aload_n 0, 1) := by decide +kernel
theorem dX4_shareOfAgreement_11 : decode cX4_shareOfAgreement 11 = .ok (.getfield 10, 3) := by decide +kernel
theorem dX4_shareOfAgreement_14 : decode cX4_shareOfAgreement 14 = .ok (.getfield 41, 3) := by decide +kernel
theorem dX4_shareOfAgreement_17 : decode cX4_shareOfAgreement 17 = .ok (.iload_n 2, 1) := by decide +kernel
theorem dX4_shareOfAgreement_18 : decode cX4_shareOfAgreement 18 = .ok (.aaload, 1) := by decide +kernel
theorem dX4_shareOfAgreement_19 : decode cX4_shareOfAgreement 19 = .ok (.invokevirtual 249, 3) := by decide +kernel
theorem dX4_shareOfAgreement_22 : decode cX4_shareOfAgreement 22 = .ok (.iadd, 1) := by decide +kernel
theorem dX4_shareOfAgreement_23 : decode cX4_shareOfAgreement 23 = .ok (.istore_n 1, 1) := by decide +kernel
theorem dX4_shareOfAgreement_24 : decode cX4_shareOfAgreement 24 = .ok (.iinc 2 1, 3) := by decide +kernel
theorem dX4_shareOfAgreement_27 : decode cX4_shareOfAgreement 27 = .ok (.goto (-23), 3) := by decide +kernel
theorem dX4_shareOfAgreement_30 : decode cX4_shareOfAgreement 30 = .ok (.iload_n 1, 1) := by decide +kernel
theorem dX4_shareOfAgreement_31 : decode cX4_shareOfAgreement 31 = .ok (.i2d, 1) := by decide +kernel
theorem dX4_shareOfAgreement_32 : decode cX4_shareOfAgreement 32 = .ok (.ldc2_w 252, 3) := by decide +kernel
theorem dX4_shareOfAgreement_35 : decode cX4_shareOfAgreement 35 = .ok (.ddiv, 1) := by decide +kernel
theorem dX4_shareOfAgreement_36 : decode cX4_shareOfAgreement 36 = .ok (.dreturn, 1) := by decide +kernel
theorem dX4_mix_0 : decode cX4_mix 0 = .ok (.ldc2_w 254, 3) := by decide +kernel
theorem dX4_mix_3 : decode cX4_mix 3 = .ok (.lload_n 0, 1) := by decide +kernel
theorem dX4_mix_4 : decode cX4_mix 4 = .ok (.lmul, 1) := by decide +kernel
theorem dX4_mix_5 : decode cX4_mix 5 = .ok (.lload_n 2, 1) := by decide +kernel
theorem dX4_mix_6 : decode cX4_mix 6 = .ok (.ladd, 1) := by decide +kernel
theorem dX4_mix_7 : decode cX4_mix 7 = .ok (.lreturn, 1) := by decide +kernel
theorem dX4_mixKey_0 : decode cX4_mixKey 0 = .ok (.lload_n 0, 1) := by decide +kernel
theorem dX4_mixKey_1 : decode cX4_mixKey 1 = .ok (.lstore_n 3, 1) := by decide +kernel
theorem dX4_mixKey_2 : decode cX4_mixKey 2 = .ok (.iconst 0, 1) := by decide +kernel
theorem dX4_mixKey_3 : decode cX4_mixKey 3 = .ok (.istore 5, 2) := by decide +kernel
theorem dX4_mixKey_5 : decode cX4_mixKey 5 = .ok (.iload 5, 2) := by decide +kernel
theorem dX4_mixKey_7 : decode cX4_mixKey 7 = .ok (.bipush 7, 2) := by decide +kernel
theorem dX4_mixKey_9 : decode cX4_mixKey 9 = .ok (.if_icmp .gt 21, 3) := by decide +kernel
theorem dX4_mixKey_12 : decode cX4_mixKey 12 = .ok (.lload_n 3, 1) := by decide +kernel
theorem dX4_mixKey_13 : decode cX4_mixKey 13 = .ok (.aload_n 2, 1) := by decide +kernel
theorem dX4_mixKey_14 : decode cX4_mixKey 14 = .ok (.iload 5, 2) := by decide +kernel
theorem dX4_mixKey_16 : decode cX4_mixKey 16 = .ok (.invokevirtual 169, 3) := by decide +kernel
theorem dX4_mixKey_19 : decode cX4_mixKey 19 = .ok (.i2l, 1) := by decide +kernel
theorem dX4_mixKey_20 : decode cX4_mixKey 20 = .ok (.invokestatic 187, 3) := by decide +kernel
theorem dX4_mixKey_23 : decode cX4_mixKey 23 = .ok (.lstore_n 3, 1) := by decide +kernel
theorem dX4_mixKey_24 : decode cX4_mixKey 24 = .ok (.iinc 5 1, 3) := by decide +kernel
theorem dX4_mixKey_27 : decode cX4_mixKey 27 = .ok (.goto (-22), 3) := by decide +kernel
theorem dX4_mixKey_30 : decode cX4_mixKey 30 = .ok (.iconst 0, 1) := by decide +kernel
theorem dX4_mixKey_31 : decode cX4_mixKey 31 = .ok (.istore 5, 2) := by decide +kernel
theorem dX4_mixKey_33 : decode cX4_mixKey 33 = .ok (.iload 5, 2) := by decide +kernel
theorem dX4_mixKey_35 : decode cX4_mixKey 35 = .ok (.iconst 3, 1) := by decide +kernel
theorem dX4_mixKey_36 : decode cX4_mixKey 36 = .ok (.if_icmp .ge 17, 3) := by decide +kernel
theorem dX4_mixKey_39 : decode cX4_mixKey 39 = .ok (.lload_n 3, 1) := by decide +kernel
theorem dX4_mixKey_40 : decode cX4_mixKey 40 = .ok (.aload_n 2, 1) := by decide +kernel
theorem dX4_mixKey_41 : decode cX4_mixKey 41 = .ok (.iload 5, 2) := by decide +kernel
theorem dX4_mixKey_43 : decode cX4_mixKey 43 = .ok (.invokestatic 256, 3) := by decide +kernel
theorem dX4_mixKey_46 : decode cX4_mixKey 46 = .ok (.lstore_n 3, 1) := by decide +kernel
theorem dX4_mixKey_47 : decode cX4_mixKey 47 = .ok (.iinc 5 1, 3) := by decide +kernel
theorem dX4_mixKey_50 : decode cX4_mixKey 50 = .ok (.goto (-17), 3) := by decide +kernel
theorem dX4_mixKey_53 : decode cX4_mixKey 53 = .ok (.iconst 0, 1) := by decide +kernel
theorem dX4_mixKey_54 : decode cX4_mixKey 54 = .ok (.istore 5, 2) := by decide +kernel
theorem dX4_mixKey_56 : decode cX4_mixKey 56 = .ok (.iload 5, 2) := by decide +kernel
theorem dX4_mixKey_58 : decode cX4_mixKey 58 = .ok (.iconst 5, 1) := by decide +kernel
theorem dX4_mixKey_59 : decode cX4_mixKey 59 = .ok (.if_icmp .ge 61, 3) := by decide +kernel
theorem dX4_mixKey_62 : decode cX4_mixKey 62 = .ok (.lload_n 3, 1) := by decide +kernel
theorem dX4_mixKey_63 : decode cX4_mixKey 63 = .ok (.aload_n 2, 1) := by decide +kernel
theorem dX4_mixKey_64 : decode cX4_mixKey 64 = .ok (.getfield 165, 3) := by decide +kernel
theorem dX4_mixKey_67 : decode cX4_mixKey 67 = .ok (.iload 5, 2) := by decide +kernel
theorem dX4_mixKey_69 : decode cX4_mixKey 69 = .ok (.aaload, 1) := by decide +kernel
theorem dX4_mixKey_70 : decode cX4_mixKey 70 = .ok (.invokestatic 260, 3) := by decide +kernel
theorem dX4_mixKey_73 : decode cX4_mixKey 73 = .ok (.lstore_n 3, 1) := by decide +kernel
theorem dX4_mixKey_74 : decode cX4_mixKey 74 = .ok (.lload_n 3, 1) := by decide +kernel
theorem dX4_mixKey_75 : decode cX4_mixKey 75 = .ok (.aload_n 2, 1) := by decide +kernel
theorem dX4_mixKey_76 : decode cX4_mixKey 76 = .ok (.iload 5, 2) := by decide +kernel
theorem dX4_mixKey_78 : decode cX4_mixKey 78 = .ok (.invokevirtual 109, 3) := by decide +kernel
theorem dX4_mixKey_81 : decode cX4_mixKey 81 = .ok (.i2l, 1) := by decide +kernel
theorem dX4_mixKey_82 : decode cX4_mixKey 82 = .ok (.invokestatic 187, 3) := by decide +kernel
theorem dX4_mixKey_85 : decode cX4_mixKey 85 = .ok (.lstore_n 3, 1) := by decide +kernel
theorem dX4_mixKey_86 : decode cX4_mixKey 86 = .ok (.lload_n 3, 1) := by decide +kernel
theorem dX4_mixKey_87 : decode cX4_mixKey 87 = .ok (.aload_n 2, 1) := by decide +kernel
theorem dX4_mixKey_88 : decode cX4_mixKey 88 = .ok (.iload 5, 2) := by decide +kernel
theorem dX4_mixKey_90 : decode cX4_mixKey 90 = .ok (.iconst 0, 1) := by decide +kernel
theorem dX4_mixKey_91 : decode cX4_mixKey 91 = .ok (.iconst 0, 1) := by decide +kernel
theorem dX4_mixKey_92 : decode cX4_mixKey 92 = .ok (.invokevirtual 175, 3) := by decide +kernel
theorem dX4_mixKey_95 : decode cX4_mixKey 95 = .ok (.i2l, 1) := by decide +kernel
theorem dX4_mixKey_96 : decode cX4_mixKey 96 = .ok (.invokestatic 187, 3) := by decide +kernel
theorem dX4_mixKey_99 : decode cX4_mixKey 99 = .ok (.lstore_n 3, 1) := by decide +kernel
theorem dX4_mixKey_100 : decode cX4_mixKey 100 = .ok (.lload_n 3, 1) := by decide +kernel
theorem dX4_mixKey_101 : decode cX4_mixKey 101 = .ok (.aload_n 2, 1) := by decide +kernel
theorem dX4_mixKey_102 : decode cX4_mixKey 102 = .ok (.iload 5, 2) := by decide +kernel
theorem dX4_mixKey_104 : decode cX4_mixKey 104 = .ok (.iconst 0, 1) := by decide +kernel
theorem dX4_mixKey_105 : decode cX4_mixKey 105 = .ok (.iconst 1, 1) := by decide +kernel
theorem dX4_mixKey_106 : decode cX4_mixKey 106 = .ok (.invokevirtual 175, 3) := by decide +kernel
theorem dX4_mixKey_109 : decode cX4_mixKey 109 = .ok (.i2l, 1) := by decide +kernel
theorem dX4_mixKey_110 : decode cX4_mixKey 110 = .ok (.invokestatic 187, 3) := by decide +kernel
theorem dX4_mixKey_113 : decode cX4_mixKey 113 = .ok (.lstore_n 3, 1) := by decide +kernel
theorem dX4_mixKey_114 : decode cX4_mixKey 114 = .ok (.iinc 5 1, 3) := by decide +kernel
theorem dX4_mixKey_117 : decode cX4_mixKey 117 = .ok (.goto (-61), 3) := by decide +kernel
theorem dX4_mixKey_120 : decode cX4_mixKey 120 = .ok (.lload_n 3, 1) := by decide +kernel
theorem dX4_mixKey_121 : decode cX4_mixKey 121 = .ok (.lreturn, 1) := by decide +kernel
theorem dX4_mixStore_0 : decode cX4_mixStore 0 = .ok (.lload_n 0, 1) := by decide +kernel
theorem dX4_mixStore_1 : decode cX4_mixStore 1 = .ok (.lstore 4, 2) := by decide +kernel
theorem dX4_mixStore_3 : decode cX4_mixStore 3 = .ok (.iconst 0, 1) := by decide +kernel
theorem dX4_mixStore_4 : decode cX4_mixStore 4 = .ok (.istore 6, 2) := by decide +kernel
theorem dX4_mixStore_6 : decode cX4_mixStore 6 = .ok (.iload 6, 2) := by decide +kernel
theorem dX4_mixStore_8 : decode cX4_mixStore 8 = .ok (.aload_n 2, 1) := by decide +kernel
theorem dX4_mixStore_9 : decode cX4_mixStore 9 = .ok (.getfield 51, 3) := by decide +kernel
theorem dX4_mixStore_12 : decode cX4_mixStore 12 = .ok (.iload_n 3, 1) := by decide +kernel
theorem dX4_mixStore_13 : decode cX4_mixStore 13 = .ok (.aaload, 1) := by decide +kernel
theorem dX4_mixStore_14 : decode cX4_mixStore 14 = .ok (.getfield 55, 3) := by decide +kernel
theorem dX4_mixStore_17 : decode cX4_mixStore 17 = .ok (.if_icmp .ge 41, 3) := by decide +kernel
theorem dX4_mixStore_20 : decode cX4_mixStore 20 = .ok (.iconst 0, 1) := by decide +kernel
theorem dX4_mixStore_21 : decode cX4_mixStore 21 = .ok (.istore 7, 2) := by decide +kernel
theorem dX4_mixStore_23 : decode cX4_mixStore 23 = .ok (.iload 7, 2) := by decide +kernel
theorem dX4_mixStore_25 : decode cX4_mixStore 25 = .ok (.iconst 4, 1) := by decide +kernel
theorem dX4_mixStore_26 : decode cX4_mixStore 26 = .ok (.if_icmp .gt 26, 3) := by decide +kernel
theorem dX4_mixStore_29 : decode cX4_mixStore 29 = .ok (.lload 4, 2) := by decide +kernel
theorem dX4_mixStore_31 : decode cX4_mixStore 31 = .ok (.aload_n 2, 1) := by decide +kernel
theorem dX4_mixStore_32 : decode cX4_mixStore 32 = .ok (.iload_n 3, 1) := by decide +kernel
theorem dX4_mixStore_33 : decode cX4_mixStore 33 = .ok (.iload 6, 2) := by decide +kernel
theorem dX4_mixStore_35 : decode cX4_mixStore 35 = .ok (.iload 7, 2) := by decide +kernel
theorem dX4_mixStore_37 : decode cX4_mixStore 37 = .ok (.invokevirtual 159, 3) := by decide +kernel
theorem dX4_mixStore_40 : decode cX4_mixStore 40 = .ok (.i2l, 1) := by decide +kernel
theorem dX4_mixStore_41 : decode cX4_mixStore 41 = .ok (.invokestatic 187, 3) := by decide +kernel
theorem dX4_mixStore_44 : decode cX4_mixStore 44 = .ok (.lstore 4, 2) := by decide +kernel
theorem dX4_mixStore_46 : decode cX4_mixStore 46 = .ok (.iinc 7 1, 3) := by decide +kernel
theorem dX4_mixStore_49 : decode cX4_mixStore 49 = .ok (.goto (-26), 3) := by decide +kernel
theorem dX4_mixStore_52 : decode cX4_mixStore 52 = .ok (.iinc 6 1, 3) := by decide +kernel
theorem dX4_mixStore_55 : decode cX4_mixStore 55 = .ok (.goto (-49), 3) := by decide +kernel
theorem dX4_mixStore_58 : decode cX4_mixStore 58 = .ok (.lload 4, 2) := by decide +kernel
theorem dX4_mixStore_60 : decode cX4_mixStore 60 = .ok (.aload_n 2, 1) := by decide +kernel
theorem dX4_mixStore_61 : decode cX4_mixStore 61 = .ok (.getfield 51, 3) := by decide +kernel
theorem dX4_mixStore_64 : decode cX4_mixStore 64 = .ok (.iload_n 3, 1) := by decide +kernel
theorem dX4_mixStore_65 : decode cX4_mixStore 65 = .ok (.aaload, 1) := by decide +kernel
theorem dX4_mixStore_66 : decode cX4_mixStore 66 = .ok (.getfield 162, 3) := by decide +kernel
theorem dX4_mixStore_69 : decode cX4_mixStore 69 = .ok (.invokestatic 260, 3) := by decide +kernel
theorem dX4_mixStore_72 : decode cX4_mixStore 72 = .ok (.lreturn, 1) := by decide +kernel
theorem dX4_mixRow_0 : decode cX4_mixRow 0 = .ok (.lload_n 0, 1) := by decide +kernel
theorem dX4_mixRow_1 : decode cX4_mixRow 1 = .ok (.lstore_n 3, 1) := by decide +kernel
theorem dX4_mixRow_2 : decode cX4_mixRow 2 = .ok (.iconst 0, 1) := by decide +kernel
theorem dX4_mixRow_3 : decode cX4_mixRow 3 = .ok (.istore 5, 2) := by decide +kernel
theorem dX4_mixRow_5 : decode cX4_mixRow 5 = .ok (.iload 5, 2) := by decide +kernel
theorem dX4_mixRow_7 : decode cX4_mixRow 7 = .ok (.aload_n 2, 1) := by decide +kernel
theorem dX4_mixRow_8 : decode cX4_mixRow 8 = .ok (.arraylength, 1) := by decide +kernel
theorem dX4_mixRow_9 : decode cX4_mixRow 9 = .ok (.if_icmp .ge 19, 3) := by decide +kernel
theorem dX4_mixRow_12 : decode cX4_mixRow 12 = .ok (.lload_n 3, 1) := by decide +kernel
theorem dX4_mixRow_13 : decode cX4_mixRow 13 = .ok (.aload_n 2, 1) := by decide +kernel
theorem dX4_mixRow_14 : decode cX4_mixRow 14 = .ok (.iload 5, 2) := by decide +kernel
theorem dX4_mixRow_16 : decode cX4_mixRow 16 = .ok (.iaload, 1) := by decide +kernel
theorem dX4_mixRow_17 : decode cX4_mixRow 17 = .ok (.i2l, 1) := by decide +kernel
theorem dX4_mixRow_18 : decode cX4_mixRow 18 = .ok (.invokestatic 187, 3) := by decide +kernel
theorem dX4_mixRow_21 : decode cX4_mixRow 21 = .ok (.lstore_n 3, 1) := by decide +kernel
theorem dX4_mixRow_22 : decode cX4_mixRow 22 = .ok (.iinc 5 1, 3) := by decide +kernel
theorem dX4_mixRow_25 : decode cX4_mixRow 25 = .ok (.goto (-20), 3) := by decide +kernel
theorem dX4_mixRow_28 : decode cX4_mixRow 28 = .ok (.lload_n 3, 1) := by decide +kernel
theorem dX4_mixRow_29 : decode cX4_mixRow 29 = .ok (.lreturn, 1) := by decide +kernel
theorem dX4_bitsOfShare_0 : decode cX4_bitsOfShare 0 = .ok (.dload_n 0, 1) := by decide +kernel
theorem dX4_bitsOfShare_1 : decode cX4_bitsOfShare 1 = .ok (.dconst 0, 1) := by decide +kernel
theorem dX4_bitsOfShare_2 : decode cX4_bitsOfShare 2 = .ok (.dcmp .g, 1) := by decide +kernel
theorem dX4_bitsOfShare_3 : decode cX4_bitsOfShare 3 = .ok (.ifCond .gt 5, 3) := by decide +kernel
theorem dX4_bitsOfShare_6 : decode cX4_bitsOfShare 6 = .ok (.lconst 0, 1) := by decide +kernel
theorem dX4_bitsOfShare_7 : decode cX4_bitsOfShare 7 = .ok (.lreturn, 1) := by decide +kernel
theorem dX4_bitsOfShare_8 : decode cX4_bitsOfShare 8 = .ok (.dload_n 0, 1) := by decide +kernel
theorem dX4_bitsOfShare_9 : decode cX4_bitsOfShare 9 = .ok (.dstore_n 2, 1) := by decide +kernel
theorem dX4_bitsOfShare_10 : decode cX4_bitsOfShare 10 = .ok (.ldc2_w 264, 3) := by decide +kernel
theorem dX4_bitsOfShare_13 : decode cX4_bitsOfShare 13 = .ok (.lstore 4, 2) := by decide +kernel
theorem dX4_bitsOfShare_15 : decode cX4_bitsOfShare 15 = .ok (.iconst 1, 1) := by decide +kernel
theorem dX4_bitsOfShare_16 : decode cX4_bitsOfShare 16 = .ok (.istore 6, 2) := by decide +kernel
theorem dX4_bitsOfShare_18 : decode cX4_bitsOfShare 18 = .ok (.iload 6, 2) := by decide +kernel
theorem dX4_bitsOfShare_20 : decode cX4_bitsOfShare 20 = .ok (.sipush 1023, 3) := by decide +kernel
theorem dX4_bitsOfShare_23 : decode cX4_bitsOfShare 23 = .ok (.if_icmp .ge 27, 3) := by decide +kernel
theorem dX4_bitsOfShare_26 : decode cX4_bitsOfShare 26 = .ok (.dload_n 2, 1) := by decide +kernel
theorem dX4_bitsOfShare_27 : decode cX4_bitsOfShare 27 = .ok (.dconst 1, 1) := by decide +kernel
theorem dX4_bitsOfShare_28 : decode cX4_bitsOfShare 28 = .ok (.dcmp .g, 1) := by decide +kernel
theorem dX4_bitsOfShare_29 : decode cX4_bitsOfShare 29 = .ok (.ifCond .ge 21, 3) := by decide +kernel
theorem dX4_bitsOfShare_32 : decode cX4_bitsOfShare 32 = .ok (.dload_n 2, 1) := by decide +kernel
theorem dX4_bitsOfShare_33 : decode cX4_bitsOfShare 33 = .ok (.ldc2_w 266, 3) := by decide +kernel
theorem dX4_bitsOfShare_36 : decode cX4_bitsOfShare 36 = .ok (.dmul, 1) := by decide +kernel
theorem dX4_bitsOfShare_37 : decode cX4_bitsOfShare 37 = .ok (.dstore_n 2, 1) := by decide +kernel
theorem dX4_bitsOfShare_38 : decode cX4_bitsOfShare 38 = .ok (.lload 4, 2) := by decide +kernel
theorem dX4_bitsOfShare_40 : decode cX4_bitsOfShare 40 = .ok (.lconst 1, 1) := by decide +kernel
theorem dX4_bitsOfShare_41 : decode cX4_bitsOfShare 41 = .ok (.lsub, 1) := by decide +kernel
theorem dX4_bitsOfShare_42 : decode cX4_bitsOfShare 42 = .ok (.lstore 4, 2) := by decide +kernel
theorem dX4_bitsOfShare_44 : decode cX4_bitsOfShare 44 = .ok (.iinc 6 1, 3) := by decide +kernel
theorem dX4_bitsOfShare_47 : decode cX4_bitsOfShare 47 = .ok (.goto (-29), 3) := by decide +kernel
theorem dX4_bitsOfShare_50 : decode cX4_bitsOfShare 50 = .ok (.ldc2_w 268, 3) := by decide +kernel
theorem dX4_bitsOfShare_53 : decode cX4_bitsOfShare 53 = .ok (.lstore 6, 2) := by decide +kernel
theorem dX4_bitsOfShare_55 : decode cX4_bitsOfShare 55 = .ok (.dload_n 2, 1) := by decide +kernel
theorem dX4_bitsOfShare_56 : decode cX4_bitsOfShare 56 = .ok (.lload 6, 2) := by decide +kernel
theorem dX4_bitsOfShare_58 : decode cX4_bitsOfShare 58 = .ok (.l2d, 1) := by decide +kernel
theorem dX4_bitsOfShare_59 : decode cX4_bitsOfShare 59 = .ok (.dmul, 1) := by decide +kernel
theorem dX4_bitsOfShare_60 : decode cX4_bitsOfShare 60 = .ok (.d2l, 1) := by decide +kernel
theorem dX4_bitsOfShare_61 : decode cX4_bitsOfShare 61 = .ok (.lload 6, 2) := by decide +kernel
theorem dX4_bitsOfShare_63 : decode cX4_bitsOfShare 63 = .ok (.lsub, 1) := by decide +kernel
theorem dX4_bitsOfShare_64 : decode cX4_bitsOfShare 64 = .ok (.lstore 8, 2) := by decide +kernel
theorem dX4_bitsOfShare_66 : decode cX4_bitsOfShare 66 = .ok (.lload 4, 2) := by decide +kernel
theorem dX4_bitsOfShare_68 : decode cX4_bitsOfShare 68 = .ok (.bipush 52, 2) := by decide +kernel
theorem dX4_bitsOfShare_70 : decode cX4_bitsOfShare 70 = .ok (.lshl, 1) := by decide +kernel
theorem dX4_bitsOfShare_71 : decode cX4_bitsOfShare 71 = .ok (.lload 8, 2) := by decide +kernel
theorem dX4_bitsOfShare_73 : decode cX4_bitsOfShare 73 = .ok (.ladd, 1) := by decide +kernel
theorem dX4_bitsOfShare_74 : decode cX4_bitsOfShare 74 = .ok (.lreturn, 1) := by decide +kernel
theorem dX4_writerOf_0 : decode cX4_writerOf 0 = .ok (.iload_n 0, 1) := by decide +kernel
theorem dX4_writerOf_1 : decode cX4_writerOf 1 = .ok (.sipush 1000, 3) := by decide +kernel
theorem dX4_writerOf_4 : decode cX4_writerOf 4 = .ok (.idiv, 1) := by decide +kernel
theorem dX4_writerOf_5 : decode cX4_writerOf 5 = .ok (.ireturn, 1) := by decide +kernel
theorem dX4_numberOf_0 : decode cX4_numberOf 0 = .ok (.iload_n 0, 1) := by decide +kernel
theorem dX4_numberOf_1 : decode cX4_numberOf 1 = .ok (.sipush 1000, 3) := by decide +kernel
theorem dX4_numberOf_4 : decode cX4_numberOf 4 = .ok (.irem, 1) := by decide +kernel
theorem dX4_numberOf_5 : decode cX4_numberOf 5 = .ok (.ireturn, 1) := by decide +kernel
theorem dX4_covers_0 : decode cX4_covers 0 = .ok (.iload_n 1, 1) := by decide +kernel
theorem dX4_covers_1 : decode cX4_covers 1 = .ok (.sipush 1000, 3) := by decide +kernel
theorem dX4_covers_4 : decode cX4_covers 4 = .ok (.idiv, 1) := by decide +kernel
theorem dX4_covers_5 : decode cX4_covers 5 = .ok (.istore_n 2, 1) := by decide +kernel
theorem dX4_covers_6 : decode cX4_covers 6 = .ok (.iload_n 2, 1) := by decide +kernel
theorem dX4_covers_7 : decode cX4_covers 7 = .ok (.ifCond .lt 24, 3) := by decide +kernel
theorem dX4_covers_10 : decode cX4_covers 10 = .ok (.iload_n 2, 1) := by decide +kernel
theorem dX4_covers_11 : decode cX4_covers 11 = .ok (.aload_n 0, 1) := by decide +kernel
theorem dX4_covers_12 : decode cX4_covers 12 = .ok (.arraylength, 1) := by decide +kernel
theorem dX4_covers_13 : decode cX4_covers 13 = .ok (.if_icmp .ge 18, 3) := by decide +kernel
theorem dX4_covers_16 : decode cX4_covers 16 = .ok (.aload_n 0, 1) := by decide +kernel
theorem dX4_covers_17 : decode cX4_covers 17 = .ok (.iload_n 2, 1) := by decide +kernel
theorem dX4_covers_18 : decode cX4_covers 18 = .ok (.iaload, 1) := by decide +kernel
theorem dX4_covers_19 : decode cX4_covers 19 = .ok (.iload_n 1, 1) := by decide +kernel
theorem dX4_covers_20 : decode cX4_covers 20 = .ok (.sipush 1000, 3) := by decide +kernel
theorem dX4_covers_23 : decode cX4_covers 23 = .ok (.irem, 1) := by decide +kernel
theorem dX4_covers_24 : decode cX4_covers 24 = .ok (.if_icmp .lt 7, 3) := by decide +kernel
theorem dX4_covers_27 : decode cX4_covers 27 = .ok (.iconst 1, 1) := by decide +kernel
theorem dX4_covers_28 : decode cX4_covers 28 = .ok (.goto 4, 3) := by decide +kernel
theorem dX4_covers_31 : decode cX4_covers 31 = .ok (.iconst 0, 1) := by decide +kernel
theorem dX4_covers_32 : decode cX4_covers 32 = .ok (.ireturn, 1) := by decide +kernel
theorem dX4_mergeInto_0 : decode cX4_mergeInto 0 = .ok (.iconst 0, 1) := by decide +kernel
theorem dX4_mergeInto_1 : decode cX4_mergeInto 1 = .ok (.istore_n 2, 1) := by decide +kernel
theorem dX4_mergeInto_2 : decode cX4_mergeInto 2 = .ok (.iload_n 2, 1) := by decide +kernel
theorem dX4_mergeInto_3 : decode cX4_mergeInto 3 = .ok (.iconst 5, 1) := by decide +kernel
theorem dX4_mergeInto_4 : decode cX4_mergeInto 4 = .ok (.if_icmp .ge 21, 3) := by decide +kernel
theorem dX4_mergeInto_7 : decode cX4_mergeInto 7 = .ok (.aload_n 0, 1) := by decide +kernel
theorem dX4_mergeInto_8 : decode cX4_mergeInto 8 = .ok (.iload_n 2, 1) := by decide +kernel
theorem dX4_mergeInto_9 : decode cX4_mergeInto 9 = .ok (.aload_n 0, 1) := by decide +kernel
theorem dX4_mergeInto_10 : decode cX4_mergeInto 10 = .ok (.iload_n 2, 1) := by decide +kernel
theorem dX4_mergeInto_11 : decode cX4_mergeInto 11 = .ok (.iaload, 1) := by decide +kernel
theorem dX4_mergeInto_12 : decode cX4_mergeInto 12 = .ok (.aload_n 1, 1) := by decide +kernel
theorem dX4_mergeInto_13 : decode cX4_mergeInto 13 = .ok (.iload_n 2, 1) := by decide +kernel
theorem dX4_mergeInto_14 : decode cX4_mergeInto 14 = .ok (.iaload, 1) := by decide +kernel
theorem dX4_mergeInto_15 : decode cX4_mergeInto 15 = .ok (.invokestatic 270, 3) := by decide +kernel
theorem dX4_mergeInto_18 : decode cX4_mergeInto 18 = .ok (.iastore, 1) := by decide +kernel
theorem dX4_mergeInto_19 : decode cX4_mergeInto 19 = .ok (.iinc 2 1, 3) := by decide +kernel
theorem dX4_mergeInto_22 : decode cX4_mergeInto 22 = .ok (.goto (-20), 3) := by decide +kernel
theorem dX4_mergeInto_25 : decode cX4_mergeInto 25 = .ok (.return_, 1) := by decide +kernel
theorem dX4_sameNumbers_0 : decode cX4_sameNumbers 0 = .ok (.iconst 0, 1) := by decide +kernel
theorem dX4_sameNumbers_1 : decode cX4_sameNumbers 1 = .ok (.istore_n 2, 1) := by decide +kernel
theorem dX4_sameNumbers_2 : decode cX4_sameNumbers 2 = .ok (.iload_n 2, 1) := by decide +kernel
theorem dX4_sameNumbers_3 : decode cX4_sameNumbers 3 = .ok (.iconst 5, 1) := by decide +kernel
theorem dX4_sameNumbers_4 : decode cX4_sameNumbers 4 = .ok (.if_icmp .ge 20, 3) := by decide +kernel
theorem dX4_sameNumbers_7 : decode cX4_sameNumbers 7 = .ok (.aload_n 0, 1) := by decide +kernel
theorem dX4_sameNumbers_8 : decode cX4_sameNumbers 8 = .ok (.iload_n 2, 1) := by decide +kernel
theorem dX4_sameNumbers_9 : decode cX4_sameNumbers 9 = .ok (.iaload, 1) := by decide +kernel
theorem dX4_sameNumbers_10 : decode cX4_sameNumbers 10 = .ok (.aload_n 1, 1) := by decide +kernel
theorem dX4_sameNumbers_11 : decode cX4_sameNumbers 11 = .ok (.iload_n 2, 1) := by decide +kernel
theorem dX4_sameNumbers_12 : decode cX4_sameNumbers 12 = .ok (.iaload, 1) := by decide +kernel
theorem dX4_sameNumbers_13 : decode cX4_sameNumbers 13 = .ok (.if_icmp .eq 5, 3) := by decide +kernel
theorem dX4_sameNumbers_16 : decode cX4_sameNumbers 16 = .ok (.iconst 0, 1) := by decide +kernel
theorem dX4_sameNumbers_17 : decode cX4_sameNumbers 17 = .ok (.ireturn, 1) := by decide +kernel
theorem dX4_sameNumbers_18 : decode cX4_sameNumbers 18 = .ok (.iinc 2 1, 3) := by decide +kernel
theorem dX4_sameNumbers_21 : decode cX4_sameNumbers 21 = .ok (.goto (-19), 3) := by decide +kernel
theorem dX4_sameNumbers_24 : decode cX4_sameNumbers 24 = .ok (.iconst 1, 1) := by decide +kernel
theorem dX4_sameNumbers_25 : decode cX4_sameNumbers 25 = .ok (.ireturn, 1) := by decide +kernel
theorem dJxe99ae_isNaN_b9ae7_0 : decode cJxe99ae_isNaN_b9ae7 0 = .ok (.dload_n 0, 1) := by decide +kernel
theorem dJxe99ae_isNaN_b9ae7_1 : decode cJxe99ae_isNaN_b9ae7 1 = .ok (.dload_n 0, 1) := by decide +kernel
theorem dJxe99ae_isNaN_b9ae7_2 : decode cJxe99ae_isNaN_b9ae7 2 = .ok (.dcmp .l, 1) := by decide +kernel
theorem dJxe99ae_isNaN_b9ae7_3 : decode cJxe99ae_isNaN_b9ae7 3 = .ok (.ifCond .eq 7, 3) := by decide +kernel
theorem dJxe99ae_isNaN_b9ae7_6 : decode cJxe99ae_isNaN_b9ae7 6 = .ok (.iconst 1, 1) := by decide +kernel
theorem dJxe99ae_isNaN_b9ae7_7 : decode cJxe99ae_isNaN_b9ae7 7 = .ok (.goto 4, 3) := by decide +kernel
theorem dJxe99ae_isNaN_b9ae7_10 : decode cJxe99ae_isNaN_b9ae7 10 = .ok (.iconst 0, 1) := by decide +kernel
theorem dJxe99ae_isNaN_b9ae7_11 : decode cJxe99ae_isNaN_b9ae7 11 = .ok (.ireturn, 1) := by decide +kernel
theorem dJxe99ae_doubleToLongBits_ccdee_0 : decode cJxe99ae_doubleToLongBits_ccdee 0 = .ok (.dload_n 0, 1) := by decide +kernel
theorem dJxe99ae_doubleToLongBits_ccdee_1 : decode cJxe99ae_doubleToLongBits_ccdee 1 = .ok (.invokestatic 122, 3) := by decide +kernel
theorem dJxe99ae_doubleToLongBits_ccdee_4 : decode cJxe99ae_doubleToLongBits_ccdee 4 = .ok (.ifCond .ne 8, 3) := by decide +kernel
theorem dJxe99ae_doubleToLongBits_ccdee_7 : decode cJxe99ae_doubleToLongBits_ccdee 7 = .ok (.dload_n 0, 1) := by decide +kernel
theorem dJxe99ae_doubleToLongBits_ccdee_8 : decode cJxe99ae_doubleToLongBits_ccdee 8 = .ok (.invokestatic 134, 3) := by decide +kernel
theorem dJxe99ae_doubleToLongBits_ccdee_11 : decode cJxe99ae_doubleToLongBits_ccdee 11 = .ok (.lreturn, 1) := by decide +kernel
theorem dJxe99ae_doubleToLongBits_ccdee_12 : decode cJxe99ae_doubleToLongBits_ccdee 12 = .ok (.ldc2_w 137, 3) := by decide +kernel
theorem dJxe99ae_doubleToLongBits_ccdee_15 : decode cJxe99ae_doubleToLongBits_ccdee 15 = .ok (.lreturn, 1) := by decide +kernel
theorem dJ9_max_7cf53_0 : decode cJ9_max_7cf53 0 = .ok (.iload_n 0, 1) := by decide +kernel
theorem dJ9_max_7cf53_1 : decode cJ9_max_7cf53 1 = .ok (.iload_n 1, 1) := by decide +kernel
theorem dJ9_max_7cf53_2 : decode cJ9_max_7cf53 2 = .ok (.if_icmp .lt 7, 3) := by decide +kernel
theorem dJ9_max_7cf53_5 : decode cJ9_max_7cf53 5 = .ok (.iload_n 0, 1) := by decide +kernel
theorem dJ9_max_7cf53_6 : decode cJ9_max_7cf53 6 = .ok (.goto 4, 3) := by decide +kernel
theorem dJ9_max_7cf53_9 : decode cJ9_max_7cf53 9 = .ok (.iload_n 1, 1) := by decide +kernel
theorem dJ9_max_7cf53_10 : decode cJ9_max_7cf53 10 = .ok (.ireturn, 1) := by decide +kernel
theorem dJ9_min_7cf53_0 : decode cJ9_min_7cf53 0 = .ok (.iload_n 0, 1) := by decide +kernel
theorem dJ9_min_7cf53_1 : decode cJ9_min_7cf53 1 = .ok (.iload_n 1, 1) := by decide +kernel
theorem dJ9_min_7cf53_2 : decode cJ9_min_7cf53 2 = .ok (.if_icmp .gt 7, 3) := by decide +kernel
theorem dJ9_min_7cf53_5 : decode cJ9_min_7cf53 5 = .ok (.iload_n 0, 1) := by decide +kernel
theorem dJ9_min_7cf53_6 : decode cJ9_min_7cf53 6 = .ok (.goto 4, 3) := by decide +kernel
theorem dJ9_min_7cf53_9 : decode cJ9_min_7cf53 9 = .ok (.iload_n 1, 1) := by decide +kernel
theorem dJ9_min_7cf53_10 : decode cJ9_min_7cf53 10 = .ok (.ireturn, 1) := by decide +kernel
theorem dJ0_length_8abf5_0 : decode cJ0_length_8abf5 0 = .ok (.aload_n 0, 1) := by decide +kernel
theorem dJ0_length_8abf5_1 : decode cJ0_length_8abf5 1 = .ok (.getfield 9, 3) := by decide +kernel
theorem dJ0_length_8abf5_4 : decode cJ0_length_8abf5 4 = .ok (.arraylength, 1) := by decide +kernel
theorem dJ0_length_8abf5_5 : decode cJ0_length_8abf5 5 = .ok (.aload_n 0, 1) := by decide +kernel
theorem dJ0_length_8abf5_6 : decode cJ0_length_8abf5 6 = .ok (.invokevirtual 335, 3) := by decide +kernel
theorem dJ0_length_8abf5_9 : decode cJ0_length_8abf5 9 = .ok (.ishr, 1) := by decide +kernel
theorem dJ0_length_8abf5_10 : decode cJ0_length_8abf5 10 = .ok (.ireturn, 1) := by decide +kernel
theorem dJ0_charAt_5068e_0 : decode cJ0_charAt_5068e 0 = .ok (.aload_n 0, 1) := by decide +kernel
theorem dJ0_charAt_5068e_1 : decode cJ0_charAt_5068e 1 = .ok (.invokevirtual 492, 3) := by decide +kernel
theorem dJ0_charAt_5068e_4 : decode cJ0_charAt_5068e 4 = .ok (.ifCond .eq 12, 3) := by decide +kernel
theorem dJ0_charAt_5068e_7 : decode cJ0_charAt_5068e 7 = .ok (.aload_n 0, 1) := by decide +kernel
theorem dJ0_charAt_5068e_8 : decode cJ0_charAt_5068e 8 = .ok (.getfield 9, 3) := by decide +kernel
theorem dJ0_charAt_5068e_11 : decode cJ0_charAt_5068e 11 = .ok (.iload_n 1, 1) := by decide +kernel
theorem dJ0_charAt_5068e_12 : decode cJ0_charAt_5068e 12 = .ok (.invokestatic 495, 3) := by decide +kernel
theorem dJ0_charAt_5068e_15 : decode cJ0_charAt_5068e 15 = .ok (.ireturn, 1) := by decide +kernel
theorem dJ0_charAt_5068e_16 : decode cJ0_charAt_5068e 16 = .ok (.aload_n 0, 1) := by decide +kernel
theorem dJ0_charAt_5068e_17 : decode cJ0_charAt_5068e 17 = .ok (.getfield 9, 3) := by decide +kernel
theorem dJ0_charAt_5068e_20 : decode cJ0_charAt_5068e 20 = .ok (.iload_n 1, 1) := by decide +kernel
theorem dJ0_charAt_5068e_21 : decode cJ0_charAt_5068e 21 = .ok (.invokestatic 498, 3) := by decide +kernel
theorem dJ0_charAt_5068e_24 : decode cJ0_charAt_5068e 24 = .ok (.ireturn, 1) := by decide +kernel
theorem dJ0_coder_7d493_0 : decode cJ0_coder_7d493 0 = .ok (.getstatic 38, 3) := by decide +kernel
theorem dJ0_coder_7d493_3 : decode cJ0_coder_7d493 3 = .ok (.ifCond .eq 10, 3) := by decide +kernel
theorem dJ0_coder_7d493_6 : decode cJ0_coder_7d493 6 = .ok (.aload_n 0, 1) := by decide +kernel
theorem dJ0_coder_7d493_7 : decode cJ0_coder_7d493 7 = .ok (.getfield 15, 3) := by decide +kernel
theorem dJ0_coder_7d493_10 : decode cJ0_coder_7d493 10 = .ok (.goto 4, 3) := by decide +kernel
theorem dJ0_coder_7d493_13 : decode cJ0_coder_7d493 13 = .ok (.iconst 1, 1) := by decide +kernel
theorem dJ0_coder_7d493_14 : decode cJ0_coder_7d493 14 = .ok (.ireturn, 1) := by decide +kernel
theorem dJ0_isLatin1_aae02_0 : decode cJ0_isLatin1_aae02 0 = .ok (.getstatic 38, 3) := by decide +kernel
theorem dJ0_isLatin1_aae02_3 : decode cJ0_isLatin1_aae02 3 = .ok (.ifCond .eq 14, 3) := by decide +kernel
theorem dJ0_isLatin1_aae02_6 : decode cJ0_isLatin1_aae02 6 = .ok (.aload_n 0, 1) := by decide +kernel
theorem dJ0_isLatin1_aae02_7 : decode cJ0_isLatin1_aae02 7 = .ok (.getfield 15, 3) := by decide +kernel
theorem dJ0_isLatin1_aae02_10 : decode cJ0_isLatin1_aae02 10 = .ok (.ifCond .ne 7, 3) := by decide +kernel
theorem dJ0_isLatin1_aae02_13 : decode cJ0_isLatin1_aae02 13 = .ok (.iconst 1, 1) := by decide +kernel
theorem dJ0_isLatin1_aae02_14 : decode cJ0_isLatin1_aae02 14 = .ok (.goto 4, 3) := by decide +kernel
theorem dJ0_isLatin1_aae02_17 : decode cJ0_isLatin1_aae02 17 = .ok (.iconst 0, 1) := by decide +kernel
theorem dJ0_isLatin1_aae02_18 : decode cJ0_isLatin1_aae02 18 = .ok (.ireturn, 1) := by decide +kernel
theorem dJ0_checkIndex_df160_0 : decode cJ0_checkIndex_df160 0 = .ok (.iload_n 0, 1) := by decide +kernel
theorem dJ0_checkIndex_df160_1 : decode cJ0_checkIndex_df160 1 = .ok (.iload_n 1, 1) := by decide +kernel
theorem dJ0_checkIndex_df160_2 : decode cJ0_checkIndex_df160 2 = .ok (.getstatic 1053, 3) := by decide +kernel
theorem dJ0_checkIndex_df160_5 : decode cJ0_checkIndex_df160 5 = .ok (.invokestatic 1059, 3) := by decide +kernel
theorem dJ0_checkIndex_df160_8 : decode cJ0_checkIndex_df160 8 = .ok (.pop, 1) := by decide +kernel
theorem dJ0_checkIndex_df160_9 : decode cJ0_checkIndex_df160 9 = .ok (.return_, 1) := by decide +kernel
theorem dJ1_charAt_3b067_0 : decode cJ1_charAt_3b067 0 = .ok (.iload_n 1, 1) := by decide +kernel
theorem dJ1_charAt_3b067_1 : decode cJ1_charAt_3b067 1 = .ok (.aload_n 0, 1) := by decide +kernel
theorem dJ1_charAt_3b067_2 : decode cJ1_charAt_3b067 2 = .ok (.arraylength, 1) := by decide +kernel
theorem dJ1_charAt_3b067_3 : decode cJ1_charAt_3b067 3 = .ok (.invokestatic 9, 3) := by decide +kernel
theorem dJ1_charAt_3b067_6 : decode cJ1_charAt_3b067 6 = .ok (.aload_n 0, 1) := by decide +kernel
theorem dJ1_charAt_3b067_7 : decode cJ1_charAt_3b067 7 = .ok (.iload_n 1, 1) := by decide +kernel
theorem dJ1_charAt_3b067_8 : decode cJ1_charAt_3b067 8 = .ok (.baload, 1) := by decide +kernel
theorem dJ1_charAt_3b067_9 : decode cJ1_charAt_3b067 9 = .ok (.sipush 255, 3) := by decide +kernel
theorem dJ1_charAt_3b067_12 : decode cJ1_charAt_3b067 12 = .ok (.iand, 1) := by decide +kernel
theorem dJ1_charAt_3b067_13 : decode cJ1_charAt_3b067 13 = .ok (.i2c, 1) := by decide +kernel
theorem dJ1_charAt_3b067_14 : decode cJ1_charAt_3b067 14 = .ok (.ireturn, 1) := by decide +kernel
theorem dJ2_getChar_3b067_0 : decode cJ2_getChar_3b067 0 = .ok (.getstatic 44, 3) := by decide +kernel
theorem dJ2_getChar_3b067_3 : decode cJ2_getChar_3b067 3 = .ok (.ifCond .ne 25, 3) := by decide +kernel
theorem dJ2_getChar_3b067_6 : decode cJ2_getChar_3b067 6 = .ok (.iload_n 1, 1) := by decide +kernel
theorem dJ2_getChar_3b067_7 : decode cJ2_getChar_3b067 7 = .ok (.ifCond .lt 11, 3) := by decide +kernel
theorem dJ2_getChar_3b067_10 : decode cJ2_getChar_3b067 10 = .ok (.iload_n 1, 1) := by decide +kernel
theorem dJ2_getChar_3b067_11 : decode cJ2_getChar_3b067 11 = .ok (.aload_n 0, 1) := by decide +kernel
theorem dJ2_getChar_3b067_12 : decode cJ2_getChar_3b067 12 = .ok (.invokestatic 48, 3) := by decide +kernel
theorem dJ2_getChar_3b067_15 : decode cJ2_getChar_3b067 15 = .ok (.if_icmp .lt 13, 3) := by decide +kernel
theorem dJ2_getChar_3b067_18 : decode cJ2_getChar_3b067 18 = .ok (.new 52, 3) := by decide +kernel
theorem dJ2_getChar_3b067_21 : decode cJ2_getChar_3b067 21 = .ok (.dup, 1) := by decide +kernel
theorem dJ2_getChar_3b067_22 : decode cJ2_getChar_3b067 22 = .ok (.ldc 54, 2) := by decide +kernel
theorem dJ2_getChar_3b067_24 : decode cJ2_getChar_3b067 24 = .ok (.invokespecial 56, 3) := by decide +kernel
theorem dJ2_getChar_3b067_27 : decode cJ2_getChar_3b067 27 = .ok (.athrow, 1) := by decide +kernel
theorem dJ2_getChar_3b067_28 : decode cJ2_getChar_3b067 28 = .ok (.iload_n 1, 1) := by decide +kernel
theorem dJ2_getChar_3b067_29 : decode cJ2_getChar_3b067 29 = .ok (.iconst 1, 1) := by decide +kernel
theorem dJ2_getChar_3b067_30 : decode cJ2_getChar_3b067 30 = .ok (.ishl, 1) := by decide +kernel
theorem dJ2_getChar_3b067_31 : decode cJ2_getChar_3b067 31 = .ok (.istore_n 1, 1) := by decide +kernel
theorem dJ2_getChar_3b067_32 : decode cJ2_getChar_3b067 32 = .ok (.aload_n 0, 1) := by decide +kernel
theorem dJ2_getChar_3b067_33 : decode cJ2_getChar_3b067 33 = .ok (.iload_n 1, 1) := by decide +kernel
theorem dJ2_getChar_3b067_34 : decode cJ2_getChar_3b067 34 = .ok (.iinc 1 1, 3) := by decide +kernel
theorem dJ2_getChar_3b067_37 : decode cJ2_getChar_3b067 37 = .ok (.baload, 1) := by decide +kernel
theorem dJ2_getChar_3b067_38 : decode cJ2_getChar_3b067 38 = .ok (.sipush 255, 3) := by decide +kernel
theorem dJ2_getChar_3b067_41 : decode cJ2_getChar_3b067 41 = .ok (.iand, 1) := by decide +kernel
theorem dJ2_getChar_3b067_42 : decode cJ2_getChar_3b067 42 = .ok (.getstatic 59, 3) := by decide +kernel
theorem dJ2_getChar_3b067_45 : decode cJ2_getChar_3b067 45 = .ok (.ishl, 1) := by decide +kernel
theorem dJ2_getChar_3b067_46 : decode cJ2_getChar_3b067 46 = .ok (.aload_n 0, 1) := by decide +kernel
theorem dJ2_getChar_3b067_47 : decode cJ2_getChar_3b067 47 = .ok (.iload_n 1, 1) := by decide +kernel
theorem dJ2_getChar_3b067_48 : decode cJ2_getChar_3b067 48 = .ok (.baload, 1) := by decide +kernel
theorem dJ2_getChar_3b067_49 : decode cJ2_getChar_3b067 49 = .ok (.sipush 255, 3) := by decide +kernel
theorem dJ2_getChar_3b067_52 : decode cJ2_getChar_3b067 52 = .ok (.iand, 1) := by decide +kernel
theorem dJ2_getChar_3b067_53 : decode cJ2_getChar_3b067 53 = .ok (.getstatic 63, 3) := by decide +kernel
theorem dJ2_getChar_3b067_56 : decode cJ2_getChar_3b067 56 = .ok (.ishl, 1) := by decide +kernel
theorem dJ2_getChar_3b067_57 : decode cJ2_getChar_3b067 57 = .ok (.ior, 1) := by decide +kernel
theorem dJ2_getChar_3b067_58 : decode cJ2_getChar_3b067 58 = .ok (.i2c, 1) := by decide +kernel
theorem dJ2_getChar_3b067_59 : decode cJ2_getChar_3b067 59 = .ok (.ireturn, 1) := by decide +kernel
theorem dJ2_length_9d52b_0 : decode cJ2_length_9d52b 0 = .ok (.aload_n 0, 1) := by decide +kernel
theorem dJ2_length_9d52b_1 : decode cJ2_length_9d52b 1 = .ok (.arraylength, 1) := by decide +kernel
theorem dJ2_length_9d52b_2 : decode cJ2_length_9d52b 2 = .ok (.iconst 1, 1) := by decide +kernel
theorem dJ2_length_9d52b_3 : decode cJ2_length_9d52b 3 = .ok (.ishr, 1) := by decide +kernel
theorem dJ2_length_9d52b_4 : decode cJ2_length_9d52b 4 = .ok (.ireturn, 1) := by decide +kernel
theorem dJ2_charAt_3b067_0 : decode cJ2_charAt_3b067 0 = .ok (.iload_n 1, 1) := by decide +kernel
theorem dJ2_charAt_3b067_1 : decode cJ2_charAt_3b067 1 = .ok (.aload_n 0, 1) := by decide +kernel
theorem dJ2_charAt_3b067_2 : decode cJ2_charAt_3b067 2 = .ok (.invokestatic 67, 3) := by decide +kernel
theorem dJ2_charAt_3b067_5 : decode cJ2_charAt_3b067 5 = .ok (.aload_n 0, 1) := by decide +kernel
theorem dJ2_charAt_3b067_6 : decode cJ2_charAt_3b067 6 = .ok (.iload_n 1, 1) := by decide +kernel
theorem dJ2_charAt_3b067_7 : decode cJ2_charAt_3b067 7 = .ok (.invokestatic 71, 3) := by decide +kernel
theorem dJ2_charAt_3b067_10 : decode cJ2_charAt_3b067 10 = .ok (.ireturn, 1) := by decide +kernel
theorem dJ2_checkIndex_2214a_0 : decode cJ2_checkIndex_2214a 0 = .ok (.iload_n 0, 1) := by decide +kernel
theorem dJ2_checkIndex_2214a_1 : decode cJ2_checkIndex_2214a 1 = .ok (.aload_n 1, 1) := by decide +kernel
theorem dJ2_checkIndex_2214a_2 : decode cJ2_checkIndex_2214a 2 = .ok (.invokestatic 48, 3) := by decide +kernel
theorem dJ2_checkIndex_2214a_5 : decode cJ2_checkIndex_2214a 5 = .ok (.invokestatic 414, 3) := by decide +kernel
theorem dJ2_checkIndex_2214a_8 : decode cJ2_checkIndex_2214a 8 = .ok (.return_, 1) := by decide +kernel
theorem dJ3_checkIndex_8e157_0 : decode cJ3_checkIndex_8e157 0 = .ok (.iload_n 0, 1) := by decide +kernel
theorem dJ3_checkIndex_8e157_1 : decode cJ3_checkIndex_8e157 1 = .ok (.ifCond .lt 8, 3) := by decide +kernel
theorem dJ3_checkIndex_8e157_4 : decode cJ3_checkIndex_8e157 4 = .ok (.iload_n 0, 1) := by decide +kernel
theorem dJ3_checkIndex_8e157_5 : decode cJ3_checkIndex_8e157 5 = .ok (.iload_n 1, 1) := by decide +kernel
theorem dJ3_checkIndex_8e157_6 : decode cJ3_checkIndex_8e157 6 = .ok (.if_icmp .lt 10, 3) := by decide +kernel
theorem dJ3_checkIndex_8e157_9 : decode cJ3_checkIndex_8e157 9 = .ok (.aload_n 2, 1) := by decide +kernel
theorem dJ3_checkIndex_8e157_10 : decode cJ3_checkIndex_8e157 10 = .ok (.iload_n 0, 1) := by decide +kernel
theorem dJ3_checkIndex_8e157_11 : decode cJ3_checkIndex_8e157 11 = .ok (.iload_n 1, 1) := by decide +kernel
theorem dJ3_checkIndex_8e157_12 : decode cJ3_checkIndex_8e157 12 = .ok (.invokestatic 95, 3) := by decide +kernel
theorem dJ3_checkIndex_8e157_15 : decode cJ3_checkIndex_8e157 15 = .ok (.athrow, 1) := by decide +kernel
theorem dJ3_checkIndex_8e157_16 : decode cJ3_checkIndex_8e157 16 = .ok (.iload_n 0, 1) := by decide +kernel
theorem dJ3_checkIndex_8e157_17 : decode cJ3_checkIndex_8e157 17 = .ok (.ireturn, 1) := by decide +kernel
end
section
theorem dX5_init_0 : decode cX5_init 0 = .ok (.aload_n 0, 1) := by decide +kernel
theorem dX5_init_1 : decode cX5_init 1 = .ok (.invokespecial 1, 3) := by decide +kernel
theorem dX5_init_4 : decode cX5_init 4 = .ok (.aload_n 0, 1) := by decide +kernel
theorem dX5_init_5 : decode cX5_init 5 = .ok (.sipush 311, 3) := by decide +kernel
theorem dX5_init_8 : decode cX5_init 8 = .ok (.newarray .int, 2) := by decide +kernel
theorem dX5_init_10 : decode cX5_init 10 = .ok (.putfield 7, 3) := by decide +kernel
theorem dX5_init_13 : decode cX5_init 13 = .ok (.aload_n 0, 1) := by decide +kernel
theorem dX5_init_14 : decode cX5_init 14 = .ok (.sipush 311, 3) := by decide +kernel
theorem dX5_init_17 : decode cX5_init 17 = .ok (.newarray .int, 2) := by decide +kernel
theorem dX5_init_19 : decode cX5_init 19 = .ok (.putfield 13, 3) := by decide +kernel
theorem dX5_init_22 : decode cX5_init 22 = .ok (.aload_n 0, 1) := by decide +kernel
theorem dX5_init_23 : decode cX5_init 23 = .ok (.sipush 1866, 3) := by decide +kernel
theorem dX5_init_26 : decode cX5_init 26 = .ok (.newarray .int, 2) := by decide +kernel
theorem dX5_init_28 : decode cX5_init 28 = .ok (.putfield 16, 3) := by decide +kernel
theorem dX5_init_31 : decode cX5_init 31 = .ok (.aload_n 0, 1) := by decide +kernel
theorem dX5_init_32 : decode cX5_init 32 = .ok (.bipush 60, 2) := by decide +kernel
theorem dX5_init_34 : decode cX5_init 34 = .ok (.newarray .int, 2) := by decide +kernel
theorem dX5_init_36 : decode cX5_init 36 = .ok (.putfield 19, 3) := by decide +kernel
theorem dX5_init_39 : decode cX5_init 39 = .ok (.aload_n 0, 1) := by decide +kernel
theorem dX5_init_40 : decode cX5_init 40 = .ok (.bipush 36, 2) := by decide +kernel
theorem dX5_init_42 : decode cX5_init 42 = .ok (.newarray .int, 2) := by decide +kernel
theorem dX5_init_44 : decode cX5_init 44 = .ok (.putfield 22, 3) := by decide +kernel
theorem dX5_init_47 : decode cX5_init 47 = .ok (.aload_n 0, 1) := by decide +kernel
theorem dX5_init_48 : decode cX5_init 48 = .ok (.bipush 60, 2) := by decide +kernel
theorem dX5_init_50 : decode cX5_init 50 = .ok (.newarray .int, 2) := by decide +kernel
theorem dX5_init_52 : decode cX5_init 52 = .ok (.putfield 25, 3) := by decide +kernel
theorem dX5_init_55 : decode cX5_init 55 = .ok (.aload_n 0, 1) := by decide +kernel
theorem dX5_init_56 : decode cX5_init 56 = .ok (.iconst 0, 1) := by decide +kernel
theorem dX5_init_57 : decode cX5_init 57 = .ok (.putfield 28, 3) := by decide +kernel
theorem dX5_init_60 : decode cX5_init 60 = .ok (.return_, 1) := by decide +kernel
theorem dX5_thrown_0 : decode cX5_thrown 0 = .ok (.aload_n 0, 1) := by decide +kernel
theorem dX5_thrown_1 : decode cX5_thrown 1 = .ok (.getfield 32, 3) := by decide +kernel
theorem dX5_thrown_4 : decode cX5_thrown 4 = .ok (.ireturn, 1) := by decide +kernel
theorem dX5_fails_0 : decode cX5_fails 0 = .ok (.aload_n 0, 1) := by decide +kernel
theorem dX5_fails_1 : decode cX5_fails 1 = .ok (.iload_n 1, 1) := by decide +kernel
theorem dX5_fails_2 : decode cX5_fails 2 = .ok (.putfield 32, 3) := by decide +kernel
theorem dX5_fails_5 : decode cX5_fails 5 = .ok (.iconst 0, 1) := by decide +kernel
theorem dX5_fails_6 : decode cX5_fails 6 = .ok (.ireturn, 1) := by decide +kernel
theorem dX5_in_0 : decode cX5_in 0 = .ok (.iload_n 0, 1) := by decide +kernel
theorem dX5_in_1 : decode cX5_in 1 = .ok (.iload_n 1, 1) := by decide +kernel
theorem dX5_in_2 : decode cX5_in 2 = .ok (.if_icmp .lt 12, 3) := by decide +kernel
theorem dX5_in_5 : decode cX5_in 5 = .ok (.iload_n 0, 1) := by decide +kernel
theorem dX5_in_6 : decode cX5_in 6 = .ok (.iload_n 2, 1) := by decide +kernel
theorem dX5_in_7 : decode cX5_in 7 = .ok (.if_icmp .gt 7, 3) := by decide +kernel
theorem dX5_in_10 : decode cX5_in 10 = .ok (.iconst 1, 1) := by decide +kernel
theorem dX5_in_11 : decode cX5_in 11 = .ok (.goto 4, 3) := by decide +kernel
theorem dX5_in_14 : decode cX5_in 14 = .ok (.iconst 0, 1) := by decide +kernel
theorem dX5_in_15 : decode cX5_in 15 = .ok (.ireturn, 1) := by decide +kernel
theorem dX5_isWriter_0 : decode cX5_isWriter 0 = .ok (.iload_n 0, 1) := by decide +kernel
theorem dX5_isWriter_1 : decode cX5_isWriter 1 = .ok (.iconst 0, 1) := by decide +kernel
theorem dX5_isWriter_2 : decode cX5_isWriter 2 = .ok (.iconst 4, 1) := by decide +kernel
theorem dX5_isWriter_3 : decode cX5_isWriter 3 = .ok (.invokestatic 35, 3) := by decide +kernel
theorem dX5_isWriter_6 : decode cX5_isWriter 6 = .ok (.ireturn, 1) := by decide +kernel
theorem dX5_isStore_0 : decode cX5_isStore 0 = .ok (.iload_n 0, 1) := by decide +kernel
theorem dX5_isStore_1 : decode cX5_isStore 1 = .ok (.iconst 0, 1) := by decide +kernel
theorem dX5_isStore_2 : decode cX5_isStore 2 = .ok (.iconst 2, 1) := by decide +kernel
theorem dX5_isStore_3 : decode cX5_isStore 3 = .ok (.invokestatic 35, 3) := by decide +kernel
theorem dX5_isStore_6 : decode cX5_isStore 6 = .ok (.ireturn, 1) := by decide +kernel
theorem dX5_isKey_0 : decode cX5_isKey 0 = .ok (.iload_n 0, 1) := by decide +kernel
theorem dX5_isKey_1 : decode cX5_isKey 1 = .ok (.iconst 0, 1) := by decide +kernel
theorem dX5_isKey_2 : decode cX5_isKey 2 = .ok (.iconst 2, 1) := by decide +kernel
theorem dX5_isKey_3 : decode cX5_isKey 3 = .ok (.invokestatic 35, 3) := by decide +kernel
theorem dX5_isKey_6 : decode cX5_isKey 6 = .ok (.ireturn, 1) := by decide +kernel
theorem dX5_saves_0 : decode cX5_saves 0 = .ok (.aload_n 0, 1) := by decide +kernel
theorem dX5_saves_1 : decode cX5_saves 1 = .ok (.getfield 28, 3) := by decide +kernel
theorem dX5_saves_4 : decode cX5_saves 4 = .ok (.bipush 6, 2) := by decide +kernel
theorem dX5_saves_6 : decode cX5_saves 6 = .ok (.if_icmp .ne 44, 3) := by decide +kernel
theorem dX5_saves_9 : decode cX5_saves 9 = .ok (.iconst 0, 1) := by decide +kernel
theorem dX5_saves_10 : decode cX5_saves 10 = .ok (.istore_n 2, 1) := by decide +kernel
theorem dX5_saves_11 : decode cX5_saves 11 = .ok (.iload_n 2, 1) := by decide +kernel
theorem dX5_saves_12 : decode cX5_saves 12 = .ok (.sipush 1555, 3) := by decide +kernel
theorem dX5_saves_15 : decode cX5_saves 15 = .ok (.if_icmp .ge 25, 3) := by decide +kernel
theorem dX5_saves_18 : decode cX5_saves 18 = .ok (.aload_n 0, 1) := by decide +kernel
theorem dX5_saves_19 : decode cX5_saves 19 = .ok (.getfield 16, 3) := by decide +kernel
theorem dX5_saves_22 : decode cX5_saves 22 = .ok (.iload_n 2, 1) := by decide +kernel
theorem dX5_saves_23 : decode cX5_saves 23 = .ok (.aload_n 0, 1) := by decide +kernel
theorem dX5_saves_24 : decode cX5_saves 24 = .ok (.getfield 16, 3) := by decide +kernel
theorem dX5_saves_27 : decode cX5_saves 27 = .ok (.iload_n 2, 1) := by decide +kernel
theorem dX5_saves_28 : decode cX5_saves 28 = .ok (.sipush 311, 3) := by decide +kernel
theorem dX5_saves_31 : decode cX5_saves 31 = .ok (.iadd, 1) := by decide +kernel
theorem dX5_saves_32 : decode cX5_saves 32 = .ok (.iaload, 1) := by decide +kernel
theorem dX5_saves_33 : decode cX5_saves 33 = .ok (.iastore, 1) := by decide +kernel
theorem dX5_saves_34 : decode cX5_saves 34 = .ok (.iinc 2 1, 3) := by decide +kernel
theorem dX5_saves_37 : decode cX5_saves 37 = .ok (.goto (-26), 3) := by decide +kernel
theorem dX5_saves_40 : decode cX5_saves 40 = .ok (.aload_n 0, 1) := by decide +kernel
theorem dX5_saves_41 : decode cX5_saves 41 = .ok (.dup, 1) := by decide +kernel
theorem dX5_saves_42 : decode cX5_saves 42 = .ok (.getfield 28, 3) := by decide +kernel
theorem dX5_saves_45 : decode cX5_saves 45 = .ok (.iconst 1, 1) := by decide +kernel
theorem dX5_saves_46 : decode cX5_saves 46 = .ok (.isub, 1) := by decide +kernel
theorem dX5_saves_47 : decode cX5_saves 47 = .ok (.putfield 28, 3) := by decide +kernel
theorem dX5_saves_50 : decode cX5_saves 50 = .ok (.iconst 0, 1) := by decide +kernel
theorem dX5_saves_51 : decode cX5_saves 51 = .ok (.istore_n 2, 1) := by decide +kernel
theorem dX5_saves_52 : decode cX5_saves 52 = .ok (.iload_n 2, 1) := by decide +kernel
theorem dX5_saves_53 : decode cX5_saves 53 = .ok (.sipush 311, 3) := by decide +kernel
theorem dX5_saves_56 : decode cX5_saves 56 = .ok (.if_icmp .ge 27, 3) := by decide +kernel
theorem dX5_saves_59 : decode cX5_saves 59 = .ok (.aload_n 0, 1) := by decide +kernel
theorem dX5_saves_60 : decode cX5_saves 60 = .ok (.getfield 16, 3) := by decide +kernel
theorem dX5_saves_63 : decode cX5_saves 63 = .ok (.sipush 311, 3) := by decide +kernel
theorem dX5_saves_66 : decode cX5_saves 66 = .ok (.aload_n 0, 1) := by decide +kernel
theorem dX5_saves_67 : decode cX5_saves 67 = .ok (.getfield 28, 3) := by decide +kernel
theorem dX5_saves_70 : decode cX5_saves 70 = .ok (.imul, 1) := by decide +kernel
theorem dX5_saves_71 : decode cX5_saves 71 = .ok (.iload_n 2, 1) := by decide +kernel
theorem dX5_saves_72 : decode cX5_saves 72 = .ok (.iadd, 1) := by decide +kernel
theorem dX5_saves_73 : decode cX5_saves 73 = .ok (.aload_n 1, 1) := by decide +kernel
theorem dX5_saves_74 : decode cX5_saves 74 = .ok (.iload_n 2, 1) := by decide +kernel
theorem dX5_saves_75 : decode cX5_saves 75 = .ok (.iaload, 1) := by decide +kernel
theorem dX5_saves_76 : decode cX5_saves 76 = .ok (.iastore, 1) := by decide +kernel
theorem dX5_saves_77 : decode cX5_saves 77 = .ok (.iinc 2 1, 3) := by decide +kernel
theorem dX5_saves_80 : decode cX5_saves 80 = .ok (.goto (-28), 3) := by decide +kernel
theorem dX5_saves_83 : decode cX5_saves 83 = .ok (.aload_n 0, 1) := by decide +kernel
theorem dX5_saves_84 : decode cX5_saves 84 = .ok (.dup, 1) := by decide +kernel
theorem dX5_saves_85 : decode cX5_saves 85 = .ok (.getfield 28, 3) := by decide +kernel
theorem dX5_saves_88 : decode cX5_saves 88 = .ok (.iconst 1, 1) := by decide +kernel
theorem dX5_saves_89 : decode cX5_saves 89 = .ok (.iadd, 1) := by decide +kernel
theorem dX5_saves_90 : decode cX5_saves 90 = .ok (.putfield 28, 3) := by decide +kernel
theorem dX5_saves_93 : decode cX5_saves 93 = .ok (.return_, 1) := by decide +kernel
theorem dX5_undo_0 : decode cX5_undo 0 = .ok (.aload_n 0, 1) := by decide +kernel
theorem dX5_undo_1 : decode cX5_undo 1 = .ok (.iconst 0, 1) := by decide +kernel
theorem dX5_undo_2 : decode cX5_undo 2 = .ok (.putfield 32, 3) := by decide +kernel
theorem dX5_undo_5 : decode cX5_undo 5 = .ok (.aload_n 0, 1) := by decide +kernel
theorem dX5_undo_6 : decode cX5_undo 6 = .ok (.getfield 28, 3) := by decide +kernel
theorem dX5_undo_9 : decode cX5_undo 9 = .ok (.ifCond .ne 9, 3) := by decide +kernel
theorem dX5_undo_12 : decode cX5_undo 12 = .ok (.aload_n 0, 1) := by decide +kernel
theorem dX5_undo_13 : decode cX5_undo 13 = .ok (.iconst 1, 1) := by decide +kernel
theorem dX5_undo_14 : decode cX5_undo 14 = .ok (.invokevirtual 39, 3) := by decide +kernel
theorem dX5_undo_17 : decode cX5_undo 17 = .ok (.ireturn, 1) := by decide +kernel
theorem dX5_undo_18 : decode cX5_undo 18 = .ok (.aload_n 0, 1) := by decide +kernel
theorem dX5_undo_19 : decode cX5_undo 19 = .ok (.dup, 1) := by decide +kernel
theorem dX5_undo_20 : decode cX5_undo 20 = .ok (.getfield 28, 3) := by decide +kernel
theorem dX5_undo_23 : decode cX5_undo 23 = .ok (.iconst 1, 1) := by decide +kernel
theorem dX5_undo_24 : decode cX5_undo 24 = .ok (.isub, 1) := by decide +kernel
theorem dX5_undo_25 : decode cX5_undo 25 = .ok (.putfield 28, 3) := by decide +kernel
theorem dX5_undo_28 : decode cX5_undo 28 = .ok (.iconst 0, 1) := by decide +kernel
theorem dX5_undo_29 : decode cX5_undo 29 = .ok (.istore_n 1, 1) := by decide +kernel
theorem dX5_undo_30 : decode cX5_undo 30 = .ok (.iload_n 1, 1) := by decide +kernel
theorem dX5_undo_31 : decode cX5_undo 31 = .ok (.sipush 311, 3) := by decide +kernel
theorem dX5_undo_34 : decode cX5_undo 34 = .ok (.if_icmp .ge 30, 3) := by decide +kernel
theorem dX5_undo_37 : decode cX5_undo 37 = .ok (.aload_n 0, 1) := by decide +kernel
theorem dX5_undo_38 : decode cX5_undo 38 = .ok (.getfield 7, 3) := by decide +kernel
theorem dX5_undo_41 : decode cX5_undo 41 = .ok (.iload_n 1, 1) := by decide +kernel
theorem dX5_undo_42 : decode cX5_undo 42 = .ok (.aload_n 0, 1) := by decide +kernel
theorem dX5_undo_43 : decode cX5_undo 43 = .ok (.getfield 16, 3) := by decide +kernel
theorem dX5_undo_46 : decode cX5_undo 46 = .ok (.sipush 311, 3) := by decide +kernel
theorem dX5_undo_49 : decode cX5_undo 49 = .ok (.aload_n 0, 1) := by decide +kernel
theorem dX5_undo_50 : decode cX5_undo 50 = .ok (.getfield 28, 3) := by decide +kernel
theorem dX5_undo_53 : decode cX5_undo 53 = .ok (.imul, 1) := by decide +kernel
theorem dX5_undo_54 : decode cX5_undo 54 = .ok (.iload_n 1, 1) := by decide +kernel
theorem dX5_undo_55 : decode cX5_undo 55 = .ok (.iadd, 1) := by decide +kernel
theorem dX5_undo_56 : decode cX5_undo 56 = .ok (.iaload, 1) := by decide +kernel
theorem dX5_undo_57 : decode cX5_undo 57 = .ok (.iastore, 1) := by decide +kernel
theorem dX5_undo_58 : decode cX5_undo 58 = .ok (.iinc 1 1, 3) := by decide +kernel
theorem dX5_undo_61 : decode cX5_undo 61 = .ok (.goto (-31), 3) := by decide +kernel
theorem dX5_undo_64 : decode cX5_undo 64 = .ok (.aload_n 0, 1) := by decide +kernel
theorem dX5_undo_65 : decode cX5_undo 65 = .ok (.getfield 28, 3) := by decide +kernel
theorem dX5_undo_68 : decode cX5_undo 68 = .ok (.ireturn, 1) := by decide +kernel
theorem dX5_countAt_0 : decode cX5_countAt 0 = .ok (.iconst 0, 1) := by decide +kernel
theorem dX5_countAt_1 : decode cX5_countAt 1 = .ok (.iconst 5, 1) := by decide +kernel
theorem dX5_countAt_2 : decode cX5_countAt 2 = .ok (.iload_n 0, 1) := by decide +kernel
theorem dX5_countAt_3 : decode cX5_countAt 3 = .ok (.imul, 1) := by decide +kernel
theorem dX5_countAt_4 : decode cX5_countAt 4 = .ok (.iadd, 1) := by decide +kernel
theorem dX5_countAt_5 : decode cX5_countAt 5 = .ok (.iload_n 1, 1) := by decide +kernel
theorem dX5_countAt_6 : decode cX5_countAt 6 = .ok (.iadd, 1) := by decide +kernel
theorem dX5_countAt_7 : decode cX5_countAt 7 = .ok (.ireturn, 1) := by decide +kernel
theorem dX5_knowsAt_0 : decode cX5_knowsAt 0 = .ok (.bipush 15, 2) := by decide +kernel
theorem dX5_knowsAt_2 : decode cX5_knowsAt 2 = .ok (.bipush 25, 2) := by decide +kernel
theorem dX5_knowsAt_4 : decode cX5_knowsAt 4 = .ok (.iload_n 0, 1) := by decide +kernel
theorem dX5_knowsAt_5 : decode cX5_knowsAt 5 = .ok (.imul, 1) := by decide +kernel
theorem dX5_knowsAt_6 : decode cX5_knowsAt 6 = .ok (.iadd, 1) := by decide +kernel
theorem dX5_knowsAt_7 : decode cX5_knowsAt 7 = .ok (.iconst 5, 1) := by decide +kernel
theorem dX5_knowsAt_8 : decode cX5_knowsAt 8 = .ok (.iload_n 1, 1) := by decide +kernel
theorem dX5_knowsAt_9 : decode cX5_knowsAt 9 = .ok (.imul, 1) := by decide +kernel
theorem dX5_knowsAt_10 : decode cX5_knowsAt 10 = .ok (.iadd, 1) := by decide +kernel
theorem dX5_knowsAt_11 : decode cX5_knowsAt 11 = .ok (.ireturn, 1) := by decide +kernel
theorem dX5_vectorAt_0 : decode cX5_vectorAt 0 = .ok (.bipush 90, 2) := by decide +kernel
theorem dX5_vectorAt_2 : decode cX5_vectorAt 2 = .ok (.bipush 15, 2) := by decide +kernel
theorem dX5_vectorAt_4 : decode cX5_vectorAt 4 = .ok (.iload_n 0, 1) := by decide +kernel
theorem dX5_vectorAt_5 : decode cX5_vectorAt 5 = .ok (.imul, 1) := by decide +kernel
theorem dX5_vectorAt_6 : decode cX5_vectorAt 6 = .ok (.iadd, 1) := by decide +kernel
theorem dX5_vectorAt_7 : decode cX5_vectorAt 7 = .ok (.iconst 5, 1) := by decide +kernel
theorem dX5_vectorAt_8 : decode cX5_vectorAt 8 = .ok (.iload_n 1, 1) := by decide +kernel
theorem dX5_vectorAt_9 : decode cX5_vectorAt 9 = .ok (.imul, 1) := by decide +kernel
theorem dX5_vectorAt_10 : decode cX5_vectorAt 10 = .ok (.iadd, 1) := by decide +kernel
theorem dX5_vectorAt_11 : decode cX5_vectorAt 11 = .ok (.ireturn, 1) := by decide +kernel
theorem dX5_rowAt_0 : decode cX5_rowAt 0 = .ok (.sipush 135, 3) := by decide +kernel
theorem dX5_rowAt_3 : decode cX5_rowAt 3 = .ok (.bipush 19, 2) := by decide +kernel
theorem dX5_rowAt_5 : decode cX5_rowAt 5 = .ok (.iconst 3, 1) := by decide +kernel
theorem dX5_rowAt_6 : decode cX5_rowAt 6 = .ok (.iload_n 0, 1) := by decide +kernel
theorem dX5_rowAt_7 : decode cX5_rowAt 7 = .ok (.imul, 1) := by decide +kernel
theorem dX5_rowAt_8 : decode cX5_rowAt 8 = .ok (.iload_n 1, 1) := by decide +kernel
theorem dX5_rowAt_9 : decode cX5_rowAt 9 = .ok (.iadd, 1) := by decide +kernel
theorem dX5_rowAt_10 : decode cX5_rowAt 10 = .ok (.imul, 1) := by decide +kernel
theorem dX5_rowAt_11 : decode cX5_rowAt 11 = .ok (.iadd, 1) := by decide +kernel
theorem dX5_rowAt_12 : decode cX5_rowAt 12 = .ok (.ireturn, 1) := by decide +kernel
theorem dX5_placeAt_0 : decode cX5_placeAt 0 = .ok (.iload_n 0, 1) := by decide +kernel
theorem dX5_placeAt_1 : decode cX5_placeAt 1 = .ok (.iload_n 1, 1) := by decide +kernel
theorem dX5_placeAt_2 : decode cX5_placeAt 2 = .ok (.invokestatic 43, 3) := by decide +kernel
theorem dX5_placeAt_5 : decode cX5_placeAt 5 = .ok (.iconst 1, 1) := by decide +kernel
theorem dX5_placeAt_6 : decode cX5_placeAt 6 = .ok (.iadd, 1) := by decide +kernel
theorem dX5_placeAt_7 : decode cX5_placeAt 7 = .ok (.iconst 3, 1) := by decide +kernel
theorem dX5_placeAt_8 : decode cX5_placeAt 8 = .ok (.iload_n 2, 1) := by decide +kernel
theorem dX5_placeAt_9 : decode cX5_placeAt 9 = .ok (.imul, 1) := by decide +kernel
theorem dX5_placeAt_10 : decode cX5_placeAt 10 = .ok (.iadd, 1) := by decide +kernel
theorem dX5_placeAt_11 : decode cX5_placeAt 11 = .ok (.ireturn, 1) := by decide +kernel
theorem dX5_siblings_0 : decode cX5_siblings 0 = .ok (.aload_n 0, 1) := by decide +kernel
theorem dX5_siblings_1 : decode cX5_siblings 1 = .ok (.getfield 7, 3) := by decide +kernel
theorem dX5_siblings_4 : decode cX5_siblings 4 = .ok (.iload_n 1, 1) := by decide +kernel
theorem dX5_siblings_5 : decode cX5_siblings 5 = .ok (.iload_n 2, 1) := by decide +kernel
theorem dX5_siblings_6 : decode cX5_siblings 6 = .ok (.invokestatic 43, 3) := by decide +kernel
theorem dX5_siblings_9 : decode cX5_siblings 9 = .ok (.iaload, 1) := by decide +kernel
theorem dX5_siblings_10 : decode cX5_siblings 10 = .ok (.ireturn, 1) := by decide +kernel
theorem dX5_merges_0 : decode cX5_merges 0 = .ok (.iconst 0, 1) := by decide +kernel
theorem dX5_merges_1 : decode cX5_merges 1 = .ok (.istore_n 3, 1) := by decide +kernel
theorem dX5_merges_2 : decode cX5_merges 2 = .ok (.iload_n 3, 1) := by decide +kernel
theorem dX5_merges_3 : decode cX5_merges 3 = .ok (.iconst 5, 1) := by decide +kernel
theorem dX5_merges_4 : decode cX5_merges 4 = .ok (.if_icmp .ge 55, 3) := by decide +kernel
theorem dX5_merges_7 : decode cX5_merges 7 = .ok (.aload_n 0, 1) := by decide +kernel
theorem dX5_merges_8 : decode cX5_merges 8 = .ok (.getfield 7, 3) := by decide +kernel
theorem dX5_merges_11 : decode cX5_merges 11 = .ok (.iload_n 1, 1) := by decide +kernel
theorem dX5_merges_12 : decode cX5_merges 12 = .ok (.iload_n 3, 1) := by decide +kernel
theorem dX5_merges_13 : decode cX5_merges 13 = .ok (.iadd, 1) := by decide +kernel
theorem dX5_merges_14 : decode cX5_merges 14 = .ok (.aload_n 0, 1) := by decide +kernel
theorem dX5_merges_15 : decode cX5_merges 15 = .ok (.getfield 7, 3) := by decide +kernel
theorem dX5_merges_18 : decode cX5_merges 18 = .ok (.iload_n 2, 1) := by decide +kernel
theorem dX5_merges_19 : decode cX5_merges 19 = .ok (.iload_n 3, 1) := by decide +kernel
theorem dX5_merges_20 : decode cX5_merges 20 = .ok (.iadd, 1) := by decide +kernel
theorem dX5_merges_21 : decode cX5_merges 21 = .ok (.iaload, 1) := by decide +kernel
theorem dX5_merges_22 : decode cX5_merges 22 = .ok (.aload_n 0, 1) := by decide +kernel
theorem dX5_merges_23 : decode cX5_merges 23 = .ok (.getfield 7, 3) := by decide +kernel
theorem dX5_merges_26 : decode cX5_merges 26 = .ok (.iload_n 1, 1) := by decide +kernel
theorem dX5_merges_27 : decode cX5_merges 27 = .ok (.iload_n 3, 1) := by decide +kernel
theorem dX5_merges_28 : decode cX5_merges 28 = .ok (.iadd, 1) := by decide +kernel
theorem dX5_merges_29 : decode cX5_merges 29 = .ok (.iaload, 1) := by decide +kernel
theorem dX5_merges_30 : decode cX5_merges 30 = .ok (.if_icmp .le 14, 3) := by decide +kernel
theorem dX5_merges_33 : decode cX5_merges 33 = .ok (.aload_n 0, 1) := by decide +kernel
theorem dX5_merges_34 : decode cX5_merges 34 = .ok (.getfield 7, 3) := by decide +kernel
theorem dX5_merges_37 : decode cX5_merges 37 = .ok (.iload_n 2, 1) := by decide +kernel
theorem dX5_merges_38 : decode cX5_merges 38 = .ok (.iload_n 3, 1) := by decide +kernel
theorem dX5_merges_39 : decode cX5_merges 39 = .ok (.iadd, 1) := by decide +kernel
theorem dX5_merges_40 : decode cX5_merges 40 = .ok (.iaload, 1) := by decide +kernel
theorem dX5_merges_41 : decode cX5_merges 41 = .ok (.goto 11, 3) := by decide +kernel
theorem dX5_merges_44 : decode cX5_merges 44 = .ok (.aload_n 0, 1) := by decide +kernel
theorem dX5_merges_45 : decode cX5_merges 45 = .ok (.getfield 7, 3) := by decide +kernel
theorem dX5_merges_48 : decode cX5_merges 48 = .ok (.iload_n 1, 1) := by decide +kernel
theorem dX5_merges_49 : decode cX5_merges 49 = .ok (.iload_n 3, 1) := by decide +kernel
theorem dX5_merges_50 : decode cX5_merges 50 = .ok (.iadd, 1) := by decide +kernel
theorem dX5_merges_51 : decode cX5_merges 51 = .ok (.iaload, 1) := by decide +kernel
theorem dX5_merges_52 : decode cX5_merges 52 = .ok (.iastore, 1) := by decide +kernel
theorem dX5_merges_53 : decode cX5_merges 53 = .ok (.iinc 3 1, 3) := by decide +kernel
theorem dX5_merges_56 : decode cX5_merges 56 = .ok (.goto (-54), 3) := by decide +kernel
theorem dX5_merges_59 : decode cX5_merges 59 = .ok (.return_, 1) := by decide +kernel
theorem dX5_covers_0 : decode cX5_covers 0 = .ok (.aload_n 0, 1) := by decide +kernel
theorem dX5_covers_1 : decode cX5_covers 1 = .ok (.getfield 7, 3) := by decide +kernel
theorem dX5_covers_4 : decode cX5_covers 4 = .ok (.iload_n 1, 1) := by decide +kernel
theorem dX5_covers_5 : decode cX5_covers 5 = .ok (.aload_n 0, 1) := by decide +kernel
theorem dX5_covers_6 : decode cX5_covers 6 = .ok (.getfield 7, 3) := by decide +kernel
theorem dX5_covers_9 : decode cX5_covers 9 = .ok (.iload_n 2, 1) := by decide +kernel
theorem dX5_covers_10 : decode cX5_covers 10 = .ok (.iconst 0, 1) := by decide +kernel
theorem dX5_covers_11 : decode cX5_covers 11 = .ok (.iadd, 1) := by decide +kernel
theorem dX5_covers_12 : decode cX5_covers 12 = .ok (.iaload, 1) := by decide +kernel
theorem dX5_covers_13 : decode cX5_covers 13 = .ok (.iadd, 1) := by decide +kernel
theorem dX5_covers_14 : decode cX5_covers 14 = .ok (.iaload, 1) := by decide +kernel
theorem dX5_covers_15 : decode cX5_covers 15 = .ok (.aload_n 0, 1) := by decide +kernel
theorem dX5_covers_16 : decode cX5_covers 16 = .ok (.getfield 7, 3) := by decide +kernel
theorem dX5_covers_19 : decode cX5_covers 19 = .ok (.iload_n 2, 1) := by decide +kernel
theorem dX5_covers_20 : decode cX5_covers 20 = .ok (.iconst 1, 1) := by decide +kernel
theorem dX5_covers_21 : decode cX5_covers 21 = .ok (.iadd, 1) := by decide +kernel
theorem dX5_covers_22 : decode cX5_covers 22 = .ok (.iaload, 1) := by decide +kernel
theorem dX5_covers_23 : decode cX5_covers 23 = .ok (.if_icmp .lt 7, 3) := by decide +kernel
theorem dX5_covers_26 : decode cX5_covers 26 = .ok (.iconst 1, 1) := by decide +kernel
theorem dX5_covers_27 : decode cX5_covers 27 = .ok (.goto 4, 3) := by decide +kernel
theorem dX5_covers_30 : decode cX5_covers 30 = .ok (.iconst 0, 1) := by decide +kernel
theorem dX5_covers_31 : decode cX5_covers 31 = .ok (.ireturn, 1) := by decide +kernel
theorem dX5_has_0 : decode cX5_has 0 = .ok (.iconst 0, 1) := by decide +kernel
theorem dX5_has_1 : decode cX5_has 1 = .ok (.istore 5, 2) := by decide +kernel
theorem dX5_has_3 : decode cX5_has 3 = .ok (.iconst 0, 1) := by decide +kernel
theorem dX5_has_4 : decode cX5_has 4 = .ok (.istore 6, 2) := by decide +kernel
theorem dX5_has_6 : decode cX5_has 6 = .ok (.iload 6, 2) := by decide +kernel
theorem dX5_has_8 : decode cX5_has 8 = .ok (.aload_n 0, 1) := by decide +kernel
theorem dX5_has_9 : decode cX5_has 9 = .ok (.iload_n 1, 1) := by decide +kernel
theorem dX5_has_10 : decode cX5_has 10 = .ok (.iload_n 2, 1) := by decide +kernel
theorem dX5_has_11 : decode cX5_has 11 = .ok (.invokevirtual 47, 3) := by decide +kernel
theorem dX5_has_14 : decode cX5_has 14 = .ok (.if_icmp .ge 57, 3) := by decide +kernel
theorem dX5_has_17 : decode cX5_has 17 = .ok (.iload_n 1, 1) := by decide +kernel
theorem dX5_has_18 : decode cX5_has 18 = .ok (.iload_n 2, 1) := by decide +kernel
theorem dX5_has_19 : decode cX5_has 19 = .ok (.iload 6, 2) := by decide +kernel
theorem dX5_has_21 : decode cX5_has 21 = .ok (.invokestatic 50, 3) := by decide +kernel
theorem dX5_has_24 : decode cX5_has 24 = .ok (.istore 7, 2) := by decide +kernel
theorem dX5_has_26 : decode cX5_has 26 = .ok (.iload 5, 2) := by decide +kernel
theorem dX5_has_28 : decode cX5_has 28 = .ok (.ifCond .ne 30, 3) := by decide +kernel
theorem dX5_has_31 : decode cX5_has 31 = .ok (.aload_n 0, 1) := by decide +kernel
theorem dX5_has_32 : decode cX5_has 32 = .ok (.getfield 7, 3) := by decide +kernel
theorem dX5_has_35 : decode cX5_has 35 = .ok (.iload 7, 2) := by decide +kernel
theorem dX5_has_37 : decode cX5_has 37 = .ok (.iconst 0, 1) := by decide +kernel
theorem dX5_has_38 : decode cX5_has 38 = .ok (.iadd, 1) := by decide +kernel
theorem dX5_has_39 : decode cX5_has 39 = .ok (.iaload, 1) := by decide +kernel
theorem dX5_has_40 : decode cX5_has 40 = .ok (.iload_n 3, 1) := by decide +kernel
theorem dX5_has_41 : decode cX5_has 41 = .ok (.if_icmp .ne 21, 3) := by decide +kernel
theorem dX5_has_44 : decode cX5_has 44 = .ok (.aload_n 0, 1) := by decide +kernel
theorem dX5_has_45 : decode cX5_has 45 = .ok (.getfield 7, 3) := by decide +kernel
theorem dX5_has_48 : decode cX5_has 48 = .ok (.iload 7, 2) := by decide +kernel
theorem dX5_has_50 : decode cX5_has 50 = .ok (.iconst 1, 1) := by decide +kernel
theorem dX5_has_51 : decode cX5_has 51 = .ok (.iadd, 1) := by decide +kernel
theorem dX5_has_52 : decode cX5_has 52 = .ok (.iaload, 1) := by decide +kernel
theorem dX5_has_53 : decode cX5_has 53 = .ok (.iload 4, 2) := by decide +kernel
theorem dX5_has_55 : decode cX5_has 55 = .ok (.if_icmp .ne 7, 3) := by decide +kernel
theorem dX5_has_58 : decode cX5_has 58 = .ok (.iconst 1, 1) := by decide +kernel
theorem dX5_has_59 : decode cX5_has 59 = .ok (.goto 4, 3) := by decide +kernel
theorem dX5_has_62 : decode cX5_has 62 = .ok (.iconst 0, 1) := by decide +kernel
theorem dX5_has_63 : decode cX5_has 63 = .ok (.istore 5, 2) := by decide +kernel
theorem dX5_has_65 : decode cX5_has 65 = .ok (.iinc 6 1, 3) := by decide +kernel
theorem dX5_has_68 : decode cX5_has 68 = .ok (.goto (-62), 3) := by decide +kernel
theorem dX5_has_71 : decode cX5_has 71 = .ok (.iload 5, 2) := by decide +kernel
theorem dX5_has_73 : decode cX5_has 73 = .ok (.ireturn, 1) := by decide +kernel
theorem dX5_coveredBy_0 : decode cX5_coveredBy 0 = .ok (.iconst 0, 1) := by decide +kernel
theorem dX5_coveredBy_1 : decode cX5_coveredBy 1 = .ok (.istore 4, 2) := by decide +kernel
theorem dX5_coveredBy_3 : decode cX5_coveredBy 3 = .ok (.iconst 0, 1) := by decide +kernel
theorem dX5_coveredBy_4 : decode cX5_coveredBy 4 = .ok (.istore 5, 2) := by decide +kernel
theorem dX5_coveredBy_6 : decode cX5_coveredBy 6 = .ok (.iload 5, 2) := by decide +kernel
theorem dX5_coveredBy_8 : decode cX5_coveredBy 8 = .ok (.aload_n 0, 1) := by decide +kernel
theorem dX5_coveredBy_9 : decode cX5_coveredBy 9 = .ok (.iload_n 2, 1) := by decide +kernel
theorem dX5_coveredBy_10 : decode cX5_coveredBy 10 = .ok (.iload_n 3, 1) := by decide +kernel
theorem dX5_coveredBy_11 : decode cX5_coveredBy 11 = .ok (.invokevirtual 47, 3) := by decide +kernel
theorem dX5_coveredBy_14 : decode cX5_coveredBy 14 = .ok (.if_icmp .ge 38, 3) := by decide +kernel
theorem dX5_coveredBy_17 : decode cX5_coveredBy 17 = .ok (.iload 4, 2) := by decide +kernel
theorem dX5_coveredBy_19 : decode cX5_coveredBy 19 = .ok (.aload_n 0, 1) := by decide +kernel
theorem dX5_coveredBy_20 : decode cX5_coveredBy 20 = .ok (.iload_n 2, 1) := by decide +kernel
theorem dX5_coveredBy_21 : decode cX5_coveredBy 21 = .ok (.iload_n 1, 1) := by decide +kernel
theorem dX5_coveredBy_22 : decode cX5_coveredBy 22 = .ok (.invokestatic 54, 3) := by decide +kernel
theorem dX5_coveredBy_25 : decode cX5_coveredBy 25 = .ok (.iload_n 2, 1) := by decide +kernel
theorem dX5_coveredBy_26 : decode cX5_coveredBy 26 = .ok (.iload_n 3, 1) := by decide +kernel
theorem dX5_coveredBy_27 : decode cX5_coveredBy 27 = .ok (.iload 5, 2) := by decide +kernel
theorem dX5_coveredBy_29 : decode cX5_coveredBy 29 = .ok (.invokestatic 50, 3) := by decide +kernel
theorem dX5_coveredBy_32 : decode cX5_coveredBy 32 = .ok (.invokevirtual 57, 3) := by decide +kernel
theorem dX5_coveredBy_35 : decode cX5_coveredBy 35 = .ok (.ifCond .eq 7, 3) := by decide +kernel
theorem dX5_coveredBy_38 : decode cX5_coveredBy 38 = .ok (.iconst 1, 1) := by decide +kernel
theorem dX5_coveredBy_39 : decode cX5_coveredBy 39 = .ok (.goto 4, 3) := by decide +kernel
theorem dX5_coveredBy_42 : decode cX5_coveredBy 42 = .ok (.iconst 0, 1) := by decide +kernel
theorem dX5_coveredBy_43 : decode cX5_coveredBy 43 = .ok (.iadd, 1) := by decide +kernel
theorem dX5_coveredBy_44 : decode cX5_coveredBy 44 = .ok (.istore 4, 2) := by decide +kernel
theorem dX5_coveredBy_46 : decode cX5_coveredBy 46 = .ok (.iinc 5 1, 3) := by decide +kernel
theorem dX5_coveredBy_49 : decode cX5_coveredBy 49 = .ok (.goto (-43), 3) := by decide +kernel
theorem dX5_coveredBy_52 : decode cX5_coveredBy 52 = .ok (.iload 4, 2) := by decide +kernel
theorem dX5_coveredBy_54 : decode cX5_coveredBy 54 = .ok (.ireturn, 1) := by decide +kernel
theorem dX5_drops_0 : decode cX5_drops 0 = .ok (.iconst 0, 1) := by decide +kernel
theorem dX5_drops_1 : decode cX5_drops 1 = .ok (.istore 4, 2) := by decide +kernel
theorem dX5_drops_3 : decode cX5_drops 3 = .ok (.aload_n 0, 1) := by decide +kernel
theorem dX5_drops_4 : decode cX5_drops 4 = .ok (.iload_n 2, 1) := by decide +kernel
theorem dX5_drops_5 : decode cX5_drops 5 = .ok (.iload_n 3, 1) := by decide +kernel
theorem dX5_drops_6 : decode cX5_drops 6 = .ok (.invokevirtual 47, 3) := by decide +kernel
theorem dX5_drops_9 : decode cX5_drops 9 = .ok (.istore 5, 2) := by decide +kernel
theorem dX5_drops_11 : decode cX5_drops 11 = .ok (.iconst 0, 1) := by decide +kernel
theorem dX5_drops_12 : decode cX5_drops 12 = .ok (.istore 6, 2) := by decide +kernel
theorem dX5_drops_14 : decode cX5_drops 14 = .ok (.iload 6, 2) := by decide +kernel
theorem dX5_drops_16 : decode cX5_drops 16 = .ok (.iload 5, 2) := by decide +kernel
theorem dX5_drops_18 : decode cX5_drops 18 = .ok (.if_icmp .ge 79, 3) := by decide +kernel
theorem dX5_drops_21 : decode cX5_drops 21 = .ok (.iload_n 2, 1) := by decide +kernel
theorem dX5_drops_22 : decode cX5_drops 22 = .ok (.iload_n 3, 1) := by decide +kernel
theorem dX5_drops_23 : decode cX5_drops 23 = .ok (.iload 6, 2) := by decide +kernel
theorem dX5_drops_25 : decode cX5_drops 25 = .ok (.invokestatic 50, 3) := by decide +kernel
theorem dX5_drops_28 : decode cX5_drops 28 = .ok (.istore 7, 2) := by decide +kernel
theorem dX5_drops_30 : decode cX5_drops 30 = .ok (.aload_n 0, 1) := by decide +kernel
theorem dX5_drops_31 : decode cX5_drops 31 = .ok (.iload_n 2, 1) := by decide +kernel
theorem dX5_drops_32 : decode cX5_drops 32 = .ok (.iload_n 1, 1) := by decide +kernel
theorem dX5_drops_33 : decode cX5_drops 33 = .ok (.invokestatic 54, 3) := by decide +kernel
theorem dX5_drops_36 : decode cX5_drops 36 = .ok (.iload 7, 2) := by decide +kernel
theorem dX5_drops_38 : decode cX5_drops 38 = .ok (.invokevirtual 57, 3) := by decide +kernel
theorem dX5_drops_41 : decode cX5_drops 41 = .ok (.ifCond .ne 50, 3) := by decide +kernel
theorem dX5_drops_44 : decode cX5_drops 44 = .ok (.iload_n 2, 1) := by decide +kernel
theorem dX5_drops_45 : decode cX5_drops 45 = .ok (.iload_n 3, 1) := by decide +kernel
theorem dX5_drops_46 : decode cX5_drops 46 = .ok (.iload 4, 2) := by decide +kernel
theorem dX5_drops_48 : decode cX5_drops 48 = .ok (.invokestatic 50, 3) := by decide +kernel
theorem dX5_drops_51 : decode cX5_drops 51 = .ok (.istore 8, 2) := by decide +kernel
theorem dX5_drops_53 : decode cX5_drops 53 = .ok (.iconst 0, 1) := by decide +kernel
theorem dX5_drops_54 : decode cX5_drops 54 = .ok (.istore 9, 2) := by decide +kernel
theorem dX5_drops_56 : decode cX5_drops 56 = .ok (.iload 9, 2) := by decide +kernel
theorem dX5_drops_58 : decode cX5_drops 58 = .ok (.iconst 3, 1) := by decide +kernel
theorem dX5_drops_59 : decode cX5_drops 59 = .ok (.if_icmp .ge 29, 3) := by decide +kernel
theorem dX5_drops_62 : decode cX5_drops 62 = .ok (.aload_n 0, 1) := by decide +kernel
theorem dX5_drops_63 : decode cX5_drops 63 = .ok (.getfield 7, 3) := by decide +kernel
theorem dX5_drops_66 : decode cX5_drops 66 = .ok (.iload 8, 2) := by decide +kernel
theorem dX5_drops_68 : decode cX5_drops 68 = .ok (.iload 9, 2) := by decide +kernel
theorem dX5_drops_70 : decode cX5_drops 70 = .ok (.iadd, 1) := by decide +kernel
theorem dX5_drops_71 : decode cX5_drops 71 = .ok (.aload_n 0, 1) := by decide +kernel
theorem dX5_drops_72 : decode cX5_drops 72 = .ok (.getfield 7, 3) := by decide +kernel
theorem dX5_drops_75 : decode cX5_drops 75 = .ok (.iload 7, 2) := by decide +kernel
theorem dX5_drops_77 : decode cX5_drops 77 = .ok (.iload 9, 2) := by decide +kernel
theorem dX5_drops_79 : decode cX5_drops 79 = .ok (.iadd, 1) := by decide +kernel
theorem dX5_drops_80 : decode cX5_drops 80 = .ok (.iaload, 1) := by decide +kernel
theorem dX5_drops_81 : decode cX5_drops 81 = .ok (.iastore, 1) := by decide +kernel
theorem dX5_drops_82 : decode cX5_drops 82 = .ok (.iinc 9 1, 3) := by decide +kernel
theorem dX5_drops_85 : decode cX5_drops 85 = .ok (.goto (-29), 3) := by decide +kernel
theorem dX5_drops_88 : decode cX5_drops 88 = .ok (.iinc 4 1, 3) := by decide +kernel
theorem dX5_drops_91 : decode cX5_drops 91 = .ok (.iinc 6 1, 3) := by decide +kernel
theorem dX5_drops_94 : decode cX5_drops 94 = .ok (.goto (-80), 3) := by decide +kernel
theorem dX5_drops_97 : decode cX5_drops 97 = .ok (.aload_n 0, 1) := by decide +kernel
theorem dX5_drops_98 : decode cX5_drops 98 = .ok (.getfield 7, 3) := by decide +kernel
theorem dX5_drops_101 : decode cX5_drops 101 = .ok (.iload_n 2, 1) := by decide +kernel
theorem dX5_drops_102 : decode cX5_drops 102 = .ok (.iload_n 3, 1) := by decide +kernel
theorem dX5_drops_103 : decode cX5_drops 103 = .ok (.invokestatic 43, 3) := by decide +kernel
theorem dX5_drops_106 : decode cX5_drops 106 = .ok (.iload 4, 2) := by decide +kernel
theorem dX5_drops_108 : decode cX5_drops 108 = .ok (.iastore, 1) := by decide +kernel
theorem dX5_drops_109 : decode cX5_drops 109 = .ok (.return_, 1) := by decide +kernel
theorem dX5_comes_0 : decode cX5_comes 0 = .ok (.aload_n 0, 1) := by decide +kernel
theorem dX5_comes_1 : decode cX5_comes 1 = .ok (.iload_n 1, 1) := by decide +kernel
theorem dX5_comes_2 : decode cX5_comes 2 = .ok (.iload_n 2, 1) := by decide +kernel
theorem dX5_comes_3 : decode cX5_comes 3 = .ok (.invokevirtual 47, 3) := by decide +kernel
theorem dX5_comes_6 : decode cX5_comes 6 = .ok (.istore 6, 2) := by decide +kernel
theorem dX5_comes_8 : decode cX5_comes 8 = .ok (.iload 6, 2) := by decide +kernel
theorem dX5_comes_10 : decode cX5_comes 10 = .ok (.ifCond .le 117, 3) := by decide +kernel
theorem dX5_comes_13 : decode cX5_comes 13 = .ok (.aload_n 0, 1) := by decide +kernel
theorem dX5_comes_14 : decode cX5_comes 14 = .ok (.getfield 7, 3) := by decide +kernel
theorem dX5_comes_17 : decode cX5_comes 17 = .ok (.iload_n 1, 1) := by decide +kernel
theorem dX5_comes_18 : decode cX5_comes 18 = .ok (.iload_n 2, 1) := by decide +kernel
theorem dX5_comes_19 : decode cX5_comes 19 = .ok (.iload 6, 2) := by decide +kernel
theorem dX5_comes_21 : decode cX5_comes 21 = .ok (.iconst 1, 1) := by decide +kernel
theorem dX5_comes_22 : decode cX5_comes 22 = .ok (.isub, 1) := by decide +kernel
theorem dX5_comes_23 : decode cX5_comes 23 = .ok (.invokestatic 50, 3) := by decide +kernel
theorem dX5_comes_26 : decode cX5_comes 26 = .ok (.iconst 0, 1) := by decide +kernel
theorem dX5_comes_27 : decode cX5_comes 27 = .ok (.iadd, 1) := by decide +kernel
theorem dX5_comes_28 : decode cX5_comes 28 = .ok (.iaload, 1) := by decide +kernel
theorem dX5_comes_29 : decode cX5_comes 29 = .ok (.iload_n 3, 1) := by decide +kernel
theorem dX5_comes_30 : decode cX5_comes 30 = .ok (.if_icmp .gt 44, 3) := by decide +kernel
theorem dX5_comes_33 : decode cX5_comes 33 = .ok (.aload_n 0, 1) := by decide +kernel
theorem dX5_comes_34 : decode cX5_comes 34 = .ok (.getfield 7, 3) := by decide +kernel
theorem dX5_comes_37 : decode cX5_comes 37 = .ok (.iload_n 1, 1) := by decide +kernel
theorem dX5_comes_38 : decode cX5_comes 38 = .ok (.iload_n 2, 1) := by decide +kernel
theorem dX5_comes_39 : decode cX5_comes 39 = .ok (.iload 6, 2) := by decide +kernel
theorem dX5_comes_41 : decode cX5_comes 41 = .ok (.iconst 1, 1) := by decide +kernel
theorem dX5_comes_42 : decode cX5_comes 42 = .ok (.isub, 1) := by decide +kernel
theorem dX5_comes_43 : decode cX5_comes 43 = .ok (.invokestatic 50, 3) := by decide +kernel
theorem dX5_comes_46 : decode cX5_comes 46 = .ok (.iconst 0, 1) := by decide +kernel
theorem dX5_comes_47 : decode cX5_comes 47 = .ok (.iadd, 1) := by decide +kernel
theorem dX5_comes_48 : decode cX5_comes 48 = .ok (.iaload, 1) := by decide +kernel
theorem dX5_comes_49 : decode cX5_comes 49 = .ok (.iload_n 3, 1) := by decide +kernel
theorem dX5_comes_50 : decode cX5_comes 50 = .ok (.if_icmp .ne 77, 3) := by decide +kernel
theorem dX5_comes_53 : decode cX5_comes 53 = .ok (.aload_n 0, 1) := by decide +kernel
theorem dX5_comes_54 : decode cX5_comes 54 = .ok (.getfield 7, 3) := by decide +kernel
theorem dX5_comes_57 : decode cX5_comes 57 = .ok (.iload_n 1, 1) := by decide +kernel
theorem dX5_comes_58 : decode cX5_comes 58 = .ok (.iload_n 2, 1) := by decide +kernel
theorem dX5_comes_59 : decode cX5_comes 59 = .ok (.iload 6, 2) := by decide +kernel
theorem dX5_comes_61 : decode cX5_comes 61 = .ok (.iconst 1, 1) := by decide +kernel
theorem dX5_comes_62 : decode cX5_comes 62 = .ok (.isub, 1) := by decide +kernel
theorem dX5_comes_63 : decode cX5_comes 63 = .ok (.invokestatic 50, 3) := by decide +kernel
theorem dX5_comes_66 : decode cX5_comes 66 = .ok (.iconst 1, 1) := by decide +kernel
theorem dX5_comes_67 : decode cX5_comes 67 = .ok (.iadd, 1) := by decide +kernel
theorem dX5_comes_68 : decode cX5_comes 68 = .ok (.iaload, 1) := by decide +kernel
theorem dX5_comes_69 : decode cX5_comes 69 = .ok (.iload 4, 2) := by decide +kernel
theorem dX5_comes_71 : decode cX5_comes 71 = .ok (.if_icmp .le 56, 3) := by decide +kernel
theorem dX5_comes_74 : decode cX5_comes 74 = .ok (.iconst 0, 1) := by decide +kernel
theorem dX5_comes_75 : decode cX5_comes 75 = .ok (.istore 7, 2) := by decide +kernel
theorem dX5_comes_77 : decode cX5_comes 77 = .ok (.iload 7, 2) := by decide +kernel
theorem dX5_comes_79 : decode cX5_comes 79 = .ok (.iconst 3, 1) := by decide +kernel
theorem dX5_comes_80 : decode cX5_comes 80 = .ok (.if_icmp .ge 41, 3) := by decide +kernel
theorem dX5_comes_83 : decode cX5_comes 83 = .ok (.aload_n 0, 1) := by decide +kernel
theorem dX5_comes_84 : decode cX5_comes 84 = .ok (.getfield 7, 3) := by decide +kernel
theorem dX5_comes_87 : decode cX5_comes 87 = .ok (.iload_n 1, 1) := by decide +kernel
theorem dX5_comes_88 : decode cX5_comes 88 = .ok (.iload_n 2, 1) := by decide +kernel
theorem dX5_comes_89 : decode cX5_comes 89 = .ok (.iload 6, 2) := by decide +kernel
theorem dX5_comes_91 : decode cX5_comes 91 = .ok (.invokestatic 50, 3) := by decide +kernel
theorem dX5_comes_94 : decode cX5_comes 94 = .ok (.iload 7, 2) := by decide +kernel
theorem dX5_comes_96 : decode cX5_comes 96 = .ok (.iadd, 1) := by decide +kernel
theorem dX5_comes_97 : decode cX5_comes 97 = .ok (.aload_n 0, 1) := by decide +kernel
theorem dX5_comes_98 : decode cX5_comes 98 = .ok (.getfield 7, 3) := by decide +kernel
theorem dX5_comes_101 : decode cX5_comes 101 = .ok (.iload_n 1, 1) := by decide +kernel
theorem dX5_comes_102 : decode cX5_comes 102 = .ok (.iload_n 2, 1) := by decide +kernel
theorem dX5_comes_103 : decode cX5_comes 103 = .ok (.iload 6, 2) := by decide +kernel
theorem dX5_comes_105 : decode cX5_comes 105 = .ok (.iconst 1, 1) := by decide +kernel
theorem dX5_comes_106 : decode cX5_comes 106 = .ok (.isub, 1) := by decide +kernel
theorem dX5_comes_107 : decode cX5_comes 107 = .ok (.invokestatic 50, 3) := by decide +kernel
theorem dX5_comes_110 : decode cX5_comes 110 = .ok (.iload 7, 2) := by decide +kernel
theorem dX5_comes_112 : decode cX5_comes 112 = .ok (.iadd, 1) := by decide +kernel
theorem dX5_comes_113 : decode cX5_comes 113 = .ok (.iaload, 1) := by decide +kernel
theorem dX5_comes_114 : decode cX5_comes 114 = .ok (.iastore, 1) := by decide +kernel
theorem dX5_comes_115 : decode cX5_comes 115 = .ok (.iinc 7 1, 3) := by decide +kernel
theorem dX5_comes_118 : decode cX5_comes 118 = .ok (.goto (-41), 3) := by decide +kernel
theorem dX5_comes_121 : decode cX5_comes 121 = .ok (.iinc 6 (-1), 3) := by decide +kernel
theorem dX5_comes_124 : decode cX5_comes 124 = .ok (.goto (-116), 3) := by decide +kernel
theorem dX5_comes_127 : decode cX5_comes 127 = .ok (.iload_n 1, 1) := by decide +kernel
theorem dX5_comes_128 : decode cX5_comes 128 = .ok (.iload_n 2, 1) := by decide +kernel
theorem dX5_comes_129 : decode cX5_comes 129 = .ok (.iload 6, 2) := by decide +kernel
theorem dX5_comes_131 : decode cX5_comes 131 = .ok (.invokestatic 50, 3) := by decide +kernel
theorem dX5_comes_134 : decode cX5_comes 134 = .ok (.istore 7, 2) := by decide +kernel
theorem dX5_comes_136 : decode cX5_comes 136 = .ok (.aload_n 0, 1) := by decide +kernel
theorem dX5_comes_137 : decode cX5_comes 137 = .ok (.getfield 7, 3) := by decide +kernel
theorem dX5_comes_140 : decode cX5_comes 140 = .ok (.iload 7, 2) := by decide +kernel
theorem dX5_comes_142 : decode cX5_comes 142 = .ok (.iconst 0, 1) := by decide +kernel
theorem dX5_comes_143 : decode cX5_comes 143 = .ok (.iadd, 1) := by decide +kernel
theorem dX5_comes_144 : decode cX5_comes 144 = .ok (.iload_n 3, 1) := by decide +kernel
theorem dX5_comes_145 : decode cX5_comes 145 = .ok (.iastore, 1) := by decide +kernel
theorem dX5_comes_146 : decode cX5_comes 146 = .ok (.aload_n 0, 1) := by decide +kernel
theorem dX5_comes_147 : decode cX5_comes 147 = .ok (.getfield 7, 3) := by decide +kernel
theorem dX5_comes_150 : decode cX5_comes 150 = .ok (.iload 7, 2) := by decide +kernel
theorem dX5_comes_152 : decode cX5_comes 152 = .ok (.iconst 1, 1) := by decide +kernel
theorem dX5_comes_153 : decode cX5_comes 153 = .ok (.iadd, 1) := by decide +kernel
theorem dX5_comes_154 : decode cX5_comes 154 = .ok (.iload 4, 2) := by decide +kernel
theorem dX5_comes_156 : decode cX5_comes 156 = .ok (.iastore, 1) := by decide +kernel
theorem dX5_comes_157 : decode cX5_comes 157 = .ok (.aload_n 0, 1) := by decide +kernel
theorem dX5_comes_158 : decode cX5_comes 158 = .ok (.getfield 7, 3) := by decide +kernel
theorem dX5_comes_161 : decode cX5_comes 161 = .ok (.iload 7, 2) := by decide +kernel
theorem dX5_comes_163 : decode cX5_comes 163 = .ok (.iconst 2, 1) := by decide +kernel
theorem dX5_comes_164 : decode cX5_comes 164 = .ok (.iadd, 1) := by decide +kernel
theorem dX5_comes_165 : decode cX5_comes 165 = .ok (.iload 5, 2) := by decide +kernel
theorem dX5_comes_167 : decode cX5_comes 167 = .ok (.iastore, 1) := by decide +kernel
theorem dX5_comes_168 : decode cX5_comes 168 = .ok (.aload_n 0, 1) := by decide +kernel
theorem dX5_comes_169 : decode cX5_comes 169 = .ok (.getfield 7, 3) := by decide +kernel
theorem dX5_comes_172 : decode cX5_comes 172 = .ok (.iload_n 1, 1) := by decide +kernel
theorem dX5_comes_173 : decode cX5_comes 173 = .ok (.iload_n 2, 1) := by decide +kernel
theorem dX5_comes_174 : decode cX5_comes 174 = .ok (.invokestatic 43, 3) := by decide +kernel
theorem dX5_comes_177 : decode cX5_comes 177 = .ok (.dup2, 1) := by decide +kernel
theorem dX5_comes_178 : decode cX5_comes 178 = .ok (.iaload, 1) := by decide +kernel
theorem dX5_comes_179 : decode cX5_comes 179 = .ok (.iconst 1, 1) := by decide +kernel
theorem dX5_comes_180 : decode cX5_comes 180 = .ok (.iadd, 1) := by decide +kernel
theorem dX5_comes_181 : decode cX5_comes 181 = .ok (.iastore, 1) := by decide +kernel
theorem dX5_comes_182 : decode cX5_comes 182 = .ok (.return_, 1) := by decide +kernel
theorem dX5_mayWrite_0 : decode cX5_mayWrite 0 = .ok (.aload_n 0, 1) := by decide +kernel
theorem dX5_mayWrite_1 : decode cX5_mayWrite 1 = .ok (.iload_n 2, 1) := by decide +kernel
theorem dX5_mayWrite_2 : decode cX5_mayWrite 2 = .ok (.iload_n 3, 1) := by decide +kernel
theorem dX5_mayWrite_3 : decode cX5_mayWrite 3 = .ok (.invokevirtual 47, 3) := by decide +kernel
theorem dX5_mayWrite_6 : decode cX5_mayWrite 6 = .ok (.aload_n 0, 1) := by decide +kernel
theorem dX5_mayWrite_7 : decode cX5_mayWrite 7 = .ok (.iload_n 1, 1) := by decide +kernel
theorem dX5_mayWrite_8 : decode cX5_mayWrite 8 = .ok (.iload_n 2, 1) := by decide +kernel
theorem dX5_mayWrite_9 : decode cX5_mayWrite 9 = .ok (.iload_n 3, 1) := by decide +kernel
theorem dX5_mayWrite_10 : decode cX5_mayWrite 10 = .ok (.invokevirtual 61, 3) := by decide +kernel
theorem dX5_mayWrite_13 : decode cX5_mayWrite 13 = .ok (.isub, 1) := by decide +kernel
theorem dX5_mayWrite_14 : decode cX5_mayWrite 14 = .ok (.iconst 4, 1) := by decide +kernel
theorem dX5_mayWrite_15 : decode cX5_mayWrite 15 = .ok (.if_icmp .ge 23, 3) := by decide +kernel
theorem dX5_mayWrite_18 : decode cX5_mayWrite 18 = .ok (.aload_n 0, 1) := by decide +kernel
theorem dX5_mayWrite_19 : decode cX5_mayWrite 19 = .ok (.getfield 7, 3) := by decide +kernel
theorem dX5_mayWrite_22 : decode cX5_mayWrite 22 = .ok (.iload_n 2, 1) := by decide +kernel
theorem dX5_mayWrite_23 : decode cX5_mayWrite 23 = .ok (.iload_n 1, 1) := by decide +kernel
theorem dX5_mayWrite_24 : decode cX5_mayWrite 24 = .ok (.invokestatic 64, 3) := by decide +kernel
theorem dX5_mayWrite_27 : decode cX5_mayWrite 27 = .ok (.iaload, 1) := by decide +kernel
theorem dX5_mayWrite_28 : decode cX5_mayWrite 28 = .ok (.sipush 999, 3) := by decide +kernel
theorem dX5_mayWrite_31 : decode cX5_mayWrite 31 = .ok (.if_icmp .ge 7, 3) := by decide +kernel
theorem dX5_mayWrite_34 : decode cX5_mayWrite 34 = .ok (.iconst 1, 1) := by decide +kernel
theorem dX5_mayWrite_35 : decode cX5_mayWrite 35 = .ok (.goto 4, 3) := by decide +kernel
theorem dX5_mayWrite_38 : decode cX5_mayWrite 38 = .ok (.iconst 0, 1) := by decide +kernel
theorem dX5_mayWrite_39 : decode cX5_mayWrite 39 = .ok (.ireturn, 1) := by decide +kernel
theorem dX5_writes_0 : decode cX5_writes 0 = .ok (.aload_n 0, 1) := by decide +kernel
theorem dX5_writes_1 : decode cX5_writes 1 = .ok (.iload_n 1, 1) := by decide +kernel
theorem dX5_writes_2 : decode cX5_writes 2 = .ok (.iload_n 2, 1) := by decide +kernel
theorem dX5_writes_3 : decode cX5_writes 3 = .ok (.iload_n 3, 1) := by decide +kernel
theorem dX5_writes_4 : decode cX5_writes 4 = .ok (.invokevirtual 61, 3) := by decide +kernel
theorem dX5_writes_7 : decode cX5_writes 7 = .ok (.istore 5, 2) := by decide +kernel
theorem dX5_writes_9 : decode cX5_writes 9 = .ok (.aload_n 0, 1) := by decide +kernel
theorem dX5_writes_10 : decode cX5_writes 10 = .ok (.iload_n 1, 1) := by decide +kernel
theorem dX5_writes_11 : decode cX5_writes 11 = .ok (.iload_n 2, 1) := by decide +kernel
theorem dX5_writes_12 : decode cX5_writes 12 = .ok (.iload_n 3, 1) := by decide +kernel
theorem dX5_writes_13 : decode cX5_writes 13 = .ok (.invokevirtual 67, 3) := by decide +kernel
theorem dX5_writes_16 : decode cX5_writes 16 = .ok (.aload_n 0, 1) := by decide +kernel
theorem dX5_writes_17 : decode cX5_writes 17 = .ok (.getfield 7, 3) := by decide +kernel
theorem dX5_writes_20 : decode cX5_writes 20 = .ok (.iload_n 2, 1) := by decide +kernel
theorem dX5_writes_21 : decode cX5_writes 21 = .ok (.iload_n 1, 1) := by decide +kernel
theorem dX5_writes_22 : decode cX5_writes 22 = .ok (.invokestatic 64, 3) := by decide +kernel
theorem dX5_writes_25 : decode cX5_writes 25 = .ok (.dup2, 1) := by decide +kernel
theorem dX5_writes_26 : decode cX5_writes 26 = .ok (.iaload, 1) := by decide +kernel
theorem dX5_writes_27 : decode cX5_writes 27 = .ok (.iconst 1, 1) := by decide +kernel
theorem dX5_writes_28 : decode cX5_writes 28 = .ok (.iadd, 1) := by decide +kernel
theorem dX5_writes_29 : decode cX5_writes 29 = .ok (.iastore, 1) := by decide +kernel
theorem dX5_writes_30 : decode cX5_writes 30 = .ok (.aload_n 0, 1) := by decide +kernel
theorem dX5_writes_31 : decode cX5_writes 31 = .ok (.getfield 7, 3) := by decide +kernel
theorem dX5_writes_34 : decode cX5_writes 34 = .ok (.iload_n 2, 1) := by decide +kernel
theorem dX5_writes_35 : decode cX5_writes 35 = .ok (.iload_n 1, 1) := by decide +kernel
theorem dX5_writes_36 : decode cX5_writes 36 = .ok (.invokestatic 64, 3) := by decide +kernel
theorem dX5_writes_39 : decode cX5_writes 39 = .ok (.iaload, 1) := by decide +kernel
theorem dX5_writes_40 : decode cX5_writes 40 = .ok (.istore 6, 2) := by decide +kernel
theorem dX5_writes_42 : decode cX5_writes 42 = .ok (.aload_n 0, 1) := by decide +kernel
theorem dX5_writes_43 : decode cX5_writes 43 = .ok (.iload_n 2, 1) := by decide +kernel
theorem dX5_writes_44 : decode cX5_writes 44 = .ok (.iload_n 3, 1) := by decide +kernel
theorem dX5_writes_45 : decode cX5_writes 45 = .ok (.iload_n 1, 1) := by decide +kernel
theorem dX5_writes_46 : decode cX5_writes 46 = .ok (.iload 6, 2) := by decide +kernel
theorem dX5_writes_48 : decode cX5_writes 48 = .ok (.iload 4, 2) := by decide +kernel
theorem dX5_writes_50 : decode cX5_writes 50 = .ok (.invokevirtual 71, 3) := by decide +kernel
theorem dX5_writes_53 : decode cX5_writes 53 = .ok (.aload_n 0, 1) := by decide +kernel
theorem dX5_writes_54 : decode cX5_writes 54 = .ok (.getfield 7, 3) := by decide +kernel
theorem dX5_writes_57 : decode cX5_writes 57 = .ok (.iload_n 2, 1) := by decide +kernel
theorem dX5_writes_58 : decode cX5_writes 58 = .ok (.iload_n 1, 1) := by decide +kernel
theorem dX5_writes_59 : decode cX5_writes 59 = .ok (.invokestatic 54, 3) := by decide +kernel
theorem dX5_writes_62 : decode cX5_writes 62 = .ok (.iload_n 1, 1) := by decide +kernel
theorem dX5_writes_63 : decode cX5_writes 63 = .ok (.iadd, 1) := by decide +kernel
theorem dX5_writes_64 : decode cX5_writes 64 = .ok (.iload 6, 2) := by decide +kernel
theorem dX5_writes_66 : decode cX5_writes 66 = .ok (.iastore, 1) := by decide +kernel
theorem dX5_writes_67 : decode cX5_writes 67 = .ok (.aload_n 0, 1) := by decide +kernel
theorem dX5_writes_68 : decode cX5_writes 68 = .ok (.iload_n 2, 1) := by decide +kernel
theorem dX5_writes_69 : decode cX5_writes 69 = .ok (.iload_n 3, 1) := by decide +kernel
theorem dX5_writes_70 : decode cX5_writes 70 = .ok (.invokestatic 75, 3) := by decide +kernel
theorem dX5_writes_73 : decode cX5_writes 73 = .ok (.iload_n 2, 1) := by decide +kernel
theorem dX5_writes_74 : decode cX5_writes 74 = .ok (.iload_n 1, 1) := by decide +kernel
theorem dX5_writes_75 : decode cX5_writes 75 = .ok (.invokestatic 54, 3) := by decide +kernel
theorem dX5_writes_78 : decode cX5_writes 78 = .ok (.invokevirtual 78, 3) := by decide +kernel
theorem dX5_writes_81 : decode cX5_writes 81 = .ok (.aload_n 0, 1) := by decide +kernel
theorem dX5_writes_82 : decode cX5_writes 82 = .ok (.getfield 7, 3) := by decide +kernel
theorem dX5_writes_85 : decode cX5_writes 85 = .ok (.sipush 306, 3) := by decide +kernel
theorem dX5_writes_88 : decode cX5_writes 88 = .ok (.dup2, 1) := by decide +kernel
theorem dX5_writes_89 : decode cX5_writes 89 = .ok (.iaload, 1) := by decide +kernel
theorem dX5_writes_90 : decode cX5_writes 90 = .ok (.iconst 1, 1) := by decide +kernel
theorem dX5_writes_91 : decode cX5_writes 91 = .ok (.iadd, 1) := by decide +kernel
theorem dX5_writes_92 : decode cX5_writes 92 = .ok (.iastore, 1) := by decide +kernel
theorem dX5_writes_93 : decode cX5_writes 93 = .ok (.aload_n 0, 1) := by decide +kernel
theorem dX5_writes_94 : decode cX5_writes 94 = .ok (.getfield 7, 3) := by decide +kernel
theorem dX5_writes_97 : decode cX5_writes 97 = .ok (.sipush 307, 3) := by decide +kernel
theorem dX5_writes_100 : decode cX5_writes 100 = .ok (.dup2, 1) := by decide +kernel
theorem dX5_writes_101 : decode cX5_writes 101 = .ok (.iaload, 1) := by decide +kernel
theorem dX5_writes_102 : decode cX5_writes 102 = .ok (.iload 5, 2) := by decide +kernel
theorem dX5_writes_104 : decode cX5_writes 104 = .ok (.iadd, 1) := by decide +kernel
theorem dX5_writes_105 : decode cX5_writes 105 = .ok (.iastore, 1) := by decide +kernel
theorem dX5_writes_106 : decode cX5_writes 106 = .ok (.iload 5, 2) := by decide +kernel
theorem dX5_writes_108 : decode cX5_writes 108 = .ok (.ireturn, 1) := by decide +kernel
theorem dX5_areThere_0 : decode cX5_areThere 0 = .ok (.iload_n 0, 1) := by decide +kernel
theorem dX5_areThere_1 : decode cX5_areThere 1 = .ok (.invokestatic 82, 3) := by decide +kernel
theorem dX5_areThere_4 : decode cX5_areThere 4 = .ok (.ifCond .eq 21, 3) := by decide +kernel
theorem dX5_areThere_7 : decode cX5_areThere 7 = .ok (.iload_n 1, 1) := by decide +kernel
theorem dX5_areThere_8 : decode cX5_areThere 8 = .ok (.invokestatic 86, 3) := by decide +kernel
theorem dX5_areThere_11 : decode cX5_areThere 11 = .ok (.ifCond .eq 14, 3) := by decide +kernel
theorem dX5_areThere_14 : decode cX5_areThere 14 = .ok (.iload_n 2, 1) := by decide +kernel
theorem dX5_areThere_15 : decode cX5_areThere 15 = .ok (.invokestatic 89, 3) := by decide +kernel
theorem dX5_areThere_18 : decode cX5_areThere 18 = .ok (.ifCond .eq 7, 3) := by decide +kernel
theorem dX5_areThere_21 : decode cX5_areThere 21 = .ok (.iconst 1, 1) := by decide +kernel
theorem dX5_areThere_22 : decode cX5_areThere 22 = .ok (.goto 4, 3) := by decide +kernel
theorem dX5_areThere_25 : decode cX5_areThere 25 = .ok (.iconst 0, 1) := by decide +kernel
theorem dX5_areThere_26 : decode cX5_areThere 26 = .ok (.ireturn, 1) := by decide +kernel
theorem dX5_read_0 : decode cX5_read 0 = .ok (.aload_n 0, 1) := by decide +kernel
theorem dX5_read_1 : decode cX5_read 1 = .ok (.iconst 0, 1) := by decide +kernel
theorem dX5_read_2 : decode cX5_read 2 = .ok (.putfield 32, 3) := by decide +kernel
theorem dX5_read_5 : decode cX5_read 5 = .ok (.iload_n 1, 1) := by decide +kernel
theorem dX5_read_6 : decode cX5_read 6 = .ok (.iload_n 2, 1) := by decide +kernel
theorem dX5_read_7 : decode cX5_read 7 = .ok (.iload_n 3, 1) := by decide +kernel
theorem dX5_read_8 : decode cX5_read 8 = .ok (.invokestatic 92, 3) := by decide +kernel
theorem dX5_read_11 : decode cX5_read 11 = .ok (.ifCond .ne 9, 3) := by decide +kernel
theorem dX5_read_14 : decode cX5_read 14 = .ok (.aload_n 0, 1) := by decide +kernel
theorem dX5_read_15 : decode cX5_read 15 = .ok (.iconst 1, 1) := by decide +kernel
theorem dX5_read_16 : decode cX5_read 16 = .ok (.invokevirtual 39, 3) := by decide +kernel
theorem dX5_read_19 : decode cX5_read 19 = .ok (.ireturn, 1) := by decide +kernel
theorem dX5_read_20 : decode cX5_read 20 = .ok (.aload_n 0, 1) := by decide +kernel
theorem dX5_read_21 : decode cX5_read 21 = .ok (.aload_n 0, 1) := by decide +kernel
theorem dX5_read_22 : decode cX5_read 22 = .ok (.getfield 7, 3) := by decide +kernel
theorem dX5_read_25 : decode cX5_read 25 = .ok (.invokevirtual 95, 3) := by decide +kernel
theorem dX5_read_28 : decode cX5_read 28 = .ok (.aload_n 0, 1) := by decide +kernel
theorem dX5_read_29 : decode cX5_read 29 = .ok (.iload_n 2, 1) := by decide +kernel
theorem dX5_read_30 : decode cX5_read 30 = .ok (.iload_n 1, 1) := by decide +kernel
theorem dX5_read_31 : decode cX5_read 31 = .ok (.invokestatic 54, 3) := by decide +kernel
theorem dX5_read_34 : decode cX5_read 34 = .ok (.iload_n 2, 1) := by decide +kernel
theorem dX5_read_35 : decode cX5_read 35 = .ok (.iload_n 3, 1) := by decide +kernel
theorem dX5_read_36 : decode cX5_read 36 = .ok (.invokestatic 75, 3) := by decide +kernel
theorem dX5_read_39 : decode cX5_read 39 = .ok (.invokevirtual 78, 3) := by decide +kernel
theorem dX5_read_42 : decode cX5_read 42 = .ok (.aload_n 0, 1) := by decide +kernel
theorem dX5_read_43 : decode cX5_read 43 = .ok (.iload_n 2, 1) := by decide +kernel
theorem dX5_read_44 : decode cX5_read 44 = .ok (.iload_n 3, 1) := by decide +kernel
theorem dX5_read_45 : decode cX5_read 45 = .ok (.invokevirtual 47, 3) := by decide +kernel
theorem dX5_read_48 : decode cX5_read 48 = .ok (.ireturn, 1) := by decide +kernel
theorem dX5_write_0 : decode cX5_write 0 = .ok (.aload_n 0, 1) := by decide +kernel
theorem dX5_write_1 : decode cX5_write 1 = .ok (.iconst 0, 1) := by decide +kernel
theorem dX5_write_2 : decode cX5_write 2 = .ok (.putfield 32, 3) := by decide +kernel
theorem dX5_write_5 : decode cX5_write 5 = .ok (.iload_n 1, 1) := by decide +kernel
theorem dX5_write_6 : decode cX5_write 6 = .ok (.iload_n 2, 1) := by decide +kernel
theorem dX5_write_7 : decode cX5_write 7 = .ok (.iload_n 3, 1) := by decide +kernel
theorem dX5_write_8 : decode cX5_write 8 = .ok (.invokestatic 92, 3) := by decide +kernel
theorem dX5_write_11 : decode cX5_write 11 = .ok (.ifCond .ne 9, 3) := by decide +kernel
theorem dX5_write_14 : decode cX5_write 14 = .ok (.aload_n 0, 1) := by decide +kernel
theorem dX5_write_15 : decode cX5_write 15 = .ok (.iconst 1, 1) := by decide +kernel
theorem dX5_write_16 : decode cX5_write 16 = .ok (.invokevirtual 39, 3) := by decide +kernel
theorem dX5_write_19 : decode cX5_write 19 = .ok (.ireturn, 1) := by decide +kernel
theorem dX5_write_20 : decode cX5_write 20 = .ok (.iload 4, 2) := by decide +kernel
theorem dX5_write_22 : decode cX5_write 22 = .ok (.iconst 0, 1) := by decide +kernel
theorem dX5_write_23 : decode cX5_write 23 = .ok (.bipush 99, 2) := by decide +kernel
theorem dX5_write_25 : decode cX5_write 25 = .ok (.invokestatic 35, 3) := by decide +kernel
theorem dX5_write_28 : decode cX5_write 28 = .ok (.ifCond .ne 9, 3) := by decide +kernel
theorem dX5_write_31 : decode cX5_write 31 = .ok (.aload_n 0, 1) := by decide +kernel
theorem dX5_write_32 : decode cX5_write 32 = .ok (.iconst 2, 1) := by decide +kernel
theorem dX5_write_33 : decode cX5_write 33 = .ok (.invokevirtual 39, 3) := by decide +kernel
theorem dX5_write_36 : decode cX5_write 36 = .ok (.ireturn, 1) := by decide +kernel
theorem dX5_write_37 : decode cX5_write 37 = .ok (.aload_n 0, 1) := by decide +kernel
theorem dX5_write_38 : decode cX5_write 38 = .ok (.iload_n 1, 1) := by decide +kernel
theorem dX5_write_39 : decode cX5_write 39 = .ok (.iload_n 2, 1) := by decide +kernel
theorem dX5_write_40 : decode cX5_write 40 = .ok (.iload_n 3, 1) := by decide +kernel
theorem dX5_write_41 : decode cX5_write 41 = .ok (.invokevirtual 99, 3) := by decide +kernel
theorem dX5_write_44 : decode cX5_write 44 = .ok (.ifCond .ne 9, 3) := by decide +kernel
theorem dX5_write_47 : decode cX5_write 47 = .ok (.aload_n 0, 1) := by decide +kernel
theorem dX5_write_48 : decode cX5_write 48 = .ok (.iconst 3, 1) := by decide +kernel
theorem dX5_write_49 : decode cX5_write 49 = .ok (.invokevirtual 39, 3) := by decide +kernel
theorem dX5_write_52 : decode cX5_write 52 = .ok (.ireturn, 1) := by decide +kernel
theorem dX5_write_53 : decode cX5_write 53 = .ok (.aload_n 0, 1) := by decide +kernel
theorem dX5_write_54 : decode cX5_write 54 = .ok (.aload_n 0, 1) := by decide +kernel
theorem dX5_write_55 : decode cX5_write 55 = .ok (.getfield 7, 3) := by decide +kernel
theorem dX5_write_58 : decode cX5_write 58 = .ok (.invokevirtual 95, 3) := by decide +kernel
theorem dX5_write_61 : decode cX5_write 61 = .ok (.aload_n 0, 1) := by decide +kernel
theorem dX5_write_62 : decode cX5_write 62 = .ok (.iload_n 1, 1) := by decide +kernel
theorem dX5_write_63 : decode cX5_write 63 = .ok (.iload_n 2, 1) := by decide +kernel
theorem dX5_write_64 : decode cX5_write 64 = .ok (.iload_n 3, 1) := by decide +kernel
theorem dX5_write_65 : decode cX5_write 65 = .ok (.iload 4, 2) := by decide +kernel
theorem dX5_write_67 : decode cX5_write 67 = .ok (.invokevirtual 102, 3) := by decide +kernel
theorem dX5_write_70 : decode cX5_write 70 = .ok (.ireturn, 1) := by decide +kernel
theorem dX5_joined_0 : decode cX5_joined 0 = .ok (.aload_n 0, 1) := by decide +kernel
theorem dX5_joined_1 : decode cX5_joined 1 = .ok (.getfield 7, 3) := by decide +kernel
theorem dX5_joined_4 : decode cX5_joined 4 = .ok (.iload_n 1, 1) := by decide +kernel
theorem dX5_joined_5 : decode cX5_joined 5 = .ok (.iload_n 2, 1) := by decide +kernel
theorem dX5_joined_6 : decode cX5_joined 6 = .ok (.iconst 0, 1) := by decide +kernel
theorem dX5_joined_7 : decode cX5_joined 7 = .ok (.invokestatic 50, 3) := by decide +kernel
theorem dX5_joined_10 : decode cX5_joined 10 = .ok (.iconst 2, 1) := by decide +kernel
theorem dX5_joined_11 : decode cX5_joined 11 = .ok (.iadd, 1) := by decide +kernel
theorem dX5_joined_12 : decode cX5_joined 12 = .ok (.iaload, 1) := by decide +kernel
theorem dX5_joined_13 : decode cX5_joined 13 = .ok (.istore 4, 2) := by decide +kernel
theorem dX5_joined_15 : decode cX5_joined 15 = .ok (.iconst 1, 1) := by decide +kernel
theorem dX5_joined_16 : decode cX5_joined 16 = .ok (.istore 5, 2) := by decide +kernel
theorem dX5_joined_18 : decode cX5_joined 18 = .ok (.iload 5, 2) := by decide +kernel
theorem dX5_joined_20 : decode cX5_joined 20 = .ok (.aload_n 0, 1) := by decide +kernel
theorem dX5_joined_21 : decode cX5_joined 21 = .ok (.iload_n 1, 1) := by decide +kernel
theorem dX5_joined_22 : decode cX5_joined 22 = .ok (.iload_n 2, 1) := by decide +kernel
theorem dX5_joined_23 : decode cX5_joined 23 = .ok (.invokevirtual 47, 3) := by decide +kernel
theorem dX5_joined_26 : decode cX5_joined 26 = .ok (.if_icmp .ge 73, 3) := by decide +kernel
theorem dX5_joined_29 : decode cX5_joined 29 = .ok (.iload_n 3, 1) := by decide +kernel
theorem dX5_joined_30 : decode cX5_joined 30 = .ok (.iconst 3, 1) := by decide +kernel
theorem dX5_joined_31 : decode cX5_joined 31 = .ok (.if_icmp .ge 68, 3) := by decide +kernel
theorem dX5_joined_34 : decode cX5_joined 34 = .ok (.aload_n 0, 1) := by decide +kernel
theorem dX5_joined_35 : decode cX5_joined 35 = .ok (.getfield 7, 3) := by decide +kernel
theorem dX5_joined_38 : decode cX5_joined 38 = .ok (.iload_n 1, 1) := by decide +kernel
theorem dX5_joined_39 : decode cX5_joined 39 = .ok (.iload_n 2, 1) := by decide +kernel
theorem dX5_joined_40 : decode cX5_joined 40 = .ok (.iload 5, 2) := by decide +kernel
theorem dX5_joined_42 : decode cX5_joined 42 = .ok (.invokestatic 50, 3) := by decide +kernel
theorem dX5_joined_45 : decode cX5_joined 45 = .ok (.iconst 2, 1) := by decide +kernel
theorem dX5_joined_46 : decode cX5_joined 46 = .ok (.iadd, 1) := by decide +kernel
theorem dX5_joined_47 : decode cX5_joined 47 = .ok (.iaload, 1) := by decide +kernel
theorem dX5_joined_48 : decode cX5_joined 48 = .ok (.istore 6, 2) := by decide +kernel
theorem dX5_joined_50 : decode cX5_joined 50 = .ok (.iload_n 3, 1) := by decide +kernel
theorem dX5_joined_51 : decode cX5_joined 51 = .ok (.iconst 2, 1) := by decide +kernel
theorem dX5_joined_52 : decode cX5_joined 52 = .ok (.if_icmp .ne 11, 3) := by decide +kernel
theorem dX5_joined_55 : decode cX5_joined 55 = .ok (.iload 4, 2) := by decide +kernel
theorem dX5_joined_57 : decode cX5_joined 57 = .ok (.iload 6, 2) := by decide +kernel
theorem dX5_joined_59 : decode cX5_joined 59 = .ok (.iadd, 1) := by decide +kernel
theorem dX5_joined_60 : decode cX5_joined 60 = .ok (.goto 31, 3) := by decide +kernel
theorem dX5_joined_63 : decode cX5_joined 63 = .ok (.iload_n 3, 1) := by decide +kernel
theorem dX5_joined_64 : decode cX5_joined 64 = .ok (.ifCond .ne 13, 3) := by decide +kernel
theorem dX5_joined_67 : decode cX5_joined 67 = .ok (.iload 6, 2) := by decide +kernel
theorem dX5_joined_69 : decode cX5_joined 69 = .ok (.iload 4, 2) := by decide +kernel
theorem dX5_joined_71 : decode cX5_joined 71 = .ok (.if_icmp .le 18, 3) := by decide +kernel
theorem dX5_joined_74 : decode cX5_joined 74 = .ok (.goto 10, 3) := by decide +kernel
theorem dX5_joined_77 : decode cX5_joined 77 = .ok (.iload 6, 2) := by decide +kernel
theorem dX5_joined_79 : decode cX5_joined 79 = .ok (.iload 4, 2) := by decide +kernel
theorem dX5_joined_81 : decode cX5_joined 81 = .ok (.if_icmp .ge 8, 3) := by decide +kernel
theorem dX5_joined_84 : decode cX5_joined 84 = .ok (.iload 6, 2) := by decide +kernel
theorem dX5_joined_86 : decode cX5_joined 86 = .ok (.goto 5, 3) := by decide +kernel
theorem dX5_joined_89 : decode cX5_joined 89 = .ok (.iload 4, 2) := by decide +kernel
theorem dX5_joined_91 : decode cX5_joined 91 = .ok (.istore 4, 2) := by decide +kernel
theorem dX5_joined_93 : decode cX5_joined 93 = .ok (.iinc 5 1, 3) := by decide +kernel
theorem dX5_joined_96 : decode cX5_joined 96 = .ok (.goto (-78), 3) := by decide +kernel
theorem dX5_joined_99 : decode cX5_joined 99 = .ok (.iload_n 3, 1) := by decide +kernel
theorem dX5_joined_100 : decode cX5_joined 100 = .ok (.iconst 2, 1) := by decide +kernel
theorem dX5_joined_101 : decode cX5_joined 101 = .ok (.if_icmp .ne 11, 3) := by decide +kernel
theorem dX5_joined_104 : decode cX5_joined 104 = .ok (.iload 4, 2) := by decide +kernel
theorem dX5_joined_106 : decode cX5_joined 106 = .ok (.bipush 100, 2) := by decide +kernel
theorem dX5_joined_108 : decode cX5_joined 108 = .ok (.irem, 1) := by decide +kernel
theorem dX5_joined_109 : decode cX5_joined 109 = .ok (.goto 5, 3) := by decide +kernel
theorem dX5_joined_112 : decode cX5_joined 112 = .ok (.iload 4, 2) := by decide +kernel
theorem dX5_joined_114 : decode cX5_joined 114 = .ok (.ireturn, 1) := by decide +kernel
theorem dX5_join_0 : decode cX5_join 0 = .ok (.aload_n 0, 1) := by decide +kernel
theorem dX5_join_1 : decode cX5_join 1 = .ok (.iconst 0, 1) := by decide +kernel
theorem dX5_join_2 : decode cX5_join 2 = .ok (.putfield 32, 3) := by decide +kernel
theorem dX5_join_5 : decode cX5_join 5 = .ok (.iload_n 1, 1) := by decide +kernel
theorem dX5_join_6 : decode cX5_join 6 = .ok (.iload_n 2, 1) := by decide +kernel
theorem dX5_join_7 : decode cX5_join 7 = .ok (.iload_n 3, 1) := by decide +kernel
theorem dX5_join_8 : decode cX5_join 8 = .ok (.invokestatic 92, 3) := by decide +kernel
theorem dX5_join_11 : decode cX5_join 11 = .ok (.ifCond .ne 9, 3) := by decide +kernel
theorem dX5_join_14 : decode cX5_join 14 = .ok (.aload_n 0, 1) := by decide +kernel
theorem dX5_join_15 : decode cX5_join 15 = .ok (.iconst 1, 1) := by decide +kernel
theorem dX5_join_16 : decode cX5_join 16 = .ok (.invokevirtual 39, 3) := by decide +kernel
theorem dX5_join_19 : decode cX5_join 19 = .ok (.ireturn, 1) := by decide +kernel
theorem dX5_join_20 : decode cX5_join 20 = .ok (.iload 4, 2) := by decide +kernel
theorem dX5_join_22 : decode cX5_join 22 = .ok (.iconst 0, 1) := by decide +kernel
theorem dX5_join_23 : decode cX5_join 23 = .ok (.iconst 3, 1) := by decide +kernel
theorem dX5_join_24 : decode cX5_join 24 = .ok (.invokestatic 35, 3) := by decide +kernel
theorem dX5_join_27 : decode cX5_join 27 = .ok (.ifCond .ne 9, 3) := by decide +kernel
theorem dX5_join_30 : decode cX5_join 30 = .ok (.aload_n 0, 1) := by decide +kernel
theorem dX5_join_31 : decode cX5_join 31 = .ok (.iconst 2, 1) := by decide +kernel
theorem dX5_join_32 : decode cX5_join 32 = .ok (.invokevirtual 39, 3) := by decide +kernel
theorem dX5_join_35 : decode cX5_join 35 = .ok (.ireturn, 1) := by decide +kernel
theorem dX5_join_36 : decode cX5_join 36 = .ok (.aload_n 0, 1) := by decide +kernel
theorem dX5_join_37 : decode cX5_join 37 = .ok (.iload_n 2, 1) := by decide +kernel
theorem dX5_join_38 : decode cX5_join 38 = .ok (.iload_n 3, 1) := by decide +kernel
theorem dX5_join_39 : decode cX5_join 39 = .ok (.invokevirtual 47, 3) := by decide +kernel
theorem dX5_join_42 : decode cX5_join 42 = .ok (.ifCond .eq 19, 3) := by decide +kernel
theorem dX5_join_45 : decode cX5_join 45 = .ok (.aload_n 0, 1) := by decide +kernel
theorem dX5_join_46 : decode cX5_join 46 = .ok (.getfield 7, 3) := by decide +kernel
theorem dX5_join_49 : decode cX5_join 49 = .ok (.iload_n 2, 1) := by decide +kernel
theorem dX5_join_50 : decode cX5_join 50 = .ok (.iload_n 1, 1) := by decide +kernel
theorem dX5_join_51 : decode cX5_join 51 = .ok (.invokestatic 64, 3) := by decide +kernel
theorem dX5_join_54 : decode cX5_join 54 = .ok (.iaload, 1) := by decide +kernel
theorem dX5_join_55 : decode cX5_join 55 = .ok (.sipush 999, 3) := by decide +kernel
theorem dX5_join_58 : decode cX5_join 58 = .ok (.if_icmp .ne 9, 3) := by decide +kernel
theorem dX5_join_61 : decode cX5_join 61 = .ok (.aload_n 0, 1) := by decide +kernel
theorem dX5_join_62 : decode cX5_join 62 = .ok (.iconst 3, 1) := by decide +kernel
theorem dX5_join_63 : decode cX5_join 63 = .ok (.invokevirtual 39, 3) := by decide +kernel
theorem dX5_join_66 : decode cX5_join 66 = .ok (.ireturn, 1) := by decide +kernel
theorem dX5_join_67 : decode cX5_join 67 = .ok (.aload_n 0, 1) := by decide +kernel
theorem dX5_join_68 : decode cX5_join 68 = .ok (.aload_n 0, 1) := by decide +kernel
theorem dX5_join_69 : decode cX5_join 69 = .ok (.getfield 7, 3) := by decide +kernel
theorem dX5_join_72 : decode cX5_join 72 = .ok (.invokevirtual 95, 3) := by decide +kernel
theorem dX5_join_75 : decode cX5_join 75 = .ok (.aload_n 0, 1) := by decide +kernel
theorem dX5_join_76 : decode cX5_join 76 = .ok (.iload_n 2, 1) := by decide +kernel
theorem dX5_join_77 : decode cX5_join 77 = .ok (.iload_n 3, 1) := by decide +kernel
theorem dX5_join_78 : decode cX5_join 78 = .ok (.iload 4, 2) := by decide +kernel
theorem dX5_join_80 : decode cX5_join 80 = .ok (.invokevirtual 106, 3) := by decide +kernel
theorem dX5_join_83 : decode cX5_join 83 = .ok (.istore 5, 2) := by decide +kernel
theorem dX5_join_85 : decode cX5_join 85 = .ok (.aload_n 0, 1) := by decide +kernel
theorem dX5_join_86 : decode cX5_join 86 = .ok (.iload_n 2, 1) := by decide +kernel
theorem dX5_join_87 : decode cX5_join 87 = .ok (.iload_n 1, 1) := by decide +kernel
theorem dX5_join_88 : decode cX5_join 88 = .ok (.invokestatic 54, 3) := by decide +kernel
theorem dX5_join_91 : decode cX5_join 91 = .ok (.iload_n 2, 1) := by decide +kernel
theorem dX5_join_92 : decode cX5_join 92 = .ok (.iload_n 3, 1) := by decide +kernel
theorem dX5_join_93 : decode cX5_join 93 = .ok (.invokestatic 75, 3) := by decide +kernel
theorem dX5_join_96 : decode cX5_join 96 = .ok (.invokevirtual 78, 3) := by decide +kernel
theorem dX5_join_99 : decode cX5_join 99 = .ok (.aload_n 0, 1) := by decide +kernel
theorem dX5_join_100 : decode cX5_join 100 = .ok (.iload_n 1, 1) := by decide +kernel
theorem dX5_join_101 : decode cX5_join 101 = .ok (.iload_n 2, 1) := by decide +kernel
theorem dX5_join_102 : decode cX5_join 102 = .ok (.iload_n 3, 1) := by decide +kernel
theorem dX5_join_103 : decode cX5_join 103 = .ok (.iload 5, 2) := by decide +kernel
theorem dX5_join_105 : decode cX5_join 105 = .ok (.invokevirtual 102, 3) := by decide +kernel
theorem dX5_join_108 : decode cX5_join 108 = .ok (.istore 6, 2) := by decide +kernel
theorem dX5_join_110 : decode cX5_join 110 = .ok (.aload_n 0, 1) := by decide +kernel
theorem dX5_join_111 : decode cX5_join 111 = .ok (.getfield 7, 3) := by decide +kernel
theorem dX5_join_114 : decode cX5_join 114 = .ok (.sipush 309, 3) := by decide +kernel
theorem dX5_join_117 : decode cX5_join 117 = .ok (.dup2, 1) := by decide +kernel
theorem dX5_join_118 : decode cX5_join 118 = .ok (.iaload, 1) := by decide +kernel
theorem dX5_join_119 : decode cX5_join 119 = .ok (.iload 6, 2) := by decide +kernel
theorem dX5_join_121 : decode cX5_join 121 = .ok (.ifCond .ge 7, 3) := by decide +kernel
theorem dX5_join_124 : decode cX5_join 124 = .ok (.iconst 0, 1) := by decide +kernel
theorem dX5_join_125 : decode cX5_join 125 = .ok (.goto 4, 3) := by decide +kernel
theorem dX5_join_128 : decode cX5_join 128 = .ok (.iconst 1, 1) := by decide +kernel
theorem dX5_join_129 : decode cX5_join 129 = .ok (.iadd, 1) := by decide +kernel
theorem dX5_join_130 : decode cX5_join 130 = .ok (.iastore, 1) := by decide +kernel
theorem dX5_join_131 : decode cX5_join 131 = .ok (.iload 5, 2) := by decide +kernel
theorem dX5_join_133 : decode cX5_join 133 = .ok (.ireturn, 1) := by decide +kernel
theorem dX5_lose_0 : decode cX5_lose 0 = .ok (.aload_n 0, 1) := by decide +kernel
theorem dX5_lose_1 : decode cX5_lose 1 = .ok (.iconst 0, 1) := by decide +kernel
theorem dX5_lose_2 : decode cX5_lose 2 = .ok (.putfield 32, 3) := by decide +kernel
theorem dX5_lose_5 : decode cX5_lose 5 = .ok (.iload_n 1, 1) := by decide +kernel
theorem dX5_lose_6 : decode cX5_lose 6 = .ok (.invokestatic 82, 3) := by decide +kernel
theorem dX5_lose_9 : decode cX5_lose 9 = .ok (.ifCond .eq 10, 3) := by decide +kernel
theorem dX5_lose_12 : decode cX5_lose 12 = .ok (.iload_n 2, 1) := by decide +kernel
theorem dX5_lose_13 : decode cX5_lose 13 = .ok (.invokestatic 86, 3) := by decide +kernel
theorem dX5_lose_16 : decode cX5_lose 16 = .ok (.ifCond .ne 9, 3) := by decide +kernel
theorem dX5_lose_19 : decode cX5_lose 19 = .ok (.aload_n 0, 1) := by decide +kernel
theorem dX5_lose_20 : decode cX5_lose 20 = .ok (.iconst 1, 1) := by decide +kernel
theorem dX5_lose_21 : decode cX5_lose 21 = .ok (.invokevirtual 39, 3) := by decide +kernel
theorem dX5_lose_24 : decode cX5_lose 24 = .ok (.ireturn, 1) := by decide +kernel
theorem dX5_lose_25 : decode cX5_lose 25 = .ok (.aload_n 0, 1) := by decide +kernel
theorem dX5_lose_26 : decode cX5_lose 26 = .ok (.aload_n 0, 1) := by decide +kernel
theorem dX5_lose_27 : decode cX5_lose 27 = .ok (.getfield 7, 3) := by decide +kernel
theorem dX5_lose_30 : decode cX5_lose 30 = .ok (.invokevirtual 95, 3) := by decide +kernel
theorem dX5_lose_33 : decode cX5_lose 33 = .ok (.iconst 0, 1) := by decide +kernel
theorem dX5_lose_34 : decode cX5_lose 34 = .ok (.istore_n 3, 1) := by decide +kernel
theorem dX5_lose_35 : decode cX5_lose 35 = .ok (.iconst 0, 1) := by decide +kernel
theorem dX5_lose_36 : decode cX5_lose 36 = .ok (.istore 4, 2) := by decide +kernel
theorem dX5_lose_38 : decode cX5_lose 38 = .ok (.iload 4, 2) := by decide +kernel
theorem dX5_lose_40 : decode cX5_lose 40 = .ok (.iconst 5, 1) := by decide +kernel
theorem dX5_lose_41 : decode cX5_lose 41 = .ok (.if_icmp .ge 63, 3) := by decide +kernel
theorem dX5_lose_44 : decode cX5_lose 44 = .ok (.iload_n 2, 1) := by decide +kernel
theorem dX5_lose_45 : decode cX5_lose 45 = .ok (.iload_n 1, 1) := by decide +kernel
theorem dX5_lose_46 : decode cX5_lose 46 = .ok (.invokestatic 54, 3) := by decide +kernel
theorem dX5_lose_49 : decode cX5_lose 49 = .ok (.iload 4, 2) := by decide +kernel
theorem dX5_lose_51 : decode cX5_lose 51 = .ok (.iadd, 1) := by decide +kernel
theorem dX5_lose_52 : decode cX5_lose 52 = .ok (.istore 5, 2) := by decide +kernel
theorem dX5_lose_54 : decode cX5_lose 54 = .ok (.iload_n 3, 1) := by decide +kernel
theorem dX5_lose_55 : decode cX5_lose 55 = .ok (.iload 4, 2) := by decide +kernel
theorem dX5_lose_57 : decode cX5_lose 57 = .ok (.iload_n 1, 1) := by decide +kernel
theorem dX5_lose_58 : decode cX5_lose 58 = .ok (.if_icmp .ne 7, 3) := by decide +kernel
theorem dX5_lose_61 : decode cX5_lose 61 = .ok (.iconst 0, 1) := by decide +kernel
theorem dX5_lose_62 : decode cX5_lose 62 = .ok (.goto 10, 3) := by decide +kernel
theorem dX5_lose_65 : decode cX5_lose 65 = .ok (.aload_n 0, 1) := by decide +kernel
theorem dX5_lose_66 : decode cX5_lose 66 = .ok (.getfield 7, 3) := by decide +kernel
theorem dX5_lose_69 : decode cX5_lose 69 = .ok (.iload 5, 2) := by decide +kernel
theorem dX5_lose_71 : decode cX5_lose 71 = .ok (.iaload, 1) := by decide +kernel
theorem dX5_lose_72 : decode cX5_lose 72 = .ok (.iadd, 1) := by decide +kernel
theorem dX5_lose_73 : decode cX5_lose 73 = .ok (.istore_n 3, 1) := by decide +kernel
theorem dX5_lose_74 : decode cX5_lose 74 = .ok (.aload_n 0, 1) := by decide +kernel
theorem dX5_lose_75 : decode cX5_lose 75 = .ok (.getfield 7, 3) := by decide +kernel
theorem dX5_lose_78 : decode cX5_lose 78 = .ok (.iload 5, 2) := by decide +kernel
theorem dX5_lose_80 : decode cX5_lose 80 = .ok (.iload 4, 2) := by decide +kernel
theorem dX5_lose_82 : decode cX5_lose 82 = .ok (.iload_n 1, 1) := by decide +kernel
theorem dX5_lose_83 : decode cX5_lose 83 = .ok (.if_icmp .ne 13, 3) := by decide +kernel
theorem dX5_lose_86 : decode cX5_lose 86 = .ok (.aload_n 0, 1) := by decide +kernel
theorem dX5_lose_87 : decode cX5_lose 87 = .ok (.getfield 7, 3) := by decide +kernel
theorem dX5_lose_90 : decode cX5_lose 90 = .ok (.iload 5, 2) := by decide +kernel
theorem dX5_lose_92 : decode cX5_lose 92 = .ok (.iaload, 1) := by decide +kernel
theorem dX5_lose_93 : decode cX5_lose 93 = .ok (.goto 4, 3) := by decide +kernel
theorem dX5_lose_96 : decode cX5_lose 96 = .ok (.iconst 0, 1) := by decide +kernel
theorem dX5_lose_97 : decode cX5_lose 97 = .ok (.iastore, 1) := by decide +kernel
theorem dX5_lose_98 : decode cX5_lose 98 = .ok (.iinc 4 1, 3) := by decide +kernel
theorem dX5_lose_101 : decode cX5_lose 101 = .ok (.goto (-63), 3) := by decide +kernel
theorem dX5_lose_104 : decode cX5_lose 104 = .ok (.iload_n 3, 1) := by decide +kernel
theorem dX5_lose_105 : decode cX5_lose 105 = .ok (.ireturn, 1) := by decide +kernel
theorem dX5_why_0 : decode cX5_why 0 = .ok (.iconst 0, 1) := by decide +kernel
theorem dX5_why_1 : decode cX5_why 1 = .ok (.istore_n 3, 1) := by decide +kernel
theorem dX5_why_2 : decode cX5_why 2 = .ok (.iconst 1, 1) := by decide +kernel
theorem dX5_why_3 : decode cX5_why 3 = .ok (.istore 4, 2) := by decide +kernel
theorem dX5_why_5 : decode cX5_why 5 = .ok (.iconst 0, 1) := by decide +kernel
theorem dX5_why_6 : decode cX5_why 6 = .ok (.istore 5, 2) := by decide +kernel
theorem dX5_why_8 : decode cX5_why 8 = .ok (.iload 5, 2) := by decide +kernel
theorem dX5_why_10 : decode cX5_why 10 = .ok (.iconst 3, 1) := by decide +kernel
theorem dX5_why_11 : decode cX5_why 11 = .ok (.if_icmp .ge 99, 3) := by decide +kernel
theorem dX5_why_14 : decode cX5_why 14 = .ok (.iload 4, 2) := by decide +kernel
theorem dX5_why_16 : decode cX5_why 16 = .ok (.ifCond .eq 35, 3) := by decide +kernel
theorem dX5_why_19 : decode cX5_why 19 = .ok (.aload_n 0, 1) := by decide +kernel
theorem dX5_why_20 : decode cX5_why 20 = .ok (.getfield 7, 3) := by decide +kernel
theorem dX5_why_23 : decode cX5_why 23 = .ok (.iload_n 2, 1) := by decide +kernel
theorem dX5_why_24 : decode cX5_why 24 = .ok (.iload 5, 2) := by decide +kernel
theorem dX5_why_26 : decode cX5_why 26 = .ok (.invokestatic 75, 3) := by decide +kernel
theorem dX5_why_29 : decode cX5_why 29 = .ok (.iload_n 1, 1) := by decide +kernel
theorem dX5_why_30 : decode cX5_why 30 = .ok (.iadd, 1) := by decide +kernel
theorem dX5_why_31 : decode cX5_why 31 = .ok (.iaload, 1) := by decide +kernel
theorem dX5_why_32 : decode cX5_why 32 = .ok (.aload_n 0, 1) := by decide +kernel
theorem dX5_why_33 : decode cX5_why 33 = .ok (.getfield 7, 3) := by decide +kernel
theorem dX5_why_36 : decode cX5_why 36 = .ok (.iload_n 2, 1) := by decide +kernel
theorem dX5_why_37 : decode cX5_why 37 = .ok (.iconst 0, 1) := by decide +kernel
theorem dX5_why_38 : decode cX5_why 38 = .ok (.invokestatic 75, 3) := by decide +kernel
theorem dX5_why_41 : decode cX5_why 41 = .ok (.iload_n 1, 1) := by decide +kernel
theorem dX5_why_42 : decode cX5_why 42 = .ok (.iadd, 1) := by decide +kernel
theorem dX5_why_43 : decode cX5_why 43 = .ok (.iaload, 1) := by decide +kernel
theorem dX5_why_44 : decode cX5_why 44 = .ok (.if_icmp .ne 7, 3) := by decide +kernel
theorem dX5_why_47 : decode cX5_why 47 = .ok (.iconst 1, 1) := by decide +kernel
theorem dX5_why_48 : decode cX5_why 48 = .ok (.goto 4, 3) := by decide +kernel
theorem dX5_why_51 : decode cX5_why 51 = .ok (.iconst 0, 1) := by decide +kernel
theorem dX5_why_52 : decode cX5_why 52 = .ok (.istore 4, 2) := by decide +kernel
theorem dX5_why_54 : decode cX5_why 54 = .ok (.iconst 0, 1) := by decide +kernel
theorem dX5_why_55 : decode cX5_why 55 = .ok (.istore 6, 2) := by decide +kernel
theorem dX5_why_57 : decode cX5_why 57 = .ok (.iload 6, 2) := by decide +kernel
theorem dX5_why_59 : decode cX5_why 59 = .ok (.aload_n 0, 1) := by decide +kernel
theorem dX5_why_60 : decode cX5_why 60 = .ok (.iload_n 2, 1) := by decide +kernel
theorem dX5_why_61 : decode cX5_why 61 = .ok (.iload 5, 2) := by decide +kernel
theorem dX5_why_63 : decode cX5_why 63 = .ok (.invokevirtual 47, 3) := by decide +kernel
theorem dX5_why_66 : decode cX5_why 66 = .ok (.if_icmp .ge 38, 3) := by decide +kernel
theorem dX5_why_69 : decode cX5_why 69 = .ok (.iload_n 3, 1) := by decide +kernel
theorem dX5_why_70 : decode cX5_why 70 = .ok (.ifCond .ne 22, 3) := by decide +kernel
theorem dX5_why_73 : decode cX5_why 73 = .ok (.aload_n 0, 1) := by decide +kernel
theorem dX5_why_74 : decode cX5_why 74 = .ok (.getfield 7, 3) := by decide +kernel
theorem dX5_why_77 : decode cX5_why 77 = .ok (.iload_n 2, 1) := by decide +kernel
theorem dX5_why_78 : decode cX5_why 78 = .ok (.iload 5, 2) := by decide +kernel
theorem dX5_why_80 : decode cX5_why 80 = .ok (.iload 6, 2) := by decide +kernel
theorem dX5_why_82 : decode cX5_why 82 = .ok (.invokestatic 50, 3) := by decide +kernel
theorem dX5_why_85 : decode cX5_why 85 = .ok (.iconst 0, 1) := by decide +kernel
theorem dX5_why_86 : decode cX5_why 86 = .ok (.iadd, 1) := by decide +kernel
theorem dX5_why_87 : decode cX5_why 87 = .ok (.iaload, 1) := by decide +kernel
theorem dX5_why_88 : decode cX5_why 88 = .ok (.iload_n 1, 1) := by decide +kernel
theorem dX5_why_89 : decode cX5_why 89 = .ok (.if_icmp .ne 7, 3) := by decide +kernel
theorem dX5_why_92 : decode cX5_why 92 = .ok (.iconst 1, 1) := by decide +kernel
theorem dX5_why_93 : decode cX5_why 93 = .ok (.goto 4, 3) := by decide +kernel
theorem dX5_why_96 : decode cX5_why 96 = .ok (.iconst 0, 1) := by decide +kernel
theorem dX5_why_97 : decode cX5_why 97 = .ok (.istore_n 3, 1) := by decide +kernel
theorem dX5_why_98 : decode cX5_why 98 = .ok (.iinc 6 1, 3) := by decide +kernel
theorem dX5_why_101 : decode cX5_why 101 = .ok (.goto (-44), 3) := by decide +kernel
theorem dX5_why_104 : decode cX5_why 104 = .ok (.iinc 5 1, 3) := by decide +kernel
theorem dX5_why_107 : decode cX5_why 107 = .ok (.goto (-99), 3) := by decide +kernel
theorem dX5_why_110 : decode cX5_why 110 = .ok (.iload_n 3, 1) := by decide +kernel
theorem dX5_why_111 : decode cX5_why 111 = .ok (.ifCond .eq 7, 3) := by decide +kernel
theorem dX5_why_114 : decode cX5_why 114 = .ok (.iconst 1, 1) := by decide +kernel
theorem dX5_why_115 : decode cX5_why 115 = .ok (.goto 13, 3) := by decide +kernel
theorem dX5_why_118 : decode cX5_why 118 = .ok (.iload 4, 2) := by decide +kernel
theorem dX5_why_120 : decode cX5_why 120 = .ok (.ifCond .eq 7, 3) := by decide +kernel
theorem dX5_why_123 : decode cX5_why 123 = .ok (.iconst 0, 1) := by decide +kernel
theorem dX5_why_124 : decode cX5_why 124 = .ok (.goto 4, 3) := by decide +kernel
theorem dX5_why_127 : decode cX5_why 127 = .ok (.iconst 2, 1) := by decide +kernel
theorem dX5_why_128 : decode cX5_why 128 = .ok (.ireturn, 1) := by decide +kernel
theorem dX5_whyNot_0 : decode cX5_whyNot 0 = .ok (.aload_n 0, 1) := by decide +kernel
theorem dX5_whyNot_1 : decode cX5_whyNot 1 = .ok (.iconst 0, 1) := by decide +kernel
theorem dX5_whyNot_2 : decode cX5_whyNot 2 = .ok (.putfield 32, 3) := by decide +kernel
theorem dX5_whyNot_5 : decode cX5_whyNot 5 = .ok (.iload_n 1, 1) := by decide +kernel
theorem dX5_whyNot_6 : decode cX5_whyNot 6 = .ok (.invokestatic 82, 3) := by decide +kernel
theorem dX5_whyNot_9 : decode cX5_whyNot 9 = .ok (.ifCond .eq 19, 3) := by decide +kernel
theorem dX5_whyNot_12 : decode cX5_whyNot 12 = .ok (.iload_n 2, 1) := by decide +kernel
theorem dX5_whyNot_13 : decode cX5_whyNot 13 = .ok (.invokestatic 86, 3) := by decide +kernel
theorem dX5_whyNot_16 : decode cX5_whyNot 16 = .ok (.ifCond .eq 12, 3) := by decide +kernel
theorem dX5_whyNot_19 : decode cX5_whyNot 19 = .ok (.aload_n 0, 1) := by decide +kernel
theorem dX5_whyNot_20 : decode cX5_whyNot 20 = .ok (.iload_n 1, 1) := by decide +kernel
theorem dX5_whyNot_21 : decode cX5_whyNot 21 = .ok (.iload_n 2, 1) := by decide +kernel
theorem dX5_whyNot_22 : decode cX5_whyNot 22 = .ok (.invokevirtual 109, 3) := by decide +kernel
theorem dX5_whyNot_25 : decode cX5_whyNot 25 = .ok (.goto 8, 3) := by decide +kernel
theorem dX5_whyNot_28 : decode cX5_whyNot 28 = .ok (.aload_n 0, 1) := by decide +kernel
theorem dX5_whyNot_29 : decode cX5_whyNot 29 = .ok (.iconst 1, 1) := by decide +kernel
theorem dX5_whyNot_30 : decode cX5_whyNot 30 = .ok (.invokevirtual 39, 3) := by decide +kernel
theorem dX5_whyNot_33 : decode cX5_whyNot 33 = .ok (.ireturn, 1) := by decide +kernel
theorem dX5_forget_0 : decode cX5_forget 0 = .ok (.aload_n 0, 1) := by decide +kernel
theorem dX5_forget_1 : decode cX5_forget 1 = .ok (.iconst 0, 1) := by decide +kernel
theorem dX5_forget_2 : decode cX5_forget 2 = .ok (.putfield 32, 3) := by decide +kernel
theorem dX5_forget_5 : decode cX5_forget 5 = .ok (.iload_n 1, 1) := by decide +kernel
theorem dX5_forget_6 : decode cX5_forget 6 = .ok (.invokestatic 82, 3) := by decide +kernel
theorem dX5_forget_9 : decode cX5_forget 9 = .ok (.ifCond .eq 10, 3) := by decide +kernel
theorem dX5_forget_12 : decode cX5_forget 12 = .ok (.iload_n 2, 1) := by decide +kernel
theorem dX5_forget_13 : decode cX5_forget 13 = .ok (.invokestatic 86, 3) := by decide +kernel
theorem dX5_forget_16 : decode cX5_forget 16 = .ok (.ifCond .ne 9, 3) := by decide +kernel
theorem dX5_forget_19 : decode cX5_forget 19 = .ok (.aload_n 0, 1) := by decide +kernel
theorem dX5_forget_20 : decode cX5_forget 20 = .ok (.iconst 1, 1) := by decide +kernel
theorem dX5_forget_21 : decode cX5_forget 21 = .ok (.invokevirtual 39, 3) := by decide +kernel
theorem dX5_forget_24 : decode cX5_forget 24 = .ok (.ireturn, 1) := by decide +kernel
theorem dX5_forget_25 : decode cX5_forget 25 = .ok (.aload_n 0, 1) := by decide +kernel
theorem dX5_forget_26 : decode cX5_forget 26 = .ok (.iload_n 1, 1) := by decide +kernel
theorem dX5_forget_27 : decode cX5_forget 27 = .ok (.iload_n 2, 1) := by decide +kernel
theorem dX5_forget_28 : decode cX5_forget 28 = .ok (.invokevirtual 109, 3) := by decide +kernel
theorem dX5_forget_31 : decode cX5_forget 31 = .ok (.ifCond .le 9, 3) := by decide +kernel
theorem dX5_forget_34 : decode cX5_forget 34 = .ok (.aload_n 0, 1) := by decide +kernel
theorem dX5_forget_35 : decode cX5_forget 35 = .ok (.iconst 2, 1) := by decide +kernel
theorem dX5_forget_36 : decode cX5_forget 36 = .ok (.invokevirtual 39, 3) := by decide +kernel
theorem dX5_forget_39 : decode cX5_forget 39 = .ok (.ireturn, 1) := by decide +kernel
theorem dX5_forget_40 : decode cX5_forget 40 = .ok (.aload_n 0, 1) := by decide +kernel
theorem dX5_forget_41 : decode cX5_forget 41 = .ok (.aload_n 0, 1) := by decide +kernel
theorem dX5_forget_42 : decode cX5_forget 42 = .ok (.getfield 7, 3) := by decide +kernel
theorem dX5_forget_45 : decode cX5_forget 45 = .ok (.invokevirtual 95, 3) := by decide +kernel
theorem dX5_forget_48 : decode cX5_forget 48 = .ok (.iconst 0, 1) := by decide +kernel
theorem dX5_forget_49 : decode cX5_forget 49 = .ok (.istore_n 3, 1) := by decide +kernel
theorem dX5_forget_50 : decode cX5_forget 50 = .ok (.iload_n 3, 1) := by decide +kernel
theorem dX5_forget_51 : decode cX5_forget 51 = .ok (.iconst 3, 1) := by decide +kernel
theorem dX5_forget_52 : decode cX5_forget 52 = .ok (.if_icmp .ge 22, 3) := by decide +kernel
theorem dX5_forget_55 : decode cX5_forget 55 = .ok (.aload_n 0, 1) := by decide +kernel
theorem dX5_forget_56 : decode cX5_forget 56 = .ok (.getfield 7, 3) := by decide +kernel
theorem dX5_forget_59 : decode cX5_forget 59 = .ok (.iload_n 2, 1) := by decide +kernel
theorem dX5_forget_60 : decode cX5_forget 60 = .ok (.iload_n 3, 1) := by decide +kernel
theorem dX5_forget_61 : decode cX5_forget 61 = .ok (.invokestatic 75, 3) := by decide +kernel
theorem dX5_forget_64 : decode cX5_forget 64 = .ok (.iload_n 1, 1) := by decide +kernel
theorem dX5_forget_65 : decode cX5_forget 65 = .ok (.iadd, 1) := by decide +kernel
theorem dX5_forget_66 : decode cX5_forget 66 = .ok (.iconst 0, 1) := by decide +kernel
theorem dX5_forget_67 : decode cX5_forget 67 = .ok (.iastore, 1) := by decide +kernel
theorem dX5_forget_68 : decode cX5_forget 68 = .ok (.iinc 3 1, 3) := by decide +kernel
theorem dX5_forget_71 : decode cX5_forget 71 = .ok (.goto (-21), 3) := by decide +kernel
theorem dX5_forget_74 : decode cX5_forget 74 = .ok (.iconst 0, 1) := by decide +kernel
theorem dX5_forget_75 : decode cX5_forget 75 = .ok (.istore_n 3, 1) := by decide +kernel
theorem dX5_forget_76 : decode cX5_forget 76 = .ok (.iload_n 3, 1) := by decide +kernel
theorem dX5_forget_77 : decode cX5_forget 77 = .ok (.iconst 5, 1) := by decide +kernel
theorem dX5_forget_78 : decode cX5_forget 78 = .ok (.if_icmp .ge 22, 3) := by decide +kernel
theorem dX5_forget_81 : decode cX5_forget 81 = .ok (.aload_n 0, 1) := by decide +kernel
theorem dX5_forget_82 : decode cX5_forget 82 = .ok (.getfield 7, 3) := by decide +kernel
theorem dX5_forget_85 : decode cX5_forget 85 = .ok (.iload_n 2, 1) := by decide +kernel
theorem dX5_forget_86 : decode cX5_forget 86 = .ok (.iload_n 3, 1) := by decide +kernel
theorem dX5_forget_87 : decode cX5_forget 87 = .ok (.invokestatic 54, 3) := by decide +kernel
theorem dX5_forget_90 : decode cX5_forget 90 = .ok (.iload_n 1, 1) := by decide +kernel
theorem dX5_forget_91 : decode cX5_forget 91 = .ok (.iadd, 1) := by decide +kernel
theorem dX5_forget_92 : decode cX5_forget 92 = .ok (.iconst 0, 1) := by decide +kernel
theorem dX5_forget_93 : decode cX5_forget 93 = .ok (.iastore, 1) := by decide +kernel
theorem dX5_forget_94 : decode cX5_forget 94 = .ok (.iinc 3 1, 3) := by decide +kernel
theorem dX5_forget_97 : decode cX5_forget 97 = .ok (.goto (-21), 3) := by decide +kernel
theorem dX5_forget_100 : decode cX5_forget 100 = .ok (.aload_n 0, 1) := by decide +kernel
theorem dX5_forget_101 : decode cX5_forget 101 = .ok (.getfield 7, 3) := by decide +kernel
theorem dX5_forget_104 : decode cX5_forget 104 = .ok (.iload_n 2, 1) := by decide +kernel
theorem dX5_forget_105 : decode cX5_forget 105 = .ok (.iload_n 1, 1) := by decide +kernel
theorem dX5_forget_106 : decode cX5_forget 106 = .ok (.invokestatic 64, 3) := by decide +kernel
theorem dX5_forget_109 : decode cX5_forget 109 = .ok (.iaload, 1) := by decide +kernel
theorem dX5_forget_110 : decode cX5_forget 110 = .ok (.istore_n 3, 1) := by decide +kernel
theorem dX5_forget_111 : decode cX5_forget 111 = .ok (.aload_n 0, 1) := by decide +kernel
theorem dX5_forget_112 : decode cX5_forget 112 = .ok (.getfield 7, 3) := by decide +kernel
theorem dX5_forget_115 : decode cX5_forget 115 = .ok (.iload_n 2, 1) := by decide +kernel
theorem dX5_forget_116 : decode cX5_forget 116 = .ok (.iload_n 1, 1) := by decide +kernel
theorem dX5_forget_117 : decode cX5_forget 117 = .ok (.invokestatic 64, 3) := by decide +kernel
theorem dX5_forget_120 : decode cX5_forget 120 = .ok (.iconst 0, 1) := by decide +kernel
theorem dX5_forget_121 : decode cX5_forget 121 = .ok (.iastore, 1) := by decide +kernel
theorem dX5_forget_122 : decode cX5_forget 122 = .ok (.aload_n 0, 1) := by decide +kernel
theorem dX5_forget_123 : decode cX5_forget 123 = .ok (.getfield 7, 3) := by decide +kernel
theorem dX5_forget_126 : decode cX5_forget 126 = .ok (.sipush 310, 3) := by decide +kernel
theorem dX5_forget_129 : decode cX5_forget 129 = .ok (.dup2, 1) := by decide +kernel
theorem dX5_forget_130 : decode cX5_forget 130 = .ok (.iaload, 1) := by decide +kernel
theorem dX5_forget_131 : decode cX5_forget 131 = .ok (.iconst 1, 1) := by decide +kernel
theorem dX5_forget_132 : decode cX5_forget 132 = .ok (.iadd, 1) := by decide +kernel
theorem dX5_forget_133 : decode cX5_forget 133 = .ok (.iastore, 1) := by decide +kernel
theorem dX5_forget_134 : decode cX5_forget 134 = .ok (.iload_n 3, 1) := by decide +kernel
theorem dX5_forget_135 : decode cX5_forget 135 = .ok (.ireturn, 1) := by decide +kernel
theorem dX5_adds_0 : decode cX5_adds 0 = .ok (.aload_n 0, 1) := by decide +kernel
theorem dX5_adds_1 : decode cX5_adds 1 = .ok (.getfield 112, 3) := by decide +kernel
theorem dX5_adds_4 : decode cX5_adds 4 = .ok (.istore_n 2, 1) := by decide +kernel
theorem dX5_adds_5 : decode cX5_adds 5 = .ok (.iload_n 2, 1) := by decide +kernel
theorem dX5_adds_6 : decode cX5_adds 6 = .ok (.ifCond .le 103, 3) := by decide +kernel
theorem dX5_adds_9 : decode cX5_adds 9 = .ok (.aload_n 0, 1) := by decide +kernel
theorem dX5_adds_10 : decode cX5_adds 10 = .ok (.getfield 22, 3) := by decide +kernel
theorem dX5_adds_13 : decode cX5_adds 13 = .ok (.iconst 3, 1) := by decide +kernel
theorem dX5_adds_14 : decode cX5_adds 14 = .ok (.iload_n 2, 1) := by decide +kernel
theorem dX5_adds_15 : decode cX5_adds 15 = .ok (.imul, 1) := by decide +kernel
theorem dX5_adds_16 : decode cX5_adds 16 = .ok (.iconst 3, 1) := by decide +kernel
theorem dX5_adds_17 : decode cX5_adds 17 = .ok (.isub, 1) := by decide +kernel
theorem dX5_adds_18 : decode cX5_adds 18 = .ok (.iaload, 1) := by decide +kernel
theorem dX5_adds_19 : decode cX5_adds 19 = .ok (.aload_n 0, 1) := by decide +kernel
theorem dX5_adds_20 : decode cX5_adds 20 = .ok (.getfield 7, 3) := by decide +kernel
theorem dX5_adds_23 : decode cX5_adds 23 = .ok (.iload_n 1, 1) := by decide +kernel
theorem dX5_adds_24 : decode cX5_adds 24 = .ok (.iaload, 1) := by decide +kernel
theorem dX5_adds_25 : decode cX5_adds 25 = .ok (.if_icmp .gt 43, 3) := by decide +kernel
theorem dX5_adds_28 : decode cX5_adds 28 = .ok (.aload_n 0, 1) := by decide +kernel
theorem dX5_adds_29 : decode cX5_adds 29 = .ok (.getfield 22, 3) := by decide +kernel
theorem dX5_adds_32 : decode cX5_adds 32 = .ok (.iconst 3, 1) := by decide +kernel
theorem dX5_adds_33 : decode cX5_adds 33 = .ok (.iload_n 2, 1) := by decide +kernel
theorem dX5_adds_34 : decode cX5_adds 34 = .ok (.imul, 1) := by decide +kernel
theorem dX5_adds_35 : decode cX5_adds 35 = .ok (.iconst 3, 1) := by decide +kernel
theorem dX5_adds_36 : decode cX5_adds 36 = .ok (.isub, 1) := by decide +kernel
theorem dX5_adds_37 : decode cX5_adds 37 = .ok (.iaload, 1) := by decide +kernel
theorem dX5_adds_38 : decode cX5_adds 38 = .ok (.aload_n 0, 1) := by decide +kernel
theorem dX5_adds_39 : decode cX5_adds 39 = .ok (.getfield 7, 3) := by decide +kernel
theorem dX5_adds_42 : decode cX5_adds 42 = .ok (.iload_n 1, 1) := by decide +kernel
theorem dX5_adds_43 : decode cX5_adds 43 = .ok (.iaload, 1) := by decide +kernel
theorem dX5_adds_44 : decode cX5_adds 44 = .ok (.if_icmp .ne 65, 3) := by decide +kernel
theorem dX5_adds_47 : decode cX5_adds 47 = .ok (.aload_n 0, 1) := by decide +kernel
theorem dX5_adds_48 : decode cX5_adds 48 = .ok (.getfield 22, 3) := by decide +kernel
theorem dX5_adds_51 : decode cX5_adds 51 = .ok (.iconst 3, 1) := by decide +kernel
theorem dX5_adds_52 : decode cX5_adds 52 = .ok (.iload_n 2, 1) := by decide +kernel
theorem dX5_adds_53 : decode cX5_adds 53 = .ok (.imul, 1) := by decide +kernel
theorem dX5_adds_54 : decode cX5_adds 54 = .ok (.iconst 2, 1) := by decide +kernel
theorem dX5_adds_55 : decode cX5_adds 55 = .ok (.isub, 1) := by decide +kernel
theorem dX5_adds_56 : decode cX5_adds 56 = .ok (.iaload, 1) := by decide +kernel
theorem dX5_adds_57 : decode cX5_adds 57 = .ok (.aload_n 0, 1) := by decide +kernel
theorem dX5_adds_58 : decode cX5_adds 58 = .ok (.getfield 7, 3) := by decide +kernel
theorem dX5_adds_61 : decode cX5_adds 61 = .ok (.iload_n 1, 1) := by decide +kernel
theorem dX5_adds_62 : decode cX5_adds 62 = .ok (.iconst 1, 1) := by decide +kernel
theorem dX5_adds_63 : decode cX5_adds 63 = .ok (.iadd, 1) := by decide +kernel
theorem dX5_adds_64 : decode cX5_adds 64 = .ok (.iaload, 1) := by decide +kernel
theorem dX5_adds_65 : decode cX5_adds 65 = .ok (.if_icmp .le 44, 3) := by decide +kernel
theorem dX5_adds_68 : decode cX5_adds 68 = .ok (.iconst 0, 1) := by decide +kernel
theorem dX5_adds_69 : decode cX5_adds 69 = .ok (.istore_n 3, 1) := by decide +kernel
theorem dX5_adds_70 : decode cX5_adds 70 = .ok (.iload_n 3, 1) := by decide +kernel
theorem dX5_adds_71 : decode cX5_adds 71 = .ok (.iconst 3, 1) := by decide +kernel
theorem dX5_adds_72 : decode cX5_adds 72 = .ok (.if_icmp .ge 31, 3) := by decide +kernel
theorem dX5_adds_75 : decode cX5_adds 75 = .ok (.aload_n 0, 1) := by decide +kernel
theorem dX5_adds_76 : decode cX5_adds 76 = .ok (.getfield 22, 3) := by decide +kernel
theorem dX5_adds_79 : decode cX5_adds 79 = .ok (.iconst 3, 1) := by decide +kernel
theorem dX5_adds_80 : decode cX5_adds 80 = .ok (.iload_n 2, 1) := by decide +kernel
theorem dX5_adds_81 : decode cX5_adds 81 = .ok (.imul, 1) := by decide +kernel
theorem dX5_adds_82 : decode cX5_adds 82 = .ok (.iload_n 3, 1) := by decide +kernel
theorem dX5_adds_83 : decode cX5_adds 83 = .ok (.iadd, 1) := by decide +kernel
theorem dX5_adds_84 : decode cX5_adds 84 = .ok (.aload_n 0, 1) := by decide +kernel
theorem dX5_adds_85 : decode cX5_adds 85 = .ok (.getfield 22, 3) := by decide +kernel
theorem dX5_adds_88 : decode cX5_adds 88 = .ok (.iconst 3, 1) := by decide +kernel
theorem dX5_adds_89 : decode cX5_adds 89 = .ok (.iload_n 2, 1) := by decide +kernel
theorem dX5_adds_90 : decode cX5_adds 90 = .ok (.imul, 1) := by decide +kernel
theorem dX5_adds_91 : decode cX5_adds 91 = .ok (.iconst 3, 1) := by decide +kernel
theorem dX5_adds_92 : decode cX5_adds 92 = .ok (.isub, 1) := by decide +kernel
theorem dX5_adds_93 : decode cX5_adds 93 = .ok (.iload_n 3, 1) := by decide +kernel
theorem dX5_adds_94 : decode cX5_adds 94 = .ok (.iadd, 1) := by decide +kernel
theorem dX5_adds_95 : decode cX5_adds 95 = .ok (.iaload, 1) := by decide +kernel
theorem dX5_adds_96 : decode cX5_adds 96 = .ok (.iastore, 1) := by decide +kernel
theorem dX5_adds_97 : decode cX5_adds 97 = .ok (.iinc 3 1, 3) := by decide +kernel
theorem dX5_adds_100 : decode cX5_adds 100 = .ok (.goto (-30), 3) := by decide +kernel
theorem dX5_adds_103 : decode cX5_adds 103 = .ok (.iinc 2 (-1), 3) := by decide +kernel
theorem dX5_adds_106 : decode cX5_adds 106 = .ok (.goto (-101), 3) := by decide +kernel
theorem dX5_adds_109 : decode cX5_adds 109 = .ok (.iconst 0, 1) := by decide +kernel
theorem dX5_adds_110 : decode cX5_adds 110 = .ok (.istore_n 3, 1) := by decide +kernel
theorem dX5_adds_111 : decode cX5_adds 111 = .ok (.iload_n 3, 1) := by decide +kernel
theorem dX5_adds_112 : decode cX5_adds 112 = .ok (.iconst 3, 1) := by decide +kernel
theorem dX5_adds_113 : decode cX5_adds 113 = .ok (.if_icmp .ge 27, 3) := by decide +kernel
theorem dX5_adds_116 : decode cX5_adds 116 = .ok (.aload_n 0, 1) := by decide +kernel
theorem dX5_adds_117 : decode cX5_adds 117 = .ok (.getfield 22, 3) := by decide +kernel
theorem dX5_adds_120 : decode cX5_adds 120 = .ok (.iconst 3, 1) := by decide +kernel
theorem dX5_adds_121 : decode cX5_adds 121 = .ok (.iload_n 2, 1) := by decide +kernel
theorem dX5_adds_122 : decode cX5_adds 122 = .ok (.imul, 1) := by decide +kernel
theorem dX5_adds_123 : decode cX5_adds 123 = .ok (.iload_n 3, 1) := by decide +kernel
theorem dX5_adds_124 : decode cX5_adds 124 = .ok (.iadd, 1) := by decide +kernel
theorem dX5_adds_125 : decode cX5_adds 125 = .ok (.aload_n 0, 1) := by decide +kernel
theorem dX5_adds_126 : decode cX5_adds 126 = .ok (.getfield 7, 3) := by decide +kernel
theorem dX5_adds_129 : decode cX5_adds 129 = .ok (.iload_n 1, 1) := by decide +kernel
theorem dX5_adds_130 : decode cX5_adds 130 = .ok (.iload_n 3, 1) := by decide +kernel
theorem dX5_adds_131 : decode cX5_adds 131 = .ok (.iadd, 1) := by decide +kernel
theorem dX5_adds_132 : decode cX5_adds 132 = .ok (.iaload, 1) := by decide +kernel
theorem dX5_adds_133 : decode cX5_adds 133 = .ok (.iastore, 1) := by decide +kernel
theorem dX5_adds_134 : decode cX5_adds 134 = .ok (.iinc 3 1, 3) := by decide +kernel
theorem dX5_adds_137 : decode cX5_adds 137 = .ok (.goto (-26), 3) := by decide +kernel
theorem dX5_adds_140 : decode cX5_adds 140 = .ok (.aload_n 0, 1) := by decide +kernel
theorem dX5_adds_141 : decode cX5_adds 141 = .ok (.dup, 1) := by decide +kernel
theorem dX5_adds_142 : decode cX5_adds 142 = .ok (.getfield 112, 3) := by decide +kernel
theorem dX5_adds_145 : decode cX5_adds 145 = .ok (.iconst 1, 1) := by decide +kernel
theorem dX5_adds_146 : decode cX5_adds 146 = .ok (.iadd, 1) := by decide +kernel
theorem dX5_adds_147 : decode cX5_adds 147 = .ok (.putfield 112, 3) := by decide +kernel
theorem dX5_adds_150 : decode cX5_adds 150 = .ok (.return_, 1) := by decide +kernel
theorem dX5_tries_0 : decode cX5_tries 0 = .ok (.aload_n 0, 1) := by decide +kernel
theorem dX5_tries_1 : decode cX5_tries 1 = .ok (.iconst 0, 1) := by decide +kernel
theorem dX5_tries_2 : decode cX5_tries 2 = .ok (.putfield 112, 3) := by decide +kernel
theorem dX5_tries_5 : decode cX5_tries 5 = .ok (.aload_n 0, 1) := by decide +kernel
theorem dX5_tries_6 : decode cX5_tries 6 = .ok (.iconst 0, 1) := by decide +kernel
theorem dX5_tries_7 : decode cX5_tries 7 = .ok (.putfield 115, 3) := by decide +kernel
theorem dX5_tries_10 : decode cX5_tries 10 = .ok (.aload_n 0, 1) := by decide +kernel
theorem dX5_tries_11 : decode cX5_tries 11 = .ok (.iconst 0, 1) := by decide +kernel
theorem dX5_tries_12 : decode cX5_tries 12 = .ok (.putfield 118, 3) := by decide +kernel
theorem dX5_tries_15 : decode cX5_tries 15 = .ok (.iconst 0, 1) := by decide +kernel
theorem dX5_tries_16 : decode cX5_tries 16 = .ok (.istore 4, 2) := by decide +kernel
theorem dX5_tries_18 : decode cX5_tries 18 = .ok (.iload 4, 2) := by decide +kernel
theorem dX5_tries_20 : decode cX5_tries 20 = .ok (.aload_n 0, 1) := by decide +kernel
theorem dX5_tries_21 : decode cX5_tries 21 = .ok (.iload_n 3, 1) := by decide +kernel
theorem dX5_tries_22 : decode cX5_tries 22 = .ok (.iload_n 1, 1) := by decide +kernel
theorem dX5_tries_23 : decode cX5_tries 23 = .ok (.invokevirtual 47, 3) := by decide +kernel
theorem dX5_tries_26 : decode cX5_tries 26 = .ok (.if_icmp .ge 94, 3) := by decide +kernel
theorem dX5_tries_29 : decode cX5_tries 29 = .ok (.iload_n 3, 1) := by decide +kernel
theorem dX5_tries_30 : decode cX5_tries 30 = .ok (.iload_n 1, 1) := by decide +kernel
theorem dX5_tries_31 : decode cX5_tries 31 = .ok (.iload 4, 2) := by decide +kernel
theorem dX5_tries_33 : decode cX5_tries 33 = .ok (.invokestatic 50, 3) := by decide +kernel
theorem dX5_tries_36 : decode cX5_tries 36 = .ok (.istore 5, 2) := by decide +kernel
theorem dX5_tries_38 : decode cX5_tries 38 = .ok (.aload_n 0, 1) := by decide +kernel
theorem dX5_tries_39 : decode cX5_tries 39 = .ok (.iload_n 3, 1) := by decide +kernel
theorem dX5_tries_40 : decode cX5_tries 40 = .ok (.iload_n 2, 1) := by decide +kernel
theorem dX5_tries_41 : decode cX5_tries 41 = .ok (.aload_n 0, 1) := by decide +kernel
theorem dX5_tries_42 : decode cX5_tries 42 = .ok (.getfield 7, 3) := by decide +kernel
theorem dX5_tries_45 : decode cX5_tries 45 = .ok (.iload 5, 2) := by decide +kernel
theorem dX5_tries_47 : decode cX5_tries 47 = .ok (.iaload, 1) := by decide +kernel
theorem dX5_tries_48 : decode cX5_tries 48 = .ok (.aload_n 0, 1) := by decide +kernel
theorem dX5_tries_49 : decode cX5_tries 49 = .ok (.getfield 7, 3) := by decide +kernel
theorem dX5_tries_52 : decode cX5_tries 52 = .ok (.iload 5, 2) := by decide +kernel
theorem dX5_tries_54 : decode cX5_tries 54 = .ok (.iconst 1, 1) := by decide +kernel
theorem dX5_tries_55 : decode cX5_tries 55 = .ok (.iadd, 1) := by decide +kernel
theorem dX5_tries_56 : decode cX5_tries 56 = .ok (.iaload, 1) := by decide +kernel
theorem dX5_tries_57 : decode cX5_tries 57 = .ok (.invokevirtual 121, 3) := by decide +kernel
theorem dX5_tries_60 : decode cX5_tries 60 = .ok (.ifCond .ne 17, 3) := by decide +kernel
theorem dX5_tries_63 : decode cX5_tries 63 = .ok (.aload_n 0, 1) := by decide +kernel
theorem dX5_tries_64 : decode cX5_tries 64 = .ok (.iload_n 3, 1) := by decide +kernel
theorem dX5_tries_65 : decode cX5_tries 65 = .ok (.iload_n 2, 1) := by decide +kernel
theorem dX5_tries_66 : decode cX5_tries 66 = .ok (.invokestatic 75, 3) := by decide +kernel
theorem dX5_tries_69 : decode cX5_tries 69 = .ok (.iload 5, 2) := by decide +kernel
theorem dX5_tries_71 : decode cX5_tries 71 = .ok (.invokevirtual 57, 3) := by decide +kernel
theorem dX5_tries_74 : decode cX5_tries 74 = .ok (.ifCond .ne 7, 3) := by decide +kernel
theorem dX5_tries_77 : decode cX5_tries 77 = .ok (.iconst 1, 1) := by decide +kernel
theorem dX5_tries_78 : decode cX5_tries 78 = .ok (.goto 4, 3) := by decide +kernel
theorem dX5_tries_81 : decode cX5_tries 81 = .ok (.iconst 0, 1) := by decide +kernel
theorem dX5_tries_82 : decode cX5_tries 82 = .ok (.istore 6, 2) := by decide +kernel
theorem dX5_tries_84 : decode cX5_tries 84 = .ok (.aload_n 0, 1) := by decide +kernel
theorem dX5_tries_85 : decode cX5_tries 85 = .ok (.dup, 1) := by decide +kernel
theorem dX5_tries_86 : decode cX5_tries 86 = .ok (.getfield 115, 3) := by decide +kernel
theorem dX5_tries_89 : decode cX5_tries 89 = .ok (.iload 6, 2) := by decide +kernel
theorem dX5_tries_91 : decode cX5_tries 91 = .ok (.ifCond .eq 7, 3) := by decide +kernel
theorem dX5_tries_94 : decode cX5_tries 94 = .ok (.iconst 0, 1) := by decide +kernel
theorem dX5_tries_95 : decode cX5_tries 95 = .ok (.goto 4, 3) := by decide +kernel
theorem dX5_tries_98 : decode cX5_tries 98 = .ok (.iconst 1, 1) := by decide +kernel
theorem dX5_tries_99 : decode cX5_tries 99 = .ok (.iadd, 1) := by decide +kernel
theorem dX5_tries_100 : decode cX5_tries 100 = .ok (.putfield 115, 3) := by decide +kernel
theorem dX5_tries_103 : decode cX5_tries 103 = .ok (.iload 6, 2) := by decide +kernel
theorem dX5_tries_105 : decode cX5_tries 105 = .ok (.ifCond .eq 9, 3) := by decide +kernel
theorem dX5_tries_108 : decode cX5_tries 108 = .ok (.aload_n 0, 1) := by decide +kernel
theorem dX5_tries_109 : decode cX5_tries 109 = .ok (.iload 5, 2) := by decide +kernel
theorem dX5_tries_111 : decode cX5_tries 111 = .ok (.invokevirtual 125, 3) := by decide +kernel
theorem dX5_tries_114 : decode cX5_tries 114 = .ok (.iinc 4 1, 3) := by decide +kernel
theorem dX5_tries_117 : decode cX5_tries 117 = .ok (.goto (-99), 3) := by decide +kernel
theorem dX5_tries_120 : decode cX5_tries 120 = .ok (.iconst 0, 1) := by decide +kernel
theorem dX5_tries_121 : decode cX5_tries 121 = .ok (.istore 4, 2) := by decide +kernel
theorem dX5_tries_123 : decode cX5_tries 123 = .ok (.iload 4, 2) := by decide +kernel
theorem dX5_tries_125 : decode cX5_tries 125 = .ok (.aload_n 0, 1) := by decide +kernel
theorem dX5_tries_126 : decode cX5_tries 126 = .ok (.iload_n 3, 1) := by decide +kernel
theorem dX5_tries_127 : decode cX5_tries 127 = .ok (.iload_n 2, 1) := by decide +kernel
theorem dX5_tries_128 : decode cX5_tries 128 = .ok (.invokevirtual 47, 3) := by decide +kernel
theorem dX5_tries_131 : decode cX5_tries 131 = .ok (.if_icmp .ge 73, 3) := by decide +kernel
theorem dX5_tries_134 : decode cX5_tries 134 = .ok (.iload_n 3, 1) := by decide +kernel
theorem dX5_tries_135 : decode cX5_tries 135 = .ok (.iload_n 2, 1) := by decide +kernel
theorem dX5_tries_136 : decode cX5_tries 136 = .ok (.iload 4, 2) := by decide +kernel
theorem dX5_tries_138 : decode cX5_tries 138 = .ok (.invokestatic 50, 3) := by decide +kernel
theorem dX5_tries_141 : decode cX5_tries 141 = .ok (.istore 5, 2) := by decide +kernel
theorem dX5_tries_143 : decode cX5_tries 143 = .ok (.aload_n 0, 1) := by decide +kernel
theorem dX5_tries_144 : decode cX5_tries 144 = .ok (.iload_n 3, 1) := by decide +kernel
theorem dX5_tries_145 : decode cX5_tries 145 = .ok (.iload_n 1, 1) := by decide +kernel
theorem dX5_tries_146 : decode cX5_tries 146 = .ok (.aload_n 0, 1) := by decide +kernel
theorem dX5_tries_147 : decode cX5_tries 147 = .ok (.getfield 7, 3) := by decide +kernel
theorem dX5_tries_150 : decode cX5_tries 150 = .ok (.iload 5, 2) := by decide +kernel
theorem dX5_tries_152 : decode cX5_tries 152 = .ok (.iaload, 1) := by decide +kernel
theorem dX5_tries_153 : decode cX5_tries 153 = .ok (.aload_n 0, 1) := by decide +kernel
theorem dX5_tries_154 : decode cX5_tries 154 = .ok (.getfield 7, 3) := by decide +kernel
theorem dX5_tries_157 : decode cX5_tries 157 = .ok (.iload 5, 2) := by decide +kernel
theorem dX5_tries_159 : decode cX5_tries 159 = .ok (.iconst 1, 1) := by decide +kernel
theorem dX5_tries_160 : decode cX5_tries 160 = .ok (.iadd, 1) := by decide +kernel
theorem dX5_tries_161 : decode cX5_tries 161 = .ok (.iaload, 1) := by decide +kernel
theorem dX5_tries_162 : decode cX5_tries 162 = .ok (.invokevirtual 121, 3) := by decide +kernel
theorem dX5_tries_165 : decode cX5_tries 165 = .ok (.ifCond .ne 33, 3) := by decide +kernel
theorem dX5_tries_168 : decode cX5_tries 168 = .ok (.aload_n 0, 1) := by decide +kernel
theorem dX5_tries_169 : decode cX5_tries 169 = .ok (.iload_n 3, 1) := by decide +kernel
theorem dX5_tries_170 : decode cX5_tries 170 = .ok (.iload_n 1, 1) := by decide +kernel
theorem dX5_tries_171 : decode cX5_tries 171 = .ok (.invokestatic 75, 3) := by decide +kernel
theorem dX5_tries_174 : decode cX5_tries 174 = .ok (.iload 5, 2) := by decide +kernel
theorem dX5_tries_176 : decode cX5_tries 176 = .ok (.invokevirtual 57, 3) := by decide +kernel
theorem dX5_tries_179 : decode cX5_tries 179 = .ok (.ifCond .ne 19, 3) := by decide +kernel
theorem dX5_tries_182 : decode cX5_tries 182 = .ok (.aload_n 0, 1) := by decide +kernel
theorem dX5_tries_183 : decode cX5_tries 183 = .ok (.iload 5, 2) := by decide +kernel
theorem dX5_tries_185 : decode cX5_tries 185 = .ok (.invokevirtual 125, 3) := by decide +kernel
theorem dX5_tries_188 : decode cX5_tries 188 = .ok (.aload_n 0, 1) := by decide +kernel
theorem dX5_tries_189 : decode cX5_tries 189 = .ok (.dup, 1) := by decide +kernel
theorem dX5_tries_190 : decode cX5_tries 190 = .ok (.getfield 118, 3) := by decide +kernel
theorem dX5_tries_193 : decode cX5_tries 193 = .ok (.iconst 1, 1) := by decide +kernel
theorem dX5_tries_194 : decode cX5_tries 194 = .ok (.iadd, 1) := by decide +kernel
theorem dX5_tries_195 : decode cX5_tries 195 = .ok (.putfield 118, 3) := by decide +kernel
theorem dX5_tries_198 : decode cX5_tries 198 = .ok (.iinc 4 1, 3) := by decide +kernel
theorem dX5_tries_201 : decode cX5_tries 201 = .ok (.goto (-78), 3) := by decide +kernel
theorem dX5_tries_204 : decode cX5_tries 204 = .ok (.return_, 1) := by decide +kernel
theorem dX5_pulls_0 : decode cX5_pulls 0 = .ok (.aload_n 0, 1) := by decide +kernel
theorem dX5_pulls_1 : decode cX5_pulls 1 = .ok (.getfield 7, 3) := by decide +kernel
theorem dX5_pulls_4 : decode cX5_pulls 4 = .ok (.iload_n 3, 1) := by decide +kernel
theorem dX5_pulls_5 : decode cX5_pulls 5 = .ok (.iload_n 1, 1) := by decide +kernel
theorem dX5_pulls_6 : decode cX5_pulls 6 = .ok (.invokestatic 43, 3) := by decide +kernel
theorem dX5_pulls_9 : decode cX5_pulls 9 = .ok (.aload_n 0, 1) := by decide +kernel
theorem dX5_pulls_10 : decode cX5_pulls 10 = .ok (.getfield 112, 3) := by decide +kernel
theorem dX5_pulls_13 : decode cX5_pulls 13 = .ok (.iastore, 1) := by decide +kernel
theorem dX5_pulls_14 : decode cX5_pulls 14 = .ok (.iconst 0, 1) := by decide +kernel
theorem dX5_pulls_15 : decode cX5_pulls 15 = .ok (.istore 4, 2) := by decide +kernel
theorem dX5_pulls_17 : decode cX5_pulls 17 = .ok (.iload 4, 2) := by decide +kernel
theorem dX5_pulls_19 : decode cX5_pulls 19 = .ok (.iconst 3, 1) := by decide +kernel
theorem dX5_pulls_20 : decode cX5_pulls 20 = .ok (.aload_n 0, 1) := by decide +kernel
theorem dX5_pulls_21 : decode cX5_pulls 21 = .ok (.getfield 112, 3) := by decide +kernel
theorem dX5_pulls_24 : decode cX5_pulls 24 = .ok (.imul, 1) := by decide +kernel
theorem dX5_pulls_25 : decode cX5_pulls 25 = .ok (.if_icmp .ge 30, 3) := by decide +kernel
theorem dX5_pulls_28 : decode cX5_pulls 28 = .ok (.aload_n 0, 1) := by decide +kernel
theorem dX5_pulls_29 : decode cX5_pulls 29 = .ok (.getfield 7, 3) := by decide +kernel
theorem dX5_pulls_32 : decode cX5_pulls 32 = .ok (.iload_n 3, 1) := by decide +kernel
theorem dX5_pulls_33 : decode cX5_pulls 33 = .ok (.iload_n 1, 1) := by decide +kernel
theorem dX5_pulls_34 : decode cX5_pulls 34 = .ok (.iconst 0, 1) := by decide +kernel
theorem dX5_pulls_35 : decode cX5_pulls 35 = .ok (.invokestatic 50, 3) := by decide +kernel
theorem dX5_pulls_38 : decode cX5_pulls 38 = .ok (.iload 4, 2) := by decide +kernel
theorem dX5_pulls_40 : decode cX5_pulls 40 = .ok (.iadd, 1) := by decide +kernel
theorem dX5_pulls_41 : decode cX5_pulls 41 = .ok (.aload_n 0, 1) := by decide +kernel
theorem dX5_pulls_42 : decode cX5_pulls 42 = .ok (.getfield 22, 3) := by decide +kernel
theorem dX5_pulls_45 : decode cX5_pulls 45 = .ok (.iload 4, 2) := by decide +kernel
theorem dX5_pulls_47 : decode cX5_pulls 47 = .ok (.iaload, 1) := by decide +kernel
theorem dX5_pulls_48 : decode cX5_pulls 48 = .ok (.iastore, 1) := by decide +kernel
theorem dX5_pulls_49 : decode cX5_pulls 49 = .ok (.iinc 4 1, 3) := by decide +kernel
theorem dX5_pulls_52 : decode cX5_pulls 52 = .ok (.goto (-35), 3) := by decide +kernel
theorem dX5_pulls_55 : decode cX5_pulls 55 = .ok (.aload_n 0, 1) := by decide +kernel
theorem dX5_pulls_56 : decode cX5_pulls 56 = .ok (.iload_n 3, 1) := by decide +kernel
theorem dX5_pulls_57 : decode cX5_pulls 57 = .ok (.iload_n 1, 1) := by decide +kernel
theorem dX5_pulls_58 : decode cX5_pulls 58 = .ok (.invokestatic 75, 3) := by decide +kernel
theorem dX5_pulls_61 : decode cX5_pulls 61 = .ok (.iload_n 3, 1) := by decide +kernel
theorem dX5_pulls_62 : decode cX5_pulls 62 = .ok (.iload_n 2, 1) := by decide +kernel
theorem dX5_pulls_63 : decode cX5_pulls 63 = .ok (.invokestatic 75, 3) := by decide +kernel
theorem dX5_pulls_66 : decode cX5_pulls 66 = .ok (.invokevirtual 78, 3) := by decide +kernel
theorem dX5_pulls_69 : decode cX5_pulls 69 = .ok (.aload_n 0, 1) := by decide +kernel
theorem dX5_pulls_70 : decode cX5_pulls 70 = .ok (.getfield 7, 3) := by decide +kernel
theorem dX5_pulls_73 : decode cX5_pulls 73 = .ok (.sipush 308, 3) := by decide +kernel
theorem dX5_pulls_76 : decode cX5_pulls 76 = .ok (.dup2, 1) := by decide +kernel
theorem dX5_pulls_77 : decode cX5_pulls 77 = .ok (.iaload, 1) := by decide +kernel
theorem dX5_pulls_78 : decode cX5_pulls 78 = .ok (.aload_n 0, 1) := by decide +kernel
theorem dX5_pulls_79 : decode cX5_pulls 79 = .ok (.getfield 115, 3) := by decide +kernel
theorem dX5_pulls_82 : decode cX5_pulls 82 = .ok (.iadd, 1) := by decide +kernel
theorem dX5_pulls_83 : decode cX5_pulls 83 = .ok (.iastore, 1) := by decide +kernel
theorem dX5_pulls_84 : decode cX5_pulls 84 = .ok (.aload_n 0, 1) := by decide +kernel
theorem dX5_pulls_85 : decode cX5_pulls 85 = .ok (.getfield 115, 3) := by decide +kernel
theorem dX5_pulls_88 : decode cX5_pulls 88 = .ok (.ireturn, 1) := by decide +kernel
theorem dX5_pull_0 : decode cX5_pull 0 = .ok (.aload_n 0, 1) := by decide +kernel
theorem dX5_pull_1 : decode cX5_pull 1 = .ok (.iconst 0, 1) := by decide +kernel
theorem dX5_pull_2 : decode cX5_pull 2 = .ok (.putfield 32, 3) := by decide +kernel
theorem dX5_pull_5 : decode cX5_pull 5 = .ok (.iload_n 1, 1) := by decide +kernel
theorem dX5_pull_6 : decode cX5_pull 6 = .ok (.invokestatic 89, 3) := by decide +kernel
theorem dX5_pull_9 : decode cX5_pull 9 = .ok (.ifCond .eq 17, 3) := by decide +kernel
theorem dX5_pull_12 : decode cX5_pull 12 = .ok (.iload_n 2, 1) := by decide +kernel
theorem dX5_pull_13 : decode cX5_pull 13 = .ok (.invokestatic 89, 3) := by decide +kernel
theorem dX5_pull_16 : decode cX5_pull 16 = .ok (.ifCond .eq 10, 3) := by decide +kernel
theorem dX5_pull_19 : decode cX5_pull 19 = .ok (.iload_n 3, 1) := by decide +kernel
theorem dX5_pull_20 : decode cX5_pull 20 = .ok (.invokestatic 86, 3) := by decide +kernel
theorem dX5_pull_23 : decode cX5_pull 23 = .ok (.ifCond .ne 9, 3) := by decide +kernel
theorem dX5_pull_26 : decode cX5_pull 26 = .ok (.aload_n 0, 1) := by decide +kernel
theorem dX5_pull_27 : decode cX5_pull 27 = .ok (.iconst 1, 1) := by decide +kernel
theorem dX5_pull_28 : decode cX5_pull 28 = .ok (.invokevirtual 39, 3) := by decide +kernel
theorem dX5_pull_31 : decode cX5_pull 31 = .ok (.ireturn, 1) := by decide +kernel
theorem dX5_pull_32 : decode cX5_pull 32 = .ok (.iload_n 1, 1) := by decide +kernel
theorem dX5_pull_33 : decode cX5_pull 33 = .ok (.iload_n 2, 1) := by decide +kernel
theorem dX5_pull_34 : decode cX5_pull 34 = .ok (.if_icmp .ne 9, 3) := by decide +kernel
theorem dX5_pull_37 : decode cX5_pull 37 = .ok (.aload_n 0, 1) := by decide +kernel
theorem dX5_pull_38 : decode cX5_pull 38 = .ok (.iconst 2, 1) := by decide +kernel
theorem dX5_pull_39 : decode cX5_pull 39 = .ok (.invokevirtual 39, 3) := by decide +kernel
theorem dX5_pull_42 : decode cX5_pull 42 = .ok (.ireturn, 1) := by decide +kernel
theorem dX5_pull_43 : decode cX5_pull 43 = .ok (.aload_n 0, 1) := by decide +kernel
theorem dX5_pull_44 : decode cX5_pull 44 = .ok (.iload_n 1, 1) := by decide +kernel
theorem dX5_pull_45 : decode cX5_pull 45 = .ok (.iload_n 2, 1) := by decide +kernel
theorem dX5_pull_46 : decode cX5_pull 46 = .ok (.iload_n 3, 1) := by decide +kernel
theorem dX5_pull_47 : decode cX5_pull 47 = .ok (.invokevirtual 129, 3) := by decide +kernel
theorem dX5_pull_50 : decode cX5_pull 50 = .ok (.aload_n 0, 1) := by decide +kernel
theorem dX5_pull_51 : decode cX5_pull 51 = .ok (.getfield 112, 3) := by decide +kernel
theorem dX5_pull_54 : decode cX5_pull 54 = .ok (.iconst 4, 1) := by decide +kernel
theorem dX5_pull_55 : decode cX5_pull 55 = .ok (.if_icmp .le 9, 3) := by decide +kernel
theorem dX5_pull_58 : decode cX5_pull 58 = .ok (.aload_n 0, 1) := by decide +kernel
theorem dX5_pull_59 : decode cX5_pull 59 = .ok (.iconst 3, 1) := by decide +kernel
theorem dX5_pull_60 : decode cX5_pull 60 = .ok (.invokevirtual 39, 3) := by decide +kernel
theorem dX5_pull_63 : decode cX5_pull 63 = .ok (.ireturn, 1) := by decide +kernel
theorem dX5_pull_64 : decode cX5_pull 64 = .ok (.aload_n 0, 1) := by decide +kernel
theorem dX5_pull_65 : decode cX5_pull 65 = .ok (.aload_n 0, 1) := by decide +kernel
theorem dX5_pull_66 : decode cX5_pull 66 = .ok (.getfield 7, 3) := by decide +kernel
theorem dX5_pull_69 : decode cX5_pull 69 = .ok (.invokevirtual 95, 3) := by decide +kernel
theorem dX5_pull_72 : decode cX5_pull 72 = .ok (.aload_n 0, 1) := by decide +kernel
theorem dX5_pull_73 : decode cX5_pull 73 = .ok (.iload_n 1, 1) := by decide +kernel
theorem dX5_pull_74 : decode cX5_pull 74 = .ok (.iload_n 2, 1) := by decide +kernel
theorem dX5_pull_75 : decode cX5_pull 75 = .ok (.iload_n 3, 1) := by decide +kernel
theorem dX5_pull_76 : decode cX5_pull 76 = .ok (.invokevirtual 132, 3) := by decide +kernel
theorem dX5_pull_79 : decode cX5_pull 79 = .ok (.ireturn, 1) := by decide +kernel
theorem dX5_pullAll_0 : decode cX5_pullAll 0 = .ok (.aload_n 0, 1) := by decide +kernel
theorem dX5_pullAll_1 : decode cX5_pullAll 1 = .ok (.iconst 0, 1) := by decide +kernel
theorem dX5_pullAll_2 : decode cX5_pullAll 2 = .ok (.putfield 32, 3) := by decide +kernel
theorem dX5_pullAll_5 : decode cX5_pullAll 5 = .ok (.iconst 0, 1) := by decide +kernel
theorem dX5_pullAll_6 : decode cX5_pullAll 6 = .ok (.istore_n 1, 1) := by decide +kernel
theorem dX5_pullAll_7 : decode cX5_pullAll 7 = .ok (.iload_n 1, 1) := by decide +kernel
theorem dX5_pullAll_8 : decode cX5_pullAll 8 = .ok (.sipush 311, 3) := by decide +kernel
theorem dX5_pullAll_11 : decode cX5_pullAll 11 = .ok (.if_icmp .ge 21, 3) := by decide +kernel
theorem dX5_pullAll_14 : decode cX5_pullAll 14 = .ok (.aload_n 0, 1) := by decide +kernel
theorem dX5_pullAll_15 : decode cX5_pullAll 15 = .ok (.getfield 13, 3) := by decide +kernel
theorem dX5_pullAll_18 : decode cX5_pullAll 18 = .ok (.iload_n 1, 1) := by decide +kernel
theorem dX5_pullAll_19 : decode cX5_pullAll 19 = .ok (.aload_n 0, 1) := by decide +kernel
theorem dX5_pullAll_20 : decode cX5_pullAll 20 = .ok (.getfield 7, 3) := by decide +kernel
theorem dX5_pullAll_23 : decode cX5_pullAll 23 = .ok (.iload_n 1, 1) := by decide +kernel
theorem dX5_pullAll_24 : decode cX5_pullAll 24 = .ok (.iaload, 1) := by decide +kernel
theorem dX5_pullAll_25 : decode cX5_pullAll 25 = .ok (.iastore, 1) := by decide +kernel
theorem dX5_pullAll_26 : decode cX5_pullAll 26 = .ok (.iinc 1 1, 3) := by decide +kernel
theorem dX5_pullAll_29 : decode cX5_pullAll 29 = .ok (.goto (-22), 3) := by decide +kernel
theorem dX5_pullAll_32 : decode cX5_pullAll 32 = .ok (.iconst 0, 1) := by decide +kernel
theorem dX5_pullAll_33 : decode cX5_pullAll 33 = .ok (.istore_n 1, 1) := by decide +kernel
theorem dX5_pullAll_34 : decode cX5_pullAll 34 = .ok (.iconst 1, 1) := by decide +kernel
theorem dX5_pullAll_35 : decode cX5_pullAll 35 = .ok (.istore_n 2, 1) := by decide +kernel
theorem dX5_pullAll_36 : decode cX5_pullAll 36 = .ok (.iconst 0, 1) := by decide +kernel
theorem dX5_pullAll_37 : decode cX5_pullAll 37 = .ok (.istore_n 3, 1) := by decide +kernel
theorem dX5_pullAll_38 : decode cX5_pullAll 38 = .ok (.iload_n 3, 1) := by decide +kernel
theorem dX5_pullAll_39 : decode cX5_pullAll 39 = .ok (.bipush 27, 2) := by decide +kernel
theorem dX5_pullAll_41 : decode cX5_pullAll 41 = .ok (.if_icmp .ge 81, 3) := by decide +kernel
theorem dX5_pullAll_44 : decode cX5_pullAll 44 = .ok (.iload_n 2, 1) := by decide +kernel
theorem dX5_pullAll_45 : decode cX5_pullAll 45 = .ok (.ifCond .eq 77, 3) := by decide +kernel
theorem dX5_pullAll_48 : decode cX5_pullAll 48 = .ok (.iload_n 3, 1) := by decide +kernel
theorem dX5_pullAll_49 : decode cX5_pullAll 49 = .ok (.iconst 3, 1) := by decide +kernel
theorem dX5_pullAll_50 : decode cX5_pullAll 50 = .ok (.idiv, 1) := by decide +kernel
theorem dX5_pullAll_51 : decode cX5_pullAll 51 = .ok (.iconst 3, 1) := by decide +kernel
theorem dX5_pullAll_52 : decode cX5_pullAll 52 = .ok (.irem, 1) := by decide +kernel
theorem dX5_pullAll_53 : decode cX5_pullAll 53 = .ok (.istore 4, 2) := by decide +kernel
theorem dX5_pullAll_55 : decode cX5_pullAll 55 = .ok (.iload_n 3, 1) := by decide +kernel
theorem dX5_pullAll_56 : decode cX5_pullAll 56 = .ok (.iconst 3, 1) := by decide +kernel
theorem dX5_pullAll_57 : decode cX5_pullAll 57 = .ok (.irem, 1) := by decide +kernel
theorem dX5_pullAll_58 : decode cX5_pullAll 58 = .ok (.istore 5, 2) := by decide +kernel
theorem dX5_pullAll_60 : decode cX5_pullAll 60 = .ok (.iload 4, 2) := by decide +kernel
theorem dX5_pullAll_62 : decode cX5_pullAll 62 = .ok (.iload 5, 2) := by decide +kernel
theorem dX5_pullAll_64 : decode cX5_pullAll 64 = .ok (.if_icmp .eq 52, 3) := by decide +kernel
theorem dX5_pullAll_67 : decode cX5_pullAll 67 = .ok (.aload_n 0, 1) := by decide +kernel
theorem dX5_pullAll_68 : decode cX5_pullAll 68 = .ok (.iload 4, 2) := by decide +kernel
theorem dX5_pullAll_70 : decode cX5_pullAll 70 = .ok (.iload 5, 2) := by decide +kernel
theorem dX5_pullAll_72 : decode cX5_pullAll 72 = .ok (.iload_n 3, 1) := by decide +kernel
theorem dX5_pullAll_73 : decode cX5_pullAll 73 = .ok (.bipush 9, 2) := by decide +kernel
theorem dX5_pullAll_75 : decode cX5_pullAll 75 = .ok (.idiv, 1) := by decide +kernel
theorem dX5_pullAll_76 : decode cX5_pullAll 76 = .ok (.invokevirtual 129, 3) := by decide +kernel
theorem dX5_pullAll_79 : decode cX5_pullAll 79 = .ok (.aload_n 0, 1) := by decide +kernel
theorem dX5_pullAll_80 : decode cX5_pullAll 80 = .ok (.getfield 112, 3) := by decide +kernel
theorem dX5_pullAll_83 : decode cX5_pullAll 83 = .ok (.iconst 4, 1) := by decide +kernel
theorem dX5_pullAll_84 : decode cX5_pullAll 84 = .ok (.if_icmp .gt 7, 3) := by decide +kernel
theorem dX5_pullAll_87 : decode cX5_pullAll 87 = .ok (.iconst 1, 1) := by decide +kernel
theorem dX5_pullAll_88 : decode cX5_pullAll 88 = .ok (.goto 4, 3) := by decide +kernel
theorem dX5_pullAll_91 : decode cX5_pullAll 91 = .ok (.iconst 0, 1) := by decide +kernel
theorem dX5_pullAll_92 : decode cX5_pullAll 92 = .ok (.istore_n 2, 1) := by decide +kernel
theorem dX5_pullAll_93 : decode cX5_pullAll 93 = .ok (.iload_n 1, 1) := by decide +kernel
theorem dX5_pullAll_94 : decode cX5_pullAll 94 = .ok (.iload_n 2, 1) := by decide +kernel
theorem dX5_pullAll_95 : decode cX5_pullAll 95 = .ok (.ifCond .eq 18, 3) := by decide +kernel
theorem dX5_pullAll_98 : decode cX5_pullAll 98 = .ok (.aload_n 0, 1) := by decide +kernel
theorem dX5_pullAll_99 : decode cX5_pullAll 99 = .ok (.iload 4, 2) := by decide +kernel
theorem dX5_pullAll_101 : decode cX5_pullAll 101 = .ok (.iload 5, 2) := by decide +kernel
theorem dX5_pullAll_103 : decode cX5_pullAll 103 = .ok (.iload_n 3, 1) := by decide +kernel
theorem dX5_pullAll_104 : decode cX5_pullAll 104 = .ok (.bipush 9, 2) := by decide +kernel
theorem dX5_pullAll_106 : decode cX5_pullAll 106 = .ok (.idiv, 1) := by decide +kernel
theorem dX5_pullAll_107 : decode cX5_pullAll 107 = .ok (.invokevirtual 132, 3) := by decide +kernel
theorem dX5_pullAll_110 : decode cX5_pullAll 110 = .ok (.goto 4, 3) := by decide +kernel
theorem dX5_pullAll_113 : decode cX5_pullAll 113 = .ok (.iconst 0, 1) := by decide +kernel
theorem dX5_pullAll_114 : decode cX5_pullAll 114 = .ok (.iadd, 1) := by decide +kernel
theorem dX5_pullAll_115 : decode cX5_pullAll 115 = .ok (.istore_n 1, 1) := by decide +kernel
theorem dX5_pullAll_116 : decode cX5_pullAll 116 = .ok (.iinc 3 1, 3) := by decide +kernel
theorem dX5_pullAll_119 : decode cX5_pullAll 119 = .ok (.goto (-81), 3) := by decide +kernel
theorem dX5_pullAll_122 : decode cX5_pullAll 122 = .ok (.iload_n 2, 1) := by decide +kernel
theorem dX5_pullAll_123 : decode cX5_pullAll 123 = .ok (.ifCond .ne 36, 3) := by decide +kernel
theorem dX5_pullAll_126 : decode cX5_pullAll 126 = .ok (.iconst 0, 1) := by decide +kernel
theorem dX5_pullAll_127 : decode cX5_pullAll 127 = .ok (.istore_n 3, 1) := by decide +kernel
theorem dX5_pullAll_128 : decode cX5_pullAll 128 = .ok (.iload_n 3, 1) := by decide +kernel
theorem dX5_pullAll_129 : decode cX5_pullAll 129 = .ok (.sipush 311, 3) := by decide +kernel
theorem dX5_pullAll_132 : decode cX5_pullAll 132 = .ok (.if_icmp .ge 21, 3) := by decide +kernel
theorem dX5_pullAll_135 : decode cX5_pullAll 135 = .ok (.aload_n 0, 1) := by decide +kernel
theorem dX5_pullAll_136 : decode cX5_pullAll 136 = .ok (.getfield 7, 3) := by decide +kernel
theorem dX5_pullAll_139 : decode cX5_pullAll 139 = .ok (.iload_n 3, 1) := by decide +kernel
theorem dX5_pullAll_140 : decode cX5_pullAll 140 = .ok (.aload_n 0, 1) := by decide +kernel
theorem dX5_pullAll_141 : decode cX5_pullAll 141 = .ok (.getfield 13, 3) := by decide +kernel
theorem dX5_pullAll_144 : decode cX5_pullAll 144 = .ok (.iload_n 3, 1) := by decide +kernel
theorem dX5_pullAll_145 : decode cX5_pullAll 145 = .ok (.iaload, 1) := by decide +kernel
theorem dX5_pullAll_146 : decode cX5_pullAll 146 = .ok (.iastore, 1) := by decide +kernel
theorem dX5_pullAll_147 : decode cX5_pullAll 147 = .ok (.iinc 3 1, 3) := by decide +kernel
theorem dX5_pullAll_150 : decode cX5_pullAll 150 = .ok (.goto (-22), 3) := by decide +kernel
theorem dX5_pullAll_153 : decode cX5_pullAll 153 = .ok (.aload_n 0, 1) := by decide +kernel
theorem dX5_pullAll_154 : decode cX5_pullAll 154 = .ok (.iconst 1, 1) := by decide +kernel
theorem dX5_pullAll_155 : decode cX5_pullAll 155 = .ok (.invokevirtual 39, 3) := by decide +kernel
theorem dX5_pullAll_158 : decode cX5_pullAll 158 = .ok (.ireturn, 1) := by decide +kernel
theorem dX5_pullAll_159 : decode cX5_pullAll 159 = .ok (.aload_n 0, 1) := by decide +kernel
theorem dX5_pullAll_160 : decode cX5_pullAll 160 = .ok (.aload_n 0, 1) := by decide +kernel
theorem dX5_pullAll_161 : decode cX5_pullAll 161 = .ok (.getfield 13, 3) := by decide +kernel
theorem dX5_pullAll_164 : decode cX5_pullAll 164 = .ok (.invokevirtual 95, 3) := by decide +kernel
theorem dX5_pullAll_167 : decode cX5_pullAll 167 = .ok (.iload_n 1, 1) := by decide +kernel
theorem dX5_pullAll_168 : decode cX5_pullAll 168 = .ok (.ireturn, 1) := by decide +kernel
theorem dX5_append_0 : decode cX5_append 0 = .ok (.aload_n 0, 1) := by decide +kernel
theorem dX5_append_1 : decode cX5_append 1 = .ok (.iconst 0, 1) := by decide +kernel
theorem dX5_append_2 : decode cX5_append 2 = .ok (.putfield 32, 3) := by decide +kernel
theorem dX5_append_5 : decode cX5_append 5 = .ok (.iload_n 1, 1) := by decide +kernel
theorem dX5_append_6 : decode cX5_append 6 = .ok (.bipush 33, 2) := by decide +kernel
theorem dX5_append_8 : decode cX5_append 8 = .ok (.bipush 126, 2) := by decide +kernel
theorem dX5_append_10 : decode cX5_append 10 = .ok (.invokestatic 35, 3) := by decide +kernel
theorem dX5_append_13 : decode cX5_append 13 = .ok (.ifCond .ne 9, 3) := by decide +kernel
theorem dX5_append_16 : decode cX5_append 16 = .ok (.aload_n 0, 1) := by decide +kernel
theorem dX5_append_17 : decode cX5_append 17 = .ok (.iconst 1, 1) := by decide +kernel
theorem dX5_append_18 : decode cX5_append 18 = .ok (.invokevirtual 39, 3) := by decide +kernel
theorem dX5_append_21 : decode cX5_append 21 = .ok (.ireturn, 1) := by decide +kernel
theorem dX5_append_22 : decode cX5_append 22 = .ok (.aload_n 0, 1) := by decide +kernel
theorem dX5_append_23 : decode cX5_append 23 = .ok (.getfield 135, 3) := by decide +kernel
theorem dX5_append_26 : decode cX5_append 26 = .ok (.bipush 60, 2) := by decide +kernel
theorem dX5_append_28 : decode cX5_append 28 = .ok (.if_icmp .ne 9, 3) := by decide +kernel
theorem dX5_append_31 : decode cX5_append 31 = .ok (.aload_n 0, 1) := by decide +kernel
theorem dX5_append_32 : decode cX5_append 32 = .ok (.iconst 2, 1) := by decide +kernel
theorem dX5_append_33 : decode cX5_append 33 = .ok (.invokevirtual 39, 3) := by decide +kernel
theorem dX5_append_36 : decode cX5_append 36 = .ok (.ireturn, 1) := by decide +kernel
theorem dX5_append_37 : decode cX5_append 37 = .ok (.aload_n 0, 1) := by decide +kernel
theorem dX5_append_38 : decode cX5_append 38 = .ok (.getfield 19, 3) := by decide +kernel
theorem dX5_append_41 : decode cX5_append 41 = .ok (.aload_n 0, 1) := by decide +kernel
theorem dX5_append_42 : decode cX5_append 42 = .ok (.getfield 135, 3) := by decide +kernel
theorem dX5_append_45 : decode cX5_append 45 = .ok (.iload_n 1, 1) := by decide +kernel
theorem dX5_append_46 : decode cX5_append 46 = .ok (.iastore, 1) := by decide +kernel
theorem dX5_append_47 : decode cX5_append 47 = .ok (.aload_n 0, 1) := by decide +kernel
theorem dX5_append_48 : decode cX5_append 48 = .ok (.dup, 1) := by decide +kernel
theorem dX5_append_49 : decode cX5_append 49 = .ok (.getfield 135, 3) := by decide +kernel
theorem dX5_append_52 : decode cX5_append 52 = .ok (.iconst 1, 1) := by decide +kernel
theorem dX5_append_53 : decode cX5_append 53 = .ok (.iadd, 1) := by decide +kernel
theorem dX5_append_54 : decode cX5_append 54 = .ok (.putfield 135, 3) := by decide +kernel
theorem dX5_append_57 : decode cX5_append 57 = .ok (.aload_n 0, 1) := by decide +kernel
theorem dX5_append_58 : decode cX5_append 58 = .ok (.getfield 135, 3) := by decide +kernel
theorem dX5_append_61 : decode cX5_append 61 = .ok (.ireturn, 1) := by decide +kernel
theorem dX5_clearBuffer_0 : decode cX5_clearBuffer 0 = .ok (.aload_n 0, 1) := by decide +kernel
theorem dX5_clearBuffer_1 : decode cX5_clearBuffer 1 = .ok (.iconst 0, 1) := by decide +kernel
theorem dX5_clearBuffer_2 : decode cX5_clearBuffer 2 = .ok (.putfield 32, 3) := by decide +kernel
theorem dX5_clearBuffer_5 : decode cX5_clearBuffer 5 = .ok (.aload_n 0, 1) := by decide +kernel
theorem dX5_clearBuffer_6 : decode cX5_clearBuffer 6 = .ok (.getfield 135, 3) := by decide +kernel
theorem dX5_clearBuffer_9 : decode cX5_clearBuffer 9 = .ok (.istore_n 1, 1) := by decide +kernel
theorem dX5_clearBuffer_10 : decode cX5_clearBuffer 10 = .ok (.aload_n 0, 1) := by decide +kernel
theorem dX5_clearBuffer_11 : decode cX5_clearBuffer 11 = .ok (.iconst 0, 1) := by decide +kernel
theorem dX5_clearBuffer_12 : decode cX5_clearBuffer 12 = .ok (.putfield 135, 3) := by decide +kernel
theorem dX5_clearBuffer_15 : decode cX5_clearBuffer 15 = .ok (.iload_n 1, 1) := by decide +kernel
theorem dX5_clearBuffer_16 : decode cX5_clearBuffer 16 = .ok (.ireturn, 1) := by decide +kernel
theorem dX5_isAt_0 : decode cX5_isAt 0 = .ok (.aload_n 0, 1) := by decide +kernel
theorem dX5_isAt_1 : decode cX5_isAt 1 = .ok (.getfield 138, 3) := by decide +kernel
theorem dX5_isAt_4 : decode cX5_isAt 4 = .ok (.aload_n 0, 1) := by decide +kernel
theorem dX5_isAt_5 : decode cX5_isAt 5 = .ok (.getfield 135, 3) := by decide +kernel
theorem dX5_isAt_8 : decode cX5_isAt 8 = .ok (.if_icmp .ge 24, 3) := by decide +kernel
theorem dX5_isAt_11 : decode cX5_isAt 11 = .ok (.aload_n 0, 1) := by decide +kernel
theorem dX5_isAt_12 : decode cX5_isAt 12 = .ok (.getfield 19, 3) := by decide +kernel
theorem dX5_isAt_15 : decode cX5_isAt 15 = .ok (.aload_n 0, 1) := by decide +kernel
theorem dX5_isAt_16 : decode cX5_isAt 16 = .ok (.getfield 138, 3) := by decide +kernel
theorem dX5_isAt_19 : decode cX5_isAt 19 = .ok (.iaload, 1) := by decide +kernel
theorem dX5_isAt_20 : decode cX5_isAt 20 = .ok (.iload_n 1, 1) := by decide +kernel
theorem dX5_isAt_21 : decode cX5_isAt 21 = .ok (.iload_n 2, 1) := by decide +kernel
theorem dX5_isAt_22 : decode cX5_isAt 22 = .ok (.invokestatic 35, 3) := by decide +kernel
theorem dX5_isAt_25 : decode cX5_isAt 25 = .ok (.ifCond .eq 7, 3) := by decide +kernel
theorem dX5_isAt_28 : decode cX5_isAt 28 = .ok (.iconst 1, 1) := by decide +kernel
theorem dX5_isAt_29 : decode cX5_isAt 29 = .ok (.goto 4, 3) := by decide +kernel
theorem dX5_isAt_32 : decode cX5_isAt 32 = .ok (.iconst 0, 1) := by decide +kernel
theorem dX5_isAt_33 : decode cX5_isAt 33 = .ok (.ireturn, 1) := by decide +kernel
theorem dX5_stops_0 : decode cX5_stops 0 = .ok (.aload_n 0, 1) := by decide +kernel
theorem dX5_stops_1 : decode cX5_stops 1 = .ok (.aload_n 0, 1) := by decide +kernel
theorem dX5_stops_2 : decode cX5_stops 2 = .ok (.getfield 138, 3) := by decide +kernel
theorem dX5_stops_5 : decode cX5_stops 5 = .ok (.aload_n 0, 1) := by decide +kernel
theorem dX5_stops_6 : decode cX5_stops 6 = .ok (.getfield 135, 3) := by decide +kernel
theorem dX5_stops_9 : decode cX5_stops 9 = .ok (.if_icmp .ge 7, 3) := by decide +kernel
theorem dX5_stops_12 : decode cX5_stops 12 = .ok (.iconst 1, 1) := by decide +kernel
theorem dX5_stops_13 : decode cX5_stops 13 = .ok (.goto 4, 3) := by decide +kernel
theorem dX5_stops_16 : decode cX5_stops 16 = .ok (.iconst 0, 1) := by decide +kernel
theorem dX5_stops_17 : decode cX5_stops 17 = .ok (.putfield 141, 3) := by decide +kernel
theorem dX5_stops_20 : decode cX5_stops 20 = .ok (.iconst 0, 1) := by decide +kernel
theorem dX5_stops_21 : decode cX5_stops 21 = .ok (.ireturn, 1) := by decide +kernel
theorem dX5_takes_0 : decode cX5_takes 0 = .ok (.aload_n 0, 1) := by decide +kernel
theorem dX5_takes_1 : decode cX5_takes 1 = .ok (.iload_n 1, 1) := by decide +kernel
theorem dX5_takes_2 : decode cX5_takes 2 = .ok (.iload_n 1, 1) := by decide +kernel
theorem dX5_takes_3 : decode cX5_takes 3 = .ok (.invokevirtual 145, 3) := by decide +kernel
theorem dX5_takes_6 : decode cX5_takes 6 = .ok (.istore_n 2, 1) := by decide +kernel
theorem dX5_takes_7 : decode cX5_takes 7 = .ok (.aload_n 0, 1) := by decide +kernel
theorem dX5_takes_8 : decode cX5_takes 8 = .ok (.dup, 1) := by decide +kernel
theorem dX5_takes_9 : decode cX5_takes 9 = .ok (.getfield 138, 3) := by decide +kernel
theorem dX5_takes_12 : decode cX5_takes 12 = .ok (.iload_n 2, 1) := by decide +kernel
theorem dX5_takes_13 : decode cX5_takes 13 = .ok (.ifCond .eq 7, 3) := by decide +kernel
theorem dX5_takes_16 : decode cX5_takes 16 = .ok (.iconst 1, 1) := by decide +kernel
theorem dX5_takes_17 : decode cX5_takes 17 = .ok (.goto 4, 3) := by decide +kernel
theorem dX5_takes_20 : decode cX5_takes 20 = .ok (.iconst 0, 1) := by decide +kernel
theorem dX5_takes_21 : decode cX5_takes 21 = .ok (.iadd, 1) := by decide +kernel
theorem dX5_takes_22 : decode cX5_takes 22 = .ok (.putfield 138, 3) := by decide +kernel
theorem dX5_takes_25 : decode cX5_takes 25 = .ok (.iload_n 2, 1) := by decide +kernel
theorem dX5_takes_26 : decode cX5_takes 26 = .ok (.ireturn, 1) := by decide +kernel
theorem dX5_takesPart_0 : decode cX5_takesPart 0 = .ok (.aload_n 0, 1) := by decide +kernel
theorem dX5_takesPart_1 : decode cX5_takesPart 1 = .ok (.bipush 48, 2) := by decide +kernel
theorem dX5_takesPart_3 : decode cX5_takesPart 3 = .ok (.iload_n 2, 1) := by decide +kernel
theorem dX5_takesPart_4 : decode cX5_takesPart 4 = .ok (.invokevirtual 145, 3) := by decide +kernel
theorem dX5_takesPart_7 : decode cX5_takesPart 7 = .ok (.ifCond .ne 8, 3) := by decide +kernel
theorem dX5_takesPart_10 : decode cX5_takesPart 10 = .ok (.aload_n 0, 1) := by decide +kernel
theorem dX5_takesPart_11 : decode cX5_takesPart 11 = .ok (.invokevirtual 148, 3) := by decide +kernel
theorem dX5_takesPart_14 : decode cX5_takesPart 14 = .ok (.ireturn, 1) := by decide +kernel
theorem dX5_takesPart_15 : decode cX5_takesPart 15 = .ok (.aload_n 0, 1) := by decide +kernel
theorem dX5_takesPart_16 : decode cX5_takesPart 16 = .ok (.getfield 25, 3) := by decide +kernel
theorem dX5_takesPart_19 : decode cX5_takesPart 19 = .ok (.iconst 5, 1) := by decide +kernel
theorem dX5_takesPart_20 : decode cX5_takesPart 20 = .ok (.aload_n 0, 1) := by decide +kernel
theorem dX5_takesPart_21 : decode cX5_takesPart 21 = .ok (.getfield 152, 3) := by decide +kernel
theorem dX5_takesPart_24 : decode cX5_takesPart 24 = .ok (.imul, 1) := by decide +kernel
theorem dX5_takesPart_25 : decode cX5_takesPart 25 = .ok (.iload_n 1, 1) := by decide +kernel
theorem dX5_takesPart_26 : decode cX5_takesPart 26 = .ok (.iadd, 1) := by decide +kernel
theorem dX5_takesPart_27 : decode cX5_takesPart 27 = .ok (.aload_n 0, 1) := by decide +kernel
theorem dX5_takesPart_28 : decode cX5_takesPart 28 = .ok (.getfield 19, 3) := by decide +kernel
theorem dX5_takesPart_31 : decode cX5_takesPart 31 = .ok (.aload_n 0, 1) := by decide +kernel
theorem dX5_takesPart_32 : decode cX5_takesPart 32 = .ok (.getfield 138, 3) := by decide +kernel
theorem dX5_takesPart_35 : decode cX5_takesPart 35 = .ok (.iaload, 1) := by decide +kernel
theorem dX5_takesPart_36 : decode cX5_takesPart 36 = .ok (.bipush 48, 2) := by decide +kernel
theorem dX5_takesPart_38 : decode cX5_takesPart 38 = .ok (.isub, 1) := by decide +kernel
theorem dX5_takesPart_39 : decode cX5_takesPart 39 = .ok (.iastore, 1) := by decide +kernel
theorem dX5_takesPart_40 : decode cX5_takesPart 40 = .ok (.aload_n 0, 1) := by decide +kernel
theorem dX5_takesPart_41 : decode cX5_takesPart 41 = .ok (.dup, 1) := by decide +kernel
theorem dX5_takesPart_42 : decode cX5_takesPart 42 = .ok (.getfield 138, 3) := by decide +kernel
theorem dX5_takesPart_45 : decode cX5_takesPart 45 = .ok (.iconst 1, 1) := by decide +kernel
theorem dX5_takesPart_46 : decode cX5_takesPart 46 = .ok (.iadd, 1) := by decide +kernel
theorem dX5_takesPart_47 : decode cX5_takesPart 47 = .ok (.putfield 138, 3) := by decide +kernel
theorem dX5_takesPart_50 : decode cX5_takesPart 50 = .ok (.iconst 1, 1) := by decide +kernel
theorem dX5_takesPart_51 : decode cX5_takesPart 51 = .ok (.ireturn, 1) := by decide +kernel
theorem dX5_takesValue_0 : decode cX5_takesValue 0 = .ok (.aload_n 0, 1) := by decide +kernel
theorem dX5_takesValue_1 : decode cX5_takesValue 1 = .ok (.bipush 48, 2) := by decide +kernel
theorem dX5_takesValue_3 : decode cX5_takesValue 3 = .ok (.bipush 57, 2) := by decide +kernel
theorem dX5_takesValue_5 : decode cX5_takesValue 5 = .ok (.invokevirtual 145, 3) := by decide +kernel
theorem dX5_takesValue_8 : decode cX5_takesValue 8 = .ok (.ifCond .ne 8, 3) := by decide +kernel
theorem dX5_takesValue_11 : decode cX5_takesValue 11 = .ok (.aload_n 0, 1) := by decide +kernel
theorem dX5_takesValue_12 : decode cX5_takesValue 12 = .ok (.invokevirtual 148, 3) := by decide +kernel
theorem dX5_takesValue_15 : decode cX5_takesValue 15 = .ok (.ireturn, 1) := by decide +kernel
theorem dX5_takesValue_16 : decode cX5_takesValue 16 = .ok (.aload_n 0, 1) := by decide +kernel
theorem dX5_takesValue_17 : decode cX5_takesValue 17 = .ok (.getfield 19, 3) := by decide +kernel
theorem dX5_takesValue_20 : decode cX5_takesValue 20 = .ok (.aload_n 0, 1) := by decide +kernel
theorem dX5_takesValue_21 : decode cX5_takesValue 21 = .ok (.getfield 138, 3) := by decide +kernel
theorem dX5_takesValue_24 : decode cX5_takesValue 24 = .ok (.iaload, 1) := by decide +kernel
theorem dX5_takesValue_25 : decode cX5_takesValue 25 = .ok (.bipush 48, 2) := by decide +kernel
theorem dX5_takesValue_27 : decode cX5_takesValue 27 = .ok (.isub, 1) := by decide +kernel
theorem dX5_takesValue_28 : decode cX5_takesValue 28 = .ok (.istore_n 1, 1) := by decide +kernel
theorem dX5_takesValue_29 : decode cX5_takesValue 29 = .ok (.aload_n 0, 1) := by decide +kernel
theorem dX5_takesValue_30 : decode cX5_takesValue 30 = .ok (.dup, 1) := by decide +kernel
theorem dX5_takesValue_31 : decode cX5_takesValue 31 = .ok (.getfield 138, 3) := by decide +kernel
theorem dX5_takesValue_34 : decode cX5_takesValue 34 = .ok (.iconst 1, 1) := by decide +kernel
theorem dX5_takesValue_35 : decode cX5_takesValue 35 = .ok (.iadd, 1) := by decide +kernel
theorem dX5_takesValue_36 : decode cX5_takesValue 36 = .ok (.putfield 138, 3) := by decide +kernel
theorem dX5_takesValue_39 : decode cX5_takesValue 39 = .ok (.iload_n 1, 1) := by decide +kernel
theorem dX5_takesValue_40 : decode cX5_takesValue 40 = .ok (.ifCond .le 42, 3) := by decide +kernel
theorem dX5_takesValue_43 : decode cX5_takesValue 43 = .ok (.aload_n 0, 1) := by decide +kernel
theorem dX5_takesValue_44 : decode cX5_takesValue 44 = .ok (.bipush 48, 2) := by decide +kernel
theorem dX5_takesValue_46 : decode cX5_takesValue 46 = .ok (.bipush 57, 2) := by decide +kernel
theorem dX5_takesValue_48 : decode cX5_takesValue 48 = .ok (.invokevirtual 145, 3) := by decide +kernel
theorem dX5_takesValue_51 : decode cX5_takesValue 51 = .ok (.ifCond .eq 31, 3) := by decide +kernel
theorem dX5_takesValue_54 : decode cX5_takesValue 54 = .ok (.bipush 10, 2) := by decide +kernel
theorem dX5_takesValue_56 : decode cX5_takesValue 56 = .ok (.iload_n 1, 1) := by decide +kernel
theorem dX5_takesValue_57 : decode cX5_takesValue 57 = .ok (.imul, 1) := by decide +kernel
theorem dX5_takesValue_58 : decode cX5_takesValue 58 = .ok (.aload_n 0, 1) := by decide +kernel
theorem dX5_takesValue_59 : decode cX5_takesValue 59 = .ok (.getfield 19, 3) := by decide +kernel
theorem dX5_takesValue_62 : decode cX5_takesValue 62 = .ok (.aload_n 0, 1) := by decide +kernel
theorem dX5_takesValue_63 : decode cX5_takesValue 63 = .ok (.getfield 138, 3) := by decide +kernel
theorem dX5_takesValue_66 : decode cX5_takesValue 66 = .ok (.iaload, 1) := by decide +kernel
theorem dX5_takesValue_67 : decode cX5_takesValue 67 = .ok (.iadd, 1) := by decide +kernel
theorem dX5_takesValue_68 : decode cX5_takesValue 68 = .ok (.bipush 48, 2) := by decide +kernel
theorem dX5_takesValue_70 : decode cX5_takesValue 70 = .ok (.isub, 1) := by decide +kernel
theorem dX5_takesValue_71 : decode cX5_takesValue 71 = .ok (.istore_n 1, 1) := by decide +kernel
theorem dX5_takesValue_72 : decode cX5_takesValue 72 = .ok (.aload_n 0, 1) := by decide +kernel
theorem dX5_takesValue_73 : decode cX5_takesValue 73 = .ok (.dup, 1) := by decide +kernel
theorem dX5_takesValue_74 : decode cX5_takesValue 74 = .ok (.getfield 138, 3) := by decide +kernel
theorem dX5_takesValue_77 : decode cX5_takesValue 77 = .ok (.iconst 1, 1) := by decide +kernel
theorem dX5_takesValue_78 : decode cX5_takesValue 78 = .ok (.iadd, 1) := by decide +kernel
theorem dX5_takesValue_79 : decode cX5_takesValue 79 = .ok (.putfield 138, 3) := by decide +kernel
theorem dX5_takesValue_82 : decode cX5_takesValue 82 = .ok (.aload_n 0, 1) := by decide +kernel
theorem dX5_takesValue_83 : decode cX5_takesValue 83 = .ok (.getfield 25, 3) := by decide +kernel
theorem dX5_takesValue_86 : decode cX5_takesValue 86 = .ok (.iconst 5, 1) := by decide +kernel
theorem dX5_takesValue_87 : decode cX5_takesValue 87 = .ok (.aload_n 0, 1) := by decide +kernel
theorem dX5_takesValue_88 : decode cX5_takesValue 88 = .ok (.getfield 152, 3) := by decide +kernel
theorem dX5_takesValue_91 : decode cX5_takesValue 91 = .ok (.imul, 1) := by decide +kernel
theorem dX5_takesValue_92 : decode cX5_takesValue 92 = .ok (.iconst 4, 1) := by decide +kernel
theorem dX5_takesValue_93 : decode cX5_takesValue 93 = .ok (.iadd, 1) := by decide +kernel
theorem dX5_takesValue_94 : decode cX5_takesValue 94 = .ok (.iload_n 1, 1) := by decide +kernel
theorem dX5_takesValue_95 : decode cX5_takesValue 95 = .ok (.iastore, 1) := by decide +kernel
theorem dX5_takesValue_96 : decode cX5_takesValue 96 = .ok (.iconst 1, 1) := by decide +kernel
theorem dX5_takesValue_97 : decode cX5_takesValue 97 = .ok (.ireturn, 1) := by decide +kernel
theorem dX5_takesOne_0 : decode cX5_takesOne 0 = .ok (.aload_n 0, 1) := by decide +kernel
theorem dX5_takesOne_1 : decode cX5_takesOne 1 = .ok (.bipush 119, 2) := by decide +kernel
theorem dX5_takesOne_3 : decode cX5_takesOne 3 = .ok (.invokevirtual 155, 3) := by decide +kernel
theorem dX5_takesOne_6 : decode cX5_takesOne 6 = .ok (.istore_n 1, 1) := by decide +kernel
theorem dX5_takesOne_7 : decode cX5_takesOne 7 = .ok (.iload_n 1, 1) := by decide +kernel
theorem dX5_takesOne_8 : decode cX5_takesOne 8 = .ok (.ifCond .ne 17, 3) := by decide +kernel
theorem dX5_takesOne_11 : decode cX5_takesOne 11 = .ok (.aload_n 0, 1) := by decide +kernel
theorem dX5_takesOne_12 : decode cX5_takesOne 12 = .ok (.bipush 114, 2) := by decide +kernel
theorem dX5_takesOne_14 : decode cX5_takesOne 14 = .ok (.invokevirtual 155, 3) := by decide +kernel
theorem dX5_takesOne_17 : decode cX5_takesOne 17 = .ok (.ifCond .ne 8, 3) := by decide +kernel
theorem dX5_takesOne_20 : decode cX5_takesOne 20 = .ok (.aload_n 0, 1) := by decide +kernel
theorem dX5_takesOne_21 : decode cX5_takesOne 21 = .ok (.invokevirtual 148, 3) := by decide +kernel
theorem dX5_takesOne_24 : decode cX5_takesOne 24 = .ok (.ireturn, 1) := by decide +kernel
theorem dX5_takesOne_25 : decode cX5_takesOne 25 = .ok (.aload_n 0, 1) := by decide +kernel
theorem dX5_takesOne_26 : decode cX5_takesOne 26 = .ok (.getfield 25, 3) := by decide +kernel
theorem dX5_takesOne_29 : decode cX5_takesOne 29 = .ok (.iconst 5, 1) := by decide +kernel
theorem dX5_takesOne_30 : decode cX5_takesOne 30 = .ok (.aload_n 0, 1) := by decide +kernel
theorem dX5_takesOne_31 : decode cX5_takesOne 31 = .ok (.getfield 152, 3) := by decide +kernel
theorem dX5_takesOne_34 : decode cX5_takesOne 34 = .ok (.imul, 1) := by decide +kernel
theorem dX5_takesOne_35 : decode cX5_takesOne 35 = .ok (.iload_n 1, 1) := by decide +kernel
theorem dX5_takesOne_36 : decode cX5_takesOne 36 = .ok (.ifCond .eq 7, 3) := by decide +kernel
theorem dX5_takesOne_39 : decode cX5_takesOne 39 = .ok (.iconst 1, 1) := by decide +kernel
theorem dX5_takesOne_40 : decode cX5_takesOne 40 = .ok (.goto 4, 3) := by decide +kernel
theorem dX5_takesOne_43 : decode cX5_takesOne 43 = .ok (.iconst 0, 1) := by decide +kernel
theorem dX5_takesOne_44 : decode cX5_takesOne 44 = .ok (.iastore, 1) := by decide +kernel
theorem dX5_takesOne_45 : decode cX5_takesOne 45 = .ok (.aload_n 0, 1) := by decide +kernel
theorem dX5_takesOne_46 : decode cX5_takesOne 46 = .ok (.iconst 1, 1) := by decide +kernel
theorem dX5_takesOne_47 : decode cX5_takesOne 47 = .ok (.bipush 52, 2) := by decide +kernel
theorem dX5_takesOne_49 : decode cX5_takesOne 49 = .ok (.invokevirtual 158, 3) := by decide +kernel
theorem dX5_takesOne_52 : decode cX5_takesOne 52 = .ok (.ifCond .ne 5, 3) := by decide +kernel
theorem dX5_takesOne_55 : decode cX5_takesOne 55 = .ok (.iconst 0, 1) := by decide +kernel
theorem dX5_takesOne_56 : decode cX5_takesOne 56 = .ok (.ireturn, 1) := by decide +kernel
theorem dX5_takesOne_57 : decode cX5_takesOne 57 = .ok (.aload_n 0, 1) := by decide +kernel
theorem dX5_takesOne_58 : decode cX5_takesOne 58 = .ok (.bipush 107, 2) := by decide +kernel
theorem dX5_takesOne_60 : decode cX5_takesOne 60 = .ok (.invokevirtual 155, 3) := by decide +kernel
theorem dX5_takesOne_63 : decode cX5_takesOne 63 = .ok (.ifCond .ne 8, 3) := by decide +kernel
theorem dX5_takesOne_66 : decode cX5_takesOne 66 = .ok (.aload_n 0, 1) := by decide +kernel
theorem dX5_takesOne_67 : decode cX5_takesOne 67 = .ok (.invokevirtual 148, 3) := by decide +kernel
theorem dX5_takesOne_70 : decode cX5_takesOne 70 = .ok (.ireturn, 1) := by decide +kernel
theorem dX5_takesOne_71 : decode cX5_takesOne 71 = .ok (.aload_n 0, 1) := by decide +kernel
theorem dX5_takesOne_72 : decode cX5_takesOne 72 = .ok (.iconst 2, 1) := by decide +kernel
theorem dX5_takesOne_73 : decode cX5_takesOne 73 = .ok (.bipush 50, 2) := by decide +kernel
theorem dX5_takesOne_75 : decode cX5_takesOne 75 = .ok (.invokevirtual 158, 3) := by decide +kernel
theorem dX5_takesOne_78 : decode cX5_takesOne 78 = .ok (.ifCond .ne 5, 3) := by decide +kernel
theorem dX5_takesOne_81 : decode cX5_takesOne 81 = .ok (.iconst 0, 1) := by decide +kernel
theorem dX5_takesOne_82 : decode cX5_takesOne 82 = .ok (.ireturn, 1) := by decide +kernel
theorem dX5_takesOne_83 : decode cX5_takesOne 83 = .ok (.aload_n 0, 1) := by decide +kernel
theorem dX5_takesOne_84 : decode cX5_takesOne 84 = .ok (.bipush 115, 2) := by decide +kernel
theorem dX5_takesOne_86 : decode cX5_takesOne 86 = .ok (.invokevirtual 155, 3) := by decide +kernel
theorem dX5_takesOne_89 : decode cX5_takesOne 89 = .ok (.ifCond .ne 8, 3) := by decide +kernel
theorem dX5_takesOne_92 : decode cX5_takesOne 92 = .ok (.aload_n 0, 1) := by decide +kernel
theorem dX5_takesOne_93 : decode cX5_takesOne 93 = .ok (.invokevirtual 148, 3) := by decide +kernel
theorem dX5_takesOne_96 : decode cX5_takesOne 96 = .ok (.ireturn, 1) := by decide +kernel
theorem dX5_takesOne_97 : decode cX5_takesOne 97 = .ok (.aload_n 0, 1) := by decide +kernel
theorem dX5_takesOne_98 : decode cX5_takesOne 98 = .ok (.iconst 3, 1) := by decide +kernel
theorem dX5_takesOne_99 : decode cX5_takesOne 99 = .ok (.bipush 50, 2) := by decide +kernel
theorem dX5_takesOne_101 : decode cX5_takesOne 101 = .ok (.invokevirtual 158, 3) := by decide +kernel
theorem dX5_takesOne_104 : decode cX5_takesOne 104 = .ok (.ifCond .ne 5, 3) := by decide +kernel
theorem dX5_takesOne_107 : decode cX5_takesOne 107 = .ok (.iconst 0, 1) := by decide +kernel
theorem dX5_takesOne_108 : decode cX5_takesOne 108 = .ok (.ireturn, 1) := by decide +kernel
theorem dX5_takesOne_109 : decode cX5_takesOne 109 = .ok (.iload_n 1, 1) := by decide +kernel
theorem dX5_takesOne_110 : decode cX5_takesOne 110 = .ok (.ifCond .ne 5, 3) := by decide +kernel
theorem dX5_takesOne_113 : decode cX5_takesOne 113 = .ok (.iconst 1, 1) := by decide +kernel
theorem dX5_takesOne_114 : decode cX5_takesOne 114 = .ok (.ireturn, 1) := by decide +kernel
theorem dX5_takesOne_115 : decode cX5_takesOne 115 = .ok (.aload_n 0, 1) := by decide +kernel
theorem dX5_takesOne_116 : decode cX5_takesOne 116 = .ok (.bipush 61, 2) := by decide +kernel
theorem dX5_takesOne_118 : decode cX5_takesOne 118 = .ok (.invokevirtual 155, 3) := by decide +kernel
theorem dX5_takesOne_121 : decode cX5_takesOne 121 = .ok (.ifCond .eq 10, 3) := by decide +kernel
theorem dX5_takesOne_124 : decode cX5_takesOne 124 = .ok (.aload_n 0, 1) := by decide +kernel
theorem dX5_takesOne_125 : decode cX5_takesOne 125 = .ok (.invokevirtual 161, 3) := by decide +kernel
theorem dX5_takesOne_128 : decode cX5_takesOne 128 = .ok (.goto 7, 3) := by decide +kernel
theorem dX5_takesOne_131 : decode cX5_takesOne 131 = .ok (.aload_n 0, 1) := by decide +kernel
theorem dX5_takesOne_132 : decode cX5_takesOne 132 = .ok (.invokevirtual 148, 3) := by decide +kernel
theorem dX5_takesOne_135 : decode cX5_takesOne 135 = .ok (.ireturn, 1) := by decide +kernel
theorem dX5_isText_0 : decode cX5_isText 0 = .ok (.aload_n 0, 1) := by decide +kernel
theorem dX5_isText_1 : decode cX5_isText 1 = .ok (.iconst 0, 1) := by decide +kernel
theorem dX5_isText_2 : decode cX5_isText 2 = .ok (.putfield 138, 3) := by decide +kernel
theorem dX5_isText_5 : decode cX5_isText 5 = .ok (.aload_n 0, 1) := by decide +kernel
theorem dX5_isText_6 : decode cX5_isText 6 = .ok (.iconst 0, 1) := by decide +kernel
theorem dX5_isText_7 : decode cX5_isText 7 = .ok (.putfield 152, 3) := by decide +kernel
theorem dX5_isText_10 : decode cX5_isText 10 = .ok (.aload_n 0, 1) := by decide +kernel
theorem dX5_isText_11 : decode cX5_isText 11 = .ok (.iconst 0, 1) := by decide +kernel
theorem dX5_isText_12 : decode cX5_isText 12 = .ok (.putfield 141, 3) := by decide +kernel
theorem dX5_isText_15 : decode cX5_isText 15 = .ok (.iconst 1, 1) := by decide +kernel
theorem dX5_isText_16 : decode cX5_isText 16 = .ok (.istore_n 1, 1) := by decide +kernel
theorem dX5_isText_17 : decode cX5_isText 17 = .ok (.iload_n 1, 1) := by decide +kernel
theorem dX5_isText_18 : decode cX5_isText 18 = .ok (.ifCond .eq 32, 3) := by decide +kernel
theorem dX5_isText_21 : decode cX5_isText 21 = .ok (.aload_n 0, 1) := by decide +kernel
theorem dX5_isText_22 : decode cX5_isText 22 = .ok (.invokevirtual 164, 3) := by decide +kernel
theorem dX5_isText_25 : decode cX5_isText 25 = .ok (.ifCond .ne 5, 3) := by decide +kernel
theorem dX5_isText_28 : decode cX5_isText 28 = .ok (.iconst 0, 1) := by decide +kernel
theorem dX5_isText_29 : decode cX5_isText 29 = .ok (.ireturn, 1) := by decide +kernel
theorem dX5_isText_30 : decode cX5_isText 30 = .ok (.aload_n 0, 1) := by decide +kernel
theorem dX5_isText_31 : decode cX5_isText 31 = .ok (.dup, 1) := by decide +kernel
theorem dX5_isText_32 : decode cX5_isText 32 = .ok (.getfield 152, 3) := by decide +kernel
theorem dX5_isText_35 : decode cX5_isText 35 = .ok (.iconst 1, 1) := by decide +kernel
theorem dX5_isText_36 : decode cX5_isText 36 = .ok (.iadd, 1) := by decide +kernel
theorem dX5_isText_37 : decode cX5_isText 37 = .ok (.putfield 152, 3) := by decide +kernel
theorem dX5_isText_40 : decode cX5_isText 40 = .ok (.aload_n 0, 1) := by decide +kernel
theorem dX5_isText_41 : decode cX5_isText 41 = .ok (.bipush 59, 2) := by decide +kernel
theorem dX5_isText_43 : decode cX5_isText 43 = .ok (.invokevirtual 155, 3) := by decide +kernel
theorem dX5_isText_46 : decode cX5_isText 46 = .ok (.istore_n 1, 1) := by decide +kernel
theorem dX5_isText_47 : decode cX5_isText 47 = .ok (.goto (-30), 3) := by decide +kernel
theorem dX5_isText_50 : decode cX5_isText 50 = .ok (.aload_n 0, 1) := by decide +kernel
theorem dX5_isText_51 : decode cX5_isText 51 = .ok (.aload_n 0, 1) := by decide +kernel
theorem dX5_isText_52 : decode cX5_isText 52 = .ok (.getfield 138, 3) := by decide +kernel
theorem dX5_isText_55 : decode cX5_isText 55 = .ok (.aload_n 0, 1) := by decide +kernel
theorem dX5_isText_56 : decode cX5_isText 56 = .ok (.getfield 135, 3) := by decide +kernel
theorem dX5_isText_59 : decode cX5_isText 59 = .ok (.if_icmp .ge 7, 3) := by decide +kernel
theorem dX5_isText_62 : decode cX5_isText 62 = .ok (.iconst 1, 1) := by decide +kernel
theorem dX5_isText_63 : decode cX5_isText 63 = .ok (.goto 4, 3) := by decide +kernel
theorem dX5_isText_66 : decode cX5_isText 66 = .ok (.iconst 0, 1) := by decide +kernel
theorem dX5_isText_67 : decode cX5_isText 67 = .ok (.putfield 141, 3) := by decide +kernel
theorem dX5_isText_70 : decode cX5_isText 70 = .ok (.aload_n 0, 1) := by decide +kernel
theorem dX5_isText_71 : decode cX5_isText 71 = .ok (.getfield 138, 3) := by decide +kernel
theorem dX5_isText_74 : decode cX5_isText 74 = .ok (.aload_n 0, 1) := by decide +kernel
theorem dX5_isText_75 : decode cX5_isText 75 = .ok (.getfield 135, 3) := by decide +kernel
theorem dX5_isText_78 : decode cX5_isText 78 = .ok (.if_icmp .ne 7, 3) := by decide +kernel
theorem dX5_isText_81 : decode cX5_isText 81 = .ok (.iconst 1, 1) := by decide +kernel
theorem dX5_isText_82 : decode cX5_isText 82 = .ok (.goto 4, 3) := by decide +kernel
theorem dX5_isText_85 : decode cX5_isText 85 = .ok (.iconst 0, 1) := by decide +kernel
theorem dX5_isText_86 : decode cX5_isText 86 = .ok (.ireturn, 1) := by decide +kernel
theorem dX5_firstError_0 : decode cX5_firstError 0 = .ok (.aload_n 0, 1) := by decide +kernel
theorem dX5_firstError_1 : decode cX5_firstError 1 = .ok (.iconst 0, 1) := by decide +kernel
theorem dX5_firstError_2 : decode cX5_firstError 2 = .ok (.putfield 32, 3) := by decide +kernel
theorem dX5_firstError_5 : decode cX5_firstError 5 = .ok (.aload_n 0, 1) := by decide +kernel
theorem dX5_firstError_6 : decode cX5_firstError 6 = .ok (.invokevirtual 167, 3) := by decide +kernel
theorem dX5_firstError_9 : decode cX5_firstError 9 = .ok (.istore_n 1, 1) := by decide +kernel
theorem dX5_firstError_10 : decode cX5_firstError 10 = .ok (.iload_n 1, 1) := by decide +kernel
theorem dX5_firstError_11 : decode cX5_firstError 11 = .ok (.ifCond .ne 17, 3) := by decide +kernel
theorem dX5_firstError_14 : decode cX5_firstError 14 = .ok (.aload_n 0, 1) := by decide +kernel
theorem dX5_firstError_15 : decode cX5_firstError 15 = .ok (.getfield 141, 3) := by decide +kernel
theorem dX5_firstError_18 : decode cX5_firstError 18 = .ok (.ifCond .eq 10, 3) := by decide +kernel
theorem dX5_firstError_21 : decode cX5_firstError 21 = .ok (.aload_n 0, 1) := by decide +kernel
theorem dX5_firstError_22 : decode cX5_firstError 22 = .ok (.getfield 138, 3) := by decide +kernel
theorem dX5_firstError_25 : decode cX5_firstError 25 = .ok (.goto 7, 3) := by decide +kernel
theorem dX5_firstError_28 : decode cX5_firstError 28 = .ok (.aload_n 0, 1) := by decide +kernel
theorem dX5_firstError_29 : decode cX5_firstError 29 = .ok (.getfield 135, 3) := by decide +kernel
theorem dX5_firstError_32 : decode cX5_firstError 32 = .ok (.ireturn, 1) := by decide +kernel
theorem dX5_does_0 : decode cX5_does 0 = .ok (.iconst 5, 1) := by decide +kernel
theorem dX5_does_1 : decode cX5_does 1 = .ok (.iload_n 1, 1) := by decide +kernel
theorem dX5_does_2 : decode cX5_does 2 = .ok (.imul, 1) := by decide +kernel
theorem dX5_does_3 : decode cX5_does 3 = .ok (.istore_n 2, 1) := by decide +kernel
theorem dX5_does_4 : decode cX5_does 4 = .ok (.aload_n 0, 1) := by decide +kernel
theorem dX5_does_5 : decode cX5_does 5 = .ok (.getfield 25, 3) := by decide +kernel
theorem dX5_does_8 : decode cX5_does 8 = .ok (.iload_n 2, 1) := by decide +kernel
theorem dX5_does_9 : decode cX5_does 9 = .ok (.iconst 1, 1) := by decide +kernel
theorem dX5_does_10 : decode cX5_does 10 = .ok (.iadd, 1) := by decide +kernel
theorem dX5_does_11 : decode cX5_does 11 = .ok (.iaload, 1) := by decide +kernel
theorem dX5_does_12 : decode cX5_does 12 = .ok (.istore_n 3, 1) := by decide +kernel
theorem dX5_does_13 : decode cX5_does 13 = .ok (.aload_n 0, 1) := by decide +kernel
theorem dX5_does_14 : decode cX5_does 14 = .ok (.getfield 25, 3) := by decide +kernel
theorem dX5_does_17 : decode cX5_does 17 = .ok (.iload_n 2, 1) := by decide +kernel
theorem dX5_does_18 : decode cX5_does 18 = .ok (.iconst 2, 1) := by decide +kernel
theorem dX5_does_19 : decode cX5_does 19 = .ok (.iadd, 1) := by decide +kernel
theorem dX5_does_20 : decode cX5_does 20 = .ok (.iaload, 1) := by decide +kernel
theorem dX5_does_21 : decode cX5_does 21 = .ok (.istore 4, 2) := by decide +kernel
theorem dX5_does_23 : decode cX5_does 23 = .ok (.aload_n 0, 1) := by decide +kernel
theorem dX5_does_24 : decode cX5_does 24 = .ok (.getfield 25, 3) := by decide +kernel
theorem dX5_does_27 : decode cX5_does 27 = .ok (.iload_n 2, 1) := by decide +kernel
theorem dX5_does_28 : decode cX5_does 28 = .ok (.iconst 3, 1) := by decide +kernel
theorem dX5_does_29 : decode cX5_does 29 = .ok (.iadd, 1) := by decide +kernel
theorem dX5_does_30 : decode cX5_does 30 = .ok (.iaload, 1) := by decide +kernel
theorem dX5_does_31 : decode cX5_does 31 = .ok (.istore 5, 2) := by decide +kernel
theorem dX5_does_33 : decode cX5_does 33 = .ok (.aload_n 0, 1) := by decide +kernel
theorem dX5_does_34 : decode cX5_does 34 = .ok (.getfield 25, 3) := by decide +kernel
theorem dX5_does_37 : decode cX5_does 37 = .ok (.iload_n 2, 1) := by decide +kernel
theorem dX5_does_38 : decode cX5_does 38 = .ok (.iaload, 1) := by decide +kernel
theorem dX5_does_39 : decode cX5_does 39 = .ok (.ifCond .ne 22, 3) := by decide +kernel
theorem dX5_does_42 : decode cX5_does 42 = .ok (.aload_n 0, 1) := by decide +kernel
theorem dX5_does_43 : decode cX5_does 43 = .ok (.iload 4, 2) := by decide +kernel
theorem dX5_does_45 : decode cX5_does 45 = .ok (.iload_n 3, 1) := by decide +kernel
theorem dX5_does_46 : decode cX5_does 46 = .ok (.invokestatic 54, 3) := by decide +kernel
theorem dX5_does_49 : decode cX5_does 49 = .ok (.iload 4, 2) := by decide +kernel
theorem dX5_does_51 : decode cX5_does 51 = .ok (.iload 5, 2) := by decide +kernel
theorem dX5_does_53 : decode cX5_does 53 = .ok (.invokestatic 75, 3) := by decide +kernel
theorem dX5_does_56 : decode cX5_does 56 = .ok (.invokevirtual 78, 3) := by decide +kernel
theorem dX5_does_59 : decode cX5_does 59 = .ok (.iconst 1, 1) := by decide +kernel
theorem dX5_does_60 : decode cX5_does 60 = .ok (.ireturn, 1) := by decide +kernel
theorem dX5_does_61 : decode cX5_does 61 = .ok (.aload_n 0, 1) := by decide +kernel
theorem dX5_does_62 : decode cX5_does 62 = .ok (.iload_n 3, 1) := by decide +kernel
theorem dX5_does_63 : decode cX5_does 63 = .ok (.iload 4, 2) := by decide +kernel
theorem dX5_does_65 : decode cX5_does 65 = .ok (.iload 5, 2) := by decide +kernel
theorem dX5_does_67 : decode cX5_does 67 = .ok (.invokevirtual 99, 3) := by decide +kernel
theorem dX5_does_70 : decode cX5_does 70 = .ok (.ifCond .eq 27, 3) := by decide +kernel
theorem dX5_does_73 : decode cX5_does 73 = .ok (.aload_n 0, 1) := by decide +kernel
theorem dX5_does_74 : decode cX5_does 74 = .ok (.iload_n 3, 1) := by decide +kernel
theorem dX5_does_75 : decode cX5_does 75 = .ok (.iload 4, 2) := by decide +kernel
theorem dX5_does_77 : decode cX5_does 77 = .ok (.iload 5, 2) := by decide +kernel
theorem dX5_does_79 : decode cX5_does 79 = .ok (.aload_n 0, 1) := by decide +kernel
theorem dX5_does_80 : decode cX5_does 80 = .ok (.getfield 25, 3) := by decide +kernel
theorem dX5_does_83 : decode cX5_does 83 = .ok (.iload_n 2, 1) := by decide +kernel
theorem dX5_does_84 : decode cX5_does 84 = .ok (.iconst 4, 1) := by decide +kernel
theorem dX5_does_85 : decode cX5_does 85 = .ok (.iadd, 1) := by decide +kernel
theorem dX5_does_86 : decode cX5_does 86 = .ok (.iaload, 1) := by decide +kernel
theorem dX5_does_87 : decode cX5_does 87 = .ok (.invokevirtual 102, 3) := by decide +kernel
theorem dX5_does_90 : decode cX5_does 90 = .ok (.ifCond .lt 7, 3) := by decide +kernel
theorem dX5_does_93 : decode cX5_does 93 = .ok (.iconst 1, 1) := by decide +kernel
theorem dX5_does_94 : decode cX5_does 94 = .ok (.goto 4, 3) := by decide +kernel
theorem dX5_does_97 : decode cX5_does 97 = .ok (.iconst 0, 1) := by decide +kernel
theorem dX5_does_98 : decode cX5_does 98 = .ok (.ireturn, 1) := by decide +kernel
theorem dX5_runAll_0 : decode cX5_runAll 0 = .ok (.aload_n 0, 1) := by decide +kernel
theorem dX5_runAll_1 : decode cX5_runAll 1 = .ok (.iconst 0, 1) := by decide +kernel
theorem dX5_runAll_2 : decode cX5_runAll 2 = .ok (.putfield 32, 3) := by decide +kernel
theorem dX5_runAll_5 : decode cX5_runAll 5 = .ok (.aload_n 0, 1) := by decide +kernel
theorem dX5_runAll_6 : decode cX5_runAll 6 = .ok (.invokevirtual 167, 3) := by decide +kernel
theorem dX5_runAll_9 : decode cX5_runAll 9 = .ok (.ifCond .ne 9, 3) := by decide +kernel
theorem dX5_runAll_12 : decode cX5_runAll 12 = .ok (.aload_n 0, 1) := by decide +kernel
theorem dX5_runAll_13 : decode cX5_runAll 13 = .ok (.iconst 1, 1) := by decide +kernel
theorem dX5_runAll_14 : decode cX5_runAll 14 = .ok (.invokevirtual 39, 3) := by decide +kernel
theorem dX5_runAll_17 : decode cX5_runAll 17 = .ok (.ireturn, 1) := by decide +kernel
theorem dX5_runAll_18 : decode cX5_runAll 18 = .ok (.aload_n 0, 1) := by decide +kernel
theorem dX5_runAll_19 : decode cX5_runAll 19 = .ok (.aload_n 0, 1) := by decide +kernel
theorem dX5_runAll_20 : decode cX5_runAll 20 = .ok (.getfield 7, 3) := by decide +kernel
theorem dX5_runAll_23 : decode cX5_runAll 23 = .ok (.invokevirtual 95, 3) := by decide +kernel
theorem dX5_runAll_26 : decode cX5_runAll 26 = .ok (.aload_n 0, 1) := by decide +kernel
theorem dX5_runAll_27 : decode cX5_runAll 27 = .ok (.iconst 0, 1) := by decide +kernel
theorem dX5_runAll_28 : decode cX5_runAll 28 = .ok (.putfield 135, 3) := by decide +kernel
theorem dX5_runAll_31 : decode cX5_runAll 31 = .ok (.iconst 0, 1) := by decide +kernel
theorem dX5_runAll_32 : decode cX5_runAll 32 = .ok (.istore_n 1, 1) := by decide +kernel
theorem dX5_runAll_33 : decode cX5_runAll 33 = .ok (.iload_n 1, 1) := by decide +kernel
theorem dX5_runAll_34 : decode cX5_runAll 34 = .ok (.aload_n 0, 1) := by decide +kernel
theorem dX5_runAll_35 : decode cX5_runAll 35 = .ok (.getfield 152, 3) := by decide +kernel
theorem dX5_runAll_38 : decode cX5_runAll 38 = .ok (.if_icmp .ge 17, 3) := by decide +kernel
theorem dX5_runAll_41 : decode cX5_runAll 41 = .ok (.aload_n 0, 1) := by decide +kernel
theorem dX5_runAll_42 : decode cX5_runAll 42 = .ok (.iload_n 1, 1) := by decide +kernel
theorem dX5_runAll_43 : decode cX5_runAll 43 = .ok (.invokevirtual 170, 3) := by decide +kernel
theorem dX5_runAll_46 : decode cX5_runAll 46 = .ok (.ifCond .eq 9, 3) := by decide +kernel
theorem dX5_runAll_49 : decode cX5_runAll 49 = .ok (.iinc 1 1, 3) := by decide +kernel
theorem dX5_runAll_52 : decode cX5_runAll 52 = .ok (.goto (-19), 3) := by decide +kernel
theorem dX5_runAll_55 : decode cX5_runAll 55 = .ok (.iload_n 1, 1) := by decide +kernel
theorem dX5_runAll_56 : decode cX5_runAll 56 = .ok (.ireturn, 1) := by decide +kernel
theorem dX5_coverers_0 : decode cX5_coverers 0 = .ok (.iconst 0, 1) := by decide +kernel
theorem dX5_coverers_1 : decode cX5_coverers 1 = .ok (.istore_n 3, 1) := by decide +kernel
theorem dX5_coverers_2 : decode cX5_coverers 2 = .ok (.iconst 0, 1) := by decide +kernel
theorem dX5_coverers_3 : decode cX5_coverers 3 = .ok (.istore 4, 2) := by decide +kernel
theorem dX5_coverers_5 : decode cX5_coverers 5 = .ok (.iload 4, 2) := by decide +kernel
theorem dX5_coverers_7 : decode cX5_coverers 7 = .ok (.iconst 5, 1) := by decide +kernel
theorem dX5_coverers_8 : decode cX5_coverers 8 = .ok (.if_icmp .ge 34, 3) := by decide +kernel
theorem dX5_coverers_11 : decode cX5_coverers 11 = .ok (.iload_n 3, 1) := by decide +kernel
theorem dX5_coverers_12 : decode cX5_coverers 12 = .ok (.aload_n 0, 1) := by decide +kernel
theorem dX5_coverers_13 : decode cX5_coverers 13 = .ok (.iload_n 1, 1) := by decide +kernel
theorem dX5_coverers_14 : decode cX5_coverers 14 = .ok (.iload 4, 2) := by decide +kernel
theorem dX5_coverers_16 : decode cX5_coverers 16 = .ok (.invokestatic 54, 3) := by decide +kernel
theorem dX5_coverers_19 : decode cX5_coverers 19 = .ok (.iload_n 2, 1) := by decide +kernel
theorem dX5_coverers_20 : decode cX5_coverers 20 = .ok (.invokevirtual 57, 3) := by decide +kernel
theorem dX5_coverers_23 : decode cX5_coverers 23 = .ok (.ifCond .eq 10, 3) := by decide +kernel
theorem dX5_coverers_26 : decode cX5_coverers 26 = .ok (.iconst 1, 1) := by decide +kernel
theorem dX5_coverers_27 : decode cX5_coverers 27 = .ok (.iload 4, 2) := by decide +kernel
theorem dX5_coverers_29 : decode cX5_coverers 29 = .ok (.ishl, 1) := by decide +kernel
theorem dX5_coverers_30 : decode cX5_coverers 30 = .ok (.goto 4, 3) := by decide +kernel
theorem dX5_coverers_33 : decode cX5_coverers 33 = .ok (.iconst 0, 1) := by decide +kernel
theorem dX5_coverers_34 : decode cX5_coverers 34 = .ok (.ior, 1) := by decide +kernel
theorem dX5_coverers_35 : decode cX5_coverers 35 = .ok (.istore_n 3, 1) := by decide +kernel
theorem dX5_coverers_36 : decode cX5_coverers 36 = .ok (.iinc 4 1, 3) := by decide +kernel
theorem dX5_coverers_39 : decode cX5_coverers 39 = .ok (.goto (-34), 3) := by decide +kernel
theorem dX5_coverers_42 : decode cX5_coverers 42 = .ok (.iload_n 3, 1) := by decide +kernel
theorem dX5_coverers_43 : decode cX5_coverers 43 = .ok (.ireturn, 1) := by decide +kernel
theorem dX5_holders_0 : decode cX5_holders 0 = .ok (.iconst 0, 1) := by decide +kernel
theorem dX5_holders_1 : decode cX5_holders 1 = .ok (.istore_n 3, 1) := by decide +kernel
theorem dX5_holders_2 : decode cX5_holders 2 = .ok (.iconst 0, 1) := by decide +kernel
theorem dX5_holders_3 : decode cX5_holders 3 = .ok (.istore 4, 2) := by decide +kernel
theorem dX5_holders_5 : decode cX5_holders 5 = .ok (.iload 4, 2) := by decide +kernel
theorem dX5_holders_7 : decode cX5_holders 7 = .ok (.iconst 3, 1) := by decide +kernel
theorem dX5_holders_8 : decode cX5_holders 8 = .ok (.if_icmp .ge 44, 3) := by decide +kernel
theorem dX5_holders_11 : decode cX5_holders 11 = .ok (.iload_n 3, 1) := by decide +kernel
theorem dX5_holders_12 : decode cX5_holders 12 = .ok (.aload_n 0, 1) := by decide +kernel
theorem dX5_holders_13 : decode cX5_holders 13 = .ok (.iload_n 1, 1) := by decide +kernel
theorem dX5_holders_14 : decode cX5_holders 14 = .ok (.iload 4, 2) := by decide +kernel
theorem dX5_holders_16 : decode cX5_holders 16 = .ok (.aload_n 0, 1) := by decide +kernel
theorem dX5_holders_17 : decode cX5_holders 17 = .ok (.getfield 7, 3) := by decide +kernel
theorem dX5_holders_20 : decode cX5_holders 20 = .ok (.iload_n 2, 1) := by decide +kernel
theorem dX5_holders_21 : decode cX5_holders 21 = .ok (.iaload, 1) := by decide +kernel
theorem dX5_holders_22 : decode cX5_holders 22 = .ok (.aload_n 0, 1) := by decide +kernel
theorem dX5_holders_23 : decode cX5_holders 23 = .ok (.getfield 7, 3) := by decide +kernel
theorem dX5_holders_26 : decode cX5_holders 26 = .ok (.iload_n 2, 1) := by decide +kernel
theorem dX5_holders_27 : decode cX5_holders 27 = .ok (.iconst 1, 1) := by decide +kernel
theorem dX5_holders_28 : decode cX5_holders 28 = .ok (.iadd, 1) := by decide +kernel
theorem dX5_holders_29 : decode cX5_holders 29 = .ok (.iaload, 1) := by decide +kernel
theorem dX5_holders_30 : decode cX5_holders 30 = .ok (.invokevirtual 121, 3) := by decide +kernel
theorem dX5_holders_33 : decode cX5_holders 33 = .ok (.ifCond .eq 10, 3) := by decide +kernel
theorem dX5_holders_36 : decode cX5_holders 36 = .ok (.iconst 1, 1) := by decide +kernel
theorem dX5_holders_37 : decode cX5_holders 37 = .ok (.iload 4, 2) := by decide +kernel
theorem dX5_holders_39 : decode cX5_holders 39 = .ok (.ishl, 1) := by decide +kernel
theorem dX5_holders_40 : decode cX5_holders 40 = .ok (.goto 4, 3) := by decide +kernel
theorem dX5_holders_43 : decode cX5_holders 43 = .ok (.iconst 0, 1) := by decide +kernel
theorem dX5_holders_44 : decode cX5_holders 44 = .ok (.ior, 1) := by decide +kernel
theorem dX5_holders_45 : decode cX5_holders 45 = .ok (.istore_n 3, 1) := by decide +kernel
theorem dX5_holders_46 : decode cX5_holders 46 = .ok (.iinc 4 1, 3) := by decide +kernel
theorem dX5_holders_49 : decode cX5_holders 49 = .ok (.goto (-44), 3) := by decide +kernel
theorem dX5_holders_52 : decode cX5_holders 52 = .ok (.iload_n 3, 1) := by decide +kernel
theorem dX5_holders_53 : decode cX5_holders 53 = .ok (.ireturn, 1) := by decide +kernel
theorem dX5_ofSibling_0 : decode cX5_ofSibling 0 = .ok (.iload_n 2, 1) := by decide +kernel
theorem dX5_ofSibling_1 : decode cX5_ofSibling 1 = .ok (.iload_n 1, 1) := by decide +kernel
theorem dX5_ofSibling_2 : decode cX5_ofSibling 2 = .ok (.iload_n 3, 1) := by decide +kernel
theorem dX5_ofSibling_3 : decode cX5_ofSibling 3 = .ok (.invokestatic 50, 3) := by decide +kernel
theorem dX5_ofSibling_6 : decode cX5_ofSibling 6 = .ok (.istore 5, 2) := by decide +kernel
theorem dX5_ofSibling_8 : decode cX5_ofSibling 8 = .ok (.iload 4, 2) := by decide +kernel
theorem dX5_ofSibling_10 : decode cX5_ofSibling 10 = .ok (.iconst 3, 1) := by decide +kernel
theorem dX5_ofSibling_11 : decode cX5_ofSibling 11 = .ok (.if_icmp .ge 16, 3) := by decide +kernel
theorem dX5_ofSibling_14 : decode cX5_ofSibling 14 = .ok (.aload_n 0, 1) := by decide +kernel
theorem dX5_ofSibling_15 : decode cX5_ofSibling 15 = .ok (.getfield 7, 3) := by decide +kernel
theorem dX5_ofSibling_18 : decode cX5_ofSibling 18 = .ok (.iload 5, 2) := by decide +kernel
theorem dX5_ofSibling_20 : decode cX5_ofSibling 20 = .ok (.iload 4, 2) := by decide +kernel
theorem dX5_ofSibling_22 : decode cX5_ofSibling 22 = .ok (.iadd, 1) := by decide +kernel
theorem dX5_ofSibling_23 : decode cX5_ofSibling 23 = .ok (.iaload, 1) := by decide +kernel
theorem dX5_ofSibling_24 : decode cX5_ofSibling 24 = .ok (.goto 26, 3) := by decide +kernel
theorem dX5_ofSibling_27 : decode cX5_ofSibling 27 = .ok (.iload 4, 2) := by decide +kernel
theorem dX5_ofSibling_29 : decode cX5_ofSibling 29 = .ok (.iconst 3, 1) := by decide +kernel
theorem dX5_ofSibling_30 : decode cX5_ofSibling 30 = .ok (.if_icmp .ne 13, 3) := by decide +kernel
theorem dX5_ofSibling_33 : decode cX5_ofSibling 33 = .ok (.aload_n 0, 1) := by decide +kernel
theorem dX5_ofSibling_34 : decode cX5_ofSibling 34 = .ok (.iload_n 2, 1) := by decide +kernel
theorem dX5_ofSibling_35 : decode cX5_ofSibling 35 = .ok (.iload 5, 2) := by decide +kernel
theorem dX5_ofSibling_37 : decode cX5_ofSibling 37 = .ok (.invokevirtual 173, 3) := by decide +kernel
theorem dX5_ofSibling_40 : decode cX5_ofSibling 40 = .ok (.goto 10, 3) := by decide +kernel
theorem dX5_ofSibling_43 : decode cX5_ofSibling 43 = .ok (.aload_n 0, 1) := by decide +kernel
theorem dX5_ofSibling_44 : decode cX5_ofSibling 44 = .ok (.iload_n 2, 1) := by decide +kernel
theorem dX5_ofSibling_45 : decode cX5_ofSibling 45 = .ok (.iload 5, 2) := by decide +kernel
theorem dX5_ofSibling_47 : decode cX5_ofSibling 47 = .ok (.invokevirtual 176, 3) := by decide +kernel
theorem dX5_ofSibling_50 : decode cX5_ofSibling 50 = .ok (.ireturn, 1) := by decide +kernel
theorem dX5_sibling_0 : decode cX5_sibling 0 = .ok (.aload_n 0, 1) := by decide +kernel
theorem dX5_sibling_1 : decode cX5_sibling 1 = .ok (.iconst 0, 1) := by decide +kernel
theorem dX5_sibling_2 : decode cX5_sibling 2 = .ok (.putfield 32, 3) := by decide +kernel
theorem dX5_sibling_5 : decode cX5_sibling 5 = .ok (.iload_n 1, 1) := by decide +kernel
theorem dX5_sibling_6 : decode cX5_sibling 6 = .ok (.invokestatic 89, 3) := by decide +kernel
theorem dX5_sibling_9 : decode cX5_sibling 9 = .ok (.ifCond .eq 10, 3) := by decide +kernel
theorem dX5_sibling_12 : decode cX5_sibling 12 = .ok (.iload_n 2, 1) := by decide +kernel
theorem dX5_sibling_13 : decode cX5_sibling 13 = .ok (.invokestatic 86, 3) := by decide +kernel
theorem dX5_sibling_16 : decode cX5_sibling 16 = .ok (.ifCond .ne 9, 3) := by decide +kernel
theorem dX5_sibling_19 : decode cX5_sibling 19 = .ok (.aload_n 0, 1) := by decide +kernel
theorem dX5_sibling_20 : decode cX5_sibling 20 = .ok (.iconst 1, 1) := by decide +kernel
theorem dX5_sibling_21 : decode cX5_sibling 21 = .ok (.invokevirtual 39, 3) := by decide +kernel
theorem dX5_sibling_24 : decode cX5_sibling 24 = .ok (.ireturn, 1) := by decide +kernel
theorem dX5_sibling_25 : decode cX5_sibling 25 = .ok (.iload_n 3, 1) := by decide +kernel
theorem dX5_sibling_26 : decode cX5_sibling 26 = .ok (.iconst 0, 1) := by decide +kernel
theorem dX5_sibling_27 : decode cX5_sibling 27 = .ok (.iconst 3, 1) := by decide +kernel
theorem dX5_sibling_28 : decode cX5_sibling 28 = .ok (.invokestatic 35, 3) := by decide +kernel
theorem dX5_sibling_31 : decode cX5_sibling 31 = .ok (.ifCond .eq 13, 3) := by decide +kernel
theorem dX5_sibling_34 : decode cX5_sibling 34 = .ok (.iload 4, 2) := by decide +kernel
theorem dX5_sibling_36 : decode cX5_sibling 36 = .ok (.iconst 0, 1) := by decide +kernel
theorem dX5_sibling_37 : decode cX5_sibling 37 = .ok (.iconst 4, 1) := by decide +kernel
theorem dX5_sibling_38 : decode cX5_sibling 38 = .ok (.invokestatic 35, 3) := by decide +kernel
theorem dX5_sibling_41 : decode cX5_sibling 41 = .ok (.ifCond .ne 9, 3) := by decide +kernel
theorem dX5_sibling_44 : decode cX5_sibling 44 = .ok (.aload_n 0, 1) := by decide +kernel
theorem dX5_sibling_45 : decode cX5_sibling 45 = .ok (.iconst 2, 1) := by decide +kernel
theorem dX5_sibling_46 : decode cX5_sibling 46 = .ok (.invokevirtual 39, 3) := by decide +kernel
theorem dX5_sibling_49 : decode cX5_sibling 49 = .ok (.ireturn, 1) := by decide +kernel
theorem dX5_sibling_50 : decode cX5_sibling 50 = .ok (.iload_n 3, 1) := by decide +kernel
theorem dX5_sibling_51 : decode cX5_sibling 51 = .ok (.aload_n 0, 1) := by decide +kernel
theorem dX5_sibling_52 : decode cX5_sibling 52 = .ok (.iload_n 2, 1) := by decide +kernel
theorem dX5_sibling_53 : decode cX5_sibling 53 = .ok (.iload_n 1, 1) := by decide +kernel
theorem dX5_sibling_54 : decode cX5_sibling 54 = .ok (.invokevirtual 47, 3) := by decide +kernel
theorem dX5_sibling_57 : decode cX5_sibling 57 = .ok (.if_icmp .ge 15, 3) := by decide +kernel
theorem dX5_sibling_60 : decode cX5_sibling 60 = .ok (.aload_n 0, 1) := by decide +kernel
theorem dX5_sibling_61 : decode cX5_sibling 61 = .ok (.iload_n 1, 1) := by decide +kernel
theorem dX5_sibling_62 : decode cX5_sibling 62 = .ok (.iload_n 2, 1) := by decide +kernel
theorem dX5_sibling_63 : decode cX5_sibling 63 = .ok (.iload_n 3, 1) := by decide +kernel
theorem dX5_sibling_64 : decode cX5_sibling 64 = .ok (.iload 4, 2) := by decide +kernel
theorem dX5_sibling_66 : decode cX5_sibling 66 = .ok (.invokevirtual 179, 3) := by decide +kernel
theorem dX5_sibling_69 : decode cX5_sibling 69 = .ok (.goto 4, 3) := by decide +kernel
theorem dX5_sibling_72 : decode cX5_sibling 72 = .ok (.iconst (-1), 1) := by decide +kernel
theorem dX5_sibling_73 : decode cX5_sibling 73 = .ok (.ireturn, 1) := by decide +kernel
theorem dX5_vector_0 : decode cX5_vector 0 = .ok (.aload_n 0, 1) := by decide +kernel
theorem dX5_vector_1 : decode cX5_vector 1 = .ok (.iconst 0, 1) := by decide +kernel
theorem dX5_vector_2 : decode cX5_vector 2 = .ok (.putfield 32, 3) := by decide +kernel
theorem dX5_vector_5 : decode cX5_vector 5 = .ok (.iload_n 3, 1) := by decide +kernel
theorem dX5_vector_6 : decode cX5_vector 6 = .ok (.iload_n 2, 1) := by decide +kernel
theorem dX5_vector_7 : decode cX5_vector 7 = .ok (.iload_n 1, 1) := by decide +kernel
theorem dX5_vector_8 : decode cX5_vector 8 = .ok (.invokestatic 92, 3) := by decide +kernel
theorem dX5_vector_11 : decode cX5_vector 11 = .ok (.ifCond .eq 18, 3) := by decide +kernel
theorem dX5_vector_14 : decode cX5_vector 14 = .ok (.aload_n 0, 1) := by decide +kernel
theorem dX5_vector_15 : decode cX5_vector 15 = .ok (.getfield 7, 3) := by decide +kernel
theorem dX5_vector_18 : decode cX5_vector 18 = .ok (.iload_n 2, 1) := by decide +kernel
theorem dX5_vector_19 : decode cX5_vector 19 = .ok (.iload_n 1, 1) := by decide +kernel
theorem dX5_vector_20 : decode cX5_vector 20 = .ok (.invokestatic 75, 3) := by decide +kernel
theorem dX5_vector_23 : decode cX5_vector 23 = .ok (.iload_n 3, 1) := by decide +kernel
theorem dX5_vector_24 : decode cX5_vector 24 = .ok (.iadd, 1) := by decide +kernel
theorem dX5_vector_25 : decode cX5_vector 25 = .ok (.iaload, 1) := by decide +kernel
theorem dX5_vector_26 : decode cX5_vector 26 = .ok (.goto 8, 3) := by decide +kernel
theorem dX5_vector_29 : decode cX5_vector 29 = .ok (.aload_n 0, 1) := by decide +kernel
theorem dX5_vector_30 : decode cX5_vector 30 = .ok (.iconst 1, 1) := by decide +kernel
theorem dX5_vector_31 : decode cX5_vector 31 = .ok (.invokevirtual 39, 3) := by decide +kernel
theorem dX5_vector_34 : decode cX5_vector 34 = .ok (.ireturn, 1) := by decide +kernel
theorem dX5_knows_0 : decode cX5_knows 0 = .ok (.aload_n 0, 1) := by decide +kernel
theorem dX5_knows_1 : decode cX5_knows 1 = .ok (.iconst 0, 1) := by decide +kernel
theorem dX5_knows_2 : decode cX5_knows 2 = .ok (.putfield 32, 3) := by decide +kernel
theorem dX5_knows_5 : decode cX5_knows 5 = .ok (.iload_n 1, 1) := by decide +kernel
theorem dX5_knows_6 : decode cX5_knows 6 = .ok (.invokestatic 82, 3) := by decide +kernel
theorem dX5_knows_9 : decode cX5_knows 9 = .ok (.ifCond .eq 32, 3) := by decide +kernel
theorem dX5_knows_12 : decode cX5_knows 12 = .ok (.iload_n 2, 1) := by decide +kernel
theorem dX5_knows_13 : decode cX5_knows 13 = .ok (.invokestatic 86, 3) := by decide +kernel
theorem dX5_knows_16 : decode cX5_knows 16 = .ok (.ifCond .eq 25, 3) := by decide +kernel
theorem dX5_knows_19 : decode cX5_knows 19 = .ok (.iload_n 3, 1) := by decide +kernel
theorem dX5_knows_20 : decode cX5_knows 20 = .ok (.invokestatic 82, 3) := by decide +kernel
theorem dX5_knows_23 : decode cX5_knows 23 = .ok (.ifCond .eq 18, 3) := by decide +kernel
theorem dX5_knows_26 : decode cX5_knows 26 = .ok (.aload_n 0, 1) := by decide +kernel
theorem dX5_knows_27 : decode cX5_knows 27 = .ok (.getfield 7, 3) := by decide +kernel
theorem dX5_knows_30 : decode cX5_knows 30 = .ok (.iload_n 2, 1) := by decide +kernel
theorem dX5_knows_31 : decode cX5_knows 31 = .ok (.iload_n 1, 1) := by decide +kernel
theorem dX5_knows_32 : decode cX5_knows 32 = .ok (.invokestatic 54, 3) := by decide +kernel
theorem dX5_knows_35 : decode cX5_knows 35 = .ok (.iload_n 3, 1) := by decide +kernel
theorem dX5_knows_36 : decode cX5_knows 36 = .ok (.iadd, 1) := by decide +kernel
theorem dX5_knows_37 : decode cX5_knows 37 = .ok (.iaload, 1) := by decide +kernel
theorem dX5_knows_38 : decode cX5_knows 38 = .ok (.goto 8, 3) := by decide +kernel
theorem dX5_knows_41 : decode cX5_knows 41 = .ok (.aload_n 0, 1) := by decide +kernel
theorem dX5_knows_42 : decode cX5_knows 42 = .ok (.iconst 1, 1) := by decide +kernel
theorem dX5_knows_43 : decode cX5_knows 43 = .ok (.invokevirtual 39, 3) := by decide +kernel
theorem dX5_knows_46 : decode cX5_knows 46 = .ok (.ireturn, 1) := by decide +kernel
theorem dX5_areAlike_0 : decode cX5_areAlike 0 = .ok (.aload_n 0, 1) := by decide +kernel
theorem dX5_areAlike_1 : decode cX5_areAlike 1 = .ok (.iload_n 1, 1) := by decide +kernel
theorem dX5_areAlike_2 : decode cX5_areAlike 2 = .ok (.iload_n 2, 1) := by decide +kernel
theorem dX5_areAlike_3 : decode cX5_areAlike 3 = .ok (.invokevirtual 47, 3) := by decide +kernel
theorem dX5_areAlike_6 : decode cX5_areAlike 6 = .ok (.aload_n 0, 1) := by decide +kernel
theorem dX5_areAlike_7 : decode cX5_areAlike 7 = .ok (.iload_n 1, 1) := by decide +kernel
theorem dX5_areAlike_8 : decode cX5_areAlike 8 = .ok (.iload_n 3, 1) := by decide +kernel
theorem dX5_areAlike_9 : decode cX5_areAlike 9 = .ok (.invokevirtual 47, 3) := by decide +kernel
theorem dX5_areAlike_12 : decode cX5_areAlike 12 = .ok (.if_icmp .ne 7, 3) := by decide +kernel
theorem dX5_areAlike_15 : decode cX5_areAlike 15 = .ok (.iconst 1, 1) := by decide +kernel
theorem dX5_areAlike_16 : decode cX5_areAlike 16 = .ok (.goto 4, 3) := by decide +kernel
theorem dX5_areAlike_19 : decode cX5_areAlike 19 = .ok (.iconst 0, 1) := by decide +kernel
theorem dX5_areAlike_20 : decode cX5_areAlike 20 = .ok (.istore 4, 2) := by decide +kernel
theorem dX5_areAlike_22 : decode cX5_areAlike 22 = .ok (.iconst 0, 1) := by decide +kernel
theorem dX5_areAlike_23 : decode cX5_areAlike 23 = .ok (.istore 5, 2) := by decide +kernel
theorem dX5_areAlike_25 : decode cX5_areAlike 25 = .ok (.iload 5, 2) := by decide +kernel
theorem dX5_areAlike_27 : decode cX5_areAlike 27 = .ok (.aload_n 0, 1) := by decide +kernel
theorem dX5_areAlike_28 : decode cX5_areAlike 28 = .ok (.iload_n 1, 1) := by decide +kernel
theorem dX5_areAlike_29 : decode cX5_areAlike 29 = .ok (.iload_n 2, 1) := by decide +kernel
theorem dX5_areAlike_30 : decode cX5_areAlike 30 = .ok (.invokevirtual 47, 3) := by decide +kernel
theorem dX5_areAlike_33 : decode cX5_areAlike 33 = .ok (.if_icmp .ge 55, 3) := by decide +kernel
theorem dX5_areAlike_36 : decode cX5_areAlike 36 = .ok (.iload_n 1, 1) := by decide +kernel
theorem dX5_areAlike_37 : decode cX5_areAlike 37 = .ok (.iload_n 2, 1) := by decide +kernel
theorem dX5_areAlike_38 : decode cX5_areAlike 38 = .ok (.iload 5, 2) := by decide +kernel
theorem dX5_areAlike_40 : decode cX5_areAlike 40 = .ok (.invokestatic 50, 3) := by decide +kernel
theorem dX5_areAlike_43 : decode cX5_areAlike 43 = .ok (.istore 6, 2) := by decide +kernel
theorem dX5_areAlike_45 : decode cX5_areAlike 45 = .ok (.iload 4, 2) := by decide +kernel
theorem dX5_areAlike_47 : decode cX5_areAlike 47 = .ok (.ifCond .eq 32, 3) := by decide +kernel
theorem dX5_areAlike_50 : decode cX5_areAlike 50 = .ok (.aload_n 0, 1) := by decide +kernel
theorem dX5_areAlike_51 : decode cX5_areAlike 51 = .ok (.iload_n 1, 1) := by decide +kernel
theorem dX5_areAlike_52 : decode cX5_areAlike 52 = .ok (.iload_n 3, 1) := by decide +kernel
theorem dX5_areAlike_53 : decode cX5_areAlike 53 = .ok (.aload_n 0, 1) := by decide +kernel
theorem dX5_areAlike_54 : decode cX5_areAlike 54 = .ok (.getfield 7, 3) := by decide +kernel
theorem dX5_areAlike_57 : decode cX5_areAlike 57 = .ok (.iload 6, 2) := by decide +kernel
theorem dX5_areAlike_59 : decode cX5_areAlike 59 = .ok (.iaload, 1) := by decide +kernel
theorem dX5_areAlike_60 : decode cX5_areAlike 60 = .ok (.aload_n 0, 1) := by decide +kernel
theorem dX5_areAlike_61 : decode cX5_areAlike 61 = .ok (.getfield 7, 3) := by decide +kernel
theorem dX5_areAlike_64 : decode cX5_areAlike 64 = .ok (.iload 6, 2) := by decide +kernel
theorem dX5_areAlike_66 : decode cX5_areAlike 66 = .ok (.iconst 1, 1) := by decide +kernel
theorem dX5_areAlike_67 : decode cX5_areAlike 67 = .ok (.iadd, 1) := by decide +kernel
theorem dX5_areAlike_68 : decode cX5_areAlike 68 = .ok (.iaload, 1) := by decide +kernel
theorem dX5_areAlike_69 : decode cX5_areAlike 69 = .ok (.invokevirtual 121, 3) := by decide +kernel
theorem dX5_areAlike_72 : decode cX5_areAlike 72 = .ok (.ifCond .eq 7, 3) := by decide +kernel
theorem dX5_areAlike_75 : decode cX5_areAlike 75 = .ok (.iconst 1, 1) := by decide +kernel
theorem dX5_areAlike_76 : decode cX5_areAlike 76 = .ok (.goto 4, 3) := by decide +kernel
theorem dX5_areAlike_79 : decode cX5_areAlike 79 = .ok (.iconst 0, 1) := by decide +kernel
theorem dX5_areAlike_80 : decode cX5_areAlike 80 = .ok (.istore 4, 2) := by decide +kernel
theorem dX5_areAlike_82 : decode cX5_areAlike 82 = .ok (.iinc 5 1, 3) := by decide +kernel
theorem dX5_areAlike_85 : decode cX5_areAlike 85 = .ok (.goto (-60), 3) := by decide +kernel
theorem dX5_areAlike_88 : decode cX5_areAlike 88 = .ok (.iload 4, 2) := by decide +kernel
theorem dX5_areAlike_90 : decode cX5_areAlike 90 = .ok (.ireturn, 1) := by decide +kernel
theorem dX5_areVectorsAlike_0 : decode cX5_areVectorsAlike 0 = .ok (.iconst 1, 1) := by decide +kernel
theorem dX5_areVectorsAlike_1 : decode cX5_areVectorsAlike 1 = .ok (.istore_n 2, 1) := by decide +kernel
theorem dX5_areVectorsAlike_2 : decode cX5_areVectorsAlike 2 = .ok (.iconst 0, 1) := by decide +kernel
theorem dX5_areVectorsAlike_3 : decode cX5_areVectorsAlike 3 = .ok (.istore_n 3, 1) := by decide +kernel
theorem dX5_areVectorsAlike_4 : decode cX5_areVectorsAlike 4 = .ok (.iload_n 3, 1) := by decide +kernel
theorem dX5_areVectorsAlike_5 : decode cX5_areVectorsAlike 5 = .ok (.iconst 5, 1) := by decide +kernel
theorem dX5_areVectorsAlike_6 : decode cX5_areVectorsAlike 6 = .ok (.if_icmp .ge 67, 3) := by decide +kernel
theorem dX5_areVectorsAlike_9 : decode cX5_areVectorsAlike 9 = .ok (.aload_n 0, 1) := by decide +kernel
theorem dX5_areVectorsAlike_10 : decode cX5_areVectorsAlike 10 = .ok (.getfield 7, 3) := by decide +kernel
theorem dX5_areVectorsAlike_13 : decode cX5_areVectorsAlike 13 = .ok (.iload_n 1, 1) := by decide +kernel
theorem dX5_areVectorsAlike_14 : decode cX5_areVectorsAlike 14 = .ok (.iconst 0, 1) := by decide +kernel
theorem dX5_areVectorsAlike_15 : decode cX5_areVectorsAlike 15 = .ok (.invokestatic 75, 3) := by decide +kernel
theorem dX5_areVectorsAlike_18 : decode cX5_areVectorsAlike 18 = .ok (.iload_n 3, 1) := by decide +kernel
theorem dX5_areVectorsAlike_19 : decode cX5_areVectorsAlike 19 = .ok (.iadd, 1) := by decide +kernel
theorem dX5_areVectorsAlike_20 : decode cX5_areVectorsAlike 20 = .ok (.iaload, 1) := by decide +kernel
theorem dX5_areVectorsAlike_21 : decode cX5_areVectorsAlike 21 = .ok (.istore 4, 2) := by decide +kernel
theorem dX5_areVectorsAlike_23 : decode cX5_areVectorsAlike 23 = .ok (.iload_n 2, 1) := by decide +kernel
theorem dX5_areVectorsAlike_24 : decode cX5_areVectorsAlike 24 = .ok (.ifCond .eq 41, 3) := by decide +kernel
theorem dX5_areVectorsAlike_27 : decode cX5_areVectorsAlike 27 = .ok (.aload_n 0, 1) := by decide +kernel
theorem dX5_areVectorsAlike_28 : decode cX5_areVectorsAlike 28 = .ok (.getfield 7, 3) := by decide +kernel
theorem dX5_areVectorsAlike_31 : decode cX5_areVectorsAlike 31 = .ok (.iload_n 1, 1) := by decide +kernel
theorem dX5_areVectorsAlike_32 : decode cX5_areVectorsAlike 32 = .ok (.iconst 1, 1) := by decide +kernel
theorem dX5_areVectorsAlike_33 : decode cX5_areVectorsAlike 33 = .ok (.invokestatic 75, 3) := by decide +kernel
theorem dX5_areVectorsAlike_36 : decode cX5_areVectorsAlike 36 = .ok (.iload_n 3, 1) := by decide +kernel
theorem dX5_areVectorsAlike_37 : decode cX5_areVectorsAlike 37 = .ok (.iadd, 1) := by decide +kernel
theorem dX5_areVectorsAlike_38 : decode cX5_areVectorsAlike 38 = .ok (.iaload, 1) := by decide +kernel
theorem dX5_areVectorsAlike_39 : decode cX5_areVectorsAlike 39 = .ok (.iload 4, 2) := by decide +kernel
theorem dX5_areVectorsAlike_41 : decode cX5_areVectorsAlike 41 = .ok (.if_icmp .ne 24, 3) := by decide +kernel
theorem dX5_areVectorsAlike_44 : decode cX5_areVectorsAlike 44 = .ok (.aload_n 0, 1) := by decide +kernel
theorem dX5_areVectorsAlike_45 : decode cX5_areVectorsAlike 45 = .ok (.getfield 7, 3) := by decide +kernel
theorem dX5_areVectorsAlike_48 : decode cX5_areVectorsAlike 48 = .ok (.iload_n 1, 1) := by decide +kernel
theorem dX5_areVectorsAlike_49 : decode cX5_areVectorsAlike 49 = .ok (.iconst 2, 1) := by decide +kernel
theorem dX5_areVectorsAlike_50 : decode cX5_areVectorsAlike 50 = .ok (.invokestatic 75, 3) := by decide +kernel
theorem dX5_areVectorsAlike_53 : decode cX5_areVectorsAlike 53 = .ok (.iload_n 3, 1) := by decide +kernel
theorem dX5_areVectorsAlike_54 : decode cX5_areVectorsAlike 54 = .ok (.iadd, 1) := by decide +kernel
theorem dX5_areVectorsAlike_55 : decode cX5_areVectorsAlike 55 = .ok (.iaload, 1) := by decide +kernel
theorem dX5_areVectorsAlike_56 : decode cX5_areVectorsAlike 56 = .ok (.iload 4, 2) := by decide +kernel
theorem dX5_areVectorsAlike_58 : decode cX5_areVectorsAlike 58 = .ok (.if_icmp .ne 7, 3) := by decide +kernel
theorem dX5_areVectorsAlike_61 : decode cX5_areVectorsAlike 61 = .ok (.iconst 1, 1) := by decide +kernel
theorem dX5_areVectorsAlike_62 : decode cX5_areVectorsAlike 62 = .ok (.goto 4, 3) := by decide +kernel
theorem dX5_areVectorsAlike_65 : decode cX5_areVectorsAlike 65 = .ok (.iconst 0, 1) := by decide +kernel
theorem dX5_areVectorsAlike_66 : decode cX5_areVectorsAlike 66 = .ok (.istore_n 2, 1) := by decide +kernel
theorem dX5_areVectorsAlike_67 : decode cX5_areVectorsAlike 67 = .ok (.iinc 3 1, 3) := by decide +kernel
theorem dX5_areVectorsAlike_70 : decode cX5_areVectorsAlike 70 = .ok (.goto (-66), 3) := by decide +kernel
theorem dX5_areVectorsAlike_73 : decode cX5_areVectorsAlike 73 = .ok (.iload_n 2, 1) := by decide +kernel
theorem dX5_areVectorsAlike_74 : decode cX5_areVectorsAlike 74 = .ok (.ireturn, 1) := by decide +kernel
theorem dX5_unlike_0 : decode cX5_unlike 0 = .ok (.iconst 0, 1) := by decide +kernel
theorem dX5_unlike_1 : decode cX5_unlike 1 = .ok (.istore_n 2, 1) := by decide +kernel
theorem dX5_unlike_2 : decode cX5_unlike 2 = .ok (.iconst 0, 1) := by decide +kernel
theorem dX5_unlike_3 : decode cX5_unlike 3 = .ok (.istore_n 3, 1) := by decide +kernel
theorem dX5_unlike_4 : decode cX5_unlike 4 = .ok (.iload_n 3, 1) := by decide +kernel
theorem dX5_unlike_5 : decode cX5_unlike 5 = .ok (.iconst 3, 1) := by decide +kernel
theorem dX5_unlike_6 : decode cX5_unlike 6 = .ok (.if_icmp .ge 62, 3) := by decide +kernel
theorem dX5_unlike_9 : decode cX5_unlike 9 = .ok (.iconst 0, 1) := by decide +kernel
theorem dX5_unlike_10 : decode cX5_unlike 10 = .ok (.istore 4, 2) := by decide +kernel
theorem dX5_unlike_12 : decode cX5_unlike 12 = .ok (.iload 4, 2) := by decide +kernel
theorem dX5_unlike_14 : decode cX5_unlike 14 = .ok (.aload_n 0, 1) := by decide +kernel
theorem dX5_unlike_15 : decode cX5_unlike 15 = .ok (.iload_n 1, 1) := by decide +kernel
theorem dX5_unlike_16 : decode cX5_unlike 16 = .ok (.iload_n 3, 1) := by decide +kernel
theorem dX5_unlike_17 : decode cX5_unlike 17 = .ok (.invokevirtual 47, 3) := by decide +kernel
theorem dX5_unlike_20 : decode cX5_unlike 20 = .ok (.if_icmp .ge 42, 3) := by decide +kernel
theorem dX5_unlike_23 : decode cX5_unlike 23 = .ok (.aload_n 0, 1) := by decide +kernel
theorem dX5_unlike_24 : decode cX5_unlike 24 = .ok (.iload_n 1, 1) := by decide +kernel
theorem dX5_unlike_25 : decode cX5_unlike 25 = .ok (.iload_n 1, 1) := by decide +kernel
theorem dX5_unlike_26 : decode cX5_unlike 26 = .ok (.iload_n 3, 1) := by decide +kernel
theorem dX5_unlike_27 : decode cX5_unlike 27 = .ok (.iload 4, 2) := by decide +kernel
theorem dX5_unlike_29 : decode cX5_unlike 29 = .ok (.invokestatic 50, 3) := by decide +kernel
theorem dX5_unlike_32 : decode cX5_unlike 32 = .ok (.invokevirtual 176, 3) := by decide +kernel
theorem dX5_unlike_35 : decode cX5_unlike 35 = .ok (.istore 5, 2) := by decide +kernel
theorem dX5_unlike_37 : decode cX5_unlike 37 = .ok (.iload_n 2, 1) := by decide +kernel
theorem dX5_unlike_38 : decode cX5_unlike 38 = .ok (.iload 5, 2) := by decide +kernel
theorem dX5_unlike_40 : decode cX5_unlike 40 = .ok (.iconst 1, 1) := by decide +kernel
theorem dX5_unlike_41 : decode cX5_unlike 41 = .ok (.iload_n 3, 1) := by decide +kernel
theorem dX5_unlike_42 : decode cX5_unlike 42 = .ok (.ishl, 1) := by decide +kernel
theorem dX5_unlike_43 : decode cX5_unlike 43 = .ok (.iconst 1, 1) := by decide +kernel
theorem dX5_unlike_44 : decode cX5_unlike 44 = .ok (.isub, 1) := by decide +kernel
theorem dX5_unlike_45 : decode cX5_unlike 45 = .ok (.iand, 1) := by decide +kernel
theorem dX5_unlike_46 : decode cX5_unlike 46 = .ok (.ifCond .ne 7, 3) := by decide +kernel
theorem dX5_unlike_49 : decode cX5_unlike 49 = .ok (.iconst 1, 1) := by decide +kernel
theorem dX5_unlike_50 : decode cX5_unlike 50 = .ok (.goto 4, 3) := by decide +kernel
theorem dX5_unlike_53 : decode cX5_unlike 53 = .ok (.iconst 0, 1) := by decide +kernel
theorem dX5_unlike_54 : decode cX5_unlike 54 = .ok (.iadd, 1) := by decide +kernel
theorem dX5_unlike_55 : decode cX5_unlike 55 = .ok (.istore_n 2, 1) := by decide +kernel
theorem dX5_unlike_56 : decode cX5_unlike 56 = .ok (.iinc 4 1, 3) := by decide +kernel
theorem dX5_unlike_59 : decode cX5_unlike 59 = .ok (.goto (-47), 3) := by decide +kernel
theorem dX5_unlike_62 : decode cX5_unlike 62 = .ok (.iinc 3 1, 3) := by decide +kernel
theorem dX5_unlike_65 : decode cX5_unlike 65 = .ok (.goto (-61), 3) := by decide +kernel
theorem dX5_unlike_68 : decode cX5_unlike 68 = .ok (.iload_n 2, 1) := by decide +kernel
theorem dX5_unlike_69 : decode cX5_unlike 69 = .ok (.ireturn, 1) := by decide +kernel
theorem dX5_forgettable_0 : decode cX5_forgettable 0 = .ok (.iconst 0, 1) := by decide +kernel
theorem dX5_forgettable_1 : decode cX5_forgettable 1 = .ok (.istore_n 2, 1) := by decide +kernel
theorem dX5_forgettable_2 : decode cX5_forgettable 2 = .ok (.iconst 0, 1) := by decide +kernel
theorem dX5_forgettable_3 : decode cX5_forgettable 3 = .ok (.istore_n 3, 1) := by decide +kernel
theorem dX5_forgettable_4 : decode cX5_forgettable 4 = .ok (.iload_n 3, 1) := by decide +kernel
theorem dX5_forgettable_5 : decode cX5_forgettable 5 = .ok (.iconst 5, 1) := by decide +kernel
theorem dX5_forgettable_6 : decode cX5_forgettable 6 = .ok (.if_icmp .ge 43, 3) := by decide +kernel
theorem dX5_forgettable_9 : decode cX5_forgettable 9 = .ok (.iload_n 2, 1) := by decide +kernel
theorem dX5_forgettable_10 : decode cX5_forgettable 10 = .ok (.aload_n 0, 1) := by decide +kernel
theorem dX5_forgettable_11 : decode cX5_forgettable 11 = .ok (.iload_n 3, 1) := by decide +kernel
theorem dX5_forgettable_12 : decode cX5_forgettable 12 = .ok (.iload_n 1, 1) := by decide +kernel
theorem dX5_forgettable_13 : decode cX5_forgettable 13 = .ok (.invokevirtual 109, 3) := by decide +kernel
theorem dX5_forgettable_16 : decode cX5_forgettable 16 = .ok (.ifCond .ne 24, 3) := by decide +kernel
theorem dX5_forgettable_19 : decode cX5_forgettable 19 = .ok (.aload_n 0, 1) := by decide +kernel
theorem dX5_forgettable_20 : decode cX5_forgettable 20 = .ok (.getfield 7, 3) := by decide +kernel
theorem dX5_forgettable_23 : decode cX5_forgettable 23 = .ok (.iload_n 1, 1) := by decide +kernel
theorem dX5_forgettable_24 : decode cX5_forgettable 24 = .ok (.iconst 0, 1) := by decide +kernel
theorem dX5_forgettable_25 : decode cX5_forgettable 25 = .ok (.invokestatic 75, 3) := by decide +kernel
theorem dX5_forgettable_28 : decode cX5_forgettable 28 = .ok (.iload_n 3, 1) := by decide +kernel
theorem dX5_forgettable_29 : decode cX5_forgettable 29 = .ok (.iadd, 1) := by decide +kernel
theorem dX5_forgettable_30 : decode cX5_forgettable 30 = .ok (.iaload, 1) := by decide +kernel
theorem dX5_forgettable_31 : decode cX5_forgettable 31 = .ok (.ifCond .le 9, 3) := by decide +kernel
theorem dX5_forgettable_34 : decode cX5_forgettable 34 = .ok (.iconst 1, 1) := by decide +kernel
theorem dX5_forgettable_35 : decode cX5_forgettable 35 = .ok (.iload_n 3, 1) := by decide +kernel
theorem dX5_forgettable_36 : decode cX5_forgettable 36 = .ok (.ishl, 1) := by decide +kernel
theorem dX5_forgettable_37 : decode cX5_forgettable 37 = .ok (.goto 4, 3) := by decide +kernel
theorem dX5_forgettable_40 : decode cX5_forgettable 40 = .ok (.iconst 0, 1) := by decide +kernel
theorem dX5_forgettable_41 : decode cX5_forgettable 41 = .ok (.ior, 1) := by decide +kernel
theorem dX5_forgettable_42 : decode cX5_forgettable 42 = .ok (.istore_n 2, 1) := by decide +kernel
theorem dX5_forgettable_43 : decode cX5_forgettable 43 = .ok (.iinc 3 1, 3) := by decide +kernel
theorem dX5_forgettable_46 : decode cX5_forgettable 46 = .ok (.goto (-42), 3) := by decide +kernel
theorem dX5_forgettable_49 : decode cX5_forgettable 49 = .ok (.iload_n 2, 1) := by decide +kernel
theorem dX5_forgettable_50 : decode cX5_forgettable 50 = .ok (.ireturn, 1) := by decide +kernel
theorem dX5_counts_0 : decode cX5_counts 0 = .ok (.iconst 0, 1) := by decide +kernel
theorem dX5_counts_1 : decode cX5_counts 1 = .ok (.istore_n 2, 1) := by decide +kernel
theorem dX5_counts_2 : decode cX5_counts 2 = .ok (.iconst 0, 1) := by decide +kernel
theorem dX5_counts_3 : decode cX5_counts 3 = .ok (.istore_n 3, 1) := by decide +kernel
theorem dX5_counts_4 : decode cX5_counts 4 = .ok (.iload_n 3, 1) := by decide +kernel
theorem dX5_counts_5 : decode cX5_counts 5 = .ok (.iconst 5, 1) := by decide +kernel
theorem dX5_counts_6 : decode cX5_counts 6 = .ok (.if_icmp .ge 22, 3) := by decide +kernel
theorem dX5_counts_9 : decode cX5_counts 9 = .ok (.iload_n 2, 1) := by decide +kernel
theorem dX5_counts_10 : decode cX5_counts 10 = .ok (.aload_n 0, 1) := by decide +kernel
theorem dX5_counts_11 : decode cX5_counts 11 = .ok (.getfield 7, 3) := by decide +kernel
theorem dX5_counts_14 : decode cX5_counts 14 = .ok (.iload_n 1, 1) := by decide +kernel
theorem dX5_counts_15 : decode cX5_counts 15 = .ok (.iload_n 3, 1) := by decide +kernel
theorem dX5_counts_16 : decode cX5_counts 16 = .ok (.invokestatic 64, 3) := by decide +kernel
theorem dX5_counts_19 : decode cX5_counts 19 = .ok (.iaload, 1) := by decide +kernel
theorem dX5_counts_20 : decode cX5_counts 20 = .ok (.iadd, 1) := by decide +kernel
theorem dX5_counts_21 : decode cX5_counts 21 = .ok (.istore_n 2, 1) := by decide +kernel
theorem dX5_counts_22 : decode cX5_counts 22 = .ok (.iinc 3 1, 3) := by decide +kernel
theorem dX5_counts_25 : decode cX5_counts 25 = .ok (.goto (-21), 3) := by decide +kernel
theorem dX5_counts_28 : decode cX5_counts 28 = .ok (.iload_n 2, 1) := by decide +kernel
theorem dX5_counts_29 : decode cX5_counts 29 = .ok (.ireturn, 1) := by decide +kernel
theorem dX5_ofKey_0 : decode cX5_ofKey 0 = .ok (.iload_n 2, 1) := by decide +kernel
theorem dX5_ofKey_1 : decode cX5_ofKey 1 = .ok (.tableswitch 102 0 6 #[43, 43, 43, 50, 56, 62, 88], 43) := by decide +kernel
theorem dX5_ofKey_44 : decode cX5_ofKey 44 = .ok (.aload_n 0, 1) := by decide +kernel
theorem dX5_ofKey_45 : decode cX5_ofKey 45 = .ok (.iload_n 1, 1) := by decide +kernel
theorem dX5_ofKey_46 : decode cX5_ofKey 46 = .ok (.iload_n 2, 1) := by decide +kernel
theorem dX5_ofKey_47 : decode cX5_ofKey 47 = .ok (.invokevirtual 47, 3) := by decide +kernel
theorem dX5_ofKey_50 : decode cX5_ofKey 50 = .ok (.ireturn, 1) := by decide +kernel
theorem dX5_ofKey_51 : decode cX5_ofKey 51 = .ok (.aload_n 0, 1) := by decide +kernel
theorem dX5_ofKey_52 : decode cX5_ofKey 52 = .ok (.iload_n 1, 1) := by decide +kernel
theorem dX5_ofKey_53 : decode cX5_ofKey 53 = .ok (.invokevirtual 182, 3) := by decide +kernel
theorem dX5_ofKey_56 : decode cX5_ofKey 56 = .ok (.ireturn, 1) := by decide +kernel
theorem dX5_ofKey_57 : decode cX5_ofKey 57 = .ok (.aload_n 0, 1) := by decide +kernel
theorem dX5_ofKey_58 : decode cX5_ofKey 58 = .ok (.iload_n 1, 1) := by decide +kernel
theorem dX5_ofKey_59 : decode cX5_ofKey 59 = .ok (.invokevirtual 185, 3) := by decide +kernel
theorem dX5_ofKey_62 : decode cX5_ofKey 62 = .ok (.ireturn, 1) := by decide +kernel
theorem dX5_ofKey_63 : decode cX5_ofKey 63 = .ok (.aload_n 0, 1) := by decide +kernel
theorem dX5_ofKey_64 : decode cX5_ofKey 64 = .ok (.iload_n 1, 1) := by decide +kernel
theorem dX5_ofKey_65 : decode cX5_ofKey 65 = .ok (.iconst 0, 1) := by decide +kernel
theorem dX5_ofKey_66 : decode cX5_ofKey 66 = .ok (.iconst 1, 1) := by decide +kernel
theorem dX5_ofKey_67 : decode cX5_ofKey 67 = .ok (.invokevirtual 188, 3) := by decide +kernel
theorem dX5_ofKey_70 : decode cX5_ofKey 70 = .ok (.ifCond .eq 17, 3) := by decide +kernel
theorem dX5_ofKey_73 : decode cX5_ofKey 73 = .ok (.aload_n 0, 1) := by decide +kernel
theorem dX5_ofKey_74 : decode cX5_ofKey 74 = .ok (.iload_n 1, 1) := by decide +kernel
theorem dX5_ofKey_75 : decode cX5_ofKey 75 = .ok (.iconst 0, 1) := by decide +kernel
theorem dX5_ofKey_76 : decode cX5_ofKey 76 = .ok (.iconst 2, 1) := by decide +kernel
theorem dX5_ofKey_77 : decode cX5_ofKey 77 = .ok (.invokevirtual 188, 3) := by decide +kernel
theorem dX5_ofKey_80 : decode cX5_ofKey 80 = .ok (.ifCond .eq 7, 3) := by decide +kernel
theorem dX5_ofKey_83 : decode cX5_ofKey 83 = .ok (.iconst 1, 1) := by decide +kernel
theorem dX5_ofKey_84 : decode cX5_ofKey 84 = .ok (.goto 4, 3) := by decide +kernel
theorem dX5_ofKey_87 : decode cX5_ofKey 87 = .ok (.iconst 0, 1) := by decide +kernel
theorem dX5_ofKey_88 : decode cX5_ofKey 88 = .ok (.ireturn, 1) := by decide +kernel
theorem dX5_ofKey_89 : decode cX5_ofKey 89 = .ok (.aload_n 0, 1) := by decide +kernel
theorem dX5_ofKey_90 : decode cX5_ofKey 90 = .ok (.iload_n 1, 1) := by decide +kernel
theorem dX5_ofKey_91 : decode cX5_ofKey 91 = .ok (.invokevirtual 191, 3) := by decide +kernel
theorem dX5_ofKey_94 : decode cX5_ofKey 94 = .ok (.ifCond .eq 7, 3) := by decide +kernel
theorem dX5_ofKey_97 : decode cX5_ofKey 97 = .ok (.iconst 1, 1) := by decide +kernel
theorem dX5_ofKey_98 : decode cX5_ofKey 98 = .ok (.goto 4, 3) := by decide +kernel
theorem dX5_ofKey_101 : decode cX5_ofKey 101 = .ok (.iconst 0, 1) := by decide +kernel
theorem dX5_ofKey_102 : decode cX5_ofKey 102 = .ok (.ireturn, 1) := by decide +kernel
theorem dX5_ofKey_103 : decode cX5_ofKey 103 = .ok (.aload_n 0, 1) := by decide +kernel
theorem dX5_ofKey_104 : decode cX5_ofKey 104 = .ok (.iload_n 1, 1) := by decide +kernel
theorem dX5_ofKey_105 : decode cX5_ofKey 105 = .ok (.invokevirtual 194, 3) := by decide +kernel
theorem dX5_ofKey_108 : decode cX5_ofKey 108 = .ok (.ireturn, 1) := by decide +kernel
theorem dX5_key_0 : decode cX5_key 0 = .ok (.aload_n 0, 1) := by decide +kernel
theorem dX5_key_1 : decode cX5_key 1 = .ok (.iconst 0, 1) := by decide +kernel
theorem dX5_key_2 : decode cX5_key 2 = .ok (.putfield 32, 3) := by decide +kernel
theorem dX5_key_5 : decode cX5_key 5 = .ok (.iload_n 1, 1) := by decide +kernel
theorem dX5_key_6 : decode cX5_key 6 = .ok (.invokestatic 86, 3) := by decide +kernel
theorem dX5_key_9 : decode cX5_key 9 = .ok (.ifCond .ne 9, 3) := by decide +kernel
theorem dX5_key_12 : decode cX5_key 12 = .ok (.aload_n 0, 1) := by decide +kernel
theorem dX5_key_13 : decode cX5_key 13 = .ok (.iconst 1, 1) := by decide +kernel
theorem dX5_key_14 : decode cX5_key 14 = .ok (.invokevirtual 39, 3) := by decide +kernel
theorem dX5_key_17 : decode cX5_key 17 = .ok (.ireturn, 1) := by decide +kernel
theorem dX5_key_18 : decode cX5_key 18 = .ok (.iload_n 2, 1) := by decide +kernel
theorem dX5_key_19 : decode cX5_key 19 = .ok (.iconst 0, 1) := by decide +kernel
theorem dX5_key_20 : decode cX5_key 20 = .ok (.bipush 7, 2) := by decide +kernel
theorem dX5_key_22 : decode cX5_key 22 = .ok (.invokestatic 35, 3) := by decide +kernel
theorem dX5_key_25 : decode cX5_key 25 = .ok (.ifCond .eq 12, 3) := by decide +kernel
theorem dX5_key_28 : decode cX5_key 28 = .ok (.aload_n 0, 1) := by decide +kernel
theorem dX5_key_29 : decode cX5_key 29 = .ok (.iload_n 1, 1) := by decide +kernel
theorem dX5_key_30 : decode cX5_key 30 = .ok (.iload_n 2, 1) := by decide +kernel
theorem dX5_key_31 : decode cX5_key 31 = .ok (.invokevirtual 197, 3) := by decide +kernel
theorem dX5_key_34 : decode cX5_key 34 = .ok (.goto 8, 3) := by decide +kernel
theorem dX5_key_37 : decode cX5_key 37 = .ok (.aload_n 0, 1) := by decide +kernel
theorem dX5_key_38 : decode cX5_key 38 = .ok (.iconst 2, 1) := by decide +kernel
theorem dX5_key_39 : decode cX5_key 39 = .ok (.invokevirtual 39, 3) := by decide +kernel
theorem dX5_key_42 : decode cX5_key 42 = .ok (.ireturn, 1) := by decide +kernel
theorem dX5_counted_0 : decode cX5_counted 0 = .ok (.iconst 0, 1) := by decide +kernel
theorem dX5_counted_1 : decode cX5_counted 1 = .ok (.istore_n 2, 1) := by decide +kernel
theorem dX5_counted_2 : decode cX5_counted 2 = .ok (.iconst 0, 1) := by decide +kernel
theorem dX5_counted_3 : decode cX5_counted 3 = .ok (.istore_n 3, 1) := by decide +kernel
theorem dX5_counted_4 : decode cX5_counted 4 = .ok (.iconst 0, 1) := by decide +kernel
theorem dX5_counted_5 : decode cX5_counted 5 = .ok (.istore 4, 2) := by decide +kernel
theorem dX5_counted_7 : decode cX5_counted 7 = .ok (.iload 4, 2) := by decide +kernel
theorem dX5_counted_9 : decode cX5_counted 9 = .ok (.bipush 9, 2) := by decide +kernel
theorem dX5_counted_11 : decode cX5_counted 11 = .ok (.if_icmp .ge 41, 3) := by decide +kernel
theorem dX5_counted_14 : decode cX5_counted 14 = .ok (.aload_n 0, 1) := by decide +kernel
theorem dX5_counted_15 : decode cX5_counted 15 = .ok (.iload 4, 2) := by decide +kernel
theorem dX5_counted_17 : decode cX5_counted 17 = .ok (.iconst 3, 1) := by decide +kernel
theorem dX5_counted_18 : decode cX5_counted 18 = .ok (.idiv, 1) := by decide +kernel
theorem dX5_counted_19 : decode cX5_counted 19 = .ok (.iload 4, 2) := by decide +kernel
theorem dX5_counted_21 : decode cX5_counted 21 = .ok (.iconst 3, 1) := by decide +kernel
theorem dX5_counted_22 : decode cX5_counted 22 = .ok (.irem, 1) := by decide +kernel
theorem dX5_counted_23 : decode cX5_counted 23 = .ok (.invokevirtual 47, 3) := by decide +kernel
theorem dX5_counted_26 : decode cX5_counted 26 = .ok (.istore 5, 2) := by decide +kernel
theorem dX5_counted_28 : decode cX5_counted 28 = .ok (.iload_n 2, 1) := by decide +kernel
theorem dX5_counted_29 : decode cX5_counted 29 = .ok (.iload 5, 2) := by decide +kernel
theorem dX5_counted_31 : decode cX5_counted 31 = .ok (.iadd, 1) := by decide +kernel
theorem dX5_counted_32 : decode cX5_counted 32 = .ok (.istore_n 2, 1) := by decide +kernel
theorem dX5_counted_33 : decode cX5_counted 33 = .ok (.iload 5, 2) := by decide +kernel
theorem dX5_counted_35 : decode cX5_counted 35 = .ok (.iload_n 3, 1) := by decide +kernel
theorem dX5_counted_36 : decode cX5_counted 36 = .ok (.if_icmp .le 8, 3) := by decide +kernel
theorem dX5_counted_39 : decode cX5_counted 39 = .ok (.iload 5, 2) := by decide +kernel
theorem dX5_counted_41 : decode cX5_counted 41 = .ok (.goto 4, 3) := by decide +kernel
theorem dX5_counted_44 : decode cX5_counted 44 = .ok (.iload_n 3, 1) := by decide +kernel
theorem dX5_counted_45 : decode cX5_counted 45 = .ok (.istore_n 3, 1) := by decide +kernel
theorem dX5_counted_46 : decode cX5_counted 46 = .ok (.iinc 4 1, 3) := by decide +kernel
theorem dX5_counted_49 : decode cX5_counted 49 = .ok (.goto (-42), 3) := by decide +kernel
theorem dX5_counted_52 : decode cX5_counted 52 = .ok (.iload_n 1, 1) := by decide +kernel
theorem dX5_counted_53 : decode cX5_counted 53 = .ok (.ifCond .ne 7, 3) := by decide +kernel
theorem dX5_counted_56 : decode cX5_counted 56 = .ok (.iload_n 2, 1) := by decide +kernel
theorem dX5_counted_57 : decode cX5_counted 57 = .ok (.goto 37, 3) := by decide +kernel
theorem dX5_counted_60 : decode cX5_counted 60 = .ok (.iload_n 1, 1) := by decide +kernel
theorem dX5_counted_61 : decode cX5_counted 61 = .ok (.iconst 1, 1) := by decide +kernel
theorem dX5_counted_62 : decode cX5_counted 62 = .ok (.if_icmp .ne 7, 3) := by decide +kernel
theorem dX5_counted_65 : decode cX5_counted 65 = .ok (.iload_n 3, 1) := by decide +kernel
theorem dX5_counted_66 : decode cX5_counted 66 = .ok (.goto 28, 3) := by decide +kernel
theorem dX5_counted_69 : decode cX5_counted 69 = .ok (.iload_n 1, 1) := by decide +kernel
theorem dX5_counted_70 : decode cX5_counted 70 = .ok (.bipush 7, 2) := by decide +kernel
theorem dX5_counted_72 : decode cX5_counted 72 = .ok (.if_icmp .ne 10, 3) := by decide +kernel
theorem dX5_counted_75 : decode cX5_counted 75 = .ok (.aload_n 0, 1) := by decide +kernel
theorem dX5_counted_76 : decode cX5_counted 76 = .ok (.getfield 28, 3) := by decide +kernel
theorem dX5_counted_79 : decode cX5_counted 79 = .ok (.goto 15, 3) := by decide +kernel
theorem dX5_counted_82 : decode cX5_counted 82 = .ok (.aload_n 0, 1) := by decide +kernel
theorem dX5_counted_83 : decode cX5_counted 83 = .ok (.getfield 7, 3) := by decide +kernel
theorem dX5_counted_86 : decode cX5_counted 86 = .ok (.sipush 306, 3) := by decide +kernel
theorem dX5_counted_89 : decode cX5_counted 89 = .ok (.iload_n 1, 1) := by decide +kernel
theorem dX5_counted_90 : decode cX5_counted 90 = .ok (.iadd, 1) := by decide +kernel
theorem dX5_counted_91 : decode cX5_counted 91 = .ok (.iconst 2, 1) := by decide +kernel
theorem dX5_counted_92 : decode cX5_counted 92 = .ok (.isub, 1) := by decide +kernel
theorem dX5_counted_93 : decode cX5_counted 93 = .ok (.iaload, 1) := by decide +kernel
theorem dX5_counted_94 : decode cX5_counted 94 = .ok (.ireturn, 1) := by decide +kernel
theorem dX5_count_0 : decode cX5_count 0 = .ok (.aload_n 0, 1) := by decide +kernel
theorem dX5_count_1 : decode cX5_count 1 = .ok (.iconst 0, 1) := by decide +kernel
theorem dX5_count_2 : decode cX5_count 2 = .ok (.putfield 32, 3) := by decide +kernel
theorem dX5_count_5 : decode cX5_count 5 = .ok (.iload_n 1, 1) := by decide +kernel
theorem dX5_count_6 : decode cX5_count 6 = .ok (.iconst 0, 1) := by decide +kernel
theorem dX5_count_7 : decode cX5_count 7 = .ok (.bipush 7, 2) := by decide +kernel
theorem dX5_count_9 : decode cX5_count 9 = .ok (.invokestatic 35, 3) := by decide +kernel
theorem dX5_count_12 : decode cX5_count 12 = .ok (.ifCond .eq 11, 3) := by decide +kernel
theorem dX5_count_15 : decode cX5_count 15 = .ok (.aload_n 0, 1) := by decide +kernel
theorem dX5_count_16 : decode cX5_count 16 = .ok (.iload_n 1, 1) := by decide +kernel
theorem dX5_count_17 : decode cX5_count 17 = .ok (.invokevirtual 200, 3) := by decide +kernel
theorem dX5_count_20 : decode cX5_count 20 = .ok (.goto 8, 3) := by decide +kernel
theorem dX5_count_23 : decode cX5_count 23 = .ok (.aload_n 0, 1) := by decide +kernel
theorem dX5_count_24 : decode cX5_count 24 = .ok (.iconst 1, 1) := by decide +kernel
theorem dX5_count_25 : decode cX5_count 25 = .ok (.invokevirtual 39, 3) := by decide +kernel
theorem dX5_count_28 : decode cX5_count 28 = .ok (.ireturn, 1) := by decide +kernel
theorem dX5_written_0 : decode cX5_written 0 = .ok (.aload_n 0, 1) := by decide +kernel
theorem dX5_written_1 : decode cX5_written 1 = .ok (.iload_n 1, 1) := by decide +kernel
theorem dX5_written_2 : decode cX5_written 2 = .ok (.iload_n 2, 1) := by decide +kernel
theorem dX5_written_3 : decode cX5_written 3 = .ok (.iload_n 3, 1) := by decide +kernel
theorem dX5_written_4 : decode cX5_written 4 = .ok (.invokevirtual 61, 3) := by decide +kernel
theorem dX5_written_7 : decode cX5_written 7 = .ok (.istore 5, 2) := by decide +kernel
theorem dX5_written_9 : decode cX5_written 9 = .ok (.iload 4, 2) := by decide +kernel
theorem dX5_written_11 : decode cX5_written 11 = .ok (.ifCond .ne 8, 3) := by decide +kernel
theorem dX5_written_14 : decode cX5_written 14 = .ok (.iload 5, 2) := by decide +kernel
theorem dX5_written_16 : decode cX5_written 16 = .ok (.goto 14, 3) := by decide +kernel
theorem dX5_written_19 : decode cX5_written 19 = .ok (.aload_n 0, 1) := by decide +kernel
theorem dX5_written_20 : decode cX5_written 20 = .ok (.iload_n 2, 1) := by decide +kernel
theorem dX5_written_21 : decode cX5_written 21 = .ok (.iload_n 3, 1) := by decide +kernel
theorem dX5_written_22 : decode cX5_written 22 = .ok (.invokevirtual 47, 3) := by decide +kernel
theorem dX5_written_25 : decode cX5_written 25 = .ok (.iload 5, 2) := by decide +kernel
theorem dX5_written_27 : decode cX5_written 27 = .ok (.isub, 1) := by decide +kernel
theorem dX5_written_28 : decode cX5_written 28 = .ok (.iconst 1, 1) := by decide +kernel
theorem dX5_written_29 : decode cX5_written 29 = .ok (.iadd, 1) := by decide +kernel
theorem dX5_written_30 : decode cX5_written 30 = .ok (.ireturn, 1) := by decide +kernel
theorem dX5_ifWritten_0 : decode cX5_ifWritten 0 = .ok (.aload_n 0, 1) := by decide +kernel
theorem dX5_ifWritten_1 : decode cX5_ifWritten 1 = .ok (.iconst 0, 1) := by decide +kernel
theorem dX5_ifWritten_2 : decode cX5_ifWritten 2 = .ok (.putfield 32, 3) := by decide +kernel
theorem dX5_ifWritten_5 : decode cX5_ifWritten 5 = .ok (.iload_n 1, 1) := by decide +kernel
theorem dX5_ifWritten_6 : decode cX5_ifWritten 6 = .ok (.iload_n 2, 1) := by decide +kernel
theorem dX5_ifWritten_7 : decode cX5_ifWritten 7 = .ok (.iload_n 3, 1) := by decide +kernel
theorem dX5_ifWritten_8 : decode cX5_ifWritten 8 = .ok (.invokestatic 92, 3) := by decide +kernel
theorem dX5_ifWritten_11 : decode cX5_ifWritten 11 = .ok (.ifCond .ne 9, 3) := by decide +kernel
theorem dX5_ifWritten_14 : decode cX5_ifWritten 14 = .ok (.aload_n 0, 1) := by decide +kernel
theorem dX5_ifWritten_15 : decode cX5_ifWritten 15 = .ok (.iconst 1, 1) := by decide +kernel
theorem dX5_ifWritten_16 : decode cX5_ifWritten 16 = .ok (.invokevirtual 39, 3) := by decide +kernel
theorem dX5_ifWritten_19 : decode cX5_ifWritten 19 = .ok (.ireturn, 1) := by decide +kernel
theorem dX5_ifWritten_20 : decode cX5_ifWritten 20 = .ok (.iload 4, 2) := by decide +kernel
theorem dX5_ifWritten_22 : decode cX5_ifWritten 22 = .ok (.iconst 0, 1) := by decide +kernel
theorem dX5_ifWritten_23 : decode cX5_ifWritten 23 = .ok (.iconst 1, 1) := by decide +kernel
theorem dX5_ifWritten_24 : decode cX5_ifWritten 24 = .ok (.invokestatic 35, 3) := by decide +kernel
theorem dX5_ifWritten_27 : decode cX5_ifWritten 27 = .ok (.ifCond .eq 15, 3) := by decide +kernel
theorem dX5_ifWritten_30 : decode cX5_ifWritten 30 = .ok (.aload_n 0, 1) := by decide +kernel
theorem dX5_ifWritten_31 : decode cX5_ifWritten 31 = .ok (.iload_n 1, 1) := by decide +kernel
theorem dX5_ifWritten_32 : decode cX5_ifWritten 32 = .ok (.iload_n 2, 1) := by decide +kernel
theorem dX5_ifWritten_33 : decode cX5_ifWritten 33 = .ok (.iload_n 3, 1) := by decide +kernel
theorem dX5_ifWritten_34 : decode cX5_ifWritten 34 = .ok (.iload 4, 2) := by decide +kernel
theorem dX5_ifWritten_36 : decode cX5_ifWritten 36 = .ok (.invokevirtual 203, 3) := by decide +kernel
theorem dX5_ifWritten_39 : decode cX5_ifWritten 39 = .ok (.goto 8, 3) := by decide +kernel
theorem dX5_ifWritten_42 : decode cX5_ifWritten 42 = .ok (.aload_n 0, 1) := by decide +kernel
theorem dX5_ifWritten_43 : decode cX5_ifWritten 43 = .ok (.iconst 2, 1) := by decide +kernel
theorem dX5_ifWritten_44 : decode cX5_ifWritten 44 = .ok (.invokevirtual 39, 3) := by decide +kernel
theorem dX5_ifWritten_47 : decode cX5_ifWritten 47 = .ok (.ireturn, 1) := by decide +kernel
theorem dX5_pulled_0 : decode cX5_pulled 0 = .ok (.aload_n 0, 1) := by decide +kernel
theorem dX5_pulled_1 : decode cX5_pulled 1 = .ok (.iload_n 1, 1) := by decide +kernel
theorem dX5_pulled_2 : decode cX5_pulled 2 = .ok (.iload_n 2, 1) := by decide +kernel
theorem dX5_pulled_3 : decode cX5_pulled 3 = .ok (.iload_n 3, 1) := by decide +kernel
theorem dX5_pulled_4 : decode cX5_pulled 4 = .ok (.invokevirtual 129, 3) := by decide +kernel
theorem dX5_pulled_7 : decode cX5_pulled 7 = .ok (.iload 4, 2) := by decide +kernel
theorem dX5_pulled_9 : decode cX5_pulled 9 = .ok (.ifCond .ne 10, 3) := by decide +kernel
theorem dX5_pulled_12 : decode cX5_pulled 12 = .ok (.aload_n 0, 1) := by decide +kernel
theorem dX5_pulled_13 : decode cX5_pulled 13 = .ok (.getfield 115, 3) := by decide +kernel
theorem dX5_pulled_16 : decode cX5_pulled 16 = .ok (.goto 20, 3) := by decide +kernel
theorem dX5_pulled_19 : decode cX5_pulled 19 = .ok (.iload 4, 2) := by decide +kernel
theorem dX5_pulled_21 : decode cX5_pulled 21 = .ok (.iconst 1, 1) := by decide +kernel
theorem dX5_pulled_22 : decode cX5_pulled 22 = .ok (.if_icmp .ne 10, 3) := by decide +kernel
theorem dX5_pulled_25 : decode cX5_pulled 25 = .ok (.aload_n 0, 1) := by decide +kernel
theorem dX5_pulled_26 : decode cX5_pulled 26 = .ok (.getfield 118, 3) := by decide +kernel
theorem dX5_pulled_29 : decode cX5_pulled 29 = .ok (.goto 7, 3) := by decide +kernel
theorem dX5_pulled_32 : decode cX5_pulled 32 = .ok (.aload_n 0, 1) := by decide +kernel
theorem dX5_pulled_33 : decode cX5_pulled 33 = .ok (.getfield 112, 3) := by decide +kernel
theorem dX5_pulled_36 : decode cX5_pulled 36 = .ok (.ireturn, 1) := by decide +kernel
theorem dX5_ifPulled_0 : decode cX5_ifPulled 0 = .ok (.aload_n 0, 1) := by decide +kernel
theorem dX5_ifPulled_1 : decode cX5_ifPulled 1 = .ok (.iconst 0, 1) := by decide +kernel
theorem dX5_ifPulled_2 : decode cX5_ifPulled 2 = .ok (.putfield 32, 3) := by decide +kernel
theorem dX5_ifPulled_5 : decode cX5_ifPulled 5 = .ok (.iload_n 1, 1) := by decide +kernel
theorem dX5_ifPulled_6 : decode cX5_ifPulled 6 = .ok (.invokestatic 89, 3) := by decide +kernel
theorem dX5_ifPulled_9 : decode cX5_ifPulled 9 = .ok (.ifCond .eq 17, 3) := by decide +kernel
theorem dX5_ifPulled_12 : decode cX5_ifPulled 12 = .ok (.iload_n 2, 1) := by decide +kernel
theorem dX5_ifPulled_13 : decode cX5_ifPulled 13 = .ok (.invokestatic 89, 3) := by decide +kernel
theorem dX5_ifPulled_16 : decode cX5_ifPulled 16 = .ok (.ifCond .eq 10, 3) := by decide +kernel
theorem dX5_ifPulled_19 : decode cX5_ifPulled 19 = .ok (.iload_n 3, 1) := by decide +kernel
theorem dX5_ifPulled_20 : decode cX5_ifPulled 20 = .ok (.invokestatic 86, 3) := by decide +kernel
theorem dX5_ifPulled_23 : decode cX5_ifPulled 23 = .ok (.ifCond .ne 9, 3) := by decide +kernel
theorem dX5_ifPulled_26 : decode cX5_ifPulled 26 = .ok (.aload_n 0, 1) := by decide +kernel
theorem dX5_ifPulled_27 : decode cX5_ifPulled 27 = .ok (.iconst 1, 1) := by decide +kernel
theorem dX5_ifPulled_28 : decode cX5_ifPulled 28 = .ok (.invokevirtual 39, 3) := by decide +kernel
theorem dX5_ifPulled_31 : decode cX5_ifPulled 31 = .ok (.ireturn, 1) := by decide +kernel
theorem dX5_ifPulled_32 : decode cX5_ifPulled 32 = .ok (.iload_n 1, 1) := by decide +kernel
theorem dX5_ifPulled_33 : decode cX5_ifPulled 33 = .ok (.iload_n 2, 1) := by decide +kernel
theorem dX5_ifPulled_34 : decode cX5_ifPulled 34 = .ok (.if_icmp .eq 25, 3) := by decide +kernel
theorem dX5_ifPulled_37 : decode cX5_ifPulled 37 = .ok (.iload 4, 2) := by decide +kernel
theorem dX5_ifPulled_39 : decode cX5_ifPulled 39 = .ok (.iconst 0, 1) := by decide +kernel
theorem dX5_ifPulled_40 : decode cX5_ifPulled 40 = .ok (.iconst 2, 1) := by decide +kernel
theorem dX5_ifPulled_41 : decode cX5_ifPulled 41 = .ok (.invokestatic 35, 3) := by decide +kernel
theorem dX5_ifPulled_44 : decode cX5_ifPulled 44 = .ok (.ifCond .eq 15, 3) := by decide +kernel
theorem dX5_ifPulled_47 : decode cX5_ifPulled 47 = .ok (.aload_n 0, 1) := by decide +kernel
theorem dX5_ifPulled_48 : decode cX5_ifPulled 48 = .ok (.iload_n 1, 1) := by decide +kernel
theorem dX5_ifPulled_49 : decode cX5_ifPulled 49 = .ok (.iload_n 2, 1) := by decide +kernel
theorem dX5_ifPulled_50 : decode cX5_ifPulled 50 = .ok (.iload_n 3, 1) := by decide +kernel
theorem dX5_ifPulled_51 : decode cX5_ifPulled 51 = .ok (.iload 4, 2) := by decide +kernel
theorem dX5_ifPulled_53 : decode cX5_ifPulled 53 = .ok (.invokevirtual 206, 3) := by decide +kernel
theorem dX5_ifPulled_56 : decode cX5_ifPulled 56 = .ok (.goto 8, 3) := by decide +kernel
theorem dX5_ifPulled_59 : decode cX5_ifPulled 59 = .ok (.aload_n 0, 1) := by decide +kernel
theorem dX5_ifPulled_60 : decode cX5_ifPulled 60 = .ok (.iconst 2, 1) := by decide +kernel
theorem dX5_ifPulled_61 : decode cX5_ifPulled 61 = .ok (.invokevirtual 39, 3) := by decide +kernel
theorem dX5_ifPulled_64 : decode cX5_ifPulled 64 = .ok (.ireturn, 1) := by decide +kernel
theorem dX5_agrees_0 : decode cX5_agrees 0 = .ok (.iconst 0, 1) := by decide +kernel
theorem dX5_agrees_1 : decode cX5_agrees 1 = .ok (.istore_n 1, 1) := by decide +kernel
theorem dX5_agrees_2 : decode cX5_agrees 2 = .ok (.iconst 0, 1) := by decide +kernel
theorem dX5_agrees_3 : decode cX5_agrees 3 = .ok (.istore_n 2, 1) := by decide +kernel
theorem dX5_agrees_4 : decode cX5_agrees 4 = .ok (.iload_n 2, 1) := by decide +kernel
theorem dX5_agrees_5 : decode cX5_agrees 5 = .ok (.iconst 3, 1) := by decide +kernel
theorem dX5_agrees_6 : decode cX5_agrees 6 = .ok (.if_icmp .ge 63, 3) := by decide +kernel
theorem dX5_agrees_9 : decode cX5_agrees 9 = .ok (.iload_n 1, 1) := by decide +kernel
theorem dX5_agrees_10 : decode cX5_agrees 10 = .ok (.aload_n 0, 1) := by decide +kernel
theorem dX5_agrees_11 : decode cX5_agrees 11 = .ok (.iload_n 2, 1) := by decide +kernel
theorem dX5_agrees_12 : decode cX5_agrees 12 = .ok (.iconst 0, 1) := by decide +kernel
theorem dX5_agrees_13 : decode cX5_agrees 13 = .ok (.iconst 1, 1) := by decide +kernel
theorem dX5_agrees_14 : decode cX5_agrees 14 = .ok (.invokevirtual 188, 3) := by decide +kernel
theorem dX5_agrees_17 : decode cX5_agrees 17 = .ok (.ifCond .eq 7, 3) := by decide +kernel
theorem dX5_agrees_20 : decode cX5_agrees 20 = .ok (.iconst 1, 1) := by decide +kernel
theorem dX5_agrees_21 : decode cX5_agrees 21 = .ok (.goto 4, 3) := by decide +kernel
theorem dX5_agrees_24 : decode cX5_agrees 24 = .ok (.iconst 0, 1) := by decide +kernel
theorem dX5_agrees_25 : decode cX5_agrees 25 = .ok (.iadd, 1) := by decide +kernel
theorem dX5_agrees_26 : decode cX5_agrees 26 = .ok (.istore_n 1, 1) := by decide +kernel
theorem dX5_agrees_27 : decode cX5_agrees 27 = .ok (.iload_n 1, 1) := by decide +kernel
theorem dX5_agrees_28 : decode cX5_agrees 28 = .ok (.aload_n 0, 1) := by decide +kernel
theorem dX5_agrees_29 : decode cX5_agrees 29 = .ok (.iload_n 2, 1) := by decide +kernel
theorem dX5_agrees_30 : decode cX5_agrees 30 = .ok (.iconst 0, 1) := by decide +kernel
theorem dX5_agrees_31 : decode cX5_agrees 31 = .ok (.iconst 2, 1) := by decide +kernel
theorem dX5_agrees_32 : decode cX5_agrees 32 = .ok (.invokevirtual 188, 3) := by decide +kernel
theorem dX5_agrees_35 : decode cX5_agrees 35 = .ok (.ifCond .eq 7, 3) := by decide +kernel
theorem dX5_agrees_38 : decode cX5_agrees 38 = .ok (.iconst 1, 1) := by decide +kernel
theorem dX5_agrees_39 : decode cX5_agrees 39 = .ok (.goto 4, 3) := by decide +kernel
theorem dX5_agrees_42 : decode cX5_agrees 42 = .ok (.iconst 0, 1) := by decide +kernel
theorem dX5_agrees_43 : decode cX5_agrees 43 = .ok (.iadd, 1) := by decide +kernel
theorem dX5_agrees_44 : decode cX5_agrees 44 = .ok (.istore_n 1, 1) := by decide +kernel
theorem dX5_agrees_45 : decode cX5_agrees 45 = .ok (.iload_n 1, 1) := by decide +kernel
theorem dX5_agrees_46 : decode cX5_agrees 46 = .ok (.aload_n 0, 1) := by decide +kernel
theorem dX5_agrees_47 : decode cX5_agrees 47 = .ok (.iload_n 2, 1) := by decide +kernel
theorem dX5_agrees_48 : decode cX5_agrees 48 = .ok (.iconst 1, 1) := by decide +kernel
theorem dX5_agrees_49 : decode cX5_agrees 49 = .ok (.iconst 2, 1) := by decide +kernel
theorem dX5_agrees_50 : decode cX5_agrees 50 = .ok (.invokevirtual 188, 3) := by decide +kernel
theorem dX5_agrees_53 : decode cX5_agrees 53 = .ok (.ifCond .eq 7, 3) := by decide +kernel
theorem dX5_agrees_56 : decode cX5_agrees 56 = .ok (.iconst 1, 1) := by decide +kernel
theorem dX5_agrees_57 : decode cX5_agrees 57 = .ok (.goto 4, 3) := by decide +kernel
theorem dX5_agrees_60 : decode cX5_agrees 60 = .ok (.iconst 0, 1) := by decide +kernel
theorem dX5_agrees_61 : decode cX5_agrees 61 = .ok (.iadd, 1) := by decide +kernel
theorem dX5_agrees_62 : decode cX5_agrees 62 = .ok (.istore_n 1, 1) := by decide +kernel
theorem dX5_agrees_63 : decode cX5_agrees 63 = .ok (.iinc 2 1, 3) := by decide +kernel
theorem dX5_agrees_66 : decode cX5_agrees 66 = .ok (.goto (-62), 3) := by decide +kernel
theorem dX5_agrees_69 : decode cX5_agrees 69 = .ok (.iload_n 1, 1) := by decide +kernel
theorem dX5_agrees_70 : decode cX5_agrees 70 = .ok (.i2d, 1) := by decide +kernel
theorem dX5_agrees_71 : decode cX5_agrees 71 = .ok (.ldc2_w 209, 3) := by decide +kernel
theorem dX5_agrees_74 : decode cX5_agrees 74 = .ok (.ddiv, 1) := by decide +kernel
theorem dX5_agrees_75 : decode cX5_agrees 75 = .ok (.dreturn, 1) := by decide +kernel
theorem dX5_agreement_0 : decode cX5_agreement 0 = .ok (.aload_n 0, 1) := by decide +kernel
theorem dX5_agreement_1 : decode cX5_agreement 1 = .ok (.iconst 0, 1) := by decide +kernel
theorem dX5_agreement_2 : decode cX5_agreement 2 = .ok (.putfield 32, 3) := by decide +kernel
theorem dX5_agreement_5 : decode cX5_agreement 5 = .ok (.aload_n 0, 1) := by decide +kernel
theorem dX5_agreement_6 : decode cX5_agreement 6 = .ok (.invokevirtual 211, 3) := by decide +kernel
theorem dX5_agreement_9 : decode cX5_agreement 9 = .ok (.dreturn, 1) := by decide +kernel
theorem dX5_mixes_0 : decode cX5_mixes 0 = .ok (.aload_n 0, 1) := by decide +kernel
theorem dX5_mixes_1 : decode cX5_mixes 1 = .ok (.ldc2_w 215, 3) := by decide +kernel
theorem dX5_mixes_4 : decode cX5_mixes 4 = .ok (.aload_n 0, 1) := by decide +kernel
theorem dX5_mixes_5 : decode cX5_mixes 5 = .ok (.getfield 217, 3) := by decide +kernel
theorem dX5_mixes_8 : decode cX5_mixes 8 = .ok (.lmul, 1) := by decide +kernel
theorem dX5_mixes_9 : decode cX5_mixes 9 = .ok (.lload_n 1, 1) := by decide +kernel
theorem dX5_mixes_10 : decode cX5_mixes 10 = .ok (.ladd, 1) := by decide +kernel
theorem dX5_mixes_11 : decode cX5_mixes 11 = .ok (.putfield 217, 3) := by decide +kernel
theorem dX5_mixes_14 : decode cX5_mixes 14 = .ok (.return_, 1) := by decide +kernel
theorem dX5_mixesKey_0 : decode cX5_mixesKey 0 = .ok (.iconst 0, 1) := by decide +kernel
theorem dX5_mixesKey_1 : decode cX5_mixesKey 1 = .ok (.istore_n 2, 1) := by decide +kernel
theorem dX5_mixesKey_2 : decode cX5_mixesKey 2 = .ok (.iload_n 2, 1) := by decide +kernel
theorem dX5_mixesKey_3 : decode cX5_mixesKey 3 = .ok (.bipush 8, 2) := by decide +kernel
theorem dX5_mixesKey_5 : decode cX5_mixesKey 5 = .ok (.if_icmp .ge 20, 3) := by decide +kernel
theorem dX5_mixesKey_8 : decode cX5_mixesKey 8 = .ok (.aload_n 0, 1) := by decide +kernel
theorem dX5_mixesKey_9 : decode cX5_mixesKey 9 = .ok (.aload_n 0, 1) := by decide +kernel
theorem dX5_mixesKey_10 : decode cX5_mixesKey 10 = .ok (.iload_n 1, 1) := by decide +kernel
theorem dX5_mixesKey_11 : decode cX5_mixesKey 11 = .ok (.iload_n 2, 1) := by decide +kernel
theorem dX5_mixesKey_12 : decode cX5_mixesKey 12 = .ok (.invokevirtual 197, 3) := by decide +kernel
theorem dX5_mixesKey_15 : decode cX5_mixesKey 15 = .ok (.i2l, 1) := by decide +kernel
theorem dX5_mixesKey_16 : decode cX5_mixesKey 16 = .ok (.invokevirtual 221, 3) := by decide +kernel
theorem dX5_mixesKey_19 : decode cX5_mixesKey 19 = .ok (.iinc 2 1, 3) := by decide +kernel
theorem dX5_mixesKey_22 : decode cX5_mixesKey 22 = .ok (.goto (-20), 3) := by decide +kernel
theorem dX5_mixesKey_25 : decode cX5_mixesKey 25 = .ok (.iconst 0, 1) := by decide +kernel
theorem dX5_mixesKey_26 : decode cX5_mixesKey 26 = .ok (.istore_n 2, 1) := by decide +kernel
theorem dX5_mixesKey_27 : decode cX5_mixesKey 27 = .ok (.iload_n 2, 1) := by decide +kernel
theorem dX5_mixesKey_28 : decode cX5_mixesKey 28 = .ok (.iconst 3, 1) := by decide +kernel
theorem dX5_mixesKey_29 : decode cX5_mixesKey 29 = .ok (.if_icmp .ge 76, 3) := by decide +kernel
theorem dX5_mixesKey_32 : decode cX5_mixesKey 32 = .ok (.iconst 0, 1) := by decide +kernel
theorem dX5_mixesKey_33 : decode cX5_mixesKey 33 = .ok (.istore_n 3, 1) := by decide +kernel
theorem dX5_mixesKey_34 : decode cX5_mixesKey 34 = .ok (.iload_n 3, 1) := by decide +kernel
theorem dX5_mixesKey_35 : decode cX5_mixesKey 35 = .ok (.iconst 5, 1) := by decide +kernel
theorem dX5_mixesKey_36 : decode cX5_mixesKey 36 = .ok (.aload_n 0, 1) := by decide +kernel
theorem dX5_mixesKey_37 : decode cX5_mixesKey 37 = .ok (.iload_n 1, 1) := by decide +kernel
theorem dX5_mixesKey_38 : decode cX5_mixesKey 38 = .ok (.iload_n 2, 1) := by decide +kernel
theorem dX5_mixesKey_39 : decode cX5_mixesKey 39 = .ok (.invokevirtual 47, 3) := by decide +kernel
theorem dX5_mixesKey_42 : decode cX5_mixesKey 42 = .ok (.imul, 1) := by decide +kernel
theorem dX5_mixesKey_43 : decode cX5_mixesKey 43 = .ok (.if_icmp .ge 26, 3) := by decide +kernel
theorem dX5_mixesKey_46 : decode cX5_mixesKey 46 = .ok (.aload_n 0, 1) := by decide +kernel
theorem dX5_mixesKey_47 : decode cX5_mixesKey 47 = .ok (.aload_n 0, 1) := by decide +kernel
theorem dX5_mixesKey_48 : decode cX5_mixesKey 48 = .ok (.iload_n 2, 1) := by decide +kernel
theorem dX5_mixesKey_49 : decode cX5_mixesKey 49 = .ok (.iload_n 1, 1) := by decide +kernel
theorem dX5_mixesKey_50 : decode cX5_mixesKey 50 = .ok (.iload_n 3, 1) := by decide +kernel
theorem dX5_mixesKey_51 : decode cX5_mixesKey 51 = .ok (.iconst 5, 1) := by decide +kernel
theorem dX5_mixesKey_52 : decode cX5_mixesKey 52 = .ok (.idiv, 1) := by decide +kernel
theorem dX5_mixesKey_53 : decode cX5_mixesKey 53 = .ok (.iload_n 3, 1) := by decide +kernel
theorem dX5_mixesKey_54 : decode cX5_mixesKey 54 = .ok (.iconst 5, 1) := by decide +kernel
theorem dX5_mixesKey_55 : decode cX5_mixesKey 55 = .ok (.irem, 1) := by decide +kernel
theorem dX5_mixesKey_56 : decode cX5_mixesKey 56 = .ok (.invokevirtual 179, 3) := by decide +kernel
theorem dX5_mixesKey_59 : decode cX5_mixesKey 59 = .ok (.i2l, 1) := by decide +kernel
theorem dX5_mixesKey_60 : decode cX5_mixesKey 60 = .ok (.invokevirtual 221, 3) := by decide +kernel
theorem dX5_mixesKey_63 : decode cX5_mixesKey 63 = .ok (.iinc 3 1, 3) := by decide +kernel
theorem dX5_mixesKey_66 : decode cX5_mixesKey 66 = .ok (.goto (-32), 3) := by decide +kernel
theorem dX5_mixesKey_69 : decode cX5_mixesKey 69 = .ok (.iconst 0, 1) := by decide +kernel
theorem dX5_mixesKey_70 : decode cX5_mixesKey 70 = .ok (.istore_n 3, 1) := by decide +kernel
theorem dX5_mixesKey_71 : decode cX5_mixesKey 71 = .ok (.iload_n 3, 1) := by decide +kernel
theorem dX5_mixesKey_72 : decode cX5_mixesKey 72 = .ok (.iconst 5, 1) := by decide +kernel
theorem dX5_mixesKey_73 : decode cX5_mixesKey 73 = .ok (.if_icmp .ge 26, 3) := by decide +kernel
theorem dX5_mixesKey_76 : decode cX5_mixesKey 76 = .ok (.aload_n 0, 1) := by decide +kernel
theorem dX5_mixesKey_77 : decode cX5_mixesKey 77 = .ok (.aload_n 0, 1) := by decide +kernel
theorem dX5_mixesKey_78 : decode cX5_mixesKey 78 = .ok (.getfield 7, 3) := by decide +kernel
theorem dX5_mixesKey_81 : decode cX5_mixesKey 81 = .ok (.iload_n 1, 1) := by decide +kernel
theorem dX5_mixesKey_82 : decode cX5_mixesKey 82 = .ok (.iload_n 2, 1) := by decide +kernel
theorem dX5_mixesKey_83 : decode cX5_mixesKey 83 = .ok (.invokestatic 75, 3) := by decide +kernel
theorem dX5_mixesKey_86 : decode cX5_mixesKey 86 = .ok (.iload_n 3, 1) := by decide +kernel
theorem dX5_mixesKey_87 : decode cX5_mixesKey 87 = .ok (.iadd, 1) := by decide +kernel
theorem dX5_mixesKey_88 : decode cX5_mixesKey 88 = .ok (.iaload, 1) := by decide +kernel
theorem dX5_mixesKey_89 : decode cX5_mixesKey 89 = .ok (.i2l, 1) := by decide +kernel
theorem dX5_mixesKey_90 : decode cX5_mixesKey 90 = .ok (.invokevirtual 221, 3) := by decide +kernel
theorem dX5_mixesKey_93 : decode cX5_mixesKey 93 = .ok (.iinc 3 1, 3) := by decide +kernel
theorem dX5_mixesKey_96 : decode cX5_mixesKey 96 = .ok (.goto (-25), 3) := by decide +kernel
theorem dX5_mixesKey_99 : decode cX5_mixesKey 99 = .ok (.iinc 2 1, 3) := by decide +kernel
theorem dX5_mixesKey_102 : decode cX5_mixesKey 102 = .ok (.goto (-75), 3) := by decide +kernel
theorem dX5_mixesKey_105 : decode cX5_mixesKey 105 = .ok (.iconst 0, 1) := by decide +kernel
theorem dX5_mixesKey_106 : decode cX5_mixesKey 106 = .ok (.istore_n 2, 1) := by decide +kernel
theorem dX5_mixesKey_107 : decode cX5_mixesKey 107 = .ok (.iload_n 2, 1) := by decide +kernel
theorem dX5_mixesKey_108 : decode cX5_mixesKey 108 = .ok (.iconst 5, 1) := by decide +kernel
theorem dX5_mixesKey_109 : decode cX5_mixesKey 109 = .ok (.if_icmp .ge 76, 3) := by decide +kernel
theorem dX5_mixesKey_112 : decode cX5_mixesKey 112 = .ok (.iconst 0, 1) := by decide +kernel
theorem dX5_mixesKey_113 : decode cX5_mixesKey 113 = .ok (.istore_n 3, 1) := by decide +kernel
theorem dX5_mixesKey_114 : decode cX5_mixesKey 114 = .ok (.iload_n 3, 1) := by decide +kernel
theorem dX5_mixesKey_115 : decode cX5_mixesKey 115 = .ok (.iconst 5, 1) := by decide +kernel
theorem dX5_mixesKey_116 : decode cX5_mixesKey 116 = .ok (.if_icmp .ge 26, 3) := by decide +kernel
theorem dX5_mixesKey_119 : decode cX5_mixesKey 119 = .ok (.aload_n 0, 1) := by decide +kernel
theorem dX5_mixesKey_120 : decode cX5_mixesKey 120 = .ok (.aload_n 0, 1) := by decide +kernel
theorem dX5_mixesKey_121 : decode cX5_mixesKey 121 = .ok (.getfield 7, 3) := by decide +kernel
theorem dX5_mixesKey_124 : decode cX5_mixesKey 124 = .ok (.iload_n 1, 1) := by decide +kernel
theorem dX5_mixesKey_125 : decode cX5_mixesKey 125 = .ok (.iload_n 2, 1) := by decide +kernel
theorem dX5_mixesKey_126 : decode cX5_mixesKey 126 = .ok (.invokestatic 54, 3) := by decide +kernel
theorem dX5_mixesKey_129 : decode cX5_mixesKey 129 = .ok (.iload_n 3, 1) := by decide +kernel
theorem dX5_mixesKey_130 : decode cX5_mixesKey 130 = .ok (.iadd, 1) := by decide +kernel
theorem dX5_mixesKey_131 : decode cX5_mixesKey 131 = .ok (.iaload, 1) := by decide +kernel
theorem dX5_mixesKey_132 : decode cX5_mixesKey 132 = .ok (.i2l, 1) := by decide +kernel
theorem dX5_mixesKey_133 : decode cX5_mixesKey 133 = .ok (.invokevirtual 221, 3) := by decide +kernel
theorem dX5_mixesKey_136 : decode cX5_mixesKey 136 = .ok (.iinc 3 1, 3) := by decide +kernel
theorem dX5_mixesKey_139 : decode cX5_mixesKey 139 = .ok (.goto (-25), 3) := by decide +kernel
theorem dX5_mixesKey_142 : decode cX5_mixesKey 142 = .ok (.aload_n 0, 1) := by decide +kernel
theorem dX5_mixesKey_143 : decode cX5_mixesKey 143 = .ok (.aload_n 0, 1) := by decide +kernel
theorem dX5_mixesKey_144 : decode cX5_mixesKey 144 = .ok (.iload_n 2, 1) := by decide +kernel
theorem dX5_mixesKey_145 : decode cX5_mixesKey 145 = .ok (.iload_n 1, 1) := by decide +kernel
theorem dX5_mixesKey_146 : decode cX5_mixesKey 146 = .ok (.invokevirtual 109, 3) := by decide +kernel
theorem dX5_mixesKey_149 : decode cX5_mixesKey 149 = .ok (.i2l, 1) := by decide +kernel
theorem dX5_mixesKey_150 : decode cX5_mixesKey 150 = .ok (.invokevirtual 221, 3) := by decide +kernel
theorem dX5_mixesKey_153 : decode cX5_mixesKey 153 = .ok (.aload_n 0, 1) := by decide +kernel
theorem dX5_mixesKey_154 : decode cX5_mixesKey 154 = .ok (.aload_n 0, 1) := by decide +kernel
theorem dX5_mixesKey_155 : decode cX5_mixesKey 155 = .ok (.iload_n 2, 1) := by decide +kernel
theorem dX5_mixesKey_156 : decode cX5_mixesKey 156 = .ok (.iload_n 1, 1) := by decide +kernel
theorem dX5_mixesKey_157 : decode cX5_mixesKey 157 = .ok (.iconst 0, 1) := by decide +kernel
theorem dX5_mixesKey_158 : decode cX5_mixesKey 158 = .ok (.iconst 0, 1) := by decide +kernel
theorem dX5_mixesKey_159 : decode cX5_mixesKey 159 = .ok (.invokevirtual 203, 3) := by decide +kernel
theorem dX5_mixesKey_162 : decode cX5_mixesKey 162 = .ok (.i2l, 1) := by decide +kernel
theorem dX5_mixesKey_163 : decode cX5_mixesKey 163 = .ok (.invokevirtual 221, 3) := by decide +kernel
theorem dX5_mixesKey_166 : decode cX5_mixesKey 166 = .ok (.aload_n 0, 1) := by decide +kernel
theorem dX5_mixesKey_167 : decode cX5_mixesKey 167 = .ok (.aload_n 0, 1) := by decide +kernel
theorem dX5_mixesKey_168 : decode cX5_mixesKey 168 = .ok (.iload_n 2, 1) := by decide +kernel
theorem dX5_mixesKey_169 : decode cX5_mixesKey 169 = .ok (.iload_n 1, 1) := by decide +kernel
theorem dX5_mixesKey_170 : decode cX5_mixesKey 170 = .ok (.iconst 0, 1) := by decide +kernel
theorem dX5_mixesKey_171 : decode cX5_mixesKey 171 = .ok (.iconst 1, 1) := by decide +kernel
theorem dX5_mixesKey_172 : decode cX5_mixesKey 172 = .ok (.invokevirtual 203, 3) := by decide +kernel
theorem dX5_mixesKey_175 : decode cX5_mixesKey 175 = .ok (.i2l, 1) := by decide +kernel
theorem dX5_mixesKey_176 : decode cX5_mixesKey 176 = .ok (.invokevirtual 221, 3) := by decide +kernel
theorem dX5_mixesKey_179 : decode cX5_mixesKey 179 = .ok (.iinc 2 1, 3) := by decide +kernel
theorem dX5_mixesKey_182 : decode cX5_mixesKey 182 = .ok (.goto (-75), 3) := by decide +kernel
theorem dX5_mixesKey_185 : decode cX5_mixesKey 185 = .ok (.return_, 1) := by decide +kernel
theorem dX5_digest_0 : decode cX5_digest 0 = .ok (.aload_n 0, 1) := by decide +kernel
theorem dX5_digest_1 : decode cX5_digest 1 = .ok (.iconst 0, 1) := by decide +kernel
theorem dX5_digest_2 : decode cX5_digest 2 = .ok (.putfield 32, 3) := by decide +kernel
theorem dX5_digest_5 : decode cX5_digest 5 = .ok (.aload_n 0, 1) := by decide +kernel
theorem dX5_digest_6 : decode cX5_digest 6 = .ok (.ldc2_w 225, 3) := by decide +kernel
theorem dX5_digest_9 : decode cX5_digest 9 = .ok (.putfield 217, 3) := by decide +kernel
theorem dX5_digest_12 : decode cX5_digest 12 = .ok (.iconst 0, 1) := by decide +kernel
theorem dX5_digest_13 : decode cX5_digest 13 = .ok (.istore_n 1, 1) := by decide +kernel
theorem dX5_digest_14 : decode cX5_digest 14 = .ok (.iload_n 1, 1) := by decide +kernel
theorem dX5_digest_15 : decode cX5_digest 15 = .ok (.bipush 8, 2) := by decide +kernel
theorem dX5_digest_17 : decode cX5_digest 17 = .ok (.if_icmp .ge 19, 3) := by decide +kernel
theorem dX5_digest_20 : decode cX5_digest 20 = .ok (.aload_n 0, 1) := by decide +kernel
theorem dX5_digest_21 : decode cX5_digest 21 = .ok (.aload_n 0, 1) := by decide +kernel
theorem dX5_digest_22 : decode cX5_digest 22 = .ok (.iload_n 1, 1) := by decide +kernel
theorem dX5_digest_23 : decode cX5_digest 23 = .ok (.invokevirtual 200, 3) := by decide +kernel
theorem dX5_digest_26 : decode cX5_digest 26 = .ok (.i2l, 1) := by decide +kernel
theorem dX5_digest_27 : decode cX5_digest 27 = .ok (.invokevirtual 221, 3) := by decide +kernel
theorem dX5_digest_30 : decode cX5_digest 30 = .ok (.iinc 1 1, 3) := by decide +kernel
theorem dX5_digest_33 : decode cX5_digest 33 = .ok (.goto (-19), 3) := by decide +kernel
theorem dX5_digest_36 : decode cX5_digest 36 = .ok (.iconst 0, 1) := by decide +kernel
theorem dX5_digest_37 : decode cX5_digest 37 = .ok (.istore_n 1, 1) := by decide +kernel
theorem dX5_digest_38 : decode cX5_digest 38 = .ok (.iload_n 1, 1) := by decide +kernel
theorem dX5_digest_39 : decode cX5_digest 39 = .ok (.iconst 3, 1) := by decide +kernel
theorem dX5_digest_40 : decode cX5_digest 40 = .ok (.if_icmp .ge 14, 3) := by decide +kernel
theorem dX5_digest_43 : decode cX5_digest 43 = .ok (.aload_n 0, 1) := by decide +kernel
theorem dX5_digest_44 : decode cX5_digest 44 = .ok (.iload_n 1, 1) := by decide +kernel
theorem dX5_digest_45 : decode cX5_digest 45 = .ok (.invokevirtual 227, 3) := by decide +kernel
theorem dX5_digest_48 : decode cX5_digest 48 = .ok (.iinc 1 1, 3) := by decide +kernel
theorem dX5_digest_51 : decode cX5_digest 51 = .ok (.goto (-13), 3) := by decide +kernel
theorem dX5_digest_54 : decode cX5_digest 54 = .ok (.iconst 0, 1) := by decide +kernel
theorem dX5_digest_55 : decode cX5_digest 55 = .ok (.istore_n 1, 1) := by decide +kernel
theorem dX5_digest_56 : decode cX5_digest 56 = .ok (.iload_n 1, 1) := by decide +kernel
theorem dX5_digest_57 : decode cX5_digest 57 = .ok (.bipush 9, 2) := by decide +kernel
theorem dX5_digest_59 : decode cX5_digest 59 = .ok (.if_icmp .ge 26, 3) := by decide +kernel
theorem dX5_digest_62 : decode cX5_digest 62 = .ok (.aload_n 0, 1) := by decide +kernel
theorem dX5_digest_63 : decode cX5_digest 63 = .ok (.aload_n 0, 1) := by decide +kernel
theorem dX5_digest_64 : decode cX5_digest 64 = .ok (.iconst 1, 1) := by decide +kernel
theorem dX5_digest_65 : decode cX5_digest 65 = .ok (.iconst 0, 1) := by decide +kernel
theorem dX5_digest_66 : decode cX5_digest 66 = .ok (.iload_n 1, 1) := by decide +kernel
theorem dX5_digest_67 : decode cX5_digest 67 = .ok (.iconst 3, 1) := by decide +kernel
theorem dX5_digest_68 : decode cX5_digest 68 = .ok (.idiv, 1) := by decide +kernel
theorem dX5_digest_69 : decode cX5_digest 69 = .ok (.iload_n 1, 1) := by decide +kernel
theorem dX5_digest_70 : decode cX5_digest 70 = .ok (.iconst 3, 1) := by decide +kernel
theorem dX5_digest_71 : decode cX5_digest 71 = .ok (.irem, 1) := by decide +kernel
theorem dX5_digest_72 : decode cX5_digest 72 = .ok (.invokevirtual 206, 3) := by decide +kernel
theorem dX5_digest_75 : decode cX5_digest 75 = .ok (.i2l, 1) := by decide +kernel
theorem dX5_digest_76 : decode cX5_digest 76 = .ok (.invokevirtual 221, 3) := by decide +kernel
theorem dX5_digest_79 : decode cX5_digest 79 = .ok (.iinc 1 1, 3) := by decide +kernel
theorem dX5_digest_82 : decode cX5_digest 82 = .ok (.goto (-26), 3) := by decide +kernel
theorem dX5_digest_85 : decode cX5_digest 85 = .ok (.aload_n 0, 1) := by decide +kernel
theorem dX5_digest_86 : decode cX5_digest 86 = .ok (.aload_n 0, 1) := by decide +kernel
theorem dX5_digest_87 : decode cX5_digest 87 = .ok (.invokevirtual 211, 3) := by decide +kernel
theorem dX5_digest_90 : decode cX5_digest 90 = .ok (.invokestatic 230, 3) := by decide +kernel
theorem dX5_digest_93 : decode cX5_digest 93 = .ok (.invokevirtual 221, 3) := by decide +kernel
theorem dX5_digest_96 : decode cX5_digest 96 = .ok (.aload_n 0, 1) := by decide +kernel
theorem dX5_digest_97 : decode cX5_digest 97 = .ok (.aload_n 0, 1) := by decide +kernel
theorem dX5_digest_98 : decode cX5_digest 98 = .ok (.getfield 135, 3) := by decide +kernel
theorem dX5_digest_101 : decode cX5_digest 101 = .ok (.i2l, 1) := by decide +kernel
theorem dX5_digest_102 : decode cX5_digest 102 = .ok (.invokevirtual 221, 3) := by decide +kernel
theorem dX5_digest_105 : decode cX5_digest 105 = .ok (.iconst 0, 1) := by decide +kernel
theorem dX5_digest_106 : decode cX5_digest 106 = .ok (.istore_n 1, 1) := by decide +kernel
theorem dX5_digest_107 : decode cX5_digest 107 = .ok (.iload_n 1, 1) := by decide +kernel
theorem dX5_digest_108 : decode cX5_digest 108 = .ok (.aload_n 0, 1) := by decide +kernel
theorem dX5_digest_109 : decode cX5_digest 109 = .ok (.getfield 135, 3) := by decide +kernel
theorem dX5_digest_112 : decode cX5_digest 112 = .ok (.if_icmp .ge 20, 3) := by decide +kernel
theorem dX5_digest_115 : decode cX5_digest 115 = .ok (.aload_n 0, 1) := by decide +kernel
theorem dX5_digest_116 : decode cX5_digest 116 = .ok (.aload_n 0, 1) := by decide +kernel
theorem dX5_digest_117 : decode cX5_digest 117 = .ok (.getfield 19, 3) := by decide +kernel
theorem dX5_digest_120 : decode cX5_digest 120 = .ok (.iload_n 1, 1) := by decide +kernel
theorem dX5_digest_121 : decode cX5_digest 121 = .ok (.iaload, 1) := by decide +kernel
theorem dX5_digest_122 : decode cX5_digest 122 = .ok (.i2l, 1) := by decide +kernel
theorem dX5_digest_123 : decode cX5_digest 123 = .ok (.invokevirtual 221, 3) := by decide +kernel
theorem dX5_digest_126 : decode cX5_digest 126 = .ok (.iinc 1 1, 3) := by decide +kernel
theorem dX5_digest_129 : decode cX5_digest 129 = .ok (.goto (-22), 3) := by decide +kernel
theorem dX5_digest_132 : decode cX5_digest 132 = .ok (.aload_n 0, 1) := by decide +kernel
theorem dX5_digest_133 : decode cX5_digest 133 = .ok (.getfield 217, 3) := by decide +kernel
theorem dX5_digest_136 : decode cX5_digest 136 = .ok (.lreturn, 1) := by decide +kernel
end
section
theorem dL_read_0 : decode cL_read 0 = .ok (.aload 4, 2) := by decide +kernel
theorem dL_read_2 : decode cL_read 2 = .ok (.iconst 0, 1) := by decide +kernel
theorem dL_read_3 : decode cL_read 3 = .ok (.aload_n 0, 1) := by decide +kernel
theorem dL_read_4 : decode cL_read 4 = .ok (.iload_n 1, 1) := by decide +kernel
theorem dL_read_5 : decode cL_read 5 = .ok (.iload_n 2, 1) := by decide +kernel
theorem dL_read_6 : decode cL_read 6 = .ok (.iload_n 3, 1) := by decide +kernel
theorem dL_read_7 : decode cL_read 7 = .ok (.invokevirtual 7, 3) := by decide +kernel
theorem dL_read_10 : decode cL_read 10 = .ok (.i2l, 1) := by decide +kernel
theorem dL_read_11 : decode cL_read 11 = .ok (.lastore, 1) := by decide +kernel
theorem dL_read_12 : decode cL_read 12 = .ok (.goto 7, 3) := by decide +kernel
theorem dL_read_15 : decode cL_read 15 = .ok (.astore 5, 2) := by decide +kernel
theorem dL_read_17 : decode cL_read 17 = .ok (.iconst 1, 1) := by decide +kernel
theorem dL_read_18 : decode cL_read 18 = .ok (.ireturn, 1) := by decide +kernel
theorem dL_read_19 : decode cL_read 19 = .ok (.iconst 0, 1) := by decide +kernel
theorem dL_read_20 : decode cL_read 20 = .ok (.ireturn, 1) := by decide +kernel
theorem dL_write_0 : decode cL_write 0 = .ok (.aload 5, 2) := by decide +kernel
theorem dL_write_2 : decode cL_write 2 = .ok (.iconst 0, 1) := by decide +kernel
theorem dL_write_3 : decode cL_write 3 = .ok (.aload_n 0, 1) := by decide +kernel
theorem dL_write_4 : decode cL_write 4 = .ok (.iload_n 1, 1) := by decide +kernel
theorem dL_write_5 : decode cL_write 5 = .ok (.iload_n 2, 1) := by decide +kernel
theorem dL_write_6 : decode cL_write 6 = .ok (.iload_n 3, 1) := by decide +kernel
theorem dL_write_7 : decode cL_write 7 = .ok (.iload 4, 2) := by decide +kernel
theorem dL_write_9 : decode cL_write 9 = .ok (.invokevirtual 15, 3) := by decide +kernel
theorem dL_write_12 : decode cL_write 12 = .ok (.i2l, 1) := by decide +kernel
theorem dL_write_13 : decode cL_write 13 = .ok (.lastore, 1) := by decide +kernel
theorem dL_write_14 : decode cL_write 14 = .ok (.goto 15, 3) := by decide +kernel
theorem dL_write_17 : decode cL_write 17 = .ok (.astore 6, 2) := by decide +kernel
theorem dL_write_19 : decode cL_write 19 = .ok (.iconst 1, 1) := by decide +kernel
theorem dL_write_20 : decode cL_write 20 = .ok (.ireturn, 1) := by decide +kernel
theorem dL_write_21 : decode cL_write 21 = .ok (.astore 6, 2) := by decide +kernel
theorem dL_write_23 : decode cL_write 23 = .ok (.iconst 2, 1) := by decide +kernel
theorem dL_write_24 : decode cL_write 24 = .ok (.ireturn, 1) := by decide +kernel
theorem dL_write_25 : decode cL_write 25 = .ok (.astore 6, 2) := by decide +kernel
theorem dL_write_27 : decode cL_write 27 = .ok (.iconst 3, 1) := by decide +kernel
theorem dL_write_28 : decode cL_write 28 = .ok (.ireturn, 1) := by decide +kernel
theorem dL_write_29 : decode cL_write 29 = .ok (.iconst 0, 1) := by decide +kernel
theorem dL_write_30 : decode cL_write 30 = .ok (.ireturn, 1) := by decide +kernel
theorem dL_pull_0 : decode cL_pull 0 = .ok (.aload 4, 2) := by decide +kernel
theorem dL_pull_2 : decode cL_pull 2 = .ok (.iconst 0, 1) := by decide +kernel
theorem dL_pull_3 : decode cL_pull 3 = .ok (.aload_n 0, 1) := by decide +kernel
theorem dL_pull_4 : decode cL_pull 4 = .ok (.iload_n 1, 1) := by decide +kernel
theorem dL_pull_5 : decode cL_pull 5 = .ok (.iload_n 2, 1) := by decide +kernel
theorem dL_pull_6 : decode cL_pull 6 = .ok (.iload_n 3, 1) := by decide +kernel
theorem dL_pull_7 : decode cL_pull 7 = .ok (.invokevirtual 23, 3) := by decide +kernel
theorem dL_pull_10 : decode cL_pull 10 = .ok (.i2l, 1) := by decide +kernel
theorem dL_pull_11 : decode cL_pull 11 = .ok (.lastore, 1) := by decide +kernel
theorem dL_pull_12 : decode cL_pull 12 = .ok (.goto 15, 3) := by decide +kernel
theorem dL_pull_15 : decode cL_pull 15 = .ok (.astore 5, 2) := by decide +kernel
theorem dL_pull_17 : decode cL_pull 17 = .ok (.iconst 1, 1) := by decide +kernel
theorem dL_pull_18 : decode cL_pull 18 = .ok (.ireturn, 1) := by decide +kernel
theorem dL_pull_19 : decode cL_pull 19 = .ok (.astore 5, 2) := by decide +kernel
theorem dL_pull_21 : decode cL_pull 21 = .ok (.iconst 2, 1) := by decide +kernel
theorem dL_pull_22 : decode cL_pull 22 = .ok (.ireturn, 1) := by decide +kernel
theorem dL_pull_23 : decode cL_pull 23 = .ok (.astore 5, 2) := by decide +kernel
theorem dL_pull_25 : decode cL_pull 25 = .ok (.iconst 3, 1) := by decide +kernel
theorem dL_pull_26 : decode cL_pull 26 = .ok (.ireturn, 1) := by decide +kernel
theorem dL_pull_27 : decode cL_pull 27 = .ok (.iconst 0, 1) := by decide +kernel
theorem dL_pull_28 : decode cL_pull 28 = .ok (.ireturn, 1) := by decide +kernel
theorem dL_join_0 : decode cL_join 0 = .ok (.aload 5, 2) := by decide +kernel
theorem dL_join_2 : decode cL_join 2 = .ok (.iconst 0, 1) := by decide +kernel
theorem dL_join_3 : decode cL_join 3 = .ok (.aload_n 0, 1) := by decide +kernel
theorem dL_join_4 : decode cL_join 4 = .ok (.iload_n 1, 1) := by decide +kernel
theorem dL_join_5 : decode cL_join 5 = .ok (.iload_n 2, 1) := by decide +kernel
theorem dL_join_6 : decode cL_join 6 = .ok (.iload_n 3, 1) := by decide +kernel
theorem dL_join_7 : decode cL_join 7 = .ok (.iload 4, 2) := by decide +kernel
theorem dL_join_9 : decode cL_join 9 = .ok (.invokevirtual 26, 3) := by decide +kernel
theorem dL_join_12 : decode cL_join 12 = .ok (.i2l, 1) := by decide +kernel
theorem dL_join_13 : decode cL_join 13 = .ok (.lastore, 1) := by decide +kernel
theorem dL_join_14 : decode cL_join 14 = .ok (.goto 15, 3) := by decide +kernel
theorem dL_join_17 : decode cL_join 17 = .ok (.astore 6, 2) := by decide +kernel
theorem dL_join_19 : decode cL_join 19 = .ok (.iconst 1, 1) := by decide +kernel
theorem dL_join_20 : decode cL_join 20 = .ok (.ireturn, 1) := by decide +kernel
theorem dL_join_21 : decode cL_join 21 = .ok (.astore 6, 2) := by decide +kernel
theorem dL_join_23 : decode cL_join 23 = .ok (.iconst 2, 1) := by decide +kernel
theorem dL_join_24 : decode cL_join 24 = .ok (.ireturn, 1) := by decide +kernel
theorem dL_join_25 : decode cL_join 25 = .ok (.astore 6, 2) := by decide +kernel
theorem dL_join_27 : decode cL_join 27 = .ok (.iconst 3, 1) := by decide +kernel
theorem dL_join_28 : decode cL_join 28 = .ok (.ireturn, 1) := by decide +kernel
theorem dL_join_29 : decode cL_join 29 = .ok (.iconst 0, 1) := by decide +kernel
theorem dL_join_30 : decode cL_join 30 = .ok (.ireturn, 1) := by decide +kernel
theorem dL_lose_0 : decode cL_lose 0 = .ok (.aload_n 3, 1) := by decide +kernel
theorem dL_lose_1 : decode cL_lose 1 = .ok (.iconst 0, 1) := by decide +kernel
theorem dL_lose_2 : decode cL_lose 2 = .ok (.aload_n 0, 1) := by decide +kernel
theorem dL_lose_3 : decode cL_lose 3 = .ok (.iload_n 1, 1) := by decide +kernel
theorem dL_lose_4 : decode cL_lose 4 = .ok (.iload_n 2, 1) := by decide +kernel
theorem dL_lose_5 : decode cL_lose 5 = .ok (.invokevirtual 29, 3) := by decide +kernel
theorem dL_lose_8 : decode cL_lose 8 = .ok (.i2l, 1) := by decide +kernel
theorem dL_lose_9 : decode cL_lose 9 = .ok (.lastore, 1) := by decide +kernel
theorem dL_lose_10 : decode cL_lose 10 = .ok (.goto 7, 3) := by decide +kernel
theorem dL_lose_13 : decode cL_lose 13 = .ok (.astore 4, 2) := by decide +kernel
theorem dL_lose_15 : decode cL_lose 15 = .ok (.iconst 1, 1) := by decide +kernel
theorem dL_lose_16 : decode cL_lose 16 = .ok (.ireturn, 1) := by decide +kernel
theorem dL_lose_17 : decode cL_lose 17 = .ok (.iconst 0, 1) := by decide +kernel
theorem dL_lose_18 : decode cL_lose 18 = .ok (.ireturn, 1) := by decide +kernel
theorem dL_forget_0 : decode cL_forget 0 = .ok (.aload_n 3, 1) := by decide +kernel
theorem dL_forget_1 : decode cL_forget 1 = .ok (.iconst 0, 1) := by decide +kernel
theorem dL_forget_2 : decode cL_forget 2 = .ok (.aload_n 0, 1) := by decide +kernel
theorem dL_forget_3 : decode cL_forget 3 = .ok (.iload_n 1, 1) := by decide +kernel
theorem dL_forget_4 : decode cL_forget 4 = .ok (.iload_n 2, 1) := by decide +kernel
theorem dL_forget_5 : decode cL_forget 5 = .ok (.invokevirtual 33, 3) := by decide +kernel
theorem dL_forget_8 : decode cL_forget 8 = .ok (.i2l, 1) := by decide +kernel
theorem dL_forget_9 : decode cL_forget 9 = .ok (.lastore, 1) := by decide +kernel
theorem dL_forget_10 : decode cL_forget 10 = .ok (.goto 11, 3) := by decide +kernel
theorem dL_forget_13 : decode cL_forget 13 = .ok (.astore 4, 2) := by decide +kernel
theorem dL_forget_15 : decode cL_forget 15 = .ok (.iconst 1, 1) := by decide +kernel
theorem dL_forget_16 : decode cL_forget 16 = .ok (.ireturn, 1) := by decide +kernel
theorem dL_forget_17 : decode cL_forget 17 = .ok (.astore 4, 2) := by decide +kernel
theorem dL_forget_19 : decode cL_forget 19 = .ok (.iconst 2, 1) := by decide +kernel
theorem dL_forget_20 : decode cL_forget 20 = .ok (.ireturn, 1) := by decide +kernel
theorem dL_forget_21 : decode cL_forget 21 = .ok (.iconst 0, 1) := by decide +kernel
theorem dL_forget_22 : decode cL_forget 22 = .ok (.ireturn, 1) := by decide +kernel
theorem dL_pullAll_0 : decode cL_pullAll 0 = .ok (.aload_n 1, 1) := by decide +kernel
theorem dL_pullAll_1 : decode cL_pullAll 1 = .ok (.iconst 0, 1) := by decide +kernel
theorem dL_pullAll_2 : decode cL_pullAll 2 = .ok (.aload_n 0, 1) := by decide +kernel
theorem dL_pullAll_3 : decode cL_pullAll 3 = .ok (.invokevirtual 36, 3) := by decide +kernel
theorem dL_pullAll_6 : decode cL_pullAll 6 = .ok (.i2l, 1) := by decide +kernel
theorem dL_pullAll_7 : decode cL_pullAll 7 = .ok (.lastore, 1) := by decide +kernel
theorem dL_pullAll_8 : decode cL_pullAll 8 = .ok (.goto 6, 3) := by decide +kernel
theorem dL_pullAll_11 : decode cL_pullAll 11 = .ok (.astore_n 2, 1) := by decide +kernel
theorem dL_pullAll_12 : decode cL_pullAll 12 = .ok (.iconst 1, 1) := by decide +kernel
theorem dL_pullAll_13 : decode cL_pullAll 13 = .ok (.ireturn, 1) := by decide +kernel
theorem dL_pullAll_14 : decode cL_pullAll 14 = .ok (.iconst 0, 1) := by decide +kernel
theorem dL_pullAll_15 : decode cL_pullAll 15 = .ok (.ireturn, 1) := by decide +kernel
theorem dL_append_0 : decode cL_append 0 = .ok (.aload_n 2, 1) := by decide +kernel
theorem dL_append_1 : decode cL_append 1 = .ok (.iconst 0, 1) := by decide +kernel
theorem dL_append_2 : decode cL_append 2 = .ok (.aload_n 0, 1) := by decide +kernel
theorem dL_append_3 : decode cL_append 3 = .ok (.iload_n 1, 1) := by decide +kernel
theorem dL_append_4 : decode cL_append 4 = .ok (.invokevirtual 40, 3) := by decide +kernel
theorem dL_append_7 : decode cL_append 7 = .ok (.i2l, 1) := by decide +kernel
theorem dL_append_8 : decode cL_append 8 = .ok (.lastore, 1) := by decide +kernel
theorem dL_append_9 : decode cL_append 9 = .ok (.goto 9, 3) := by decide +kernel
theorem dL_append_12 : decode cL_append 12 = .ok (.astore_n 3, 1) := by decide +kernel
theorem dL_append_13 : decode cL_append 13 = .ok (.iconst 1, 1) := by decide +kernel
theorem dL_append_14 : decode cL_append 14 = .ok (.ireturn, 1) := by decide +kernel
theorem dL_append_15 : decode cL_append 15 = .ok (.astore_n 3, 1) := by decide +kernel
theorem dL_append_16 : decode cL_append 16 = .ok (.iconst 2, 1) := by decide +kernel
theorem dL_append_17 : decode cL_append 17 = .ok (.ireturn, 1) := by decide +kernel
theorem dL_append_18 : decode cL_append 18 = .ok (.iconst 0, 1) := by decide +kernel
theorem dL_append_19 : decode cL_append 19 = .ok (.ireturn, 1) := by decide +kernel
theorem dL_runAll_0 : decode cL_runAll 0 = .ok (.aload_n 1, 1) := by decide +kernel
theorem dL_runAll_1 : decode cL_runAll 1 = .ok (.iconst 0, 1) := by decide +kernel
theorem dL_runAll_2 : decode cL_runAll 2 = .ok (.aload_n 0, 1) := by decide +kernel
theorem dL_runAll_3 : decode cL_runAll 3 = .ok (.invokevirtual 44, 3) := by decide +kernel
theorem dL_runAll_6 : decode cL_runAll 6 = .ok (.i2l, 1) := by decide +kernel
theorem dL_runAll_7 : decode cL_runAll 7 = .ok (.lastore, 1) := by decide +kernel
theorem dL_runAll_8 : decode cL_runAll 8 = .ok (.goto 6, 3) := by decide +kernel
theorem dL_runAll_11 : decode cL_runAll 11 = .ok (.astore_n 2, 1) := by decide +kernel
theorem dL_runAll_12 : decode cL_runAll 12 = .ok (.iconst 1, 1) := by decide +kernel
theorem dL_runAll_13 : decode cL_runAll 13 = .ok (.ireturn, 1) := by decide +kernel
theorem dL_runAll_14 : decode cL_runAll 14 = .ok (.iconst 0, 1) := by decide +kernel
theorem dL_runAll_15 : decode cL_runAll 15 = .ok (.ireturn, 1) := by decide +kernel
theorem dL_undo_0 : decode cL_undo 0 = .ok (.aload_n 1, 1) := by decide +kernel
theorem dL_undo_1 : decode cL_undo 1 = .ok (.iconst 0, 1) := by decide +kernel
theorem dL_undo_2 : decode cL_undo 2 = .ok (.aload_n 0, 1) := by decide +kernel
theorem dL_undo_3 : decode cL_undo 3 = .ok (.invokevirtual 47, 3) := by decide +kernel
theorem dL_undo_6 : decode cL_undo 6 = .ok (.i2l, 1) := by decide +kernel
theorem dL_undo_7 : decode cL_undo 7 = .ok (.lastore, 1) := by decide +kernel
theorem dL_undo_8 : decode cL_undo 8 = .ok (.goto 6, 3) := by decide +kernel
theorem dL_undo_11 : decode cL_undo 11 = .ok (.astore_n 2, 1) := by decide +kernel
theorem dL_undo_12 : decode cL_undo 12 = .ok (.iconst 1, 1) := by decide +kernel
theorem dL_undo_13 : decode cL_undo 13 = .ok (.ireturn, 1) := by decide +kernel
theorem dL_undo_14 : decode cL_undo 14 = .ok (.iconst 0, 1) := by decide +kernel
theorem dL_undo_15 : decode cL_undo 15 = .ok (.ireturn, 1) := by decide +kernel
theorem dL_sibling_0 : decode cL_sibling 0 = .ok (.aload 5, 2) := by decide +kernel
theorem dL_sibling_2 : decode cL_sibling 2 = .ok (.iconst 0, 1) := by decide +kernel
theorem dL_sibling_3 : decode cL_sibling 3 = .ok (.aload_n 0, 1) := by decide +kernel
theorem dL_sibling_4 : decode cL_sibling 4 = .ok (.iload_n 1, 1) := by decide +kernel
theorem dL_sibling_5 : decode cL_sibling 5 = .ok (.iload_n 2, 1) := by decide +kernel
theorem dL_sibling_6 : decode cL_sibling 6 = .ok (.iload_n 3, 1) := by decide +kernel
theorem dL_sibling_7 : decode cL_sibling 7 = .ok (.iload 4, 2) := by decide +kernel
theorem dL_sibling_9 : decode cL_sibling 9 = .ok (.invokevirtual 50, 3) := by decide +kernel
theorem dL_sibling_12 : decode cL_sibling 12 = .ok (.i2l, 1) := by decide +kernel
theorem dL_sibling_13 : decode cL_sibling 13 = .ok (.lastore, 1) := by decide +kernel
theorem dL_sibling_14 : decode cL_sibling 14 = .ok (.goto 11, 3) := by decide +kernel
theorem dL_sibling_17 : decode cL_sibling 17 = .ok (.astore 6, 2) := by decide +kernel
theorem dL_sibling_19 : decode cL_sibling 19 = .ok (.iconst 1, 1) := by decide +kernel
theorem dL_sibling_20 : decode cL_sibling 20 = .ok (.ireturn, 1) := by decide +kernel
theorem dL_sibling_21 : decode cL_sibling 21 = .ok (.astore 6, 2) := by decide +kernel
theorem dL_sibling_23 : decode cL_sibling 23 = .ok (.iconst 2, 1) := by decide +kernel
theorem dL_sibling_24 : decode cL_sibling 24 = .ok (.ireturn, 1) := by decide +kernel
theorem dL_sibling_25 : decode cL_sibling 25 = .ok (.iconst 0, 1) := by decide +kernel
theorem dL_sibling_26 : decode cL_sibling 26 = .ok (.ireturn, 1) := by decide +kernel
theorem dL_vector_0 : decode cL_vector 0 = .ok (.aload 4, 2) := by decide +kernel
theorem dL_vector_2 : decode cL_vector 2 = .ok (.iconst 0, 1) := by decide +kernel
theorem dL_vector_3 : decode cL_vector 3 = .ok (.aload_n 0, 1) := by decide +kernel
theorem dL_vector_4 : decode cL_vector 4 = .ok (.iload_n 1, 1) := by decide +kernel
theorem dL_vector_5 : decode cL_vector 5 = .ok (.iload_n 2, 1) := by decide +kernel
theorem dL_vector_6 : decode cL_vector 6 = .ok (.iload_n 3, 1) := by decide +kernel
theorem dL_vector_7 : decode cL_vector 7 = .ok (.invokevirtual 53, 3) := by decide +kernel
theorem dL_vector_10 : decode cL_vector 10 = .ok (.i2l, 1) := by decide +kernel
theorem dL_vector_11 : decode cL_vector 11 = .ok (.lastore, 1) := by decide +kernel
theorem dL_vector_12 : decode cL_vector 12 = .ok (.goto 7, 3) := by decide +kernel
theorem dL_vector_15 : decode cL_vector 15 = .ok (.astore 5, 2) := by decide +kernel
theorem dL_vector_17 : decode cL_vector 17 = .ok (.iconst 1, 1) := by decide +kernel
theorem dL_vector_18 : decode cL_vector 18 = .ok (.ireturn, 1) := by decide +kernel
theorem dL_vector_19 : decode cL_vector 19 = .ok (.iconst 0, 1) := by decide +kernel
theorem dL_vector_20 : decode cL_vector 20 = .ok (.ireturn, 1) := by decide +kernel
theorem dL_knows_0 : decode cL_knows 0 = .ok (.aload 4, 2) := by decide +kernel
theorem dL_knows_2 : decode cL_knows 2 = .ok (.iconst 0, 1) := by decide +kernel
theorem dL_knows_3 : decode cL_knows 3 = .ok (.aload_n 0, 1) := by decide +kernel
theorem dL_knows_4 : decode cL_knows 4 = .ok (.iload_n 1, 1) := by decide +kernel
theorem dL_knows_5 : decode cL_knows 5 = .ok (.iload_n 2, 1) := by decide +kernel
theorem dL_knows_6 : decode cL_knows 6 = .ok (.iload_n 3, 1) := by decide +kernel
theorem dL_knows_7 : decode cL_knows 7 = .ok (.invokevirtual 56, 3) := by decide +kernel
theorem dL_knows_10 : decode cL_knows 10 = .ok (.i2l, 1) := by decide +kernel
theorem dL_knows_11 : decode cL_knows 11 = .ok (.lastore, 1) := by decide +kernel
theorem dL_knows_12 : decode cL_knows 12 = .ok (.goto 7, 3) := by decide +kernel
theorem dL_knows_15 : decode cL_knows 15 = .ok (.astore 5, 2) := by decide +kernel
theorem dL_knows_17 : decode cL_knows 17 = .ok (.iconst 1, 1) := by decide +kernel
theorem dL_knows_18 : decode cL_knows 18 = .ok (.ireturn, 1) := by decide +kernel
theorem dL_knows_19 : decode cL_knows 19 = .ok (.iconst 0, 1) := by decide +kernel
theorem dL_knows_20 : decode cL_knows 20 = .ok (.ireturn, 1) := by decide +kernel
theorem dL_key_0 : decode cL_key 0 = .ok (.aload_n 3, 1) := by decide +kernel
theorem dL_key_1 : decode cL_key 1 = .ok (.iconst 0, 1) := by decide +kernel
theorem dL_key_2 : decode cL_key 2 = .ok (.aload_n 0, 1) := by decide +kernel
theorem dL_key_3 : decode cL_key 3 = .ok (.iload_n 1, 1) := by decide +kernel
theorem dL_key_4 : decode cL_key 4 = .ok (.iload_n 2, 1) := by decide +kernel
theorem dL_key_5 : decode cL_key 5 = .ok (.invokevirtual 59, 3) := by decide +kernel
theorem dL_key_8 : decode cL_key 8 = .ok (.i2l, 1) := by decide +kernel
theorem dL_key_9 : decode cL_key 9 = .ok (.lastore, 1) := by decide +kernel
theorem dL_key_10 : decode cL_key 10 = .ok (.goto 11, 3) := by decide +kernel
theorem dL_key_13 : decode cL_key 13 = .ok (.astore 4, 2) := by decide +kernel
theorem dL_key_15 : decode cL_key 15 = .ok (.iconst 1, 1) := by decide +kernel
theorem dL_key_16 : decode cL_key 16 = .ok (.ireturn, 1) := by decide +kernel
theorem dL_key_17 : decode cL_key 17 = .ok (.astore 4, 2) := by decide +kernel
theorem dL_key_19 : decode cL_key 19 = .ok (.iconst 2, 1) := by decide +kernel
theorem dL_key_20 : decode cL_key 20 = .ok (.ireturn, 1) := by decide +kernel
theorem dL_key_21 : decode cL_key 21 = .ok (.iconst 0, 1) := by decide +kernel
theorem dL_key_22 : decode cL_key 22 = .ok (.ireturn, 1) := by decide +kernel
theorem dL_count_0 : decode cL_count 0 = .ok (.aload_n 2, 1) := by decide +kernel
theorem dL_count_1 : decode cL_count 1 = .ok (.iconst 0, 1) := by decide +kernel
theorem dL_count_2 : decode cL_count 2 = .ok (.aload_n 0, 1) := by decide +kernel
theorem dL_count_3 : decode cL_count 3 = .ok (.iload_n 1, 1) := by decide +kernel
theorem dL_count_4 : decode cL_count 4 = .ok (.invokevirtual 62, 3) := by decide +kernel
theorem dL_count_7 : decode cL_count 7 = .ok (.i2l, 1) := by decide +kernel
theorem dL_count_8 : decode cL_count 8 = .ok (.lastore, 1) := by decide +kernel
theorem dL_count_9 : decode cL_count 9 = .ok (.goto 6, 3) := by decide +kernel
theorem dL_count_12 : decode cL_count 12 = .ok (.astore_n 3, 1) := by decide +kernel
theorem dL_count_13 : decode cL_count 13 = .ok (.iconst 1, 1) := by decide +kernel
theorem dL_count_14 : decode cL_count 14 = .ok (.ireturn, 1) := by decide +kernel
theorem dL_count_15 : decode cL_count 15 = .ok (.iconst 0, 1) := by decide +kernel
theorem dL_count_16 : decode cL_count 16 = .ok (.ireturn, 1) := by decide +kernel
theorem dL_ifWritten_0 : decode cL_ifWritten 0 = .ok (.aload 5, 2) := by decide +kernel
theorem dL_ifWritten_2 : decode cL_ifWritten 2 = .ok (.iconst 0, 1) := by decide +kernel
theorem dL_ifWritten_3 : decode cL_ifWritten 3 = .ok (.aload_n 0, 1) := by decide +kernel
theorem dL_ifWritten_4 : decode cL_ifWritten 4 = .ok (.iload_n 1, 1) := by decide +kernel
theorem dL_ifWritten_5 : decode cL_ifWritten 5 = .ok (.iload_n 2, 1) := by decide +kernel
theorem dL_ifWritten_6 : decode cL_ifWritten 6 = .ok (.iload_n 3, 1) := by decide +kernel
theorem dL_ifWritten_7 : decode cL_ifWritten 7 = .ok (.iload 4, 2) := by decide +kernel
theorem dL_ifWritten_9 : decode cL_ifWritten 9 = .ok (.invokevirtual 65, 3) := by decide +kernel
theorem dL_ifWritten_12 : decode cL_ifWritten 12 = .ok (.i2l, 1) := by decide +kernel
theorem dL_ifWritten_13 : decode cL_ifWritten 13 = .ok (.lastore, 1) := by decide +kernel
theorem dL_ifWritten_14 : decode cL_ifWritten 14 = .ok (.goto 11, 3) := by decide +kernel
theorem dL_ifWritten_17 : decode cL_ifWritten 17 = .ok (.astore 6, 2) := by decide +kernel
theorem dL_ifWritten_19 : decode cL_ifWritten 19 = .ok (.iconst 1, 1) := by decide +kernel
theorem dL_ifWritten_20 : decode cL_ifWritten 20 = .ok (.ireturn, 1) := by decide +kernel
theorem dL_ifWritten_21 : decode cL_ifWritten 21 = .ok (.astore 6, 2) := by decide +kernel
theorem dL_ifWritten_23 : decode cL_ifWritten 23 = .ok (.iconst 2, 1) := by decide +kernel
theorem dL_ifWritten_24 : decode cL_ifWritten 24 = .ok (.ireturn, 1) := by decide +kernel
theorem dL_ifWritten_25 : decode cL_ifWritten 25 = .ok (.iconst 0, 1) := by decide +kernel
theorem dL_ifWritten_26 : decode cL_ifWritten 26 = .ok (.ireturn, 1) := by decide +kernel
theorem dL_ifPulled_0 : decode cL_ifPulled 0 = .ok (.aload 5, 2) := by decide +kernel
theorem dL_ifPulled_2 : decode cL_ifPulled 2 = .ok (.iconst 0, 1) := by decide +kernel
theorem dL_ifPulled_3 : decode cL_ifPulled 3 = .ok (.aload_n 0, 1) := by decide +kernel
theorem dL_ifPulled_4 : decode cL_ifPulled 4 = .ok (.iload_n 1, 1) := by decide +kernel
theorem dL_ifPulled_5 : decode cL_ifPulled 5 = .ok (.iload_n 2, 1) := by decide +kernel
theorem dL_ifPulled_6 : decode cL_ifPulled 6 = .ok (.iload_n 3, 1) := by decide +kernel
theorem dL_ifPulled_7 : decode cL_ifPulled 7 = .ok (.iload 4, 2) := by decide +kernel
theorem dL_ifPulled_9 : decode cL_ifPulled 9 = .ok (.invokevirtual 68, 3) := by decide +kernel
theorem dL_ifPulled_12 : decode cL_ifPulled 12 = .ok (.i2l, 1) := by decide +kernel
theorem dL_ifPulled_13 : decode cL_ifPulled 13 = .ok (.lastore, 1) := by decide +kernel
theorem dL_ifPulled_14 : decode cL_ifPulled 14 = .ok (.goto 11, 3) := by decide +kernel
theorem dL_ifPulled_17 : decode cL_ifPulled 17 = .ok (.astore 6, 2) := by decide +kernel
theorem dL_ifPulled_19 : decode cL_ifPulled 19 = .ok (.iconst 1, 1) := by decide +kernel
theorem dL_ifPulled_20 : decode cL_ifPulled 20 = .ok (.ireturn, 1) := by decide +kernel
theorem dL_ifPulled_21 : decode cL_ifPulled 21 = .ok (.astore 6, 2) := by decide +kernel
theorem dL_ifPulled_23 : decode cL_ifPulled 23 = .ok (.iconst 2, 1) := by decide +kernel
theorem dL_ifPulled_24 : decode cL_ifPulled 24 = .ok (.ireturn, 1) := by decide +kernel
theorem dL_ifPulled_25 : decode cL_ifPulled 25 = .ok (.iconst 0, 1) := by decide +kernel
theorem dL_ifPulled_26 : decode cL_ifPulled 26 = .ok (.ireturn, 1) := by decide +kernel
theorem dL_whyNot_0 : decode cL_whyNot 0 = .ok (.aload_n 3, 1) := by decide +kernel
theorem dL_whyNot_1 : decode cL_whyNot 1 = .ok (.iconst 0, 1) := by decide +kernel
theorem dL_whyNot_2 : decode cL_whyNot 2 = .ok (.aload_n 0, 1) := by decide +kernel
theorem dL_whyNot_3 : decode cL_whyNot 3 = .ok (.iload_n 1, 1) := by decide +kernel
theorem dL_whyNot_4 : decode cL_whyNot 4 = .ok (.iload_n 2, 1) := by decide +kernel
theorem dL_whyNot_5 : decode cL_whyNot 5 = .ok (.invokevirtual 71, 3) := by decide +kernel
theorem dL_whyNot_8 : decode cL_whyNot 8 = .ok (.i2l, 1) := by decide +kernel
theorem dL_whyNot_9 : decode cL_whyNot 9 = .ok (.lastore, 1) := by decide +kernel
theorem dL_whyNot_10 : decode cL_whyNot 10 = .ok (.goto 7, 3) := by decide +kernel
theorem dL_whyNot_13 : decode cL_whyNot 13 = .ok (.astore 4, 2) := by decide +kernel
theorem dL_whyNot_15 : decode cL_whyNot 15 = .ok (.iconst 1, 1) := by decide +kernel
theorem dL_whyNot_16 : decode cL_whyNot 16 = .ok (.ireturn, 1) := by decide +kernel
theorem dL_whyNot_17 : decode cL_whyNot 17 = .ok (.iconst 0, 1) := by decide +kernel
theorem dL_whyNot_18 : decode cL_whyNot 18 = .ok (.ireturn, 1) := by decide +kernel
theorem dL_law_0 : decode cL_law 0 = .ok (.new 8, 3) := by decide +kernel
theorem dL_law_3 : decode cL_law 3 = .ok (.dup, 1) := by decide +kernel
theorem dL_law_4 : decode cL_law 4 = .ok (.invokespecial 74, 3) := by decide +kernel
theorem dL_law_7 : decode cL_law 7 = .ok (.astore_n 1, 1) := by decide +kernel
theorem dL_law_8 : decode cL_law 8 = .ok (.new 75, 3) := by decide +kernel
theorem dL_law_11 : decode cL_law 11 = .ok (.dup, 1) := by decide +kernel
theorem dL_law_12 : decode cL_law 12 = .ok (.invokespecial 77, 3) := by decide +kernel
theorem dL_law_15 : decode cL_law 15 = .ok (.astore_n 2, 1) := by decide +kernel
theorem dL_law_16 : decode cL_law 16 = .ok (.iconst 1, 1) := by decide +kernel
theorem dL_law_17 : decode cL_law 17 = .ok (.newarray .long, 2) := by decide +kernel
theorem dL_law_19 : decode cL_law 19 = .ok (.astore_n 3, 1) := by decide +kernel
theorem dL_law_20 : decode cL_law 20 = .ok (.iconst 0, 1) := by decide +kernel
theorem dL_law_21 : decode cL_law 21 = .ok (.istore 4, 2) := by decide +kernel
theorem dL_law_23 : decode cL_law 23 = .ok (.iload 4, 2) := by decide +kernel
theorem dL_law_25 : decode cL_law 25 = .ok (.aload_n 0, 1) := by decide +kernel
theorem dL_law_26 : decode cL_law 26 = .ok (.arraylength, 1) := by decide +kernel
theorem dL_law_27 : decode cL_law 27 = .ok (.iconst 5, 1) := by decide +kernel
theorem dL_law_28 : decode cL_law 28 = .ok (.isub, 1) := by decide +kernel
theorem dL_law_29 : decode cL_law 29 = .ok (.if_icmp .gt 1494, 3) := by decide +kernel
theorem dL_law_32 : decode cL_law 32 = .ok (.aload_n 0, 1) := by decide +kernel
theorem dL_law_33 : decode cL_law 33 = .ok (.iload 4, 2) := by decide +kernel
theorem dL_law_35 : decode cL_law 35 = .ok (.iaload, 1) := by decide +kernel
theorem dL_law_36 : decode cL_law 36 = .ok (.bipush 31, 2) := by decide +kernel
theorem dL_law_38 : decode cL_law 38 = .ok (.iand, 1) := by decide +kernel
theorem dL_law_39 : decode cL_law 39 = .ok (.tableswitch 1478 0 21 #[101, 181, 273, 353, 445, 513, 581, 625, 681, 694, 707, 751, 795, 887, 967, 1047, 1115, 1171, 1263, 1355, 1423, 1464], 101) := by decide +kernel
theorem dL_law_140 : decode cL_law 140 = .ok (.aload_n 1, 1) := by decide +kernel
theorem dL_law_141 : decode cL_law 141 = .ok (.aload_n 0, 1) := by decide +kernel
theorem dL_law_142 : decode cL_law 142 = .ok (.iload 4, 2) := by decide +kernel
theorem dL_law_144 : decode cL_law 144 = .ok (.iconst 1, 1) := by decide +kernel
theorem dL_law_145 : decode cL_law 145 = .ok (.iadd, 1) := by decide +kernel
theorem dL_law_146 : decode cL_law 146 = .ok (.iaload, 1) := by decide +kernel
theorem dL_law_147 : decode cL_law 147 = .ok (.aload_n 0, 1) := by decide +kernel
theorem dL_law_148 : decode cL_law 148 = .ok (.iload 4, 2) := by decide +kernel
theorem dL_law_150 : decode cL_law 150 = .ok (.iconst 2, 1) := by decide +kernel
theorem dL_law_151 : decode cL_law 151 = .ok (.iadd, 1) := by decide +kernel
theorem dL_law_152 : decode cL_law 152 = .ok (.iaload, 1) := by decide +kernel
theorem dL_law_153 : decode cL_law 153 = .ok (.aload_n 0, 1) := by decide +kernel
theorem dL_law_154 : decode cL_law 154 = .ok (.iload 4, 2) := by decide +kernel
theorem dL_law_156 : decode cL_law 156 = .ok (.iconst 3, 1) := by decide +kernel
theorem dL_law_157 : decode cL_law 157 = .ok (.iadd, 1) := by decide +kernel
theorem dL_law_158 : decode cL_law 158 = .ok (.iaload, 1) := by decide +kernel
theorem dL_law_159 : decode cL_law 159 = .ok (.aload_n 3, 1) := by decide +kernel
theorem dL_law_160 : decode cL_law 160 = .ok (.invokestatic 78, 3) := by decide +kernel
theorem dL_law_163 : decode cL_law 163 = .ok (.istore 5, 2) := by decide +kernel
theorem dL_law_165 : decode cL_law 165 = .ok (.aload_n 2, 1) := by decide +kernel
theorem dL_law_166 : decode cL_law 166 = .ok (.aload_n 0, 1) := by decide +kernel
theorem dL_law_167 : decode cL_law 167 = .ok (.iload 4, 2) := by decide +kernel
theorem dL_law_169 : decode cL_law 169 = .ok (.iconst 1, 1) := by decide +kernel
theorem dL_law_170 : decode cL_law 170 = .ok (.iadd, 1) := by decide +kernel
theorem dL_law_171 : decode cL_law 171 = .ok (.iaload, 1) := by decide +kernel
theorem dL_law_172 : decode cL_law 172 = .ok (.aload_n 0, 1) := by decide +kernel
theorem dL_law_173 : decode cL_law 173 = .ok (.iload 4, 2) := by decide +kernel
theorem dL_law_175 : decode cL_law 175 = .ok (.iconst 2, 1) := by decide +kernel
theorem dL_law_176 : decode cL_law 176 = .ok (.iadd, 1) := by decide +kernel
theorem dL_law_177 : decode cL_law 177 = .ok (.iaload, 1) := by decide +kernel
theorem dL_law_178 : decode cL_law 178 = .ok (.aload_n 0, 1) := by decide +kernel
theorem dL_law_179 : decode cL_law 179 = .ok (.iload 4, 2) := by decide +kernel
theorem dL_law_181 : decode cL_law 181 = .ok (.iconst 3, 1) := by decide +kernel
theorem dL_law_182 : decode cL_law 182 = .ok (.iadd, 1) := by decide +kernel
theorem dL_law_183 : decode cL_law 183 = .ok (.iaload, 1) := by decide +kernel
theorem dL_law_184 : decode cL_law 184 = .ok (.invokevirtual 83, 3) := by decide +kernel
theorem dL_law_187 : decode cL_law 187 = .ok (.istore 6, 2) := by decide +kernel
theorem dL_law_189 : decode cL_law 189 = .ok (.aload_n 2, 1) := by decide +kernel
theorem dL_law_190 : decode cL_law 190 = .ok (.invokevirtual 84, 3) := by decide +kernel
theorem dL_law_193 : decode cL_law 193 = .ok (.iload 5, 2) := by decide +kernel
theorem dL_law_195 : decode cL_law 195 = .ok (.if_icmp .eq 5, 3) := by decide +kernel
theorem dL_law_198 : decode cL_law 198 = .ok (.iconst 0, 1) := by decide +kernel
theorem dL_law_199 : decode cL_law 199 = .ok (.ireturn, 1) := by decide +kernel
theorem dL_law_200 : decode cL_law 200 = .ok (.iload 5, 2) := by decide +kernel
theorem dL_law_202 : decode cL_law 202 = .ok (.ifCond .ne 15, 3) := by decide +kernel
theorem dL_law_205 : decode cL_law 205 = .ok (.aload_n 3, 1) := by decide +kernel
theorem dL_law_206 : decode cL_law 206 = .ok (.iconst 0, 1) := by decide +kernel
theorem dL_law_207 : decode cL_law 207 = .ok (.laload, 1) := by decide +kernel
theorem dL_law_208 : decode cL_law 208 = .ok (.iload 6, 2) := by decide +kernel
theorem dL_law_210 : decode cL_law 210 = .ok (.i2l, 1) := by decide +kernel
theorem dL_law_211 : decode cL_law 211 = .ok (.lcmp, 1) := by decide +kernel
theorem dL_law_212 : decode cL_law 212 = .ok (.ifCond .eq 5, 3) := by decide +kernel
theorem dL_law_215 : decode cL_law 215 = .ok (.iconst 0, 1) := by decide +kernel
theorem dL_law_216 : decode cL_law 216 = .ok (.ireturn, 1) := by decide +kernel
theorem dL_law_217 : decode cL_law 217 = .ok (.goto 1300, 3) := by decide +kernel
theorem dL_law_220 : decode cL_law 220 = .ok (.aload_n 1, 1) := by decide +kernel
theorem dL_law_221 : decode cL_law 221 = .ok (.aload_n 0, 1) := by decide +kernel
theorem dL_law_222 : decode cL_law 222 = .ok (.iload 4, 2) := by decide +kernel
theorem dL_law_224 : decode cL_law 224 = .ok (.iconst 1, 1) := by decide +kernel
theorem dL_law_225 : decode cL_law 225 = .ok (.iadd, 1) := by decide +kernel
theorem dL_law_226 : decode cL_law 226 = .ok (.iaload, 1) := by decide +kernel
theorem dL_law_227 : decode cL_law 227 = .ok (.aload_n 0, 1) := by decide +kernel
theorem dL_law_228 : decode cL_law 228 = .ok (.iload 4, 2) := by decide +kernel
theorem dL_law_230 : decode cL_law 230 = .ok (.iconst 2, 1) := by decide +kernel
theorem dL_law_231 : decode cL_law 231 = .ok (.iadd, 1) := by decide +kernel
theorem dL_law_232 : decode cL_law 232 = .ok (.iaload, 1) := by decide +kernel
theorem dL_law_233 : decode cL_law 233 = .ok (.aload_n 0, 1) := by decide +kernel
theorem dL_law_234 : decode cL_law 234 = .ok (.iload 4, 2) := by decide +kernel
theorem dL_law_236 : decode cL_law 236 = .ok (.iconst 3, 1) := by decide +kernel
theorem dL_law_237 : decode cL_law 237 = .ok (.iadd, 1) := by decide +kernel
theorem dL_law_238 : decode cL_law 238 = .ok (.iaload, 1) := by decide +kernel
theorem dL_law_239 : decode cL_law 239 = .ok (.aload_n 0, 1) := by decide +kernel
theorem dL_law_240 : decode cL_law 240 = .ok (.iload 4, 2) := by decide +kernel
theorem dL_law_242 : decode cL_law 242 = .ok (.iconst 4, 1) := by decide +kernel
theorem dL_law_243 : decode cL_law 243 = .ok (.iadd, 1) := by decide +kernel
theorem dL_law_244 : decode cL_law 244 = .ok (.iaload, 1) := by decide +kernel
theorem dL_law_245 : decode cL_law 245 = .ok (.aload_n 3, 1) := by decide +kernel
theorem dL_law_246 : decode cL_law 246 = .ok (.invokestatic 87, 3) := by decide +kernel
theorem dL_law_249 : decode cL_law 249 = .ok (.istore 5, 2) := by decide +kernel
theorem dL_law_251 : decode cL_law 251 = .ok (.aload_n 2, 1) := by decide +kernel
theorem dL_law_252 : decode cL_law 252 = .ok (.aload_n 0, 1) := by decide +kernel
theorem dL_law_253 : decode cL_law 253 = .ok (.iload 4, 2) := by decide +kernel
theorem dL_law_255 : decode cL_law 255 = .ok (.iconst 1, 1) := by decide +kernel
theorem dL_law_256 : decode cL_law 256 = .ok (.iadd, 1) := by decide +kernel
theorem dL_law_257 : decode cL_law 257 = .ok (.iaload, 1) := by decide +kernel
theorem dL_law_258 : decode cL_law 258 = .ok (.aload_n 0, 1) := by decide +kernel
theorem dL_law_259 : decode cL_law 259 = .ok (.iload 4, 2) := by decide +kernel
theorem dL_law_261 : decode cL_law 261 = .ok (.iconst 2, 1) := by decide +kernel
theorem dL_law_262 : decode cL_law 262 = .ok (.iadd, 1) := by decide +kernel
theorem dL_law_263 : decode cL_law 263 = .ok (.iaload, 1) := by decide +kernel
theorem dL_law_264 : decode cL_law 264 = .ok (.aload_n 0, 1) := by decide +kernel
theorem dL_law_265 : decode cL_law 265 = .ok (.iload 4, 2) := by decide +kernel
theorem dL_law_267 : decode cL_law 267 = .ok (.iconst 3, 1) := by decide +kernel
theorem dL_law_268 : decode cL_law 268 = .ok (.iadd, 1) := by decide +kernel
theorem dL_law_269 : decode cL_law 269 = .ok (.iaload, 1) := by decide +kernel
theorem dL_law_270 : decode cL_law 270 = .ok (.aload_n 0, 1) := by decide +kernel
theorem dL_law_271 : decode cL_law 271 = .ok (.iload 4, 2) := by decide +kernel
theorem dL_law_273 : decode cL_law 273 = .ok (.iconst 4, 1) := by decide +kernel
theorem dL_law_274 : decode cL_law 274 = .ok (.iadd, 1) := by decide +kernel
theorem dL_law_275 : decode cL_law 275 = .ok (.iaload, 1) := by decide +kernel
theorem dL_law_276 : decode cL_law 276 = .ok (.invokevirtual 90, 3) := by decide +kernel
theorem dL_law_279 : decode cL_law 279 = .ok (.istore 6, 2) := by decide +kernel
theorem dL_law_281 : decode cL_law 281 = .ok (.aload_n 2, 1) := by decide +kernel
theorem dL_law_282 : decode cL_law 282 = .ok (.invokevirtual 84, 3) := by decide +kernel
theorem dL_law_285 : decode cL_law 285 = .ok (.iload 5, 2) := by decide +kernel
theorem dL_law_287 : decode cL_law 287 = .ok (.if_icmp .eq 5, 3) := by decide +kernel
theorem dL_law_290 : decode cL_law 290 = .ok (.iconst 0, 1) := by decide +kernel
theorem dL_law_291 : decode cL_law 291 = .ok (.ireturn, 1) := by decide +kernel
theorem dL_law_292 : decode cL_law 292 = .ok (.iload 5, 2) := by decide +kernel
theorem dL_law_294 : decode cL_law 294 = .ok (.ifCond .ne 15, 3) := by decide +kernel
theorem dL_law_297 : decode cL_law 297 = .ok (.aload_n 3, 1) := by decide +kernel
theorem dL_law_298 : decode cL_law 298 = .ok (.iconst 0, 1) := by decide +kernel
theorem dL_law_299 : decode cL_law 299 = .ok (.laload, 1) := by decide +kernel
theorem dL_law_300 : decode cL_law 300 = .ok (.iload 6, 2) := by decide +kernel
theorem dL_law_302 : decode cL_law 302 = .ok (.i2l, 1) := by decide +kernel
theorem dL_law_303 : decode cL_law 303 = .ok (.lcmp, 1) := by decide +kernel
theorem dL_law_304 : decode cL_law 304 = .ok (.ifCond .eq 5, 3) := by decide +kernel
theorem dL_law_307 : decode cL_law 307 = .ok (.iconst 0, 1) := by decide +kernel
theorem dL_law_308 : decode cL_law 308 = .ok (.ireturn, 1) := by decide +kernel
theorem dL_law_309 : decode cL_law 309 = .ok (.goto 1208, 3) := by decide +kernel
theorem dL_law_312 : decode cL_law 312 = .ok (.aload_n 1, 1) := by decide +kernel
theorem dL_law_313 : decode cL_law 313 = .ok (.aload_n 0, 1) := by decide +kernel
theorem dL_law_314 : decode cL_law 314 = .ok (.iload 4, 2) := by decide +kernel
theorem dL_law_316 : decode cL_law 316 = .ok (.iconst 1, 1) := by decide +kernel
theorem dL_law_317 : decode cL_law 317 = .ok (.iadd, 1) := by decide +kernel
theorem dL_law_318 : decode cL_law 318 = .ok (.iaload, 1) := by decide +kernel
theorem dL_law_319 : decode cL_law 319 = .ok (.aload_n 0, 1) := by decide +kernel
theorem dL_law_320 : decode cL_law 320 = .ok (.iload 4, 2) := by decide +kernel
theorem dL_law_322 : decode cL_law 322 = .ok (.iconst 2, 1) := by decide +kernel
theorem dL_law_323 : decode cL_law 323 = .ok (.iadd, 1) := by decide +kernel
theorem dL_law_324 : decode cL_law 324 = .ok (.iaload, 1) := by decide +kernel
theorem dL_law_325 : decode cL_law 325 = .ok (.aload_n 0, 1) := by decide +kernel
theorem dL_law_326 : decode cL_law 326 = .ok (.iload 4, 2) := by decide +kernel
theorem dL_law_328 : decode cL_law 328 = .ok (.iconst 3, 1) := by decide +kernel
theorem dL_law_329 : decode cL_law 329 = .ok (.iadd, 1) := by decide +kernel
theorem dL_law_330 : decode cL_law 330 = .ok (.iaload, 1) := by decide +kernel
theorem dL_law_331 : decode cL_law 331 = .ok (.aload_n 3, 1) := by decide +kernel
theorem dL_law_332 : decode cL_law 332 = .ok (.invokestatic 91, 3) := by decide +kernel
theorem dL_law_335 : decode cL_law 335 = .ok (.istore 5, 2) := by decide +kernel
theorem dL_law_337 : decode cL_law 337 = .ok (.aload_n 2, 1) := by decide +kernel
theorem dL_law_338 : decode cL_law 338 = .ok (.aload_n 0, 1) := by decide +kernel
theorem dL_law_339 : decode cL_law 339 = .ok (.iload 4, 2) := by decide +kernel
theorem dL_law_341 : decode cL_law 341 = .ok (.iconst 1, 1) := by decide +kernel
theorem dL_law_342 : decode cL_law 342 = .ok (.iadd, 1) := by decide +kernel
theorem dL_law_343 : decode cL_law 343 = .ok (.iaload, 1) := by decide +kernel
theorem dL_law_344 : decode cL_law 344 = .ok (.aload_n 0, 1) := by decide +kernel
theorem dL_law_345 : decode cL_law 345 = .ok (.iload 4, 2) := by decide +kernel
theorem dL_law_347 : decode cL_law 347 = .ok (.iconst 2, 1) := by decide +kernel
theorem dL_law_348 : decode cL_law 348 = .ok (.iadd, 1) := by decide +kernel
theorem dL_law_349 : decode cL_law 349 = .ok (.iaload, 1) := by decide +kernel
theorem dL_law_350 : decode cL_law 350 = .ok (.aload_n 0, 1) := by decide +kernel
theorem dL_law_351 : decode cL_law 351 = .ok (.iload 4, 2) := by decide +kernel
theorem dL_law_353 : decode cL_law 353 = .ok (.iconst 3, 1) := by decide +kernel
theorem dL_law_354 : decode cL_law 354 = .ok (.iadd, 1) := by decide +kernel
theorem dL_law_355 : decode cL_law 355 = .ok (.iaload, 1) := by decide +kernel
theorem dL_law_356 : decode cL_law 356 = .ok (.invokevirtual 93, 3) := by decide +kernel
theorem dL_law_359 : decode cL_law 359 = .ok (.istore 6, 2) := by decide +kernel
theorem dL_law_361 : decode cL_law 361 = .ok (.aload_n 2, 1) := by decide +kernel
theorem dL_law_362 : decode cL_law 362 = .ok (.invokevirtual 84, 3) := by decide +kernel
theorem dL_law_365 : decode cL_law 365 = .ok (.iload 5, 2) := by decide +kernel
theorem dL_law_367 : decode cL_law 367 = .ok (.if_icmp .eq 5, 3) := by decide +kernel
theorem dL_law_370 : decode cL_law 370 = .ok (.iconst 0, 1) := by decide +kernel
theorem dL_law_371 : decode cL_law 371 = .ok (.ireturn, 1) := by decide +kernel
theorem dL_law_372 : decode cL_law 372 = .ok (.iload 5, 2) := by decide +kernel
theorem dL_law_374 : decode cL_law 374 = .ok (.ifCond .ne 15, 3) := by decide +kernel
theorem dL_law_377 : decode cL_law 377 = .ok (.aload_n 3, 1) := by decide +kernel
theorem dL_law_378 : decode cL_law 378 = .ok (.iconst 0, 1) := by decide +kernel
theorem dL_law_379 : decode cL_law 379 = .ok (.laload, 1) := by decide +kernel
theorem dL_law_380 : decode cL_law 380 = .ok (.iload 6, 2) := by decide +kernel
theorem dL_law_382 : decode cL_law 382 = .ok (.i2l, 1) := by decide +kernel
theorem dL_law_383 : decode cL_law 383 = .ok (.lcmp, 1) := by decide +kernel
theorem dL_law_384 : decode cL_law 384 = .ok (.ifCond .eq 5, 3) := by decide +kernel
theorem dL_law_387 : decode cL_law 387 = .ok (.iconst 0, 1) := by decide +kernel
theorem dL_law_388 : decode cL_law 388 = .ok (.ireturn, 1) := by decide +kernel
theorem dL_law_389 : decode cL_law 389 = .ok (.goto 1128, 3) := by decide +kernel
theorem dL_law_392 : decode cL_law 392 = .ok (.aload_n 1, 1) := by decide +kernel
theorem dL_law_393 : decode cL_law 393 = .ok (.aload_n 0, 1) := by decide +kernel
theorem dL_law_394 : decode cL_law 394 = .ok (.iload 4, 2) := by decide +kernel
theorem dL_law_396 : decode cL_law 396 = .ok (.iconst 1, 1) := by decide +kernel
theorem dL_law_397 : decode cL_law 397 = .ok (.iadd, 1) := by decide +kernel
theorem dL_law_398 : decode cL_law 398 = .ok (.iaload, 1) := by decide +kernel
theorem dL_law_399 : decode cL_law 399 = .ok (.aload_n 0, 1) := by decide +kernel
theorem dL_law_400 : decode cL_law 400 = .ok (.iload 4, 2) := by decide +kernel
theorem dL_law_402 : decode cL_law 402 = .ok (.iconst 2, 1) := by decide +kernel
theorem dL_law_403 : decode cL_law 403 = .ok (.iadd, 1) := by decide +kernel
theorem dL_law_404 : decode cL_law 404 = .ok (.iaload, 1) := by decide +kernel
theorem dL_law_405 : decode cL_law 405 = .ok (.aload_n 0, 1) := by decide +kernel
theorem dL_law_406 : decode cL_law 406 = .ok (.iload 4, 2) := by decide +kernel
theorem dL_law_408 : decode cL_law 408 = .ok (.iconst 3, 1) := by decide +kernel
theorem dL_law_409 : decode cL_law 409 = .ok (.iadd, 1) := by decide +kernel
theorem dL_law_410 : decode cL_law 410 = .ok (.iaload, 1) := by decide +kernel
theorem dL_law_411 : decode cL_law 411 = .ok (.aload_n 0, 1) := by decide +kernel
theorem dL_law_412 : decode cL_law 412 = .ok (.iload 4, 2) := by decide +kernel
theorem dL_law_414 : decode cL_law 414 = .ok (.iconst 4, 1) := by decide +kernel
theorem dL_law_415 : decode cL_law 415 = .ok (.iadd, 1) := by decide +kernel
theorem dL_law_416 : decode cL_law 416 = .ok (.iaload, 1) := by decide +kernel
theorem dL_law_417 : decode cL_law 417 = .ok (.aload_n 3, 1) := by decide +kernel
theorem dL_law_418 : decode cL_law 418 = .ok (.invokestatic 94, 3) := by decide +kernel
theorem dL_law_421 : decode cL_law 421 = .ok (.istore 5, 2) := by decide +kernel
theorem dL_law_423 : decode cL_law 423 = .ok (.aload_n 2, 1) := by decide +kernel
theorem dL_law_424 : decode cL_law 424 = .ok (.aload_n 0, 1) := by decide +kernel
theorem dL_law_425 : decode cL_law 425 = .ok (.iload 4, 2) := by decide +kernel
theorem dL_law_427 : decode cL_law 427 = .ok (.iconst 1, 1) := by decide +kernel
theorem dL_law_428 : decode cL_law 428 = .ok (.iadd, 1) := by decide +kernel
theorem dL_law_429 : decode cL_law 429 = .ok (.iaload, 1) := by decide +kernel
theorem dL_law_430 : decode cL_law 430 = .ok (.aload_n 0, 1) := by decide +kernel
theorem dL_law_431 : decode cL_law 431 = .ok (.iload 4, 2) := by decide +kernel
theorem dL_law_433 : decode cL_law 433 = .ok (.iconst 2, 1) := by decide +kernel
theorem dL_law_434 : decode cL_law 434 = .ok (.iadd, 1) := by decide +kernel
theorem dL_law_435 : decode cL_law 435 = .ok (.iaload, 1) := by decide +kernel
theorem dL_law_436 : decode cL_law 436 = .ok (.aload_n 0, 1) := by decide +kernel
theorem dL_law_437 : decode cL_law 437 = .ok (.iload 4, 2) := by decide +kernel
theorem dL_law_439 : decode cL_law 439 = .ok (.iconst 3, 1) := by decide +kernel
theorem dL_law_440 : decode cL_law 440 = .ok (.iadd, 1) := by decide +kernel
theorem dL_law_441 : decode cL_law 441 = .ok (.iaload, 1) := by decide +kernel
theorem dL_law_442 : decode cL_law 442 = .ok (.aload_n 0, 1) := by decide +kernel
theorem dL_law_443 : decode cL_law 443 = .ok (.iload 4, 2) := by decide +kernel
theorem dL_law_445 : decode cL_law 445 = .ok (.iconst 4, 1) := by decide +kernel
theorem dL_law_446 : decode cL_law 446 = .ok (.iadd, 1) := by decide +kernel
theorem dL_law_447 : decode cL_law 447 = .ok (.iaload, 1) := by decide +kernel
theorem dL_law_448 : decode cL_law 448 = .ok (.invokevirtual 96, 3) := by decide +kernel
theorem dL_law_451 : decode cL_law 451 = .ok (.istore 6, 2) := by decide +kernel
theorem dL_law_453 : decode cL_law 453 = .ok (.aload_n 2, 1) := by decide +kernel
theorem dL_law_454 : decode cL_law 454 = .ok (.invokevirtual 84, 3) := by decide +kernel
theorem dL_law_457 : decode cL_law 457 = .ok (.iload 5, 2) := by decide +kernel
theorem dL_law_459 : decode cL_law 459 = .ok (.if_icmp .eq 5, 3) := by decide +kernel
theorem dL_law_462 : decode cL_law 462 = .ok (.iconst 0, 1) := by decide +kernel
theorem dL_law_463 : decode cL_law 463 = .ok (.ireturn, 1) := by decide +kernel
theorem dL_law_464 : decode cL_law 464 = .ok (.iload 5, 2) := by decide +kernel
theorem dL_law_466 : decode cL_law 466 = .ok (.ifCond .ne 15, 3) := by decide +kernel
theorem dL_law_469 : decode cL_law 469 = .ok (.aload_n 3, 1) := by decide +kernel
theorem dL_law_470 : decode cL_law 470 = .ok (.iconst 0, 1) := by decide +kernel
theorem dL_law_471 : decode cL_law 471 = .ok (.laload, 1) := by decide +kernel
theorem dL_law_472 : decode cL_law 472 = .ok (.iload 6, 2) := by decide +kernel
theorem dL_law_474 : decode cL_law 474 = .ok (.i2l, 1) := by decide +kernel
theorem dL_law_475 : decode cL_law 475 = .ok (.lcmp, 1) := by decide +kernel
theorem dL_law_476 : decode cL_law 476 = .ok (.ifCond .eq 5, 3) := by decide +kernel
theorem dL_law_479 : decode cL_law 479 = .ok (.iconst 0, 1) := by decide +kernel
theorem dL_law_480 : decode cL_law 480 = .ok (.ireturn, 1) := by decide +kernel
theorem dL_law_481 : decode cL_law 481 = .ok (.goto 1036, 3) := by decide +kernel
theorem dL_law_484 : decode cL_law 484 = .ok (.aload_n 1, 1) := by decide +kernel
theorem dL_law_485 : decode cL_law 485 = .ok (.aload_n 0, 1) := by decide +kernel
theorem dL_law_486 : decode cL_law 486 = .ok (.iload 4, 2) := by decide +kernel
theorem dL_law_488 : decode cL_law 488 = .ok (.iconst 1, 1) := by decide +kernel
theorem dL_law_489 : decode cL_law 489 = .ok (.iadd, 1) := by decide +kernel
theorem dL_law_490 : decode cL_law 490 = .ok (.iaload, 1) := by decide +kernel
theorem dL_law_491 : decode cL_law 491 = .ok (.aload_n 0, 1) := by decide +kernel
theorem dL_law_492 : decode cL_law 492 = .ok (.iload 4, 2) := by decide +kernel
theorem dL_law_494 : decode cL_law 494 = .ok (.iconst 2, 1) := by decide +kernel
theorem dL_law_495 : decode cL_law 495 = .ok (.iadd, 1) := by decide +kernel
theorem dL_law_496 : decode cL_law 496 = .ok (.iaload, 1) := by decide +kernel
theorem dL_law_497 : decode cL_law 497 = .ok (.aload_n 3, 1) := by decide +kernel
theorem dL_law_498 : decode cL_law 498 = .ok (.invokestatic 97, 3) := by decide +kernel
theorem dL_law_501 : decode cL_law 501 = .ok (.istore 5, 2) := by decide +kernel
theorem dL_law_503 : decode cL_law 503 = .ok (.aload_n 2, 1) := by decide +kernel
theorem dL_law_504 : decode cL_law 504 = .ok (.aload_n 0, 1) := by decide +kernel
theorem dL_law_505 : decode cL_law 505 = .ok (.iload 4, 2) := by decide +kernel
theorem dL_law_507 : decode cL_law 507 = .ok (.iconst 1, 1) := by decide +kernel
theorem dL_law_508 : decode cL_law 508 = .ok (.iadd, 1) := by decide +kernel
theorem dL_law_509 : decode cL_law 509 = .ok (.iaload, 1) := by decide +kernel
theorem dL_law_510 : decode cL_law 510 = .ok (.aload_n 0, 1) := by decide +kernel
theorem dL_law_511 : decode cL_law 511 = .ok (.iload 4, 2) := by decide +kernel
theorem dL_law_513 : decode cL_law 513 = .ok (.iconst 2, 1) := by decide +kernel
theorem dL_law_514 : decode cL_law 514 = .ok (.iadd, 1) := by decide +kernel
theorem dL_law_515 : decode cL_law 515 = .ok (.iaload, 1) := by decide +kernel
theorem dL_law_516 : decode cL_law 516 = .ok (.invokevirtual 100, 3) := by decide +kernel
theorem dL_law_519 : decode cL_law 519 = .ok (.istore 6, 2) := by decide +kernel
theorem dL_law_521 : decode cL_law 521 = .ok (.aload_n 2, 1) := by decide +kernel
theorem dL_law_522 : decode cL_law 522 = .ok (.invokevirtual 84, 3) := by decide +kernel
theorem dL_law_525 : decode cL_law 525 = .ok (.iload 5, 2) := by decide +kernel
theorem dL_law_527 : decode cL_law 527 = .ok (.if_icmp .eq 5, 3) := by decide +kernel
theorem dL_law_530 : decode cL_law 530 = .ok (.iconst 0, 1) := by decide +kernel
theorem dL_law_531 : decode cL_law 531 = .ok (.ireturn, 1) := by decide +kernel
theorem dL_law_532 : decode cL_law 532 = .ok (.iload 5, 2) := by decide +kernel
theorem dL_law_534 : decode cL_law 534 = .ok (.ifCond .ne 15, 3) := by decide +kernel
theorem dL_law_537 : decode cL_law 537 = .ok (.aload_n 3, 1) := by decide +kernel
theorem dL_law_538 : decode cL_law 538 = .ok (.iconst 0, 1) := by decide +kernel
theorem dL_law_539 : decode cL_law 539 = .ok (.laload, 1) := by decide +kernel
theorem dL_law_540 : decode cL_law 540 = .ok (.iload 6, 2) := by decide +kernel
theorem dL_law_542 : decode cL_law 542 = .ok (.i2l, 1) := by decide +kernel
theorem dL_law_543 : decode cL_law 543 = .ok (.lcmp, 1) := by decide +kernel
theorem dL_law_544 : decode cL_law 544 = .ok (.ifCond .eq 5, 3) := by decide +kernel
theorem dL_law_547 : decode cL_law 547 = .ok (.iconst 0, 1) := by decide +kernel
theorem dL_law_548 : decode cL_law 548 = .ok (.ireturn, 1) := by decide +kernel
theorem dL_law_549 : decode cL_law 549 = .ok (.goto 968, 3) := by decide +kernel
theorem dL_law_552 : decode cL_law 552 = .ok (.aload_n 1, 1) := by decide +kernel
theorem dL_law_553 : decode cL_law 553 = .ok (.aload_n 0, 1) := by decide +kernel
theorem dL_law_554 : decode cL_law 554 = .ok (.iload 4, 2) := by decide +kernel
theorem dL_law_556 : decode cL_law 556 = .ok (.iconst 1, 1) := by decide +kernel
theorem dL_law_557 : decode cL_law 557 = .ok (.iadd, 1) := by decide +kernel
theorem dL_law_558 : decode cL_law 558 = .ok (.iaload, 1) := by decide +kernel
theorem dL_law_559 : decode cL_law 559 = .ok (.aload_n 0, 1) := by decide +kernel
theorem dL_law_560 : decode cL_law 560 = .ok (.iload 4, 2) := by decide +kernel
theorem dL_law_562 : decode cL_law 562 = .ok (.iconst 2, 1) := by decide +kernel
theorem dL_law_563 : decode cL_law 563 = .ok (.iadd, 1) := by decide +kernel
theorem dL_law_564 : decode cL_law 564 = .ok (.iaload, 1) := by decide +kernel
theorem dL_law_565 : decode cL_law 565 = .ok (.aload_n 3, 1) := by decide +kernel
theorem dL_law_566 : decode cL_law 566 = .ok (.invokestatic 101, 3) := by decide +kernel
theorem dL_law_569 : decode cL_law 569 = .ok (.istore 5, 2) := by decide +kernel
theorem dL_law_571 : decode cL_law 571 = .ok (.aload_n 2, 1) := by decide +kernel
theorem dL_law_572 : decode cL_law 572 = .ok (.aload_n 0, 1) := by decide +kernel
theorem dL_law_573 : decode cL_law 573 = .ok (.iload 4, 2) := by decide +kernel
theorem dL_law_575 : decode cL_law 575 = .ok (.iconst 1, 1) := by decide +kernel
theorem dL_law_576 : decode cL_law 576 = .ok (.iadd, 1) := by decide +kernel
theorem dL_law_577 : decode cL_law 577 = .ok (.iaload, 1) := by decide +kernel
theorem dL_law_578 : decode cL_law 578 = .ok (.aload_n 0, 1) := by decide +kernel
theorem dL_law_579 : decode cL_law 579 = .ok (.iload 4, 2) := by decide +kernel
theorem dL_law_581 : decode cL_law 581 = .ok (.iconst 2, 1) := by decide +kernel
theorem dL_law_582 : decode cL_law 582 = .ok (.iadd, 1) := by decide +kernel
theorem dL_law_583 : decode cL_law 583 = .ok (.iaload, 1) := by decide +kernel
theorem dL_law_584 : decode cL_law 584 = .ok (.invokevirtual 103, 3) := by decide +kernel
theorem dL_law_587 : decode cL_law 587 = .ok (.istore 6, 2) := by decide +kernel
theorem dL_law_589 : decode cL_law 589 = .ok (.aload_n 2, 1) := by decide +kernel
theorem dL_law_590 : decode cL_law 590 = .ok (.invokevirtual 84, 3) := by decide +kernel
theorem dL_law_593 : decode cL_law 593 = .ok (.iload 5, 2) := by decide +kernel
theorem dL_law_595 : decode cL_law 595 = .ok (.if_icmp .eq 5, 3) := by decide +kernel
theorem dL_law_598 : decode cL_law 598 = .ok (.iconst 0, 1) := by decide +kernel
theorem dL_law_599 : decode cL_law 599 = .ok (.ireturn, 1) := by decide +kernel
theorem dL_law_600 : decode cL_law 600 = .ok (.iload 5, 2) := by decide +kernel
theorem dL_law_602 : decode cL_law 602 = .ok (.ifCond .ne 15, 3) := by decide +kernel
theorem dL_law_605 : decode cL_law 605 = .ok (.aload_n 3, 1) := by decide +kernel
theorem dL_law_606 : decode cL_law 606 = .ok (.iconst 0, 1) := by decide +kernel
theorem dL_law_607 : decode cL_law 607 = .ok (.laload, 1) := by decide +kernel
theorem dL_law_608 : decode cL_law 608 = .ok (.iload 6, 2) := by decide +kernel
theorem dL_law_610 : decode cL_law 610 = .ok (.i2l, 1) := by decide +kernel
theorem dL_law_611 : decode cL_law 611 = .ok (.lcmp, 1) := by decide +kernel
theorem dL_law_612 : decode cL_law 612 = .ok (.ifCond .eq 5, 3) := by decide +kernel
theorem dL_law_615 : decode cL_law 615 = .ok (.iconst 0, 1) := by decide +kernel
theorem dL_law_616 : decode cL_law 616 = .ok (.ireturn, 1) := by decide +kernel
theorem dL_law_617 : decode cL_law 617 = .ok (.goto 900, 3) := by decide +kernel
theorem dL_law_620 : decode cL_law 620 = .ok (.aload_n 1, 1) := by decide +kernel
theorem dL_law_621 : decode cL_law 621 = .ok (.aload_n 3, 1) := by decide +kernel
theorem dL_law_622 : decode cL_law 622 = .ok (.invokestatic 104, 3) := by decide +kernel
theorem dL_law_625 : decode cL_law 625 = .ok (.istore 5, 2) := by decide +kernel
theorem dL_law_627 : decode cL_law 627 = .ok (.aload_n 2, 1) := by decide +kernel
theorem dL_law_628 : decode cL_law 628 = .ok (.invokevirtual 107, 3) := by decide +kernel
theorem dL_law_631 : decode cL_law 631 = .ok (.istore 6, 2) := by decide +kernel
theorem dL_law_633 : decode cL_law 633 = .ok (.aload_n 2, 1) := by decide +kernel
theorem dL_law_634 : decode cL_law 634 = .ok (.invokevirtual 84, 3) := by decide +kernel
theorem dL_law_637 : decode cL_law 637 = .ok (.iload 5, 2) := by decide +kernel
theorem dL_law_639 : decode cL_law 639 = .ok (.if_icmp .eq 5, 3) := by decide +kernel
theorem dL_law_642 : decode cL_law 642 = .ok (.iconst 0, 1) := by decide +kernel
theorem dL_law_643 : decode cL_law 643 = .ok (.ireturn, 1) := by decide +kernel
theorem dL_law_644 : decode cL_law 644 = .ok (.iload 5, 2) := by decide +kernel
theorem dL_law_646 : decode cL_law 646 = .ok (.ifCond .ne 15, 3) := by decide +kernel
theorem dL_law_649 : decode cL_law 649 = .ok (.aload_n 3, 1) := by decide +kernel
theorem dL_law_650 : decode cL_law 650 = .ok (.iconst 0, 1) := by decide +kernel
theorem dL_law_651 : decode cL_law 651 = .ok (.laload, 1) := by decide +kernel
theorem dL_law_652 : decode cL_law 652 = .ok (.iload 6, 2) := by decide +kernel
theorem dL_law_654 : decode cL_law 654 = .ok (.i2l, 1) := by decide +kernel
theorem dL_law_655 : decode cL_law 655 = .ok (.lcmp, 1) := by decide +kernel
theorem dL_law_656 : decode cL_law 656 = .ok (.ifCond .eq 5, 3) := by decide +kernel
theorem dL_law_659 : decode cL_law 659 = .ok (.iconst 0, 1) := by decide +kernel
theorem dL_law_660 : decode cL_law 660 = .ok (.ireturn, 1) := by decide +kernel
theorem dL_law_661 : decode cL_law 661 = .ok (.goto 856, 3) := by decide +kernel
theorem dL_law_664 : decode cL_law 664 = .ok (.aload_n 1, 1) := by decide +kernel
theorem dL_law_665 : decode cL_law 665 = .ok (.aload_n 0, 1) := by decide +kernel
theorem dL_law_666 : decode cL_law 666 = .ok (.iload 4, 2) := by decide +kernel
theorem dL_law_668 : decode cL_law 668 = .ok (.iconst 1, 1) := by decide +kernel
theorem dL_law_669 : decode cL_law 669 = .ok (.iadd, 1) := by decide +kernel
theorem dL_law_670 : decode cL_law 670 = .ok (.iaload, 1) := by decide +kernel
theorem dL_law_671 : decode cL_law 671 = .ok (.aload_n 3, 1) := by decide +kernel
theorem dL_law_672 : decode cL_law 672 = .ok (.invokestatic 108, 3) := by decide +kernel
theorem dL_law_675 : decode cL_law 675 = .ok (.istore 5, 2) := by decide +kernel
theorem dL_law_677 : decode cL_law 677 = .ok (.aload_n 2, 1) := by decide +kernel
theorem dL_law_678 : decode cL_law 678 = .ok (.aload_n 0, 1) := by decide +kernel
theorem dL_law_679 : decode cL_law 679 = .ok (.iload 4, 2) := by decide +kernel
theorem dL_law_681 : decode cL_law 681 = .ok (.iconst 1, 1) := by decide +kernel
theorem dL_law_682 : decode cL_law 682 = .ok (.iadd, 1) := by decide +kernel
theorem dL_law_683 : decode cL_law 683 = .ok (.iaload, 1) := by decide +kernel
theorem dL_law_684 : decode cL_law 684 = .ok (.invokevirtual 111, 3) := by decide +kernel
theorem dL_law_687 : decode cL_law 687 = .ok (.istore 6, 2) := by decide +kernel
theorem dL_law_689 : decode cL_law 689 = .ok (.aload_n 2, 1) := by decide +kernel
theorem dL_law_690 : decode cL_law 690 = .ok (.invokevirtual 84, 3) := by decide +kernel
theorem dL_law_693 : decode cL_law 693 = .ok (.iload 5, 2) := by decide +kernel
theorem dL_law_695 : decode cL_law 695 = .ok (.if_icmp .eq 5, 3) := by decide +kernel
theorem dL_law_698 : decode cL_law 698 = .ok (.iconst 0, 1) := by decide +kernel
theorem dL_law_699 : decode cL_law 699 = .ok (.ireturn, 1) := by decide +kernel
theorem dL_law_700 : decode cL_law 700 = .ok (.iload 5, 2) := by decide +kernel
theorem dL_law_702 : decode cL_law 702 = .ok (.ifCond .ne 15, 3) := by decide +kernel
theorem dL_law_705 : decode cL_law 705 = .ok (.aload_n 3, 1) := by decide +kernel
theorem dL_law_706 : decode cL_law 706 = .ok (.iconst 0, 1) := by decide +kernel
theorem dL_law_707 : decode cL_law 707 = .ok (.laload, 1) := by decide +kernel
theorem dL_law_708 : decode cL_law 708 = .ok (.iload 6, 2) := by decide +kernel
theorem dL_law_710 : decode cL_law 710 = .ok (.i2l, 1) := by decide +kernel
theorem dL_law_711 : decode cL_law 711 = .ok (.lcmp, 1) := by decide +kernel
theorem dL_law_712 : decode cL_law 712 = .ok (.ifCond .eq 5, 3) := by decide +kernel
theorem dL_law_715 : decode cL_law 715 = .ok (.iconst 0, 1) := by decide +kernel
theorem dL_law_716 : decode cL_law 716 = .ok (.ireturn, 1) := by decide +kernel
theorem dL_law_717 : decode cL_law 717 = .ok (.goto 800, 3) := by decide +kernel
theorem dL_law_720 : decode cL_law 720 = .ok (.aload_n 1, 1) := by decide +kernel
theorem dL_law_721 : decode cL_law 721 = .ok (.invokevirtual 112, 3) := by decide +kernel
theorem dL_law_724 : decode cL_law 724 = .ok (.aload_n 2, 1) := by decide +kernel
theorem dL_law_725 : decode cL_law 725 = .ok (.invokevirtual 115, 3) := by decide +kernel
theorem dL_law_728 : decode cL_law 728 = .ok (.if_icmp .eq 789, 3) := by decide +kernel
theorem dL_law_731 : decode cL_law 731 = .ok (.iconst 0, 1) := by decide +kernel
theorem dL_law_732 : decode cL_law 732 = .ok (.ireturn, 1) := by decide +kernel
theorem dL_law_733 : decode cL_law 733 = .ok (.aload_n 1, 1) := by decide +kernel
theorem dL_law_734 : decode cL_law 734 = .ok (.invokevirtual 116, 3) := by decide +kernel
theorem dL_law_737 : decode cL_law 737 = .ok (.aload_n 2, 1) := by decide +kernel
theorem dL_law_738 : decode cL_law 738 = .ok (.invokevirtual 119, 3) := by decide +kernel
theorem dL_law_741 : decode cL_law 741 = .ok (.if_icmp .eq 776, 3) := by decide +kernel
theorem dL_law_744 : decode cL_law 744 = .ok (.iconst 0, 1) := by decide +kernel
theorem dL_law_745 : decode cL_law 745 = .ok (.ireturn, 1) := by decide +kernel
theorem dL_law_746 : decode cL_law 746 = .ok (.aload_n 1, 1) := by decide +kernel
theorem dL_law_747 : decode cL_law 747 = .ok (.aload_n 3, 1) := by decide +kernel
theorem dL_law_748 : decode cL_law 748 = .ok (.invokestatic 120, 3) := by decide +kernel
theorem dL_law_751 : decode cL_law 751 = .ok (.istore 5, 2) := by decide +kernel
theorem dL_law_753 : decode cL_law 753 = .ok (.aload_n 2, 1) := by decide +kernel
theorem dL_law_754 : decode cL_law 754 = .ok (.invokevirtual 122, 3) := by decide +kernel
theorem dL_law_757 : decode cL_law 757 = .ok (.istore 6, 2) := by decide +kernel
theorem dL_law_759 : decode cL_law 759 = .ok (.aload_n 2, 1) := by decide +kernel
theorem dL_law_760 : decode cL_law 760 = .ok (.invokevirtual 84, 3) := by decide +kernel
theorem dL_law_763 : decode cL_law 763 = .ok (.iload 5, 2) := by decide +kernel
theorem dL_law_765 : decode cL_law 765 = .ok (.if_icmp .eq 5, 3) := by decide +kernel
theorem dL_law_768 : decode cL_law 768 = .ok (.iconst 0, 1) := by decide +kernel
theorem dL_law_769 : decode cL_law 769 = .ok (.ireturn, 1) := by decide +kernel
theorem dL_law_770 : decode cL_law 770 = .ok (.iload 5, 2) := by decide +kernel
theorem dL_law_772 : decode cL_law 772 = .ok (.ifCond .ne 15, 3) := by decide +kernel
theorem dL_law_775 : decode cL_law 775 = .ok (.aload_n 3, 1) := by decide +kernel
theorem dL_law_776 : decode cL_law 776 = .ok (.iconst 0, 1) := by decide +kernel
theorem dL_law_777 : decode cL_law 777 = .ok (.laload, 1) := by decide +kernel
theorem dL_law_778 : decode cL_law 778 = .ok (.iload 6, 2) := by decide +kernel
theorem dL_law_780 : decode cL_law 780 = .ok (.i2l, 1) := by decide +kernel
theorem dL_law_781 : decode cL_law 781 = .ok (.lcmp, 1) := by decide +kernel
theorem dL_law_782 : decode cL_law 782 = .ok (.ifCond .eq 5, 3) := by decide +kernel
theorem dL_law_785 : decode cL_law 785 = .ok (.iconst 0, 1) := by decide +kernel
theorem dL_law_786 : decode cL_law 786 = .ok (.ireturn, 1) := by decide +kernel
theorem dL_law_787 : decode cL_law 787 = .ok (.goto 730, 3) := by decide +kernel
theorem dL_law_790 : decode cL_law 790 = .ok (.aload_n 1, 1) := by decide +kernel
theorem dL_law_791 : decode cL_law 791 = .ok (.aload_n 3, 1) := by decide +kernel
theorem dL_law_792 : decode cL_law 792 = .ok (.invokestatic 123, 3) := by decide +kernel
theorem dL_law_795 : decode cL_law 795 = .ok (.istore 5, 2) := by decide +kernel
theorem dL_law_797 : decode cL_law 797 = .ok (.aload_n 2, 1) := by decide +kernel
theorem dL_law_798 : decode cL_law 798 = .ok (.invokevirtual 125, 3) := by decide +kernel
theorem dL_law_801 : decode cL_law 801 = .ok (.istore 6, 2) := by decide +kernel
theorem dL_law_803 : decode cL_law 803 = .ok (.aload_n 2, 1) := by decide +kernel
theorem dL_law_804 : decode cL_law 804 = .ok (.invokevirtual 84, 3) := by decide +kernel
theorem dL_law_807 : decode cL_law 807 = .ok (.iload 5, 2) := by decide +kernel
theorem dL_law_809 : decode cL_law 809 = .ok (.if_icmp .eq 5, 3) := by decide +kernel
theorem dL_law_812 : decode cL_law 812 = .ok (.iconst 0, 1) := by decide +kernel
theorem dL_law_813 : decode cL_law 813 = .ok (.ireturn, 1) := by decide +kernel
theorem dL_law_814 : decode cL_law 814 = .ok (.iload 5, 2) := by decide +kernel
theorem dL_law_816 : decode cL_law 816 = .ok (.ifCond .ne 15, 3) := by decide +kernel
theorem dL_law_819 : decode cL_law 819 = .ok (.aload_n 3, 1) := by decide +kernel
theorem dL_law_820 : decode cL_law 820 = .ok (.iconst 0, 1) := by decide +kernel
theorem dL_law_821 : decode cL_law 821 = .ok (.laload, 1) := by decide +kernel
theorem dL_law_822 : decode cL_law 822 = .ok (.iload 6, 2) := by decide +kernel
theorem dL_law_824 : decode cL_law 824 = .ok (.i2l, 1) := by decide +kernel
theorem dL_law_825 : decode cL_law 825 = .ok (.lcmp, 1) := by decide +kernel
theorem dL_law_826 : decode cL_law 826 = .ok (.ifCond .eq 5, 3) := by decide +kernel
theorem dL_law_829 : decode cL_law 829 = .ok (.iconst 0, 1) := by decide +kernel
theorem dL_law_830 : decode cL_law 830 = .ok (.ireturn, 1) := by decide +kernel
theorem dL_law_831 : decode cL_law 831 = .ok (.goto 686, 3) := by decide +kernel
theorem dL_law_834 : decode cL_law 834 = .ok (.aload_n 1, 1) := by decide +kernel
theorem dL_law_835 : decode cL_law 835 = .ok (.aload_n 0, 1) := by decide +kernel
theorem dL_law_836 : decode cL_law 836 = .ok (.iload 4, 2) := by decide +kernel
theorem dL_law_838 : decode cL_law 838 = .ok (.iconst 1, 1) := by decide +kernel
theorem dL_law_839 : decode cL_law 839 = .ok (.iadd, 1) := by decide +kernel
theorem dL_law_840 : decode cL_law 840 = .ok (.iaload, 1) := by decide +kernel
theorem dL_law_841 : decode cL_law 841 = .ok (.aload_n 0, 1) := by decide +kernel
theorem dL_law_842 : decode cL_law 842 = .ok (.iload 4, 2) := by decide +kernel
theorem dL_law_844 : decode cL_law 844 = .ok (.iconst 2, 1) := by decide +kernel
theorem dL_law_845 : decode cL_law 845 = .ok (.iadd, 1) := by decide +kernel
theorem dL_law_846 : decode cL_law 846 = .ok (.iaload, 1) := by decide +kernel
theorem dL_law_847 : decode cL_law 847 = .ok (.aload_n 0, 1) := by decide +kernel
theorem dL_law_848 : decode cL_law 848 = .ok (.iload 4, 2) := by decide +kernel
theorem dL_law_850 : decode cL_law 850 = .ok (.iconst 3, 1) := by decide +kernel
theorem dL_law_851 : decode cL_law 851 = .ok (.iadd, 1) := by decide +kernel
theorem dL_law_852 : decode cL_law 852 = .ok (.iaload, 1) := by decide +kernel
theorem dL_law_853 : decode cL_law 853 = .ok (.aload_n 0, 1) := by decide +kernel
theorem dL_law_854 : decode cL_law 854 = .ok (.iload 4, 2) := by decide +kernel
theorem dL_law_856 : decode cL_law 856 = .ok (.iconst 4, 1) := by decide +kernel
theorem dL_law_857 : decode cL_law 857 = .ok (.iadd, 1) := by decide +kernel
theorem dL_law_858 : decode cL_law 858 = .ok (.iaload, 1) := by decide +kernel
theorem dL_law_859 : decode cL_law 859 = .ok (.aload_n 3, 1) := by decide +kernel
theorem dL_law_860 : decode cL_law 860 = .ok (.invokestatic 126, 3) := by decide +kernel
theorem dL_law_863 : decode cL_law 863 = .ok (.istore 5, 2) := by decide +kernel
theorem dL_law_865 : decode cL_law 865 = .ok (.aload_n 2, 1) := by decide +kernel
theorem dL_law_866 : decode cL_law 866 = .ok (.aload_n 0, 1) := by decide +kernel
theorem dL_law_867 : decode cL_law 867 = .ok (.iload 4, 2) := by decide +kernel
theorem dL_law_869 : decode cL_law 869 = .ok (.iconst 1, 1) := by decide +kernel
theorem dL_law_870 : decode cL_law 870 = .ok (.iadd, 1) := by decide +kernel
theorem dL_law_871 : decode cL_law 871 = .ok (.iaload, 1) := by decide +kernel
theorem dL_law_872 : decode cL_law 872 = .ok (.aload_n 0, 1) := by decide +kernel
theorem dL_law_873 : decode cL_law 873 = .ok (.iload 4, 2) := by decide +kernel
theorem dL_law_875 : decode cL_law 875 = .ok (.iconst 2, 1) := by decide +kernel
theorem dL_law_876 : decode cL_law 876 = .ok (.iadd, 1) := by decide +kernel
theorem dL_law_877 : decode cL_law 877 = .ok (.iaload, 1) := by decide +kernel
theorem dL_law_878 : decode cL_law 878 = .ok (.aload_n 0, 1) := by decide +kernel
theorem dL_law_879 : decode cL_law 879 = .ok (.iload 4, 2) := by decide +kernel
theorem dL_law_881 : decode cL_law 881 = .ok (.iconst 3, 1) := by decide +kernel
theorem dL_law_882 : decode cL_law 882 = .ok (.iadd, 1) := by decide +kernel
theorem dL_law_883 : decode cL_law 883 = .ok (.iaload, 1) := by decide +kernel
theorem dL_law_884 : decode cL_law 884 = .ok (.aload_n 0, 1) := by decide +kernel
theorem dL_law_885 : decode cL_law 885 = .ok (.iload 4, 2) := by decide +kernel
theorem dL_law_887 : decode cL_law 887 = .ok (.iconst 4, 1) := by decide +kernel
theorem dL_law_888 : decode cL_law 888 = .ok (.iadd, 1) := by decide +kernel
theorem dL_law_889 : decode cL_law 889 = .ok (.iaload, 1) := by decide +kernel
theorem dL_law_890 : decode cL_law 890 = .ok (.invokevirtual 128, 3) := by decide +kernel
theorem dL_law_893 : decode cL_law 893 = .ok (.istore 6, 2) := by decide +kernel
theorem dL_law_895 : decode cL_law 895 = .ok (.aload_n 2, 1) := by decide +kernel
theorem dL_law_896 : decode cL_law 896 = .ok (.invokevirtual 84, 3) := by decide +kernel
theorem dL_law_899 : decode cL_law 899 = .ok (.iload 5, 2) := by decide +kernel
theorem dL_law_901 : decode cL_law 901 = .ok (.if_icmp .eq 5, 3) := by decide +kernel
theorem dL_law_904 : decode cL_law 904 = .ok (.iconst 0, 1) := by decide +kernel
theorem dL_law_905 : decode cL_law 905 = .ok (.ireturn, 1) := by decide +kernel
theorem dL_law_906 : decode cL_law 906 = .ok (.iload 5, 2) := by decide +kernel
theorem dL_law_908 : decode cL_law 908 = .ok (.ifCond .ne 15, 3) := by decide +kernel
theorem dL_law_911 : decode cL_law 911 = .ok (.aload_n 3, 1) := by decide +kernel
theorem dL_law_912 : decode cL_law 912 = .ok (.iconst 0, 1) := by decide +kernel
theorem dL_law_913 : decode cL_law 913 = .ok (.laload, 1) := by decide +kernel
theorem dL_law_914 : decode cL_law 914 = .ok (.iload 6, 2) := by decide +kernel
theorem dL_law_916 : decode cL_law 916 = .ok (.i2l, 1) := by decide +kernel
theorem dL_law_917 : decode cL_law 917 = .ok (.lcmp, 1) := by decide +kernel
theorem dL_law_918 : decode cL_law 918 = .ok (.ifCond .eq 5, 3) := by decide +kernel
theorem dL_law_921 : decode cL_law 921 = .ok (.iconst 0, 1) := by decide +kernel
theorem dL_law_922 : decode cL_law 922 = .ok (.ireturn, 1) := by decide +kernel
theorem dL_law_923 : decode cL_law 923 = .ok (.goto 594, 3) := by decide +kernel
theorem dL_law_926 : decode cL_law 926 = .ok (.aload_n 1, 1) := by decide +kernel
theorem dL_law_927 : decode cL_law 927 = .ok (.aload_n 0, 1) := by decide +kernel
theorem dL_law_928 : decode cL_law 928 = .ok (.iload 4, 2) := by decide +kernel
theorem dL_law_930 : decode cL_law 930 = .ok (.iconst 1, 1) := by decide +kernel
theorem dL_law_931 : decode cL_law 931 = .ok (.iadd, 1) := by decide +kernel
theorem dL_law_932 : decode cL_law 932 = .ok (.iaload, 1) := by decide +kernel
theorem dL_law_933 : decode cL_law 933 = .ok (.aload_n 0, 1) := by decide +kernel
theorem dL_law_934 : decode cL_law 934 = .ok (.iload 4, 2) := by decide +kernel
theorem dL_law_936 : decode cL_law 936 = .ok (.iconst 2, 1) := by decide +kernel
theorem dL_law_937 : decode cL_law 937 = .ok (.iadd, 1) := by decide +kernel
theorem dL_law_938 : decode cL_law 938 = .ok (.iaload, 1) := by decide +kernel
theorem dL_law_939 : decode cL_law 939 = .ok (.aload_n 0, 1) := by decide +kernel
theorem dL_law_940 : decode cL_law 940 = .ok (.iload 4, 2) := by decide +kernel
theorem dL_law_942 : decode cL_law 942 = .ok (.iconst 3, 1) := by decide +kernel
theorem dL_law_943 : decode cL_law 943 = .ok (.iadd, 1) := by decide +kernel
theorem dL_law_944 : decode cL_law 944 = .ok (.iaload, 1) := by decide +kernel
theorem dL_law_945 : decode cL_law 945 = .ok (.aload_n 3, 1) := by decide +kernel
theorem dL_law_946 : decode cL_law 946 = .ok (.invokestatic 129, 3) := by decide +kernel
theorem dL_law_949 : decode cL_law 949 = .ok (.istore 5, 2) := by decide +kernel
theorem dL_law_951 : decode cL_law 951 = .ok (.aload_n 2, 1) := by decide +kernel
theorem dL_law_952 : decode cL_law 952 = .ok (.aload_n 0, 1) := by decide +kernel
theorem dL_law_953 : decode cL_law 953 = .ok (.iload 4, 2) := by decide +kernel
theorem dL_law_955 : decode cL_law 955 = .ok (.iconst 1, 1) := by decide +kernel
theorem dL_law_956 : decode cL_law 956 = .ok (.iadd, 1) := by decide +kernel
theorem dL_law_957 : decode cL_law 957 = .ok (.iaload, 1) := by decide +kernel
theorem dL_law_958 : decode cL_law 958 = .ok (.aload_n 0, 1) := by decide +kernel
theorem dL_law_959 : decode cL_law 959 = .ok (.iload 4, 2) := by decide +kernel
theorem dL_law_961 : decode cL_law 961 = .ok (.iconst 2, 1) := by decide +kernel
theorem dL_law_962 : decode cL_law 962 = .ok (.iadd, 1) := by decide +kernel
theorem dL_law_963 : decode cL_law 963 = .ok (.iaload, 1) := by decide +kernel
theorem dL_law_964 : decode cL_law 964 = .ok (.aload_n 0, 1) := by decide +kernel
theorem dL_law_965 : decode cL_law 965 = .ok (.iload 4, 2) := by decide +kernel
theorem dL_law_967 : decode cL_law 967 = .ok (.iconst 3, 1) := by decide +kernel
theorem dL_law_968 : decode cL_law 968 = .ok (.iadd, 1) := by decide +kernel
theorem dL_law_969 : decode cL_law 969 = .ok (.iaload, 1) := by decide +kernel
theorem dL_law_970 : decode cL_law 970 = .ok (.invokevirtual 131, 3) := by decide +kernel
theorem dL_law_973 : decode cL_law 973 = .ok (.istore 6, 2) := by decide +kernel
theorem dL_law_975 : decode cL_law 975 = .ok (.aload_n 2, 1) := by decide +kernel
theorem dL_law_976 : decode cL_law 976 = .ok (.invokevirtual 84, 3) := by decide +kernel
theorem dL_law_979 : decode cL_law 979 = .ok (.iload 5, 2) := by decide +kernel
theorem dL_law_981 : decode cL_law 981 = .ok (.if_icmp .eq 5, 3) := by decide +kernel
theorem dL_law_984 : decode cL_law 984 = .ok (.iconst 0, 1) := by decide +kernel
theorem dL_law_985 : decode cL_law 985 = .ok (.ireturn, 1) := by decide +kernel
theorem dL_law_986 : decode cL_law 986 = .ok (.iload 5, 2) := by decide +kernel
theorem dL_law_988 : decode cL_law 988 = .ok (.ifCond .ne 15, 3) := by decide +kernel
theorem dL_law_991 : decode cL_law 991 = .ok (.aload_n 3, 1) := by decide +kernel
theorem dL_law_992 : decode cL_law 992 = .ok (.iconst 0, 1) := by decide +kernel
theorem dL_law_993 : decode cL_law 993 = .ok (.laload, 1) := by decide +kernel
theorem dL_law_994 : decode cL_law 994 = .ok (.iload 6, 2) := by decide +kernel
theorem dL_law_996 : decode cL_law 996 = .ok (.i2l, 1) := by decide +kernel
theorem dL_law_997 : decode cL_law 997 = .ok (.lcmp, 1) := by decide +kernel
theorem dL_law_998 : decode cL_law 998 = .ok (.ifCond .eq 5, 3) := by decide +kernel
theorem dL_law_1001 : decode cL_law 1001 = .ok (.iconst 0, 1) := by decide +kernel
theorem dL_law_1002 : decode cL_law 1002 = .ok (.ireturn, 1) := by decide +kernel
theorem dL_law_1003 : decode cL_law 1003 = .ok (.goto 514, 3) := by decide +kernel
theorem dL_law_1006 : decode cL_law 1006 = .ok (.aload_n 1, 1) := by decide +kernel
theorem dL_law_1007 : decode cL_law 1007 = .ok (.aload_n 0, 1) := by decide +kernel
theorem dL_law_1008 : decode cL_law 1008 = .ok (.iload 4, 2) := by decide +kernel
theorem dL_law_1010 : decode cL_law 1010 = .ok (.iconst 1, 1) := by decide +kernel
theorem dL_law_1011 : decode cL_law 1011 = .ok (.iadd, 1) := by decide +kernel
theorem dL_law_1012 : decode cL_law 1012 = .ok (.iaload, 1) := by decide +kernel
theorem dL_law_1013 : decode cL_law 1013 = .ok (.aload_n 0, 1) := by decide +kernel
theorem dL_law_1014 : decode cL_law 1014 = .ok (.iload 4, 2) := by decide +kernel
theorem dL_law_1016 : decode cL_law 1016 = .ok (.iconst 2, 1) := by decide +kernel
theorem dL_law_1017 : decode cL_law 1017 = .ok (.iadd, 1) := by decide +kernel
theorem dL_law_1018 : decode cL_law 1018 = .ok (.iaload, 1) := by decide +kernel
theorem dL_law_1019 : decode cL_law 1019 = .ok (.aload_n 0, 1) := by decide +kernel
theorem dL_law_1020 : decode cL_law 1020 = .ok (.iload 4, 2) := by decide +kernel
theorem dL_law_1022 : decode cL_law 1022 = .ok (.iconst 3, 1) := by decide +kernel
theorem dL_law_1023 : decode cL_law 1023 = .ok (.iadd, 1) := by decide +kernel
theorem dL_law_1024 : decode cL_law 1024 = .ok (.iaload, 1) := by decide +kernel
theorem dL_law_1025 : decode cL_law 1025 = .ok (.aload_n 3, 1) := by decide +kernel
theorem dL_law_1026 : decode cL_law 1026 = .ok (.invokestatic 132, 3) := by decide +kernel
theorem dL_law_1029 : decode cL_law 1029 = .ok (.istore 5, 2) := by decide +kernel
theorem dL_law_1031 : decode cL_law 1031 = .ok (.aload_n 2, 1) := by decide +kernel
theorem dL_law_1032 : decode cL_law 1032 = .ok (.aload_n 0, 1) := by decide +kernel
theorem dL_law_1033 : decode cL_law 1033 = .ok (.iload 4, 2) := by decide +kernel
theorem dL_law_1035 : decode cL_law 1035 = .ok (.iconst 1, 1) := by decide +kernel
theorem dL_law_1036 : decode cL_law 1036 = .ok (.iadd, 1) := by decide +kernel
theorem dL_law_1037 : decode cL_law 1037 = .ok (.iaload, 1) := by decide +kernel
theorem dL_law_1038 : decode cL_law 1038 = .ok (.aload_n 0, 1) := by decide +kernel
theorem dL_law_1039 : decode cL_law 1039 = .ok (.iload 4, 2) := by decide +kernel
theorem dL_law_1041 : decode cL_law 1041 = .ok (.iconst 2, 1) := by decide +kernel
theorem dL_law_1042 : decode cL_law 1042 = .ok (.iadd, 1) := by decide +kernel
theorem dL_law_1043 : decode cL_law 1043 = .ok (.iaload, 1) := by decide +kernel
theorem dL_law_1044 : decode cL_law 1044 = .ok (.aload_n 0, 1) := by decide +kernel
theorem dL_law_1045 : decode cL_law 1045 = .ok (.iload 4, 2) := by decide +kernel
theorem dL_law_1047 : decode cL_law 1047 = .ok (.iconst 3, 1) := by decide +kernel
theorem dL_law_1048 : decode cL_law 1048 = .ok (.iadd, 1) := by decide +kernel
theorem dL_law_1049 : decode cL_law 1049 = .ok (.iaload, 1) := by decide +kernel
theorem dL_law_1050 : decode cL_law 1050 = .ok (.invokevirtual 134, 3) := by decide +kernel
theorem dL_law_1053 : decode cL_law 1053 = .ok (.istore 6, 2) := by decide +kernel
theorem dL_law_1055 : decode cL_law 1055 = .ok (.aload_n 2, 1) := by decide +kernel
theorem dL_law_1056 : decode cL_law 1056 = .ok (.invokevirtual 84, 3) := by decide +kernel
theorem dL_law_1059 : decode cL_law 1059 = .ok (.iload 5, 2) := by decide +kernel
theorem dL_law_1061 : decode cL_law 1061 = .ok (.if_icmp .eq 5, 3) := by decide +kernel
theorem dL_law_1064 : decode cL_law 1064 = .ok (.iconst 0, 1) := by decide +kernel
theorem dL_law_1065 : decode cL_law 1065 = .ok (.ireturn, 1) := by decide +kernel
theorem dL_law_1066 : decode cL_law 1066 = .ok (.iload 5, 2) := by decide +kernel
theorem dL_law_1068 : decode cL_law 1068 = .ok (.ifCond .ne 15, 3) := by decide +kernel
theorem dL_law_1071 : decode cL_law 1071 = .ok (.aload_n 3, 1) := by decide +kernel
theorem dL_law_1072 : decode cL_law 1072 = .ok (.iconst 0, 1) := by decide +kernel
theorem dL_law_1073 : decode cL_law 1073 = .ok (.laload, 1) := by decide +kernel
theorem dL_law_1074 : decode cL_law 1074 = .ok (.iload 6, 2) := by decide +kernel
theorem dL_law_1076 : decode cL_law 1076 = .ok (.i2l, 1) := by decide +kernel
theorem dL_law_1077 : decode cL_law 1077 = .ok (.lcmp, 1) := by decide +kernel
theorem dL_law_1078 : decode cL_law 1078 = .ok (.ifCond .eq 5, 3) := by decide +kernel
theorem dL_law_1081 : decode cL_law 1081 = .ok (.iconst 0, 1) := by decide +kernel
theorem dL_law_1082 : decode cL_law 1082 = .ok (.ireturn, 1) := by decide +kernel
theorem dL_law_1083 : decode cL_law 1083 = .ok (.goto 434, 3) := by decide +kernel
theorem dL_law_1086 : decode cL_law 1086 = .ok (.aload_n 1, 1) := by decide +kernel
theorem dL_law_1087 : decode cL_law 1087 = .ok (.aload_n 0, 1) := by decide +kernel
theorem dL_law_1088 : decode cL_law 1088 = .ok (.iload 4, 2) := by decide +kernel
theorem dL_law_1090 : decode cL_law 1090 = .ok (.iconst 1, 1) := by decide +kernel
theorem dL_law_1091 : decode cL_law 1091 = .ok (.iadd, 1) := by decide +kernel
theorem dL_law_1092 : decode cL_law 1092 = .ok (.iaload, 1) := by decide +kernel
theorem dL_law_1093 : decode cL_law 1093 = .ok (.aload_n 0, 1) := by decide +kernel
theorem dL_law_1094 : decode cL_law 1094 = .ok (.iload 4, 2) := by decide +kernel
theorem dL_law_1096 : decode cL_law 1096 = .ok (.iconst 2, 1) := by decide +kernel
theorem dL_law_1097 : decode cL_law 1097 = .ok (.iadd, 1) := by decide +kernel
theorem dL_law_1098 : decode cL_law 1098 = .ok (.iaload, 1) := by decide +kernel
theorem dL_law_1099 : decode cL_law 1099 = .ok (.aload_n 3, 1) := by decide +kernel
theorem dL_law_1100 : decode cL_law 1100 = .ok (.invokestatic 135, 3) := by decide +kernel
theorem dL_law_1103 : decode cL_law 1103 = .ok (.istore 5, 2) := by decide +kernel
theorem dL_law_1105 : decode cL_law 1105 = .ok (.aload_n 2, 1) := by decide +kernel
theorem dL_law_1106 : decode cL_law 1106 = .ok (.aload_n 0, 1) := by decide +kernel
theorem dL_law_1107 : decode cL_law 1107 = .ok (.iload 4, 2) := by decide +kernel
theorem dL_law_1109 : decode cL_law 1109 = .ok (.iconst 1, 1) := by decide +kernel
theorem dL_law_1110 : decode cL_law 1110 = .ok (.iadd, 1) := by decide +kernel
theorem dL_law_1111 : decode cL_law 1111 = .ok (.iaload, 1) := by decide +kernel
theorem dL_law_1112 : decode cL_law 1112 = .ok (.aload_n 0, 1) := by decide +kernel
theorem dL_law_1113 : decode cL_law 1113 = .ok (.iload 4, 2) := by decide +kernel
theorem dL_law_1115 : decode cL_law 1115 = .ok (.iconst 2, 1) := by decide +kernel
theorem dL_law_1116 : decode cL_law 1116 = .ok (.iadd, 1) := by decide +kernel
theorem dL_law_1117 : decode cL_law 1117 = .ok (.iaload, 1) := by decide +kernel
theorem dL_law_1118 : decode cL_law 1118 = .ok (.invokevirtual 137, 3) := by decide +kernel
theorem dL_law_1121 : decode cL_law 1121 = .ok (.istore 6, 2) := by decide +kernel
theorem dL_law_1123 : decode cL_law 1123 = .ok (.aload_n 2, 1) := by decide +kernel
theorem dL_law_1124 : decode cL_law 1124 = .ok (.invokevirtual 84, 3) := by decide +kernel
theorem dL_law_1127 : decode cL_law 1127 = .ok (.iload 5, 2) := by decide +kernel
theorem dL_law_1129 : decode cL_law 1129 = .ok (.if_icmp .eq 5, 3) := by decide +kernel
theorem dL_law_1132 : decode cL_law 1132 = .ok (.iconst 0, 1) := by decide +kernel
theorem dL_law_1133 : decode cL_law 1133 = .ok (.ireturn, 1) := by decide +kernel
theorem dL_law_1134 : decode cL_law 1134 = .ok (.iload 5, 2) := by decide +kernel
theorem dL_law_1136 : decode cL_law 1136 = .ok (.ifCond .ne 15, 3) := by decide +kernel
theorem dL_law_1139 : decode cL_law 1139 = .ok (.aload_n 3, 1) := by decide +kernel
theorem dL_law_1140 : decode cL_law 1140 = .ok (.iconst 0, 1) := by decide +kernel
theorem dL_law_1141 : decode cL_law 1141 = .ok (.laload, 1) := by decide +kernel
theorem dL_law_1142 : decode cL_law 1142 = .ok (.iload 6, 2) := by decide +kernel
theorem dL_law_1144 : decode cL_law 1144 = .ok (.i2l, 1) := by decide +kernel
theorem dL_law_1145 : decode cL_law 1145 = .ok (.lcmp, 1) := by decide +kernel
theorem dL_law_1146 : decode cL_law 1146 = .ok (.ifCond .eq 5, 3) := by decide +kernel
theorem dL_law_1149 : decode cL_law 1149 = .ok (.iconst 0, 1) := by decide +kernel
theorem dL_law_1150 : decode cL_law 1150 = .ok (.ireturn, 1) := by decide +kernel
theorem dL_law_1151 : decode cL_law 1151 = .ok (.goto 366, 3) := by decide +kernel
theorem dL_law_1154 : decode cL_law 1154 = .ok (.aload_n 1, 1) := by decide +kernel
theorem dL_law_1155 : decode cL_law 1155 = .ok (.aload_n 0, 1) := by decide +kernel
theorem dL_law_1156 : decode cL_law 1156 = .ok (.iload 4, 2) := by decide +kernel
theorem dL_law_1158 : decode cL_law 1158 = .ok (.iconst 1, 1) := by decide +kernel
theorem dL_law_1159 : decode cL_law 1159 = .ok (.iadd, 1) := by decide +kernel
theorem dL_law_1160 : decode cL_law 1160 = .ok (.iaload, 1) := by decide +kernel
theorem dL_law_1161 : decode cL_law 1161 = .ok (.aload_n 3, 1) := by decide +kernel
theorem dL_law_1162 : decode cL_law 1162 = .ok (.invokestatic 138, 3) := by decide +kernel
theorem dL_law_1165 : decode cL_law 1165 = .ok (.istore 5, 2) := by decide +kernel
theorem dL_law_1167 : decode cL_law 1167 = .ok (.aload_n 2, 1) := by decide +kernel
theorem dL_law_1168 : decode cL_law 1168 = .ok (.aload_n 0, 1) := by decide +kernel
theorem dL_law_1169 : decode cL_law 1169 = .ok (.iload 4, 2) := by decide +kernel
theorem dL_law_1171 : decode cL_law 1171 = .ok (.iconst 1, 1) := by decide +kernel
theorem dL_law_1172 : decode cL_law 1172 = .ok (.iadd, 1) := by decide +kernel
theorem dL_law_1173 : decode cL_law 1173 = .ok (.iaload, 1) := by decide +kernel
theorem dL_law_1174 : decode cL_law 1174 = .ok (.invokevirtual 140, 3) := by decide +kernel
theorem dL_law_1177 : decode cL_law 1177 = .ok (.istore 6, 2) := by decide +kernel
theorem dL_law_1179 : decode cL_law 1179 = .ok (.aload_n 2, 1) := by decide +kernel
theorem dL_law_1180 : decode cL_law 1180 = .ok (.invokevirtual 84, 3) := by decide +kernel
theorem dL_law_1183 : decode cL_law 1183 = .ok (.iload 5, 2) := by decide +kernel
theorem dL_law_1185 : decode cL_law 1185 = .ok (.if_icmp .eq 5, 3) := by decide +kernel
theorem dL_law_1188 : decode cL_law 1188 = .ok (.iconst 0, 1) := by decide +kernel
theorem dL_law_1189 : decode cL_law 1189 = .ok (.ireturn, 1) := by decide +kernel
theorem dL_law_1190 : decode cL_law 1190 = .ok (.iload 5, 2) := by decide +kernel
theorem dL_law_1192 : decode cL_law 1192 = .ok (.ifCond .ne 15, 3) := by decide +kernel
theorem dL_law_1195 : decode cL_law 1195 = .ok (.aload_n 3, 1) := by decide +kernel
theorem dL_law_1196 : decode cL_law 1196 = .ok (.iconst 0, 1) := by decide +kernel
theorem dL_law_1197 : decode cL_law 1197 = .ok (.laload, 1) := by decide +kernel
theorem dL_law_1198 : decode cL_law 1198 = .ok (.iload 6, 2) := by decide +kernel
theorem dL_law_1200 : decode cL_law 1200 = .ok (.i2l, 1) := by decide +kernel
theorem dL_law_1201 : decode cL_law 1201 = .ok (.lcmp, 1) := by decide +kernel
theorem dL_law_1202 : decode cL_law 1202 = .ok (.ifCond .eq 5, 3) := by decide +kernel
theorem dL_law_1205 : decode cL_law 1205 = .ok (.iconst 0, 1) := by decide +kernel
theorem dL_law_1206 : decode cL_law 1206 = .ok (.ireturn, 1) := by decide +kernel
theorem dL_law_1207 : decode cL_law 1207 = .ok (.goto 310, 3) := by decide +kernel
theorem dL_law_1210 : decode cL_law 1210 = .ok (.aload_n 1, 1) := by decide +kernel
theorem dL_law_1211 : decode cL_law 1211 = .ok (.aload_n 0, 1) := by decide +kernel
theorem dL_law_1212 : decode cL_law 1212 = .ok (.iload 4, 2) := by decide +kernel
theorem dL_law_1214 : decode cL_law 1214 = .ok (.iconst 1, 1) := by decide +kernel
theorem dL_law_1215 : decode cL_law 1215 = .ok (.iadd, 1) := by decide +kernel
theorem dL_law_1216 : decode cL_law 1216 = .ok (.iaload, 1) := by decide +kernel
theorem dL_law_1217 : decode cL_law 1217 = .ok (.aload_n 0, 1) := by decide +kernel
theorem dL_law_1218 : decode cL_law 1218 = .ok (.iload 4, 2) := by decide +kernel
theorem dL_law_1220 : decode cL_law 1220 = .ok (.iconst 2, 1) := by decide +kernel
theorem dL_law_1221 : decode cL_law 1221 = .ok (.iadd, 1) := by decide +kernel
theorem dL_law_1222 : decode cL_law 1222 = .ok (.iaload, 1) := by decide +kernel
theorem dL_law_1223 : decode cL_law 1223 = .ok (.aload_n 0, 1) := by decide +kernel
theorem dL_law_1224 : decode cL_law 1224 = .ok (.iload 4, 2) := by decide +kernel
theorem dL_law_1226 : decode cL_law 1226 = .ok (.iconst 3, 1) := by decide +kernel
theorem dL_law_1227 : decode cL_law 1227 = .ok (.iadd, 1) := by decide +kernel
theorem dL_law_1228 : decode cL_law 1228 = .ok (.iaload, 1) := by decide +kernel
theorem dL_law_1229 : decode cL_law 1229 = .ok (.aload_n 0, 1) := by decide +kernel
theorem dL_law_1230 : decode cL_law 1230 = .ok (.iload 4, 2) := by decide +kernel
theorem dL_law_1232 : decode cL_law 1232 = .ok (.iconst 4, 1) := by decide +kernel
theorem dL_law_1233 : decode cL_law 1233 = .ok (.iadd, 1) := by decide +kernel
theorem dL_law_1234 : decode cL_law 1234 = .ok (.iaload, 1) := by decide +kernel
theorem dL_law_1235 : decode cL_law 1235 = .ok (.aload_n 3, 1) := by decide +kernel
theorem dL_law_1236 : decode cL_law 1236 = .ok (.invokestatic 141, 3) := by decide +kernel
theorem dL_law_1239 : decode cL_law 1239 = .ok (.istore 5, 2) := by decide +kernel
theorem dL_law_1241 : decode cL_law 1241 = .ok (.aload_n 2, 1) := by decide +kernel
theorem dL_law_1242 : decode cL_law 1242 = .ok (.aload_n 0, 1) := by decide +kernel
theorem dL_law_1243 : decode cL_law 1243 = .ok (.iload 4, 2) := by decide +kernel
theorem dL_law_1245 : decode cL_law 1245 = .ok (.iconst 1, 1) := by decide +kernel
theorem dL_law_1246 : decode cL_law 1246 = .ok (.iadd, 1) := by decide +kernel
theorem dL_law_1247 : decode cL_law 1247 = .ok (.iaload, 1) := by decide +kernel
theorem dL_law_1248 : decode cL_law 1248 = .ok (.aload_n 0, 1) := by decide +kernel
theorem dL_law_1249 : decode cL_law 1249 = .ok (.iload 4, 2) := by decide +kernel
theorem dL_law_1251 : decode cL_law 1251 = .ok (.iconst 2, 1) := by decide +kernel
theorem dL_law_1252 : decode cL_law 1252 = .ok (.iadd, 1) := by decide +kernel
theorem dL_law_1253 : decode cL_law 1253 = .ok (.iaload, 1) := by decide +kernel
theorem dL_law_1254 : decode cL_law 1254 = .ok (.aload_n 0, 1) := by decide +kernel
theorem dL_law_1255 : decode cL_law 1255 = .ok (.iload 4, 2) := by decide +kernel
theorem dL_law_1257 : decode cL_law 1257 = .ok (.iconst 3, 1) := by decide +kernel
theorem dL_law_1258 : decode cL_law 1258 = .ok (.iadd, 1) := by decide +kernel
theorem dL_law_1259 : decode cL_law 1259 = .ok (.iaload, 1) := by decide +kernel
theorem dL_law_1260 : decode cL_law 1260 = .ok (.aload_n 0, 1) := by decide +kernel
theorem dL_law_1261 : decode cL_law 1261 = .ok (.iload 4, 2) := by decide +kernel
theorem dL_law_1263 : decode cL_law 1263 = .ok (.iconst 4, 1) := by decide +kernel
theorem dL_law_1264 : decode cL_law 1264 = .ok (.iadd, 1) := by decide +kernel
theorem dL_law_1265 : decode cL_law 1265 = .ok (.iaload, 1) := by decide +kernel
theorem dL_law_1266 : decode cL_law 1266 = .ok (.invokevirtual 143, 3) := by decide +kernel
theorem dL_law_1269 : decode cL_law 1269 = .ok (.istore 6, 2) := by decide +kernel
theorem dL_law_1271 : decode cL_law 1271 = .ok (.aload_n 2, 1) := by decide +kernel
theorem dL_law_1272 : decode cL_law 1272 = .ok (.invokevirtual 84, 3) := by decide +kernel
theorem dL_law_1275 : decode cL_law 1275 = .ok (.iload 5, 2) := by decide +kernel
theorem dL_law_1277 : decode cL_law 1277 = .ok (.if_icmp .eq 5, 3) := by decide +kernel
theorem dL_law_1280 : decode cL_law 1280 = .ok (.iconst 0, 1) := by decide +kernel
theorem dL_law_1281 : decode cL_law 1281 = .ok (.ireturn, 1) := by decide +kernel
theorem dL_law_1282 : decode cL_law 1282 = .ok (.iload 5, 2) := by decide +kernel
theorem dL_law_1284 : decode cL_law 1284 = .ok (.ifCond .ne 15, 3) := by decide +kernel
theorem dL_law_1287 : decode cL_law 1287 = .ok (.aload_n 3, 1) := by decide +kernel
theorem dL_law_1288 : decode cL_law 1288 = .ok (.iconst 0, 1) := by decide +kernel
theorem dL_law_1289 : decode cL_law 1289 = .ok (.laload, 1) := by decide +kernel
theorem dL_law_1290 : decode cL_law 1290 = .ok (.iload 6, 2) := by decide +kernel
theorem dL_law_1292 : decode cL_law 1292 = .ok (.i2l, 1) := by decide +kernel
theorem dL_law_1293 : decode cL_law 1293 = .ok (.lcmp, 1) := by decide +kernel
theorem dL_law_1294 : decode cL_law 1294 = .ok (.ifCond .eq 5, 3) := by decide +kernel
theorem dL_law_1297 : decode cL_law 1297 = .ok (.iconst 0, 1) := by decide +kernel
theorem dL_law_1298 : decode cL_law 1298 = .ok (.ireturn, 1) := by decide +kernel
theorem dL_law_1299 : decode cL_law 1299 = .ok (.goto 218, 3) := by decide +kernel
theorem dL_law_1302 : decode cL_law 1302 = .ok (.aload_n 1, 1) := by decide +kernel
theorem dL_law_1303 : decode cL_law 1303 = .ok (.aload_n 0, 1) := by decide +kernel
theorem dL_law_1304 : decode cL_law 1304 = .ok (.iload 4, 2) := by decide +kernel
theorem dL_law_1306 : decode cL_law 1306 = .ok (.iconst 1, 1) := by decide +kernel
theorem dL_law_1307 : decode cL_law 1307 = .ok (.iadd, 1) := by decide +kernel
theorem dL_law_1308 : decode cL_law 1308 = .ok (.iaload, 1) := by decide +kernel
theorem dL_law_1309 : decode cL_law 1309 = .ok (.aload_n 0, 1) := by decide +kernel
theorem dL_law_1310 : decode cL_law 1310 = .ok (.iload 4, 2) := by decide +kernel
theorem dL_law_1312 : decode cL_law 1312 = .ok (.iconst 2, 1) := by decide +kernel
theorem dL_law_1313 : decode cL_law 1313 = .ok (.iadd, 1) := by decide +kernel
theorem dL_law_1314 : decode cL_law 1314 = .ok (.iaload, 1) := by decide +kernel
theorem dL_law_1315 : decode cL_law 1315 = .ok (.aload_n 0, 1) := by decide +kernel
theorem dL_law_1316 : decode cL_law 1316 = .ok (.iload 4, 2) := by decide +kernel
theorem dL_law_1318 : decode cL_law 1318 = .ok (.iconst 3, 1) := by decide +kernel
theorem dL_law_1319 : decode cL_law 1319 = .ok (.iadd, 1) := by decide +kernel
theorem dL_law_1320 : decode cL_law 1320 = .ok (.iaload, 1) := by decide +kernel
theorem dL_law_1321 : decode cL_law 1321 = .ok (.aload_n 0, 1) := by decide +kernel
theorem dL_law_1322 : decode cL_law 1322 = .ok (.iload 4, 2) := by decide +kernel
theorem dL_law_1324 : decode cL_law 1324 = .ok (.iconst 4, 1) := by decide +kernel
theorem dL_law_1325 : decode cL_law 1325 = .ok (.iadd, 1) := by decide +kernel
theorem dL_law_1326 : decode cL_law 1326 = .ok (.iaload, 1) := by decide +kernel
theorem dL_law_1327 : decode cL_law 1327 = .ok (.aload_n 3, 1) := by decide +kernel
theorem dL_law_1328 : decode cL_law 1328 = .ok (.invokestatic 144, 3) := by decide +kernel
theorem dL_law_1331 : decode cL_law 1331 = .ok (.istore 5, 2) := by decide +kernel
theorem dL_law_1333 : decode cL_law 1333 = .ok (.aload_n 2, 1) := by decide +kernel
theorem dL_law_1334 : decode cL_law 1334 = .ok (.aload_n 0, 1) := by decide +kernel
theorem dL_law_1335 : decode cL_law 1335 = .ok (.iload 4, 2) := by decide +kernel
theorem dL_law_1337 : decode cL_law 1337 = .ok (.iconst 1, 1) := by decide +kernel
theorem dL_law_1338 : decode cL_law 1338 = .ok (.iadd, 1) := by decide +kernel
theorem dL_law_1339 : decode cL_law 1339 = .ok (.iaload, 1) := by decide +kernel
theorem dL_law_1340 : decode cL_law 1340 = .ok (.aload_n 0, 1) := by decide +kernel
theorem dL_law_1341 : decode cL_law 1341 = .ok (.iload 4, 2) := by decide +kernel
theorem dL_law_1343 : decode cL_law 1343 = .ok (.iconst 2, 1) := by decide +kernel
theorem dL_law_1344 : decode cL_law 1344 = .ok (.iadd, 1) := by decide +kernel
theorem dL_law_1345 : decode cL_law 1345 = .ok (.iaload, 1) := by decide +kernel
theorem dL_law_1346 : decode cL_law 1346 = .ok (.aload_n 0, 1) := by decide +kernel
theorem dL_law_1347 : decode cL_law 1347 = .ok (.iload 4, 2) := by decide +kernel
theorem dL_law_1349 : decode cL_law 1349 = .ok (.iconst 3, 1) := by decide +kernel
theorem dL_law_1350 : decode cL_law 1350 = .ok (.iadd, 1) := by decide +kernel
theorem dL_law_1351 : decode cL_law 1351 = .ok (.iaload, 1) := by decide +kernel
theorem dL_law_1352 : decode cL_law 1352 = .ok (.aload_n 0, 1) := by decide +kernel
theorem dL_law_1353 : decode cL_law 1353 = .ok (.iload 4, 2) := by decide +kernel
theorem dL_law_1355 : decode cL_law 1355 = .ok (.iconst 4, 1) := by decide +kernel
theorem dL_law_1356 : decode cL_law 1356 = .ok (.iadd, 1) := by decide +kernel
theorem dL_law_1357 : decode cL_law 1357 = .ok (.iaload, 1) := by decide +kernel
theorem dL_law_1358 : decode cL_law 1358 = .ok (.invokevirtual 146, 3) := by decide +kernel
theorem dL_law_1361 : decode cL_law 1361 = .ok (.istore 6, 2) := by decide +kernel
theorem dL_law_1363 : decode cL_law 1363 = .ok (.aload_n 2, 1) := by decide +kernel
theorem dL_law_1364 : decode cL_law 1364 = .ok (.invokevirtual 84, 3) := by decide +kernel
theorem dL_law_1367 : decode cL_law 1367 = .ok (.iload 5, 2) := by decide +kernel
theorem dL_law_1369 : decode cL_law 1369 = .ok (.if_icmp .eq 5, 3) := by decide +kernel
theorem dL_law_1372 : decode cL_law 1372 = .ok (.iconst 0, 1) := by decide +kernel
theorem dL_law_1373 : decode cL_law 1373 = .ok (.ireturn, 1) := by decide +kernel
theorem dL_law_1374 : decode cL_law 1374 = .ok (.iload 5, 2) := by decide +kernel
theorem dL_law_1376 : decode cL_law 1376 = .ok (.ifCond .ne 15, 3) := by decide +kernel
theorem dL_law_1379 : decode cL_law 1379 = .ok (.aload_n 3, 1) := by decide +kernel
theorem dL_law_1380 : decode cL_law 1380 = .ok (.iconst 0, 1) := by decide +kernel
theorem dL_law_1381 : decode cL_law 1381 = .ok (.laload, 1) := by decide +kernel
theorem dL_law_1382 : decode cL_law 1382 = .ok (.iload 6, 2) := by decide +kernel
theorem dL_law_1384 : decode cL_law 1384 = .ok (.i2l, 1) := by decide +kernel
theorem dL_law_1385 : decode cL_law 1385 = .ok (.lcmp, 1) := by decide +kernel
theorem dL_law_1386 : decode cL_law 1386 = .ok (.ifCond .eq 5, 3) := by decide +kernel
theorem dL_law_1389 : decode cL_law 1389 = .ok (.iconst 0, 1) := by decide +kernel
theorem dL_law_1390 : decode cL_law 1390 = .ok (.ireturn, 1) := by decide +kernel
theorem dL_law_1391 : decode cL_law 1391 = .ok (.goto 126, 3) := by decide +kernel
theorem dL_law_1394 : decode cL_law 1394 = .ok (.aload_n 1, 1) := by decide +kernel
theorem dL_law_1395 : decode cL_law 1395 = .ok (.aload_n 0, 1) := by decide +kernel
theorem dL_law_1396 : decode cL_law 1396 = .ok (.iload 4, 2) := by decide +kernel
theorem dL_law_1398 : decode cL_law 1398 = .ok (.iconst 1, 1) := by decide +kernel
theorem dL_law_1399 : decode cL_law 1399 = .ok (.iadd, 1) := by decide +kernel
theorem dL_law_1400 : decode cL_law 1400 = .ok (.iaload, 1) := by decide +kernel
theorem dL_law_1401 : decode cL_law 1401 = .ok (.aload_n 0, 1) := by decide +kernel
theorem dL_law_1402 : decode cL_law 1402 = .ok (.iload 4, 2) := by decide +kernel
theorem dL_law_1404 : decode cL_law 1404 = .ok (.iconst 2, 1) := by decide +kernel
theorem dL_law_1405 : decode cL_law 1405 = .ok (.iadd, 1) := by decide +kernel
theorem dL_law_1406 : decode cL_law 1406 = .ok (.iaload, 1) := by decide +kernel
theorem dL_law_1407 : decode cL_law 1407 = .ok (.aload_n 3, 1) := by decide +kernel
theorem dL_law_1408 : decode cL_law 1408 = .ok (.invokestatic 147, 3) := by decide +kernel
theorem dL_law_1411 : decode cL_law 1411 = .ok (.istore 5, 2) := by decide +kernel
theorem dL_law_1413 : decode cL_law 1413 = .ok (.aload_n 2, 1) := by decide +kernel
theorem dL_law_1414 : decode cL_law 1414 = .ok (.aload_n 0, 1) := by decide +kernel
theorem dL_law_1415 : decode cL_law 1415 = .ok (.iload 4, 2) := by decide +kernel
theorem dL_law_1417 : decode cL_law 1417 = .ok (.iconst 1, 1) := by decide +kernel
theorem dL_law_1418 : decode cL_law 1418 = .ok (.iadd, 1) := by decide +kernel
theorem dL_law_1419 : decode cL_law 1419 = .ok (.iaload, 1) := by decide +kernel
theorem dL_law_1420 : decode cL_law 1420 = .ok (.aload_n 0, 1) := by decide +kernel
theorem dL_law_1421 : decode cL_law 1421 = .ok (.iload 4, 2) := by decide +kernel
theorem dL_law_1423 : decode cL_law 1423 = .ok (.iconst 2, 1) := by decide +kernel
theorem dL_law_1424 : decode cL_law 1424 = .ok (.iadd, 1) := by decide +kernel
theorem dL_law_1425 : decode cL_law 1425 = .ok (.iaload, 1) := by decide +kernel
theorem dL_law_1426 : decode cL_law 1426 = .ok (.invokevirtual 149, 3) := by decide +kernel
theorem dL_law_1429 : decode cL_law 1429 = .ok (.istore 6, 2) := by decide +kernel
theorem dL_law_1431 : decode cL_law 1431 = .ok (.aload_n 2, 1) := by decide +kernel
theorem dL_law_1432 : decode cL_law 1432 = .ok (.invokevirtual 84, 3) := by decide +kernel
theorem dL_law_1435 : decode cL_law 1435 = .ok (.iload 5, 2) := by decide +kernel
theorem dL_law_1437 : decode cL_law 1437 = .ok (.if_icmp .eq 5, 3) := by decide +kernel
theorem dL_law_1440 : decode cL_law 1440 = .ok (.iconst 0, 1) := by decide +kernel
theorem dL_law_1441 : decode cL_law 1441 = .ok (.ireturn, 1) := by decide +kernel
theorem dL_law_1442 : decode cL_law 1442 = .ok (.iload 5, 2) := by decide +kernel
theorem dL_law_1444 : decode cL_law 1444 = .ok (.ifCond .ne 15, 3) := by decide +kernel
theorem dL_law_1447 : decode cL_law 1447 = .ok (.aload_n 3, 1) := by decide +kernel
theorem dL_law_1448 : decode cL_law 1448 = .ok (.iconst 0, 1) := by decide +kernel
theorem dL_law_1449 : decode cL_law 1449 = .ok (.laload, 1) := by decide +kernel
theorem dL_law_1450 : decode cL_law 1450 = .ok (.iload 6, 2) := by decide +kernel
theorem dL_law_1452 : decode cL_law 1452 = .ok (.i2l, 1) := by decide +kernel
theorem dL_law_1453 : decode cL_law 1453 = .ok (.lcmp, 1) := by decide +kernel
theorem dL_law_1454 : decode cL_law 1454 = .ok (.ifCond .eq 5, 3) := by decide +kernel
theorem dL_law_1457 : decode cL_law 1457 = .ok (.iconst 0, 1) := by decide +kernel
theorem dL_law_1458 : decode cL_law 1458 = .ok (.ireturn, 1) := by decide +kernel
theorem dL_law_1459 : decode cL_law 1459 = .ok (.goto 58, 3) := by decide +kernel
theorem dL_law_1462 : decode cL_law 1462 = .ok (.aload_n 1, 1) := by decide +kernel
theorem dL_law_1463 : decode cL_law 1463 = .ok (.invokevirtual 150, 3) := by decide +kernel
theorem dL_law_1466 : decode cL_law 1466 = .ok (.dstore 5, 2) := by decide +kernel
theorem dL_law_1468 : decode cL_law 1468 = .ok (.aload_n 2, 1) := by decide +kernel
theorem dL_law_1469 : decode cL_law 1469 = .ok (.invokevirtual 154, 3) := by decide +kernel
theorem dL_law_1472 : decode cL_law 1472 = .ok (.dstore 7, 2) := by decide +kernel
theorem dL_law_1474 : decode cL_law 1474 = .ok (.dload 5, 2) := by decide +kernel
theorem dL_law_1476 : decode cL_law 1476 = .ok (.dload 7, 2) := by decide +kernel
theorem dL_law_1478 : decode cL_law 1478 = .ok (.dcmp .l, 1) := by decide +kernel
theorem dL_law_1479 : decode cL_law 1479 = .ok (.ifCond .eq 21, 3) := by decide +kernel
theorem dL_law_1482 : decode cL_law 1482 = .ok (.dload 5, 2) := by decide +kernel
theorem dL_law_1484 : decode cL_law 1484 = .ok (.dload 5, 2) := by decide +kernel
theorem dL_law_1486 : decode cL_law 1486 = .ok (.dcmp .l, 1) := by decide +kernel
theorem dL_law_1487 : decode cL_law 1487 = .ok (.ifCond .eq 11, 3) := by decide +kernel
theorem dL_law_1490 : decode cL_law 1490 = .ok (.dload 7, 2) := by decide +kernel
theorem dL_law_1492 : decode cL_law 1492 = .ok (.dload 7, 2) := by decide +kernel
theorem dL_law_1494 : decode cL_law 1494 = .ok (.dcmp .l, 1) := by decide +kernel
theorem dL_law_1495 : decode cL_law 1495 = .ok (.ifCond .ne 5, 3) := by decide +kernel
theorem dL_law_1498 : decode cL_law 1498 = .ok (.iconst 0, 1) := by decide +kernel
theorem dL_law_1499 : decode cL_law 1499 = .ok (.ireturn, 1) := by decide +kernel
theorem dL_law_1500 : decode cL_law 1500 = .ok (.goto 17, 3) := by decide +kernel
theorem dL_law_1503 : decode cL_law 1503 = .ok (.aload_n 1, 1) := by decide +kernel
theorem dL_law_1504 : decode cL_law 1504 = .ok (.invokevirtual 155, 3) := by decide +kernel
theorem dL_law_1507 : decode cL_law 1507 = .ok (.aload_n 2, 1) := by decide +kernel
theorem dL_law_1508 : decode cL_law 1508 = .ok (.invokevirtual 159, 3) := by decide +kernel
theorem dL_law_1511 : decode cL_law 1511 = .ok (.lcmp, 1) := by decide +kernel
theorem dL_law_1512 : decode cL_law 1512 = .ok (.ifCond .eq 5, 3) := by decide +kernel
theorem dL_law_1515 : decode cL_law 1515 = .ok (.iconst 0, 1) := by decide +kernel
theorem dL_law_1516 : decode cL_law 1516 = .ok (.ireturn, 1) := by decide +kernel
theorem dL_law_1517 : decode cL_law 1517 = .ok (.iinc 4 5, 3) := by decide +kernel
theorem dL_law_1520 : decode cL_law 1520 = .ok (.goto (-1497), 3) := by decide +kernel
theorem dL_law_1523 : decode cL_law 1523 = .ok (.iconst 1, 1) := by decide +kernel
theorem dL_law_1524 : decode cL_law 1524 = .ok (.ireturn, 1) := by decide +kernel
end
section
/-! the good words of the tables, and what each is needed for, by its place -/
def wsG : List Cond := lw_tbl.filter goodWord
theorem wsG_in : ∀ w ∈ wsG, w ∈ lw_tbl := fun w h => (List.mem_filter.mp h).1
theorem wsG_of {w : Cond} (i : Nat) (h : tables_1[i]? = some w) (g : goodWord w = true) : w ∈ wsG := List.mem_filter.mpr ⟨List.mem_append_right _ (List.mem_of_getElem? h), g⟩
theorem wsG_sel {w : Cond} (i : Nat) (h : (k2_sels lw_privs)[i]? = some w) (g : goodWord w = true) : w ∈ wsG := List.mem_filter.mpr ⟨List.mem_append_left _ (List.mem_of_getElem? h), g⟩
theorem wsG_good : GoodIn wsG wsG := fun w h => ⟨h, good_of_word (List.mem_filter.mp h).2⟩
theorem wsG_goodC {w : Cond} (h : w ∈ wsG) : GoodIn wsG (w :: wsG) := fun x hx => (List.mem_cons.mp hx).elim (fun e => by rw [e]; exact wsG_good w h) (fun hx => wsG_good x hx)
theorem gw_ai : Cond.arrayClass .int ∈ wsG := wsG_of 70 (by decide +kernel) rfl
theorem gw_al : Cond.arrayClass .long ∈ wsG := wsG_of 1099 (by decide +kernel) rfl
theorem gw_oi : Cond.instanceMethod objectInit ∈ wsG := wsG_of 26 (by decide +kernel) rfl
theorem gw_oc : Cond.code objectInit ⟨#[0xb1]⟩ 1 none ∈ wsG := wsG_of 27 (by decide +kernel) rfl
theorem gw_mx1 : Cond.static Lib.Math.max.name ∈ wsG := wsG_of 290 (by decide +kernel) rfl
theorem gw_mx2 : Cond.initialized "java/lang/Math" ∈ wsG := wsG_of 12 (by decide +kernel) rfl
theorem gw_mx3 : Cond.code Lib.Math.max.name Lib.Math.max.code 2 (some .int) ∈ wsG := wsG_of 291 (by decide +kernel) rfl
theorem gw_mn1 : Cond.static Lib.Math.min.name ∈ wsG := wsG_of 625 (by decide +kernel) rfl
theorem gw_mn3 : Cond.code Lib.Math.min.name Lib.Math.min.code 2 (some .int) ∈ wsG := wsG_of 626 (by decide +kernel) rfl
theorem gw_cp1 : Cond.native arraycopyName ∈ wsG := wsG_of 503 (by decide +kernel) rfl
theorem gw_cp2 : Cond.static arraycopyName ∈ wsG := wsG_of 502 (by decide +kernel) rfl
theorem gw_cp3 : Cond.initialized "java/lang/System" ∈ wsG := wsG_of 11 (by decide +kernel) rfl
theorem gly_RX0_0 : u_lay RX0 TX0 0 ∈ wsG := wsG_of 61 (by decide +kernel) rfl
theorem gly_RX0_1 : u_lay RX0 TX0 1 ∈ wsG := wsG_of 63 (by decide +kernel) rfl
theorem gly_RX0_2 : u_lay RX0 TX0 2 ∈ wsG := wsG_of 65 (by decide +kernel) rfl
theorem gly_RX0_3 : u_lay RX0 TX0 3 ∈ wsG := wsG_of 67 (by decide +kernel) rfl
theorem gly_RX0 : ∀ w ∈ u_ws RX0 TX0 4, w ∈ wsG := by
  intro w hw
  obtain ⟨k, hk, rfl⟩ := List.mem_map.mp hw
  have hk := List.mem_range.mp hk
  rcases (show k = 0 ∨ k = 1 ∨ k = 2 ∨ k = 3 by omega) with rfl | rfl | rfl | rfl
  · exact gly_RX0_0
  · exact gly_RX0_1
  · exact gly_RX0_2
  · exact gly_RX0_3
theorem gin_RX0 : Cond.instantiable RX0 4 ∈ wsG := wsG_of 45 (by decide +kernel) rfl
theorem gii_RX0 : Cond.initialized RX0 ∈ wsG := wsG_of 4 (by decide +kernel) rfl
theorem gly_RX1_0 : u_lay RX1 TX1 0 ∈ wsG := wsG_of 78 (by decide +kernel) rfl
theorem gly_RX1_1 : u_lay RX1 TX1 1 ∈ wsG := wsG_of 80 (by decide +kernel) rfl
theorem gly_RX1_2 : u_lay RX1 TX1 2 ∈ wsG := wsG_of 82 (by decide +kernel) rfl
theorem gly_RX1 : ∀ w ∈ u_ws RX1 TX1 3, w ∈ wsG := by
  intro w hw
  obtain ⟨k, hk, rfl⟩ := List.mem_map.mp hw
  have hk := List.mem_range.mp hk
  rcases (show k = 0 ∨ k = 1 ∨ k = 2 by omega) with rfl | rfl | rfl
  · exact gly_RX1_0
  · exact gly_RX1_1
  · exact gly_RX1_2
theorem gin_RX1 : Cond.instantiable RX1 3 ∈ wsG := wsG_of 36 (by decide +kernel) rfl
theorem gii_RX1 : Cond.initialized RX1 ∈ wsG := wsG_of 3 (by decide +kernel) rfl
theorem gly_RX2_0 : u_lay RX2 TX2 0 ∈ wsG := wsG_of 128 (by decide +kernel) rfl
theorem gly_RX2_1 : u_lay RX2 TX2 1 ∈ wsG := wsG_of 130 (by decide +kernel) rfl
theorem gly_RX2_2 : u_lay RX2 TX2 2 ∈ wsG := wsG_of 132 (by decide +kernel) rfl
theorem gly_RX2_3 : u_lay RX2 TX2 3 ∈ wsG := wsG_of 134 (by decide +kernel) rfl
theorem gly_RX2_4 : u_lay RX2 TX2 4 ∈ wsG := wsG_of 136 (by decide +kernel) rfl
theorem gly_RX2_5 : u_lay RX2 TX2 5 ∈ wsG := wsG_of 138 (by decide +kernel) rfl
theorem gly_RX2 : ∀ w ∈ u_ws RX2 TX2 6, w ∈ wsG := by
  intro w hw
  obtain ⟨k, hk, rfl⟩ := List.mem_map.mp hw
  have hk := List.mem_range.mp hk
  rcases (show k = 0 ∨ k = 1 ∨ k = 2 ∨ k = 3 ∨ k = 4 ∨ k = 5 by omega) with rfl | rfl | rfl | rfl | rfl | rfl
  · exact gly_RX2_0
  · exact gly_RX2_1
  · exact gly_RX2_2
  · exact gly_RX2_3
  · exact gly_RX2_4
  · exact gly_RX2_5
theorem gin_RX2 : Cond.instantiable RX2 6 ∈ wsG := wsG_of 112 (by decide +kernel) rfl
theorem gii_RX2 : Cond.initialized RX2 ∈ wsG := wsG_of 5 (by decide +kernel) rfl
theorem gly_RX3_0 : u_lay RX3 TX3 0 ∈ wsG := wsG_of 97 (by decide +kernel) rfl
theorem gly_RX3_1 : u_lay RX3 TX3 1 ∈ wsG := wsG_of 99 (by decide +kernel) rfl
theorem gly_RX3_2 : u_lay RX3 TX3 2 ∈ wsG := wsG_of 101 (by decide +kernel) rfl
theorem gly_RX3_3 : u_lay RX3 TX3 3 ∈ wsG := wsG_of 103 (by decide +kernel) rfl
theorem gly_RX3_4 : u_lay RX3 TX3 4 ∈ wsG := wsG_of 105 (by decide +kernel) rfl
theorem gly_RX3_5 : u_lay RX3 TX3 5 ∈ wsG := wsG_of 107 (by decide +kernel) rfl
theorem gly_RX3 : ∀ w ∈ u_ws RX3 TX3 6, w ∈ wsG := by
  intro w hw
  obtain ⟨k, hk, rfl⟩ := List.mem_map.mp hw
  have hk := List.mem_range.mp hk
  rcases (show k = 0 ∨ k = 1 ∨ k = 2 ∨ k = 3 ∨ k = 4 ∨ k = 5 by omega) with rfl | rfl | rfl | rfl | rfl | rfl
  · exact gly_RX3_0
  · exact gly_RX3_1
  · exact gly_RX3_2
  · exact gly_RX3_3
  · exact gly_RX3_4
  · exact gly_RX3_5
theorem gin_RX3 : Cond.instantiable RX3 6 ∈ wsG := wsG_of 29 (by decide +kernel) rfl
theorem gii_RX3 : Cond.initialized RX3 ∈ wsG := wsG_of 2 (by decide +kernel) rfl
theorem gly_RX4_0 : u_lay RX4 TX4 0 ∈ wsG := wsG_of 148 (by decide +kernel) rfl
theorem gly_RX4_1 : u_lay RX4 TX4 1 ∈ wsG := wsG_of 150 (by decide +kernel) rfl
theorem gly_RX4_2 : u_lay RX4 TX4 2 ∈ wsG := wsG_of 152 (by decide +kernel) rfl
theorem gly_RX4_3 : u_lay RX4 TX4 3 ∈ wsG := wsG_of 154 (by decide +kernel) rfl
theorem gly_RX4_4 : u_lay RX4 TX4 4 ∈ wsG := wsG_of 156 (by decide +kernel) rfl
theorem gly_RX4_5 : u_lay RX4 TX4 5 ∈ wsG := wsG_of 158 (by decide +kernel) rfl
theorem gly_RX4_6 : u_lay RX4 TX4 6 ∈ wsG := wsG_of 160 (by decide +kernel) rfl
theorem gly_RX4 : ∀ w ∈ u_ws RX4 TX4 7, w ∈ wsG := by
  intro w hw
  obtain ⟨k, hk, rfl⟩ := List.mem_map.mp hw
  have hk := List.mem_range.mp hk
  rcases (show k = 0 ∨ k = 1 ∨ k = 2 ∨ k = 3 ∨ k = 4 ∨ k = 5 ∨ k = 6 by omega) with rfl | rfl | rfl | rfl | rfl | rfl | rfl
  · exact gly_RX4_0
  · exact gly_RX4_1
  · exact gly_RX4_2
  · exact gly_RX4_3
  · exact gly_RX4_4
  · exact gly_RX4_5
  · exact gly_RX4_6
theorem gin_RX4 : Cond.instantiable RX4 7 ∈ wsG := wsG_of 21 (by decide +kernel) rfl
theorem gii_RX4 : Cond.initialized RX4 ∈ wsG := wsG_of 1 (by decide +kernel) rfl
theorem gly_RX5_0 : u_lay RX5 TX5 0 ∈ wsG := wsG_of 775 (by decide +kernel) rfl
theorem gly_RX5_1 : u_lay RX5 TX5 1 ∈ wsG := wsG_of 777 (by decide +kernel) rfl
theorem gly_RX5_2 : u_lay RX5 TX5 2 ∈ wsG := wsG_of 779 (by decide +kernel) rfl
theorem gly_RX5_3 : u_lay RX5 TX5 3 ∈ wsG := wsG_of 781 (by decide +kernel) rfl
theorem gly_RX5_4 : u_lay RX5 TX5 4 ∈ wsG := wsG_of 783 (by decide +kernel) rfl
theorem gly_RX5_5 : u_lay RX5 TX5 5 ∈ wsG := wsG_of 785 (by decide +kernel) rfl
theorem gly_RX5_6 : u_lay RX5 TX5 6 ∈ wsG := wsG_of 787 (by decide +kernel) rfl
theorem gly_RX5_7 : u_lay RX5 TX5 7 ∈ wsG := wsG_of 789 (by decide +kernel) rfl
theorem gly_RX5_8 : u_lay RX5 TX5 8 ∈ wsG := wsG_of 791 (by decide +kernel) rfl
theorem gly_RX5_9 : u_lay RX5 TX5 9 ∈ wsG := wsG_of 793 (by decide +kernel) rfl
theorem gly_RX5_10 : u_lay RX5 TX5 10 ∈ wsG := wsG_of 795 (by decide +kernel) rfl
theorem gly_RX5_11 : u_lay RX5 TX5 11 ∈ wsG := wsG_of 797 (by decide +kernel) rfl
theorem gly_RX5_12 : u_lay RX5 TX5 12 ∈ wsG := wsG_of 799 (by decide +kernel) rfl
theorem gly_RX5_13 : u_lay RX5 TX5 13 ∈ wsG := wsG_of 801 (by decide +kernel) rfl
theorem gly_RX5_14 : u_lay RX5 TX5 14 ∈ wsG := wsG_of 803 (by decide +kernel) rfl
theorem gly_RX5_15 : u_lay RX5 TX5 15 ∈ wsG := wsG_of 805 (by decide +kernel) rfl
theorem gly_RX5 : ∀ w ∈ u_ws RX5 TX5 16, w ∈ wsG := by
  intro w hw
  obtain ⟨k, hk, rfl⟩ := List.mem_map.mp hw
  have hk := List.mem_range.mp hk
  rcases (show k = 0 ∨ k = 1 ∨ k = 2 ∨ k = 3 ∨ k = 4 ∨ k = 5 ∨ k = 6 ∨ k = 7 ∨ k = 8 ∨ k = 9 ∨ k = 10 ∨ k = 11 ∨ k = 12 ∨ k = 13 ∨ k = 14 ∨ k = 15 by omega) with rfl | rfl | rfl | rfl | rfl | rfl | rfl | rfl | rfl | rfl | rfl | rfl | rfl | rfl | rfl | rfl
  · exact gly_RX5_0
  · exact gly_RX5_1
  · exact gly_RX5_2
  · exact gly_RX5_3
  · exact gly_RX5_4
  · exact gly_RX5_5
  · exact gly_RX5_6
  · exact gly_RX5_7
  · exact gly_RX5_8
  · exact gly_RX5_9
  · exact gly_RX5_10
  · exact gly_RX5_11
  · exact gly_RX5_12
  · exact gly_RX5_13
  · exact gly_RX5_14
  · exact gly_RX5_15
theorem gin_RX5 : Cond.instantiable RX5 16 ∈ wsG := wsG_of 754 (by decide +kernel) rfl
theorem gii_RX5 : Cond.initialized RX5 ∈ wsG := wsG_of 6 (by decide +kernel) rfl
theorem gii_RL : Cond.initialized RL ∈ wsG := wsG_of 0 (by decide +kernel) rfl
def mX0_init : MethodName × ByteArray × Nat × Option FieldType × Nat × Nat × Nat × Nat := (yX0_init, cX0_init, 1, none, 1, 24, 3, 13)
theorem gcd_X0_init : Cond.code yX0_init cX0_init 1 none ∈ wsG := wsG_of 48 (by decide +kernel) rfl
def mX0_become : MethodName × ByteArray × Nat × Option FieldType × Nat × Nat × Nat × Nat := (yX0_become, cX0_become, 2, none, 1, 44, 0, 0)
theorem gcd_X0_become : Cond.code yX0_become cX0_become 2 none ∈ wsG := wsG_of 500 (by decide +kernel) rfl
def mX0_has : MethodName × ByteArray × Nat × Option FieldType × Nat × Nat × Nat × Nat := (yX0_has, cX0_has, 3, (some .boolean), 0, 0, 0, 0)
theorem gcd_X0_has : Cond.code yX0_has cX0_has 3 (some .boolean) ∈ wsG := wsG_of 314 (by decide +kernel) rfl
def mX0_hasOneOf : MethodName × ByteArray × Nat × Option FieldType × Nat × Nat × Nat × Nat := (yX0_hasOneOf, cX0_hasOneOf, 3, (some .boolean), 1, 20, 0, 0)
theorem gcd_X0_hasOneOf : Cond.code yX0_hasOneOf cX0_hasOneOf 3 (some .boolean) ∈ wsG := wsG_of 338 (by decide +kernel) rfl
def mX0_hasSameSiblings : MethodName × ByteArray × Nat × Option FieldType × Nat × Nat × Nat × Nat := (yX0_hasSameSiblings, cX0_hasSameSiblings, 3, (some .boolean), 0, 0, 0, 0)
theorem gcd_X0_hasSameSiblings : Cond.code yX0_hasSameSiblings cX0_hasSameSiblings 3 (some .boolean) ∈ wsG := wsG_of 270 (by decide +kernel) rfl
def mX0_coveredBy : MethodName × ByteArray × Nat × Option FieldType × Nat × Nat × Nat × Nat := (yX0_coveredBy, cX0_coveredBy, 4, (some .int), 1, 22, 0, 0)
theorem gcd_X0_coveredBy : Cond.code yX0_coveredBy cX0_coveredBy 4 (some .int) ∈ wsG := wsG_of 371 (by decide +kernel) rfl
def mX0_hasDropped : MethodName × ByteArray × Nat × Option FieldType × Nat × Nat × Nat × Nat := (yX0_hasDropped, cX0_hasDropped, 2, (some .boolean), 1, 22, 0, 0)
theorem gcd_X0_hasDropped : Cond.code yX0_hasDropped cX0_hasDropped 2 (some .boolean) ∈ wsG := wsG_of 384 (by decide +kernel) rfl
def mX0_isNew : MethodName × ByteArray × Nat × Option FieldType × Nat × Nat × Nat × Nat := (yX0_isNew, cX0_isNew, 2, (some .boolean), 1, 22, 0, 0)
theorem gcd_X0_isNew : Cond.code yX0_isNew cX0_isNew 2 (some .boolean) ∈ wsG := wsG_of 393 (by decide +kernel) rfl
def mX0_lostTo : MethodName × ByteArray × Nat × Option FieldType × Nat × Nat × Nat × Nat := (yX0_lostTo, cX0_lostTo, 4, (some .int), 2, 43, 0, 0)
theorem gcd_X0_lostTo : Cond.code yX0_lostTo cX0_lostTo 4 (some .int) ∈ wsG := wsG_of 380 (by decide +kernel) rfl
def mX0_gainedFrom : MethodName × ByteArray × Nat × Option FieldType × Nat × Nat × Nat × Nat := (yX0_gainedFrom, cX0_gainedFrom, 4, (some .int), 2, 43, 0, 0)
theorem gcd_X0_gainedFrom : Cond.code yX0_gainedFrom cX0_gainedFrom 4 (some .int) ∈ wsG := wsG_of 389 (by decide +kernel) rfl
def mX0_dropCoveredBy : MethodName × ByteArray × Nat × Option FieldType × Nat × Nat × Nat × Nat := (yX0_dropCoveredBy, cX0_dropCoveredBy, 3, none, 1, 22, 0, 0)
theorem gcd_X0_dropCoveredBy : Cond.code yX0_dropCoveredBy cX0_dropCoveredBy 3 none ∈ wsG := wsG_of 574 (by decide +kernel) rfl
def mX0_takeFrom : MethodName × ByteArray × Nat × Option FieldType × Nat × Nat × Nat × Nat := (yX0_takeFrom, cX0_takeFrom, 3, none, 2, 46, 0, 0)
theorem gcd_X0_takeFrom : Cond.code yX0_takeFrom cX0_takeFrom 3 none ∈ wsG := wsG_of 608 (by decide +kernel) rfl
def mX0_insert : MethodName × ByteArray × Nat × Option FieldType × Nat × Nat × Nat × Nat := (yX0_insert, cX0_insert, 4, none, 0, 0, 0, 0)
theorem gcd_X0_insert : Cond.code yX0_insert cX0_insert 4 none ∈ wsG := wsG_of 582 (by decide +kernel) rfl
def mX0_remove : MethodName × ByteArray × Nat × Option FieldType × Nat × Nat × Nat × Nat := (yX0_remove, cX0_remove, 3, none, 0, 0, 0, 0)
theorem gcd_X0_remove : Cond.code yX0_remove cX0_remove 3 none ∈ wsG := wsG_of 578 (by decide +kernel) rfl
def mX0_valueBy : MethodName × ByteArray × Nat × Option FieldType × Nat × Nat × Nat × Nat := (yX0_valueBy, cX0_valueBy, 6, (some .int), 1, 24, 0, 0)
theorem gcd_X0_valueBy : Cond.code yX0_valueBy cX0_valueBy 6 (some .int) ∈ wsG := wsG_of 622 (by decide +kernel) rfl
def mX1_init : MethodName × ByteArray × Nat × Option FieldType × Nat × Nat × Nat × Nat := (yX1_init, cX1_init, 2, none, 2, 44, 20, 89)
theorem gcd_X1_init : Cond.code yX1_init cX1_init 2 none ∈ wsG := wsG_of 39 (by decide +kernel) rfl
def mX1_become : MethodName × ByteArray × Nat × Option FieldType × Nat × Nat × Nat × Nat := (yX1_become, cX1_become, 3, none, 2, 65, 0, 0)
theorem gcd_X1_become : Cond.code yX1_become cX1_become 3 none ∈ wsG := wsG_of 496 (by decide +kernel) rfl
def mX1_learn : MethodName × ByteArray × Nat × Option FieldType × Nat × Nat × Nat × Nat := (yX1_learn, cX1_learn, 3, none, 2, 46, 0, 0)
theorem gcd_X1_learn : Cond.code yX1_learn cX1_learn 3 none ∈ wsG := wsG_of 508 (by decide +kernel) rfl
def mX1_mayWrite : MethodName × ByteArray × Nat × Option FieldType × Nat × Nat × Nat × Nat := (yX1_mayWrite, cX1_mayWrite, 3, (some .boolean), 3, 69, 0, 0)
theorem gcd_X1_mayWrite : Cond.code yX1_mayWrite cX1_mayWrite 3 (some .boolean) ∈ wsG := wsG_of 544 (by decide +kernel) rfl
def mX1_mayPull : MethodName × ByteArray × Nat × Option FieldType × Nat × Nat × Nat × Nat := (yX1_mayPull, cX1_mayPull, 3, (some .boolean), 4, 91, 0, 0)
theorem gcd_X1_mayPull : Cond.code yX1_mayPull cX1_mayPull 3 (some .boolean) ∈ wsG := wsG_of 597 (by decide +kernel) rfl
def mX1_writeOutlook : MethodName × ByteArray × Nat × Option FieldType × Nat × Nat × Nat × Nat := (yX1_writeOutlook, cX1_writeOutlook, 5, (some .int), 2, 45, 0, 0)
theorem gcd_X1_writeOutlook : Cond.code yX1_writeOutlook cX1_writeOutlook 5 (some .int) ∈ wsG := wsG_of 367 (by decide +kernel) rfl
def mX1_pullOutlook : MethodName × ByteArray × Nat × Option FieldType × Nat × Nat × Nat × Nat := (yX1_pullOutlook, cX1_pullOutlook, 6, (some .int), 3, 66, 0, 0)
theorem gcd_X1_pullOutlook : Cond.code yX1_pullOutlook cX1_pullOutlook 6 (some .int) ∈ wsG := wsG_of 376 (by decide +kernel) rfl
def mX1_put : MethodName × ByteArray × Nat × Option FieldType × Nat × Nat × Nat × Nat := (yX1_put, cX1_put, 4, none, 2, 46, 0, 0)
theorem gcd_X1_put : Cond.code yX1_put cX1_put 4 none ∈ wsG := wsG_of 570 (by decide +kernel) rfl
def mX1_unlearn : MethodName × ByteArray × Nat × Option FieldType × Nat × Nat × Nat × Nat := (yX1_unlearn, cX1_unlearn, 4, (some .int), 0, 0, 0, 0)
theorem gcd_X1_unlearn : Cond.code yX1_unlearn cX1_unlearn 4 (some .int) ∈ wsG := wsG_of 637 (by decide +kernel) rfl
def mX1_hindrance : MethodName × ByteArray × Nat × Option FieldType × Nat × Nat × Nat × Nat := (yX1_hindrance, cX1_hindrance, 4, (some .int), 2, 42, 0, 0)
theorem gcd_X1_hindrance : Cond.code yX1_hindrance cX1_hindrance 4 (some .int) ∈ wsG := wsG_of 334 (by decide +kernel) rfl
def mX1_erase : MethodName × ByteArray × Nat × Option FieldType × Nat × Nat × Nat × Nat := (yX1_erase, cX1_erase, 3, none, 0, 0, 0, 0)
theorem gcd_X1_erase : Cond.code yX1_erase cX1_erase 3 none ∈ wsG := wsG_of 649 (by decide +kernel) rfl
def mX1_siblingFact : MethodName × ByteArray × Nat × Option FieldType × Nat × Nat × Nat × Nat := (yX1_siblingFact, cX1_siblingFact, 6, (some .int), 2, 45, 0, 0)
theorem gcd_X1_siblingFact : Cond.code yX1_siblingFact cX1_siblingFact 6 (some .int) ∈ wsG := wsG_of 348 (by decide +kernel) rfl
def mX1_knowers : MethodName × ByteArray × Nat × Option FieldType × Nat × Nat × Nat × Nat := (yX1_knowers, cX1_knowers, 4, (some .int), 1, 22, 0, 0)
theorem gcd_X1_knowers : Cond.code yX1_knowers cX1_knowers 4 (some .int) ∈ wsG := wsG_of 356 (by decide +kernel) rfl
def mX1_holders : MethodName × ByteArray × Nat × Option FieldType × Nat × Nat × Nat × Nat := (yX1_holders, cX1_holders, 4, (some .int), 1, 22, 0, 0)
theorem gcd_X1_holders : Cond.code yX1_holders cX1_holders 4 (some .int) ∈ wsG := wsG_of 310 (by decide +kernel) rfl
def mX1_keyFact : MethodName × ByteArray × Nat × Option FieldType × Nat × Nat × Nat × Nat := (yX1_keyFact, cX1_keyFact, 2, (some .int), 4, 87, 0, 0)
theorem gcd_X1_keyFact : Cond.code yX1_keyFact cX1_keyFact 2 (some .int) ∈ wsG := wsG_of 302 (by decide +kernel) rfl
def mX1_unlikeSiblings : MethodName × ByteArray × Nat × Option FieldType × Nat × Nat × Nat × Nat := (yX1_unlikeSiblings, cX1_unlikeSiblings, 5, (some .int), 2, 45, 0, 0)
theorem gcd_X1_unlikeSiblings : Cond.code yX1_unlikeSiblings cX1_unlikeSiblings 5 (some .int) ∈ wsG := wsG_of 306 (by decide +kernel) rfl
def mX1_writesInAll : MethodName × ByteArray × Nat × Option FieldType × Nat × Nat × Nat × Nat := (yX1_writesInAll, cX1_writesInAll, 3, (some .int), 0, 0, 0, 0)
theorem gcd_X1_writesInAll : Cond.code yX1_writesInAll cX1_writesInAll 3 (some .int) ∈ wsG := wsG_of 318 (by decide +kernel) rfl
def mX1_agreeingPairs : MethodName × ByteArray × Nat × Option FieldType × Nat × Nat × Nat × Nat := (yX1_agreeingPairs, cX1_agreeingPairs, 4, (some .int), 1, 22, 0, 0)
theorem gcd_X1_agreeingPairs : Cond.code yX1_agreeingPairs cX1_agreeingPairs 4 (some .int) ∈ wsG := wsG_of 266 (by decide +kernel) rfl
def mX1_allSeeTheSame : MethodName × ByteArray × Nat × Option FieldType × Nat × Nat × Nat × Nat := (yX1_allSeeTheSame, cX1_allSeeTheSame, 2, (some .boolean), 1, 22, 0, 0)
theorem gcd_X1_allSeeTheSame : Cond.code yX1_allSeeTheSame cX1_allSeeTheSame 2 (some .boolean) ∈ wsG := wsG_of 323 (by decide +kernel) rfl
def mX1_forgettable : MethodName × ByteArray × Nat × Option FieldType × Nat × Nat × Nat × Nat := (yX1_forgettable, cX1_forgettable, 3, (some .int), 3, 65, 0, 0)
theorem gcd_X1_forgettable : Cond.code yX1_forgettable cX1_forgettable 3 (some .int) ∈ wsG := wsG_of 330 (by decide +kernel) rfl
def mX2_init : MethodName × ByteArray × Nat × Option FieldType × Nat × Nat × Nat × Nat := (yX2_init, cX2_init, 1, none, 1, 24, 0, 0)
theorem gcd_X2_init : Cond.code yX2_init cX2_init 1 none ∈ wsG := wsG_of 115 (by decide +kernel) rfl
def mX2_restart : MethodName × ByteArray × Nat × Option FieldType × Nat × Nat × Nat × Nat := (yX2_restart, cX2_restart, 1, none, 0, 0, 0, 0)
theorem gcd_X2_restart : Cond.code yX2_restart cX2_restart 1 none ∈ wsG := wsG_of 178 (by decide +kernel) rfl
def mX2_isWhole : MethodName × ByteArray × Nat × Option FieldType × Nat × Nat × Nat × Nat := (yX2_isWhole, cX2_isWhole, 1, (some .boolean), 2, 40, 0, 0)
theorem gcd_X2_isWhole : Cond.code yX2_isWhole cX2_isWhole 1 (some .boolean) ∈ wsG := wsG_of 190 (by decide +kernel) rfl
def mX2_takes : MethodName × ByteArray × Nat × Option FieldType × Nat × Nat × Nat × Nat := (yX2_takes, cX2_takes, 3, (some .boolean), 5, 106, 0, 0)
theorem gcd_X2_takes : Cond.code yX2_takes cX2_takes 3 (some .boolean) ∈ wsG := wsG_of 182 (by decide +kernel) rfl
def mX2_shape : MethodName × ByteArray × Nat × Option FieldType × Nat × Nat × Nat × Nat := (yX2_shape, cX2_shape, 1, (some (.object "java/lang/String")), 0, 0, 0, 0)
theorem gcd_X2_shape : Cond.code yX2_shape cX2_shape 1 (some (.object "java/lang/String")) ∈ wsG := wsG_of 194 (by decide +kernel) rfl
def mX2_takesKind : MethodName × ByteArray × Nat × Option FieldType × Nat × Nat × Nat × Nat := (yX2_takesKind, cX2_takesKind, 2, (some .boolean), 0, 0, 0, 0)
theorem gcd_X2_takesKind : Cond.code yX2_takesKind cX2_takesKind 2 (some .boolean) ∈ wsG := wsG_of 186 (by decide +kernel) rfl
def mX2_takesDigit : MethodName × ByteArray × Nat × Option FieldType × Nat × Nat × Nat × Nat := (yX2_takesDigit, cX2_takesDigit, 4, (some .boolean), 0, 0, 0, 0)
theorem gcd_X2_takesDigit : Cond.code yX2_takesDigit cX2_takesDigit 4 (some .boolean) ∈ wsG := wsG_of 253 (by decide +kernel) rfl
def mX2_takesEnd : MethodName × ByteArray × Nat × Option FieldType × Nat × Nat × Nat × Nat := (yX2_takesEnd, cX2_takesEnd, 3, (some .boolean), 2, 40, 0, 0)
theorem gcd_X2_takesEnd : Cond.code yX2_takesEnd cX2_takesEnd 3 (some .boolean) ∈ wsG := wsG_of 210 (by decide +kernel) rfl
def mX3_init : MethodName × ByteArray × Nat × Option FieldType × Nat × Nat × Nat × Nat := (yX3_init, cX3_init, 2, none, 3, 65, 64, 279)
theorem gcd_X3_init : Cond.code yX3_init cX3_init 2 none ∈ wsG := wsG_of 32 (by decide +kernel) rfl
def mX3_become : MethodName × ByteArray × Nat × Option FieldType × Nat × Nat × Nat × Nat := (yX3_become, cX3_become, 3, none, 3, 87, 0, 0)
theorem gcd_X3_become : Cond.code yX3_become cX3_become 3 none ∈ wsG := wsG_of 492 (by decide +kernel) rfl
def mX3_replace : MethodName × ByteArray × Nat × Option FieldType × Nat × Nat × Nat × Nat := (yX3_replace, cX3_replace, 6, (some .int), 3, 69, 0, 0)
theorem gcd_X3_replace : Cond.code yX3_replace cX3_replace 6 (some .int) ∈ wsG := wsG_of 565 (by decide +kernel) rfl
def mX3_bring : MethodName × ByteArray × Nat × Option FieldType × Nat × Nat × Nat × Nat := (yX3_bring, cX3_bring, 5, (some .int), 4, 91, 0, 0)
theorem gcd_X3_bring : Cond.code yX3_bring cX3_bring 5 (some .int) ∈ wsG := wsG_of 603 (by decide +kernel) rfl
def mX3_bringAll : MethodName × ByteArray × Nat × Option FieldType × Nat × Nat × Nat × Nat := (yX3_bringAll, cX3_bringAll, 4, (some .boolean), 5, 115, 0, 0)
theorem gcd_X3_bringAll : Cond.code yX3_bringAll cX3_bringAll 4 (some .boolean) ∈ wsG := wsG_of 660 (by decide +kernel) rfl
def mX3_siblingsInAll : MethodName × ByteArray × Nat × Option FieldType × Nat × Nat × Nat × Nat := (yX3_siblingsInAll, cX3_siblingsInAll, 4, (some .int), 0, 0, 0, 0)
theorem gcd_X3_siblingsInAll : Cond.code yX3_siblingsInAll cX3_siblingsInAll 4 (some .int) ∈ wsG := wsG_of 284 (by decide +kernel) rfl
def mX3_mostSiblings : MethodName × ByteArray × Nat × Option FieldType × Nat × Nat × Nat × Nat := (yX3_mostSiblings, cX3_mostSiblings, 4, (some .int), 1, 24, 0, 0)
theorem gcd_X3_mostSiblings : Cond.code yX3_mostSiblings cX3_mostSiblings 4 (some .int) ∈ wsG := wsG_of 288 (by decide +kernel) rfl
def mX4_init : MethodName × ByteArray × Nat × Option FieldType × Nat × Nat × Nat × Nat := (yX4_init, cX4_init, 2, none, 4, 86, 523, 2352)
theorem gcd_X4_init : Cond.code yX4_init cX4_init 2 none ∈ wsG := wsG_of 24 (by decide +kernel) rfl
def mX4_read : MethodName × ByteArray × Nat × Option FieldType × Nat × Nat × Nat × Nat := (yX4_read, cX4_read, 5, (some .int), 8, 133, 3, 18)
theorem gcd_X4_read : Cond.code yX4_read cX4_read 5 (some .int) ∈ wsG := wsG_of 407 (by decide +kernel) rfl
def mX4_write : MethodName × ByteArray × Nat × Option FieldType × Nat × Nat × Nat × Nat := (yX4_write, cX4_write, 5, (some .int), 8, 133, 5, 30)
theorem gcd_X4_write : Cond.code yX4_write cX4_write 5 (some .int) ∈ wsG := wsG_of 521 (by decide +kernel) rfl
def mX4_pull : MethodName × ByteArray × Nat × Option FieldType × Nat × Nat × Nat × Nat := (yX4_pull, cX4_pull, 4, (some .int), 8, 133, 5, 30)
theorem gcd_X4_pull : Cond.code yX4_pull cX4_pull 4 (some .int) ∈ wsG := wsG_of 589 (by decide +kernel) rfl
def mX4_join : MethodName × ByteArray × Nat × Option FieldType × Nat × Nat × Nat × Nat := (yX4_join, cX4_join, 7, (some .int), 8, 133, 5, 30)
theorem gcd_X4_join : Cond.code yX4_join cX4_join 7 (some .int) ∈ wsG := wsG_of 617 (by decide +kernel) rfl
def mX4_lose : MethodName × ByteArray × Nat × Option FieldType × Nat × Nat × Nat × Nat := (yX4_lose, cX4_lose, 3, (some .int), 7, 129, 2, 12)
theorem gcd_X4_lose : Cond.code yX4_lose cX4_lose 3 (some .int) ∈ wsG := wsG_of 633 (by decide +kernel) rfl
def mX4_forget : MethodName × ByteArray × Nat × Option FieldType × Nat × Nat × Nat × Nat := (yX4_forget, cX4_forget, 5, (some .int), 7, 129, 3, 18)
theorem gcd_X4_forget : Cond.code yX4_forget cX4_forget 5 (some .int) ∈ wsG := wsG_of 644 (by decide +kernel) rfl
def mX4_pullAll : MethodName × ByteArray × Nat × Option FieldType × Nat × Nat × Nat × Nat := (yX4_pullAll, cX4_pullAll, 2, (some .int), 6, 138, 1, 6)
theorem gcd_X4_pullAll : Cond.code yX4_pullAll cX4_pullAll 2 (some .int) ∈ wsG := wsG_of 656 (by decide +kernel) rfl
def mX4_append : MethodName × ByteArray × Nat × Option FieldType × Nat × Nat × Nat × Nat := (yX4_append, cX4_append, 2, (some .int), 6, 90, 2, 12)
theorem gcd_X4_append : Cond.code yX4_append cX4_append 2 (some .int) ∈ wsG := wsG_of 669 (by decide +kernel) rfl
def mX4_clearBuffer : MethodName × ByteArray × Nat × Option FieldType × Nat × Nat × Nat × Nat := (yX4_clearBuffer, cX4_clearBuffer, 2, (some .int), 0, 0, 0, 0)
theorem gcd_X4_clearBuffer : Cond.code yX4_clearBuffer cX4_clearBuffer 2 (some .int) ∈ wsG := wsG_of 166 (by decide +kernel) rfl
def mX4_firstError : MethodName × ByteArray × Nat × Option FieldType × Nat × Nat × Nat × Nat := (yX4_firstError, cX4_firstError, 1, (some .int), 7, 149, 0, 0)
theorem gcd_X4_firstError : Cond.code yX4_firstError cX4_firstError 1 (some .int) ∈ wsG := wsG_of 170 (by decide +kernel) rfl
def mX4_runAll : MethodName × ByteArray × Nat × Option FieldType × Nat × Nat × Nat × Nat := (yX4_runAll, cX4_runAll, 2, (some .int), 7, 150, 1, 6)
theorem gcd_X4_runAll : Cond.code yX4_runAll cX4_runAll 2 (some .int) ∈ wsG := wsG_of 678 (by decide +kernel) rfl
def mX4_undo : MethodName × ByteArray × Nat × Option FieldType × Nat × Nat × Nat × Nat := (yX4_undo, cX4_undo, 1, (some .int), 6, 109, 1, 6)
theorem gcd_X4_undo : Cond.code yX4_undo cX4_undo 1 (some .int) ∈ wsG := wsG_of 695 (by decide +kernel) rfl
def mX4_sibling : MethodName × ByteArray × Nat × Option FieldType × Nat × Nat × Nat × Nat := (yX4_sibling, cX4_sibling, 5, (some .int), 7, 111, 4, 24)
theorem gcd_X4_sibling : Cond.code yX4_sibling cX4_sibling 5 (some .int) ∈ wsG := wsG_of 703 (by decide +kernel) rfl
def mX4_vector : MethodName × ByteArray × Nat × Option FieldType × Nat × Nat × Nat × Nat := (yX4_vector, cX4_vector, 4, (some .int), 8, 133, 3, 18)
theorem gcd_X4_vector : Cond.code yX4_vector cX4_vector 4 (some .int) ∈ wsG := wsG_of 710 (by decide +kernel) rfl
def mX4_knows : MethodName × ByteArray × Nat × Option FieldType × Nat × Nat × Nat × Nat := (yX4_knows, cX4_knows, 4, (some .int), 7, 111, 3, 18)
theorem gcd_X4_knows : Cond.code yX4_knows cX4_knows 4 (some .int) ∈ wsG := wsG_of 717 (by decide +kernel) rfl
def mX4_key : MethodName × ByteArray × Nat × Option FieldType × Nat × Nat × Nat × Nat := (yX4_key, cX4_key, 3, (some .int), 7, 111, 2, 12)
theorem gcd_X4_key : Cond.code yX4_key cX4_key 3 (some .int) ∈ wsG := wsG_of 724 (by decide +kernel) rfl
def mX4_count : MethodName × ByteArray × Nat × Option FieldType × Nat × Nat × Nat × Nat := (yX4_count, cX4_count, 2, (some .int), 7, 111, 1, 6)
theorem gcd_X4_count : Cond.code yX4_count cX4_count 2 (some .int) ∈ wsG := wsG_of 731 (by decide +kernel) rfl
def mX4_ifWritten : MethodName × ByteArray × Nat × Option FieldType × Nat × Nat × Nat × Nat := (yX4_ifWritten, cX4_ifWritten, 5, (some .int), 8, 133, 4, 24)
theorem gcd_X4_ifWritten : Cond.code yX4_ifWritten cX4_ifWritten 5 (some .int) ∈ wsG := wsG_of 738 (by decide +kernel) rfl
def mX4_ifPulled : MethodName × ByteArray × Nat × Option FieldType × Nat × Nat × Nat × Nat := (yX4_ifPulled, cX4_ifPulled, 5, (some .int), 8, 133, 5, 30)
theorem gcd_X4_ifPulled : Cond.code yX4_ifPulled cX4_ifPulled 5 (some .int) ∈ wsG := wsG_of 745 (by decide +kernel) rfl
def mX4_whyNot : MethodName × ByteArray × Nat × Option FieldType × Nat × Nat × Nat × Nat := (yX4_whyNot, cX4_whyNot, 3, (some .int), 7, 111, 2, 12)
theorem gcd_X4_whyNot : Cond.code yX4_whyNot cX4_whyNot 3 (some .int) ∈ wsG := wsG_of 752 (by decide +kernel) rfl
def mX4_agreement : MethodName × ByteArray × Nat × Option FieldType × Nat × Nat × Nat × Nat := (yX4_agreement, cX4_agreement, 1, (some .double), 3, 67, 0, 0)
theorem gcd_X4_agreement : Cond.code yX4_agreement cX4_agreement 1 (some .double) ∈ wsG := wsG_of 258 (by decide +kernel) rfl
def mX4_digest : MethodName × ByteArray × Nat × Option FieldType × Nat × Nat × Nat × Nat := (yX4_digest, cX4_digest, 5, (some .long), 6, 133, 0, 0)
theorem gcd_X4_digest : Cond.code yX4_digest cX4_digest 5 (some .long) ∈ wsG := wsG_of 275 (by decide +kernel) rfl
def mX4_checkIndex : MethodName × ByteArray × Nat × Option FieldType × Nat × Nat × Nat × Nat := (yX4_checkIndex, cX4_checkIndex, 2, none, 6, 90, 1, 6)
theorem gcd_X4_checkIndex : Cond.code yX4_checkIndex cX4_checkIndex 2 none ∈ wsG := wsG_of 413 (by decide +kernel) rfl
def mX4_checkUpTo : MethodName × ByteArray × Nat × Option FieldType × Nat × Nat × Nat × Nat := (yX4_checkUpTo, cX4_checkUpTo, 2, none, 6, 90, 1, 6)
theorem gcd_X4_checkUpTo : Cond.code yX4_checkUpTo cX4_checkUpTo 2 none ∈ wsG := wsG_of 524 (by decide +kernel) rfl
def mX4_checkWriterKeyStore : MethodName × ByteArray × Nat × Option FieldType × Nat × Nat × Nat × Nat := (yX4_checkWriterKeyStore, cX4_checkWriterKeyStore, 3, none, 7, 111, 3, 18)
theorem gcd_X4_checkWriterKeyStore : Cond.code yX4_checkWriterKeyStore cX4_checkWriterKeyStore 3 none ∈ wsG := wsG_of 410 (by decide +kernel) rfl
def mX4_checkTwoStores : MethodName × ByteArray × Nat × Option FieldType × Nat × Nat × Nat × Nat := (yX4_checkTwoStores, cX4_checkTwoStores, 3, none, 7, 111, 4, 24)
theorem gcd_X4_checkTwoStores : Cond.code yX4_checkTwoStores cX4_checkTwoStores 3 none ∈ wsG := wsG_of 592 (by decide +kernel) rfl
def mX4_save : MethodName × ByteArray × Nat × Option FieldType × Nat × Nat × Nat × Nat := (yX4_save, cX4_save, 1, none, 4, 109, 0, 0)
theorem gcd_X4_save : Cond.code yX4_save cX4_save 1 none ∈ wsG := wsG_of 484 (by decide +kernel) rfl
def mX4_dropOldest : MethodName × ByteArray × Nat × Option FieldType × Nat × Nat × Nat × Nat := (yX4_dropOldest, cX4_dropOldest, 3, none, 0, 0, 0, 0)
theorem gcd_X4_dropOldest : Cond.code yX4_dropOldest cX4_dropOldest 3 none ∈ wsG := wsG_of 488 (by decide +kernel) rfl
def mX4_scanBuffer : MethodName × ByteArray × Nat × Option FieldType × Nat × Nat × Nat × Nat := (yX4_scanBuffer, cX4_scanBuffer, 2, (some .int), 6, 128, 0, 0)
theorem gcd_X4_scanBuffer : Cond.code yX4_scanBuffer cX4_scanBuffer 2 (some .int) ∈ wsG := wsG_of 174 (by decide +kernel) rfl
def mX4_runParts : MethodName × ByteArray × Nat × Option FieldType × Nat × Nat × Nat × Nat := (yX4_runParts, cX4_runParts, 3, (some .int), 6, 128, 0, 0)
theorem gcd_X4_runParts : Cond.code yX4_runParts cX4_runParts 3 (some .int) ∈ wsG := wsG_of 684 (by decide +kernel) rfl
def mX4_runPart : MethodName × ByteArray × Nat × Option FieldType × Nat × Nat × Nat × Nat := (yX4_runPart, cX4_runPart, 2, (some .boolean), 4, 94, 0, 0)
theorem gcd_X4_runPart : Cond.code yX4_runPart cX4_runPart 2 (some .boolean) ∈ wsG := wsG_of 688 (by decide +kernel) rfl
def mX4_tally : MethodName × ByteArray × Nat × Option FieldType × Nat × Nat × Nat × Nat := (yX4_tally, cX4_tally, 2, (some .int), 2, 47, 0, 0)
theorem gcd_X4_tally : Cond.code yX4_tally cX4_tally 2 (some .int) ∈ wsG := wsG_of 280 (by decide +kernel) rfl
def mX4_shareOfAgreement : MethodName × ByteArray × Nat × Option FieldType × Nat × Nat × Nat × Nat := (yX4_shareOfAgreement, cX4_shareOfAgreement, 3, (some .double), 2, 45, 0, 0)
theorem gcd_X4_shareOfAgreement : Cond.code yX4_shareOfAgreement cX4_shareOfAgreement 3 (some .double) ∈ wsG := wsG_of 262 (by decide +kernel) rfl
def mX4_mix : MethodName × ByteArray × Nat × Option FieldType × Nat × Nat × Nat × Nat := (yX4_mix, cX4_mix, 4, (some .long), 0, 0, 0, 0)
theorem gcd_X4_mix : Cond.code yX4_mix cX4_mix 4 (some .long) ∈ wsG := wsG_of 294 (by decide +kernel) rfl
def mX4_mixKey : MethodName × ByteArray × Nat × Option FieldType × Nat × Nat × Nat × Nat := (yX4_mixKey, cX4_mixKey, 6, (some .long), 5, 108, 0, 0)
theorem gcd_X4_mixKey : Cond.code yX4_mixKey cX4_mixKey 6 (some .long) ∈ wsG := wsG_of 298 (by decide +kernel) rfl
def mX4_mixStore : MethodName × ByteArray × Nat × Option FieldType × Nat × Nat × Nat × Nat := (yX4_mixStore, cX4_mixStore, 8, (some .long), 3, 70, 0, 0)
theorem gcd_X4_mixStore : Cond.code yX4_mixStore cX4_mixStore 8 (some .long) ∈ wsG := wsG_of 344 (by decide +kernel) rfl
def mX4_mixRow : MethodName × ByteArray × Nat × Option FieldType × Nat × Nat × Nat × Nat := (yX4_mixRow, cX4_mixRow, 6, (some .long), 1, 23, 0, 0)
theorem gcd_X4_mixRow : Cond.code yX4_mixRow cX4_mixRow 6 (some .long) ∈ wsG := wsG_of 362 (by decide +kernel) rfl
def mX4_bitsOfShare : MethodName × ByteArray × Nat × Option FieldType × Nat × Nat × Nat × Nat := (yX4_bitsOfShare, cX4_bitsOfShare, 10, (some .long), 0, 0, 0, 0)
theorem gcd_X4_bitsOfShare : Cond.code yX4_bitsOfShare cX4_bitsOfShare 10 (some .long) ∈ wsG := wsG_of 396 (by decide +kernel) rfl
def mX4_writerOf : MethodName × ByteArray × Nat × Option FieldType × Nat × Nat × Nat × Nat := (yX4_writerOf, cX4_writerOf, 1, (some .int), 0, 0, 0, 0)
theorem gcd_X4_writerOf : Cond.code yX4_writerOf cX4_writerOf 1 (some .int) ∈ wsG := wsG_of 341 (by decide +kernel) rfl
def mX4_numberOf : MethodName × ByteArray × Nat × Option FieldType × Nat × Nat × Nat × Nat := (yX4_numberOf, cX4_numberOf, 1, (some .int), 0, 0, 0, 0)
theorem gcd_X4_numberOf : Cond.code yX4_numberOf cX4_numberOf 1 (some .int) ∈ wsG := wsG_of 352 (by decide +kernel) rfl
def mX4_covers : MethodName × ByteArray × Nat × Option FieldType × Nat × Nat × Nat × Nat := (yX4_covers, cX4_covers, 3, (some .boolean), 0, 0, 0, 0)
theorem gcd_X4_covers : Cond.code yX4_covers cX4_covers 3 (some .boolean) ∈ wsG := wsG_of 359 (by decide +kernel) rfl
def mX4_mergeInto : MethodName × ByteArray × Nat × Option FieldType × Nat × Nat × Nat × Nat := (yX4_mergeInto, cX4_mergeInto, 3, none, 1, 24, 0, 0)
theorem gcd_X4_mergeInto : Cond.code yX4_mergeInto cX4_mergeInto 3 none ∈ wsG := wsG_of 511 (by decide +kernel) rfl
def mX4_sameNumbers : MethodName × ByteArray × Nat × Option FieldType × Nat × Nat × Nat × Nat := (yX4_sameNumbers, cX4_sameNumbers, 3, (some .boolean), 0, 0, 0, 0)
theorem gcd_X4_sameNumbers : Cond.code yX4_sameNumbers cX4_sameNumbers 3 (some .boolean) ∈ wsG := wsG_of 326 (by decide +kernel) rfl
def mX5_init : MethodName × ByteArray × Nat × Option FieldType × Nat × Nat × Nat × Nat := (yX5_init, cX5_init, 1, none, 1, 24, 6, 2644)
theorem gcd_X5_init : Cond.code yX5_init cX5_init 1 none ∈ wsG := wsG_of 757 (by decide +kernel) rfl
def mX5_thrown : MethodName × ByteArray × Nat × Option FieldType × Nat × Nat × Nat × Nat := (yX5_thrown, cX5_thrown, 1, (some .int), 0, 0, 0, 0)
theorem gcd_X5_thrown : Cond.code yX5_thrown cX5_thrown 1 (some .int) ∈ wsG := wsG_of 811 (by decide +kernel) rfl
def mX5_fails : MethodName × ByteArray × Nat × Option FieldType × Nat × Nat × Nat × Nat := (yX5_fails, cX5_fails, 2, (some .int), 0, 0, 0, 0)
theorem gcd_X5_fails : Cond.code yX5_fails cX5_fails 2 (some .int) ∈ wsG := wsG_of 819 (by decide +kernel) rfl
def mX5_in : MethodName × ByteArray × Nat × Option FieldType × Nat × Nat × Nat × Nat := (yX5_in, cX5_in, 3, (some .boolean), 0, 0, 0, 0)
theorem gcd_X5_in : Cond.code yX5_in cX5_in 3 (some .boolean) ∈ wsG := wsG_of 832 (by decide +kernel) rfl
def mX5_isWriter : MethodName × ByteArray × Nat × Option FieldType × Nat × Nat × Nat × Nat := (yX5_isWriter, cX5_isWriter, 1, (some .boolean), 1, 22, 0, 0)
theorem gcd_X5_isWriter : Cond.code yX5_isWriter cX5_isWriter 1 (some .boolean) ∈ wsG := wsG_of 829 (by decide +kernel) rfl
def mX5_isStore : MethodName × ByteArray × Nat × Option FieldType × Nat × Nat × Nat × Nat := (yX5_isStore, cX5_isStore, 1, (some .boolean), 1, 22, 0, 0)
theorem gcd_X5_isStore : Cond.code yX5_isStore cX5_isStore 1 (some .boolean) ∈ wsG := wsG_of 838 (by decide +kernel) rfl
def mX5_isKey : MethodName × ByteArray × Nat × Option FieldType × Nat × Nat × Nat × Nat := (yX5_isKey, cX5_isKey, 1, (some .boolean), 1, 22, 0, 0)
theorem gcd_X5_isKey : Cond.code yX5_isKey cX5_isKey 1 (some .boolean) ∈ wsG := wsG_of 835 (by decide +kernel) rfl
def mX5_saves : MethodName × ByteArray × Nat × Option FieldType × Nat × Nat × Nat × Nat := (yX5_saves, cX5_saves, 3, none, 0, 0, 0, 0)
theorem gcd_X5_saves : Cond.code yX5_saves cX5_saves 3 none ∈ wsG := wsG_of 842 (by decide +kernel) rfl
def mX5_undo : MethodName × ByteArray × Nat × Option FieldType × Nat × Nat × Nat × Nat := (yX5_undo, cX5_undo, 2, (some .int), 1, 21, 0, 0)
theorem gcd_X5_undo : Cond.code yX5_undo cX5_undo 2 (some .int) ∈ wsG := wsG_of 815 (by decide +kernel) rfl
def mX5_countAt : MethodName × ByteArray × Nat × Option FieldType × Nat × Nat × Nat × Nat := (yX5_countAt, cX5_countAt, 2, (some .int), 0, 0, 0, 0)
theorem gcd_X5_countAt : Cond.code yX5_countAt cX5_countAt 2 (some .int) ∈ wsG := wsG_of 881 (by decide +kernel) rfl
def mX5_knowsAt : MethodName × ByteArray × Nat × Option FieldType × Nat × Nat × Nat × Nat := (yX5_knowsAt, cX5_knowsAt, 2, (some .int), 0, 0, 0, 0)
theorem gcd_X5_knowsAt : Cond.code yX5_knowsAt cX5_knowsAt 2 (some .int) ∈ wsG := wsG_of 845 (by decide +kernel) rfl
def mX5_vectorAt : MethodName × ByteArray × Nat × Option FieldType × Nat × Nat × Nat × Nat := (yX5_vectorAt, cX5_vectorAt, 2, (some .int), 0, 0, 0, 0)
theorem gcd_X5_vectorAt : Cond.code yX5_vectorAt cX5_vectorAt 2 (some .int) ∈ wsG := wsG_of 848 (by decide +kernel) rfl
def mX5_rowAt : MethodName × ByteArray × Nat × Option FieldType × Nat × Nat × Nat × Nat := (yX5_rowAt, cX5_rowAt, 2, (some .int), 0, 0, 0, 0)
theorem gcd_X5_rowAt : Cond.code yX5_rowAt cX5_rowAt 2 (some .int) ∈ wsG := wsG_of 859 (by decide +kernel) rfl
def mX5_placeAt : MethodName × ByteArray × Nat × Option FieldType × Nat × Nat × Nat × Nat := (yX5_placeAt, cX5_placeAt, 3, (some .int), 1, 21, 0, 0)
theorem gcd_X5_placeAt : Cond.code yX5_placeAt cX5_placeAt 3 (some .int) ∈ wsG := wsG_of 874 (by decide +kernel) rfl
def mX5_siblings : MethodName × ByteArray × Nat × Option FieldType × Nat × Nat × Nat × Nat := (yX5_siblings, cX5_siblings, 3, (some .int), 1, 21, 0, 0)
theorem gcd_X5_siblings : Cond.code yX5_siblings cX5_siblings 3 (some .int) ∈ wsG := wsG_of 856 (by decide +kernel) rfl
def mX5_merges : MethodName × ByteArray × Nat × Option FieldType × Nat × Nat × Nat × Nat := (yX5_merges, cX5_merges, 4, none, 0, 0, 0, 0)
theorem gcd_X5_merges : Cond.code yX5_merges cX5_merges 4 none ∈ wsG := wsG_of 852 (by decide +kernel) rfl
def mX5_covers : MethodName × ByteArray × Nat × Option FieldType × Nat × Nat × Nat × Nat := (yX5_covers, cX5_covers, 3, (some .boolean), 0, 0, 0, 0)
theorem gcd_X5_covers : Cond.code yX5_covers cX5_covers 3 (some .boolean) ∈ wsG := wsG_of 878 (by decide +kernel) rfl
def mX5_has : MethodName × ByteArray × Nat × Option FieldType × Nat × Nat × Nat × Nat := (yX5_has, cX5_has, 8, (some .boolean), 2, 43, 0, 0)
theorem gcd_X5_has : Cond.code yX5_has cX5_has 8 (some .boolean) ∈ wsG := wsG_of 929 (by decide +kernel) rfl
def mX5_coveredBy : MethodName × ByteArray × Nat × Option FieldType × Nat × Nat × Nat × Nat := (yX5_coveredBy, cX5_coveredBy, 6, (some .int), 2, 43, 0, 0)
theorem gcd_X5_coveredBy : Cond.code yX5_coveredBy cX5_coveredBy 6 (some .int) ∈ wsG := wsG_of 871 (by decide +kernel) rfl
def mX5_drops : MethodName × ByteArray × Nat × Option FieldType × Nat × Nat × Nat × Nat := (yX5_drops, cX5_drops, 10, none, 2, 43, 0, 0)
theorem gcd_X5_drops : Cond.code yX5_drops cX5_drops 10 none ∈ wsG := wsG_of 889 (by decide +kernel) rfl
def mX5_comes : MethodName × ByteArray × Nat × Option FieldType × Nat × Nat × Nat × Nat := (yX5_comes, cX5_comes, 8, none, 2, 43, 0, 0)
theorem gcd_X5_comes : Cond.code yX5_comes cX5_comes 8 none ∈ wsG := wsG_of 893 (by decide +kernel) rfl
def mX5_mayWrite : MethodName × ByteArray × Nat × Option FieldType × Nat × Nat × Nat × Nat := (yX5_mayWrite, cX5_mayWrite, 4, (some .boolean), 3, 68, 0, 0)
theorem gcd_X5_mayWrite : Cond.code yX5_mayWrite cX5_mayWrite 4 (some .boolean) ∈ wsG := wsG_of 867 (by decide +kernel) rfl
def mX5_writes : MethodName × ByteArray × Nat × Option FieldType × Nat × Nat × Nat × Nat := (yX5_writes, cX5_writes, 7, (some .int), 3, 72, 0, 0)
theorem gcd_X5_writes : Cond.code yX5_writes cX5_writes 7 (some .int) ∈ wsG := wsG_of 885 (by decide +kernel) rfl
def mX5_areThere : MethodName × ByteArray × Nat × Option FieldType × Nat × Nat × Nat × Nat := (yX5_areThere, cX5_areThere, 3, (some .boolean), 2, 42, 0, 0)
theorem gcd_X5_areThere : Cond.code yX5_areThere cX5_areThere 3 (some .boolean) ∈ wsG := wsG_of 826 (by decide +kernel) rfl
def mX5_read : MethodName × ByteArray × Nat × Option FieldType × Nat × Nat × Nat × Nat := (yX5_read, cX5_read, 4, (some .int), 3, 64, 0, 0)
theorem gcd_X5_read : Cond.code yX5_read cX5_read 4 (some .int) ∈ wsG := wsG_of 823 (by decide +kernel) rfl
def mX5_write : MethodName × ByteArray × Nat × Option FieldType × Nat × Nat × Nat × Nat := (yX5_write, cX5_write, 5, (some .int), 4, 98, 0, 0)
theorem gcd_X5_write : Cond.code yX5_write cX5_write 5 (some .int) ∈ wsG := wsG_of 863 (by decide +kernel) rfl
def mX5_joined : MethodName × ByteArray × Nat × Option FieldType × Nat × Nat × Nat × Nat := (yX5_joined, cX5_joined, 7, (some .int), 2, 43, 0, 0)
theorem gcd_X5_joined : Cond.code yX5_joined cX5_joined 7 (some .int) ∈ wsG := wsG_of 901 (by decide +kernel) rfl
def mX5_join : MethodName × ByteArray × Nat × Option FieldType × Nat × Nat × Nat × Nat := (yX5_join, cX5_join, 7, (some .int), 4, 98, 0, 0)
theorem gcd_X5_join : Cond.code yX5_join cX5_join 7 (some .int) ∈ wsG := wsG_of 897 (by decide +kernel) rfl
def mX5_lose : MethodName × ByteArray × Nat × Option FieldType × Nat × Nat × Nat × Nat := (yX5_lose, cX5_lose, 6, (some .int), 2, 42, 0, 0)
theorem gcd_X5_lose : Cond.code yX5_lose cX5_lose 6 (some .int) ∈ wsG := wsG_of 905 (by decide +kernel) rfl
def mX5_why : MethodName × ByteArray × Nat × Option FieldType × Nat × Nat × Nat × Nat := (yX5_why, cX5_why, 7, (some .int), 2, 43, 0, 0)
theorem gcd_X5_why : Cond.code yX5_why cX5_why 7 (some .int) ∈ wsG := wsG_of 913 (by decide +kernel) rfl
def mX5_whyNot : MethodName × ByteArray × Nat × Option FieldType × Nat × Nat × Nat × Nat := (yX5_whyNot, cX5_whyNot, 3, (some .int), 3, 69, 0, 0)
theorem gcd_X5_whyNot : Cond.code yX5_whyNot cX5_whyNot 3 (some .int) ∈ wsG := wsG_of 909 (by decide +kernel) rfl
def mX5_forget : MethodName × ByteArray × Nat × Option FieldType × Nat × Nat × Nat × Nat := (yX5_forget, cX5_forget, 4, (some .int), 3, 69, 0, 0)
theorem gcd_X5_forget : Cond.code yX5_forget cX5_forget 4 (some .int) ∈ wsG := wsG_of 917 (by decide +kernel) rfl
def mX5_adds : MethodName × ByteArray × Nat × Option FieldType × Nat × Nat × Nat × Nat := (yX5_adds, cX5_adds, 4, none, 0, 0, 0, 0)
theorem gcd_X5_adds : Cond.code yX5_adds cX5_adds 4 none ∈ wsG := wsG_of 933 (by decide +kernel) rfl
def mX5_tries : MethodName × ByteArray × Nat × Option FieldType × Nat × Nat × Nat × Nat := (yX5_tries, cX5_tries, 7, none, 3, 70, 0, 0)
theorem gcd_X5_tries : Cond.code yX5_tries cX5_tries 7 none ∈ wsG := wsG_of 925 (by decide +kernel) rfl
def mX5_pulls : MethodName × ByteArray × Nat × Option FieldType × Nat × Nat × Nat × Nat := (yX5_pulls, cX5_pulls, 5, (some .int), 2, 43, 0, 0)
theorem gcd_X5_pulls : Cond.code yX5_pulls cX5_pulls 5 (some .int) ∈ wsG := wsG_of 937 (by decide +kernel) rfl
def mX5_pull : MethodName × ByteArray × Nat × Option FieldType × Nat × Nat × Nat × Nat := (yX5_pull, cX5_pull, 4, (some .int), 4, 96, 0, 0)
theorem gcd_X5_pull : Cond.code yX5_pull cX5_pull 4 (some .int) ∈ wsG := wsG_of 921 (by decide +kernel) rfl
def mX5_pullAll : MethodName × ByteArray × Nat × Option FieldType × Nat × Nat × Nat × Nat := (yX5_pullAll, cX5_pullAll, 6, (some .int), 4, 96, 0, 0)
theorem gcd_X5_pullAll : Cond.code yX5_pullAll cX5_pullAll 6 (some .int) ∈ wsG := wsG_of 941 (by decide +kernel) rfl
def mX5_append : MethodName × ByteArray × Nat × Option FieldType × Nat × Nat × Nat × Nat := (yX5_append, cX5_append, 2, (some .int), 1, 22, 0, 0)
theorem gcd_X5_append : Cond.code yX5_append cX5_append 2 (some .int) ∈ wsG := wsG_of 945 (by decide +kernel) rfl
def mX5_clearBuffer : MethodName × ByteArray × Nat × Option FieldType × Nat × Nat × Nat × Nat := (yX5_clearBuffer, cX5_clearBuffer, 2, (some .int), 0, 0, 0, 0)
theorem gcd_X5_clearBuffer : Cond.code yX5_clearBuffer cX5_clearBuffer 2 (some .int) ∈ wsG := wsG_of 949 (by decide +kernel) rfl
def mX5_isAt : MethodName × ByteArray × Nat × Option FieldType × Nat × Nat × Nat × Nat := (yX5_isAt, cX5_isAt, 3, (some .boolean), 1, 22, 0, 0)
theorem gcd_X5_isAt : Cond.code yX5_isAt cX5_isAt 3 (some .boolean) ∈ wsG := wsG_of 969 (by decide +kernel) rfl
def mX5_stops : MethodName × ByteArray × Nat × Option FieldType × Nat × Nat × Nat × Nat := (yX5_stops, cX5_stops, 1, (some .boolean), 0, 0, 0, 0)
theorem gcd_X5_stops : Cond.code yX5_stops cX5_stops 1 (some .boolean) ∈ wsG := wsG_of 973 (by decide +kernel) rfl
def mX5_takes : MethodName × ByteArray × Nat × Option FieldType × Nat × Nat × Nat × Nat := (yX5_takes, cX5_takes, 3, (some .boolean), 2, 44, 0, 0)
theorem gcd_X5_takes : Cond.code yX5_takes cX5_takes 3 (some .boolean) ∈ wsG := wsG_of 965 (by decide +kernel) rfl
def mX5_takesPart : MethodName × ByteArray × Nat × Option FieldType × Nat × Nat × Nat × Nat := (yX5_takesPart, cX5_takesPart, 3, (some .boolean), 2, 44, 0, 0)
theorem gcd_X5_takesPart : Cond.code yX5_takesPart cX5_takesPart 3 (some .boolean) ∈ wsG := wsG_of 977 (by decide +kernel) rfl
def mX5_takesValue : MethodName × ByteArray × Nat × Option FieldType × Nat × Nat × Nat × Nat := (yX5_takesValue, cX5_takesValue, 2, (some .boolean), 2, 44, 0, 0)
theorem gcd_X5_takesValue : Cond.code yX5_takesValue cX5_takesValue 2 (some .boolean) ∈ wsG := wsG_of 981 (by decide +kernel) rfl
def mX5_takesOne : MethodName × ByteArray × Nat × Option FieldType × Nat × Nat × Nat × Nat := (yX5_takesOne, cX5_takesOne, 2, (some .boolean), 3, 66, 0, 0)
theorem gcd_X5_takesOne : Cond.code yX5_takesOne cX5_takesOne 2 (some .boolean) ∈ wsG := wsG_of 961 (by decide +kernel) rfl
def mX5_isText : MethodName × ByteArray × Nat × Option FieldType × Nat × Nat × Nat × Nat := (yX5_isText, cX5_isText, 2, (some .boolean), 4, 87, 0, 0)
theorem gcd_X5_isText : Cond.code yX5_isText cX5_isText 2 (some .boolean) ∈ wsG := wsG_of 957 (by decide +kernel) rfl
def mX5_firstError : MethodName × ByteArray × Nat × Option FieldType × Nat × Nat × Nat × Nat := (yX5_firstError, cX5_firstError, 2, (some .int), 5, 108, 0, 0)
theorem gcd_X5_firstError : Cond.code yX5_firstError cX5_firstError 2 (some .int) ∈ wsG := wsG_of 953 (by decide +kernel) rfl
def mX5_does : MethodName × ByteArray × Nat × Option FieldType × Nat × Nat × Nat × Nat := (yX5_does, cX5_does, 6, (some .boolean), 4, 98, 0, 0)
theorem gcd_X5_does : Cond.code yX5_does cX5_does 6 (some .boolean) ∈ wsG := wsG_of 989 (by decide +kernel) rfl
def mX5_runAll : MethodName × ByteArray × Nat × Option FieldType × Nat × Nat × Nat × Nat := (yX5_runAll, cX5_runAll, 2, (some .int), 5, 123, 0, 0)
theorem gcd_X5_runAll : Cond.code yX5_runAll cX5_runAll 2 (some .int) ∈ wsG := wsG_of 985 (by decide +kernel) rfl
def mX5_coverers : MethodName × ByteArray × Nat × Option FieldType × Nat × Nat × Nat × Nat := (yX5_coverers, cX5_coverers, 5, (some .int), 1, 22, 0, 0)
theorem gcd_X5_coverers : Cond.code yX5_coverers cX5_coverers 5 (some .int) ∈ wsG := wsG_of 1001 (by decide +kernel) rfl
def mX5_holders : MethodName × ByteArray × Nat × Option FieldType × Nat × Nat × Nat × Nat := (yX5_holders, cX5_holders, 5, (some .int), 3, 70, 0, 0)
theorem gcd_X5_holders : Cond.code yX5_holders cX5_holders 5 (some .int) ∈ wsG := wsG_of 1005 (by decide +kernel) rfl
def mX5_ofSibling : MethodName × ByteArray × Nat × Option FieldType × Nat × Nat × Nat × Nat := (yX5_ofSibling, cX5_ofSibling, 6, (some .int), 4, 94, 0, 0)
theorem gcd_X5_ofSibling : Cond.code yX5_ofSibling cX5_ofSibling 6 (some .int) ∈ wsG := wsG_of 997 (by decide +kernel) rfl
def mX5_sibling : MethodName × ByteArray × Nat × Option FieldType × Nat × Nat × Nat × Nat := (yX5_sibling, cX5_sibling, 5, (some .int), 5, 119, 0, 0)
theorem gcd_X5_sibling : Cond.code yX5_sibling cX5_sibling 5 (some .int) ∈ wsG := wsG_of 993 (by decide +kernel) rfl
def mX5_vector : MethodName × ByteArray × Nat × Option FieldType × Nat × Nat × Nat × Nat := (yX5_vector, cX5_vector, 4, (some .int), 3, 64, 0, 0)
theorem gcd_X5_vector : Cond.code yX5_vector cX5_vector 4 (some .int) ∈ wsG := wsG_of 1009 (by decide +kernel) rfl
def mX5_knows : MethodName × ByteArray × Nat × Option FieldType × Nat × Nat × Nat × Nat := (yX5_knows, cX5_knows, 4, (some .int), 2, 42, 0, 0)
theorem gcd_X5_knows : Cond.code yX5_knows cX5_knows 4 (some .int) ∈ wsG := wsG_of 1013 (by decide +kernel) rfl
def mX5_areAlike : MethodName × ByteArray × Nat × Option FieldType × Nat × Nat × Nat × Nat := (yX5_areAlike, cX5_areAlike, 7, (some .boolean), 3, 70, 0, 0)
theorem gcd_X5_areAlike : Cond.code yX5_areAlike cX5_areAlike 7 (some .boolean) ∈ wsG := wsG_of 1033 (by decide +kernel) rfl
def mX5_areVectorsAlike : MethodName × ByteArray × Nat × Option FieldType × Nat × Nat × Nat × Nat := (yX5_areVectorsAlike, cX5_areVectorsAlike, 5, (some .boolean), 1, 21, 0, 0)
theorem gcd_X5_areVectorsAlike : Cond.code yX5_areVectorsAlike cX5_areVectorsAlike 5 (some .boolean) ∈ wsG := wsG_of 1037 (by decide +kernel) rfl
def mX5_unlike : MethodName × ByteArray × Nat × Option FieldType × Nat × Nat × Nat × Nat := (yX5_unlike, cX5_unlike, 6, (some .int), 4, 94, 0, 0)
theorem gcd_X5_unlike : Cond.code yX5_unlike cX5_unlike 6 (some .int) ∈ wsG := wsG_of 1025 (by decide +kernel) rfl
def mX5_forgettable : MethodName × ByteArray × Nat × Option FieldType × Nat × Nat × Nat × Nat := (yX5_forgettable, cX5_forgettable, 4, (some .int), 3, 69, 0, 0)
theorem gcd_X5_forgettable : Cond.code yX5_forgettable cX5_forgettable 4 (some .int) ∈ wsG := wsG_of 1041 (by decide +kernel) rfl
def mX5_counts : MethodName × ByteArray × Nat × Option FieldType × Nat × Nat × Nat × Nat := (yX5_counts, cX5_counts, 4, (some .int), 1, 21, 0, 0)
theorem gcd_X5_counts : Cond.code yX5_counts cX5_counts 4 (some .int) ∈ wsG := wsG_of 1029 (by decide +kernel) rfl
def mX5_ofKey : MethodName × ByteArray × Nat × Option FieldType × Nat × Nat × Nat × Nat := (yX5_ofKey, cX5_ofKey, 3, (some .int), 5, 119, 0, 0)
theorem gcd_X5_ofKey : Cond.code yX5_ofKey cX5_ofKey 3 (some .int) ∈ wsG := wsG_of 1021 (by decide +kernel) rfl
def mX5_key : MethodName × ByteArray × Nat × Option FieldType × Nat × Nat × Nat × Nat := (yX5_key, cX5_key, 3, (some .int), 6, 141, 0, 0)
theorem gcd_X5_key : Cond.code yX5_key cX5_key 3 (some .int) ∈ wsG := wsG_of 1017 (by decide +kernel) rfl
def mX5_counted : MethodName × ByteArray × Nat × Option FieldType × Nat × Nat × Nat × Nat := (yX5_counted, cX5_counted, 6, (some .int), 2, 43, 0, 0)
theorem gcd_X5_counted : Cond.code yX5_counted cX5_counted 6 (some .int) ∈ wsG := wsG_of 1049 (by decide +kernel) rfl
def mX5_count : MethodName × ByteArray × Nat × Option FieldType × Nat × Nat × Nat × Nat := (yX5_count, cX5_count, 2, (some .int), 3, 68, 0, 0)
theorem gcd_X5_count : Cond.code yX5_count cX5_count 2 (some .int) ∈ wsG := wsG_of 1045 (by decide +kernel) rfl
def mX5_written : MethodName × ByteArray × Nat × Option FieldType × Nat × Nat × Nat × Nat := (yX5_written, cX5_written, 6, (some .int), 3, 68, 0, 0)
theorem gcd_X5_written : Cond.code yX5_written cX5_written 6 (some .int) ∈ wsG := wsG_of 1057 (by decide +kernel) rfl
def mX5_ifWritten : MethodName × ByteArray × Nat × Option FieldType × Nat × Nat × Nat × Nat := (yX5_ifWritten, cX5_ifWritten, 5, (some .int), 4, 93, 0, 0)
theorem gcd_X5_ifWritten : Cond.code yX5_ifWritten cX5_ifWritten 5 (some .int) ∈ wsG := wsG_of 1053 (by decide +kernel) rfl
def mX5_pulled : MethodName × ByteArray × Nat × Option FieldType × Nat × Nat × Nat × Nat := (yX5_pulled, cX5_pulled, 5, (some .int), 4, 96, 0, 0)
theorem gcd_X5_pulled : Cond.code yX5_pulled cX5_pulled 5 (some .int) ∈ wsG := wsG_of 1065 (by decide +kernel) rfl
def mX5_ifPulled : MethodName × ByteArray × Nat × Option FieldType × Nat × Nat × Nat × Nat := (yX5_ifPulled, cX5_ifPulled, 5, (some .int), 5, 120, 0, 0)
theorem gcd_X5_ifPulled : Cond.code yX5_ifPulled cX5_ifPulled 5 (some .int) ∈ wsG := wsG_of 1061 (by decide +kernel) rfl
def mX5_agrees : MethodName × ByteArray × Nat × Option FieldType × Nat × Nat × Nat × Nat := (yX5_agrees, cX5_agrees, 3, (some .double), 4, 96, 0, 0)
theorem gcd_X5_agrees : Cond.code yX5_agrees cX5_agrees 3 (some .double) ∈ wsG := wsG_of 1073 (by decide +kernel) rfl
def mX5_agreement : MethodName × ByteArray × Nat × Option FieldType × Nat × Nat × Nat × Nat := (yX5_agreement, cX5_agreement, 1, (some .double), 5, 118, 0, 0)
theorem gcd_X5_agreement : Cond.code yX5_agreement cX5_agreement 1 (some .double) ∈ wsG := wsG_of 1069 (by decide +kernel) rfl
def mX5_mixes : MethodName × ByteArray × Nat × Option FieldType × Nat × Nat × Nat × Nat := (yX5_mixes, cX5_mixes, 3, none, 0, 0, 0, 0)
theorem gcd_X5_mixes : Cond.code yX5_mixes cX5_mixes 3 none ∈ wsG := wsG_of 1083 (by decide +kernel) rfl
def mX5_mixesKey : MethodName × ByteArray × Nat × Option FieldType × Nat × Nat × Nat × Nat := (yX5_mixesKey, cX5_mixesKey, 4, none, 6, 141, 0, 0)
theorem gcd_X5_mixesKey : Cond.code yX5_mixesKey cX5_mixesKey 4 none ∈ wsG := wsG_of 1088 (by decide +kernel) rfl
def mX5_digest : MethodName × ByteArray × Nat × Option FieldType × Nat × Nat × Nat × Nat := (yX5_digest, cX5_digest, 2, (some .long), 7, 164, 0, 0)
theorem gcd_X5_digest : Cond.code yX5_digest cX5_digest 2 (some .long) ∈ wsG := wsG_of 1078 (by decide +kernel) rfl
def mJxe99ae_isNaN_b9ae7 : MethodName × ByteArray × Nat × Option FieldType × Nat × Nat × Nat × Nat := (yJxe99ae_isNaN_b9ae7, cJxe99ae_isNaN_b9ae7, 2, (some .boolean), 0, 0, 0, 0)
theorem gcd_Jxe99ae_isNaN_b9ae7 : Cond.code yJxe99ae_isNaN_b9ae7 cJxe99ae_isNaN_b9ae7 2 (some .boolean) ∈ wsG := wsG_of 1094 (by decide +kernel) rfl
def mJxe99ae_doubleToLongBits_ccdee : MethodName × ByteArray × Nat × Option FieldType × Nat × Nat × Nat × Nat := (yJxe99ae_doubleToLongBits_ccdee, cJxe99ae_doubleToLongBits_ccdee, 2, (some .long), 1, 40, 0, 0)
theorem gcd_Jxe99ae_doubleToLongBits_ccdee : Cond.code yJxe99ae_doubleToLongBits_ccdee cJxe99ae_doubleToLongBits_ccdee 2 (some .long) ∈ wsG := wsG_of 1091 (by decide +kernel) rfl
def mJ0_length_8abf5 : MethodName × ByteArray × Nat × Option FieldType × Nat × Nat × Nat × Nat := (yJ0_length_8abf5, cJ0_length_8abf5, 1, (some .int), 1, 20, 0, 0)
theorem gcd_J0_length_8abf5 : Cond.code yJ0_length_8abf5 cJ0_length_8abf5 1 (some .int) ∈ wsG := wsG_of 200 (by decide +kernel) rfl
def mJ0_charAt_5068e : MethodName × ByteArray × Nat × Option FieldType × Nat × Nat × Nat × Nat := (yJ0_charAt_5068e, cJ0_charAt_5068e, 2, (some .char), 4, 85, 0, 0)
theorem gcd_J0_charAt_5068e : Cond.code yJ0_charAt_5068e cJ0_charAt_5068e 2 (some .char) ∈ wsG := wsG_of 215 (by decide +kernel) rfl
def mJ0_coder_7d493 : MethodName × ByteArray × Nat × Option FieldType × Nat × Nat × Nat × Nat := (yJ0_coder_7d493, cJ0_coder_7d493, 1, (some .byte), 0, 0, 0, 0)
theorem gcd_J0_coder_7d493 : Cond.code yJ0_coder_7d493 cJ0_coder_7d493 1 (some .byte) ∈ wsG := wsG_of 204 (by decide +kernel) rfl
def mJ0_isLatin1_aae02 : MethodName × ByteArray × Nat × Option FieldType × Nat × Nat × Nat × Nat := (yJ0_isLatin1_aae02, cJ0_isLatin1_aae02, 1, (some .boolean), 0, 0, 0, 0)
theorem gcd_J0_isLatin1_aae02 : Cond.code yJ0_isLatin1_aae02 cJ0_isLatin1_aae02 1 (some .boolean) ∈ wsG := wsG_of 219 (by decide +kernel) rfl
def mJ0_checkIndex_df160 : MethodName × ByteArray × Nat × Option FieldType × Nat × Nat × Nat × Nat := (yJ0_checkIndex_df160, cJ0_checkIndex_df160, 2, none, 1, 22, 0, 0)
theorem gcd_J0_checkIndex_df160 : Cond.code yJ0_checkIndex_df160 cJ0_checkIndex_df160 2 none ∈ wsG := wsG_of 225 (by decide +kernel) rfl
def mJ1_charAt_3b067 : MethodName × ByteArray × Nat × Option FieldType × Nat × Nat × Nat × Nat := (yJ1_charAt_3b067, cJ1_charAt_3b067, 2, (some .char), 2, 43, 0, 0)
theorem gcd_J1_charAt_3b067 : Cond.code yJ1_charAt_3b067 cJ1_charAt_3b067 2 (some .char) ∈ wsG := wsG_of 222 (by decide +kernel) rfl
def mJ2_getChar_3b067 : MethodName × ByteArray × Nat × Option FieldType × Nat × Nat × Nat × Nat := (yJ2_getChar_3b067, cJ2_getChar_3b067, 2, (some .char), 1, 20, 0, 0)
theorem gcd_J2_getChar_3b067 : Cond.code yJ2_getChar_3b067 cJ2_getChar_3b067 2 (some .char) ∈ wsG := wsG_of 243 (by decide +kernel) rfl
def mJ2_length_9d52b : MethodName × ByteArray × Nat × Option FieldType × Nat × Nat × Nat × Nat := (yJ2_length_9d52b, cJ2_length_9d52b, 1, (some .int), 0, 0, 0, 0)
theorem gcd_J2_length_9d52b : Cond.code yJ2_length_9d52b cJ2_length_9d52b 1 (some .int) ∈ wsG := wsG_of 239 (by decide +kernel) rfl
def mJ2_charAt_3b067 : MethodName × ByteArray × Nat × Option FieldType × Nat × Nat × Nat × Nat := (yJ2_charAt_3b067, cJ2_charAt_3b067, 2, (some .char), 3, 64, 0, 0)
theorem gcd_J2_charAt_3b067 : Cond.code yJ2_charAt_3b067 cJ2_charAt_3b067 2 (some .char) ∈ wsG := wsG_of 233 (by decide +kernel) rfl
def mJ2_checkIndex_2214a : MethodName × ByteArray × Nat × Option FieldType × Nat × Nat × Nat × Nat := (yJ2_checkIndex_2214a, cJ2_checkIndex_2214a, 2, none, 2, 43, 0, 0)
theorem gcd_J2_checkIndex_2214a : Cond.code yJ2_checkIndex_2214a cJ2_checkIndex_2214a 2 none ∈ wsG := wsG_of 236 (by decide +kernel) rfl
def mJ3_checkIndex_8e157 : MethodName × ByteArray × Nat × Option FieldType × Nat × Nat × Nat × Nat := (yJ3_checkIndex_8e157, cJ3_checkIndex_8e157, 3, (some .int), 0, 0, 0, 0)
theorem gcd_J3_checkIndex_8e157 : Cond.code yJ3_checkIndex_8e157 cJ3_checkIndex_8e157 3 (some .int) ∈ wsG := wsG_of 230 (by decide +kernel) rfl
def mL_read : MethodName × ByteArray × Nat × Option FieldType × Nat × Nat × Nat × Nat := (yL_read, cL_read, 6, (some .int), 9, 157, 3, 18)
theorem gcd_L_read : Cond.codeWith yL_read cL_read 6 (some .int) [(0, 12, 15, 13)] ∈ wsG := wsG_of 402 (by decide +kernel) rfl
def mL_write : MethodName × ByteArray × Nat × Option FieldType × Nat × Nat × Nat × Nat := (yL_write, cL_write, 7, (some .int), 9, 157, 5, 30)
theorem gcd_L_write : Cond.codeWith yL_write cL_write 7 (some .int) [(0, 14, 17, 13), (0, 14, 21, 19), (0, 14, 25, 21)] ∈ wsG := wsG_of 515 (by decide +kernel) rfl
def mL_pull : MethodName × ByteArray × Nat × Option FieldType × Nat × Nat × Nat × Nat := (yL_pull, cL_pull, 6, (some .int), 9, 156, 5, 30)
theorem gcd_L_pull : Cond.codeWith yL_pull cL_pull 6 (some .int) [(0, 12, 15, 13), (0, 12, 19, 19), (0, 12, 23, 21)] ∈ wsG := wsG_of 585 (by decide +kernel) rfl
def mL_join : MethodName × ByteArray × Nat × Option FieldType × Nat × Nat × Nat × Nat := (yL_join, cL_join, 7, (some .int), 9, 159, 5, 30)
theorem gcd_L_join : Cond.codeWith yL_join cL_join 7 (some .int) [(0, 14, 17, 13), (0, 14, 21, 19), (0, 14, 25, 21)] ∈ wsG := wsG_of 613 (by decide +kernel) rfl
def mL_lose : MethodName × ByteArray × Nat × Option FieldType × Nat × Nat × Nat × Nat := (yL_lose, cL_lose, 5, (some .int), 8, 151, 2, 12)
theorem gcd_L_lose : Cond.codeWith yL_lose cL_lose 5 (some .int) [(0, 10, 13, 13)] ∈ wsG := wsG_of 629 (by decide +kernel) rfl
def mL_forget : MethodName × ByteArray × Nat × Option FieldType × Nat × Nat × Nat × Nat := (yL_forget, cL_forget, 5, (some .int), 8, 153, 3, 18)
theorem gcd_L_forget : Cond.codeWith yL_forget cL_forget 5 (some .int) [(0, 10, 13, 13), (0, 10, 17, 21)] ∈ wsG := wsG_of 640 (by decide +kernel) rfl
def mL_pullAll : MethodName × ByteArray × Nat × Option FieldType × Nat × Nat × Nat × Nat := (yL_pullAll, cL_pullAll, 3, (some .int), 7, 159, 1, 6)
theorem gcd_L_pullAll : Cond.codeWith yL_pullAll cL_pullAll 3 (some .int) [(0, 8, 11, 21)] ∈ wsG := wsG_of 652 (by decide +kernel) rfl
def mL_append : MethodName × ByteArray × Nat × Option FieldType × Nat × Nat × Nat × Nat := (yL_append, cL_append, 4, (some .int), 7, 111, 2, 12)
theorem gcd_L_append : Cond.codeWith yL_append cL_append 4 (some .int) [(0, 9, 12, 19), (0, 9, 15, 21)] ∈ wsG := wsG_of 665 (by decide +kernel) rfl
def mL_runAll : MethodName × ByteArray × Nat × Option FieldType × Nat × Nat × Nat × Nat := (yL_runAll, cL_runAll, 3, (some .int), 8, 171, 1, 6)
theorem gcd_L_runAll : Cond.codeWith yL_runAll cL_runAll 3 (some .int) [(0, 8, 11, 19)] ∈ wsG := wsG_of 674 (by decide +kernel) rfl
def mL_undo : MethodName × ByteArray × Nat × Option FieldType × Nat × Nat × Nat × Nat := (yL_undo, cL_undo, 3, (some .int), 7, 129, 1, 6)
theorem gcd_L_undo : Cond.codeWith yL_undo cL_undo 3 (some .int) [(0, 8, 11, 21)] ∈ wsG := wsG_of 691 (by decide +kernel) rfl
def mL_sibling : MethodName × ByteArray × Nat × Option FieldType × Nat × Nat × Nat × Nat := (yL_sibling, cL_sibling, 7, (some .int), 8, 135, 4, 24)
theorem gcd_L_sibling : Cond.codeWith yL_sibling cL_sibling 7 (some .int) [(0, 14, 17, 13), (0, 14, 21, 19)] ∈ wsG := wsG_of 699 (by decide +kernel) rfl
def mL_vector : MethodName × ByteArray × Nat × Option FieldType × Nat × Nat × Nat × Nat := (yL_vector, cL_vector, 6, (some .int), 9, 156, 3, 18)
theorem gcd_L_vector : Cond.codeWith yL_vector cL_vector 6 (some .int) [(0, 12, 15, 13)] ∈ wsG := wsG_of 706 (by decide +kernel) rfl
def mL_knows : MethodName × ByteArray × Nat × Option FieldType × Nat × Nat × Nat × Nat := (yL_knows, cL_knows, 6, (some .int), 8, 134, 3, 18)
theorem gcd_L_knows : Cond.codeWith yL_knows cL_knows 6 (some .int) [(0, 12, 15, 13)] ∈ wsG := wsG_of 713 (by decide +kernel) rfl
def mL_key : MethodName × ByteArray × Nat × Option FieldType × Nat × Nat × Nat × Nat := (yL_key, cL_key, 5, (some .int), 8, 133, 2, 12)
theorem gcd_L_key : Cond.codeWith yL_key cL_key 5 (some .int) [(0, 10, 13, 13), (0, 10, 17, 19)] ∈ wsG := wsG_of 720 (by decide +kernel) rfl
def mL_count : MethodName × ByteArray × Nat × Option FieldType × Nat × Nat × Nat × Nat := (yL_count, cL_count, 4, (some .int), 8, 132, 1, 6)
theorem gcd_L_count : Cond.codeWith yL_count cL_count 4 (some .int) [(0, 9, 12, 19)] ∈ wsG := wsG_of 727 (by decide +kernel) rfl
def mL_ifWritten : MethodName × ByteArray × Nat × Option FieldType × Nat × Nat × Nat × Nat := (yL_ifWritten, cL_ifWritten, 7, (some .int), 9, 157, 4, 24)
theorem gcd_L_ifWritten : Cond.codeWith yL_ifWritten cL_ifWritten 7 (some .int) [(0, 14, 17, 13), (0, 14, 21, 19)] ∈ wsG := wsG_of 734 (by decide +kernel) rfl
def mL_ifPulled : MethodName × ByteArray × Nat × Option FieldType × Nat × Nat × Nat × Nat := (yL_ifPulled, cL_ifPulled, 7, (some .int), 9, 157, 5, 30)
theorem gcd_L_ifPulled : Cond.codeWith yL_ifPulled cL_ifPulled 7 (some .int) [(0, 14, 17, 13), (0, 14, 21, 19)] ∈ wsG := wsG_of 741 (by decide +kernel) rfl
def mL_whyNot : MethodName × ByteArray × Nat × Option FieldType × Nat × Nat × Nat × Nat := (yL_whyNot, cL_whyNot, 5, (some .int), 8, 133, 2, 12)
theorem gcd_L_whyNot : Cond.codeWith yL_whyNot cL_whyNot 5 (some .int) [(0, 10, 13, 13)] ∈ wsG := wsG_of 748 (by decide +kernel) rfl
def mL_law : MethodName × ByteArray × Nat × Option FieldType × Nat × Nat × Nat × Nat := (yL_law, cL_law, 9, ret, 12, 440, 601899, 7290406)
end
section
/-! THE LAYER. A run of a method over ONE heap function: h says what lies at each address from b to b + n; all that is written lies there. -/
abbrev gH : Type := Nat → va_E
/-- the launch, the classes' numbers, the arrays' classes, the first address, the texts' addresses, their bytes' addresses -/
abbrev gEnv : Type := Launch × va_G × (Nat → ClassId) × Nat × (Nat → Nat) × (Nat → Nat)
abbrev gFr : Type := Program × Env × State × MethodId × Array Value × List Frame × Method × Code
/-- a method: name, code, locals, what it returns; frames, words, cells, slots that it may take -/
abbrev gMt : Type := MethodName × ByteArray × Nat × Option FieldType × Nat × Nat × Nat × Nat
def gi (x : Int) : Int32 := Int32.ofInt x
def gB (E : gEnv) : Nat := E.2.2.2.1
def gA (E : gEnv) : Nat → Prop := fun q => gB E ≤ q
def gTys (E : gEnv) : List (ClassId × FieldType) := [(E.2.2.1 0, .int), (E.2.2.1 1, .array .int), (E.2.2.1 2, .object "SiblingJoins$Copy"), (E.2.2.1 3, .object "SiblingJoins$KeyState"), (E.2.2.1 4, .object "SiblingJoins$State"), (E.2.2.1 5, .long)]
def gNest : List Cond := [.methodLinkNest RX4 29 yX2_init "SiblingJoins", .methodLinkNest RX0 31 yX4_writerOf "SiblingJoins", .methodLinkNest RX0 35 yX4_covers "SiblingJoins", .methodLinkNest RX0 57 yX4_mergeInto "SiblingJoins", .methodLinkNest RX1 125 yX4_sameNumbers "SiblingJoins", .methodLinkNest RX1 26 yX0_init "SiblingJoins", .methodLinkNest RX1 40 yX4_mergeInto "SiblingJoins", .methodLinkNest RX1 81 yX4_writerOf "SiblingJoins", .methodLinkNest RX1 85 yX4_numberOf "SiblingJoins", .methodLinkNest RX1 97 yX4_covers "SiblingJoins", .castable "java/lang/IndexOutOfBoundsException" "java/lang/IndexOutOfBoundsException", .castable "java/lang/IllegalArgumentException" "java/lang/IllegalArgumentException", .castable "java/lang/IllegalStateException" "java/lang/IllegalStateException"]
def gStr : List (String × Nat × String) := [("SiblingJoins$Part", 46, "w4k2s2=9"), ("SiblingJoins$Part", 48, "r4k2s2"), ("SiblingJoins", 112, "the writer cannot be forgotten"), ("SiblingJoins", 134, "not a code from 33 to 126"), ("SiblingJoins", 140, "the buffer is full"), ("SiblingJoins", 149, "not complete writes as a text"), ("SiblingJoins", 157, "no saved state"), ("SiblingJoins", 201, "no such writer, key or store"), ("SiblingJoins", 204, "a number is out of range"), ("SiblingJoins", 206, "both stores are the same"), ("SiblingJoins", 70, "too many siblings, or too many writes"), ("SiblingJoins", 85, "too many siblings"), ("SiblingJoins", 94, "no siblings, or too many writes")]
def gLen : List Nat := [8, 6]
def gByt : List (List Int32) := [[119, 52, 107, 50, 115, 50, 61, 57], [114, 52, 107, 50, 115, 50]]
/-- the arrays' classes over their parts' -/
def gNc : List (String × String) := [("java/lang/IllegalArgumentException", "java/lang/IndexOutOfBoundsException"), ("java/lang/IllegalStateException", "java/lang/IndexOutOfBoundsException"), ("java/lang/IllegalStateException", "java/lang/IllegalArgumentException")]
def gOv (U : State) : Prop := va_AO "SiblingJoins$Copy" U ∧ va_AO "SiblingJoins$KeyState" U ∧ va_AO "SiblingJoins$State" U ∧ (Cond.arrayOver (.array .int)).before #[] U = true ∧ ∀ q ∈ gNc, va_Nc q.1 q.2 U
theorem gOv_moved {u U : State} (hvm : u.vm.Alike U.vm) (h : gOv u) : gOv U := ⟨h.1.moved hvm, h.2.1.moved hvm, h.2.2.1.moved hvm, Jvm.Stand.arrayOver_alikeB hvm h.2.2.2.1, fun q hq => (h.2.2.2.2 q hq).moved hvm⟩
/-- what stays true of the tables, the texts and the JDK's fields -/
def gY (E : gEnv) (U : State) (H : Heap) : Prop :=
  vk_S 2 gLen gByt E.2.2.2.2.1 E.2.2.2.2.2 (gA E) U H ∧ va_Z "java/lang/String" "COMPACT_STRINGS" "Z" (.int 1) (gA E) U H ∧ va_Zq "jdk/internal/util/Preconditions" "SIOOBE_FORMATTER" "Ljava/util/function/BiFunction;" (gA E) U H ∧ gOv U
def gX (E : gEnv) (U : State) (H : Heap) : Prop :=
  va_K E.2.1 vwCl (gTys E) U ∧ (∀ w ∈ gNest, va_Nw w U) ∧ (∀ (i : Nat) (q : String × Nat × String), gStr[i]? = some q → vk_R q.1 q.2.1 q.2.2 (E.2.2.2.2.1 i) U) ∧ vx_Zq Bundle.tN "UNASSIGNED_STACK" Bundle.steD (gA E) U H ∧ vx_Zq Bundle.tN "SUPPRESSED_SENTINEL" Bundle.listD (gA E) U H ∧ gY E U H
def gws (b n : Nat) (h : gH) : va_W := (List.range n).map (fun i => (b + i, h (b + i)))
def gP (E : gEnv) (n : Nat) (h : gH) (H : Heap) : Prop := va_P E.2.1 vwCl (gws (gB E) n h) H
theorem gws_get {b n q : Nat} {h : gH} (h1 : b ≤ q) (h2 : q < b + n) : (gws b n h)[q - b]? = some (q, h q) := by
  unfold gws
  rw [List.getElem?_map, List.getElem?_range (by omega)]
  simp only [Option.map_some]
  rw [show b + (q - b) = q by omega]
theorem gws_of {b n i : Nat} {h : gH} {q : Nat × va_E} (hi : (gws b n h)[i]? = some q) : i < n ∧ q = (b + i, h (b + i)) := by
  unfold gws at hi
  rw [List.getElem?_map] at hi
  by_cases hn : i < n
  · rw [List.getElem?_range hn] at hi
    simp only [Option.map_some] at hi
    exact ⟨hn, (Option.some.inj hi).symm⟩
  · rw [List.getElem?_eq_none (by rw [List.length_range]; omega)] at hi
    cases hi
theorem gws_D {E : gEnv} {n : Nat} {h : gH} : va_D (gA E) (gws (gB E) n h) := by
  refine ⟨fun i j p q hi hj hpq => ?_, fun k q hk => ?_⟩
  · obtain ⟨-, rfl⟩ := gws_of hi
    obtain ⟨-, rfl⟩ := gws_of hj
    have hpq : gB E + i = gB E + j := hpq
    omega
  · obtain ⟨-, rfl⟩ := gws_of hk
    show gB E ≤ gB E + k
    omega
theorem gws_set {b n q : Nat} {h : gH} {e : va_E} (h1 : b ≤ q) (h2 : q < b + n) : (gws b n h).set (q - b) (q, e) = gws b n (va_up h q e) := by
  apply List.ext_getElem?
  intro i
  by_cases hi : i = q - b
  · subst hi
    rw [gws_get h1 h2, List.getElem?_set_self (by unfold gws; rw [List.length_map, List.length_range]; omega)]
    simp [va_up]
  · rw [List.getElem?_set_ne (Ne.symm hi)]
    unfold gws
    rw [List.getElem?_map, List.getElem?_map]
    by_cases hn : i < n
    · rw [List.getElem?_range hn]
      simp only [Option.map_some]
      rw [show va_up h q e (b + i) = h (b + i) by unfold va_up; rw [if_neg (by omega)]]
    · rw [List.getElem?_eq_none (by rw [List.length_range]; omega)]
      rfl
theorem gws_push {b n : Nat} {h : gH} {e : va_E} : gws b n h ++ [(b + n, e)] = gws b (n + 1) (va_up h (b + n) e) := by
  unfold gws
  rw [List.range_succ, List.map_append]
  congr 1
  · apply List.map_congr_left
    intro i hi
    have hi := List.mem_range.mp hi
    rw [show va_up h (b + n) e (b + i) = h (b + i) by unfold va_up; rw [if_neg (by omega)]]
  · simp [va_up]
theorem gP_lt {E : gEnv} {n : Nat} {h : gH} {H : Heap} (hP : gP E n h H) : n = 0 ∨ gB E + n ≤ H.size := by
  rcases Nat.eq_zero_or_pos n with h0 | h0
  · exact Or.inl h0
  · have h1 := (hP (gB E + (n - 1) - gB E) _ (gws_get (by omega) (by omega))).lt
    have h1 : gB E + (n - 1) < H.size := h1
    exact Or.inr (by omega)
theorem gNest_warm {s U : State} (hW : s.WarmedH U.vm) (h : ∀ w ∈ gNest, va_Nw w s) : ∀ w ∈ gNest, va_Nw w U := by
  intro w hw
  have h1 := h w hw
  simp only [gNest, List.mem_cons, List.not_mem_nil, or_false] at hw
  rcases hw with rfl | rfl | rfl | rfl | rfl | rfl | rfl | rfl | rfl | rfl | rfl | rfl | rfl <;> first | exact va_Nw.warmM hW h1 | exact va_Nw.warmC hW h1
theorem gNest_same {s U : State} (hv : s.vm = U.vm) (h : ∀ w ∈ gNest, va_Nw w s) : ∀ w ∈ gNest, va_Nw w U := by
  intro w hw
  have h1 := h w hw
  simp only [gNest, List.mem_cons, List.not_mem_nil, or_false] at hw
  rcases hw with rfl | rfl | rfl | rfl | rfl | rfl | rfl | rfl | rfl | rfl | rfl | rfl | rfl <;> exact va_Nw.same rfl hv h1
theorem gX_go {E : gEnv} {s U : State} {locs : List Loc} (h : gX E s s.heap) (hW : s.WarmedH U.vm) (hS : va_S (gA E) s.heap U.heap locs) : gX E U U.heap := by
  obtain ⟨h1, h2, h3, h4, h5, h6, h7, h8, h9⟩ := h
  have hq : ∀ a : Nat, a < s.heap.size → ¬ gA E a → U.heap[a]? = s.heap[a]? := hS.2.1
  exact ⟨va_K.moved hW.alike h1, gNest_warm hW h2, fun i q hi => vk_R.warm hW (h3 i q hi), (h4.kept hq).moved hW.alike, (h5.kept hq).moved hW.alike, (h6.kept hq).moved hW.alike, va_Z.moved hW.alike (va_Z.kept h7 hq), (h8.kept hq).moved hW.alike, gOv_moved hW.alike h9⟩
theorem gX_same {E : gEnv} {s U : State} (h : gX E s s.heap) (hv : s.vm = U.vm) (hh : U.heap = s.heap) : gX E U U.heap := by
  obtain ⟨h1, h2, h3, h4, h5, h6, h7, h8, h9⟩ := h
  have ha : s.vm.Alike U.vm := hv ▸ Vm.Alike.refl s.vm
  rw [hh]
  exact ⟨va_K.moved ha h1, gNest_same hv h2, fun i q hi => vk_R.same hv.symm (h3 i q hi), h4.moved ha, h5.moved ha, h6.moved ha, va_Z.moved ha h7, h8.moved ha, gOv_moved ha h9⟩
def gS (σ : Option Nat) (H : Heap) : Prop := ∀ z : Nat, σ = some z → H.size = z
theorem gS_eq {σ : Option Nat} {H H1 : Heap} (h : gS σ H) (e : H1.size = H.size) : gS σ H1 := fun z hz => e.trans (h z hz)
/-- the world that a method is begun in; σ: the heap's size, where it matters -/
def gW (E : gEnv) (n : Nat) (σ : Option Nat) (h : gH) (U : State) : Prop := gS σ U.heap ∧ gB E ≤ U.heap.size ∧ gP E n h U.heap ∧ gX E U U.heap
abbrev gQt : Type := Option Value → Nat → Option Nat → gH → Prop
def gQc (E : gEnv) (QR : gQt) : Array Value → State → Outcome → State → Prop := fun _ st o t => (∃ (v : Option Value) (n' : Nat) (σ' : Option Nat) (h' : gH), o = .returned v ∧ QR v n' σ' h' ∧ gS σ' t.heap ∧ gP E n' h' t.heap) ∧ va_F (gA E) st t
def gXC (E : gEnv) (n : Nat) (QX : String → gH → Prop) : String → State → State → Prop := fun X st t => (∃ h' : gH, QX X h' ∧ gP E n h' t.heap) ∧ va_F (gA E) st t
abbrev gCode (t : gMt) : ByteArray := t.2.1
abbrev gMax (t : gMt) : Nat := t.2.2.1
abbrev gRet (t : gMt) : Option FieldType := t.2.2.2.1
abbrev gFrs (t : gMt) : Nat := t.2.2.2.2.1
abbrev gLo (t : gMt) : Nat := t.2.2.2.2.2.1
abbrev gMc (t : gMt) : Nat := t.2.2.2.2.2.2.1
abbrev gMs (t : gMt) : Nat := t.2.2.2.2.2.2.2
def gRm (t : gMt) : Room := { frames := gFrs t, cells := gMc t, slots := gMs t, locals := gLo t }
/-- A CONTRACT: from the arguments av over the heap h, the method t returns with QR, or throws with QX -/
def gM (E : gEnv) (t : gMt) (av : List Value) (n : Nat) (σ : Option Nat) (h : gH) (QR : gQt) (QX : String → gH → Prop) : Prop :=
  vx_Met E.1 t.1 (.code t.1 (gCode t) (gMax t) (gRet t) :: wsG) (gRm t) (va_Pc av (gW E n σ h)) (gQc E QR) (gXC E n QX) (gMc t) (gMs t) (gA E)
/-- no throw -/
def gNo : String → gH → Prop := fun _ _ => False
/-- one answer, one size, a heap with Ph -/
def gD (v0 : Option Value) (n0 : Nat) (σ0 : Option Nat) (Ph : gH → Prop) : gQt := fun v n' σ' h' => v = v0 ∧ n' = n0 ∧ σ' = σ0 ∧ Ph h'
/-- what holds in a frame of the method t -/
def gC (E : gEnv) (F : gFr) (t : gMt) : Prop :=
  F.1.tables.exec = Jvm.exec ∧ F.2.2.2.2.2.2.2.code = gCode t ∧ F.2.2.2.2.2.2.2.maxLocals = gMax t ∧ F.2.2.1.vm.findClass t.1.cls = some F.2.2.2.1.cls ∧ (∀ w ∈ wsG, w.before F.2.2.2.2.1 F.2.2.1 = true) ∧ gX E F.2.2.1 F.2.2.1.heap ∧ F.2.2.2.2.2.2.1.locks = false ∧ F.2.2.2.2.2.2.1.sig.returnType = gRet t ∧ gB E ≤ F.2.2.1.heap.size ∧ (∀ x ∈ F.2.2.2.2.2.2.2.exceptionTable.toList, False) ∧ F.2.2.2.2.2.2.1.name = t.1.name
/-- what a frame of t owes at its end -/
def gQ (E : gEnv) (F : gFr) (t : gMt) (n0 : Nat) (QR : gQt) (QX : String → gH → Prop) : State → Prop := vx_MQ F.2.2.2.2.2.1 (gQc E QR) (gXC E n0 QX) F.2.2.2.2.1 F.2.2.1 (gMc t) (gMs t) (gA E)
/-- THE GOAL: at pc, with the locals L and the stack st, over the heap h, the run comes to Q -/
def G (E : gEnv) (F : gFr) (t : gMt) (Q : State → Prop) (n : Nat) (σ : Option Nat) (h : gH) (k sl pc : Nat) (L : List (Nat × Value)) (st : List Value) : Prop :=
  ∀ (H : Heap) (locs : List Loc) (ls : Array Slot), gS σ H → gP E n h H → va_S (gA E) F.2.2.1.heap H locs → lv_has ls (gMax t) L → W F.1 E.1 F.2.1 (gRm t) F.2.2.1 F.2.2.2.1 F.2.2.2.2.1 F.2.2.2.2.2.1 F.2.2.2.2.2.2.1 F.2.2.2.2.2.2.2 H locs k sl Q (F0 F.2.2.2.1 pc ls st)
theorem gl_mem {L : List (Nat × Value)} {i : Nat} {v : Value} : L.lookup i = some v → (i, v) ∈ L := by
  induction L with
  | nil => intro h; cases h
  | cons q L ih =>
    obtain ⟨a, b⟩ := q
    intro h
    rw [List.lookup_cons] at h
    by_cases e : i = a
    · subst e
      simp at h
      subst h
      exact List.mem_cons_self
    · have e2 : (i == a) = false := by simp [e]
      rw [e2] at h
      exact List.mem_cons_of_mem _ (ih h)
theorem gl_at {ls : Array Slot} {nL i : Nat} {v : Value} {L : List (Nat × Value)} (h : lv_has ls nL L) (hl : L.lookup i = some v) : ls[i]? = some (.val v) := h.2.2 (i, v) (gl_mem hl)
/-- L2 says no more than L -/
def gSub (L : List (Nat × Value)) : List (Nat × Value) → Prop
  | [] => True
  | q :: r => L.lookup q.1 = some q.2 ∧ gSub L r
theorem gSub_has {ls : Array Slot} {nL : Nat} {L : List (Nat × Value)} (h : lv_has ls nL L) : ∀ L2, gSub L L2 → lv_has ls nL L2 := by
  intro L2 h2
  refine ⟨h.1, h.2.1, ?_⟩
  induction L2 with
  | nil => intro q hq; cases hq
  | cons q r ih =>
    intro x hx
    rcases List.mem_cons.mp hx with rfl | hx
    · exact gl_at h h2.1
    · exact ih h2.2 x hx
theorem gM_of {E : gEnv} {t : gMt} {av : List Value} {n : Nat} {σ : Option Nat} {h : gH} {QR : gQt} {QX : String → gH → Prop} (hy : plainName t.1.cls = true) (hlen : (lg_sl av).length ≤ gMax t)
    (body : ∀ F : gFr, gC E F t → G E F t (gQ E F t n QR QX) n σ h 0 0 0 (lv_args 0 av) []) : gM E t av n σ h QR QX := by
  refine vx_ofW (cc := gCode t) (maxL := gMax t) (ret := gRet t) hy rfl ?_
  intro p e s m args below meth c s₁ B hml ht hv
  obtain ⟨rfl, hsz, hbn, hP, hX⟩ := hv
  have hts := atoms_spec (ws := .code t.1 (gCode t) (gMax t) (gRet t) :: wsG) B.pre
  have hl := lv_entry av (n := gMax t) hlen
  rw [lg_entry_eq]
  exact body (p, e, s, m, av.toArray, below, meth, c) ⟨B.exec, B.bytes, hml, findClass_of_methodNamed B.named, fun w hw => hts w (List.mem_cons_of_mem _ hw), hX, B.notSynchronized, B.returns, hbn, ht, (name_of_methodNamed B.named B.method).1⟩ s.heap [] _ hsz hP va_S.rf hl
end
section
/-! ===== BEGIN a constructor that throws (launches without stack traces) ===== -/
section VXIA
variable {p : Program} {l : Launch} {e : Env} {R : Room} {s : State} {m : MethodId} {args : Array Value} {below : List Frame} {meth : Method} {c : Code} {T : State} {locs : List Loc} {cells slots : Nat}
theorem vx_callI (X : Stand p l e R s m args below meth c T locs cells slots) (hexec : p.tables.exec = Jvm.exec) {own : String} {index : Nat} {y : MethodName} {bytes : ByteArray} {maxL : Nat}
    (hown : s.vm.findClass own = some m.cls) (hy1 : y.name = "<init>") (hlink : (Cond.methodLink own index y).before args s = true) (hinst : (Cond.instanceMethod y).before args s = true)
    (hcode : (Cond.code y bytes maxL none).before args s = true) (hy : y.cls ≠ "java/lang/invoke/MethodHandle" ∧ y.cls ≠ "java/lang/invoke/VarHandle")
    {W9 : Nat} {Pre : Pt → Array Value → Prop} {Post : Pt → Array Value → Option Value → Pt → Prop} {PostX : Pt → Array Value → Addr → Pt → Prop} (hK : vx_Back l R p e below s args y 3 W9 Pre Post PostX)
    {g : JFrame} (hg : g.method = m) (hsize : g.locals.size = c.maxLocals) {a : Addr} {argsL rest : List Value} (hlen : ∀ sig, parseMethodDescriptor y.desc = some sig → argsL.length = sig.parameters.length)
    (hstack : g.stack = argsL.reverse ++ .ref a :: rest) (hW : 2 * g.monitorRoom + (rest.map fun v => v.category).sum ≤ W9) (hdg : decode c.code g.pc = .ok (.invokespecial index, 3))
    (hpre : ∀ vm₁, s.WarmedH vm₁ → Pre ⟨T.setVm vm₁, locs, cells, slots⟩ (Value.ref a :: argsL).toArray) :
    (∃ (v : Option Value) (vm₁ : Vm) (B : Pt), s.WarmedH vm₁ ∧ Stand p l e R s m args below meth c B.U B.locs B.cells B.slots ∧ Post ⟨T.setVm vm₁, locs, cells, slots⟩ (Value.ref a :: argsL).toArray v B ∧
      ∀ target, Steps p.tables e below (B.U.setTop { g with pc := g.pc + 3, stack := v.toList ++ rest }) target → Steps p.tables e below (T.setTop g) target) ∨
    (∃ (q : Addr) (vm₁ : Vm) (B : Pt), s.WarmedH vm₁ ∧ Stand p l e R s m args below meth c B.U B.locs B.cells B.slots ∧ PostX ⟨T.setVm vm₁, locs, cells, slots⟩ (Value.ref a :: argsL).toArray q B ∧
      Steps p.tables e below (T.setTop g) ((B.U.setTop { g with stack := rest }).pushFrame (.throwing q))) := by
  subst hg
  have hpl : e.platform.magicAccessors = ({} : Platform).magicAccessors := by rw [X.admits.platform]
  obtain ⟨mk, methM, cM, kP, vm₁, hnamed, hmethM, hcodeM, -, hlocalsM, -, hkP, -, hW₁, hstep₁⟩ := Steps.initColdArgs (e := e) X.here hexec X.warmed hpl hown hy1 hy hlink hinst hcode (f := g) rfl hlen hstack hdg
  have X₁ := X.noted hW₁
  rcases hK g.method meth c ⟨T.setVm vm₁, locs, cells, slots⟩ { g with stack := rest } (.invokespecial index) mk (Value.ref a :: argsL).toArray X₁ rfl hsize hdg hW (X₁.named hnamed) (hpre vm₁ X₁.warmed) with ⟨v, B, X', hpost, hsteps⟩ | ⟨q, B, X', hpost, hsteps⟩
  · exact Or.inl ⟨v, vm₁, B, X₁.warmed, X', hpost, fun target h => hstep₁ _ fun acts => by rw [doInvoke_state]; exact hsteps.trans h⟩
  · exact Or.inr ⟨q, vm₁, B, X₁.warmed, X', hpost, hstep₁ _ fun acts => by rw [doInvoke_state]; exact hsteps⟩
end VXIA
section VXIB
variable {p : Program} {l : Launch} {e : Env} {R : Room} {s : State} {m : MethodId} {args : Array Value} {below : List Frame} {meth : Method} {c : Code} {H : Heap} {locs : List Loc} {cells slots : Nat}
variable {y : MethodName} {bytes cc : ByteArray} {maxL nL mc ms n index : Nat} {ret : Option FieldType} {ws : List Cond} {rm : Room} {Pc : Array Value → State → Prop} {Qc : Array Value → State → Outcome → State → Prop} {XC : String → State → State → Prop} {free : Addr → Prop} {Ts : List Cond} {own C : String} {b : Addr} {As rest : List Value} {g : JFrame}
theorem vx_runI (S : CallFix p m c cc nL s args Ts own) (hM : vx_Met l y ws rm Pc Qc XC mc ms free) (cw : CallB R s args own index y bytes maxL none ws rm mc ms n ∧ y.name = "<init>" ∧ (Cond.instanceMethod y).before args s = true) (hp : PreS s H Pc (.ref b :: As))
    (hg : g.method = m) (hn : As.length = n) (hsize : g.locals.size = nL) (hstack : g.stack = As.reverse ++ .ref b :: rest) (hW : 2 * g.monitorRoom + (rest.map fun v => v.category).sum ≤ 8) (hdg : decode cc g.pc = .ok (.invokespecial index, 3)) (hf : cells + mc ≤ R.cells ∧ slots + ms ≤ R.slots) :
    vx_Run p l e R s m args below meth c H locs cells slots mc ms g rest (Qc (Value.ref b :: As).toArray) XC free := by
  have hK : vx_Back l R p e below s args y 3 8 (PreOf R mc ms Pc) (PostOf Qc mc ms free) (vx_Post XC mc ms free) := vx_callBack cw.1 hM hp.1
  obtain ⟨⟨-, -, -, -, -, -, hcode, -, hy, hlen, hl⟩, hy1, hin⟩ := cw
  obtain ⟨hx, hb, hml, ho, -⟩ := S
  have hPc := hp.2
  intro T hT X
  rcases vx_callI X hx (bytes := bytes) (maxL := maxL) ho hy1 hl hin hcode hy hK hg (hsize.trans hml.symm) (a := b) (argsL := As) (rest := rest) (fun sig h => hn.trans (hlen sig h)) hstack hW (by rw [hb]; exact hdg)
    (fun vm₁ hW₁ => ⟨hf.1, hf.2, hPc (T.setVm vm₁) hT hW₁⟩) with ⟨v, vm₁, ⟨U', l2, c2, s2⟩, hW₁, X', ⟨g', mk, t, L, e1, e2, hq, h1, hL, h2, h3⟩, st⟩ | ⟨q, vm₁, ⟨U', l2, c2, s2⟩, hW₁, X', ⟨g', mk, t, L, E, ce, e1, e2, hq, hce, hcv, hcl, h1, hL, h2, h3⟩, st⟩
  · dsimp only [Pt.U, Pt.locs, Pt.cells, Pt.slots] at X' e1 e2 h1 h2 h3 st
    subst h1; subst h2; subst h3
    exact Or.inl ⟨v, (T.setVm vm₁).calling g' mk (Value.ref b :: As).toArray, t, U', L, hT, X', hL, e1, e2, hq, st⟩
  · dsimp only [Pt.U, Pt.locs, Pt.cells, Pt.slots] at X' e1 e2 h1 h2 h3 st hcl
    subst h1; subst h2; subst h3
    exact Or.inr ⟨q, (T.setVm vm₁).calling g' mk (Value.ref b :: As).toArray, t, U', L, E, ce, hT, X', hL, e1, e2, hq, hce, hcv, vx_cls hW₁ hcl, st⟩
end VXIB
/-! ===== END ===== -/
/-! ===== BEGIN a private constructor of a nest mate that throws ===== -/
section VXIC
variable {p : Program} {l : Launch} {e : Env} {R : Room} {s : State} {m : MethodId} {args : Array Value} {below : List Frame} {meth : Method} {c : Code} {T : State} {locs : List Loc} {cells slots : Nat}
theorem vx_callIN (X : Stand p l e R s m args below meth c T locs cells slots) (hexec : p.tables.exec = Jvm.exec) {own : String} {index : Nat} {host : String} {y : MethodName} {bytes : ByteArray} {maxL : Nat}
    (hown : s.vm.findClass own = some m.cls) (hy1 : y.name = "<init>") (hlink : (Cond.methodLinkNest own index y host).before args s = true) (hinst : (Cond.instanceMethod y).before args s = true)
    (hcode : (Cond.code y bytes maxL none).before args s = true) (hy : y.cls ≠ "java/lang/invoke/MethodHandle" ∧ y.cls ≠ "java/lang/invoke/VarHandle")
    {W9 : Nat} {Pre : Pt → Array Value → Prop} {Post : Pt → Array Value → Option Value → Pt → Prop} {PostX : Pt → Array Value → Addr → Pt → Prop} (hK : vx_Back l R p e below s args y 3 W9 Pre Post PostX)
    {g : JFrame} (hg : g.method = m) (hsize : g.locals.size = c.maxLocals) {a : Addr} {argsL rest : List Value} (hlen : ∀ sig, parseMethodDescriptor y.desc = some sig → argsL.length = sig.parameters.length)
    (hstack : g.stack = argsL.reverse ++ .ref a :: rest) (hW : 2 * g.monitorRoom + (rest.map fun v => v.category).sum ≤ W9) (hdg : decode c.code g.pc = .ok (.invokespecial index, 3))
    (hpre : ∀ vm₁, s.WarmedH vm₁ → Pre ⟨T.setVm vm₁, locs, cells, slots⟩ (Value.ref a :: argsL).toArray) :
    (∃ (v : Option Value) (vm₁ : Vm) (B : Pt), s.WarmedH vm₁ ∧ Stand p l e R s m args below meth c B.U B.locs B.cells B.slots ∧ Post ⟨T.setVm vm₁, locs, cells, slots⟩ (Value.ref a :: argsL).toArray v B ∧
      ∀ target, Steps p.tables e below (B.U.setTop { g with pc := g.pc + 3, stack := v.toList ++ rest }) target → Steps p.tables e below (T.setTop g) target) ∨
    (∃ (q : Addr) (vm₁ : Vm) (B : Pt), s.WarmedH vm₁ ∧ Stand p l e R s m args below meth c B.U B.locs B.cells B.slots ∧ PostX ⟨T.setVm vm₁, locs, cells, slots⟩ (Value.ref a :: argsL).toArray q B ∧
      Steps p.tables e below (T.setTop g) ((B.U.setTop { g with stack := rest }).pushFrame (.throwing q))) := by
  subst hg
  have hpl : e.platform.magicAccessors = ({} : Platform).magicAccessors := by rw [X.admits.platform]
  obtain ⟨mk, methM, cM, kP, vm₁, hnamed, hmethM, hcodeM, -, hlocalsM, -, hkP, -, hW₁, hstep₁⟩ := Steps.initColdArgsNest (e := e) X.here hexec X.warmed hpl hown hy1 hy hlink hinst hcode (f := g) rfl hlen hstack hdg
  have X₁ := X.noted hW₁
  rcases hK g.method meth c ⟨T.setVm vm₁, locs, cells, slots⟩ { g with stack := rest } (.invokespecial index) mk (Value.ref a :: argsL).toArray X₁ rfl hsize hdg hW (X₁.named hnamed) (hpre vm₁ X₁.warmed) with ⟨v, B, X', hpost, hsteps⟩ | ⟨q, B, X', hpost, hsteps⟩
  · exact Or.inl ⟨v, vm₁, B, X₁.warmed, X', hpost, fun target h => hstep₁ _ fun acts => by rw [doInvoke_state]; exact hsteps.trans h⟩
  · exact Or.inr ⟨q, vm₁, B, X₁.warmed, X', hpost, hstep₁ _ fun acts => by rw [doInvoke_state]; exact hsteps⟩
end VXIC
section VXID
variable {p : Program} {l : Launch} {e : Env} {R : Room} {s : State} {m : MethodId} {args : Array Value} {below : List Frame} {meth : Method} {c : Code} {H : Heap} {locs : List Loc} {cells slots : Nat}
theorem vx_runIN {y : MethodName} {bytes cc : ByteArray} {maxL nL mc ms n index : Nat} {ws : List Cond} {rm : Room} {Pc : Array Value → State → Prop} {Qc : Array Value → State → Outcome → State → Prop} {XC : String → State → State → Prop} {free : Addr → Prop} {Ts : List Cond} {own host : String} {b : Addr} {As rest : List Value} {g : JFrame}
    (S : CallFix p m c cc nL s args Ts own) (hM : vx_Met l y ws rm Pc Qc XC mc ms free) (cw : va_CN R s args own index y host bytes maxL none ws rm mc ms n ∧ y.name = "<init>" ∧ (Cond.instanceMethod y).before args s = true) (hp : PreS s H Pc (.ref b :: As))
    (hg : g.method = m) (hn : As.length = n) (hsize : g.locals.size = nL) (hstack : g.stack = As.reverse ++ .ref b :: rest) (hW : 2 * g.monitorRoom + (rest.map fun v => v.category).sum ≤ 8) (hdg : decode cc g.pc = .ok (.invokespecial index, 3)) (hf : cells + mc ≤ R.cells ∧ slots + ms ≤ R.slots) :
    vx_Run p l e R s m args below meth c H locs cells slots mc ms g rest (Qc (Value.ref b :: As).toArray) XC free := by
  obtain ⟨⟨⟨hrc, hrs, hfr, hlo, hws, hcw⟩, hcode, hini, hy, hlen, hl⟩, hx1, hx2⟩ := cw
  have hK : vx_Back l R p e below s args y 3 8 (PreOf R mc ms Pc) (PostOf Qc mc ms free) (vx_Post XC mc ms free) := vx_back (bytes := bytes) (maxL := maxL) (ret := none) hM hp.1 hrc hrs hfr hlo hws hcw (fun a' U hW => word_at hW (Or.inl (by first | rfl | simp [Cond.onTables, Cond.keeps, Cond.steady])) hini)
  obtain ⟨hx, hb, hml, ho, -⟩ := S
  have hPc := hp.2
  intro T hT X
  rcases vx_callIN X hx (bytes := bytes) (maxL := maxL) ho hx1 hl hx2 hcode hy hK hg (hsize.trans hml.symm) (a := b) (argsL := As) (rest := rest) (fun sig h => hn.trans (hlen sig h)) hstack hW (by rw [hb]; exact hdg)
    (fun vm₁ hW₁ => ⟨hf.1, hf.2, hPc (T.setVm vm₁) hT hW₁⟩) with ⟨v, vm₁, ⟨U', l2, c2, s2⟩, hW₁, X', ⟨g', mk, t, L, e1, e2, hq, h1, hL, h2, h3⟩, st⟩ | ⟨q, vm₁, ⟨U', l2, c2, s2⟩, hW₁, X', ⟨g', mk, t, L, E, ce, e1, e2, hq, hce, hcv, hcl, h1, hL, h2, h3⟩, st⟩
  · dsimp only [Pt.U, Pt.locs, Pt.cells, Pt.slots] at X' e1 e2 h1 h2 h3 st
    subst h1; subst h2; subst h3
    exact Or.inl ⟨v, (T.setVm vm₁).calling g' mk (Value.ref b :: As).toArray, t, U', L, hT, X', hL, e1, e2, hq, st⟩
  · dsimp only [Pt.U, Pt.locs, Pt.cells, Pt.slots] at X' e1 e2 h1 h2 h3 st hcl
    subst h1; subst h2; subst h3
    exact Or.inr ⟨q, (T.setVm vm₁).calling g' mk (Value.ref b :: As).toArray, t, U', L, E, ce, hT, X', hL, e1, e2, hq, hce, hcv, vx_cls hW₁ hcl, st⟩
end VXID
/-! ===== END ===== -/
/-! ===== BEGIN a private method of a nest mate that may throw (follows va_callVN, va_callSN, va_runVN, va_runSN) ===== -/
section
variable {p : Program} {l : Launch} {e : Env} {R : Room} {s : State} {m : MethodId} {args : Array Value} {below : List Frame} {meth : Method} {c : Code} {H : Heap} {locs : List Loc} {cells slots : Nat}
variable {T : State}
theorem vx_callVN (X : Stand p l e R s m args below meth c T locs cells slots) (hexec : p.tables.exec = Jvm.exec) {own C : String} {index : Nat} {host : String} {y : MethodName} {bytes : ByteArray} {maxL : Nat} {ret : Option FieldType}
    (hown : s.vm.findClass own = some m.cls) (hlink : (Cond.methodLinkNest own index y host).before args s = true) (hinst : (Cond.instanceMethod y).before args s = true) (hsel : (Cond.selects C y y).before args s = true)
    (hcode : (Cond.code y bytes maxL ret).before args s = true) (hy : y.cls ≠ "java/lang/invoke/MethodHandle" ∧ y.cls ≠ "java/lang/invoke/VarHandle")
    {W : Nat} {Pre : Pt → Array Value → Prop} {Post : Pt → Array Value → Option Value → Pt → Prop} {PostX : Pt → Array Value → Addr → Pt → Prop} (hK : vx_Back l R p e below s args y 3 W Pre Post PostX)
    {b : Addr} {cellB : Cell} (hcell : T.heap[b]? = some cellB) (hobj : cellB.vm.isStatics = false) (hcls : s.vm.findClass C = some cellB.cls)
    {g : JFrame} (hg : g.method = m) (hsize : g.locals.size = c.maxLocals) {argsL rest : List Value} (hlen : ∀ sig, parseMethodDescriptor y.desc = some sig → argsL.length = sig.parameters.length)
    (hstack : g.stack = argsL.reverse ++ .ref b :: rest) (hW : 2 * g.monitorRoom + (rest.map fun v => v.category).sum ≤ W) (hdg : decode c.code g.pc = .ok (.invokevirtual index, 3))
    (hpre : ∀ vm₁, s.WarmedH vm₁ → Pre ⟨T.setVm vm₁, locs, cells, slots⟩ (Value.ref b :: argsL).toArray) :
    (∃ (v : Option Value) (vm₁ : Vm) (B : Pt), s.WarmedH vm₁ ∧ Stand p l e R s m args below meth c B.U B.locs B.cells B.slots ∧ Post ⟨T.setVm vm₁, locs, cells, slots⟩ (Value.ref b :: argsL).toArray v B ∧
      ∀ target, Steps p.tables e below (B.U.setTop { g with pc := g.pc + 3, stack := v.toList ++ rest }) target → Steps p.tables e below (T.setTop g) target) ∨
    (∃ (q : Addr) (vm₁ : Vm) (B : Pt), s.WarmedH vm₁ ∧ Stand p l e R s m args below meth c B.U B.locs B.cells B.slots ∧ PostX ⟨T.setVm vm₁, locs, cells, slots⟩ (Value.ref b :: argsL).toArray q B ∧
      Steps p.tables e below (T.setTop g) ((B.U.setTop { g with stack := rest }).pushFrame (.throwing q))) := by
  obtain ⟨mk, methM, hnamed, hmethM, hstM, habM⟩ := Cond.instanceMethod_spec hinst
  obtain ⟨methM', cM, hmethM', -, -, -, -, -, -, hsigM⟩ := Cond.code_spec hnamed hcode
  cases hmethM.symm.trans hmethM'
  obtain ⟨c2, r2, m2, q1, q2, q3, q4, kP, hkP, hkPi⟩ := Cond.selects_spec hsel
  cases hcls.symm.trans q1
  cases (State.methodFound?_of_named hnamed hy).symm.trans q2
  cases hnamed.symm.trans q3
  have hselP : selectMethod e.platform s.vm cellB.cls mk = .method mk := by rw [Launch.admits_selectMethod X.admits]; exact q4
  obtain ⟨vm₁, X₁, hstep₁⟩ := X.invokevirtualNest hexec hown hlink hnamed hmethM hstM hkP hkPi hy (a := b) (cell := cellB) hcell
    (fun z h => by rw [h] at hobj; cases hobj) hselP hmethM habM hkP hkPi (g := g) hg (argsL := argsL) (rest := rest) (hlen _ hsigM) hstack hdg
  rcases hK m meth c ⟨T.setVm vm₁, locs, cells, slots⟩ { g with stack := rest } (.invokevirtual index) mk (Value.ref b :: argsL).toArray X₁ hg hsize hdg hW (X₁.named hnamed) (hpre vm₁ X₁.warmed) with ⟨v, B, X', hpost, hsteps⟩ | ⟨q, B, X', hpost, hsteps⟩
  · exact Or.inl ⟨v, vm₁, B, X₁.warmed, X', hpost, fun target h => hstep₁ _ fun acts => by rw [doInvoke_state]; exact hsteps.trans h⟩
  · exact Or.inr ⟨q, vm₁, B, X₁.warmed, X', hpost, hstep₁ _ fun acts => by rw [doInvoke_state]; exact hsteps⟩
theorem vx_callSN (X : Stand p l e R s m args below meth c T locs cells slots) (hexec : p.tables.exec = Jvm.exec) {own : String} {index : Nat} {host : String} {y : MethodName} {bytes : ByteArray} {maxL : Nat} {ret : Option FieldType}
    (hown : s.vm.findClass own = some m.cls) (hlink : (Cond.methodLinkNest own index y host).before args s = true) (hstat : (Cond.static y).before args s = true) (hinit : (Cond.initialized y.cls).before args s = true)
    (hcode : (Cond.code y bytes maxL ret).before args s = true) (hy : y.cls ≠ "java/lang/invoke/MethodHandle" ∧ y.cls ≠ "java/lang/invoke/VarHandle")
    {W : Nat} {Pre : Pt → Array Value → Prop} {Post : Pt → Array Value → Option Value → Pt → Prop} {PostX : Pt → Array Value → Addr → Pt → Prop} (hK : vx_Back l R p e below s args y 3 W Pre Post PostX)
    {g : JFrame} (hg : g.method = m) (hsize : g.locals.size = c.maxLocals) {argsL rest : List Value} (hlen : ∀ sig, parseMethodDescriptor y.desc = some sig → argsL.length = sig.parameters.length)
    (hstack : g.stack = argsL.reverse ++ rest) (hW : 2 * g.monitorRoom + (rest.map fun v => v.category).sum ≤ W) (hdg : decode c.code g.pc = .ok (.invokestatic index, 3))
    (hpre : ∀ vm₁, s.WarmedH vm₁ → Pre ⟨T.setVm vm₁, locs, cells, slots⟩ argsL.toArray) :
    (∃ (v : Option Value) (vm₁ : Vm) (B : Pt), s.WarmedH vm₁ ∧ Stand p l e R s m args below meth c B.U B.locs B.cells B.slots ∧ Post ⟨T.setVm vm₁, locs, cells, slots⟩ argsL.toArray v B ∧
      ∀ target, Steps p.tables e below (B.U.setTop { g with pc := g.pc + 3, stack := v.toList ++ rest }) target → Steps p.tables e below (T.setTop g) target) ∨
    (∃ (q : Addr) (vm₁ : Vm) (B : Pt), s.WarmedH vm₁ ∧ Stand p l e R s m args below meth c B.U B.locs B.cells B.slots ∧ PostX ⟨T.setVm vm₁, locs, cells, slots⟩ argsL.toArray q B ∧
      Steps p.tables e below (T.setTop g) ((B.U.setTop { g with stack := rest }).pushFrame (.throwing q))) := by
  obtain ⟨mk, hnamed⟩ := Cond.code_named hcode
  obtain ⟨methM, cM, hmethM, -, -, -, -, -, -, hsigM⟩ := Cond.code_spec hnamed hcode
  have hstatic : methM.isStatic = true := Cond.static_spec hnamed hmethM hstat
  obtain ⟨kP, hkP, -⟩ := className_of_methodNamed hnamed
  have hinitP : kP.init = .initialized := Cond.initialized_spec (findClass_of_methodNamed hnamed) hkP hinit
  obtain ⟨vm₁, X₁, hstep₁⟩ := X.invokestaticNest hexec hown hlink hnamed hmethM hstatic hkP hinitP hy (g := g) hg (argsL := argsL) (rest := rest) (hlen _ hsigM) hstack hdg
  rcases hK m meth c ⟨T.setVm vm₁, locs, cells, slots⟩ { g with stack := rest } (.invokestatic index) mk argsL.toArray X₁ hg hsize hdg hW (X₁.named hnamed) (hpre vm₁ X₁.warmed) with ⟨v, B, X', hpost, hsteps⟩ | ⟨q, B, X', hpost, hsteps⟩
  · exact Or.inl ⟨v, vm₁, B, X₁.warmed, X', hpost, fun target h => hstep₁ _ fun acts => by rw [doInvoke_state]; exact hsteps.trans h⟩
  · exact Or.inr ⟨q, vm₁, B, X₁.warmed, X', hpost, hstep₁ _ fun acts => by rw [doInvoke_state]; exact hsteps⟩
theorem vx_runVN {y : MethodName} {bytes cc : ByteArray} {maxL nL mc ms n index : Nat} {ret : Option FieldType} {ws : List Cond} {rm : Room} {Pc : Array Value → State → Prop} {Qc : Array Value → State → Outcome → State → Prop} {XC : String → State → State → Prop} {free : Addr → Prop} {Ts : List Cond} {own C host : String} {b : Addr} {As rest : List Value} {g : JFrame}
    (S : CallFix p m c cc nL s args Ts own) (hM : vx_Met l y ws rm Pc Qc XC mc ms free) (cw : va_CN R s args own index y host bytes maxL ret ws rm mc ms n ∧ (Cond.instanceMethod y).before args s = true ∧ (Cond.selects C y y).before args s = true) (hp : PreV s H C b Pc As)
    (hg : g.method = m) (hn : As.length = n) (hsize : g.locals.size = nL) (hstack : g.stack = As.reverse ++ .ref b :: rest) (hW : 2 * g.monitorRoom + (rest.map fun v => v.category).sum ≤ 8) (hdg : decode cc g.pc = .ok (.invokevirtual index, 3)) (hf : cells + mc ≤ R.cells ∧ slots + ms ≤ R.slots) :
    vx_Run p l e R s m args below meth c H locs cells slots mc ms g rest (Qc (Value.ref b :: As).toArray) XC free := by
  obtain ⟨⟨⟨hrc, hrs, hfr, hlo, hws, hcw⟩, hcode, hini, hy, hlen, hl⟩, hx1, hx2⟩ := cw
  have hK : vx_Back l R p e below s args y 3 8 (PreOf R mc ms Pc) (PostOf Qc mc ms free) (vx_Post XC mc ms free) := vx_back (bytes := bytes) (maxL := maxL) (ret := ret) hM hp.1 hrc hrs hfr hlo hws hcw (fun a' U hW => word_at hW (Or.inl (by first | rfl | simp [Cond.onTables, Cond.keeps, Cond.steady])) hini)
  obtain ⟨hx, hb, hml, ho, -⟩ := S
  obtain ⟨-, ⟨cellB, hcB, hoB, hclB⟩, hPc⟩ := hp
  intro T hT X
  rcases vx_callVN X hx (C := C) (bytes := bytes) (maxL := maxL) (ret := ret) ho hl hx1 hx2 hcode hy hK (by rw [hT]; exact hcB) hoB hclB hg (hsize.trans hml.symm) (argsL := As) (rest := rest) (fun sig h => hn.trans (hlen sig h)) hstack hW (by rw [hb]; exact hdg)
    (fun vm₁ hW₁ => ⟨hf.1, hf.2, hPc (T.setVm vm₁) hT hW₁⟩) with ⟨v, vm₁, ⟨U', l2, c2, s2⟩, hW₁, X', ⟨g', mk, t, L, e1, e2, hq, h1, hL, h2, h3⟩, st⟩ | ⟨q, vm₁, ⟨U', l2, c2, s2⟩, hW₁, X', ⟨g', mk, t, L, E, ce, e1, e2, hq, hce, hcv, hcl, h1, hL, h2, h3⟩, st⟩
  · dsimp only [Pt.U, Pt.locs, Pt.cells, Pt.slots] at X' e1 e2 h1 h2 h3 st
    subst h1; subst h2; subst h3
    exact Or.inl ⟨v, (T.setVm vm₁).calling g' mk (Value.ref b :: As).toArray, t, U', L, hT, X', hL, e1, e2, hq, st⟩
  · dsimp only [Pt.U, Pt.locs, Pt.cells, Pt.slots] at X' e1 e2 h1 h2 h3 st hcl
    subst h1; subst h2; subst h3
    exact Or.inr ⟨q, (T.setVm vm₁).calling g' mk (Value.ref b :: As).toArray, t, U', L, E, ce, hT, X', hL, e1, e2, hq, hce, hcv, vx_cls hW₁ hcl, st⟩
theorem vx_runSN {y : MethodName} {bytes cc : ByteArray} {maxL nL mc ms n index : Nat} {ret : Option FieldType} {ws : List Cond} {rm : Room} {Pc : Array Value → State → Prop} {Qc : Array Value → State → Outcome → State → Prop} {XC : String → State → State → Prop} {free : Addr → Prop} {Ts : List Cond} {own host : String} {As rest : List Value} {g : JFrame}
    (S : CallFix p m c cc nL s args Ts own) (hM : vx_Met l y ws rm Pc Qc XC mc ms free) (cw : va_CN R s args own index y host bytes maxL ret ws rm mc ms n ∧ (Cond.static y).before args s = true ∧ True) (hp : PreS s H Pc As)
    (hg : g.method = m) (hn : As.length = n) (hsize : g.locals.size = nL) (hstack : g.stack = As.reverse ++ rest) (hW : 2 * g.monitorRoom + (rest.map fun v => v.category).sum ≤ 8) (hdg : decode cc g.pc = .ok (.invokestatic index, 3)) (hf : cells + mc ≤ R.cells ∧ slots + ms ≤ R.slots) :
    vx_Run p l e R s m args below meth c H locs cells slots mc ms g rest (Qc As.toArray) XC free := by
  obtain ⟨⟨⟨hrc, hrs, hfr, hlo, hws, hcw⟩, hcode, hini, hy, hlen, hl⟩, hx1, hx2⟩ := cw
  have hK : vx_Back l R p e below s args y 3 8 (PreOf R mc ms Pc) (PostOf Qc mc ms free) (vx_Post XC mc ms free) := vx_back (bytes := bytes) (maxL := maxL) (ret := ret) hM hp.1 hrc hrs hfr hlo hws hcw (fun a' U hW => word_at hW (Or.inl (by first | rfl | simp [Cond.onTables, Cond.keeps, Cond.steady])) hini)
  obtain ⟨hx, hb, hml, ho, -⟩ := S
  have hPc := hp.2
  intro T hT X
  rcases vx_callSN X hx (bytes := bytes) (maxL := maxL) (ret := ret) ho hl hx1 hini hcode hy hK hg (hsize.trans hml.symm) (argsL := As) (rest := rest) (fun sig h => hn.trans (hlen sig h)) hstack hW (by rw [hb]; exact hdg)
    (fun vm₁ hW₁ => ⟨hf.1, hf.2, hPc (T.setVm vm₁) hT hW₁⟩) with ⟨v, vm₁, ⟨U', l2, c2, s2⟩, hW₁, X', ⟨g', mk, t, L, e1, e2, hq, h1, hL, h2, h3⟩, st⟩ | ⟨q, vm₁, ⟨U', l2, c2, s2⟩, hW₁, X', ⟨g', mk, t, L, E, ce, e1, e2, hq, hce, hcv, hcl, h1, hL, h2, h3⟩, st⟩
  · dsimp only [Pt.U, Pt.locs, Pt.cells, Pt.slots] at X' e1 e2 h1 h2 h3 st
    subst h1; subst h2; subst h3
    exact Or.inl ⟨v, (T.setVm vm₁).calling g' mk As.toArray, t, U', L, hT, X', hL, e1, e2, hq, st⟩
  · dsimp only [Pt.U, Pt.locs, Pt.cells, Pt.slots] at X' e1 e2 h1 h2 h3 st hcl
    subst h1; subst h2; subst h3
    exact Or.inr ⟨q, (T.setVm vm₁).calling g' mk As.toArray, t, U', L, E, ce, hT, X', hL, e1, e2, hq, hce, hcv, vx_cls hW₁ hcl, st⟩
end
/-! ===== END ===== -/
end
section
/-! THE ROWS OF THE LAYER -/
theorem gi_toInt {x : Int} (h : -2147483648 ≤ x ∧ x < 2147483648) : (gi x).toInt = x := Int32.toInt_ofInt_of_le (by simpa using h.1) (by simpa using h.2)
theorem gi_add (a b : Int) : gi a + gi b = gi (a + b) := (Int32.ofInt_add a b).symm
theorem gi_sub (a b : Int) : gi a - gi b = gi (a - b) := (Int32.ofInt_sub a b).symm
theorem gi_mul (a b : Int) : gi a * gi b = gi (a * b) := (Int32.ofInt_mul a b).symm
theorem gi_lt {x y : Int} (hx : -2147483648 ≤ x ∧ x < 2147483648) (hy : -2147483648 ≤ y ∧ y < 2147483648) : gi x < gi y ↔ x < y := by rw [Int32.lt_iff_toInt_lt, gi_toInt hx, gi_toInt hy]
theorem gi_le {x y : Int} (hx : -2147483648 ≤ x ∧ x < 2147483648) (hy : -2147483648 ≤ y ∧ y < 2147483648) : gi x ≤ gi y ↔ x ≤ y := by rw [Int32.le_iff_toInt_le, gi_toInt hx, gi_toInt hy]
theorem gi_eq {x y : Int} (hx : -2147483648 ≤ x ∧ x < 2147483648) (hy : -2147483648 ≤ y ∧ y < 2147483648) : gi x = gi y ↔ x = y := by
  constructor
  · intro h
    have := congrArg Int32.toInt h
    rwa [gi_toInt hx, gi_toInt hy] at this
  · intro h; rw [h]
theorem gi_0 : (0 : Int32) = gi 0 := rfl
theorem gi_asI (x : Int32) : x = gi x.toInt := (Int32.ofInt_toInt x).symm
theorem gi_clamp {i : Int} (h0 : 0 ≤ i) (h1 : i < 2147483648) : (gi i).toNatClampNeg = i.toNat := by
  show (gi i).toInt.toNat = i.toNat
  rw [gi_toInt ⟨by omega, h1⟩]
theorem gi_in {i : Int} {m : Nat} (h : 0 ≤ i ∧ i < (m : Int)) (hm : m < 2147483648) : vp_in (gi i) m := by
  rw [vp_in_iff, gi_toInt ⟨by omega, by omega⟩]
  exact h
theorem gi_div {a b : Int} (h0 : 0 ≤ a ∧ a < 2147483648) (hb : 0 < b ∧ b < 2147483648) : gi a / gi b = gi (a / b) := by
  have h1 : 0 ≤ a / b := Int.ediv_nonneg h0.1 (by omega)
  have h2 : a / b ≤ a := Int.ediv_le_self _ h0.1
  rw [gi_asI (gi a / gi b), Int32.toInt_div, gi_toInt (by omega), gi_toInt (by omega), Int.tdiv_eq_ediv_of_nonneg h0.1]
  congr 1
  have e : ((2 ^ 32 : Nat) : Int) = 4294967296 := rfl
  exact Int.bmod_eq_of_le_mul_two (by rw [e]; omega) (by rw [e]; omega)
theorem gi_rem {a b : Int} (h0 : 0 ≤ a ∧ a < 2147483648) (hb : 0 < b ∧ b < 2147483648) : gi a - gi a / gi b * gi b = gi (a % b) := by
  rw [gi_div h0 hb, gi_mul, gi_sub]
  congr 1
  rw [Int.emod_def, Int.mul_comm b]
/-- places of an int row, of a long row, of a row of references -/
def gI (E : gEnv) (m : Nat) (f : Int → Int) : va_E := .inl (E.2.2.1 0, m, .inl (fun j => gi (f (j : Int))))
def gJ (E : gEnv) (m : Nat) (f : Int → Int64) : va_E := .inl (E.2.2.1 5, m, .inr (.inl (fun j => f (j : Int))))
def gR (E : gEnv) (c m : Nat) (f : Int → Option Nat) : va_E := .inl (E.2.2.1 c, m, .inr (.inr (.inr (.inr (fun j => f (j : Int))))))
def gO (ci : Nat) (fs : List Value) : va_E := .inr (ci, fs)
def gup {α : Type} (f : Int → α) (i : Int) (x : α) : Int → α := fun j => if j = i then x else f j
def gset (i : Nat) (v : Value) (L : List (Nat × Value)) : List (Nat × Value) := (i, v) :: L.filter (fun q => !(q.1 == i) && !(q.1 + 1 == i && q.2.category == 2))
def gset2 (i : Nat) (v : Value) (L : List (Nat × Value)) : List (Nat × Value) := (i, v) :: L.filter (fun q => !(q.1 == i) && (!(q.1 == i + 1) && !(q.1 + 1 == i && q.2.category == 2)))
/-- a field's link -/
def gFl (own : String) (index ci k : Nat) : Prop := ∃ (C : String) (T : u_T) (N : Nat), vwCl[ci]? = some (C, T, N) ∧ k < N ∧ (∀ w ∈ u_ws C T N, w ∈ wsG) ∧ Cond.fieldLink own index (T k).1 (T k).2.1 (T k).2.2.1 ∈ wsG
def gFp (own : String) (index ci k : Nat) (ty : FieldType) (fin : Bool) : Prop := ∃ (C : String) (T : u_T) (N : Nat), vwCl[ci]? = some (C, T, N) ∧ k < N ∧ (∀ w ∈ u_ws C T N, w ∈ wsG) ∧ Cond.fieldLink own index (T k).1 (T k).2.1 (T k).2.2.1 ∈ wsG ∧ (∃ ty0 : Nat → FieldType, ∀ k, k < N → parseFieldDescriptor (T k).2.2.1 = some (ty0 k)) ∧ (∀ a, a < N → ∀ b, b < N → a ≠ b → (T a).2.1 ≠ (T b).2.1) ∧ (T k).2.2.2 = fin ∧ (fin = true → (T k).1 = own) ∧ parseFieldDescriptor (T k).2.2.1 = some ty
/-- a class that is made -/
def gNw (own : String) (index ci N : Nat) (fs : List Value) : Prop := ∃ (C : String) (T : u_T) (ty : Nat → FieldType), vwCl[ci]? = some (C, T, N) ∧ (∀ w ∈ u_ws C T N, w ∈ wsG) ∧ (∀ k, k < N → parseFieldDescriptor (T k).2.2.1 = some (ty k)) ∧ Cond.classLink own index C ∈ wsG ∧ Cond.instantiable C N ∈ wsG ∧ Cond.initialized C ∈ wsG ∧ (∀ j, j < N → defaultValue (ty j) = vp_V fs j)
section GL
variable {E : gEnv} {F : gFr} {t : gMt} {Q : State → Prop} {n : Nat} {σ : Option Nat} {h : gH} {kc ks pc pc' : Nat} {L L' : List (Nat × Value)} {st : List Value}
theorem g_iload {i : Nat} {x : Int32} (pc' : Nat) (C : gC E F t) (hd : decode (gCode t) pc = .ok (.iload i, 2)) (hl : L.lookup i = some (.int x)) (hp : pc + 2 = pc') (k : G E F t Q n σ h kc ks pc' L (.int x :: st)) : G E F t Q n σ h kc ks pc L st := by
  subst hp
  intro H locs ls a1 a3 a4 a5
  exact lv_iload C.1 C.2.1 hd (gl_at a5 hl) (k H locs ls a1 a3 a4 a5)
theorem g_iload_n {j : Fin 4} {x : Int32} (pc' : Nat) (C : gC E F t) (hd : decode (gCode t) pc = .ok (.iload_n j, 1)) (hl : L.lookup (j : Nat) = some (.int x)) (hp : pc + 1 = pc') (k : G E F t Q n σ h kc ks pc' L (.int x :: st)) : G E F t Q n σ h kc ks pc L st := by
  subst hp
  intro H locs ls a1 a3 a4 a5
  exact lv_iload_n C.1 C.2.1 hd rfl (gl_at a5 hl) (k H locs ls a1 a3 a4 a5)
theorem g_lload {i : Nat} {x : Int64} (pc' : Nat) (C : gC E F t) (hd : decode (gCode t) pc = .ok (.lload i, 2)) (hl : L.lookup i = some (.long x)) (hp : pc + 2 = pc') (k : G E F t Q n σ h kc ks pc' L (.long x :: st)) : G E F t Q n σ h kc ks pc L st := by
  subst hp
  intro H locs ls a1 a3 a4 a5
  exact lv_lload C.1 C.2.1 hd (gl_at a5 hl) (k H locs ls a1 a3 a4 a5)
theorem g_lload_n {j : Fin 4} {x : Int64} (pc' : Nat) (C : gC E F t) (hd : decode (gCode t) pc = .ok (.lload_n j, 1)) (hl : L.lookup (j : Nat) = some (.long x)) (hp : pc + 1 = pc') (k : G E F t Q n σ h kc ks pc' L (.long x :: st)) : G E F t Q n σ h kc ks pc L st := by
  subst hp
  intro H locs ls a1 a3 a4 a5
  exact lv_lload_n C.1 C.2.1 hd rfl (gl_at a5 hl) (k H locs ls a1 a3 a4 a5)
theorem g_aload {i : Nat} {x : Nat} (pc' : Nat) (C : gC E F t) (hd : decode (gCode t) pc = .ok (.aload i, 2)) (hl : L.lookup i = some (.ref x)) (hp : pc + 2 = pc') (k : G E F t Q n σ h kc ks pc' L (.ref x :: st)) : G E F t Q n σ h kc ks pc L st := by
  subst hp
  intro H locs ls a1 a3 a4 a5
  exact lv_aload C.1 C.2.1 hd (gl_at a5 hl) (k H locs ls a1 a3 a4 a5)
theorem g_aload_n {j : Fin 4} {x : Nat} (pc' : Nat) (C : gC E F t) (hd : decode (gCode t) pc = .ok (.aload_n j, 1)) (hl : L.lookup (j : Nat) = some (.ref x)) (hp : pc + 1 = pc') (k : G E F t Q n σ h kc ks pc' L (.ref x :: st)) : G E F t Q n σ h kc ks pc L st := by
  subst hp
  intro H locs ls a1 a3 a4 a5
  exact lv_aload_n C.1 C.2.1 hd rfl (gl_at a5 hl) (k H locs ls a1 a3 a4 a5)
theorem g_dload {i : Nat} {x : UInt64} (pc' : Nat) (C : gC E F t) (hd : decode (gCode t) pc = .ok (.dload i, 2)) (hl : L.lookup i = some (.double x)) (hp : pc + 2 = pc') (k : G E F t Q n σ h kc ks pc' L (.double x :: st)) : G E F t Q n σ h kc ks pc L st := by
  subst hp
  intro H locs ls a1 a3 a4 a5
  exact lv_dload C.1 C.2.1 hd (gl_at a5 hl) (k H locs ls a1 a3 a4 a5)
theorem g_dload_n {j : Fin 4} {x : UInt64} (pc' : Nat) (C : gC E F t) (hd : decode (gCode t) pc = .ok (.dload_n j, 1)) (hl : L.lookup (j : Nat) = some (.double x)) (hp : pc + 1 = pc') (k : G E F t Q n σ h kc ks pc' L (.double x :: st)) : G E F t Q n σ h kc ks pc L st := by
  subst hp
  intro H locs ls a1 a3 a4 a5
  exact lv_dload_n C.1 C.2.1 hd rfl (gl_at a5 hl) (k H locs ls a1 a3 a4 a5)
theorem g_istore {i : Nat} {x : Int32} (pc' : Nat) (L' : List (Nat × Value)) (C : gC E F t) (hd : decode (gCode t) pc = .ok (.istore i, 2)) (hn : i < gMax t) (hL : gset i (.int x) L = L') (hp : pc + 2 = pc') (k : G E F t Q n σ h kc ks pc' L' st) : G E F t Q n σ h kc ks pc L (.int x :: st) := by
  subst hp
  intro H locs ls a1 a3 a4 a5
  exact lv_istore C.1 C.2.1 hd a5 hn hL (fun ls' a5' => k H locs ls' a1 a3 a4 a5')
theorem g_istore_n {j : Fin 4} {x : Int32} (pc' : Nat) (L' : List (Nat × Value)) (C : gC E F t) (hd : decode (gCode t) pc = .ok (.istore_n j, 1)) (hn : (j : Nat) < gMax t) (hL : gset (j : Nat) (.int x) L = L') (hp : pc + 1 = pc') (k : G E F t Q n σ h kc ks pc' L' st) : G E F t Q n σ h kc ks pc L (.int x :: st) := by
  subst hp
  intro H locs ls a1 a3 a4 a5
  exact lv_istore_n C.1 C.2.1 hd rfl a5 hn hL (fun ls' a5' => k H locs ls' a1 a3 a4 a5')
theorem g_astore {i : Nat} {x : Nat} (pc' : Nat) (L' : List (Nat × Value)) (C : gC E F t) (hd : decode (gCode t) pc = .ok (.astore i, 2)) (hn : i < gMax t) (hL : gset i (.ref x) L = L') (hp : pc + 2 = pc') (k : G E F t Q n σ h kc ks pc' L' st) : G E F t Q n σ h kc ks pc L (.ref x :: st) := by
  subst hp
  intro H locs ls a1 a3 a4 a5
  exact lv_astore C.1 C.2.1 hd a5 hn hL (fun ls' a5' => k H locs ls' a1 a3 a4 a5')
theorem g_astore_n {j : Fin 4} {x : Nat} (pc' : Nat) (L' : List (Nat × Value)) (C : gC E F t) (hd : decode (gCode t) pc = .ok (.astore_n j, 1)) (hn : (j : Nat) < gMax t) (hL : gset (j : Nat) (.ref x) L = L') (hp : pc + 1 = pc') (k : G E F t Q n σ h kc ks pc' L' st) : G E F t Q n σ h kc ks pc L (.ref x :: st) := by
  subst hp
  intro H locs ls a1 a3 a4 a5
  exact lv_astore_n C.1 C.2.1 hd rfl a5 hn hL (fun ls' a5' => k H locs ls' a1 a3 a4 a5')
theorem g_lstore {i : Nat} {x : Int64} (pc' : Nat) (L' : List (Nat × Value)) (C : gC E F t) (hd : decode (gCode t) pc = .ok (.lstore i, 2)) (hn : i + 1 < gMax t) (hL : gset2 i (.long x) L = L') (hp : pc + 2 = pc') (k : G E F t Q n σ h kc ks pc' L' st) : G E F t Q n σ h kc ks pc L (.long x :: st) := by
  subst hp
  intro H locs ls a1 a3 a4 a5
  exact lv_lstore C.1 C.2.1 hd a5 hn hL (fun ls' a5' => k H locs ls' a1 a3 a4 a5')
theorem g_lstore_n {j : Fin 4} {x : Int64} (pc' : Nat) (L' : List (Nat × Value)) (C : gC E F t) (hd : decode (gCode t) pc = .ok (.lstore_n j, 1)) (hn : (j : Nat) + 1 < gMax t) (hL : gset2 (j : Nat) (.long x) L = L') (hp : pc + 1 = pc') (k : G E F t Q n σ h kc ks pc' L' st) : G E F t Q n σ h kc ks pc L (.long x :: st) := by
  subst hp
  intro H locs ls a1 a3 a4 a5
  exact lv_lstore_n C.1 C.2.1 hd rfl a5 hn hL (fun ls' a5' => k H locs ls' a1 a3 a4 a5')
theorem g_dstore {i : Nat} {x : UInt64} (pc' : Nat) (L' : List (Nat × Value)) (C : gC E F t) (hd : decode (gCode t) pc = .ok (.dstore i, 2)) (hn : i + 1 < gMax t) (hL : gset2 i (.double x) L = L') (hp : pc + 2 = pc') (k : G E F t Q n σ h kc ks pc' L' st) : G E F t Q n σ h kc ks pc L (.double x :: st) := by
  subst hp
  intro H locs ls a1 a3 a4 a5
  exact lv_dstore C.1 C.2.1 hd a5 hn hL (fun ls' a5' => k H locs ls' a1 a3 a4 a5')
theorem g_dstore_n {j : Fin 4} {x : UInt64} (pc' : Nat) (L' : List (Nat × Value)) (C : gC E F t) (hd : decode (gCode t) pc = .ok (.dstore_n j, 1)) (hn : (j : Nat) + 1 < gMax t) (hL : gset2 (j : Nat) (.double x) L = L') (hp : pc + 1 = pc') (k : G E F t Q n σ h kc ks pc' L' st) : G E F t Q n σ h kc ks pc L (.double x :: st) := by
  subst hp
  intro H locs ls a1 a3 a4 a5
  exact lv_dstore_n C.1 C.2.1 hd rfl a5 hn hL (fun ls' a5' => k H locs ls' a1 a3 a4 a5')
theorem g_iinc {i : Nat} {x d : Int} (pc' : Nat) (L' : List (Nat × Value)) (C : gC E F t) (hd : decode (gCode t) pc = .ok (.iinc i d, 3)) (hl : L.lookup i = some (.int (gi x))) (hn : i < gMax t) (hL : gset i (.int (gi (x + d))) L = L') (hp : pc + 3 = pc') (k : G E F t Q n σ h kc ks pc' L' st) : G E F t Q n σ h kc ks pc L st := by
  subst hp
  intro H locs ls a1 a3 a4 a5
  obtain ⟨k9, hk9⟩ := List.getElem?_of_mem (gl_mem hl)
  exact lv_iinc C.1 C.2.1 hd a5 hk9 (gi_add x d) hn hL (fun ls' a5' => k H locs ls' a1 a3 a4 a5')
theorem g_iconst {d : Int} (pc' : Nat) (C : gC E F t) (hd : decode (gCode t) pc = .ok (.iconst d, 1)) (hp : pc + 1 = pc') (k : G E F t Q n σ h kc ks pc' L (.int (gi d) :: st)) : G E F t Q n σ h kc ks pc L st := by
  subst hp
  intro H locs ls a1 a3 a4 a5
  exact lv_iconst C.1 C.2.1 hd rfl (k H locs ls a1 a3 a4 a5)
theorem g_bipush {d : Int} (pc' : Nat) (C : gC E F t) (hd : decode (gCode t) pc = .ok (.bipush d, 2)) (hv : (Int8.ofInt d).toInt32 = gi d) (hp : pc + 2 = pc') (k : G E F t Q n σ h kc ks pc' L (.int (gi d) :: st)) : G E F t Q n σ h kc ks pc L st := by
  subst hp
  intro H locs ls a1 a3 a4 a5
  exact lv_bipush C.1 C.2.1 hd hv (k H locs ls a1 a3 a4 a5)
theorem g_sipush {d : Int} (pc' : Nat) (C : gC E F t) (hd : decode (gCode t) pc = .ok (.sipush d, 3)) (hv : (Int16.ofInt d).toInt32 = gi d) (hp : pc + 3 = pc') (k : G E F t Q n σ h kc ks pc' L (.int (gi d) :: st)) : G E F t Q n σ h kc ks pc L st := by
  subst hp
  intro H locs ls a1 a3 a4 a5
  exact lv_sipush C.1 C.2.1 hd hv (k H locs ls a1 a3 a4 a5)
theorem g_lconst {d : Fin 2} (pc' : Nat) (C : gC E F t) (hd : decode (gCode t) pc = .ok (.lconst d, 1)) (hp : pc + 1 = pc') (k : G E F t Q n σ h kc ks pc' L (.long (Int64.ofNat (d : Nat)) :: st)) : G E F t Q n σ h kc ks pc L st := by
  subst hp
  intro H locs ls a1 a3 a4 a5
  exact lv_lconst C.1 C.2.1 hd rfl (k H locs ls a1 a3 a4 a5)
theorem g_ldc2l {v : Int64} {index : Nat} (pc' : Nat) (C : gC E F t) (hd : decode (gCode t) pc = .ok (.ldc2_w index, 3)) (hc : Cond.constantLong t.1.cls index v ∈ wsG) (hp : pc + 3 = pc') (k : G E F t Q n σ h kc ks pc' L (.long v :: st)) : G E F t Q n σ h kc ks pc L st := by
  subst hp
  intro H locs ls a1 a3 a4 a5
  exact lv_ldc2 C.1 C.2.1 C.2.2.2.1 (C.2.2.2.2.1 _ hc) hd (k H locs ls a1 a3 a4 a5)
theorem g_ldc2d {v : UInt64} {index : Nat} (pc' : Nat) (C : gC E F t) (hd : decode (gCode t) pc = .ok (.ldc2_w index, 3)) (hc : Cond.constantDouble t.1.cls index v ∈ wsG) (hp : pc + 3 = pc') (k : G E F t Q n σ h kc ks pc' L (.double v :: st)) : G E F t Q n σ h kc ks pc L st := by
  subst hp
  intro H locs ls a1 a3 a4 a5
  exact lv_ldc2d C.1 C.2.1 C.2.2.2.1 (C.2.2.2.2.1 _ hc) hd (k H locs ls a1 a3 a4 a5)
theorem g_iadd {x y : Int} (pc' : Nat) (C : gC E F t) (hd : decode (gCode t) pc = .ok (.iadd, 1)) (hp : pc + 1 = pc') (k : G E F t Q n σ h kc ks pc' L (.int (gi (x + y)) :: st)) : G E F t Q n σ h kc ks pc L (.int (gi y) :: .int (gi x) :: st) := by
  subst hp
  intro H locs ls a1 a3 a4 a5
  exact lv_iadd C.1 C.2.1 hd (by rw [gi_add]; exact k H locs ls a1 a3 a4 a5)
theorem g_isub {x y : Int} (pc' : Nat) (C : gC E F t) (hd : decode (gCode t) pc = .ok (.isub, 1)) (hp : pc + 1 = pc') (k : G E F t Q n σ h kc ks pc' L (.int (gi (x - y)) :: st)) : G E F t Q n σ h kc ks pc L (.int (gi y) :: .int (gi x) :: st) := by
  subst hp
  intro H locs ls a1 a3 a4 a5
  exact lv_isub C.1 C.2.1 hd (by rw [gi_sub]; exact k H locs ls a1 a3 a4 a5)
theorem g_imul {x y : Int} (pc' : Nat) (C : gC E F t) (hd : decode (gCode t) pc = .ok (.imul, 1)) (hp : pc + 1 = pc') (k : G E F t Q n σ h kc ks pc' L (.int (gi (x * y)) :: st)) : G E F t Q n σ h kc ks pc L (.int (gi y) :: .int (gi x) :: st) := by
  subst hp
  intro H locs ls a1 a3 a4 a5
  exact lv_imul C.1 C.2.1 hd (by rw [gi_mul]; exact k H locs ls a1 a3 a4 a5)
theorem g_idiv {x y : Int} (pc' : Nat) (C : gC E F t) (hd : decode (gCode t) pc = .ok (.idiv, 1)) (hx : 0 ≤ x ∧ x < 2147483648) (hy : 0 < y ∧ y < 2147483648) (hp : pc + 1 = pc') (k : G E F t Q n σ h kc ks pc' L (.int (gi (x / y)) :: st)) : G E F t Q n σ h kc ks pc L (.int (gi y) :: .int (gi x) :: st) := by
  subst hp
  intro H locs ls a1 a3 a4 a5
  exact lv_idiv C.1 C.2.1 hd (by rw [gi_0, gi_eq (by omega) (by omega)]; omega) (by rw [gi_div hx hy]; exact k H locs ls a1 a3 a4 a5)
theorem g_irem {x y : Int} (pc' : Nat) (C : gC E F t) (hd : decode (gCode t) pc = .ok (.irem, 1)) (hx : 0 ≤ x ∧ x < 2147483648) (hy : 0 < y ∧ y < 2147483648) (hp : pc + 1 = pc') (k : G E F t Q n σ h kc ks pc' L (.int (gi (x % y)) :: st)) : G E F t Q n σ h kc ks pc L (.int (gi y) :: .int (gi x) :: st) := by
  subst hp
  intro H locs ls a1 a3 a4 a5
  exact lv_irem C.1 C.2.1 hd (by rw [gi_0, gi_eq (by omega) (by omega)]; omega) (by rw [gi_rem hx hy]; exact k H locs ls a1 a3 a4 a5)
theorem g_iand {x y v : Int32} (pc' : Nat) (C : gC E F t) (hd : decode (gCode t) pc = .ok (.iand, 1)) (hv : x &&& y = v) (hp : pc + 1 = pc') (k : G E F t Q n σ h kc ks pc' L (.int v :: st)) : G E F t Q n σ h kc ks pc L (.int y :: .int x :: st) := by
  subst hp
  subst hv
  intro H locs ls a1 a3 a4 a5
  exact lv_iand C.1 C.2.1 hd (k H locs ls a1 a3 a4 a5)
theorem g_ior {x y v : Int32} (pc' : Nat) (C : gC E F t) (hd : decode (gCode t) pc = .ok (.ior, 1)) (hv : x ||| y = v) (hp : pc + 1 = pc') (k : G E F t Q n σ h kc ks pc' L (.int v :: st)) : G E F t Q n σ h kc ks pc L (.int y :: .int x :: st) := by
  subst hp
  subst hv
  intro H locs ls a1 a3 a4 a5
  exact lv_ior C.1 C.2.1 hd (k H locs ls a1 a3 a4 a5)
theorem g_ladd {x y : Int64} (pc' : Nat) (C : gC E F t) (hd : decode (gCode t) pc = .ok (.ladd, 1)) (hp : pc + 1 = pc') (k : G E F t Q n σ h kc ks pc' L (.long (x + y) :: st)) : G E F t Q n σ h kc ks pc L (.long y :: .long x :: st) := by
  subst hp
  intro H locs ls a1 a3 a4 a5
  exact lv_ladd C.1 C.2.1 hd (k H locs ls a1 a3 a4 a5)
theorem g_lsub {x y : Int64} (pc' : Nat) (C : gC E F t) (hd : decode (gCode t) pc = .ok (.lsub, 1)) (hp : pc + 1 = pc') (k : G E F t Q n σ h kc ks pc' L (.long (x - y) :: st)) : G E F t Q n σ h kc ks pc L (.long y :: .long x :: st) := by
  subst hp
  intro H locs ls a1 a3 a4 a5
  exact lv_lsub C.1 C.2.1 hd (k H locs ls a1 a3 a4 a5)
theorem g_lmul {x y : Int64} (pc' : Nat) (C : gC E F t) (hd : decode (gCode t) pc = .ok (.lmul, 1)) (hp : pc + 1 = pc') (k : G E F t Q n σ h kc ks pc' L (.long (x * y) :: st)) : G E F t Q n σ h kc ks pc L (.long y :: .long x :: st) := by
  subst hp
  intro H locs ls a1 a3 a4 a5
  exact lv_lmul C.1 C.2.1 hd (k H locs ls a1 a3 a4 a5)
theorem g_lcmp {x y : Int64} (pc' : Nat) (C : gC E F t) (hd : decode (gCode t) pc = .ok (.lcmp, 1)) (hp : pc + 1 = pc') (k : G E F t Q n σ h kc ks pc' L (.int (lg_cmp x y) :: st)) : G E F t Q n σ h kc ks pc L (.long y :: .long x :: st) := by
  subst hp
  intro H locs ls a1 a3 a4 a5
  exact W.lcmp C.1 C.2.1 hd (k H locs ls a1 a3 a4 a5)
theorem g_i2l {x : Int32} (pc' : Nat) (C : gC E F t) (hd : decode (gCode t) pc = .ok (.i2l, 1)) (hp : pc + 1 = pc') (k : G E F t Q n σ h kc ks pc' L (.long x.toInt64 :: st)) : G E F t Q n σ h kc ks pc L (.int x :: st) := by
  subst hp
  intro H locs ls a1 a3 a4 a5
  exact lv_i2l C.1 C.2.1 hd rfl (k H locs ls a1 a3 a4 a5)
theorem g_dup {v : Value} (pc' : Nat) (C : gC E F t) (hd : decode (gCode t) pc = .ok (.dup, 1)) (hv : v.category = 1) (hp : pc + 1 = pc') (k : G E F t Q n σ h kc ks pc' L (v :: v :: st)) : G E F t Q n σ h kc ks pc L (v :: st) := by
  subst hp
  intro H locs ls a1 a3 a4 a5
  exact lv_dup C.1 C.2.1 hd hv (k H locs ls a1 a3 a4 a5)
theorem g_pop {v : Value} (pc' : Nat) (C : gC E F t) (hd : decode (gCode t) pc = .ok (.pop, 1)) (hv : v.category = 1) (hp : pc + 1 = pc') (k : G E F t Q n σ h kc ks pc' L st) : G E F t Q n σ h kc ks pc L (v :: st) := by
  subst hp
  intro H locs ls a1 a3 a4 a5
  exact lv_pop C.1 C.2.1 hd hv (k H locs ls a1 a3 a4 a5)
theorem g_dup2 {v u : Value} (pc' : Nat) (C : gC E F t) (hd : decode (gCode t) pc = .ok (.dup2, 1)) (hv : v.category = 1) (hu : u.category = 1) (hp : pc + 1 = pc') (k : G E F t Q n σ h kc ks pc' L (v :: u :: v :: u :: st)) : G E F t Q n σ h kc ks pc L (v :: u :: st) := by
  subst hp
  intro H locs ls a1 a3 a4 a5
  exact lv_dup2_11 C.1 C.2.1 hd hv hu (k H locs ls a1 a3 a4 a5)
theorem g_goto {off : Int} (pc' : Nat) (C : gC E F t) (hd : decode (gCode t) pc = .ok (.goto off, 3)) (hp : (pc : Int) + off = (pc' : Int)) (k : G E F t Q n σ h kc ks pc' L st) : G E F t Q n σ h kc ks pc L st := by
  intro H locs ls a1 a3 a4 a5
  exact lv_goto C.1 C.2.1 hd hp (k H locs ls a1 a3 a4 a5)
/-- another list of locals, a nearer form of the same heap -/
theorem g_loc (L' : List (Nat × Value)) (hL : gSub L L') (k : G E F t Q n σ h kc ks pc L' st) : G E F t Q n σ h kc ks pc L st := fun H locs ls a1 a3 a4 a5 => k H locs ls a1 a3 a4 (gSub_has a5 L' hL)
theorem g_icmp_eq {x y : Int} {off : Int} (tgt pc' : Nat) (C : gC E F t) (hd : decode (gCode t) pc = .ok (.if_icmp .eq off, 3)) (ht : (pc : Int) + off = (tgt : Int)) (hp : pc + 3 = pc') (hx : -2147483648 ≤ x ∧ x < 2147483648) (hy : -2147483648 ≤ y ∧ y < 2147483648) (kt : x = y → G E F t Q n σ h kc ks tgt L st) (kf : ¬ x = y → G E F t Q n σ h kc ks pc' L st) : G E F t Q n σ h kc ks pc L (.int (gi y) :: .int (gi x) :: st) := by
  subst hp
  intro H locs ls a1 a3 a4 a5
  exact lv_icmp_eq C.1 C.2.1 hd ht (fun z => kt ((gi_eq hx hy).mp z) H locs ls a1 a3 a4 a5) (fun z => kf (fun z9 => z ((gi_eq hx hy).mpr z9)) H locs ls a1 a3 a4 a5)
theorem g_if_eq {x : Int} {off : Int} (tgt pc' : Nat) (C : gC E F t) (hd : decode (gCode t) pc = .ok (.ifCond .eq off, 3)) (ht : (pc : Int) + off = (tgt : Int)) (hp : pc + 3 = pc') (hx : -2147483648 ≤ x ∧ x < 2147483648) (kt : x = 0 → G E F t Q n σ h kc ks tgt L st) (kf : ¬ x = 0 → G E F t Q n σ h kc ks pc' L st) : G E F t Q n σ h kc ks pc L (.int (gi x) :: st) := by
  subst hp
  intro H locs ls a1 a3 a4 a5
  exact lv_if_eq C.1 C.2.1 hd ht (fun z => kt ((gi_eq hx (y := 0) (by decide)).mp z) H locs ls a1 a3 a4 a5) (fun z => kf (fun z9 => z ((gi_eq hx (y := 0) (by decide)).mpr z9)) H locs ls a1 a3 a4 a5)
theorem g_icmp_ne {x y : Int} {off : Int} (tgt pc' : Nat) (C : gC E F t) (hd : decode (gCode t) pc = .ok (.if_icmp .ne off, 3)) (ht : (pc : Int) + off = (tgt : Int)) (hp : pc + 3 = pc') (hx : -2147483648 ≤ x ∧ x < 2147483648) (hy : -2147483648 ≤ y ∧ y < 2147483648) (kt : ¬ x = y → G E F t Q n σ h kc ks tgt L st) (kf : x = y → G E F t Q n σ h kc ks pc' L st) : G E F t Q n σ h kc ks pc L (.int (gi y) :: .int (gi x) :: st) := by
  subst hp
  intro H locs ls a1 a3 a4 a5
  exact lv_icmp_ne C.1 C.2.1 hd ht (fun z => kt (fun z9 => z ((gi_eq hx hy).mpr z9)) H locs ls a1 a3 a4 a5) (fun z => kf ((gi_eq hx hy).mp z) H locs ls a1 a3 a4 a5)
theorem g_if_ne {x : Int} {off : Int} (tgt pc' : Nat) (C : gC E F t) (hd : decode (gCode t) pc = .ok (.ifCond .ne off, 3)) (ht : (pc : Int) + off = (tgt : Int)) (hp : pc + 3 = pc') (hx : -2147483648 ≤ x ∧ x < 2147483648) (kt : ¬ x = 0 → G E F t Q n σ h kc ks tgt L st) (kf : x = 0 → G E F t Q n σ h kc ks pc' L st) : G E F t Q n σ h kc ks pc L (.int (gi x) :: st) := by
  subst hp
  intro H locs ls a1 a3 a4 a5
  exact lv_if_ne C.1 C.2.1 hd ht (fun z => kt (fun z9 => z ((gi_eq hx (y := 0) (by decide)).mpr z9)) H locs ls a1 a3 a4 a5) (fun z => kf ((gi_eq hx (y := 0) (by decide)).mp z) H locs ls a1 a3 a4 a5)
theorem g_icmp_lt {x y : Int} {off : Int} (tgt pc' : Nat) (C : gC E F t) (hd : decode (gCode t) pc = .ok (.if_icmp .lt off, 3)) (ht : (pc : Int) + off = (tgt : Int)) (hp : pc + 3 = pc') (hx : -2147483648 ≤ x ∧ x < 2147483648) (hy : -2147483648 ≤ y ∧ y < 2147483648) (kt : x < y → G E F t Q n σ h kc ks tgt L st) (kf : ¬ x < y → G E F t Q n σ h kc ks pc' L st) : G E F t Q n σ h kc ks pc L (.int (gi y) :: .int (gi x) :: st) := by
  subst hp
  intro H locs ls a1 a3 a4 a5
  exact lv_icmp_lt C.1 C.2.1 hd ht (fun z => kt ((gi_lt hx hy).mp z) H locs ls a1 a3 a4 a5) (fun z => kf (fun z9 => z ((gi_lt hx hy).mpr z9)) H locs ls a1 a3 a4 a5)
theorem g_if_lt {x : Int} {off : Int} (tgt pc' : Nat) (C : gC E F t) (hd : decode (gCode t) pc = .ok (.ifCond .lt off, 3)) (ht : (pc : Int) + off = (tgt : Int)) (hp : pc + 3 = pc') (hx : -2147483648 ≤ x ∧ x < 2147483648) (kt : x < 0 → G E F t Q n σ h kc ks tgt L st) (kf : ¬ x < 0 → G E F t Q n σ h kc ks pc' L st) : G E F t Q n σ h kc ks pc L (.int (gi x) :: st) := by
  subst hp
  intro H locs ls a1 a3 a4 a5
  exact lv_if_lt C.1 C.2.1 hd ht (fun z => kt ((gi_lt hx (y := 0) (by decide)).mp z) H locs ls a1 a3 a4 a5) (fun z => kf (fun z9 => z ((gi_lt hx (y := 0) (by decide)).mpr z9)) H locs ls a1 a3 a4 a5)
theorem g_icmp_le {x y : Int} {off : Int} (tgt pc' : Nat) (C : gC E F t) (hd : decode (gCode t) pc = .ok (.if_icmp .le off, 3)) (ht : (pc : Int) + off = (tgt : Int)) (hp : pc + 3 = pc') (hx : -2147483648 ≤ x ∧ x < 2147483648) (hy : -2147483648 ≤ y ∧ y < 2147483648) (kt : x ≤ y → G E F t Q n σ h kc ks tgt L st) (kf : ¬ x ≤ y → G E F t Q n σ h kc ks pc' L st) : G E F t Q n σ h kc ks pc L (.int (gi y) :: .int (gi x) :: st) := by
  subst hp
  intro H locs ls a1 a3 a4 a5
  exact lv_icmp_le C.1 C.2.1 hd ht (fun z => kt ((gi_le hx hy).mp z) H locs ls a1 a3 a4 a5) (fun z => kf (fun z9 => z ((gi_le hx hy).mpr z9)) H locs ls a1 a3 a4 a5)
theorem g_if_le {x : Int} {off : Int} (tgt pc' : Nat) (C : gC E F t) (hd : decode (gCode t) pc = .ok (.ifCond .le off, 3)) (ht : (pc : Int) + off = (tgt : Int)) (hp : pc + 3 = pc') (hx : -2147483648 ≤ x ∧ x < 2147483648) (kt : x ≤ 0 → G E F t Q n σ h kc ks tgt L st) (kf : ¬ x ≤ 0 → G E F t Q n σ h kc ks pc' L st) : G E F t Q n σ h kc ks pc L (.int (gi x) :: st) := by
  subst hp
  intro H locs ls a1 a3 a4 a5
  exact lv_if_le C.1 C.2.1 hd ht (fun z => kt ((gi_le hx (y := 0) (by decide)).mp z) H locs ls a1 a3 a4 a5) (fun z => kf (fun z9 => z ((gi_le hx (y := 0) (by decide)).mpr z9)) H locs ls a1 a3 a4 a5)
theorem g_icmp_gt {x y : Int} {off : Int} (tgt pc' : Nat) (C : gC E F t) (hd : decode (gCode t) pc = .ok (.if_icmp .gt off, 3)) (ht : (pc : Int) + off = (tgt : Int)) (hp : pc + 3 = pc') (hx : -2147483648 ≤ x ∧ x < 2147483648) (hy : -2147483648 ≤ y ∧ y < 2147483648) (kt : y < x → G E F t Q n σ h kc ks tgt L st) (kf : ¬ y < x → G E F t Q n σ h kc ks pc' L st) : G E F t Q n σ h kc ks pc L (.int (gi y) :: .int (gi x) :: st) := by
  subst hp
  intro H locs ls a1 a3 a4 a5
  exact lv_icmp_gt C.1 C.2.1 hd ht (fun z => kt ((gi_lt hy hx).mp z) H locs ls a1 a3 a4 a5) (fun z => kf (fun z9 => z ((gi_lt hy hx).mpr z9)) H locs ls a1 a3 a4 a5)
theorem g_if_gt {x : Int} {off : Int} (tgt pc' : Nat) (C : gC E F t) (hd : decode (gCode t) pc = .ok (.ifCond .gt off, 3)) (ht : (pc : Int) + off = (tgt : Int)) (hp : pc + 3 = pc') (hx : -2147483648 ≤ x ∧ x < 2147483648) (kt : 0 < x → G E F t Q n σ h kc ks tgt L st) (kf : ¬ 0 < x → G E F t Q n σ h kc ks pc' L st) : G E F t Q n σ h kc ks pc L (.int (gi x) :: st) := by
  subst hp
  intro H locs ls a1 a3 a4 a5
  exact lv_if_gt C.1 C.2.1 hd ht (fun z => kt ((gi_lt (x := 0) (by decide) hx).mp z) H locs ls a1 a3 a4 a5) (fun z => kf (fun z9 => z ((gi_lt (x := 0) (by decide) hx).mpr z9)) H locs ls a1 a3 a4 a5)
theorem g_icmp_ge {x y : Int} {off : Int} (tgt pc' : Nat) (C : gC E F t) (hd : decode (gCode t) pc = .ok (.if_icmp .ge off, 3)) (ht : (pc : Int) + off = (tgt : Int)) (hp : pc + 3 = pc') (hx : -2147483648 ≤ x ∧ x < 2147483648) (hy : -2147483648 ≤ y ∧ y < 2147483648) (kt : y ≤ x → G E F t Q n σ h kc ks tgt L st) (kf : ¬ y ≤ x → G E F t Q n σ h kc ks pc' L st) : G E F t Q n σ h kc ks pc L (.int (gi y) :: .int (gi x) :: st) := by
  subst hp
  intro H locs ls a1 a3 a4 a5
  exact lv_icmp_ge C.1 C.2.1 hd ht (fun z => kt ((gi_le hy hx).mp z) H locs ls a1 a3 a4 a5) (fun z => kf (fun z9 => z ((gi_le hy hx).mpr z9)) H locs ls a1 a3 a4 a5)
theorem g_if_ge {x : Int} {off : Int} (tgt pc' : Nat) (C : gC E F t) (hd : decode (gCode t) pc = .ok (.ifCond .ge off, 3)) (ht : (pc : Int) + off = (tgt : Int)) (hp : pc + 3 = pc') (hx : -2147483648 ≤ x ∧ x < 2147483648) (kt : 0 ≤ x → G E F t Q n σ h kc ks tgt L st) (kf : ¬ 0 ≤ x → G E F t Q n σ h kc ks pc' L st) : G E F t Q n σ h kc ks pc L (.int (gi x) :: st) := by
  subst hp
  intro H locs ls a1 a3 a4 a5
  exact lv_if_ge C.1 C.2.1 hd ht (fun z => kt ((gi_le (x := 0) (by decide) hx).mp z) H locs ls a1 a3 a4 a5) (fun z => kf (fun z9 => z ((gi_le (x := 0) (by decide) hx).mpr z9)) H locs ls a1 a3 a4 a5)
theorem g_table {dflt lo hi : Int} {offs : Array Int} {len : Nat} {x off : Int} (tgt : Nat) (C : gC E F t) (hd : decode (gCode t) pc = .ok (.tableswitch dflt lo hi offs, len)) (hx : -2147483648 ≤ x ∧ x < 2147483648) (h1 : lo ≤ x) (h2 : x ≤ hi) (ho : offs[(x - lo).toNat]? = some off) (ht : (pc : Int) + off = (tgt : Int)) (k : G E F t Q n σ h kc ks tgt L st) : G E F t Q n σ h kc ks pc L (.int (gi x) :: st) := by
  intro H locs ls a1 a3 a4 a5
  exact lv_tableIn C.1 C.2.1 hd (by rw [gi_toInt hx]; omega) (by rw [gi_toInt hx]; omega) (by rw [gi_toInt hx]; exact ho) ht (k H locs ls a1 a3 a4 a5)
theorem g_tableD {dflt lo hi : Int} {offs : Array Int} {len : Nat} {x : Int} (tgt : Nat) (C : gC E F t) (hd : decode (gCode t) pc = .ok (.tableswitch dflt lo hi offs, len)) (hx : -2147483648 ≤ x ∧ x < 2147483648) (h1 : x < lo ∨ hi < x) (ht : (pc : Int) + dflt = (tgt : Int)) (k : G E F t Q n σ h kc ks tgt L st) : G E F t Q n σ h kc ks pc L (.int (gi x) :: st) := by
  intro H locs ls a1 a3 a4 a5
  exact lv_tableOut C.1 C.2.1 hd (by rw [gi_toInt hx]; exact h1) ht (k H locs ls a1 a3 a4 a5)
theorem g_lookup {dflt : Int} {ps : Array (Int × Int)} {len : Nat} {x off : Int} (tgt : Nat) (C : gC E F t) (hd : decode (gCode t) pc = .ok (.lookupswitch dflt ps, len)) (hx : -2147483648 ≤ x ∧ x < 2147483648) (hs : (ps.toList.zip (ps.toList.drop 1)).all (fun (a, next) => a.1 < next.1) = true) (ho : Op.lookupswitch.offset ps.toList dflt x = off) (ht : (pc : Int) + off = (tgt : Int)) (k : G E F t Q n σ h kc ks tgt L st) : G E F t Q n σ h kc ks pc L (.int (gi x) :: st) := by
  intro H locs ls a1 a3 a4 a5
  exact lv_lookup C.1 C.2.1 hd hs (by rw [gi_toInt hx]; exact ho) ht (k H locs ls a1 a3 a4 a5)
theorem g_getf {own : String} {index ci j q : Nat} {fs : List Value} {v : Value} (pc' : Nat) (C : gC E F t) (hd : decode (gCode t) pc = .ok (.getfield index, 3)) (fl : gFl own index ci j) (ho : t.1.cls = own) (hb : gB E ≤ q ∧ q < gB E + n) (hq : h q = gO ci fs) (hv : fs[j]? = some v) (hp : pc + 3 = pc') (k : G E F t Q n σ h kc ks pc' L (v :: st)) : G E F t Q n σ h kc ks pc L (.ref q :: st) := by
  subst hp
  subst ho
  intro H locs ls a1 a3 a4 a5
  obtain ⟨T1, T2, T3, f1, f2, f3, f4⟩ := fl
  exact va_get C.1 C.2.1 C.2.2.2.2.1 f3 C.2.2.2.1 C.2.2.2.2.2.1.1 a3 (q - gB E) (by rw [gws_get hb.1 hb.2, hq]; rfl) f1 j f2 (C.2.2.2.2.1 _ f4) (fun _ z => z) hv hd (k H locs ls a1 a3 a4 a5)
theorem g_putf {own : String} {index ci j q : Nat} {ty : FieldType} {fs : List Value} {v : Value} (pc' : Nat) (C : gC E F t) (hd : decode (gCode t) pc = .ok (.putfield index, 3)) (fl : gFp own index ci j ty false) (ho : t.1.cls = own) (hb : gB E ≤ q ∧ q < gB E + n) (hq : h q = gO ci fs) (hn : narrow ty v = v) (hf : fits ty v = true) (hj : j < fs.length) (hp : pc + 3 = pc') (k : G E F t Q n σ (va_up h q (gO ci (fs.set j v))) kc ks pc' L st) : G E F t Q n σ h kc ks pc L (v :: .ref q :: st) := by
  subst hp
  subst ho
  intro H locs ls a1 a3 a4 a5
  obtain ⟨T1, T2, T3, f1, f2, f3, f4, ⟨ty0, f5⟩, f6, f7, -, f8⟩ := fl
  have hK := C.2.2.2.2.2.1.1
  have he : (gws (gB E) n h)[q - gB E]? = some (q, .inr (ci, fs)) := by rw [gws_get hb.1 hb.2, hq]; rfl
  have hap := va_apart (own := t.1.cls) C.2.2.2.2.1 f3 ty0 f5 f6 hK f1
  obtain ⟨r, h1, cell, q1, q2, q3, q4⟩ := a3 (q - gB E) _ he
  have hr : r = (T1, T2, T3) := Option.some.inj (h1.symm.trans f1)
  subst hr
  obtain ⟨hS, hfc, kC, hkC, hkind⟩ := hK.1 ci _ f1
  obtain ⟨cf, kf, fi, f, hi, hsl⟩ := hS j f2
  have hlay := C.2.2.2.2.1 _ (f3 _ (u_in_lay f2))
  unfold u_lay at hlay
  rw [if_neg (by rw [f7]; decide)] at hlay
  have hst := (u_facts hfc hkC (u_lays C.2.2.2.2.1 f3 f2) hi).1
  have h6 := u_store hfc hkC hkind hlay hi f8 hn hf
  refine W.putK C.1 C.2.1 (f := f) ⟨C.2.2.2.1, C.2.2.2.2.1 _ f4, ⟨_, _, _, hi⟩, hst⟩ (by rw [q2]; exact h6) q1 q3 (by rw [hsl]; exact k2_hasslot (q4 j f2)) rfl rfl hd fun H' e1 e2 e3 => ?_
  rw [hsl] at e1 ⊢
  have hP' := va_P.set a3 gws_D he (e := .inr (ci, fs.set j v)) ⟨_, f1, t_OB.to (V := updV (vp_V fs) j v) ⟨_, e1, q2, q3, t_set q4 hap f2 v⟩ (fun z _ => vp_updV_set hj v z)⟩ e3
  rw [gws_set hb.1 hb.2] at hP'
  exact k H' _ ls (gS_eq a1 e2) hP' (a4.put e2 e3 hb.1) a5

theorem g_putF {own : String} {index ci j q : Nat} {ty : FieldType} {fs : List Value} {v : Value} (pc' : Nat) (C : gC E F t) (hd : decode (gCode t) pc = .ok (.putfield index, 3)) (fl : gFp own index ci j ty true) (ho : t.1.cls = own) (hnm : t.1.name = "<init>") (hb : gB E ≤ q ∧ q < gB E + n) (hq : h q = gO ci fs) (hn : narrow ty v = v) (hf : fits ty v = true) (hj : j < fs.length) (hp : pc + 3 = pc') (k : G E F t Q n σ (va_up h q (gO ci (fs.set j v))) kc ks pc' L st) : G E F t Q n σ h kc ks pc L (v :: .ref q :: st) := by
  subst hp
  subst ho
  intro H locs ls a1 a3 a4 a5
  obtain ⟨T1, T2, T3, f1, f2, f3, f4, ⟨ty0, f5⟩, f6, f7, f9, f8⟩ := fl
  have hK := C.2.2.2.2.2.1.1
  have he : (gws (gB E) n h)[q - gB E]? = some (q, .inr (ci, fs)) := by rw [gws_get hb.1 hb.2, hq]; rfl
  have hap := va_apart (own := t.1.cls) C.2.2.2.2.1 f3 ty0 f5 f6 hK f1
  obtain ⟨r, h1, cell, q1, q2, q3, q4⟩ := a3 (q - gB E) _ he
  have hr : r = (T1, T2, T3) := Option.some.inj (h1.symm.trans f1)
  subst hr
  obtain ⟨hS, hfc, kC, hkC, hkind⟩ := hK.1 ci _ f1
  obtain ⟨cf, kf, fi, f, hi, hsl⟩ := hS j f2
  have hlay := C.2.2.2.2.1 _ (f3 _ (u_in_lay f2))
  unfold u_lay at hlay
  rw [if_pos f7] at hlay
  have hst := (u_facts hfc hkC (u_lays C.2.2.2.2.1 f3 f2) hi).1
  have hcf : F.2.2.2.1.cls = cf := by
    obtain ⟨_, _, c', _, _, _, -, -, hf', -, -, -, hown2, -⟩ := Cond.laysFinal_spec hlay
    have e1 : c' = cf := by have := hi.symm.trans hf'; simp at this; exact this.1.symm
    rw [f9 rfl] at hown2
    rw [← e1]; exact Option.some.inj (C.2.2.2.1.symm.trans hown2)
  have h6 := u_fits hfc hkC hkind (Or.inr hlay) hi f8 hn hf
  refine W.putFinK C.1 C.2.1 C.2.2.2.1 (C.2.2.2.2.1 _ f4) hi hst hcf (C.2.2.2.2.2.2.2.2.2.2.trans hnm) (by rw [q2]; exact h6) q1 q3 (by rw [hsl]; exact k2_hasslot (q4 j f2)) rfl rfl hd fun H' e1 e2 e3 => ?_
  rw [hsl] at e1 ⊢
  have hP' := va_P.set a3 gws_D he (e := .inr (ci, fs.set j v)) ⟨_, f1, t_OB.to (V := updV (vp_V fs) j v) ⟨_, e1, q2, q3, t_set q4 hap f2 v⟩ (fun z _ => vp_updV_set hj v z)⟩ e3
  rw [gws_set hb.1 hb.2] at hP'
  exact k H' _ ls (gS_eq a1 e2) hP' (a4.put e2 e3 hb.1) a5
theorem g_iald {q m : Nat} {i : Int} {f : Int → Int} (pc' : Nat) (C : gC E F t) (hd : decode (gCode t) pc = .ok (.iaload, 1)) (hb : gB E ≤ q ∧ q < gB E + n) (hq : h q = gI E m f) (hi : 0 ≤ i ∧ i < (m : Int)) (hm : m < 2147483648) (hp : pc + 1 = pc') (k : G E F t Q n σ h kc ks pc' L (.int (gi (f i)) :: st)) : G E F t Q n σ h kc ks pc L (.int (gi i) :: .ref q :: st) := by
  subst hp
  intro H locs ls a1 a3 a4 a5
  refine va_iald (f := fun j => gi (f (j : Int))) (n := m) C.1 C.2.1 C.2.2.2.2.2.1.1 a3 (q - gB E) 0 (by rw [gws_get hb.1 hb.2, hq]; rfl) rfl (gi_in hi hm) hd ?_
  rw [gi_clamp hi.1 (by omega), Int.toNat_of_nonneg hi.1]
  exact k H locs ls a1 a3 a4 a5
theorem g_lald {q m : Nat} {i : Int} {f : Int → Int64} (pc' : Nat) (C : gC E F t) (hd : decode (gCode t) pc = .ok (.laload, 1)) (hb : gB E ≤ q ∧ q < gB E + n) (hq : h q = gJ E m f) (hi : 0 ≤ i ∧ i < (m : Int)) (hm : m < 2147483648) (hp : pc + 1 = pc') (k : G E F t Q n σ h kc ks pc' L (.long (f i) :: st)) : G E F t Q n σ h kc ks pc L (.int (gi i) :: .ref q :: st) := by
  subst hp
  intro H locs ls a1 a3 a4 a5
  refine va_lald (f := fun j => f (j : Int)) (n := m) C.1 C.2.1 C.2.2.2.2.2.1.1 a3 (q - gB E) 5 (by rw [gws_get hb.1 hb.2, hq]; rfl) rfl (gi_in hi hm) hd ?_
  rw [gi_clamp hi.1 (by omega), Int.toNat_of_nonneg hi.1]
  exact k H locs ls a1 a3 a4 a5
/-- a reference out of a row: c is the row's place among the arrays' classes -/
theorem g_aald {q m c a : Nat} {i : Int} {f : Int → Option Nat} {ty : FieldType} (pc' : Nat) (C : gC E F t) (hd : decode (gCode t) pc = .ok (.aaload, 1)) (hb : gB E ≤ q ∧ q < gB E + n) (hq : h q = gR E c m f) (hty : (gTys E)[c]? = some (E.2.2.1 c, ty)) (hr : ty.isReference = true) (hi : 0 ≤ i ∧ i < (m : Int)) (hm : m < 2147483648) (ha : f i = some a) (hp : pc + 1 = pc') (k : G E F t Q n σ h kc ks pc' L (.ref a :: st)) : G E F t Q n σ h kc ks pc L (.int (gi i) :: .ref q :: st) := by
  subst hp
  intro H locs ls a1 a3 a4 a5
  have hin := gi_in hi hm
  have hcl := gi_clamp hi.1 (show i < 2147483648 by omega)
  have hlt : (gi i).toNatClampNeg < m := by rw [hcl]; omega
  have hcell : H[q]? = some (vp_cell (E.2.2.1 c) (m, .inr (.inr (.inr (.inr (fun j => f (j : Int))))))) := a3 (q - gB E) (q, .inl (E.2.2.1 c, m, .inr (.inr (.inr (.inr (fun j => f (j : Int))))))) (by rw [gws_get hb.1 hb.2, hq]; rfl)
  refine W.aald (v := .ref a) (ty := ty) C.1 C.2.1 hcell ((C.2.2.2.2.2.1.1.2 c _ hty).1 m (fun j => va_rf (f (j : Int)))) hr (fun q => by cases q) (by show ¬ (gi i < 0 ∨ (arrV _ _ _).slots.size ≤ _); rw [arrV_size]; exact hin) (by show (arrV _ _ _).slots[_]? = _; rw [arrV_read _ _ hlt, hcl]; show some (va_rf (f ((i.toNat : Nat) : Int))) = _; rw [Int.toNat_of_nonneg hi.1, ha]; rfl) rfl rfl hd (k H locs ls a1 a3 a4 a5)
theorem g_alen {q m : Nat} {x : vp_A} {c : Nat} {ty : FieldType} (pc' : Nat) (C : gC E F t) (hd : decode (gCode t) pc = .ok (.arraylength, 1)) (hb : gB E ≤ q ∧ q < gB E + n) (hq : h q = .inl (E.2.2.1 c, x)) (hty : (gTys E)[c]? = some (E.2.2.1 c, ty)) (hx : x.1 = m) (hp : pc + 1 = pc') (k : G E F t Q n σ h kc ks pc' L (.int (gi (m : Int)) :: st)) : G E F t Q n σ h kc ks pc L (.ref q :: st) := by
  subst hp
  subst hx
  intro H locs ls a1 a3 a4 a5
  exact va_alen C.1 C.2.1 C.2.2.2.2.2.1.1 a3 (q - gB E) c (by rw [gws_get hb.1 hb.2, hq]) hty (v := gi (x.1 : Int)) (Int32.ofInt_eq_ofNat (n := x.1)).symm hd (k H locs ls a1 a3 a4 a5)
theorem gup_nat {f : Int → Int} {i x : Int} (hi : 0 ≤ i) : upd (fun j => gi (f (j : Int))) i.toNat (gi x) = fun j : Nat => gi (gup f i x (j : Int)) := by
  funext j
  unfold upd gup
  by_cases hj : j = i.toNat
  · rw [if_pos hj, if_pos (by omega)]
  · rw [if_neg hj, if_neg (by omega)]
theorem g_iast {q m : Nat} {i x : Int} {f : Int → Int} (pc' : Nat) (C : gC E F t) (hd : decode (gCode t) pc = .ok (.iastore, 1)) (hb : gB E ≤ q ∧ q < gB E + n) (hq : h q = gI E m f) (hi : 0 ≤ i ∧ i < (m : Int)) (hm : m < 2147483648) (hp : pc + 1 = pc') (k : G E F t Q n σ (va_up h q (gI E m (gup f i x))) kc ks pc' L st) : G E F t Q n σ h kc ks pc L (.int (gi x) :: .int (gi i) :: .ref q :: st) := by
  subst hp
  intro H locs ls a1 a3 a4 a5
  have he : (gws (gB E) n h)[q - gB E]? = some (q, .inl (E.2.2.1 0, m, .inl (fun j => gi (f (j : Int))))) := by rw [gws_get hb.1 hb.2, hq]; rfl
  refine W.iast C.1 C.2.1 (a3 (q - gB E) _ he) ((C.2.2.2.2.2.1.1.2 0 _ rfl).1 m (fun j => .int (gi (f (j : Int))))) (fun q => by cases q) (by show ¬ (gi i < 0 ∨ (arrV _ _ _).slots.size ≤ _); rw [arrV_size]; exact gi_in hi hm) rfl rfl hd fun H1 e z oq => ?_
  have hP' := va_P.set a3 gws_D he (e := gI E m (gup f i x)) (by
    show H1[q]? = some (vp_cell _ _)
    rw [e]
    show some ((vp_cell _ (m, .inl (fun j => gi (f (j : Int))))).setSlot _ _) = some (vp_cell _ (m, .inl (fun j : Nat => gi (gup f i x (j : Int)))))
    rw [← gup_nat hi.1, vp_cell_i, vp_cell_i, arrV_store, gi_clamp hi.1 (by omega)]
    congr 2
    funext z9
    by_cases hz : z9 = i.toNat
    · subst hz
      simp [updV, upd]
    · simp [updV, upd, hz]) oq
  rw [gws_set hb.1 hb.2] at hP'
  exact k H1 _ ls (gS_eq a1 z) hP' (a4.put z oq hb.1) a5
theorem g_last {q m : Nat} {i : Int} {x : Int64} {f : Int → Int64} (pc' : Nat) (C : gC E F t) (hd : decode (gCode t) pc = .ok (.lastore, 1)) (hb : gB E ≤ q ∧ q < gB E + n) (hq : h q = gJ E m f) (hi : 0 ≤ i ∧ i < (m : Int)) (hm : m < 2147483648) (hp : pc + 1 = pc') (k : G E F t Q n σ (va_up h q (gJ E m (gup f i x))) kc ks pc' L st) : G E F t Q n σ h kc ks pc L (.long x :: .int (gi i) :: .ref q :: st) := by
  subst hp
  intro H locs ls a1 a3 a4 a5
  have he : (gws (gB E) n h)[q - gB E]? = some (q, .inl (E.2.2.1 5, m, .inr (.inl (fun j => f (j : Int))))) := by rw [gws_get hb.1 hb.2, hq]; rfl
  refine W.last C.1 C.2.1 (a3 (q - gB E) _ he) ((C.2.2.2.2.2.1.1.2 5 _ rfl).1 m (fun j => .long (f (j : Int)))) (fun q => by cases q) (by show ¬ (gi i < 0 ∨ (arrV _ _ _).slots.size ≤ _); rw [arrV_size]; exact gi_in hi hm) rfl rfl hd fun H1 e z oq => ?_
  have hP' := va_P.set a3 gws_D he (e := gJ E m (gup f i x)) (by
    show H1[q]? = some (arrV _ m (fun j : Nat => Value.long (gup f i x (j : Int))))
    rw [e]
    show some ((arrV _ m (fun j : Nat => Value.long (f (j : Int)))).setSlot _ _) = _
    rw [arrV_store, gi_clamp hi.1 (by omega)]
    congr 2
    funext z9
    unfold updV gup
    by_cases hz : z9 = i.toNat
    · rw [if_pos hz, if_pos (by omega)]
    · rw [if_neg hz, if_neg (by omega)]) oq
  rw [gws_set hb.1 hb.2] at hP'
  exact k H1 _ ls (gS_eq a1 z) hP' (a4.put z oq hb.1) a5

theorem g_aast {q m c a ci : Nat} {i : Int} {f : Int → Option Nat} {r : vw_C} {vs : List Value} (pc' : Nat) (C : gC E F t) (hd : decode (gCode t) pc = .ok (.aastore, 1)) (hb : gB E ≤ q ∧ q < gB E + n) (hq : h q = gR E c m f) (hty : (gTys E)[c]? = some (E.2.2.1 c, .object r.1)) (hba : gB E ≤ a ∧ a < gB E + n) (ha : h a = gO ci vs) (hc : vwCl[ci]? = some r) (hi : 0 ≤ i ∧ i < (m : Int)) (hm : m < 2147483648) (hp : pc + 1 = pc') (k : G E F t Q n σ (va_up h q (gR E c m (gup f i (some a)))) kc ks pc' L st) : G E F t Q n σ h kc ks pc L (.ref a :: .int (gi i) :: .ref q :: st) := by
  subst hp
  intro H locs ls a1 a3 a4 a5
  have hcl := gi_clamp hi.1 (show i < 2147483648 by omega)
  have he : (gws (gB E) n h)[q - gB E]? = some (q, .inl (E.2.2.1 c, m, .inr (.inr (.inr (.inr (fun j => f (j : Int))))))) := by rw [gws_get hb.1 hb.2, hq]; rfl
  obtain ⟨r', hr', cellV, g1, g2, g3, -⟩ := a3 (a - gB E) (a, .inr (ci, vs)) (by rw [gws_get hba.1 hba.2, ha]; rfl)
  have hcls := (C.2.2.2.2.2.1.1.1 ci r hc).2
  obtain ⟨kA, comp, k1, k2, k3, -⟩ := (C.2.2.2.2.2.1.1.2 c _ hty).2
  have hcomp : comp = E.2.1.1 ci := Option.some.inj (k3.symm.trans hcls.1)
  subst hcomp
  obtain ⟨kC, hkC, -⟩ := hcls.2
  have hin := gi_in hi hm
  have h0 : ¬ gi i < 0 := fun q => hin (Or.inl q)
  have hlt : (gi i).toNatClampNeg < m := Nat.not_le.mp fun q => hin (Or.inr q)
  refine W.aast C.1 C.2.1 (a3 (q - gB E) _ he) (fun q h => by cases h) (fun h => by cases h) k1 k2 rfl hkC ⟨h0, by show _ < (arrV _ _ _).slots.size; rw [arrV_size]; exact hlt⟩ g1 (fun q h => by rw [g3] at h; cases h) (by rw [g2]; exact hkC) (by rw [g2]; exact va_assign hcls) rfl rfl hd fun H1 e z oq => ?_
  have hP' := va_P.set a3 gws_D he (e := gR E c m (gup f i (some a))) (by
    show H1[q]? = some (arrV _ m (fun j : Nat => va_rf (gup f i (some a) (j : Int))))
    rw [e]
    show some ((arrV _ m (fun j : Nat => va_rf (f (j : Int)))).setSlot _ _) = _
    rw [arrV_store, hcl]
    congr 2
    funext z9
    unfold updV gup
    by_cases hz : z9 = i.toNat
    · rw [if_pos hz, if_pos (by omega)]
      rfl
    · rw [if_neg hz, if_neg (by omega)]) oq
  rw [gws_set hb.1 hb.2] at hP'
  exact k H1 _ ls (gS_eq a1 z) hP' (a4.put z oq hb.1) a5
theorem gP_push {H H1 : Heap} {e : va_E} (h1 : gP E n h H) (hz : H.size = gB E + n) (hk : ∀ x : Nat, x < H.size → H1[x]? = H[x]?) (he : va_at E.2.1 vwCl (gB E + n, e) H1) : gP E (n + 1) (va_up h (gB E + n) e) H1 := by
  intro k q hq
  obtain ⟨hk1, rfl⟩ := gws_of hq
  by_cases hkn : k = n
  · subst hkn
    simp only [va_up, if_true]
    exact he
  · have h2 := h1 (gB E + k - gB E) (gB E + k, h (gB E + k)) (gws_get (by omega) (by omega))
    rw [show va_up h (gB E + n) e (gB E + k) = h (gB E + k) by unfold va_up; rw [if_neg (by omega)]]
    exact h2.kept (hk _ (by omega))
theorem gS_push {H1 : Heap} (hz : H1.size = gB E + n + 1) : gS (some (gB E + (n + 1))) H1 := fun z hz' => by cases hz'; omega
theorem gK_arr {U : State} {c : Nat} {cA : ClassId} {ty : FieldType} (hK : va_K E.2.1 vwCl (gTys E) U) (hty : (gTys E)[c]? = some (E.2.2.1 c, ty)) (hf : U.vm.findClass ("[" ++ ty.toString) = some cA) : cA = E.2.2.1 c := by
  have h2 := (hK.2 c _ hty).2
  cases ty with
  | object C =>
    obtain ⟨kA, comp, h1, h3, h4, h5⟩ := h2
    exact Option.some.inj (hf.symm.trans h5)
  | _ => exact Option.some.inj (hf.symm.trans h2)
theorem g_new {own : String} {index ci N : Nat} {fs : List Value} (pc' : Nat) (C : gC E F t) (hd : decode (gCode t) pc = .ok (.new index, 3)) (hw : gNw own index ci N fs) (ho : t.1.cls = own) (hk1 : kc + 1 ≤ gMc t) (hk2 : ks + N ≤ gMs t) (hp : pc + 3 = pc') (k : G E F t Q (n + 1) (some (gB E + (n + 1))) (va_up h (gB E + n) (gO ci fs)) (kc + 1) (ks + N) pc' L (.ref (gB E + n) :: st)) : G E F t Q n (some (gB E + n)) h kc ks pc L st := by
  subst hp
  subst ho
  intro H locs ls a1 a3 a4 a5
  obtain ⟨C1, T1, ty, w1, w2, w3, w4, w5, w6, w7⟩ := hw
  have hz := a1 _ rfl
  have hKn := C.2.2.2.2.2.1.1.1 ci _ w1
  refine W.newcK C.1 C.2.1 C.2.2.2.1 (C.2.2.2.2.1 _ w4) (C.2.2.2.2.1 _ w5) (C.2.2.2.2.1 _ w6) rfl hd hk1 hk2 hKn.2.1 rfl fun H1 kC hkC e1 z1 o1 => ?_
  rw [hz] at e1 z1 ⊢
  exact k H1 _ ls (gS_push z1) (gP_push a3 hz o1 ⟨_, w1, (u_born ty C.2.2.2.2.1 w2 hKn hkC e1 w3).to w7⟩) ⟨Nat.le_trans a4.1 (by omega), fun x h1 h2 => (o1 x (Nat.lt_of_lt_of_le h1 a4.1)).trans (a4.2.1 x h1 h2), a4.2.2⟩ a5
theorem g_newai {m : Nat} {d : Int} (pc' : Nat) (C : gC E F t) (hd : decode (gCode t) pc = .ok (.newarray .int, 2)) (hm : d = (m : Int) ∧ m < 10000) (hk1 : kc + 1 ≤ gMc t) (hk2 : ks + m ≤ gMs t) (hp : pc + 2 = pc') (k : G E F t Q (n + 1) (some (gB E + (n + 1))) (va_up h (gB E + n) (gI E m (fun _ => 0))) (kc + 1) (ks + m) pc' L (.ref (gB E + n) :: st)) : G E F t Q n (some (gB E + n)) h kc ks pc L (.int (gi d) :: st) := by
  subst hp
  obtain ⟨rfl, hm⟩ := hm
  intro H locs ls a1 a3 a4 a5
  have hz := a1 _ rfl
  refine va_newaK C.1 C.2.1 (atype := .int) (C.2.2.2.2.1 _ gw_ai) rfl hd rfl (by rw [gi_0, gi_lt (by omega) (by omega)]; omega) (N := m) (by rw [gi_clamp (by omega) (by omega)]; omega) (by show m * 4 ≤ _; omega) hk1 hk2 hz fun H1 cA e1 z1 o1 f1 f2 => ?_
  have hcA := gK_arr (c := 0) C.2.2.2.2.2.1.1 rfl f2
  subst hcA
  exact k H1 _ ls (gS_push z1) (gP_push a3 hz (by rw [hz]; exact o1) e1) ⟨Nat.le_trans a4.1 (by omega), fun x h1 h2 => (o1 x (by have := a4.1; omega)).trans (a4.2.1 x h1 h2), a4.2.2⟩ a5
theorem g_newal {m : Nat} {d : Int} (pc' : Nat) (C : gC E F t) (hd : decode (gCode t) pc = .ok (.newarray .long, 2)) (hm : d = (m : Int) ∧ m < 10000) (hk1 : kc + 1 ≤ gMc t) (hk2 : ks + m ≤ gMs t) (hp : pc + 2 = pc') (k : G E F t Q (n + 1) (some (gB E + (n + 1))) (va_up h (gB E + n) (gJ E m (fun _ => 0))) (kc + 1) (ks + m) pc' L (.ref (gB E + n) :: st)) : G E F t Q n (some (gB E + n)) h kc ks pc L (.int (gi d) :: st) := by
  subst hp
  obtain ⟨rfl, hm⟩ := hm
  intro H locs ls a1 a3 a4 a5
  have hz := a1 _ rfl
  refine va_newaK C.1 C.2.1 (atype := .long) (C.2.2.2.2.1 _ gw_al) rfl hd rfl (by rw [gi_0, gi_lt (by omega) (by omega)]; omega) (N := m) (by rw [gi_clamp (by omega) (by omega)]; omega) (by show m * 8 ≤ _; omega) hk1 hk2 hz fun H1 cA e1 z1 o1 f1 f2 => ?_
  have hcA := gK_arr (c := 5) C.2.2.2.2.2.1.1 rfl f2
  subst hcA
  exact k H1 _ ls (gS_push z1) (gP_push a3 hz (by rw [hz]; exact o1) e1) ⟨Nat.le_trans a4.1 (by omega), fun x h1 h2 => (o1 x (by have := a4.1; omega)).trans (a4.2.1 x h1 h2), a4.2.2⟩ a5
theorem g_anewa {own cn : String} {m c index : Nat} {d : Int} (pc' : Nat) (C : gC E F t) (hd : decode (gCode t) pc = .ok (.anewarray index, 3)) (ho : t.1.cls = own) (hw1 : Cond.classLink own index cn ∈ wsG) (hw2 : va_AO cn F.2.2.1) (hty : (gTys E)[c]? = some (E.2.2.1 c, .object cn)) (hm : d = (m : Int) ∧ m < 10000) (hk1 : kc + 1 ≤ gMc t) (hk2 : ks + m ≤ gMs t) (hp : pc + 3 = pc') (k : G E F t Q (n + 1) (some (gB E + (n + 1))) (va_up h (gB E + n) (gR E c m (fun _ => none))) (kc + 1) (ks + m) pc' L (.ref (gB E + n) :: st)) : G E F t Q n (some (gB E + n)) h kc ks pc L (.int (gi d) :: st) := by
  subst hp
  subst ho
  obtain ⟨rfl, hm⟩ := hm
  intro H locs ls a1 a3 a4 a5
  have hz := a1 _ rfl
  have hcl : (gi (m : Int)).toNatClampNeg = m := by rw [gi_clamp (by omega) (by omega)]; omega
  refine W.anew C.1 C.2.1 C.2.2.2.1 (C.2.2.2.2.1 _ hw1) (va_AO.use hw2) rfl hd rfl (by rw [gi_0, gi_lt (by omega) (by omega)]; omega) (by rw [hcl]; omega) hk1 (by rw [hcl]; exact hk2) fun cA kA comp f1 f2 f3 f4 => ?_
  have hcA := gK_arr C.2.2.2.2.2.1.1 hty f1
  subst hcA
  rw [hcl]
  generalize hH1 : H.push ({ cls := E.2.2.1 c, slots := Array.replicate m .null, vm := .none } : Cell) = H1
  have z1 : H1.size = H.size + 1 := by rw [← hH1, Array.size_push]
  have e1 : H1[H.size]? = some (arrV (E.2.2.1 c) m (fun _ => .null)) := by rw [← hH1, Array.getElem?_push_size, ← arrV_new]
  have o1 : ∀ q : Nat, q < H.size → H1[q]? = H[q]? := fun q hq => by rw [← hH1, Array.getElem?_push, if_neg (Nat.ne_of_lt hq)]
  rw [hz] at z1 e1 ⊢
  exact k H1 _ ls (gS_push z1) (gP_push a3 hz o1 e1) ⟨Nat.le_trans a4.1 (by omega), fun x h1 h2 => (o1 x (Nat.lt_of_lt_of_le h1 a4.1)).trans (a4.2.1 x h1 h2), a4.2.2⟩ a5
theorem g_objInit {own : String} {index q : Nat} (pc' : Nat) (C : gC E F t) (hd : decode (gCode t) pc = .ok (.invokespecial index, 3)) (ho : t.1.cls = own) (hw : Cond.methodLink own index objectInit ∈ wsG) (hfr : 1 ≤ gFrs t) (hlo : (st.map fun v => v.category).sum + 12 ≤ gLo t) (hp : pc + 3 = pc') (k : G E F t Q n σ h kc ks pc' L st) : G E F t Q n σ h kc ks pc L (.ref q :: st) := by
  subst hp
  subst ho
  intro H locs ls a1 a3 a4 a5
  exact W.objInit C.1 C.2.1 C.2.2.2.1 (C.2.2.2.2.1 _ hw) (C.2.2.2.2.1 _ gw_oi) (C.2.2.2.2.1 _ gw_oc) rfl (a5.1.trans C.2.2.1.symm) rfl hd hfr (by show 2 * 0 + (st.map fun v => v.category).sum + 12 ≤ gLo t; omega) (k H locs ls a1 a3 a4 a5)
theorem g_max {own : String} {index : Nat} {x y : Int} (pc' : Nat) (C : gC E F t) (hd : decode (gCode t) pc = .ok (.invokestatic index, 3)) (ho : t.1.cls = own) (hw : Cond.methodLink own index Lib.Math.max.name ∈ wsG) (hfr : 1 ≤ gFrs t) (hlo : (st.map fun v => v.category).sum + 13 ≤ gLo t) (hk1 : kc ≤ gMc t) (hk2 : ks ≤ gMs t) (hx : -2147483648 ≤ x ∧ x < 2147483648) (hy : -2147483648 ≤ y ∧ y < 2147483648) (hp : pc + 3 = pc') (k : G E F t Q n σ h kc ks pc' L (.int (gi (if x < y then y else x)) :: st)) : G E F t Q n σ h kc ks pc L (.int (gi y) :: .int (gi x) :: st) := by
  subst hp
  subst ho
  intro H locs ls a1 a3 a4 a5
  refine va_mmax C.1 C.2.1 (C.2.2.1.trans a5.1.symm) C.2.2.2.1 (C.2.2.2.2.1 _ hw) (C.2.2.2.2.1 _ gw_mx1) (C.2.2.2.2.1 _ gw_mx2) (C.2.2.2.2.1 _ gw_mx3) hfr hlo hk1 hk2 hd ?_
  have e : (if gi x < gi y then gi y else gi x) = gi (if x < y then y else x) := by
    by_cases hc : x < y
    · rw [if_pos hc, if_pos ((gi_lt hx hy).mpr hc)]
    · rw [if_neg hc, if_neg (fun z => hc ((gi_lt hx hy).mp z))]
  rw [e]
  exact k H locs ls a1 a3 a4 a5
theorem g_min {own : String} {index : Nat} {x y : Int} (pc' : Nat) (C : gC E F t) (hd : decode (gCode t) pc = .ok (.invokestatic index, 3)) (ho : t.1.cls = own) (hw : Cond.methodLink own index Lib.Math.min.name ∈ wsG) (hfr : 1 ≤ gFrs t) (hlo : (st.map fun v => v.category).sum + 13 ≤ gLo t) (hk1 : kc ≤ gMc t) (hk2 : ks ≤ gMs t) (hx : -2147483648 ≤ x ∧ x < 2147483648) (hy : -2147483648 ≤ y ∧ y < 2147483648) (hp : pc + 3 = pc') (k : G E F t Q n σ h kc ks pc' L (.int (gi (if y < x then y else x)) :: st)) : G E F t Q n σ h kc ks pc L (.int (gi y) :: .int (gi x) :: st) := by
  subst hp
  subst ho
  intro H locs ls a1 a3 a4 a5
  refine va_mmin C.1 C.2.1 (C.2.2.1.trans a5.1.symm) C.2.2.2.1 (C.2.2.2.2.1 _ hw) (C.2.2.2.2.1 _ gw_mn1) (C.2.2.2.2.1 _ gw_mx2) (C.2.2.2.2.1 _ gw_mn3) hfr hlo hk1 hk2 hd ?_
  have e : (if gi y < gi x then gi y else gi x) = gi (if y < x then y else x) := by
    by_cases hc : y < x
    · rw [if_pos hc, if_pos ((gi_lt hy hx).mpr hc)]
    · rw [if_neg hc, if_neg (fun z => hc ((gi_lt hy hx).mp z))]
  rw [e]
  exact k H locs ls a1 a3 a4 a5
/-- System.arraycopy of int rows -/
def gcpy (f g : Int → Int) (sp dp m : Int) : Int → Int := fun j => if dp ≤ j ∧ j < dp + m then f (sp + (j - dp)) else g j
theorem g_copy {own : String} {index q0 q1 m0 m1 : Nat} {f g : Int → Int} {sp dp m : Int} (pc' : Nat) (C : gC E F t) (hd : decode (gCode t) pc = .ok (.invokestatic index, 3)) (ho : t.1.cls = own) (hw : Cond.methodLink own index arraycopyName ∈ wsG) (hb0 : gB E ≤ q0 ∧ q0 < gB E + n) (hq0 : h q0 = gI E m0 f) (hb1 : gB E ≤ q1 ∧ q1 < gB E + n) (hq1 : h q1 = gI E m1 g) (h1 : 0 ≤ sp) (h2 : 0 ≤ dp) (h3 : 0 ≤ m) (h4 : sp + m ≤ (m0 : Int)) (h5 : dp + m ≤ (m1 : Int)) (hm : m0 < 2147483648 ∧ m1 < 2147483648) (hfr : 1 ≤ gFrs t) (hlo : (st.map fun v => v.category).sum + (nativeFrameWords "java/lang/System" "arraycopy" 5 + 11) ≤ gLo t) (hp : pc + 3 = pc') (k : G E F t Q n none (va_up h q1 (gI E m1 (gcpy f g sp dp m))) kc ks pc' L st) : G E F t Q n none h kc ks pc L (.int (gi m) :: .int (gi dp) :: .ref q1 :: .int (gi sp) :: .ref q0 :: st) := by
  subst hp
  subst ho
  intro H locs ls a1 a3 a4 a5
  have c1 := gi_clamp h1 (show sp < 2147483648 by omega)
  have c2 := gi_clamp h2 (show dp < 2147483648 by omega)
  have c3 := gi_clamp h3 (show m < 2147483648 by omega)
  refine va_copyi C.1 C.2.1 (C.2.2.1.trans a5.1.symm) C.2.2.2.1 (C.2.2.2.2.1 _ hw) (C.2.2.2.2.1 _ gw_cp1) (C.2.2.2.2.1 _ gw_cp2) (C.2.2.2.2.1 _ gw_cp3) C.2.2.2.2.2.1.1 a3 gws_D a4 (q0 - gB E) (q1 - gB E) 0 0 (f := fun j => gi (f (j : Int))) (g := fun j => gi (g (j : Int))) (n0 := m0) (n1 := m1) (ty := .int) (by rw [gws_get hb0.1 hb0.2, hq0]; rfl) (by rw [gws_get hb1.1 hb1.2, hq1]; rfl) rfl rfl rfl (by rw [gi_0, gi_lt (by omega) (by omega)]; omega) (by rw [gi_0, gi_lt (by omega) (by omega)]; omega) (by rw [gi_0, gi_lt (by omega) (by omega)]; omega) (by rw [c1, c3]; omega) (by rw [c2, c3]; omega) (fun _ _ => rfl) hfr hlo hd (fun H1 locs1 b1 b2 b3 => ?_)
  rw [gws_set hb1.1 hb1.2, c1, c2, c3] at b1
  have e : (va_cpy (fun j : Nat => gi (f (j : Int))) (fun j : Nat => gi (g (j : Int))) sp.toNat dp.toNat m.toNat) = fun j : Nat => gi (gcpy f g sp dp m (j : Int)) := by
    funext j
    unfold va_cpy gcpy
    by_cases hj : dp ≤ (j : Int) ∧ (j : Int) < dp + m
    · rw [if_pos hj, if_pos (by omega)]
      show gi (f _) = gi (f _)
      congr 2
      omega
    · rw [if_neg hj, if_neg (by omega)]
  rw [e] at b1
  exact k H1 locs1 ls (fun z hz => by cases hz) b1 b3 a5
theorem g_mnewa {own : String} {m c index : Nat} {d d2 : Int} {m2 : Nat} (pc' : Nat) (C : gC E F t) (hd : decode (gCode t) pc = .ok (.multianewarray index 2, 4)) (ho : t.1.cls = own) (hw1 : Cond.classLink own index "[[I" ∈ wsG) (hm : d = (m : Int) ∧ m < 10000) (hm2 : d2 = (m2 : Int) ∧ m2 < 10000) (hk1 : kc + (1 + m) ≤ gMc t) (hk2 : ks + (m + m * m2) ≤ gMs t) (hp : pc + 4 = pc')
    (k : ∀ h' : gH, h' (gB E + n) = gR E 1 m (fun j => if j < (m : Int) then some (gB E + n + 1 + j.toNat) else none) → (∀ j : Nat, j < m → h' (gB E + n + 1 + j) = gI E m2 (fun _ => 0)) → (∀ q, q < gB E + n → h' q = h q) → G E F t Q (n + 1 + m) (some (gB E + (n + 1 + m))) h' (kc + 1 + m) (ks + m + m * m2) pc' L (.ref (gB E + n) :: st)) : G E F t Q n (some (gB E + n)) h kc ks pc L (.int (gi d2) :: .int (gi d) :: st) := by
  subst hp
  subst ho
  obtain ⟨rfl, hm⟩ := hm
  obtain ⟨rfl, hm2⟩ := hm2
  intro H locs ls a1 a3 a4 a5
  have hz := a1 _ rfl
  have c1 : (gi (m : Int)).toNatClampNeg = m := by rw [gi_clamp (by omega) (by omega)]; omega
  have c2 : (gi (m2 : Int)).toNatClampNeg = m2 := by rw [gi_clamp (by omega) (by omega)]; omega
  intro T hT Xs
  have hb2 : (gi (m2 : Int)).toNatClampNeg * componentBytes .int ≤ 536870912 := by rw [c2]; show m2 * 4 ≤ _; omega
  obtain ⟨vm₁, cA, comp, -, fA, fC, hO, -, X', step⟩ := Xs.multianewarray2F C.1 C.2.2.2.1 (ty := .int) (C.2.2.2.2.1 _ hw1) C.2.2.2.2.2.1.2.2.2.2.2.2.2.2.2.2.2.1 (C.2.2.2.2.1 _ gw_ai) (g := F0 F.2.2.2.1 pc ls (.int (gi (m2 : Int)) :: .int (gi (m : Int)) :: st)) rfl (by rw [C.2.1]; exact hd) rfl (by rw [gi_0, gi_lt (by omega) (by omega)]; omega) (by rw [gi_0, gi_lt (by omega) (by omega)]; omega) (by rw [c1]; omega) hb2 (by rw [c2]; omega) rfl rfl (by rw [c1]; exact hk1) (by rw [c1, c2]; exact hk2)
  have e1 : cA = E.2.2.1 1 := gK_arr (c := 1) C.2.2.2.2.2.1.1 rfl fA
  have e2 : comp = E.2.2.1 0 := gK_arr (c := 0) C.2.2.2.2.2.1.1 rfl fC
  subst e1
  subst e2
  rw [c1, c2] at X' step
  generalize hF : Jvm.Free.Multi.fill (T.setVm vm₁) (E.2.2.1 1) (E.2.2.1 0) m m2 (defaultValue .int) m = F9 at X' step
  have hTh : (T.setVm vm₁).heap = H := hT
  obtain ⟨f1, f2, -, -⟩ := Jvm.Free.Multi.fill_facts (T.setVm vm₁) (E.2.2.1 1) (E.2.2.1 0) m m2 (defaultValue .int) m
  rw [hF, hTh] at f1 f2
  have hold : ∀ x : Nat, x < H.size → F9.heap[x]? = H[x]? := fun x hx => by
    have := Jvm.Free.Multi.fill_old (T.setVm vm₁) (E.2.2.1 1) (E.2.2.1 0) m m2 (defaultValue .int) (a := x) (by rw [hTh]; exact hx) m
    rw [hF, hTh] at this
    exact this
  have hrow : ∀ j : Nat, j < m → F9.heap[H.size + 1 + j]? = some (arrV (E.2.2.1 0) m2 (fun _ => .int 0)) := fun j hj => by
    have := Jvm.Free.Multi.fill_inner (T.setVm vm₁) (E.2.2.1 1) (E.2.2.1 0) m m2 (defaultValue .int) m j hj
    rw [hF, hTh] at this
    rw [this]
    exact congrArg some (arrV_new _ _ _)
  have hout : Jvm.Free.Multi.outerC (E.2.2.1 1) m H.size m = arrV (E.2.2.1 1) m (fun i => va_rf (if i < m then some (H.size + 1 + i) else none)) := vr_outer _ m H.size m
  rw [hout] at f2
  let h' : gH := fun q => if q < gB E + n then h q else if q = gB E + n then gR E 1 m (fun j => if j < (m : Int) then some (gB E + n + 1 + j.toNat) else none) else gI E m2 (fun _ => 0)
  have g1 : h' (gB E + n) = gR E 1 m (fun j => if j < (m : Int) then some (gB E + n + 1 + j.toNat) else none) := by
    show (if gB E + n < gB E + n then _ else _) = _
    rw [if_neg (by omega), if_pos rfl]
  have g2 : ∀ j : Nat, j < m → h' (gB E + n + 1 + j) = gI E m2 (fun _ => 0) := fun j hj => by
    show (if gB E + n + 1 + j < gB E + n then _ else _) = _
    rw [if_neg (by omega), if_neg (by omega)]
  have g3 : ∀ q, q < gB E + n → h' q = h q := fun q hq => if_pos hq
  have hP' : gP E (n + 1 + m) h' F9.heap := by
    intro i q hq
    obtain ⟨hi, rfl⟩ := gws_of hq
    by_cases hin : i < n
    · rw [g3 _ (by omega)]
      have h2 := a3 (gB E + i - gB E) (gB E + i, h (gB E + i)) (gws_get (by omega) (by omega))
      exact h2.kept (hold _ (by rw [hz]; omega))
    · by_cases hin2 : i = n
      · subst hin2
        rw [g1]
        show F9.heap[gB E + i]? = some (arrV (E.2.2.1 1) m (fun j : Nat => va_rf (if (j : Int) < (m : Int) then some (gB E + i + 1 + (j : Int).toNat) else none)))
        rw [← hz, f2, hz]
        congr 2
        funext j
        by_cases hj : j < m
        · rw [if_pos hj, if_pos (by omega)]
          simp
        · rw [if_neg hj, if_neg (by omega)]
      · obtain ⟨j, rfl⟩ : ∃ j, i = n + 1 + j := ⟨i - (n + 1), by omega⟩
        have e9 : gB E + (n + 1 + j) = gB E + n + 1 + j := by omega
        rw [e9, g2 j (by omega)]
        show F9.heap[gB E + n + 1 + j]? = some (arrV (E.2.2.1 0) m2 (fun _ => .int (gi 0)))
        rw [← hz]
        exact hrow j (by omega)
  have hsz : F9.heap.size = gB E + (n + 1 + m) := by rw [f1, hz]; omega
  obtain ⟨t2, b1, b2⟩ := k h' g1 g2 g3 F9.heap locs ls (fun z hz' => by cases hz'; exact hsz) hP' ⟨by rw [hsz]; have := a4.1; omega, fun x h1 h2 => (hold x (Nat.lt_of_lt_of_le h1 a4.1)).trans (a4.2.1 x h1 h2), a4.2.2⟩ a5 F9 rfl X'
  refine ⟨t2, step t2 ?_, b2⟩
  have e : T.heap.size = gB E + n := by rw [hT]; exact hz
  rw [e]
  exact b1


/-- a throw that goes on to the caller, where the frame's end allows it -/
def gThr (E : gEnv) (F : gFr) (t : gMt) (n : Nat) (Q : State → Prop) (X : String) (h' : gH) : Prop := ∃ (QR0 : gQt) (QX0 : String → gH → Prop), Q = gQ E F t n QR0 QX0 ∧ QX0 X h'
theorem gW_blind {av : List Value} : FrameBlind (va_Pc av (gW E n σ h)) := fun a U g mk q => by
  obtain ⟨q0, q1, q2, q3, q4⟩ := q
  exact ⟨q0, q1, q2, q3, gX_same q4 rfl rfl⟩
theorem gW_at {av : List Value} {H : Heap} {locs : List Loc} (C : gC E F t) (a1 : gS σ H) (a3 : gP E n h H) (a4 : va_S (gA E) F.2.2.1.heap H locs) : ∀ U : State, U.heap = H → F.2.2.1.WarmedH U.vm → va_Pc av (gW E n σ h) av.toArray U := fun U hU hW => ⟨rfl, by rw [hU]; exact a1, by rw [hU]; exact Nat.le_trans C.2.2.2.2.2.2.2.2.1 a4.1, by rw [hU]; exact a3, gX_go C.2.2.2.2.2.1 hW (locs := locs) (by rw [hU]; exact a4)⟩
theorem g_run {mc ms : Nat} {a : Array Value} {QR : gQt} {QX : String → gH → Prop} {st0 rest : List Value} {H : Heap} {locs : List Loc} {ls : Array Slot} (C : gC E F t) (a4 : va_S (gA E) F.2.2.1.heap H locs) (a5 : lv_has ls (gMax t) L)
    (hr : vx_Run F.1 E.1 F.2.1 (gRm t) F.2.2.1 F.2.2.2.1 F.2.2.2.2.1 F.2.2.2.2.2.1 F.2.2.2.2.2.2.1 F.2.2.2.2.2.2.2 H locs kc ks mc ms (F0 F.2.2.2.1 pc ls st0) rest (gQc E QR a) (gXC E n QX) (gA E)) (hk1 : kc + mc ≤ gMc t) (hk2 : ks + ms ≤ gMs t)
    (hx : ∀ (X : String) (h' : gH), QX X h' → gThr E F t n Q X h')
    (kk : ∀ (v : Option Value) (n' : Nat) (σ' : Option Nat) (h' : gH), QR v n' σ' h' → G E F t Q n' σ' h' (kc + mc) (ks + ms) (pc + 3) L (v.toList ++ rest)) :
    W F.1 E.1 F.2.1 (gRm t) F.2.2.1 F.2.2.2.1 F.2.2.2.2.1 F.2.2.2.2.2.1 F.2.2.2.2.2.2.1 F.2.2.2.2.2.2.2 H locs kc ks Q (F0 F.2.2.2.1 pc ls st0) := by
  intro T hT X
  rcases hr T hT X with ⟨v, st₀, t9, T', L9, h0, X', hL, e1, e2, ⟨⟨v', n', σ', h', hv, hq, z1, z3⟩, hF⟩, st⟩ | ⟨q, st₀, t9, T', L9, Ex, ce, h0, X', hL, e1, e2, ⟨⟨h', hq, z3⟩, hF⟩, hce, hcv, hcl, st⟩
  · cases hv
    obtain ⟨k1, k2, k3⟩ := vx_keep h0 e1 a4 (fun _ _ z => z) (fun _ z => z) hL hF
    obtain ⟨t2, b1, b2⟩ := kk v n' σ' h' hq T'.heap (locs ++ L9) ls (by rw [e1]; exact z1) (by rw [e1]; exact z3) k3 a5 T' rfl X'
    exact ⟨t2, st t2 b1, b2⟩
  · obtain ⟨k1, k2, k3⟩ := vx_keep h0 e1 a4 (fun _ _ z => z) (fun _ z => z) hL hF
    obtain ⟨QR0, QX0, rfl, hx0⟩ := hx Ex h' hq
    have hw := vx_out (rest := rest) (pc := pc) (ls := ls) (Qc := gQc E QR0) (XC := gXC E n QX0) (free := gA E) (mc := gMc t) (ms := gMs t) (locs := locs ++ L9) (H := T'.heap) (cells := kc + mc) (slots := ks + ms) (p := F.1) (l := E.1) (e := F.2.1) (R := gRm t) (s := F.2.2.1) (m := F.2.2.2.1) (args := F.2.2.2.2.1) (below := F.2.2.2.2.2.1) (meth := F.2.2.2.2.2.2.1) (c := F.2.2.2.2.2.2.2) (q := q) (fun x hx9 => (C.2.2.2.2.2.2.2.2.2.1 x hx9).elim) C.2.2.2.2.2.2.1 (by rw [e1]; exact hce) hcv hcl
      (fun t8 ht8 _ => ⟨⟨h', hx0, by rw [ht8, e1]; exact z3⟩, k3.F ht8⟩) k3.2.2 hk1 hk2
    obtain ⟨t2, b1, b2⟩ := hw T' rfl X'
    exact ⟨t2, st.trans b1, b2⟩
/-- a call's links -/
def gLk (own : String) (index : Nat) (tc : gMt) (np : Nat) : Prop := Cond.methodLink own index tc.1 ∈ wsG ∧ Cond.initialized tc.1.cls ∈ wsG ∧ Cond.code tc.1 (gCode tc) (gMax tc) (gRet tc) ∈ wsG ∧ tc.1.cls ≠ "java/lang/invoke/MethodHandle" ∧ tc.1.cls ≠ "java/lang/invoke/VarHandle" ∧ (parseMethodDescriptor tc.1.desc).map (fun d => d.parameters.length) = some np
def gLn (own : String) (index : Nat) (tc : gMt) (np : Nat) : Prop := (∃ host : String, Cond.methodLinkNest own index tc.1 host ∈ gNest) ∧ Cond.initialized tc.1.cls ∈ wsG ∧ Cond.code tc.1 (gCode tc) (gMax tc) (gRet tc) ∈ wsG ∧ tc.1.cls ≠ "java/lang/invoke/MethodHandle" ∧ tc.1.cls ≠ "java/lang/invoke/VarHandle" ∧ (parseMethodDescriptor tc.1.desc).map (fun d => d.parameters.length) = some np
/-- the callee's room fits -/
def gFit (tc t : gMt) (kc ks : Nat) : Prop := (gFrs tc + 1 ≤ gFrs t ∧ 8 + (gMax tc + 11) + gLo tc ≤ gLo t) ∧ kc + gMc tc ≤ gMc t ∧ ks + gMs tc ≤ gMs t
theorem gLk_B {tc : gMt} {own : String} {index np : Nat} (C : gC E F t) (ho : t.1.cls = own) (lk : gLk own index tc np) (ft : gFit tc t kc ks) : CallB (gRm t) F.2.2.1 F.2.2.2.2.1 own index tc.1 (gCode tc) (gMax tc) (gRet tc) (.code tc.1 (gCode tc) (gMax tc) (gRet tc) :: wsG) (gRm tc) (gMc tc) (gMs tc) np :=
  callB_of np C.2.2.2.2.1 (wsG_goodC lk.2.2.1) rfl rfl rfl (C.2.2.2.2.1 _ lk.2.1) (C.2.2.2.2.1 _ lk.1) lk.2.2.2 ft.1
theorem gLn_B {tc : gMt} {own host : String} {index np : Nat} (C : gC E F t) (lk : gLn own index tc np) (hh : Cond.methodLinkNest own index tc.1 host ∈ gNest) (ft : gFit tc t kc ks) : va_CN (gRm t) F.2.2.1 F.2.2.2.2.1 own index tc.1 host (gCode tc) (gMax tc) (gRet tc) (.code tc.1 (gCode tc) (gMax tc) (gRet tc) :: wsG) (gRm tc) (gMc tc) (gMs tc) np :=
  va_cnB np C.2.2.2.2.1 (wsG_goodC lk.2.2.1) rfl rfl rfl (C.2.2.2.2.2.1.2.1 _ hh) (C.2.2.2.2.1 _ lk.2.1) lk.2.2.2 ft.1
theorem g_callV {tc : gMt} {own Cl : String} {index np ci a : Nat} {fs As rest : List Value} {QR : gQt} {QX : String → gH → Prop} (pc' : Nat) (C : gC E F t) (hd : decode (gCode t) pc = .ok (.invokevirtual index, 3)) (ho : t.1.cls = own) (lk : gLk own index tc np) (hi : Cond.instanceMethod tc.1 ∈ wsG) (hs : Cond.selects Cl tc.1 tc.1 ∈ wsG) (hci : ∃ (T : u_T) (N : Nat), vwCl[ci]? = some (Cl, T, N)) (hb : gB E ≤ a ∧ a < gB E + n) (hq : h a = gO ci fs) (hn : As.length = np) (ft : gFit tc t kc ks) (hw : (rest.map fun v => v.category).sum ≤ 8) (hp : pc + 3 = pc')
    (hM : gM E tc (.ref a :: As) n σ h QR QX) (hx : ∀ (X : String) (h' : gH), QX X h' → gThr E F t n Q X h')
    (kk : ∀ (v : Option Value) (n' : Nat) (σ' : Option Nat) (h' : gH), QR v n' σ' h' → G E F t Q n' σ' h' (kc + gMc tc) (ks + gMs tc) pc' L (v.toList ++ rest)) : G E F t Q n σ h kc ks pc L (As.reverse ++ .ref a :: rest) := by
  subst hp
  intro H locs ls a1 a3 a4 a5
  obtain ⟨T9, N9, hci⟩ := hci
  have hrecv := va_recv C.2.2.2.2.2.1.1 a3 hci (show (gws (gB E) n h)[a - gB E]? = some (a, .inr (ci, fs)) by rw [gws_get hb.1 hb.2, hq]; rfl)
  exact g_run (F := F) C a4 a5 (vx_runV (As := As) (rest := rest) (own := own) (C := Cl) ⟨C.1, C.2.1, C.2.2.1, ho ▸ C.2.2.2.1, C.2.2.2.2.1⟩ hM ⟨gLk_B C ho lk ft, C.2.2.2.2.1 _ hi, C.2.2.2.2.1 _ hs⟩ ⟨gW_blind, hrecv, gW_at C a1 a3 a4⟩ rfl hn a5.1 rfl (lv_room hw) hd ft.2) ft.2.1 ft.2.2 hx kk
theorem g_callS {tc : gMt} {own : String} {index np : Nat} {As rest : List Value} {QR : gQt} {QX : String → gH → Prop} (pc' : Nat) (C : gC E F t) (hd : decode (gCode t) pc = .ok (.invokestatic index, 3)) (ho : t.1.cls = own) (lk : gLk own index tc np) (hs : Cond.static tc.1 ∈ wsG) (hn : As.length = np) (ft : gFit tc t kc ks) (hw : (rest.map fun v => v.category).sum ≤ 8) (hp : pc + 3 = pc')
    (hM : gM E tc As n σ h QR QX) (hx : ∀ (X : String) (h' : gH), QX X h' → gThr E F t n Q X h')
    (kk : ∀ (v : Option Value) (n' : Nat) (σ' : Option Nat) (h' : gH), QR v n' σ' h' → G E F t Q n' σ' h' (kc + gMc tc) (ks + gMs tc) pc' L (v.toList ++ rest)) : G E F t Q n σ h kc ks pc L (As.reverse ++ rest) := by
  subst hp
  intro H locs ls a1 a3 a4 a5
  exact g_run (F := F) C a4 a5 (vx_runS (As := As) (rest := rest) (own := own) ⟨C.1, C.2.1, C.2.2.1, ho ▸ C.2.2.2.1, C.2.2.2.2.1⟩ hM ⟨gLk_B C ho lk ft, C.2.2.2.2.1 _ hs⟩ ⟨gW_blind, gW_at C a1 a3 a4⟩ rfl hn a5.1 rfl (lv_room hw) hd ft.2) ft.2.1 ft.2.2 hx kk
theorem g_callSN {tc : gMt} {own : String} {index np : Nat} {As rest : List Value} {QR : gQt} {QX : String → gH → Prop} (pc' : Nat) (C : gC E F t) (hd : decode (gCode t) pc = .ok (.invokestatic index, 3)) (ho : t.1.cls = own) (lk : gLn own index tc np) (hs : Cond.static tc.1 ∈ wsG) (hn : As.length = np) (ft : gFit tc t kc ks) (hw : (rest.map fun v => v.category).sum ≤ 8) (hp : pc + 3 = pc')
    (hM : gM E tc As n σ h QR QX) (hx : ∀ (X : String) (h' : gH), QX X h' → gThr E F t n Q X h')
    (kk : ∀ (v : Option Value) (n' : Nat) (σ' : Option Nat) (h' : gH), QR v n' σ' h' → G E F t Q n' σ' h' (kc + gMc tc) (ks + gMs tc) pc' L (v.toList ++ rest)) : G E F t Q n σ h kc ks pc L (As.reverse ++ rest) := by
  subst hp
  intro H locs ls a1 a3 a4 a5
  obtain ⟨host, hh⟩ := lk.1
  exact g_run (F := F) C a4 a5 (vx_runSN (As := As) (rest := rest) (own := own) (host := host) ⟨C.1, C.2.1, C.2.2.1, ho ▸ C.2.2.2.1, C.2.2.2.2.1⟩ hM ⟨gLn_B C lk hh ft, C.2.2.2.2.1 _ hs, trivial⟩ ⟨gW_blind, gW_at C a1 a3 a4⟩ rfl hn a5.1 rfl (lv_room hw) hd ft.2) ft.2.1 ft.2.2 hx kk
theorem g_callI {tc : gMt} {own : String} {index np a : Nat} {As rest : List Value} {QR : gQt} {QX : String → gH → Prop} (pc' : Nat) (C : gC E F t) (hd : decode (gCode t) pc = .ok (.invokespecial index, 3)) (ho : t.1.cls = own) (lk : gLk own index tc np) (hi : Cond.instanceMethod tc.1 ∈ wsG) (hy : tc.1.name = "<init>") (hret : gRet tc = none) (hn : As.length = np) (ft : gFit tc t kc ks) (hw : (rest.map fun v => v.category).sum ≤ 8) (hp : pc + 3 = pc')
    (hM : gM E tc (.ref a :: As) n σ h QR QX) (hx : ∀ (X : String) (h' : gH), QX X h' → gThr E F t n Q X h')
    (kk : ∀ (v : Option Value) (n' : Nat) (σ' : Option Nat) (h' : gH), QR v n' σ' h' → G E F t Q n' σ' h' (kc + gMc tc) (ks + gMs tc) pc' L (v.toList ++ rest)) : G E F t Q n σ h kc ks pc L (As.reverse ++ .ref a :: rest) := by
  subst hp
  intro H locs ls a1 a3 a4 a5
  have hB := gLk_B C ho lk ft
  rw [hret] at hB
  exact g_run (F := F) C a4 a5 (vx_runI (As := As) (rest := rest) (own := own) ⟨C.1, C.2.1, C.2.2.1, ho ▸ C.2.2.2.1, C.2.2.2.2.1⟩ hM ⟨by rw [hret]; exact hB, hy, C.2.2.2.2.1 _ hi⟩ ⟨gW_blind, gW_at C a1 a3 a4⟩ rfl hn a5.1 rfl (lv_room hw) hd ft.2) ft.2.1 ft.2.2 hx kk
theorem g_callIN {tc : gMt} {own : String} {index np a : Nat} {As rest : List Value} {QR : gQt} {QX : String → gH → Prop} (pc' : Nat) (C : gC E F t) (hd : decode (gCode t) pc = .ok (.invokespecial index, 3)) (ho : t.1.cls = own) (lk : gLn own index tc np) (hi : Cond.instanceMethod tc.1 ∈ wsG) (hy : tc.1.name = "<init>") (hret : gRet tc = none) (hn : As.length = np) (ft : gFit tc t kc ks) (hw : (rest.map fun v => v.category).sum ≤ 8) (hp : pc + 3 = pc')
    (hM : gM E tc (.ref a :: As) n σ h QR QX) (hx : ∀ (X : String) (h' : gH), QX X h' → gThr E F t n Q X h')
    (kk : ∀ (v : Option Value) (n' : Nat) (σ' : Option Nat) (h' : gH), QR v n' σ' h' → G E F t Q n' σ' h' (kc + gMc tc) (ks + gMs tc) pc' L (v.toList ++ rest)) : G E F t Q n σ h kc ks pc L (As.reverse ++ .ref a :: rest) := by
  subst hp
  intro H locs ls a1 a3 a4 a5
  obtain ⟨host, hh⟩ := lk.1
  have hB := gLn_B C lk hh ft
  rw [hret] at hB
  exact g_run (F := F) C a4 a5 (vx_runIN (As := As) (rest := rest) (own := own) (host := host) ⟨C.1, C.2.1, C.2.2.1, ho ▸ C.2.2.2.1, C.2.2.2.2.1⟩ hM ⟨by rw [hret]; exact hB, hy, C.2.2.2.2.1 _ hi⟩ ⟨gW_blind, gW_at C a1 a3 a4⟩ rfl hn a5.1 rfl (lv_room hw) hd ft.2) ft.2.1 ft.2.2 hx kk
/-- the ends -/
theorem g_iret {n0 : Nat} {x : Int32} {QR : gQt} {QX : String → gH → Prop} (C : gC E F t) (hd : decode (gCode t) pc = .ok (.ireturn, 1)) (hr : gRet t = some .int) (hk : kc ≤ gMc t ∧ ks ≤ gMs t) (hq : QR (some (.int x)) n σ h) : G E F t (gQ E F t n0 QR QX) n σ h kc ks pc L [.int x] := by
  intro H locs ls a1 a3 a4 a5
  refine vx_ret (W.widen hk.1 hk.2 ?_)
  exact W.iret C.1 C.2.1 (C.2.2.2.2.2.2.2.1.trans hr) (fun t9 ht hW => ⟨⟨_, n, σ, h, rfl, hq, by rw [ht]; exact a1, by rw [ht]; exact a3⟩, a4.F ht⟩) a4.2.2 hd C.2.2.2.2.2.2.1
theorem g_zret {n0 : Nat} {x : Int32} {ty : FieldType} {QR : gQt} {QX : String → gH → Prop} (C : gC E F t) (hd : decode (gCode t) pc = .ok (.ireturn, 1)) (hr : gRet t = some ty) (hn : narrow ty (.int x) = .int x) (hk : kc ≤ gMc t ∧ ks ≤ gMs t) (hq : QR (some (.int x)) n σ h) : G E F t (gQ E F t n0 QR QX) n σ h kc ks pc L [.int x] := by
  intro H locs ls a1 a3 a4 a5
  refine vx_ret (W.widen hk.1 hk.2 ?_)
  exact W.zret C.1 C.2.1 (C.2.2.2.2.2.2.2.1.trans hr) hn (fun t9 ht hW => ⟨⟨_, n, σ, h, rfl, hq, by rw [ht]; exact a1, by rw [ht]; exact a3⟩, a4.F ht⟩) a4.2.2 hd C.2.2.2.2.2.2.1
theorem g_lret {n0 : Nat} {x : Int64} {QR : gQt} {QX : String → gH → Prop} (C : gC E F t) (hd : decode (gCode t) pc = .ok (.lreturn, 1)) (hr : gRet t = some .long) (hk : kc ≤ gMc t ∧ ks ≤ gMs t) (hq : QR (some (.long x)) n σ h) : G E F t (gQ E F t n0 QR QX) n σ h kc ks pc L [.long x] := by
  intro H locs ls a1 a3 a4 a5
  refine vx_ret (W.widen hk.1 hk.2 ?_)
  exact W.lret C.1 C.2.1 (C.2.2.2.2.2.2.2.1.trans hr) (fun t9 ht hW => ⟨⟨_, n, σ, h, rfl, hq, by rw [ht]; exact a1, by rw [ht]; exact a3⟩, a4.F ht⟩) a4.2.2 hd C.2.2.2.2.2.2.1
theorem g_dret {n0 : Nat} {x : UInt64} {QR : gQt} {QX : String → gH → Prop} (C : gC E F t) (hd : decode (gCode t) pc = .ok (.dreturn, 1)) (hr : gRet t = some .double) (hk : kc ≤ gMc t ∧ ks ≤ gMs t) (hq : QR (some (.double x)) n σ h) : G E F t (gQ E F t n0 QR QX) n σ h kc ks pc L [.double x] := by
  intro H locs ls a1 a3 a4 a5
  refine vx_ret (W.widen hk.1 hk.2 ?_)
  have hlocks := C.2.2.2.2.2.2.1
  exact W.dret C.1 C.2.1 (C.2.2.2.2.2.2.2.1.trans hr) (fun t9 ht hW => ⟨⟨_, n, σ, h, rfl, hq, by rw [ht]; exact a1, by rw [ht]; exact a3⟩, a4.F ht⟩) a4.2.2 hd hlocks
theorem g_aret {n0 : Nat} {x : Nat} {ty : FieldType} {QR : gQt} {QX : String → gH → Prop} (C : gC E F t) (hd : decode (gCode t) pc = .ok (.areturn, 1)) (hr : gRet t = some ty) (hty : (∃ n, ty = .object n) ∨ ∃ t, ty = .array t) (hk : kc ≤ gMc t ∧ ks ≤ gMs t) (hq : QR (some (.ref x)) n σ h) : G E F t (gQ E F t n0 QR QX) n σ h kc ks pc L [.ref x] := by
  intro H locs ls a1 a3 a4 a5
  refine vx_ret (W.widen hk.1 hk.2 ?_)
  exact W.aret C.1 C.2.1 (C.2.2.2.2.2.2.2.1.trans hr) hty (Or.inr ⟨x, rfl⟩) (fun t9 ht hW => ⟨⟨_, n, σ, h, rfl, hq, by rw [ht]; exact a1, by rw [ht]; exact a3⟩, a4.F ht⟩) a4.2.2 hd C.2.2.2.2.2.2.1
theorem g_vret {n0 : Nat} {QR : gQt} {QX : String → gH → Prop} (C : gC E F t) (hd : decode (gCode t) pc = .ok (.return_, 1)) (hr : gRet t = none) (hk : kc ≤ gMc t ∧ ks ≤ gMs t) (hq : QR none n σ h) : G E F t (gQ E F t n0 QR QX) n σ h kc ks pc L [] := by
  intro H locs ls a1 a3 a4 a5
  refine vx_ret (W.widen hk.1 hk.2 ?_)
  exact W.vret C.1 C.2.1 (C.2.2.2.2.2.2.2.1.trans hr) (fun t9 ht hW => ⟨⟨_, n, σ, h, rfl, hq, by rw [ht]; exact a1, by rw [ht]; exact a3⟩, a4.F ht⟩) a4.2.2 hd C.2.2.2.2.2.2.1

end GL
end
