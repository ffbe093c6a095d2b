-- ===== PART A: goes FIRST, ahead of the names: the tables' words, and 'selects' of the private methods out of them =====
/-- a private method of a class that the tables say can be made, by its rows of tables_1 -/
def lw_okq (q : MethodName × Nat) : Prop := (q.1.cls ≠ "java/lang/invoke/MethodHandle" ∧ q.1.cls ≠ "java/lang/invoke/VarHandle") ∧ Cond.instantiable q.1.cls q.2 ∈ tables_1 ∧ Cond.privateMethod q.1 ∈ tables_1 ∧ Cond.instanceMethod q.1 ∈ tables_1
theorem lw_p0 : lw_okq (⟨"MannersGaol", "timeNow", "(I)I"⟩, 10) := ⟨⟨by decide +kernel, by decide +kernel⟩, List.mem_of_getElem? (i := 16) (by decide +kernel), List.mem_of_getElem? (i := 554) (by decide +kernel), List.mem_of_getElem? (i := 555) (by decide +kernel)⟩
theorem lw_p1 : lw_okq (⟨"MannersGaol", "isOutIfRude", "(III)Z"⟩, 10) := ⟨⟨by decide +kernel, by decide +kernel⟩, List.mem_of_getElem? (i := 16) (by decide +kernel), List.mem_of_getElem? (i := 590) (by decide +kernel), List.mem_of_getElem? (i := 591) (by decide +kernel)⟩
theorem lw_p2 : lw_okq (⟨"MannersGaol", "isFitting", "(LMannersGaol$Sheet;II)Z"⟩, 10) := ⟨⟨by decide +kernel, by decide +kernel⟩, List.mem_of_getElem? (i := 16) (by decide +kernel), List.mem_of_getElem? (i := 617) (by decide +kernel), List.mem_of_getElem? (i := 618) (by decide +kernel)⟩
theorem lw_p3 : lw_okq (⟨"MannersGaol", "isRowPart", "(II)Z"⟩, 10) := ⟨⟨by decide +kernel, by decide +kernel⟩, List.mem_of_getElem? (i := 16) (by decide +kernel), List.mem_of_getElem? (i := 649) (by decide +kernel), List.mem_of_getElem? (i := 650) (by decide +kernel)⟩
theorem lw_p4 : lw_okq (⟨"MannersGaol", "heldBy", "(LMannersGaol$Shelf;)I"⟩, 10) := ⟨⟨by decide +kernel, by decide +kernel⟩, List.mem_of_getElem? (i := 16) (by decide +kernel), List.mem_of_getElem? (i := 705) (by decide +kernel), List.mem_of_getElem? (i := 706) (by decide +kernel)⟩
theorem lw_p5 : lw_okq (⟨"MannersGaolModel", "begins", "()V"⟩, 27) := ⟨⟨by decide +kernel, by decide +kernel⟩, List.mem_of_getElem? (i := 755) (by decide +kernel), List.mem_of_getElem? (i := 761) (by decide +kernel), List.mem_of_getElem? (i := 762) (by decide +kernel)⟩
theorem lw_p6 : lw_okq (⟨"MannersGaolModel", "nextToken", "()V"⟩, 27) := ⟨⟨by decide +kernel, by decide +kernel⟩, List.mem_of_getElem? (i := 755) (by decide +kernel), List.mem_of_getElem? (i := 863) (by decide +kernel), List.mem_of_getElem? (i := 864) (by decide +kernel)⟩
theorem lw_p7 : lw_okq (⟨"MannersGaolModel", "byteAt", "(I)I"⟩, 27) := ⟨⟨by decide +kernel, by decide +kernel⟩, List.mem_of_getElem? (i := 755) (by decide +kernel), List.mem_of_getElem? (i := 867) (by decide +kernel), List.mem_of_getElem? (i := 868) (by decide +kernel)⟩
theorem lw_p8 : lw_okq (⟨"MannersGaolModel", "itemHere", "()V"⟩, 27) := ⟨⟨by decide +kernel, by decide +kernel⟩, List.mem_of_getElem? (i := 755) (by decide +kernel), List.mem_of_getElem? (i := 877) (by decide +kernel), List.mem_of_getElem? (i := 878) (by decide +kernel)⟩
theorem lw_p9 : lw_okq (⟨"MannersGaolModel", "kindHere", "()I"⟩, 27) := ⟨⟨by decide +kernel, by decide +kernel⟩, List.mem_of_getElem? (i := 755) (by decide +kernel), List.mem_of_getElem? (i := 881) (by decide +kernel), List.mem_of_getElem? (i := 882) (by decide +kernel)⟩
theorem lw_p10 : lw_okq (⟨"MannersGaolModel", "isName", "(IIIII)Z"⟩, 27) := ⟨⟨by decide +kernel, by decide +kernel⟩, List.mem_of_getElem? (i := 755) (by decide +kernel), List.mem_of_getElem? (i := 885) (by decide +kernel), List.mem_of_getElem? (i := 886) (by decide +kernel)⟩
theorem lw_p11 : lw_okq (⟨"MannersGaolModel", "isSame", "(IIII)Z"⟩, 27) := ⟨⟨by decide +kernel, by decide +kernel⟩, List.mem_of_getElem? (i := 755) (by decide +kernel), List.mem_of_getElem? (i := 889) (by decide +kernel), List.mem_of_getElem? (i := 890) (by decide +kernel)⟩
theorem lw_p12 : lw_okq (⟨"MannersGaolModel", "isFive", "(IIIII)Z"⟩, 27) := ⟨⟨by decide +kernel, by decide +kernel⟩, List.mem_of_getElem? (i := 755) (by decide +kernel), List.mem_of_getElem? (i := 893) (by decide +kernel), List.mem_of_getElem? (i := 894) (by decide +kernel)⟩
theorem lw_p13 : lw_okq (⟨"MannersGaolModel", "lawHere", "()I"⟩, 27) := ⟨⟨by decide +kernel, by decide +kernel⟩, List.mem_of_getElem? (i := 755) (by decide +kernel), List.mem_of_getElem? (i := 897) (by decide +kernel), List.mem_of_getElem? (i := 898) (by decide +kernel)⟩
theorem lw_p14 : lw_okq (⟨"MannersGaolModel", "isFour", "(IIII)Z"⟩, 27) := ⟨⟨by decide +kernel, by decide +kernel⟩, List.mem_of_getElem? (i := 755) (by decide +kernel), List.mem_of_getElem? (i := 901) (by decide +kernel), List.mem_of_getElem? (i := 902) (by decide +kernel)⟩
theorem lw_p15 : lw_okq (⟨"MannersGaolModel", "inmateHere", "(I)V"⟩, 27) := ⟨⟨by decide +kernel, by decide +kernel⟩, List.mem_of_getElem? (i := 755) (by decide +kernel), List.mem_of_getElem? (i := 905) (by decide +kernel), List.mem_of_getElem? (i := 906) (by decide +kernel)⟩
def lw_privs_1 : List (MethodName × Nat) := [(⟨"MannersGaol", "timeNow", "(I)I"⟩, 10), (⟨"MannersGaol", "isOutIfRude", "(III)Z"⟩, 10), (⟨"MannersGaol", "isFitting", "(LMannersGaol$Sheet;II)Z"⟩, 10), (⟨"MannersGaol", "isRowPart", "(II)Z"⟩, 10), (⟨"MannersGaol", "heldBy", "(LMannersGaol$Shelf;)I"⟩, 10), (⟨"MannersGaolModel", "begins", "()V"⟩, 27), (⟨"MannersGaolModel", "nextToken", "()V"⟩, 27), (⟨"MannersGaolModel", "byteAt", "(I)I"⟩, 27), (⟨"MannersGaolModel", "itemHere", "()V"⟩, 27), (⟨"MannersGaolModel", "kindHere", "()I"⟩, 27), (⟨"MannersGaolModel", "isName", "(IIIII)Z"⟩, 27), (⟨"MannersGaolModel", "isSame", "(IIII)Z"⟩, 27), (⟨"MannersGaolModel", "isFive", "(IIIII)Z"⟩, 27), (⟨"MannersGaolModel", "lawHere", "()I"⟩, 27), (⟨"MannersGaolModel", "isFour", "(IIII)Z"⟩, 27), (⟨"MannersGaolModel", "inmateHere", "(I)V"⟩, 27)]
theorem lw_r1 : ∀ q ∈ lw_privs_1, lw_okq q := List.forall_mem_cons.mpr ⟨lw_p0, List.forall_mem_cons.mpr ⟨lw_p1, List.forall_mem_cons.mpr ⟨lw_p2, List.forall_mem_cons.mpr ⟨lw_p3, List.forall_mem_cons.mpr ⟨lw_p4, List.forall_mem_cons.mpr ⟨lw_p5, List.forall_mem_cons.mpr ⟨lw_p6, List.forall_mem_cons.mpr ⟨lw_p7, List.forall_mem_cons.mpr ⟨lw_p8, List.forall_mem_cons.mpr ⟨lw_p9, List.forall_mem_cons.mpr ⟨lw_p10, List.forall_mem_cons.mpr ⟨lw_p11, List.forall_mem_cons.mpr ⟨lw_p12, List.forall_mem_cons.mpr ⟨lw_p13, List.forall_mem_cons.mpr ⟨lw_p14, List.forall_mem_cons.mpr ⟨lw_p15, fun _ h => absurd h List.not_mem_nil⟩⟩⟩⟩⟩⟩⟩⟩⟩⟩⟩⟩⟩⟩⟩⟩
theorem lw_p16 : lw_okq (⟨"MannersGaolModel", "needs", "(Z)V"⟩, 27) := ⟨⟨by decide +kernel, by decide +kernel⟩, List.mem_of_getElem? (i := 755) (by decide +kernel), List.mem_of_getElem? (i := 909) (by decide +kernel), List.mem_of_getElem? (i := 910) (by decide +kernel)⟩
theorem lw_p17 : lw_okq (⟨"MannersGaolModel", "isTwo", "(II)Z"⟩, 27) := ⟨⟨by decide +kernel, by decide +kernel⟩, List.mem_of_getElem? (i := 755) (by decide +kernel), List.mem_of_getElem? (i := 913) (by decide +kernel), List.mem_of_getElem? (i := 914) (by decide +kernel)⟩
theorem lw_p18 : lw_okq (⟨"MannersGaolModel", "comes", "(III)V"⟩, 27) := ⟨⟨by decide +kernel, by decide +kernel⟩, List.mem_of_getElem? (i := 755) (by decide +kernel), List.mem_of_getElem? (i := 917) (by decide +kernel), List.mem_of_getElem? (i := 918) (by decide +kernel)⟩
theorem lw_p19 : lw_okq (⟨"MannersGaolModel", "numberTo", "(II)V"⟩, 27) := ⟨⟨by decide +kernel, by decide +kernel⟩, List.mem_of_getElem? (i := 755) (by decide +kernel), List.mem_of_getElem? (i := 921) (by decide +kernel), List.mem_of_getElem? (i := 922) (by decide +kernel)⟩
theorem lw_p20 : lw_okq (⟨"MannersGaolModel", "isNumber0", "(I)Z"⟩, 27) := ⟨⟨by decide +kernel, by decide +kernel⟩, List.mem_of_getElem? (i := 755) (by decide +kernel), List.mem_of_getElem? (i := 925) (by decide +kernel), List.mem_of_getElem? (i := 926) (by decide +kernel)⟩
theorem lw_p21 : lw_okq (⟨"MannersGaolModel", "riteHere", "()V"⟩, 27) := ⟨⟨by decide +kernel, by decide +kernel⟩, List.mem_of_getElem? (i := 755) (by decide +kernel), List.mem_of_getElem? (i := 929) (by decide +kernel), List.mem_of_getElem? (i := 930) (by decide +kernel)⟩
theorem lw_p22 : lw_okq (⟨"MannersGaolModel", "waitHere", "()V"⟩, 27) := ⟨⟨by decide +kernel, by decide +kernel⟩, List.mem_of_getElem? (i := 755) (by decide +kernel), List.mem_of_getElem? (i := 933) (by decide +kernel), List.mem_of_getElem? (i := 934) (by decide +kernel)⟩
theorem lw_p23 : lw_okq (⟨"MannersGaolModel", "becomes", "(II)I"⟩, 27) := ⟨⟨by decide +kernel, by decide +kernel⟩, List.mem_of_getElem? (i := 755) (by decide +kernel), List.mem_of_getElem? (i := 944) (by decide +kernel), List.mem_of_getElem? (i := 945) (by decide +kernel)⟩
theorem lw_p24 : lw_okq (⟨"MannersGaolModel", "isOne", "(I)Z"⟩, 27) := ⟨⟨by decide +kernel, by decide +kernel⟩, List.mem_of_getElem? (i := 755) (by decide +kernel), List.mem_of_getElem? (i := 964) (by decide +kernel), List.mem_of_getElem? (i := 965) (by decide +kernel)⟩
theorem lw_p25 : lw_okq (⟨"MannersGaolModel", "its", "(II)I"⟩, 27) := ⟨⟨by decide +kernel, by decide +kernel⟩, List.mem_of_getElem? (i := 755) (by decide +kernel), List.mem_of_getElem? (i := 969) (by decide +kernel), List.mem_of_getElem? (i := 970) (by decide +kernel)⟩
theorem lw_p26 : lw_okq (⟨"MannersGaolModel", "isKept", "(I)Z"⟩, 27) := ⟨⟨by decide +kernel, by decide +kernel⟩, List.mem_of_getElem? (i := 755) (by decide +kernel), List.mem_of_getElem? (i := 973) (by decide +kernel), List.mem_of_getElem? (i := 974) (by decide +kernel)⟩
theorem lw_p27 : lw_okq (⟨"MannersGaolModel", "isOut", "(I)Z"⟩, 27) := ⟨⟨by decide +kernel, by decide +kernel⟩, List.mem_of_getElem? (i := 755) (by decide +kernel), List.mem_of_getElem? (i := 977) (by decide +kernel), List.mem_of_getElem? (i := 978) (by decide +kernel)⟩
theorem lw_p28 : lw_okq (⟨"MannersGaolModel", "needsOf", "(I)I"⟩, 27) := ⟨⟨by decide +kernel, by decide +kernel⟩, List.mem_of_getElem? (i := 755) (by decide +kernel), List.mem_of_getElem? (i := 986) (by decide +kernel), List.mem_of_getElem? (i := 987) (by decide +kernel)⟩
theorem lw_p29 : lw_okq (⟨"MannersGaolModel", "thoseIn", "(I)I"⟩, 27) := ⟨⟨by decide +kernel, by decide +kernel⟩, List.mem_of_getElem? (i := 755) (by decide +kernel), List.mem_of_getElem? (i := 990) (by decide +kernel), List.mem_of_getElem? (i := 991) (by decide +kernel)⟩
theorem lw_p30 : lw_okq (⟨"MannersGaolModel", "paysOf", "(I)I"⟩, 27) := ⟨⟨by decide +kernel, by decide +kernel⟩, List.mem_of_getElem? (i := 755) (by decide +kernel), List.mem_of_getElem? (i := 997) (by decide +kernel), List.mem_of_getElem? (i := 998) (by decide +kernel)⟩
theorem lw_p31 : lw_okq (⟨"MannersGaolModel", "gainsOf", "(I)I"⟩, 27) := ⟨⟨by decide +kernel, by decide +kernel⟩, List.mem_of_getElem? (i := 755) (by decide +kernel), List.mem_of_getElem? (i := 1001) (by decide +kernel), List.mem_of_getElem? (i := 1002) (by decide +kernel)⟩
def lw_privs_2 : List (MethodName × Nat) := [(⟨"MannersGaolModel", "needs", "(Z)V"⟩, 27), (⟨"MannersGaolModel", "isTwo", "(II)Z"⟩, 27), (⟨"MannersGaolModel", "comes", "(III)V"⟩, 27), (⟨"MannersGaolModel", "numberTo", "(II)V"⟩, 27), (⟨"MannersGaolModel", "isNumber0", "(I)Z"⟩, 27), (⟨"MannersGaolModel", "riteHere", "()V"⟩, 27), (⟨"MannersGaolModel", "waitHere", "()V"⟩, 27), (⟨"MannersGaolModel", "becomes", "(II)I"⟩, 27), (⟨"MannersGaolModel", "isOne", "(I)Z"⟩, 27), (⟨"MannersGaolModel", "its", "(II)I"⟩, 27), (⟨"MannersGaolModel", "isKept", "(I)Z"⟩, 27), (⟨"MannersGaolModel", "isOut", "(I)Z"⟩, 27), (⟨"MannersGaolModel", "needsOf", "(I)I"⟩, 27), (⟨"MannersGaolModel", "thoseIn", "(I)I"⟩, 27), (⟨"MannersGaolModel", "paysOf", "(I)I"⟩, 27), (⟨"MannersGaolModel", "gainsOf", "(I)I"⟩, 27)]
theorem lw_r2 : ∀ q ∈ lw_privs_2, lw_okq q := List.forall_mem_cons.mpr ⟨lw_p16, List.forall_mem_cons.mpr ⟨lw_p17, List.forall_mem_cons.mpr ⟨lw_p18, List.forall_mem_cons.mpr ⟨lw_p19, List.forall_mem_cons.mpr ⟨lw_p20, List.forall_mem_cons.mpr ⟨lw_p21, List.forall_mem_cons.mpr ⟨lw_p22, List.forall_mem_cons.mpr ⟨lw_p23, List.forall_mem_cons.mpr ⟨lw_p24, List.forall_mem_cons.mpr ⟨lw_p25, List.forall_mem_cons.mpr ⟨lw_p26, List.forall_mem_cons.mpr ⟨lw_p27, List.forall_mem_cons.mpr ⟨lw_p28, List.forall_mem_cons.mpr ⟨lw_p29, List.forall_mem_cons.mpr ⟨lw_p30, List.forall_mem_cons.mpr ⟨lw_p31, fun _ h => absurd h List.not_mem_nil⟩⟩⟩⟩⟩⟩⟩⟩⟩⟩⟩⟩⟩⟩⟩⟩
theorem lw_p32 : lw_okq (⟨"MannersGaolModel", "goesOnMany", "(I)V"⟩, 27) := ⟨⟨by decide +kernel, by decide +kernel⟩, List.mem_of_getElem? (i := 755) (by decide +kernel), List.mem_of_getElem? (i := 1038) (by decide +kernel), List.mem_of_getElem? (i := 1039) (by decide +kernel)⟩
theorem lw_p33 : lw_okq (⟨"MannersGaolModel", "goesOn", "()V"⟩, 27) := ⟨⟨by decide +kernel, by decide +kernel⟩, List.mem_of_getElem? (i := 755) (by decide +kernel), List.mem_of_getElem? (i := 1042) (by decide +kernel), List.mem_of_getElem? (i := 1043) (by decide +kernel)⟩
theorem lw_p34 : lw_okq (⟨"MannersGaolModel", "drawn", "()I"⟩, 27) := ⟨⟨by decide +kernel, by decide +kernel⟩, List.mem_of_getElem? (i := 755) (by decide +kernel), List.mem_of_getElem? (i := 1057) (by decide +kernel), List.mem_of_getElem? (i := 1058) (by decide +kernel)⟩
theorem lw_p35 : lw_okq (⟨"MannersGaolModel", "keptOnes", "()I"⟩, 27) := ⟨⟨by decide +kernel, by decide +kernel⟩, List.mem_of_getElem? (i := 755) (by decide +kernel), List.mem_of_getElem? (i := 1072) (by decide +kernel), List.mem_of_getElem? (i := 1073) (by decide +kernel)⟩
theorem lw_p36 : lw_okq (⟨"MannersGaolModel", "graceOfAll", "()I"⟩, 27) := ⟨⟨by decide +kernel, by decide +kernel⟩, List.mem_of_getElem? (i := 755) (by decide +kernel), List.mem_of_getElem? (i := 1076) (by decide +kernel), List.mem_of_getElem? (i := 1077) (by decide +kernel)⟩
theorem lw_p37 : lw_okq (⟨"MannersGaolModel", "crowd", "()I"⟩, 27) := ⟨⟨by decide +kernel, by decide +kernel⟩, List.mem_of_getElem? (i := 755) (by decide +kernel), List.mem_of_getElem? (i := 1080) (by decide +kernel), List.mem_of_getElem? (i := 1081) (by decide +kernel)⟩
theorem lw_p38 : lw_okq (⟨"MannersGaolModel", "ritesOfAll", "()I"⟩, 27) := ⟨⟨by decide +kernel, by decide +kernel⟩, List.mem_of_getElem? (i := 755) (by decide +kernel), List.mem_of_getElem? (i := 1084) (by decide +kernel), List.mem_of_getElem? (i := 1085) (by decide +kernel)⟩
theorem lw_p39 : lw_okq (⟨"MannersGaolModel", "passesBy", "(III)I"⟩, 27) := ⟨⟨by decide +kernel, by decide +kernel⟩, List.mem_of_getElem? (i := 755) (by decide +kernel), List.mem_of_getElem? (i := 1096) (by decide +kernel), List.mem_of_getElem? (i := 1097) (by decide +kernel)⟩
theorem lw_p40 : lw_okq (⟨"MannersGaolModel", "isTold", "(II)Z"⟩, 27) := ⟨⟨by decide +kernel, by decide +kernel⟩, List.mem_of_getElem? (i := 755) (by decide +kernel), List.mem_of_getElem? (i := 1146) (by decide +kernel), List.mem_of_getElem? (i := 1147) (by decide +kernel)⟩
theorem lw_p41 : lw_okq (⟨"MannersGaolModel", "isRow", "(II)Z"⟩, 27) := ⟨⟨by decide +kernel, by decide +kernel⟩, List.mem_of_getElem? (i := 755) (by decide +kernel), List.mem_of_getElem? (i := 1175) (by decide +kernel), List.mem_of_getElem? (i := 1176) (by decide +kernel)⟩
theorem lw_p42 : lw_okq (⟨"MannersGaolModel", "lacks", "(II)I"⟩, 27) := ⟨⟨by decide +kernel, by decide +kernel⟩, List.mem_of_getElem? (i := 755) (by decide +kernel), List.mem_of_getElem? (i := 1199) (by decide +kernel), List.mem_of_getElem? (i := 1200) (by decide +kernel)⟩
theorem lw_p43 : lw_okq (⟨"MannersGaolModel", "heldOn", "(I)I"⟩, 27) := ⟨⟨by decide +kernel, by decide +kernel⟩, List.mem_of_getElem? (i := 755) (by decide +kernel), List.mem_of_getElem? (i := 1220) (by decide +kernel), List.mem_of_getElem? (i := 1221) (by decide +kernel)⟩
theorem lw_p44 : lw_okq (⟨"MannersGaolModel", "bows", "(I)I"⟩, 27) := ⟨⟨by decide +kernel, by decide +kernel⟩, List.mem_of_getElem? (i := 755) (by decide +kernel), List.mem_of_getElem? (i := 1231) (by decide +kernel), List.mem_of_getElem? (i := 1232) (by decide +kernel)⟩
theorem lw_p45 : lw_okq (⟨"MannersGaolModel", "bowsOfDuellist", "(I)I"⟩, 27) := ⟨⟨by decide +kernel, by decide +kernel⟩, List.mem_of_getElem? (i := 755) (by decide +kernel), List.mem_of_getElem? (i := 1235) (by decide +kernel), List.mem_of_getElem? (i := 1236) (by decide +kernel)⟩
theorem lw_p46 : lw_okq (⟨"MannersGaolModel", "runs", "(I)V"⟩, 27) := ⟨⟨by decide +kernel, by decide +kernel⟩, List.mem_of_getElem? (i := 755) (by decide +kernel), List.mem_of_getElem? (i := 1239) (by decide +kernel), List.mem_of_getElem? (i := 1240) (by decide +kernel)⟩
theorem lw_p47 : lw_okq (⟨"MannersGaolModel", "bowsPlain", "(I)I"⟩, 27) := ⟨⟨by decide +kernel, by decide +kernel⟩, List.mem_of_getElem? (i := 755) (by decide +kernel), List.mem_of_getElem? (i := 1243) (by decide +kernel), List.mem_of_getElem? (i := 1244) (by decide +kernel)⟩
def lw_privs_3 : List (MethodName × Nat) := [(⟨"MannersGaolModel", "goesOnMany", "(I)V"⟩, 27), (⟨"MannersGaolModel", "goesOn", "()V"⟩, 27), (⟨"MannersGaolModel", "drawn", "()I"⟩, 27), (⟨"MannersGaolModel", "keptOnes", "()I"⟩, 27), (⟨"MannersGaolModel", "graceOfAll", "()I"⟩, 27), (⟨"MannersGaolModel", "crowd", "()I"⟩, 27), (⟨"MannersGaolModel", "ritesOfAll", "()I"⟩, 27), (⟨"MannersGaolModel", "passesBy", "(III)I"⟩, 27), (⟨"MannersGaolModel", "isTold", "(II)Z"⟩, 27), (⟨"MannersGaolModel", "isRow", "(II)Z"⟩, 27), (⟨"MannersGaolModel", "lacks", "(II)I"⟩, 27), (⟨"MannersGaolModel", "heldOn", "(I)I"⟩, 27), (⟨"MannersGaolModel", "bows", "(I)I"⟩, 27), (⟨"MannersGaolModel", "bowsOfDuellist", "(I)I"⟩, 27), (⟨"MannersGaolModel", "runs", "(I)V"⟩, 27), (⟨"MannersGaolModel", "bowsPlain", "(I)I"⟩, 27)]
theorem lw_r3 : ∀ q ∈ lw_privs_3, lw_okq q := List.forall_mem_cons.mpr ⟨lw_p32, List.forall_mem_cons.mpr ⟨lw_p33, List.forall_mem_cons.mpr ⟨lw_p34, List.forall_mem_cons.mpr ⟨lw_p35, List.forall_mem_cons.mpr ⟨lw_p36, List.forall_mem_cons.mpr ⟨lw_p37, List.forall_mem_cons.mpr ⟨lw_p38, List.forall_mem_cons.mpr ⟨lw_p39, List.forall_mem_cons.mpr ⟨lw_p40, List.forall_mem_cons.mpr ⟨lw_p41, List.forall_mem_cons.mpr ⟨lw_p42, List.forall_mem_cons.mpr ⟨lw_p43, List.forall_mem_cons.mpr ⟨lw_p44, List.forall_mem_cons.mpr ⟨lw_p45, List.forall_mem_cons.mpr ⟨lw_p46, List.forall_mem_cons.mpr ⟨lw_p47, fun _ h => absurd h List.not_mem_nil⟩⟩⟩⟩⟩⟩⟩⟩⟩⟩⟩⟩⟩⟩⟩⟩
theorem lw_p48 : lw_okq (⟨"MannersGaolModel", "thanks", "(I)I"⟩, 27) := ⟨⟨by decide +kernel, by decide +kernel⟩, List.mem_of_getElem? (i := 755) (by decide +kernel), List.mem_of_getElem? (i := 1247) (by decide +kernel), List.mem_of_getElem? (i := 1248) (by decide +kernel)⟩
theorem lw_p49 : lw_okq (⟨"MannersGaolModel", "thanksPlain", "(I)I"⟩, 27) := ⟨⟨by decide +kernel, by decide +kernel⟩, List.mem_of_getElem? (i := 755) (by decide +kernel), List.mem_of_getElem? (i := 1251) (by decide +kernel), List.mem_of_getElem? (i := 1252) (by decide +kernel)⟩
theorem lw_p50 : lw_okq (⟨"MannersGaolModel", "parts", "(I)I"⟩, 27) := ⟨⟨by decide +kernel, by decide +kernel⟩, List.mem_of_getElem? (i := 755) (by decide +kernel), List.mem_of_getElem? (i := 1255) (by decide +kernel), List.mem_of_getElem? (i := 1256) (by decide +kernel)⟩
theorem lw_p51 : lw_okq (⟨"MannersGaolModel", "partsPlain", "(I)I"⟩, 27) := ⟨⟨by decide +kernel, by decide +kernel⟩, List.mem_of_getElem? (i := 755) (by decide +kernel), List.mem_of_getElem? (i := 1259) (by decide +kernel), List.mem_of_getElem? (i := 1260) (by decide +kernel)⟩
theorem lw_p52 : lw_okq (⟨"MannersGaolModel", "leavesBy", "(I)I"⟩, 27) := ⟨⟨by decide +kernel, by decide +kernel⟩, List.mem_of_getElem? (i := 755) (by decide +kernel), List.mem_of_getElem? (i := 1263) (by decide +kernel), List.mem_of_getElem? (i := 1264) (by decide +kernel)⟩
theorem lw_p53 : lw_okq (⟨"MannersGaolModel", "leavesPlain", "(I)I"⟩, 27) := ⟨⟨by decide +kernel, by decide +kernel⟩, List.mem_of_getElem? (i := 755) (by decide +kernel), List.mem_of_getElem? (i := 1267) (by decide +kernel), List.mem_of_getElem? (i := 1268) (by decide +kernel)⟩
def lw_privs_4 : List (MethodName × Nat) := [(⟨"MannersGaolModel", "thanks", "(I)I"⟩, 27), (⟨"MannersGaolModel", "thanksPlain", "(I)I"⟩, 27), (⟨"MannersGaolModel", "parts", "(I)I"⟩, 27), (⟨"MannersGaolModel", "partsPlain", "(I)I"⟩, 27), (⟨"MannersGaolModel", "leavesBy", "(I)I"⟩, 27), (⟨"MannersGaolModel", "leavesPlain", "(I)I"⟩, 27)]
theorem lw_r4 : ∀ q ∈ lw_privs_4, lw_okq q := List.forall_mem_cons.mpr ⟨lw_p48, List.forall_mem_cons.mpr ⟨lw_p49, List.forall_mem_cons.mpr ⟨lw_p50, List.forall_mem_cons.mpr ⟨lw_p51, List.forall_mem_cons.mpr ⟨lw_p52, List.forall_mem_cons.mpr ⟨lw_p53, fun _ h => absurd h List.not_mem_nil⟩⟩⟩⟩⟩⟩
def lw_privs : List (MethodName × Nat) := lw_privs_1 ++ (lw_privs_2 ++ (lw_privs_3 ++ (lw_privs_4)))
def lw_tbl : List Cond := k2_sels lw_privs ++ tables_1
theorem lw_privs_ok : ∀ q ∈ lw_privs, lw_okq q := by
  show ∀ q ∈ lw_privs_1 ++ (lw_privs_2 ++ (lw_privs_3 ++ (lw_privs_4))), lw_okq q
  exact List.forall_mem_append.mpr ⟨lw_r1, List.forall_mem_append.mpr ⟨lw_r2, List.forall_mem_append.mpr ⟨lw_r3, lw_r4⟩⟩⟩
def RX0 : String := "MannersGaol$Deed"
def TX0 : u_T := fun k => match k with
  | 0 => ("MannersGaol$Deed", "bodies", "[I", true)
  | 1 => ("MannersGaol$Deed", "ran", "I", false)
  | 2 => ("MannersGaol$Deed", "kind", "I", false)
  | 3 => ("MannersGaol$Deed", "n", "I", false)
  | 4 => ("MannersGaol$Deed", "a", "I", false)
  | _ => ("MannersGaol$Deed", "isStuck", "Z", false)
def tyX0 : Nat → FieldType := fun k => match k with
  | 0 => .array .int
  | 1 => .int
  | 2 => .int
  | 3 => .int
  | 4 => .int
  | _ => .boolean
abbrev wsX00 : List Cond := u_ws RX0 TX0 6
theorem nmX0 : ∀ a, a < 6 → ∀ b, b < 6 → a ≠ b → (TX0 a).2.1 ≠ (TX0 b).2.1 := by decide +kernel
theorem tyX0_ok : ∀ k, k < 6 → parseFieldDescriptor (TX0 k).2.2.1 = some (tyX0 k) := by decide +kernel
abbrev cX0_init : ByteArray := prog_2_method_1_code
def yX0_init : MethodName := ⟨RX0, "<init>", "()V"⟩
abbrev cX0_begin : ByteArray := prog_2_method_2_code
def yX0_begin : MethodName := ⟨RX0, "begin", "(III)V"⟩
abbrev cX0_mark : ByteArray := prog_2_method_3_code
def yX0_mark : MethodName := ⟨RX0, "mark", "(I)V"⟩
abbrev cX0_own : ByteArray := prog_2_method_4_code
def yX0_own : MethodName := ⟨RX0, "own", "(I)I"⟩
abbrev cX0_parted : ByteArray := prog_2_method_5_code
def yX0_parted : MethodName := ⟨RX0, "parted", "(I)I"⟩
def RX1 : String := "MannersGaol$Gaol"
def TX1 : u_T := fun k => match k with
  | 0 => ("MannersGaol$Gaol", "laws", "[I", true)
  | 1 => ("MannersGaol$Gaol", "rites", "[I", true)
  | 2 => ("MannersGaol$Gaol", "kinds", "[I", true)
  | 3 => ("MannersGaol$Gaol", "graces", "[I", true)
  | 4 => ("MannersGaol$Gaol", "rooms", "[I", true)
  | 5 => ("MannersGaol$Gaol", "hosts", "[I", true)
  | 6 => ("MannersGaol$Gaol", "count", "I", false)
  | 7 => ("MannersGaol$Gaol", "occasion", "I", false)
  | _ => ("MannersGaol$Gaol", "z", "I", false)
def tyX1 : Nat → FieldType := fun k => match k with
  | 0 => .array .int
  | 1 => .array .int
  | 2 => .array .int
  | 3 => .array .int
  | 4 => .array .int
  | 5 => .array .int
  | 6 => .int
  | 7 => .int
  | _ => .int
abbrev wsX10 : List Cond := u_ws RX1 TX1 9
theorem nmX1 : ∀ a, a < 9 → ∀ b, b < 9 → a ≠ b → (TX1 a).2.1 ≠ (TX1 b).2.1 := by decide +kernel
theorem tyX1_ok : ∀ k, k < 9 → parseFieldDescriptor (TX1 k).2.2.1 = some (tyX1 k) := by decide +kernel
abbrev cX1_init : ByteArray := prog_3_method_1_code
def yX1_init : MethodName := ⟨RX1, "<init>", "()V"⟩
abbrev cX1_becomeFirst : ByteArray := prog_3_method_2_code
def yX1_becomeFirst : MethodName := ⟨RX1, "becomeFirst", "()V"⟩
abbrev cX1_copy : ByteArray := prog_3_method_3_code
def yX1_copy : MethodName := ⟨RX1, "copy", "(LMannersGaol$Gaol;)V"⟩
abbrev cX1_add : ByteArray := prog_3_method_4_code
def yX1_add : MethodName := ⟨RX1, "add", "(III)V"⟩
abbrev cX1_has : ByteArray := prog_3_method_5_code
def yX1_has : MethodName := ⟨RX1, "has", "(I)Z"⟩
abbrev cX1_isOut : ByteArray := prog_3_method_6_code
def yX1_isOut : MethodName := ⟨RX1, "isOut", "(I)Z"⟩
abbrev cX1_isHeld : ByteArray := prog_3_method_7_code
def yX1_isHeld : MethodName := ⟨RX1, "isHeld", "(I)Z"⟩
abbrev cX1_riteAt : ByteArray := prog_3_method_8_code
def yX1_riteAt : MethodName := ⟨RX1, "riteAt", "(I)I"⟩
abbrev cX1_needs : ByteArray := prog_3_method_9_code
def yX1_needs : MethodName := ⟨RX1, "needs", "(I)I"⟩
abbrev cX1_pays : ByteArray := prog_3_method_10_code
def yX1_pays : MethodName := ⟨RX1, "pays", "(I)I"⟩
abbrev cX1_gains : ByteArray := prog_3_method_11_code
def yX1_gains : MethodName := ⟨RX1, "gains", "(I)I"⟩
abbrev cX1_passOccasions : ByteArray := prog_3_method_12_code
def yX1_passOccasions : MethodName := ⟨RX1, "passOccasions", "(I)V"⟩
abbrev cX1_takeTurn : ByteArray := prog_3_method_13_code
def yX1_takeTurn : MethodName := ⟨RX1, "takeTurn", "(I)V"⟩
abbrev cX1_passByDraws : ByteArray := prog_3_method_14_code
def yX1_passByDraws : MethodName := ⟨RX1, "passByDraws", "()V"⟩
abbrev cX1_draw : ByteArray := prog_3_method_15_code
def yX1_draw : MethodName := ⟨RX1, "draw", "()I"⟩
abbrev cX1_timeTo : ByteArray := prog_3_method_16_code
def yX1_timeTo : MethodName := ⟨RX1, "timeTo", "(III)I"⟩
abbrev cX1_rowPart : ByteArray := prog_3_method_17_code
def yX1_rowPart : MethodName := ⟨RX1, "rowPart", "(II)I"⟩
abbrev cX1_thoseIn : ByteArray := prog_3_method_18_code
def yX1_thoseIn : MethodName := ⟨RX1, "thoseIn", "(I)I"⟩
abbrev cX1_countOut : ByteArray := prog_3_method_19_code
def yX1_countOut : MethodName := ⟨RX1, "countOut", "()I"⟩
abbrev cX1_thoseHeld : ByteArray := prog_3_method_20_code
def yX1_thoseHeld : MethodName := ⟨RX1, "thoseHeld", "()I"⟩
abbrev cX1_thoseWaiting : ByteArray := prog_3_method_21_code
def yX1_thoseWaiting : MethodName := ⟨RX1, "thoseWaiting", "()I"⟩
abbrev cX1_ringFrom : ByteArray := prog_3_method_22_code
def yX1_ringFrom : MethodName := ⟨RX1, "ringFrom", "(I)I"⟩
abbrev cX1_allGrace : ByteArray := prog_3_method_23_code
def yX1_allGrace : MethodName := ⟨RX1, "allGrace", "()I"⟩
abbrev cX1_allRites : ByteArray := prog_3_method_24_code
def yX1_allRites : MethodName := ⟨RX1, "allRites", "()I"⟩
abbrev cX1_crowd : ByteArray := prog_3_method_25_code
def yX1_crowd : MethodName := ⟨RX1, "crowd", "()I"⟩
def RX2 : String := "MannersGaol$Sheet"
def TX2 : u_T := fun k => match k with
  | 0 => ("MannersGaol$Sheet", "items", "[I", true)
  | 1 => ("MannersGaol$Sheet", "sort", "I", false)
  | _ => ("MannersGaol$Sheet", "size", "I", false)
def tyX2 : Nat → FieldType := fun k => match k with
  | 0 => .array .int
  | 1 => .int
  | _ => .int
abbrev wsX20 : List Cond := u_ws RX2 TX2 3
theorem nmX2 : ∀ a, a < 3 → ∀ b, b < 3 → a ≠ b → (TX2 a).2.1 ≠ (TX2 b).2.1 := by decide +kernel
theorem tyX2_ok : ∀ k, k < 3 → parseFieldDescriptor (TX2 k).2.2.1 = some (tyX2 k) := by decide +kernel
abbrev cX2_init : ByteArray := prog_4_method_1_code
def yX2_init : MethodName := ⟨RX2, "<init>", "()V"⟩
abbrev cX2_become : ByteArray := prog_4_method_2_code
def yX2_become : MethodName := ⟨RX2, "become", "(II)V"⟩
abbrev cX2_narrowed : ByteArray := prog_4_method_3_code
def yX2_narrowed : MethodName := ⟨RX2, "narrowed", "(I)I"⟩
def RX3 : String := "MannersGaol$Shelf"
def TX3 : u_T := fun k => match k with
  | 0 => ("MannersGaol$Shelf", "holds", "I", false)
  | 1 => ("MannersGaol$Shelf", "inmate", "I", false)
  | 2 => ("MannersGaol$Shelf", "sort", "I", false)
  | _ => ("MannersGaol$Shelf", "size", "I", false)
def tyX3 : Nat → FieldType := fun k => match k with
  | 0 => .int
  | 1 => .int
  | 2 => .int
  | _ => .int
abbrev wsX30 : List Cond := u_ws RX3 TX3 4
theorem nmX3 : ∀ a, a < 4 → ∀ b, b < 4 → a ≠ b → (TX3 a).2.1 ≠ (TX3 b).2.1 := by decide +kernel
theorem tyX3_ok : ∀ k, k < 4 → parseFieldDescriptor (TX3 k).2.2.1 = some (tyX3 k) := by decide +kernel
abbrev cX3_init : ByteArray := prog_5_method_1_code
def yX3_init : MethodName := ⟨RX3, "<init>", "()V"⟩
abbrev cX3_holdInmate : ByteArray := prog_5_method_2_code
def yX3_holdInmate : MethodName := ⟨RX3, "holdInmate", "(I)V"⟩
abbrev cX3_holdRow : ByteArray := prog_5_method_3_code
def yX3_holdRow : MethodName := ⟨RX3, "holdRow", "(LMannersGaol$Sheet;)V"⟩
def RX4 : String := "MannersGaol$Text"
def TX4 : u_T := fun k => match k with
  | 0 => ("MannersGaol$Text", "bytes", "[I", true)
  | 1 => ("MannersGaol$Text", "size", "I", false)
  | 2 => ("MannersGaol$Text", "sort", "I", false)
  | 3 => ("MannersGaol$Text", "start", "I", false)
  | 4 => ("MannersGaol$Text", "stop", "I", false)
  | 5 => ("MannersGaol$Text", "value", "I", false)
  | _ => ("MannersGaol$Text", "fault", "I", false)
def tyX4 : Nat → FieldType := fun k => match k with
  | 0 => .array .int
  | 1 => .int
  | 2 => .int
  | 3 => .int
  | 4 => .int
  | 5 => .int
  | _ => .int
abbrev wsX40 : List Cond := u_ws RX4 TX4 7
theorem nmX4 : ∀ a, a < 7 → ∀ b, b < 7 → a ≠ b → (TX4 a).2.1 ≠ (TX4 b).2.1 := by decide +kernel
theorem tyX4_ok : ∀ k, k < 7 → parseFieldDescriptor (TX4 k).2.2.1 = some (tyX4 k) := by decide +kernel
abbrev cX4_init : ByteArray := prog_6_method_1_code
def yX4_init : MethodName := ⟨RX4, "<init>", "()V"⟩
abbrev cX4_add : ByteArray := prog_6_method_2_code
def yX4_add : MethodName := ⟨RX4, "add", "(I)V"⟩
abbrev cX4_read : ByteArray := prog_6_method_3_code
def yX4_read : MethodName := ⟨RX4, "read", "(LMannersGaol$Gaol;)I"⟩
abbrev cX4_tellOne : ByteArray := prog_6_method_4_code
def yX4_tellOne : MethodName := ⟨RX4, "tellOne", "(LMannersGaol$Gaol;)V"⟩
abbrev cX4_tellInmate : ByteArray := prog_6_method_5_code
def yX4_tellInmate : MethodName := ⟨RX4, "tellInmate", "(LMannersGaol$Gaol;I)V"⟩
abbrev cX4_tellLaw : ByteArray := prog_6_method_6_code
def yX4_tellLaw : MethodName := ⟨RX4, "tellLaw", "(LMannersGaol$Gaol;I)V"⟩
abbrev cX4_tellRite : ByteArray := prog_6_method_7_code
def yX4_tellRite : MethodName := ⟨RX4, "tellRite", "(LMannersGaol$Gaol;)V"⟩
abbrev cX4_tellWait : ByteArray := prog_6_method_8_code
def yX4_tellWait : MethodName := ⟨RX4, "tellWait", "(LMannersGaol$Gaol;)V"⟩
abbrev cX4_kindNamed : ByteArray := prog_6_method_9_code
def yX4_kindNamed : MethodName := ⟨RX4, "kindNamed", "()I"⟩
abbrev cX4_lawNamed : ByteArray := prog_6_method_10_code
def yX4_lawNamed : MethodName := ⟨RX4, "lawNamed", "()I"⟩
abbrev cX4_isName : ByteArray := prog_6_method_11_code
def yX4_isName : MethodName := ⟨RX4, "isName", "(Ljava/lang/String;)Z"⟩
abbrev cX4_takeName : ByteArray := prog_6_method_12_code
def yX4_takeName : MethodName := ⟨RX4, "takeName", "(Ljava/lang/String;)V"⟩
abbrev cX4_takeNumber : ByteArray := prog_6_method_13_code
def yX4_takeNumber : MethodName := ⟨RX4, "takeNumber", "(I)I"⟩
abbrev cX4_takeEnd : ByteArray := prog_6_method_14_code
def yX4_takeEnd : MethodName := ⟨RX4, "takeEnd", "()V"⟩
abbrev cX4_fail : ByteArray := prog_6_method_15_code
def yX4_fail : MethodName := ⟨RX4, "fail", "()V"⟩
abbrev cX4_step : ByteArray := prog_6_method_16_code
def yX4_step : MethodName := ⟨RX4, "step", "()V"⟩
abbrev cX4_isLetter : ByteArray := prog_6_method_17_code
def yX4_isLetter : MethodName := ⟨RX4, "isLetter", "(I)Z"⟩
abbrev cX4_isDigit : ByteArray := prog_6_method_18_code
def yX4_isDigit : MethodName := ⟨RX4, "isDigit", "(I)Z"⟩
def RX5 : String := "MannersGaol"
def TX5 : u_T := fun k => match k with
  | 0 => ("MannersGaol", "now", "LMannersGaol$Gaol;", true)
  | 1 => ("MannersGaol", "tried", "LMannersGaol$Gaol;", true)
  | 2 => ("MannersGaol", "kept", "LMannersGaol$Gaol;", true)
  | 3 => ("MannersGaol", "isKept", "Z", false)
  | 4 => ("MannersGaol", "tape", "LMannersGaol$Text;", true)
  | 5 => ("MannersGaol", "rows", "[I", true)
  | 6 => ("MannersGaol", "rowCount", "I", false)
  | 7 => ("MannersGaol", "sheets", "[LMannersGaol$Sheet;", true)
  | 8 => ("MannersGaol", "shelves", "[LMannersGaol$Shelf;", true)
  | _ => ("MannersGaol", "deed", "LMannersGaol$Deed;", true)
def tyX5 : Nat → FieldType := fun k => match k with
  | 0 => .object "MannersGaol$Gaol"
  | 1 => .object "MannersGaol$Gaol"
  | 2 => .object "MannersGaol$Gaol"
  | 3 => .boolean
  | 4 => .object "MannersGaol$Text"
  | 5 => .array .int
  | 6 => .int
  | 7 => .array (.object "MannersGaol$Sheet")
  | 8 => .array (.object "MannersGaol$Shelf")
  | _ => .object "MannersGaol$Deed"
abbrev wsX50 : List Cond := u_ws RX5 TX5 10
theorem nmX5 : ∀ a, a < 10 → ∀ b, b < 10 → a ≠ b → (TX5 a).2.1 ≠ (TX5 b).2.1 := by decide +kernel
theorem tyX5_ok : ∀ k, k < 10 → parseFieldDescriptor (TX5 k).2.2.1 = some (tyX5 k) := by decide +kernel
abbrev cX5_init : ByteArray := prog_1_method_1_code
def yX5_init : MethodName := ⟨RX5, "<init>", "()V"⟩
abbrev cX5_feed : ByteArray := prog_1_method_2_code
def yX5_feed : MethodName := ⟨RX5, "feed", "(JI)I"⟩
abbrev cX5_gaol : ByteArray := prog_1_method_3_code
def yX5_gaol : MethodName := ⟨RX5, "gaol", "()I"⟩
abbrev cX5_set : ByteArray := prog_1_method_4_code
def yX5_set : MethodName := ⟨RX5, "set", "(II)I"⟩
abbrev cX5_lawOf : ByteArray := prog_1_method_5_code
def yX5_lawOf : MethodName := ⟨RX5, "lawOf", "(I)I"⟩
abbrev cX5_inmate : ByteArray := prog_1_method_6_code
def yX5_inmate : MethodName := ⟨RX5, "inmate", "(III)I"⟩
abbrev cX5_of : ByteArray := prog_1_method_7_code
def yX5_of : MethodName := ⟨RX5, "of", "(II)I"⟩
abbrev cX5_does : ByteArray := prog_1_method_8_code
def yX5_does : MethodName := ⟨RX5, "does", "(II)I"⟩
abbrev cX5_mind : ByteArray := prog_1_method_9_code
def yX5_mind : MethodName := ⟨RX5, "mind", "(II)I"⟩
abbrev cX5_grace : ByteArray := prog_1_method_10_code
def yX5_grace : MethodName := ⟨RX5, "grace", "(II)I"⟩
abbrev cX5_bring : ByteArray := prog_1_method_11_code
def yX5_bring : MethodName := ⟨RX5, "bring", "(II)I"⟩
abbrev cX5_await : ByteArray := prog_1_method_12_code
def yX5_await : MethodName := ⟨RX5, "await", "(II)I"⟩
abbrev cX5_excuse : ByteArray := prog_1_method_13_code
def yX5_excuse : MethodName := ⟨RX5, "excuse", "(I)I"⟩
abbrev cX5_rite : ByteArray := prog_1_method_14_code
def yX5_rite : MethodName := ⟨RX5, "rite", "(II)I"⟩
abbrev cX5_room : ByteArray := prog_1_method_15_code
def yX5_room : MethodName := ⟨RX5, "room", "(II)I"⟩
abbrev cX5_occasions : ByteArray := prog_1_method_16_code
def yX5_occasions : MethodName := ⟨RX5, "occasions", "(I)I"⟩
abbrev cX5_seed : ByteArray := prog_1_method_17_code
def yX5_seed : MethodName := ⟨RX5, "seed", "(I)I"⟩
abbrev cX5_occasion : ByteArray := prog_1_method_18_code
def yX5_occasion : MethodName := ⟨RX5, "occasion", "()I"⟩
abbrev cX5_luck : ByteArray := prog_1_method_19_code
def yX5_luck : MethodName := ⟨RX5, "luck", "(I)I"⟩
abbrev cX5_state : ByteArray := prog_1_method_20_code
def yX5_state : MethodName := ⟨RX5, "state", "(I)I"⟩
abbrev cX5_where : ByteArray := prog_1_method_21_code
def yX5_where : MethodName := ⟨RX5, "where", "(II)I"⟩
abbrev cX5_leaves : ByteArray := prog_1_method_22_code
def yX5_leaves : MethodName := ⟨RX5, "leaves", "(I)I"⟩
abbrev cX5_empty : ByteArray := prog_1_method_23_code
def yX5_empty : MethodName := ⟨RX5, "empty", "()I"⟩
abbrev cX5_passes : ByteArray := prog_1_method_24_code
def yX5_passes : MethodName := ⟨RX5, "passes", "(II)I"⟩
abbrev cX5_knot : ByteArray := prog_1_method_25_code
def yX5_knot : MethodName := ⟨RX5, "knot", "(I)I"⟩
abbrev cX5_rudeFor : ByteArray := prog_1_method_26_code
def yX5_rudeFor : MethodName := ⟨RX5, "rudeFor", "(II)I"⟩
abbrev cX5_graceFor : ByteArray := prog_1_method_27_code
def yX5_graceFor : MethodName := ⟨RX5, "graceFor", "(II)I"⟩
abbrev cX5_kindFor : ByteArray := prog_1_method_28_code
def yX5_kindFor : MethodName := ⟨RX5, "kindFor", "(I)I"⟩
abbrev cX5_riteFor : ByteArray := prog_1_method_29_code
def yX5_riteFor : MethodName := ⟨RX5, "riteFor", "(I)I"⟩
abbrev cX5_hostFor : ByteArray := prog_1_method_30_code
def yX5_hostFor : MethodName := ⟨RX5, "hostFor", "(I)I"⟩
abbrev cX5_fits : ByteArray := prog_1_method_31_code
def yX5_fits : MethodName := ⟨RX5, "fits", "(III)I"⟩
abbrev cX5_odds : ByteArray := prog_1_method_32_code
def yX5_odds : MethodName := ⟨RX5, "odds", "(III)J"⟩
abbrev cX5_hope : ByteArray := prog_1_method_33_code
def yX5_hope : MethodName := ⟨RX5, "hope", "(II)J"⟩
abbrev cX5_prove : ByteArray := prog_1_method_34_code
def yX5_prove : MethodName := ⟨RX5, "prove", "(II)I"⟩
abbrev cX5_row : ByteArray := prog_1_method_35_code
def yX5_row : MethodName := ⟨RX5, "row", "(II)I"⟩
abbrev cX5_alterRow : ByteArray := prog_1_method_36_code
def yX5_alterRow : MethodName := ⟨RX5, "alterRow", "(III)I"⟩
abbrev cX5_judge : ByteArray := prog_1_method_37_code
def yX5_judge : MethodName := ⟨RX5, "judge", "(I)I"⟩
abbrev cX5_minds : ByteArray := prog_1_method_38_code
def yX5_minds : MethodName := ⟨RX5, "minds", "(IIII)I"⟩
abbrev cX5_sheet : ByteArray := prog_1_method_39_code
def yX5_sheet : MethodName := ⟨RX5, "sheet", "(III)I"⟩
abbrev cX5_put : ByteArray := prog_1_method_40_code
def yX5_put : MethodName := ⟨RX5, "put", "(III)I"⟩
abbrev cX5_item : ByteArray := prog_1_method_41_code
def yX5_item : MethodName := ⟨RX5, "item", "(III)I"⟩
abbrev cX5_shelf : ByteArray := prog_1_method_42_code
def yX5_shelf : MethodName := ⟨RX5, "shelf", "(III)I"⟩
abbrev cX5_taken : ByteArray := prog_1_method_43_code
def yX5_taken : MethodName := ⟨RX5, "taken", "(II)I"⟩
abbrev cX5_act : ByteArray := prog_1_method_44_code
def yX5_act : MethodName := ⟨RX5, "act", "(III)I"⟩
abbrev cX5_trace : ByteArray := prog_1_method_45_code
def yX5_trace : MethodName := ⟨RX5, "trace", "(I)I"⟩
abbrev cX5_many : ByteArray := prog_1_method_46_code
def yX5_many : MethodName := ⟨RX5, "many", "(I)I"⟩
abbrev cX5_keep : ByteArray := prog_1_method_47_code
def yX5_keep : MethodName := ⟨RX5, "keep", "()I"⟩
abbrev cX5_again : ByteArray := prog_1_method_48_code
def yX5_again : MethodName := ⟨RX5, "again", "()I"⟩
abbrev cX5_isWithin : ByteArray := prog_1_method_49_code
def yX5_isWithin : MethodName := ⟨RX5, "isWithin", "(II)Z"⟩
abbrev cX5_isLaw : ByteArray := prog_1_method_50_code
def yX5_isLaw : MethodName := ⟨RX5, "isLaw", "(I)Z"⟩
abbrev cX5_isKind : ByteArray := prog_1_method_51_code
def yX5_isKind : MethodName := ⟨RX5, "isKind", "(I)Z"⟩
abbrev cX5_isRoom : ByteArray := prog_1_method_52_code
def yX5_isRoom : MethodName := ⟨RX5, "isRoom", "(I)Z"⟩
abbrev cX5_isRoomOrOut : ByteArray := prog_1_method_53_code
def yX5_isRoomOrOut : MethodName := ⟨RX5, "isRoomOrOut", "(I)Z"⟩
abbrev cX5_isSheet : ByteArray := prog_1_method_54_code
def yX5_isSheet : MethodName := ⟨RX5, "isSheet", "(I)Z"⟩
abbrev cX5_isShelf : ByteArray := prog_1_method_55_code
def yX5_isShelf : MethodName := ⟨RX5, "isShelf", "(I)Z"⟩
abbrev cX5_isRowPart : ByteArray := prog_1_method_56_code
def yX5_isRowPart : MethodName := ⟨RX5, "isRowPart", "(II)Z"⟩
abbrev cX5_isUnder : ByteArray := prog_1_method_57_code
def yX5_isUnder : MethodName := ⟨RX5, "isUnder", "(II)Z"⟩
abbrev cX5_heldGrace : ByteArray := prog_1_method_58_code
def yX5_heldGrace : MethodName := ⟨RX5, "heldGrace", "(I)I"⟩
abbrev cX5_noneIfLate : ByteArray := prog_1_method_59_code
def yX5_noneIfLate : MethodName := ⟨RX5, "noneIfLate", "(I)I"⟩
abbrev cX5_timeNow : ByteArray := prog_1_method_60_code
def yX5_timeNow : MethodName := ⟨RX5, "timeNow", "(I)I"⟩
abbrev cX5_isOutIfRude : ByteArray := prog_1_method_61_code
def yX5_isOutIfRude : MethodName := ⟨RX5, "isOutIfRude", "(III)Z"⟩
abbrev cX5_isFitting : ByteArray := prog_1_method_62_code
def yX5_isFitting : MethodName := ⟨RX5, "isFitting", "(LMannersGaol$Sheet;II)Z"⟩
abbrev cX5_ways : ByteArray := prog_1_method_63_code
def yX5_ways : MethodName := ⟨RX5, "ways", "(II)J"⟩
abbrev cX5_partOf : ByteArray := prog_1_method_64_code
def yX5_partOf : MethodName := ⟨RX5, "partOf", "(JJI)J"⟩
abbrev cX5_heldBy : ByteArray := prog_1_method_65_code
def yX5_heldBy : MethodName := ⟨RX5, "heldBy", "(LMannersGaol$Shelf;)I"⟩
abbrev cX5_run : ByteArray := prog_1_method_66_code
def yX5_run : MethodName := ⟨RX5, "run", "(LMannersGaol$Deed;III)I"⟩
def RX6 : String := "MannersGaolModel"
def TX6 : u_T := fun k => match k with
  | 0 => ("MannersGaolModel", "s", "[I", true)
  | 1 => ("MannersGaolModel", "held", "[I", true)
  | 2 => ("MannersGaolModel", "aside", "[I", true)
  | 3 => ("MannersGaolModel", "before", "[I", true)
  | 4 => ("MannersGaolModel", "isHeld", "Z", false)
  | 5 => ("MannersGaolModel", "tape", "[I", true)
  | 6 => ("MannersGaolModel", "taped", "I", false)
  | 7 => ("MannersGaolModel", "token", "I", false)
  | 8 => ("MannersGaolModel", "from", "I", false)
  | 9 => ("MannersGaolModel", "to", "I", false)
  | 10 => ("MannersGaolModel", "value", "I", false)
  | 11 => ("MannersGaolModel", "isWrong", "Z", false)
  | 12 => ("MannersGaolModel", "hosts", "[I", true)
  | 13 => ("MannersGaolModel", "rows", "[I", true)
  | 14 => ("MannersGaolModel", "rowN", "I", false)
  | 15 => ("MannersGaolModel", "sortOf", "[I", true)
  | 16 => ("MannersGaolModel", "sizeOf", "[I", true)
  | 17 => ("MannersGaolModel", "numbers", "[I", true)
  | 18 => ("MannersGaolModel", "holdsWhat", "[I", true)
  | 19 => ("MannersGaolModel", "holdsWhich", "[I", true)
  | 20 => ("MannersGaolModel", "holdsMany", "[I", true)
  | 21 => ("MannersGaolModel", "bodies", "[I", true)
  | 22 => ("MannersGaolModel", "ran", "I", false)
  | 23 => ("MannersGaolModel", "actKind", "I", false)
  | 24 => ("MannersGaolModel", "actN", "I", false)
  | 25 => ("MannersGaolModel", "actA", "I", false)
  | _ => ("MannersGaolModel", "isParted", "Z", false)
def tyX6 : Nat → FieldType := fun k => match k with
  | 0 => .array .int
  | 1 => .array .int
  | 2 => .array .int
  | 3 => .array .int
  | 4 => .boolean
  | 5 => .array .int
  | 6 => .int
  | 7 => .int
  | 8 => .int
  | 9 => .int
  | 10 => .int
  | 11 => .boolean
  | 12 => .array .int
  | 13 => .array .int
  | 14 => .int
  | 15 => .array .int
  | 16 => .array .int
  | 17 => .array .int
  | 18 => .array .int
  | 19 => .array .int
  | 20 => .array .int
  | 21 => .array .int
  | 22 => .int
  | 23 => .int
  | 24 => .int
  | 25 => .int
  | _ => .boolean
abbrev wsX60 : List Cond := u_ws RX6 TX6 27
theorem nmX6 : ∀ a, a < 27 → ∀ b, b < 27 → a ≠ b → (TX6 a).2.1 ≠ (TX6 b).2.1 := by decide +kernel
theorem tyX6_ok : ∀ k, k < 27 → parseFieldDescriptor (TX6 k).2.2.1 = some (tyX6 k) := by decide +kernel
abbrev cX6_init : ByteArray := prog_8_method_1_code
def yX6_init : MethodName := ⟨RX6, "<init>", "()V"⟩
abbrev cX6_begins : ByteArray := prog_8_method_2_code
def yX6_begins : MethodName := ⟨RX6, "begins", "()V"⟩
abbrev cX6_isIn : ByteArray := prog_8_method_3_code
def yX6_isIn : MethodName := ⟨RX6, "isIn", "(JJJ)Z"⟩
abbrev cX6_isRoom : ByteArray := prog_8_method_4_code
def yX6_isRoom : MethodName := ⟨RX6, "isRoom", "(I)Z"⟩
abbrev cX6_isOne : ByteArray := prog_8_method_5_code
def yX6_isOne : MethodName := ⟨RX6, "isOne", "(I)Z"⟩
abbrev cX6_its : ByteArray := prog_8_method_6_code
def yX6_its : MethodName := ⟨RX6, "its", "(II)I"⟩
abbrev cX6_becomes : ByteArray := prog_8_method_7_code
def yX6_becomes : MethodName := ⟨RX6, "becomes", "(II)I"⟩
abbrev cX6_copyRow : ByteArray := prog_8_method_8_code
def yX6_copyRow : MethodName := ⟨RX6, "copyRow", "([I[I)V"⟩
abbrev cX6_within : ByteArray := prog_8_method_9_code
def yX6_within : MethodName := ⟨RX6, "within", "(I)I"⟩
abbrev cX6_size : ByteArray := prog_8_method_10_code
def yX6_size : MethodName := ⟨RX6, "size", "(I)I"⟩
abbrev cX6_isUnder : ByteArray := prog_8_method_11_code
def yX6_isUnder : MethodName := ⟨RX6, "isUnder", "(II)Z"⟩
abbrev cX6_feed : ByteArray := prog_8_method_12_code
def yX6_feed : MethodName := ⟨RX6, "feed", "(JI)I"⟩
abbrev cX6_isAlpha : ByteArray := prog_8_method_13_code
def yX6_isAlpha : MethodName := ⟨RX6, "isAlpha", "(I)Z"⟩
abbrev cX6_isDigit : ByteArray := prog_8_method_14_code
def yX6_isDigit : MethodName := ⟨RX6, "isDigit", "(I)Z"⟩
abbrev cX6_byteAt : ByteArray := prog_8_method_15_code
def yX6_byteAt : MethodName := ⟨RX6, "byteAt", "(I)I"⟩
abbrev cX6_nextToken : ByteArray := prog_8_method_16_code
def yX6_nextToken : MethodName := ⟨RX6, "nextToken", "()V"⟩
abbrev cX6_needs : ByteArray := prog_8_method_17_code
def yX6_needs : MethodName := ⟨RX6, "needs", "(Z)V"⟩
abbrev cX6_isName : ByteArray := prog_8_method_18_code
def yX6_isName : MethodName := ⟨RX6, "isName", "(IIIII)Z"⟩
abbrev cX6_isSame : ByteArray := prog_8_method_19_code
def yX6_isSame : MethodName := ⟨RX6, "isSame", "(IIII)Z"⟩
abbrev cX6_isFour : ByteArray := prog_8_method_20_code
def yX6_isFour : MethodName := ⟨RX6, "isFour", "(IIII)Z"⟩
abbrev cX6_isFive : ByteArray := prog_8_method_21_code
def yX6_isFive : MethodName := ⟨RX6, "isFive", "(IIIII)Z"⟩
abbrev cX6_kindHere : ByteArray := prog_8_method_22_code
def yX6_kindHere : MethodName := ⟨RX6, "kindHere", "()I"⟩
abbrev cX6_isNumber0 : ByteArray := prog_8_method_23_code
def yX6_isNumber0 : MethodName := ⟨RX6, "isNumber0", "(I)Z"⟩
abbrev cX6_numberTo : ByteArray := prog_8_method_24_code
def yX6_numberTo : MethodName := ⟨RX6, "numberTo", "(II)V"⟩
abbrev cX6_isTwo : ByteArray := prog_8_method_25_code
def yX6_isTwo : MethodName := ⟨RX6, "isTwo", "(II)Z"⟩
abbrev cX6_inmateHere : ByteArray := prog_8_method_26_code
def yX6_inmateHere : MethodName := ⟨RX6, "inmateHere", "(I)V"⟩
abbrev cX6_riteHere : ByteArray := prog_8_method_27_code
def yX6_riteHere : MethodName := ⟨RX6, "riteHere", "()V"⟩
abbrev cX6_waitHere : ByteArray := prog_8_method_28_code
def yX6_waitHere : MethodName := ⟨RX6, "waitHere", "()V"⟩
abbrev cX6_lawHere : ByteArray := prog_8_method_29_code
def yX6_lawHere : MethodName := ⟨RX6, "lawHere", "()I"⟩
abbrev cX6_itemHere : ByteArray := prog_8_method_30_code
def yX6_itemHere : MethodName := ⟨RX6, "itemHere", "()V"⟩
abbrev cX6_gaol : ByteArray := prog_8_method_31_code
def yX6_gaol : MethodName := ⟨RX6, "gaol", "()I"⟩
abbrev cX6_set : ByteArray := prog_8_method_32_code
def yX6_set : MethodName := ⟨RX6, "set", "(II)I"⟩
abbrev cX6_lawOf : ByteArray := prog_8_method_33_code
def yX6_lawOf : MethodName := ⟨RX6, "lawOf", "(I)I"⟩
abbrev cX6_comes : ByteArray := prog_8_method_34_code
def yX6_comes : MethodName := ⟨RX6, "comes", "(III)V"⟩
abbrev cX6_inmate : ByteArray := prog_8_method_35_code
def yX6_inmate : MethodName := ⟨RX6, "inmate", "(III)I"⟩
abbrev cX6_isOut : ByteArray := prog_8_method_36_code
def yX6_isOut : MethodName := ⟨RX6, "isOut", "(I)Z"⟩
abbrev cX6_isKept : ByteArray := prog_8_method_37_code
def yX6_isKept : MethodName := ⟨RX6, "isKept", "(I)Z"⟩
abbrev cX6_thoseIn : ByteArray := prog_8_method_38_code
def yX6_thoseIn : MethodName := ⟨RX6, "thoseIn", "(I)I"⟩
abbrev cX6_needsOf : ByteArray := prog_8_method_39_code
def yX6_needsOf : MethodName := ⟨RX6, "needsOf", "(I)I"⟩
abbrev cX6_paysOf : ByteArray := prog_8_method_40_code
def yX6_paysOf : MethodName := ⟨RX6, "paysOf", "(I)I"⟩
abbrev cX6_gainsOf : ByteArray := prog_8_method_41_code
def yX6_gainsOf : MethodName := ⟨RX6, "gainsOf", "(I)I"⟩
abbrev cX6_of : ByteArray := prog_8_method_42_code
def yX6_of : MethodName := ⟨RX6, "of", "(II)I"⟩
abbrev cX6_does : ByteArray := prog_8_method_43_code
def yX6_does : MethodName := ⟨RX6, "does", "(II)I"⟩
abbrev cX6_mind : ByteArray := prog_8_method_44_code
def yX6_mind : MethodName := ⟨RX6, "mind", "(II)I"⟩
abbrev cX6_grace : ByteArray := prog_8_method_45_code
def yX6_grace : MethodName := ⟨RX6, "grace", "(II)I"⟩
abbrev cX6_bring : ByteArray := prog_8_method_46_code
def yX6_bring : MethodName := ⟨RX6, "bring", "(II)I"⟩
abbrev cX6_await : ByteArray := prog_8_method_47_code
def yX6_await : MethodName := ⟨RX6, "await", "(II)I"⟩
abbrev cX6_excuse : ByteArray := prog_8_method_48_code
def yX6_excuse : MethodName := ⟨RX6, "excuse", "(I)I"⟩
abbrev cX6_rite : ByteArray := prog_8_method_49_code
def yX6_rite : MethodName := ⟨RX6, "rite", "(II)I"⟩
abbrev cX6_room : ByteArray := prog_8_method_50_code
def yX6_room : MethodName := ⟨RX6, "room", "(II)I"⟩
abbrev cX6_goesOn : ByteArray := prog_8_method_51_code
def yX6_goesOn : MethodName := ⟨RX6, "goesOn", "()V"⟩
abbrev cX6_goesOnMany : ByteArray := prog_8_method_52_code
def yX6_goesOnMany : MethodName := ⟨RX6, "goesOnMany", "(I)V"⟩
abbrev cX6_occasions : ByteArray := prog_8_method_53_code
def yX6_occasions : MethodName := ⟨RX6, "occasions", "(I)I"⟩
abbrev cX6_seed : ByteArray := prog_8_method_54_code
def yX6_seed : MethodName := ⟨RX6, "seed", "(I)I"⟩
abbrev cX6_drawn : ByteArray := prog_8_method_55_code
def yX6_drawn : MethodName := ⟨RX6, "drawn", "()I"⟩
abbrev cX6_occasion : ByteArray := prog_8_method_56_code
def yX6_occasion : MethodName := ⟨RX6, "occasion", "()I"⟩
abbrev cX6_luck : ByteArray := prog_8_method_57_code
def yX6_luck : MethodName := ⟨RX6, "luck", "(I)I"⟩
abbrev cX6_keptOnes : ByteArray := prog_8_method_58_code
def yX6_keptOnes : MethodName := ⟨RX6, "keptOnes", "()I"⟩
abbrev cX6_graceOfAll : ByteArray := prog_8_method_59_code
def yX6_graceOfAll : MethodName := ⟨RX6, "graceOfAll", "()I"⟩
abbrev cX6_crowd : ByteArray := prog_8_method_60_code
def yX6_crowd : MethodName := ⟨RX6, "crowd", "()I"⟩
abbrev cX6_ritesOfAll : ByteArray := prog_8_method_61_code
def yX6_ritesOfAll : MethodName := ⟨RX6, "ritesOfAll", "()I"⟩
abbrev cX6_state : ByteArray := prog_8_method_62_code
def yX6_state : MethodName := ⟨RX6, "state", "(I)I"⟩
abbrev cX6_where : ByteArray := prog_8_method_63_code
def yX6_where : MethodName := ⟨RX6, "where", "(II)I"⟩
abbrev cX6_passesBy : ByteArray := prog_8_method_64_code
def yX6_passesBy : MethodName := ⟨RX6, "passesBy", "(III)I"⟩
abbrev cX6_orNone : ByteArray := prog_8_method_65_code
def yX6_orNone : MethodName := ⟨RX6, "orNone", "(I)I"⟩
abbrev cX6_leaves : ByteArray := prog_8_method_66_code
def yX6_leaves : MethodName := ⟨RX6, "leaves", "(I)I"⟩
abbrev cX6_passes : ByteArray := prog_8_method_67_code
def yX6_passes : MethodName := ⟨RX6, "passes", "(II)I"⟩
abbrev cX6_empty : ByteArray := prog_8_method_68_code
def yX6_empty : MethodName := ⟨RX6, "empty", "()I"⟩
abbrev cX6_knot : ByteArray := prog_8_method_69_code
def yX6_knot : MethodName := ⟨RX6, "knot", "(I)I"⟩
abbrev cX6_isShort : ByteArray := prog_8_method_70_code
def yX6_isShort : MethodName := ⟨RX6, "isShort", "(I)Z"⟩
abbrev cX6_rudeFor : ByteArray := prog_8_method_71_code
def yX6_rudeFor : MethodName := ⟨RX6, "rudeFor", "(II)I"⟩
abbrev cX6_graceFor : ByteArray := prog_8_method_72_code
def yX6_graceFor : MethodName := ⟨RX6, "graceFor", "(II)I"⟩
abbrev cX6_kindFor : ByteArray := prog_8_method_73_code
def yX6_kindFor : MethodName := ⟨RX6, "kindFor", "(I)I"⟩
abbrev cX6_riteFor : ByteArray := prog_8_method_74_code
def yX6_riteFor : MethodName := ⟨RX6, "riteFor", "(I)I"⟩
abbrev cX6_hostFor : ByteArray := prog_8_method_75_code
def yX6_hostFor : MethodName := ⟨RX6, "hostFor", "(I)I"⟩
abbrev cX6_product : ByteArray := prog_8_method_76_code
def yX6_product : MethodName := ⟨RX6, "product", "(I)J"⟩
abbrev cX6_partOf : ByteArray := prog_8_method_77_code
def yX6_partOf : MethodName := ⟨RX6, "partOf", "(JJI)J"⟩
abbrev cX6_isTold : ByteArray := prog_8_method_78_code
def yX6_isTold : MethodName := ⟨RX6, "isTold", "(II)Z"⟩
abbrev cX6_fits : ByteArray := prog_8_method_79_code
def yX6_fits : MethodName := ⟨RX6, "fits", "(III)I"⟩
abbrev cX6_odds : ByteArray := prog_8_method_80_code
def yX6_odds : MethodName := ⟨RX6, "odds", "(III)J"⟩
abbrev cX6_hope : ByteArray := prog_8_method_81_code
def yX6_hope : MethodName := ⟨RX6, "hope", "(II)J"⟩
abbrev cX6_prove : ByteArray := prog_8_method_82_code
def yX6_prove : MethodName := ⟨RX6, "prove", "(II)I"⟩
abbrev cX6_isRow : ByteArray := prog_8_method_83_code
def yX6_isRow : MethodName := ⟨RX6, "isRow", "(II)Z"⟩
abbrev cX6_row : ByteArray := prog_8_method_84_code
def yX6_row : MethodName := ⟨RX6, "row", "(II)I"⟩
abbrev cX6_alterRow : ByteArray := prog_8_method_85_code
def yX6_alterRow : MethodName := ⟨RX6, "alterRow", "(III)I"⟩
abbrev cX6_judge : ByteArray := prog_8_method_86_code
def yX6_judge : MethodName := ⟨RX6, "judge", "(I)I"⟩
abbrev cX6_isSheet : ByteArray := prog_8_method_87_code
def yX6_isSheet : MethodName := ⟨RX6, "isSheet", "(I)Z"⟩
abbrev cX6_isShelf : ByteArray := prog_8_method_88_code
def yX6_isShelf : MethodName := ⟨RX6, "isShelf", "(I)Z"⟩
abbrev cX6_sheet : ByteArray := prog_8_method_89_code
def yX6_sheet : MethodName := ⟨RX6, "sheet", "(III)I"⟩
abbrev cX6_put : ByteArray := prog_8_method_90_code
def yX6_put : MethodName := ⟨RX6, "put", "(III)I"⟩
abbrev cX6_lacks : ByteArray := prog_8_method_91_code
def yX6_lacks : MethodName := ⟨RX6, "lacks", "(II)I"⟩
abbrev cX6_item : ByteArray := prog_8_method_92_code
def yX6_item : MethodName := ⟨RX6, "item", "(III)I"⟩
abbrev cX6_minds : ByteArray := prog_8_method_93_code
def yX6_minds : MethodName := ⟨RX6, "minds", "(IIII)I"⟩
abbrev cX6_shelf : ByteArray := prog_8_method_94_code
def yX6_shelf : MethodName := ⟨RX6, "shelf", "(III)I"⟩
abbrev cX6_heldOn : ByteArray := prog_8_method_95_code
def yX6_heldOn : MethodName := ⟨RX6, "heldOn", "(I)I"⟩
abbrev cX6_taken : ByteArray := prog_8_method_96_code
def yX6_taken : MethodName := ⟨RX6, "taken", "(II)I"⟩
abbrev cX6_runs : ByteArray := prog_8_method_97_code
def yX6_runs : MethodName := ⟨RX6, "runs", "(I)V"⟩
abbrev cX6_bowsPlain : ByteArray := prog_8_method_98_code
def yX6_bowsPlain : MethodName := ⟨RX6, "bowsPlain", "(I)I"⟩
abbrev cX6_bowsOfDuellist : ByteArray := prog_8_method_99_code
def yX6_bowsOfDuellist : MethodName := ⟨RX6, "bowsOfDuellist", "(I)I"⟩
abbrev cX6_bows : ByteArray := prog_8_method_100_code
def yX6_bows : MethodName := ⟨RX6, "bows", "(I)I"⟩
abbrev cX6_thanksPlain : ByteArray := prog_8_method_101_code
def yX6_thanksPlain : MethodName := ⟨RX6, "thanksPlain", "(I)I"⟩
abbrev cX6_thanks : ByteArray := prog_8_method_102_code
def yX6_thanks : MethodName := ⟨RX6, "thanks", "(I)I"⟩
abbrev cX6_partsPlain : ByteArray := prog_8_method_103_code
def yX6_partsPlain : MethodName := ⟨RX6, "partsPlain", "(I)I"⟩
abbrev cX6_parts : ByteArray := prog_8_method_104_code
def yX6_parts : MethodName := ⟨RX6, "parts", "(I)I"⟩
abbrev cX6_leavesPlain : ByteArray := prog_8_method_105_code
def yX6_leavesPlain : MethodName := ⟨RX6, "leavesPlain", "(I)I"⟩
abbrev cX6_leavesBy : ByteArray := prog_8_method_106_code
def yX6_leavesBy : MethodName := ⟨RX6, "leavesBy", "(I)I"⟩
abbrev cX6_act : ByteArray := prog_8_method_107_code
def yX6_act : MethodName := ⟨RX6, "act", "(III)I"⟩
abbrev cX6_trace : ByteArray := prog_8_method_108_code
def yX6_trace : MethodName := ⟨RX6, "trace", "(I)I"⟩
abbrev cX6_many : ByteArray := prog_8_method_109_code
def yX6_many : MethodName := ⟨RX6, "many", "(I)I"⟩
abbrev cX6_keep : ByteArray := prog_8_method_110_code
def yX6_keep : MethodName := ⟨RX6, "keep", "()I"⟩
abbrev cX6_again : ByteArray := prog_8_method_111_code
def yX6_again : MethodName := ⟨RX6, "again", "()I"⟩
def RJ6 : String := "java/lang/Integer"
abbrev cJ6_bitCount_0f7a4 : ByteArray := prog_9_method_49_code
def yJ6_bitCount_0f7a4 : MethodName := ⟨RJ6, "bitCount", "(I)I"⟩
def RJ9 : String := "java/lang/Math"
abbrev cJ9_max_7cf53 : ByteArray := prog_10_method_65_code
def yJ9_max_7cf53 : MethodName := ⟨RJ9, "max", "(II)I"⟩
abbrev cJ9_min_7cf53 : ByteArray := prog_10_method_69_code
def yJ9_min_7cf53 : MethodName := ⟨RJ9, "min", "(II)I"⟩
def RJ0 : String := "java/lang/String"
abbrev cJ0_length_8abf5 : ByteArray := prog_11_method_54_code
def yJ0_length_8abf5 : MethodName := ⟨RJ0, "length", "()I"⟩
abbrev cJ0_charAt_5068e : ByteArray := prog_11_method_56_code
def yJ0_charAt_5068e : MethodName := ⟨RJ0, "charAt", "(I)C"⟩
abbrev cJ0_coder_7d493 : ByteArray := prog_11_method_152_code
def yJ0_coder_7d493 : MethodName := ⟨RJ0, "coder", "()B"⟩
abbrev cJ0_isLatin1_aae02 : ByteArray := prog_11_method_154_code
def yJ0_isLatin1_aae02 : MethodName := ⟨RJ0, "isLatin1", "()Z"⟩
abbrev cJ0_checkIndex_df160 : ByteArray := prog_11_method_155_code
def yJ0_checkIndex_df160 : MethodName := ⟨RJ0, "checkIndex", "(II)V"⟩
def RJ1 : String := "java/lang/StringLatin1"
abbrev cJ1_charAt_3b067 : ByteArray := prog_12_method_2_code
def yJ1_charAt_3b067 : MethodName := ⟨RJ1, "charAt", "([BI)C"⟩
def RJ2 : String := "java/lang/StringUTF16"
abbrev cJ2_getChar_3b067 : ByteArray := prog_13_method_5_code
def yJ2_getChar_3b067 : MethodName := ⟨RJ2, "getChar", "([BI)C"⟩
abbrev cJ2_length_9d52b : ByteArray := prog_13_method_6_code
def yJ2_length_9d52b : MethodName := ⟨RJ2, "length", "([B)I"⟩
abbrev cJ2_charAt_3b067 : ByteArray := prog_13_method_83_code
def yJ2_charAt_3b067 : MethodName := ⟨RJ2, "charAt", "([BI)C"⟩
abbrev cJ2_checkIndex_2214a : ByteArray := prog_13_method_91_code
def yJ2_checkIndex_2214a : MethodName := ⟨RJ2, "checkIndex", "(I[B)V"⟩
def RJ10 : String := "java/lang/System"
def RJ3 : String := "jdk/internal/util/Preconditions"
abbrev cJ3_checkIndex_8e157 : ByteArray := prog_15_method_11_code
def yJ3_checkIndex_8e157 : MethodName := ⟨RJ3, "checkIndex", "(IILjava/util/function/BiFunction;)I"⟩
def RL : String := "MannersGaolLaw"
abbrev cL_law : ByteArray := code
def yL_law : MethodName := ⟨RL, "law", "([I)Z"⟩
